theorem dX2_open_0 : decode cX2_open 0 = .ok (.aload_n 0, 1) := by decide +kernel
theorem dX2_open_1 : decode cX2_open 1 = .ok (.getfield 105, 3) := by decide +kernel
theorem dX2_open_10 : decode cX2_open 10 = .ok (.getfield 9, 3) := by decide +kernel
theorem dX2_open_13 : decode cX2_open 13 = .ok (.iconst 3, 1) := by decide +kernel
theorem dX2_open_14 : decode cX2_open 14 = .ok (.invokevirtual 43, 3) := by decide +kernel
theorem dX2_open_17 : decode cX2_open 17 = .ok (.iconst 0, 1) := by decide +kernel
theorem dX2_open_18 : decode cX2_open 18 = .ok (.ireturn, 1) := by decide +kernel
theorem dX2_open_19 : decode cX2_open 19 = .ok (.aload_n 0, 1) := by decide +kernel
theorem dX2_open_20 : decode cX2_open 20 = .ok (.dup, 1) := by decide +kernel
theorem dX2_open_21 : decode cX2_open 21 = .ok (.getfield 105, 3) := by decide +kernel
theorem dX2_open_24 : decode cX2_open 24 = .ok (.iconst 1, 1) := by decide +kernel
theorem dX2_open_25 : decode cX2_open 25 = .ok (.iadd, 1) := by decide +kernel
theorem dX2_open_26 : decode cX2_open 26 = .ok (.putfield 105, 3) := by decide +kernel
theorem dX2_open_29 : decode cX2_open 29 = .ok (.iconst 1, 1) := by decide +kernel
theorem dX2_open_30 : decode cX2_open 30 = .ok (.ireturn, 1) := by decide +kernel
theorem dX2_open_4 : decode cX2_open 4 = .ok (.bipush 6, 2) := by decide +kernel
theorem dX2_open_6 : decode cX2_open 6 = .ok (.if_icmp .lt 13, 3) := by decide +kernel
theorem dX2_open_9 : decode cX2_open 9 = .ok (.aload_n 0, 1) := by decide +kernel
theorem dX2_readAlternative_0 : decode cX2_readAlternative 0 = .ok (.aload_n 0, 1) := by decide +kernel
theorem dX2_readAlternative_1 : decode cX2_readAlternative 1 = .ok (.invokevirtual 127, 3) := by decide +kernel
theorem dX2_readAlternative_10 : decode cX2_readAlternative 10 = .ok (.if_icmp .ge 37, 3) := by decide +kernel
theorem dX2_readAlternative_13 : decode cX2_readAlternative 13 = .ok (.aload_n 0, 1) := by decide +kernel
theorem dX2_readAlternative_14 : decode cX2_readAlternative 14 = .ok (.getfield 9, 3) := by decide +kernel
theorem dX2_readAlternative_17 : decode cX2_readAlternative 17 = .ok (.getstatic 130, 3) := by decide +kernel
theorem dX2_readAlternative_20 : decode cX2_readAlternative 20 = .ok (.invokevirtual 54, 3) := by decide +kernel
theorem dX2_readAlternative_23 : decode cX2_readAlternative 23 = .ok (.ifCond .eq 24, 3) := by decide +kernel
theorem dX2_readAlternative_26 : decode cX2_readAlternative 26 = .ok (.aload_n 0, 1) := by decide +kernel
theorem dX2_readAlternative_27 : decode cX2_readAlternative 27 = .ok (.invokevirtual 127, 3) := by decide +kernel
theorem dX2_readAlternative_30 : decode cX2_readAlternative 30 = .ok (.aload_n 0, 1) := by decide +kernel
theorem dX2_readAlternative_31 : decode cX2_readAlternative 31 = .ok (.getfield 15, 3) := by decide +kernel
theorem dX2_readAlternative_34 : decode cX2_readAlternative 34 = .ok (.bipush 9, 2) := by decide +kernel
theorem dX2_readAlternative_36 : decode cX2_readAlternative 36 = .ok (.iconst 0, 1) := by decide +kernel
theorem dX2_readAlternative_37 : decode cX2_readAlternative 37 = .ok (.invokevirtual 65, 3) := by decide +kernel
theorem dX2_readAlternative_4 : decode cX2_readAlternative 4 = .ok (.iconst 0, 1) := by decide +kernel
theorem dX2_readAlternative_40 : decode cX2_readAlternative 40 = .ok (.pop, 1) := by decide +kernel
theorem dX2_readAlternative_41 : decode cX2_readAlternative 41 = .ok (.iinc 1 1, 3) := by decide +kernel
theorem dX2_readAlternative_44 : decode cX2_readAlternative 44 = .ok (.goto (-38), 3) := by decide +kernel
theorem dX2_readAlternative_47 : decode cX2_readAlternative 47 = .ok (.return_, 1) := by decide +kernel
theorem dX2_readAlternative_5 : decode cX2_readAlternative 5 = .ok (.istore_n 1, 1) := by decide +kernel
theorem dX2_readAlternative_6 : decode cX2_readAlternative 6 = .ok (.iload_n 1, 1) := by decide +kernel
theorem dX2_readAlternative_7 : decode cX2_readAlternative 7 = .ok (.sipush 600, 3) := by decide +kernel
theorem dX2_readChoice_0 : decode cX2_readChoice 0 = .ok (.aload_n 0, 1) := by decide +kernel
theorem dX2_readChoice_1 : decode cX2_readChoice 1 = .ok (.invokevirtual 86, 3) := by decide +kernel
theorem dX2_readChoice_12 : decode cX2_readChoice 12 = .ok (.getstatic 69, 3) := by decide +kernel
theorem dX2_readChoice_15 : decode cX2_readChoice 15 = .ok (.invokevirtual 89, 3) := by decide +kernel
theorem dX2_readChoice_18 : decode cX2_readChoice 18 = .ok (.aload_n 0, 1) := by decide +kernel
theorem dX2_readChoice_19 : decode cX2_readChoice 19 = .ok (.invokevirtual 93, 3) := by decide +kernel
theorem dX2_readChoice_22 : decode cX2_readChoice 22 = .ok (.aload_n 0, 1) := by decide +kernel
theorem dX2_readChoice_23 : decode cX2_readChoice 23 = .ok (.getfield 9, 3) := by decide +kernel
theorem dX2_readChoice_26 : decode cX2_readChoice 26 = .ok (.getstatic 96, 3) := by decide +kernel
theorem dX2_readChoice_29 : decode cX2_readChoice 29 = .ok (.invokevirtual 89, 3) := by decide +kernel
theorem dX2_readChoice_32 : decode cX2_readChoice 32 = .ok (.aload_n 0, 1) := by decide +kernel
theorem dX2_readChoice_33 : decode cX2_readChoice 33 = .ok (.getfield 15, 3) := by decide +kernel
theorem dX2_readChoice_36 : decode cX2_readChoice 36 = .ok (.bipush 12, 2) := by decide +kernel
theorem dX2_readChoice_38 : decode cX2_readChoice 38 = .ok (.iconst 0, 1) := by decide +kernel
theorem dX2_readChoice_39 : decode cX2_readChoice 39 = .ok (.invokevirtual 65, 3) := by decide +kernel
theorem dX2_readChoice_4 : decode cX2_readChoice 4 = .ok (.ifCond .ne 4, 3) := by decide +kernel
theorem dX2_readChoice_42 : decode cX2_readChoice 42 = .ok (.istore_n 1, 1) := by decide +kernel
theorem dX2_readChoice_43 : decode cX2_readChoice 43 = .ok (.aload_n 0, 1) := by decide +kernel
theorem dX2_readChoice_44 : decode cX2_readChoice 44 = .ok (.invokevirtual 62, 3) := by decide +kernel
theorem dX2_readChoice_47 : decode cX2_readChoice 47 = .ok (.aload_n 0, 1) := by decide +kernel
theorem dX2_readChoice_48 : decode cX2_readChoice 48 = .ok (.getfield 9, 3) := by decide +kernel
theorem dX2_readChoice_51 : decode cX2_readChoice 51 = .ok (.getstatic 99, 3) := by decide +kernel
theorem dX2_readChoice_54 : decode cX2_readChoice 54 = .ok (.invokevirtual 89, 3) := by decide +kernel
theorem dX2_readChoice_57 : decode cX2_readChoice 57 = .ok (.aload_n 0, 1) := by decide +kernel
theorem dX2_readChoice_58 : decode cX2_readChoice 58 = .ok (.getfield 15, 3) := by decide +kernel
theorem dX2_readChoice_61 : decode cX2_readChoice 61 = .ok (.bipush 11, 2) := by decide +kernel
theorem dX2_readChoice_63 : decode cX2_readChoice 63 = .ok (.iconst 0, 1) := by decide +kernel
theorem dX2_readChoice_64 : decode cX2_readChoice 64 = .ok (.invokevirtual 65, 3) := by decide +kernel
theorem dX2_readChoice_67 : decode cX2_readChoice 67 = .ok (.istore_n 2, 1) := by decide +kernel
theorem dX2_readChoice_68 : decode cX2_readChoice 68 = .ok (.aload_n 0, 1) := by decide +kernel
theorem dX2_readChoice_69 : decode cX2_readChoice 69 = .ok (.getfield 15, 3) := by decide +kernel
theorem dX2_readChoice_7 : decode cX2_readChoice 7 = .ok (.return_, 1) := by decide +kernel
theorem dX2_readChoice_72 : decode cX2_readChoice 72 = .ok (.iload_n 1, 1) := by decide +kernel
theorem dX2_readChoice_73 : decode cX2_readChoice 73 = .ok (.invokevirtual 102, 3) := by decide +kernel
theorem dX2_readChoice_76 : decode cX2_readChoice 76 = .ok (.aload_n 0, 1) := by decide +kernel
theorem dX2_readChoice_77 : decode cX2_readChoice 77 = .ok (.invokevirtual 62, 3) := by decide +kernel
theorem dX2_readChoice_8 : decode cX2_readChoice 8 = .ok (.aload_n 0, 1) := by decide +kernel
theorem dX2_readChoice_80 : decode cX2_readChoice 80 = .ok (.aload_n 0, 1) := by decide +kernel
theorem dX2_readChoice_81 : decode cX2_readChoice 81 = .ok (.getfield 15, 3) := by decide +kernel
theorem dX2_readChoice_84 : decode cX2_readChoice 84 = .ok (.iload_n 2, 1) := by decide +kernel
theorem dX2_readChoice_85 : decode cX2_readChoice 85 = .ok (.invokevirtual 102, 3) := by decide +kernel
theorem dX2_readChoice_88 : decode cX2_readChoice 88 = .ok (.aload_n 0, 1) := by decide +kernel
theorem dX2_readChoice_89 : decode cX2_readChoice 89 = .ok (.dup, 1) := by decide +kernel
theorem dX2_readChoice_9 : decode cX2_readChoice 9 = .ok (.getfield 9, 3) := by decide +kernel
theorem dX2_readChoice_90 : decode cX2_readChoice 90 = .ok (.getfield 105, 3) := by decide +kernel
theorem dX2_readChoice_93 : decode cX2_readChoice 93 = .ok (.iconst 1, 1) := by decide +kernel
theorem dX2_readChoice_94 : decode cX2_readChoice 94 = .ok (.isub, 1) := by decide +kernel
theorem dX2_readChoice_95 : decode cX2_readChoice 95 = .ok (.putfield 105, 3) := by decide +kernel
theorem dX2_readChoice_98 : decode cX2_readChoice 98 = .ok (.return_, 1) := by decide +kernel
theorem dX2_readComparison_0 : decode cX2_readComparison 0 = .ok (.aload_n 0, 1) := by decide +kernel
theorem dX2_readComparison_1 : decode cX2_readComparison 1 = .ok (.invokevirtual 62, 3) := by decide +kernel
theorem dX2_readComparison_11 : decode cX2_readComparison 11 = .ok (.bipush 60, 2) := by decide +kernel
theorem dX2_readComparison_13 : decode cX2_readComparison 13 = .ok (.invokevirtual 82, 3) := by decide +kernel
theorem dX2_readComparison_16 : decode cX2_readComparison 16 = .ok (.ifCond .eq 9, 3) := by decide +kernel
theorem dX2_readComparison_19 : decode cX2_readComparison 19 = .ok (.bipush 6, 2) := by decide +kernel
theorem dX2_readComparison_21 : decode cX2_readComparison 21 = .ok (.istore_n 1, 1) := by decide +kernel
theorem dX2_readComparison_22 : decode cX2_readComparison 22 = .ok (.goto 30, 3) := by decide +kernel
theorem dX2_readComparison_25 : decode cX2_readComparison 25 = .ok (.aload_n 0, 1) := by decide +kernel
theorem dX2_readComparison_26 : decode cX2_readComparison 26 = .ok (.getfield 9, 3) := by decide +kernel
theorem dX2_readComparison_29 : decode cX2_readComparison 29 = .ok (.bipush 62, 2) := by decide +kernel
theorem dX2_readComparison_31 : decode cX2_readComparison 31 = .ok (.invokevirtual 82, 3) := by decide +kernel
theorem dX2_readComparison_34 : decode cX2_readComparison 34 = .ok (.ifCond .eq 9, 3) := by decide +kernel
theorem dX2_readComparison_37 : decode cX2_readComparison 37 = .ok (.bipush 7, 2) := by decide +kernel
theorem dX2_readComparison_39 : decode cX2_readComparison 39 = .ok (.istore_n 1, 1) := by decide +kernel
theorem dX2_readComparison_4 : decode cX2_readComparison 4 = .ok (.bipush 8, 2) := by decide +kernel
theorem dX2_readComparison_40 : decode cX2_readComparison 40 = .ok (.goto 12, 3) := by decide +kernel
theorem dX2_readComparison_43 : decode cX2_readComparison 43 = .ok (.aload_n 0, 1) := by decide +kernel
theorem dX2_readComparison_44 : decode cX2_readComparison 44 = .ok (.getfield 9, 3) := by decide +kernel
theorem dX2_readComparison_47 : decode cX2_readComparison 47 = .ok (.bipush 61, 2) := by decide +kernel
theorem dX2_readComparison_49 : decode cX2_readComparison 49 = .ok (.invokevirtual 58, 3) := by decide +kernel
theorem dX2_readComparison_52 : decode cX2_readComparison 52 = .ok (.aload_n 0, 1) := by decide +kernel
theorem dX2_readComparison_53 : decode cX2_readComparison 53 = .ok (.invokevirtual 62, 3) := by decide +kernel
theorem dX2_readComparison_56 : decode cX2_readComparison 56 = .ok (.aload_n 0, 1) := by decide +kernel
theorem dX2_readComparison_57 : decode cX2_readComparison 57 = .ok (.getfield 15, 3) := by decide +kernel
theorem dX2_readComparison_6 : decode cX2_readComparison 6 = .ok (.istore_n 1, 1) := by decide +kernel
theorem dX2_readComparison_60 : decode cX2_readComparison 60 = .ok (.iload_n 1, 1) := by decide +kernel
theorem dX2_readComparison_61 : decode cX2_readComparison 61 = .ok (.iconst 0, 1) := by decide +kernel
theorem dX2_readComparison_62 : decode cX2_readComparison 62 = .ok (.invokevirtual 65, 3) := by decide +kernel
theorem dX2_readComparison_65 : decode cX2_readComparison 65 = .ok (.pop, 1) := by decide +kernel
theorem dX2_readComparison_66 : decode cX2_readComparison 66 = .ok (.return_, 1) := by decide +kernel
theorem dX2_readComparison_7 : decode cX2_readComparison 7 = .ok (.aload_n 0, 1) := by decide +kernel
theorem dX2_readComparison_8 : decode cX2_readComparison 8 = .ok (.getfield 9, 3) := by decide +kernel
theorem dX2_readCondition_0 : decode cX2_readCondition 0 = .ok (.aload_n 0, 1) := by decide +kernel
theorem dX2_readCondition_1 : decode cX2_readCondition 1 = .ok (.invokevirtual 121, 3) := by decide +kernel
theorem dX2_readCondition_10 : decode cX2_readCondition 10 = .ok (.if_icmp .ge 37, 3) := by decide +kernel
theorem dX2_readCondition_13 : decode cX2_readCondition 13 = .ok (.aload_n 0, 1) := by decide +kernel
theorem dX2_readCondition_14 : decode cX2_readCondition 14 = .ok (.getfield 9, 3) := by decide +kernel
theorem dX2_readCondition_17 : decode cX2_readCondition 17 = .ok (.getstatic 124, 3) := by decide +kernel
theorem dX2_readCondition_20 : decode cX2_readCondition 20 = .ok (.invokevirtual 54, 3) := by decide +kernel
theorem dX2_readCondition_23 : decode cX2_readCondition 23 = .ok (.ifCond .eq 24, 3) := by decide +kernel
theorem dX2_readCondition_26 : decode cX2_readCondition 26 = .ok (.aload_n 0, 1) := by decide +kernel
theorem dX2_readCondition_27 : decode cX2_readCondition 27 = .ok (.invokevirtual 121, 3) := by decide +kernel
theorem dX2_readCondition_30 : decode cX2_readCondition 30 = .ok (.aload_n 0, 1) := by decide +kernel
theorem dX2_readCondition_31 : decode cX2_readCondition 31 = .ok (.getfield 15, 3) := by decide +kernel
theorem dX2_readCondition_34 : decode cX2_readCondition 34 = .ok (.bipush 10, 2) := by decide +kernel
theorem dX2_readCondition_36 : decode cX2_readCondition 36 = .ok (.iconst 0, 1) := by decide +kernel
theorem dX2_readCondition_37 : decode cX2_readCondition 37 = .ok (.invokevirtual 65, 3) := by decide +kernel
theorem dX2_readCondition_4 : decode cX2_readCondition 4 = .ok (.iconst 0, 1) := by decide +kernel
theorem dX2_readCondition_40 : decode cX2_readCondition 40 = .ok (.pop, 1) := by decide +kernel
theorem dX2_readCondition_41 : decode cX2_readCondition 41 = .ok (.iinc 1 1, 3) := by decide +kernel
theorem dX2_readCondition_44 : decode cX2_readCondition 44 = .ok (.goto (-38), 3) := by decide +kernel
theorem dX2_readCondition_47 : decode cX2_readCondition 47 = .ok (.return_, 1) := by decide +kernel
theorem dX2_readCondition_5 : decode cX2_readCondition 5 = .ok (.istore_n 1, 1) := by decide +kernel
theorem dX2_readCondition_6 : decode cX2_readCondition 6 = .ok (.iload_n 1, 1) := by decide +kernel
theorem dX2_readCondition_7 : decode cX2_readCondition 7 = .ok (.sipush 600, 3) := by decide +kernel
theorem dX2_readProduct_0 : decode cX2_readProduct 0 = .ok (.aload_n 0, 1) := by decide +kernel
theorem dX2_readProduct_1 : decode cX2_readProduct 1 = .ok (.invokevirtual 108, 3) := by decide +kernel
theorem dX2_readProduct_10 : decode cX2_readProduct 10 = .ok (.if_icmp .ge 78, 3) := by decide +kernel
theorem dX2_readProduct_13 : decode cX2_readProduct 13 = .ok (.aload_n 0, 1) := by decide +kernel
theorem dX2_readProduct_14 : decode cX2_readProduct 14 = .ok (.getfield 9, 3) := by decide +kernel
theorem dX2_readProduct_17 : decode cX2_readProduct 17 = .ok (.invokevirtual 79, 3) := by decide +kernel
theorem dX2_readProduct_20 : decode cX2_readProduct 20 = .ok (.ifCond .eq 68, 3) := by decide +kernel
theorem dX2_readProduct_23 : decode cX2_readProduct 23 = .ok (.aload_n 0, 1) := by decide +kernel
theorem dX2_readProduct_24 : decode cX2_readProduct 24 = .ok (.getfield 9, 3) := by decide +kernel
theorem dX2_readProduct_27 : decode cX2_readProduct 27 = .ok (.bipush 42, 2) := by decide +kernel
theorem dX2_readProduct_29 : decode cX2_readProduct 29 = .ok (.invokevirtual 82, 3) := by decide +kernel
theorem dX2_readProduct_32 : decode cX2_readProduct 32 = .ok (.ifCond .eq 20, 3) := by decide +kernel
theorem dX2_readProduct_35 : decode cX2_readProduct 35 = .ok (.aload_n 0, 1) := by decide +kernel
theorem dX2_readProduct_36 : decode cX2_readProduct 36 = .ok (.invokevirtual 108, 3) := by decide +kernel
theorem dX2_readProduct_39 : decode cX2_readProduct 39 = .ok (.aload_n 0, 1) := by decide +kernel
theorem dX2_readProduct_4 : decode cX2_readProduct 4 = .ok (.iconst 0, 1) := by decide +kernel
theorem dX2_readProduct_40 : decode cX2_readProduct 40 = .ok (.getfield 15, 3) := by decide +kernel
theorem dX2_readProduct_43 : decode cX2_readProduct 43 = .ok (.iconst 4, 1) := by decide +kernel
theorem dX2_readProduct_44 : decode cX2_readProduct 44 = .ok (.iconst 0, 1) := by decide +kernel
theorem dX2_readProduct_45 : decode cX2_readProduct 45 = .ok (.invokevirtual 65, 3) := by decide +kernel
theorem dX2_readProduct_48 : decode cX2_readProduct 48 = .ok (.pop, 1) := by decide +kernel
theorem dX2_readProduct_49 : decode cX2_readProduct 49 = .ok (.goto 33, 3) := by decide +kernel
theorem dX2_readProduct_5 : decode cX2_readProduct 5 = .ok (.istore_n 1, 1) := by decide +kernel
theorem dX2_readProduct_52 : decode cX2_readProduct 52 = .ok (.aload_n 0, 1) := by decide +kernel
theorem dX2_readProduct_53 : decode cX2_readProduct 53 = .ok (.getfield 9, 3) := by decide +kernel
theorem dX2_readProduct_56 : decode cX2_readProduct 56 = .ok (.bipush 47, 2) := by decide +kernel
theorem dX2_readProduct_58 : decode cX2_readProduct 58 = .ok (.invokevirtual 82, 3) := by decide +kernel
theorem dX2_readProduct_6 : decode cX2_readProduct 6 = .ok (.iload_n 1, 1) := by decide +kernel
theorem dX2_readProduct_61 : decode cX2_readProduct 61 = .ok (.ifCond .eq 20, 3) := by decide +kernel
theorem dX2_readProduct_64 : decode cX2_readProduct 64 = .ok (.aload_n 0, 1) := by decide +kernel
theorem dX2_readProduct_65 : decode cX2_readProduct 65 = .ok (.invokevirtual 108, 3) := by decide +kernel
theorem dX2_readProduct_68 : decode cX2_readProduct 68 = .ok (.aload_n 0, 1) := by decide +kernel
theorem dX2_readProduct_69 : decode cX2_readProduct 69 = .ok (.getfield 15, 3) := by decide +kernel
theorem dX2_readProduct_7 : decode cX2_readProduct 7 = .ok (.sipush 600, 3) := by decide +kernel
theorem dX2_readProduct_72 : decode cX2_readProduct 72 = .ok (.iconst 5, 1) := by decide +kernel
theorem dX2_readProduct_73 : decode cX2_readProduct 73 = .ok (.iconst 0, 1) := by decide +kernel
theorem dX2_readProduct_74 : decode cX2_readProduct 74 = .ok (.invokevirtual 65, 3) := by decide +kernel
theorem dX2_readProduct_77 : decode cX2_readProduct 77 = .ok (.pop, 1) := by decide +kernel
theorem dX2_readProduct_78 : decode cX2_readProduct 78 = .ok (.goto 4, 3) := by decide +kernel
theorem dX2_readProduct_81 : decode cX2_readProduct 81 = .ok (.return_, 1) := by decide +kernel
theorem dX2_readProduct_82 : decode cX2_readProduct 82 = .ok (.iinc 1 1, 3) := by decide +kernel
theorem dX2_readProduct_85 : decode cX2_readProduct 85 = .ok (.goto (-79), 3) := by decide +kernel
theorem dX2_readProduct_88 : decode cX2_readProduct 88 = .ok (.return_, 1) := by decide +kernel
theorem dX2_readTest_0 : decode cX2_readTest 0 = .ok (.aload_n 0, 1) := by decide +kernel
theorem dX2_readTest_1 : decode cX2_readTest 1 = .ok (.getfield 9, 3) := by decide +kernel
theorem dX2_readTest_10 : decode cX2_readTest 10 = .ok (.if_acmp .ne 58, 3) := by decide +kernel
theorem dX2_readTest_100 : decode cX2_readTest 100 = .ok (.aload_n 0, 1) := by decide +kernel
theorem dX2_readTest_101 : decode cX2_readTest 101 = .ok (.getfield 9, 3) := by decide +kernel
theorem dX2_readTest_104 : decode cX2_readTest 104 = .ok (.bipush 93, 2) := by decide +kernel
theorem dX2_readTest_106 : decode cX2_readTest 106 = .ok (.invokevirtual 58, 3) := by decide +kernel
theorem dX2_readTest_109 : decode cX2_readTest 109 = .ok (.aload_n 0, 1) := by decide +kernel
theorem dX2_readTest_110 : decode cX2_readTest 110 = .ok (.dup, 1) := by decide +kernel
theorem dX2_readTest_111 : decode cX2_readTest 111 = .ok (.getfield 105, 3) := by decide +kernel
theorem dX2_readTest_114 : decode cX2_readTest 114 = .ok (.iconst 1, 1) := by decide +kernel
theorem dX2_readTest_115 : decode cX2_readTest 115 = .ok (.isub, 1) := by decide +kernel
theorem dX2_readTest_116 : decode cX2_readTest 116 = .ok (.putfield 105, 3) := by decide +kernel
theorem dX2_readTest_119 : decode cX2_readTest 119 = .ok (.goto 7, 3) := by decide +kernel
theorem dX2_readTest_122 : decode cX2_readTest 122 = .ok (.aload_n 0, 1) := by decide +kernel
theorem dX2_readTest_123 : decode cX2_readTest 123 = .ok (.invokevirtual 136, 3) := by decide +kernel
theorem dX2_readTest_126 : decode cX2_readTest 126 = .ok (.return_, 1) := by decide +kernel
theorem dX2_readTest_13 : decode cX2_readTest 13 = .ok (.aload_n 0, 1) := by decide +kernel
theorem dX2_readTest_14 : decode cX2_readTest 14 = .ok (.invokevirtual 86, 3) := by decide +kernel
theorem dX2_readTest_17 : decode cX2_readTest 17 = .ok (.ifCond .eq 109, 3) := by decide +kernel
theorem dX2_readTest_20 : decode cX2_readTest 20 = .ok (.aload_n 0, 1) := by decide +kernel
theorem dX2_readTest_21 : decode cX2_readTest 21 = .ok (.getfield 9, 3) := by decide +kernel
theorem dX2_readTest_24 : decode cX2_readTest 24 = .ok (.getstatic 133, 3) := by decide +kernel
theorem dX2_readTest_27 : decode cX2_readTest 27 = .ok (.invokevirtual 89, 3) := by decide +kernel
theorem dX2_readTest_30 : decode cX2_readTest 30 = .ok (.aload_n 0, 1) := by decide +kernel
theorem dX2_readTest_31 : decode cX2_readTest 31 = .ok (.invokevirtual 127, 3) := by decide +kernel
theorem dX2_readTest_34 : decode cX2_readTest 34 = .ok (.aload_n 0, 1) := by decide +kernel
theorem dX2_readTest_35 : decode cX2_readTest 35 = .ok (.getfield 15, 3) := by decide +kernel
theorem dX2_readTest_38 : decode cX2_readTest 38 = .ok (.iconst 0, 1) := by decide +kernel
theorem dX2_readTest_39 : decode cX2_readTest 39 = .ok (.iconst 0, 1) := by decide +kernel
theorem dX2_readTest_4 : decode cX2_readTest 4 = .ok (.invokevirtual 33, 3) := by decide +kernel
theorem dX2_readTest_40 : decode cX2_readTest 40 = .ok (.invokevirtual 65, 3) := by decide +kernel
theorem dX2_readTest_43 : decode cX2_readTest 43 = .ok (.pop, 1) := by decide +kernel
theorem dX2_readTest_44 : decode cX2_readTest 44 = .ok (.aload_n 0, 1) := by decide +kernel
theorem dX2_readTest_45 : decode cX2_readTest 45 = .ok (.getfield 15, 3) := by decide +kernel
theorem dX2_readTest_48 : decode cX2_readTest 48 = .ok (.bipush 8, 2) := by decide +kernel
theorem dX2_readTest_50 : decode cX2_readTest 50 = .ok (.iconst 0, 1) := by decide +kernel
theorem dX2_readTest_51 : decode cX2_readTest 51 = .ok (.invokevirtual 65, 3) := by decide +kernel
theorem dX2_readTest_54 : decode cX2_readTest 54 = .ok (.pop, 1) := by decide +kernel
theorem dX2_readTest_55 : decode cX2_readTest 55 = .ok (.aload_n 0, 1) := by decide +kernel
theorem dX2_readTest_56 : decode cX2_readTest 56 = .ok (.dup, 1) := by decide +kernel
theorem dX2_readTest_57 : decode cX2_readTest 57 = .ok (.getfield 105, 3) := by decide +kernel
theorem dX2_readTest_60 : decode cX2_readTest 60 = .ok (.iconst 1, 1) := by decide +kernel
theorem dX2_readTest_61 : decode cX2_readTest 61 = .ok (.isub, 1) := by decide +kernel
theorem dX2_readTest_62 : decode cX2_readTest 62 = .ok (.putfield 105, 3) := by decide +kernel
theorem dX2_readTest_65 : decode cX2_readTest 65 = .ok (.goto 61, 3) := by decide +kernel
theorem dX2_readTest_68 : decode cX2_readTest 68 = .ok (.aload_n 0, 1) := by decide +kernel
theorem dX2_readTest_69 : decode cX2_readTest 69 = .ok (.getfield 9, 3) := by decide +kernel
theorem dX2_readTest_7 : decode cX2_readTest 7 = .ok (.getstatic 133, 3) := by decide +kernel
theorem dX2_readTest_72 : decode cX2_readTest 72 = .ok (.invokevirtual 114, 3) := by decide +kernel
theorem dX2_readTest_75 : decode cX2_readTest 75 = .ok (.bipush 91, 2) := by decide +kernel
theorem dX2_readTest_77 : decode cX2_readTest 77 = .ok (.if_icmp .ne 45, 3) := by decide +kernel
theorem dX2_readTest_80 : decode cX2_readTest 80 = .ok (.aload_n 0, 1) := by decide +kernel
theorem dX2_readTest_81 : decode cX2_readTest 81 = .ok (.invokevirtual 86, 3) := by decide +kernel
theorem dX2_readTest_84 : decode cX2_readTest 84 = .ok (.ifCond .eq 42, 3) := by decide +kernel
theorem dX2_readTest_87 : decode cX2_readTest 87 = .ok (.aload_n 0, 1) := by decide +kernel
theorem dX2_readTest_88 : decode cX2_readTest 88 = .ok (.getfield 9, 3) := by decide +kernel
theorem dX2_readTest_91 : decode cX2_readTest 91 = .ok (.bipush 91, 2) := by decide +kernel
theorem dX2_readTest_93 : decode cX2_readTest 93 = .ok (.invokevirtual 58, 3) := by decide +kernel
theorem dX2_readTest_96 : decode cX2_readTest 96 = .ok (.aload_n 0, 1) := by decide +kernel
theorem dX2_readTest_97 : decode cX2_readTest 97 = .ok (.invokevirtual 93, 3) := by decide +kernel
theorem dX2_readUnit_0 : decode cX2_readUnit 0 = .ok (.aload_n 0, 1) := by decide +kernel
theorem dX2_readUnit_1 : decode cX2_readUnit 1 = .ok (.getfield 9, 3) := by decide +kernel
theorem dX2_readUnit_100 : decode cX2_readUnit 100 = .ok (.aload_n 0, 1) := by decide +kernel
theorem dX2_readUnit_101 : decode cX2_readUnit 101 = .ok (.getfield 9, 3) := by decide +kernel
theorem dX2_readUnit_104 : decode cX2_readUnit 104 = .ok (.iconst 0, 1) := by decide +kernel
theorem dX2_readUnit_105 : decode cX2_readUnit 105 = .ok (.sipush 9999, 3) := by decide +kernel
theorem dX2_readUnit_108 : decode cX2_readUnit 108 = .ok (.invokevirtual 118, 3) := by decide +kernel
theorem dX2_readUnit_111 : decode cX2_readUnit 111 = .ok (.invokevirtual 65, 3) := by decide +kernel
theorem dX2_readUnit_114 : decode cX2_readUnit 114 = .ok (.pop, 1) := by decide +kernel
theorem dX2_readUnit_115 : decode cX2_readUnit 115 = .ok (.return_, 1) := by decide +kernel
theorem dX2_readUnit_12 : decode cX2_readUnit 12 = .ok (.iconst (-1), 1) := by decide +kernel
theorem dX2_readUnit_13 : decode cX2_readUnit 13 = .ok (.if_icmp .eq 28, 3) := by decide +kernel
theorem dX2_readUnit_16 : decode cX2_readUnit 16 = .ok (.aload_n 0, 1) := by decide +kernel
theorem dX2_readUnit_17 : decode cX2_readUnit 17 = .ok (.getfield 9, 3) := by decide +kernel
theorem dX2_readUnit_20 : decode cX2_readUnit 20 = .ok (.aload_n 1, 1) := by decide +kernel
theorem dX2_readUnit_21 : decode cX2_readUnit 21 = .ok (.invokevirtual 54, 3) := by decide +kernel
theorem dX2_readUnit_24 : decode cX2_readUnit 24 = .ok (.pop, 1) := by decide +kernel
theorem dX2_readUnit_25 : decode cX2_readUnit 25 = .ok (.aload_n 0, 1) := by decide +kernel
theorem dX2_readUnit_26 : decode cX2_readUnit 26 = .ok (.getfield 15, 3) := by decide +kernel
theorem dX2_readUnit_29 : decode cX2_readUnit 29 = .ok (.iconst 1, 1) := by decide +kernel
theorem dX2_readUnit_30 : decode cX2_readUnit 30 = .ok (.aload_n 1, 1) := by decide +kernel
theorem dX2_readUnit_31 : decode cX2_readUnit 31 = .ok (.getfield 111, 3) := by decide +kernel
theorem dX2_readUnit_34 : decode cX2_readUnit 34 = .ok (.invokevirtual 65, 3) := by decide +kernel
theorem dX2_readUnit_37 : decode cX2_readUnit 37 = .ok (.pop, 1) := by decide +kernel
theorem dX2_readUnit_38 : decode cX2_readUnit 38 = .ok (.goto 77, 3) := by decide +kernel
theorem dX2_readUnit_4 : decode cX2_readUnit 4 = .ok (.invokevirtual 33, 3) := by decide +kernel
theorem dX2_readUnit_41 : decode cX2_readUnit 41 = .ok (.aload_n 0, 1) := by decide +kernel
theorem dX2_readUnit_42 : decode cX2_readUnit 42 = .ok (.getfield 9, 3) := by decide +kernel
theorem dX2_readUnit_45 : decode cX2_readUnit 45 = .ok (.invokevirtual 114, 3) := by decide +kernel
theorem dX2_readUnit_48 : decode cX2_readUnit 48 = .ok (.bipush 40, 2) := by decide +kernel
theorem dX2_readUnit_50 : decode cX2_readUnit 50 = .ok (.if_icmp .ne 45, 3) := by decide +kernel
theorem dX2_readUnit_53 : decode cX2_readUnit 53 = .ok (.aload_n 0, 1) := by decide +kernel
theorem dX2_readUnit_54 : decode cX2_readUnit 54 = .ok (.invokevirtual 86, 3) := by decide +kernel
theorem dX2_readUnit_57 : decode cX2_readUnit 57 = .ok (.ifCond .eq 58, 3) := by decide +kernel
theorem dX2_readUnit_60 : decode cX2_readUnit 60 = .ok (.aload_n 0, 1) := by decide +kernel
theorem dX2_readUnit_61 : decode cX2_readUnit 61 = .ok (.getfield 9, 3) := by decide +kernel
theorem dX2_readUnit_64 : decode cX2_readUnit 64 = .ok (.bipush 40, 2) := by decide +kernel
theorem dX2_readUnit_66 : decode cX2_readUnit 66 = .ok (.invokevirtual 58, 3) := by decide +kernel
theorem dX2_readUnit_69 : decode cX2_readUnit 69 = .ok (.aload_n 0, 1) := by decide +kernel
theorem dX2_readUnit_7 : decode cX2_readUnit 7 = .ok (.astore_n 1, 1) := by decide +kernel
theorem dX2_readUnit_70 : decode cX2_readUnit 70 = .ok (.invokevirtual 62, 3) := by decide +kernel
theorem dX2_readUnit_73 : decode cX2_readUnit 73 = .ok (.aload_n 0, 1) := by decide +kernel
theorem dX2_readUnit_74 : decode cX2_readUnit 74 = .ok (.getfield 9, 3) := by decide +kernel
theorem dX2_readUnit_77 : decode cX2_readUnit 77 = .ok (.bipush 41, 2) := by decide +kernel
theorem dX2_readUnit_79 : decode cX2_readUnit 79 = .ok (.invokevirtual 58, 3) := by decide +kernel
theorem dX2_readUnit_8 : decode cX2_readUnit 8 = .ok (.aload_n 1, 1) := by decide +kernel
theorem dX2_readUnit_82 : decode cX2_readUnit 82 = .ok (.aload_n 0, 1) := by decide +kernel
theorem dX2_readUnit_83 : decode cX2_readUnit 83 = .ok (.dup, 1) := by decide +kernel
theorem dX2_readUnit_84 : decode cX2_readUnit 84 = .ok (.getfield 105, 3) := by decide +kernel
theorem dX2_readUnit_87 : decode cX2_readUnit 87 = .ok (.iconst 1, 1) := by decide +kernel
theorem dX2_readUnit_88 : decode cX2_readUnit 88 = .ok (.isub, 1) := by decide +kernel
theorem dX2_readUnit_89 : decode cX2_readUnit 89 = .ok (.putfield 105, 3) := by decide +kernel
theorem dX2_readUnit_9 : decode cX2_readUnit 9 = .ok (.getfield 111, 3) := by decide +kernel
theorem dX2_readUnit_92 : decode cX2_readUnit 92 = .ok (.goto 23, 3) := by decide +kernel
theorem dX2_readUnit_95 : decode cX2_readUnit 95 = .ok (.aload_n 0, 1) := by decide +kernel
theorem dX2_readUnit_96 : decode cX2_readUnit 96 = .ok (.getfield 15, 3) := by decide +kernel
theorem dX2_readUnit_99 : decode cX2_readUnit 99 = .ok (.iconst 0, 1) := by decide +kernel
theorem dX2_readValue_0 : decode cX2_readValue 0 = .ok (.aload_n 0, 1) := by decide +kernel
theorem dX2_readValue_1 : decode cX2_readValue 1 = .ok (.getfield 9, 3) := by decide +kernel
theorem dX2_readValue_10 : decode cX2_readValue 10 = .ok (.if_acmp .ne 8, 3) := by decide +kernel
theorem dX2_readValue_100 : decode cX2_readValue 100 = .ok (.iinc 1 1, 3) := by decide +kernel
theorem dX2_readValue_103 : decode cX2_readValue 103 = .ok (.goto (-79), 3) := by decide +kernel
theorem dX2_readValue_106 : decode cX2_readValue 106 = .ok (.return_, 1) := by decide +kernel
theorem dX2_readValue_13 : decode cX2_readValue 13 = .ok (.aload_n 0, 1) := by decide +kernel
theorem dX2_readValue_14 : decode cX2_readValue 14 = .ok (.invokevirtual 73, 3) := by decide +kernel
theorem dX2_readValue_17 : decode cX2_readValue 17 = .ok (.return_, 1) := by decide +kernel
theorem dX2_readValue_18 : decode cX2_readValue 18 = .ok (.aload_n 0, 1) := by decide +kernel
theorem dX2_readValue_19 : decode cX2_readValue 19 = .ok (.invokevirtual 76, 3) := by decide +kernel
theorem dX2_readValue_22 : decode cX2_readValue 22 = .ok (.iconst 0, 1) := by decide +kernel
theorem dX2_readValue_23 : decode cX2_readValue 23 = .ok (.istore_n 1, 1) := by decide +kernel
theorem dX2_readValue_24 : decode cX2_readValue 24 = .ok (.iload_n 1, 1) := by decide +kernel
theorem dX2_readValue_25 : decode cX2_readValue 25 = .ok (.sipush 600, 3) := by decide +kernel
theorem dX2_readValue_28 : decode cX2_readValue 28 = .ok (.if_icmp .ge 78, 3) := by decide +kernel
theorem dX2_readValue_31 : decode cX2_readValue 31 = .ok (.aload_n 0, 1) := by decide +kernel
theorem dX2_readValue_32 : decode cX2_readValue 32 = .ok (.getfield 9, 3) := by decide +kernel
theorem dX2_readValue_35 : decode cX2_readValue 35 = .ok (.invokevirtual 79, 3) := by decide +kernel
theorem dX2_readValue_38 : decode cX2_readValue 38 = .ok (.ifCond .eq 68, 3) := by decide +kernel
theorem dX2_readValue_4 : decode cX2_readValue 4 = .ok (.invokevirtual 33, 3) := by decide +kernel
theorem dX2_readValue_41 : decode cX2_readValue 41 = .ok (.aload_n 0, 1) := by decide +kernel
theorem dX2_readValue_42 : decode cX2_readValue 42 = .ok (.getfield 9, 3) := by decide +kernel
theorem dX2_readValue_45 : decode cX2_readValue 45 = .ok (.bipush 43, 2) := by decide +kernel
theorem dX2_readValue_47 : decode cX2_readValue 47 = .ok (.invokevirtual 82, 3) := by decide +kernel
theorem dX2_readValue_50 : decode cX2_readValue 50 = .ok (.ifCond .eq 20, 3) := by decide +kernel
theorem dX2_readValue_53 : decode cX2_readValue 53 = .ok (.aload_n 0, 1) := by decide +kernel
theorem dX2_readValue_54 : decode cX2_readValue 54 = .ok (.invokevirtual 76, 3) := by decide +kernel
theorem dX2_readValue_57 : decode cX2_readValue 57 = .ok (.aload_n 0, 1) := by decide +kernel
theorem dX2_readValue_58 : decode cX2_readValue 58 = .ok (.getfield 15, 3) := by decide +kernel
theorem dX2_readValue_61 : decode cX2_readValue 61 = .ok (.iconst 2, 1) := by decide +kernel
theorem dX2_readValue_62 : decode cX2_readValue 62 = .ok (.iconst 0, 1) := by decide +kernel
theorem dX2_readValue_63 : decode cX2_readValue 63 = .ok (.invokevirtual 65, 3) := by decide +kernel
theorem dX2_readValue_66 : decode cX2_readValue 66 = .ok (.pop, 1) := by decide +kernel
theorem dX2_readValue_67 : decode cX2_readValue 67 = .ok (.goto 33, 3) := by decide +kernel
theorem dX2_readValue_7 : decode cX2_readValue 7 = .ok (.getstatic 69, 3) := by decide +kernel
theorem dX2_readValue_70 : decode cX2_readValue 70 = .ok (.aload_n 0, 1) := by decide +kernel
theorem dX2_readValue_71 : decode cX2_readValue 71 = .ok (.getfield 9, 3) := by decide +kernel
theorem dX2_readValue_74 : decode cX2_readValue 74 = .ok (.bipush 45, 2) := by decide +kernel
theorem dX2_readValue_76 : decode cX2_readValue 76 = .ok (.invokevirtual 82, 3) := by decide +kernel
theorem dX2_readValue_79 : decode cX2_readValue 79 = .ok (.ifCond .eq 20, 3) := by decide +kernel
theorem dX2_readValue_82 : decode cX2_readValue 82 = .ok (.aload_n 0, 1) := by decide +kernel
theorem dX2_readValue_83 : decode cX2_readValue 83 = .ok (.invokevirtual 76, 3) := by decide +kernel
theorem dX2_readValue_86 : decode cX2_readValue 86 = .ok (.aload_n 0, 1) := by decide +kernel
theorem dX2_readValue_87 : decode cX2_readValue 87 = .ok (.getfield 15, 3) := by decide +kernel
theorem dX2_readValue_90 : decode cX2_readValue 90 = .ok (.iconst 3, 1) := by decide +kernel
theorem dX2_readValue_91 : decode cX2_readValue 91 = .ok (.iconst 0, 1) := by decide +kernel
theorem dX2_readValue_92 : decode cX2_readValue 92 = .ok (.invokevirtual 65, 3) := by decide +kernel
theorem dX2_readValue_95 : decode cX2_readValue 95 = .ok (.pop, 1) := by decide +kernel
theorem dX2_readValue_96 : decode cX2_readValue 96 = .ok (.goto 4, 3) := by decide +kernel
theorem dX2_readValue_99 : decode cX2_readValue 99 = .ok (.return_, 1) := by decide +kernel
def vs_w_open : List Cond := .code yX2_open cX2_open 1 (some .boolean) :: (([.fieldLink RX2 105 "KerbSplash$LawReader" "opened" "I", .fieldLink RX2 9 "KerbSplash$LawReader" "tape" "LKerbSplash$Tape;", .initialized RX8, .instanceMethod yX8_refuse, .selects RX8 yX8_refuse yX8_refuse] : List Cond) ++ ((wsX20) ++ ((vs_s_refuse) ++ ([]))))
theorem gd_w_open : vs_w_open.all goodWord = true := gd_C (by decide +kernel) (gd_A (by decide +kernel) (gd_A (by decide +kernel) (gd_A gd_s_refuse rfl)))
set_option maxHeartbeats 4000000 in
set_option maxRecDepth 100000 in
theorem w_open (l : Launch) (hl : l.stackTraces = false) (D : va_G) (cy : Nat → ClassId) (sa : Nat → Nat) (lr la : Nat) (ta tb : Nat) (fed len at_ we fa fp : Int) (op : Int) (sz : Nat) (hr_fed : 0 ≤ fed ∧ fed ≤ 600) (hr_len : 0 ≤ len ∧ len ≤ 600) (hr_at_ : 0 ≤ at_ ∧ at_ ≤ 600) (hr_we : 0 ≤ we ∧ we ≤ 600) (hr_fa : 0 ≤ fa ∧ fa ≤ 4) (hr_fp : (-1) ≤ fp ∧ fp ≤ 600) (hr_op : 0 ≤ op ∧ op ≤ 6) : mI9 l yX2_open vs_w_open ({ frames := 1, cells := 0, slots := 0, locals := 21 }) D cy sa sz [vR lr] [zO lr 2 [vR ta, vR la, vI op], zO ta 8 [vR tb, vI fed, vI len, vI at_, vI we, vI fa, vI fp]] (fun (r : Int32) (u : SV) => r = iI (u.2.1 0) ∧ (0 ≤ u.2.1 0 ∧ u.2.1 0 ≤ 1) ∧ (0 ≤ u.2.1 1 ∧ u.2.1 1 ≤ 6) ∧ (0 ≤ u.2.1 2 ∧ u.2.1 2 ≤ 4) ∧ ((-1) ≤ u.2.1 3 ∧ u.2.1 3 ≤ 600) ∧ (u.2.1 0 = 1 → u.2.1 1 = op + 1) ∧ (u.2.1 0 = 0 → u.2.1 1 = op)) (fun u : SV => [zO lr 2 [vR ta, vR la, vI (u.2.1 1)], zO ta 8 [vR tb, vI fed, vI len, vI at_, vI we, vI (u.2.1 2), vI (u.2.1 3)]]) 0 0 := by
  refine Met.ofW (cc := cX2_open) (maxL := 1) (ret := (some .boolean)) (by decide) rfl ?_
  intro p e s m args below meth c s₁ B hml hv
  obtain ⟨rfl, hsz, hP, hG, hD0, hT⟩ := hv
  have hx := B.exec
  have hb := B.bytes
  have hr := B.returns
  have hts := atoms_spec (ws := vs_w_open) B.pre
  have hown : s.vm.findClass RX2 = some m.cls := findClass_of_methodNamed B.named
  have hlocks := B.notSynchronized
  subst hsz
  have hD := hD0.self (sz := s.heap.size)
  generalize hAe : va_A [zO lr 2 [vR ta, vR la, vI op], zO ta 8 [vR tb, vI fed, vI len, vI at_, vI we, vI fa, vI fp]] s.heap.size = A at hD hT ⊢
  have hA : ∀ q : Nat, s.heap.size ≤ q → A q := fun q h => by rw [← hAe]; exact Or.inr h
  have hS : va_S A s.heap s.heap [] := va_S.rf
  have hl0 := lv_entry ([vR lr]) (n := 1) (Nat.le_of_ble_eq_true rfl)
  rw [lg_entry_eq]
  generalize (lg_sl ([vR lr]) ++ List.replicate (1 - (lg_sl ([vR lr])).length) Slot.unset).toArray = ls at hl0 ⊢
  have hlv : lv_has ls 1 [(0, vR lr)] := hl0
  have lf105 := hts (.fieldLink RX2 105 "KerbSplash$LawReader" "opened" "I") (List.mem_of_getElem? (i := 1) rfl)
  have hi2 : ∀ w ∈ wsX20, w ∈ vs_w_open := fun w h => List.mem_cons_of_mem _ (List.mem_append_right _ (List.mem_append_left _ h))
  have lf9 := hts (.fieldLink RX2 9 "KerbSplash$LawReader" "tape" "LKerbSplash$Tape;") (List.mem_of_getElem? (i := 2) rfl)
  have gg_1 : GoodIn vs_w_open (vs_s_refuse) := goodIn_sub (fun w h => List.mem_cons_of_mem _ (List.mem_append_right _ (List.mem_append_right _ (List.mem_append_left _ h)))) gd_s_refuse
  have ini_RX8 := hts (.initialized RX8) (List.mem_of_getElem? (i := 3) rfl)
  have im_X8_refuse := hts (.instanceMethod yX8_refuse) (List.mem_of_getElem? (i := 4) rfl)
  have se_X8_refuse := hts (.selects RX8 yX8_refuse yX8_refuse) (List.mem_of_getElem? (i := 5) rfl)
  refine lv_aload_n hx hb dX2_open_0 rfl (lv_at hlv 0 rfl) ?_
  refine va_get (D := D) (ci := 2) (v := vI op) (C := RX2) (T := TX2) (N := 3) hx hb hts hi2 hown hG.1 hP 0 rfl rfl 2 (by decide) lf105 (fun _ h9 => h9) rfl dX2_open_1 ?_
  refine lv_bipush (v := iI 6) hx hb dX2_open_4 (by decide) ?_
  refine ir_lt (tgt := 19) hx hb dX2_open_6 (by decide) (by first | exact rgw hr_op (by decide) (by decide) | omega) (by show ((-2147483648) : Int) ≤ 6 ∧ (6 : Int) ≤ 2147483647; decide) (fun c_1 => ?_) (fun c_1 => ?_)
  · refine lv_aload_n hx hb dX2_open_19 rfl (lv_at hlv 0 rfl) ?_
    refine lv_dup hx hb dX2_open_20 rfl ?_
    refine va_get (D := D) (ci := 2) (v := vI op) (C := RX2) (T := TX2) (N := 3) hx hb hts hi2 hown hG.1 hP 0 rfl rfl 2 (by decide) lf105 (fun _ h9 => h9) rfl dX2_open_21 ?_
    refine lv_iconst (v := iI 1) hx hb dX2_open_24 (by decide) ?_
    refine lv_iadd hx hb dX2_open_25 ?_
    refine lt_e (e0 := op + 1) (Int32.ofInt_add _ _).symm (fun z_2 hz_2 => ?_)
    refine va_put (D := D) (ci := 2) (v := vI z_2) (ty := .int) (C := RX2) (T := TX2) (N := 3) hx hb hts hi2 tyX2 tyX2_ok nmX2 hown hG.1 hP hD hS 0 rfl rfl 2 (by decide) lf105 (fun _ h9 => h9) rfl (by decide +kernel) rfl rfl (Nat.le_of_ble_eq_true rfl) dX2_open_26 (fun H locs hP hD hS => ?_)
    obtain ⟨hP, hD⟩ := pw9 [zO lr 2 [vR ta, vR la, vI z_2], zO ta 8 [vR tb, vI fed, vI len, vI at_, vI we, vI fa, vI fp]] hP hD
    refine lv_iconst (v := iI 1) hx hb dX2_open_29 (by decide) ?_
    refine W.widen (k := 0) (n := 0) (Nat.le_of_ble_eq_true rfl) (Nat.le_of_ble_eq_true rfl) ?_
    exact W.zret (v := iI 1) hx hb hr (by first | rfl | decide) (fun t ht hW => ⟨⟨iI 1, ((fun k => ([] : List Nat).getD k 0), (fun k => ([1, z_2, fa, fp] : List Int).getD k 0), (fun k => ([] : List (Nat → Int32)).getD k (fun _ => 0))), rfl, ⟨rfl, (by show (0 ≤ 1 ∧ 1 ≤ 1); show (0 : Int) ≤ 1 ∧ (1 : Int) ≤ 1; decide), (by show (0 ≤ z_2 ∧ z_2 ≤ 6); omega), (by show (0 ≤ fa ∧ fa ≤ 4); first | exact hr_fa | omega), (by show ((-1) ≤ fp ∧ fp ≤ 600); first | exact hr_fp | omega), (by show (1 = 1 → z_2 = op + 1); omega), (by show (1 = 0 → z_2 = op); omega)⟩, at9 ht hP hD [0, 1] (by decide +kernel) rfl⟩, hS.F ht⟩) hS.2.2 dX2_open_30
  · refine lv_aload_n hx hb dX2_open_9 rfl (lv_at hlv 0 rfl) ?_
    refine va_get (D := D) (ci := 2) (v := vR ta) (C := RX2) (T := TX2) (N := 3) hx hb hts hi2 hown hG.1 hP 0 rfl rfl 0 (by decide) lf9 (fun _ h9 => h9) rfl dX2_open_10 ?_
    refine lv_iconst (v := iI 3) hx hb dX2_open_13 (by decide) ?_
    refine cjr_v [true, false] (fun pre9 => (va_runVN (host := "KerbSplash") (As := [vI 3]) (rest := []) ⟨hx, hb, hml, hown, hts⟩ (s_refuse l hl D cy sa ta tb fed len at_ we fa fp 3 s.heap.size (by first | exact hr_fed | omega) (by first | exact hr_len | omega) (by first | exact hr_at_ | omega) (by first | exact hr_we | omega) (by first | exact hr_fa | omega) (by first | exact hr_fp | omega) (by show (1 : Int) ≤ 3 ∧ (3 : Int) ≤ 4; decide)) ⟨va_cnB 1 hts gg_1 rfl rfl rfl (nM_LawReader_43 hG.2.1) ini_RX8 (by decide +kernel) ⟨Nat.le_of_ble_eq_true rfl, Nat.le_of_ble_eq_true rfl⟩, im_X8_refuse, se_X8_refuse⟩ ⟨pcW.blind, (va_recv hG.1 hP (ci := 8) (q0 := 1) rfl rfl), pre9⟩ rfl rfl hlv.1 rfl (lv_room (Nat.le_of_ble_eq_true rfl)) dX2_open_14 ⟨Nat.le_of_ble_eq_true rfl, Nat.le_of_ble_eq_true rfl⟩)) hP hD hS hA hG hT [1] rfl (by decide +kernel) (fun u1 H locs hw1 hq9 hS => ?_)
    obtain ⟨hq1_0, hq1_1⟩ := hw1
    obtain ⟨hP, hD⟩ := pd9 [zO lr 2 [vR ta, vR la, vI op], zO ta 8 [vR tb, vI fed, vI len, vI at_, vI we, vI (u1.2.1 0), vI (u1.2.1 1)]] hq9
    refine lv_iconst (v := iI 0) hx hb dX2_open_17 (by decide) ?_
    refine W.widen (k := 0) (n := 0) (Nat.le_of_ble_eq_true rfl) (Nat.le_of_ble_eq_true rfl) ?_
    exact W.zret (v := iI 0) hx hb hr (by first | rfl | decide) (fun t ht hW => ⟨⟨iI 0, ((fun k => ([] : List Nat).getD k 0), (fun k => ([0, op, (u1.2.1 0), (u1.2.1 1)] : List Int).getD k 0), (fun k => ([] : List (Nat → Int32)).getD k (fun _ => 0))), rfl, ⟨rfl, (by show (0 ≤ 0 ∧ 0 ≤ 1); show (0 : Int) ≤ 0 ∧ (0 : Int) ≤ 1; decide), (by show (0 ≤ op ∧ op ≤ 6); first | exact hr_op | omega), (by show (0 ≤ (u1.2.1 0) ∧ (u1.2.1 0) ≤ 4); first | exact rgw hq1_0 (by decide) (by decide) | omega), (by show ((-1) ≤ (u1.2.1 1) ∧ (u1.2.1 1) ≤ 600); first | exact hq1_1 | omega), (by show (0 = 1 → op = op + 1); omega), (by show (0 = 0 → op = op); omega)⟩, at9 ht hP hD [0, 1] (by decide +kernel) rfl⟩, hS.F ht⟩) hS.2.2 dX2_open_18
def LRC : List Cond := ([.fieldLink RX2 9 "KerbSplash$LawReader" "tape" "LKerbSplash$Tape;", .initialized RX8, .instanceMethod yX8_word, .selects RX8 yX8_word yX8_word, .instanceMethod yX8_sign, .selects RX8 yX8_sign yX8_sign, .fieldLink RX2 15 "KerbSplash$LawReader" "law" "LKerbSplash$Law;", .instanceMethod yX8_number, .selects RX8 yX8_number yX8_number, .initialized RX1, .instanceMethod yX1_add, .selects RX1 yX1_add yX1_add, .instanceMethod yX8_want, .selects RX8 yX8_want yX8_want, .methodLink RX2 62 yX2_readValue, .instanceMethod yX2_readValue, .selects RX2 yX2_readValue yX2_readValue, .initialized RX2, .code yX2_readValue cX2_readValue 2 none, .fieldLink RX2 105 "KerbSplash$LawReader" "opened" "I", .instanceMethod yX8_takeWord, .selects RX8 yX8_takeWord yX8_takeWord, .methodLink RX2 108 yX2_readUnit, .instanceMethod yX2_readUnit, .selects RX2 yX2_readUnit yX2_readUnit, .code yX2_readUnit cX2_readUnit 2 none, .instanceMethod yX8_good, .selects RX8 yX8_good yX8_good, .instanceMethod yX8_take, .selects RX8 yX8_take yX8_take, .fieldLink RX2 69 "KerbSplash$Word" "IF" "LKerbSplash$Word;", .instanceMethod yX8_wantWord, .selects RX8 yX8_wantWord yX8_wantWord, .methodLink RX2 93 yX2_readCondition, .instanceMethod yX2_readCondition, .selects RX2 yX2_readCondition yX2_readCondition, .code yX2_readCondition cX2_readCondition 2 none, .fieldLink RX2 96 "KerbSplash$Word" "THEN" "LKerbSplash$Word;", .fieldLink RX2 99 "KerbSplash$Word" "ELSE" "LKerbSplash$Word;", .instanceMethod yX1_aim, .selects RX1 yX1_aim yX1_aim, .methodLink RX2 76 yX2_readProduct, .instanceMethod yX2_readProduct, .selects RX2 yX2_readProduct yX2_readProduct, .code yX2_readProduct cX2_readProduct 2 none, .methodLink RX2 73 yX2_readChoice, .instanceMethod yX2_readChoice, .selects RX2 yX2_readChoice yX2_readChoice, .code yX2_readChoice cX2_readChoice 3 none, .fieldLink RX2 133 "KerbSplash$Word" "NOT" "LKerbSplash$Word;", .methodLink RX2 136 yX2_readComparison, .instanceMethod yX2_readComparison, .selects RX2 yX2_readComparison yX2_readComparison, .code yX2_readComparison cX2_readComparison 2 none, .methodLink RX2 127 yX2_readTest, .instanceMethod yX2_readTest, .selects RX2 yX2_readTest yX2_readTest, .code yX2_readTest cX2_readTest 1 none, .fieldLink RX2 130 "KerbSplash$Word" "AND" "LKerbSplash$Word;", .methodLink RX2 121 yX2_readAlternative, .instanceMethod yX2_readAlternative, .selects RX2 yX2_readAlternative yX2_readAlternative, .code yX2_readAlternative cX2_readAlternative 2 none, .fieldLink RX2 124 "KerbSplash$Word" "OR" "LKerbSplash$Word;"] : List Cond) ++ ((wsX20) ++ ((vs_s_word) ++ ((vs_s_sign) ++ ((vs_s_number) ++ ((vs_s_ladd) ++ ((wsV RX2 86 RX2 yX2_open vs_w_open) ++ ((vs_s_want) ++ ((vs_s_takeWord) ++ ((vs_s_good) ++ ((vs_s_take) ++ ((vs_s_wantWord) ++ ((vs_s_aim) ++ ([])))))))))))))
theorem gd_LRC : LRC.all goodWord = true := gd_A (by decide +kernel) (gd_A (by decide +kernel) (gd_A gd_s_word (gd_A gd_s_sign (gd_A gd_s_number (gd_A gd_s_ladd (gd_A (gd_V gd_w_open (by decide +kernel)) (gd_A gd_s_want (gd_A gd_s_takeWord (gd_A gd_s_good (gd_A gd_s_take (gd_A gd_s_wantWord (gd_A gd_s_aim rfl))))))))))))
def vs_w_unit : List Cond := .code yX2_readUnit cX2_readUnit 2 none :: LRC
def vs_w_product : List Cond := .code yX2_readProduct cX2_readProduct 2 none :: LRC
def vs_w_choice : List Cond := .code yX2_readChoice cX2_readChoice 3 none :: LRC
def vs_w_val : List Cond := .code yX2_readValue cX2_readValue 2 none :: LRC
theorem gd_w_val : vs_w_val.all goodWord = true := gd_C (by decide +kernel) gd_LRC
def vs_w_cmp : List Cond := .code yX2_readComparison cX2_readComparison 2 none :: LRC
def vs_w_test : List Cond := .code yX2_readTest cX2_readTest 1 none :: LRC
def vs_w_alt : List Cond := .code yX2_readAlternative cX2_readAlternative 2 none :: LRC
def vs_w_cond : List Cond := .code yX2_readCondition cX2_readCondition 2 none :: LRC
def LR (l : Launch) (D : va_G) (cy : Nat → ClassId) (sa : Nat → Nat) (d : Nat) : Prop := (∀ (lr : Nat) (ta tb : Nat) (fed len at_ we fa fp : Int) (bf : Nat → Int32) (la l0 l2 l3 : Nat) (size : Int) (st : Nat → Int32) (op : Int) (sz : Nat) (hr_fed : 0 ≤ fed ∧ fed ≤ 600) (hr_len : 0 ≤ len ∧ len ≤ 600) (hr_at_ : 0 ≤ at_ ∧ at_ ≤ 600) (hr_we : 0 ≤ we ∧ we ≤ 600) (hr_fa : 0 ≤ fa ∧ fa ≤ 4) (hr_fp : (-1) ≤ fp ∧ fp ≤ 600) (hr_size : 0 ≤ size ∧ size ≤ 600) (hr_op : 0 ≤ op ∧ op ≤ 6) (hst : inv_ 600 0 2147483647 st) (hlev : (7 : Int) - ((d : Nat) : Int) ≤ op), mV9 l yX2_readValue vs_w_val ({ frames := 12 * (d) + 2, cells := 0, slots := 0, locals := 900 * (d) + 80 }) D cy sa sz [vR lr] [zO lr 2 [vR ta, vR la, vI op], zO ta 8 [vR tb, vI fed, vI len, vI at_, vI we, vI fa, vI fp], zI tb (cy 1) 600 bf, zO la 1 [vR l0, vI size, vR l2, vR l3], zI l0 (cy 0) 600 st] (fun u : SV => (0 ≤ u.2.1 0 ∧ u.2.1 0 ≤ 600) ∧ (0 ≤ u.2.1 1 ∧ u.2.1 1 ≤ 600) ∧ (0 ≤ u.2.1 2 ∧ u.2.1 2 ≤ 4) ∧ ((-1) ≤ u.2.1 3 ∧ u.2.1 3 ≤ 600) ∧ (0 ≤ u.2.1 4 ∧ u.2.1 4 ≤ 600) ∧ (0 ≤ u.2.1 5 ∧ u.2.1 5 ≤ 6) ∧ (u.2.1 5 = op) ∧ inv_ 600 0 2147483647 (u.2.2 0)) (fun u : SV => [zO lr 2 [vR ta, vR la, vI (u.2.1 5)], zO ta 8 [vR tb, vI fed, vI len, vI (u.2.1 0), vI (u.2.1 1), vI (u.2.1 2), vI (u.2.1 3)], zI tb (cy 1) 600 bf, zO la 1 [vR l0, vI (u.2.1 4), vR l2, vR l3], zI l0 (cy 0) 600 (u.2.2 0)]) 0 0) ∧ (∀ (lr : Nat) (ta tb : Nat) (fed len at_ we fa fp : Int) (bf : Nat → Int32) (la l0 l2 l3 : Nat) (size : Int) (st : Nat → Int32) (op : Int) (sz : Nat) (hr_fed : 0 ≤ fed ∧ fed ≤ 600) (hr_len : 0 ≤ len ∧ len ≤ 600) (hr_at_ : 0 ≤ at_ ∧ at_ ≤ 600) (hr_we : 0 ≤ we ∧ we ≤ 600) (hr_fa : 0 ≤ fa ∧ fa ≤ 4) (hr_fp : (-1) ≤ fp ∧ fp ≤ 600) (hr_size : 0 ≤ size ∧ size ≤ 600) (hr_op : 0 ≤ op ∧ op ≤ 6) (hst : inv_ 600 0 2147483647 st) (hlev : (7 : Int) - ((d : Nat) : Int) ≤ op), mV9 l yX2_readCondition vs_w_cond ({ frames := 12 * (d) + 6, cells := 0, slots := 0, locals := 900 * (d) + 240 }) D cy sa sz [vR lr] [zO lr 2 [vR ta, vR la, vI op], zO ta 8 [vR tb, vI fed, vI len, vI at_, vI we, vI fa, vI fp], zI tb (cy 1) 600 bf, zO la 1 [vR l0, vI size, vR l2, vR l3], zI l0 (cy 0) 600 st] (fun u : SV => (0 ≤ u.2.1 0 ∧ u.2.1 0 ≤ 600) ∧ (0 ≤ u.2.1 1 ∧ u.2.1 1 ≤ 600) ∧ (0 ≤ u.2.1 2 ∧ u.2.1 2 ≤ 4) ∧ ((-1) ≤ u.2.1 3 ∧ u.2.1 3 ≤ 600) ∧ (0 ≤ u.2.1 4 ∧ u.2.1 4 ≤ 600) ∧ (0 ≤ u.2.1 5 ∧ u.2.1 5 ≤ 6) ∧ (u.2.1 5 = op) ∧ inv_ 600 0 2147483647 (u.2.2 0)) (fun u : SV => [zO lr 2 [vR ta, vR la, vI (u.2.1 5)], zO ta 8 [vR tb, vI fed, vI len, vI (u.2.1 0), vI (u.2.1 1), vI (u.2.1 2), vI (u.2.1 3)], zI tb (cy 1) 600 bf, zO la 1 [vR l0, vI (u.2.1 4), vR l2, vR l3], zI l0 (cy 0) 600 (u.2.2 0)]) 0 0) ∧ (∀ (lr : Nat) (ta tb : Nat) (fed len at_ we fa fp : Int) (bf : Nat → Int32) (la l0 l2 l3 : Nat) (size : Int) (st : Nat → Int32) (op : Int) (sz : Nat) (hr_fed : 0 ≤ fed ∧ fed ≤ 600) (hr_len : 0 ≤ len ∧ len ≤ 600) (hr_at_ : 0 ≤ at_ ∧ at_ ≤ 600) (hr_we : 0 ≤ we ∧ we ≤ 600) (hr_fa : 0 ≤ fa ∧ fa ≤ 4) (hr_fp : (-1) ≤ fp ∧ fp ≤ 600) (hr_size : 0 ≤ size ∧ size ≤ 600) (hr_op : 0 ≤ op ∧ op ≤ 6) (hst : inv_ 600 0 2147483647 st) (hlev : (7 : Int) - ((d : Nat) : Int) ≤ op), mV9 l yX2_readTest vs_w_test ({ frames := 12 * (d) + 4, cells := 0, slots := 0, locals := 900 * (d) + 160 }) D cy sa sz [vR lr] [zO lr 2 [vR ta, vR la, vI op], zO ta 8 [vR tb, vI fed, vI len, vI at_, vI we, vI fa, vI fp], zI tb (cy 1) 600 bf, zO la 1 [vR l0, vI size, vR l2, vR l3], zI l0 (cy 0) 600 st] (fun u : SV => (0 ≤ u.2.1 0 ∧ u.2.1 0 ≤ 600) ∧ (0 ≤ u.2.1 1 ∧ u.2.1 1 ≤ 600) ∧ (0 ≤ u.2.1 2 ∧ u.2.1 2 ≤ 4) ∧ ((-1) ≤ u.2.1 3 ∧ u.2.1 3 ≤ 600) ∧ (0 ≤ u.2.1 4 ∧ u.2.1 4 ≤ 600) ∧ (0 ≤ u.2.1 5 ∧ u.2.1 5 ≤ 6) ∧ (u.2.1 5 = op) ∧ inv_ 600 0 2147483647 (u.2.2 0)) (fun u : SV => [zO lr 2 [vR ta, vR la, vI (u.2.1 5)], zO ta 8 [vR tb, vI fed, vI len, vI (u.2.1 0), vI (u.2.1 1), vI (u.2.1 2), vI (u.2.1 3)], zI tb (cy 1) 600 bf, zO la 1 [vR l0, vI (u.2.1 4), vR l2, vR l3], zI l0 (cy 0) 600 (u.2.2 0)]) 0 0)
set_option maxHeartbeats 4000000 in
set_option maxRecDepth 100000 in
theorem w_unit_step (l : Launch) (hl : l.stackTraces = false) (D : va_G) (cy : Nat → ClassId) (sa : Nat → Nat) (d : Nat) (IH : LR l D cy sa d) (lr : Nat) (ta tb : Nat) (fed len at_ we fa fp : Int) (bf : Nat → Int32) (la l0 l2 l3 : Nat) (size : Int) (st : Nat → Int32) (op : Int) (sz : Nat) (hr_fed : 0 ≤ fed ∧ fed ≤ 600) (hr_len : 0 ≤ len ∧ len ≤ 600) (hr_at_ : 0 ≤ at_ ∧ at_ ≤ 600) (hr_we : 0 ≤ we ∧ we ≤ 600) (hr_fa : 0 ≤ fa ∧ fa ≤ 4) (hr_fp : (-1) ≤ fp ∧ fp ≤ 600) (hr_size : 0 ≤ size ∧ size ≤ 600) (hr_op : 0 ≤ op ∧ op ≤ 6) (hst : inv_ 600 0 2147483647 st) (hlev : (7 : Int) - ((d + 1 : Nat) : Int) ≤ op) : mV9 l yX2_readUnit vs_w_unit ({ frames := 12 * (d + 1) + 0, cells := 0, slots := 0, locals := 900 * (d + 1) + 0 }) D cy sa sz [vR lr] [zO lr 2 [vR ta, vR la, vI op], zO ta 8 [vR tb, vI fed, vI len, vI at_, vI we, vI fa, vI fp], zI tb (cy 1) 600 bf, zO la 1 [vR l0, vI size, vR l2, vR l3], zI l0 (cy 0) 600 st] (fun u : SV => (0 ≤ u.2.1 0 ∧ u.2.1 0 ≤ 600) ∧ (0 ≤ u.2.1 1 ∧ u.2.1 1 ≤ 600) ∧ (0 ≤ u.2.1 2 ∧ u.2.1 2 ≤ 4) ∧ ((-1) ≤ u.2.1 3 ∧ u.2.1 3 ≤ 600) ∧ (0 ≤ u.2.1 4 ∧ u.2.1 4 ≤ 600) ∧ (0 ≤ u.2.1 5 ∧ u.2.1 5 ≤ 6) ∧ (u.2.1 5 = op) ∧ inv_ 600 0 2147483647 (u.2.2 0)) (fun u : SV => [zO lr 2 [vR ta, vR la, vI (u.2.1 5)], zO ta 8 [vR tb, vI fed, vI len, vI (u.2.1 0), vI (u.2.1 1), vI (u.2.1 2), vI (u.2.1 3)], zI tb (cy 1) 600 bf, zO la 1 [vR l0, vI (u.2.1 4), vR l2, vR l3], zI l0 (cy 0) 600 (u.2.2 0)]) 0 0 := by
  refine Met.ofW (cc := cX2_readUnit) (maxL := 2) (ret := none) (by decide) rfl ?_
  intro p e s m args below meth c s₁ B hml hv
  obtain ⟨rfl, hsz, hP, hG, hD0, hT⟩ := hv
  have hx := B.exec
  have hb := B.bytes
  have hr := B.returns
  have hts := atoms_spec (ws := vs_w_unit) B.pre
  have hown : s.vm.findClass RX2 = some m.cls := findClass_of_methodNamed B.named
  have hlocks := B.notSynchronized
  subst hsz
  have hD := hD0.self (sz := s.heap.size)
  generalize hAe : va_A [zO lr 2 [vR ta, vR la, vI op], zO ta 8 [vR tb, vI fed, vI len, vI at_, vI we, vI fa, vI fp], zI tb (cy 1) 600 bf, zO la 1 [vR l0, vI size, vR l2, vR l3], zI l0 (cy 0) 600 st] s.heap.size = A at hD hT ⊢
  have hA : ∀ q : Nat, s.heap.size ≤ q → A q := fun q h => by rw [← hAe]; exact Or.inr h
  have hS : va_S A s.heap s.heap [] := va_S.rf
  have hl0 := lv_entry ([vR lr]) (n := 2) (Nat.le_of_ble_eq_true rfl)
  rw [lg_entry_eq]
  generalize (lg_sl ([vR lr]) ++ List.replicate (2 - (lg_sl ([vR lr])).length) Slot.unset).toArray = ls at hl0 ⊢
  have hlv : lv_has ls 2 [(0, vR lr)] := hl0
  have lf9 := hts (.fieldLink RX2 9 "KerbSplash$LawReader" "tape" "LKerbSplash$Tape;") (List.mem_of_getElem? (i := 1) rfl)
  have hi2 : ∀ w ∈ wsX20, w ∈ vs_w_unit := fun w h => List.mem_cons_of_mem _ (List.mem_append_right _ (List.mem_append_left _ h))
  have gg_1 : GoodIn vs_w_unit (vs_s_word) := goodIn_sub (fun w h => List.mem_cons_of_mem _ (List.mem_append_right _ (List.mem_append_right _ (List.mem_append_left _ h)))) gd_s_word
  have ini_RX8 := hts (.initialized RX8) (List.mem_of_getElem? (i := 2) rfl)
  have im_X8_word := hts (.instanceMethod yX8_word) (List.mem_of_getElem? (i := 3) rfl)
  have se_X8_word := hts (.selects RX8 yX8_word yX8_word) (List.mem_of_getElem? (i := 4) rfl)
  have gg_2 : GoodIn vs_w_unit (vs_s_sign) := goodIn_sub (fun w h => List.mem_cons_of_mem _ (List.mem_append_right _ (List.mem_append_right _ (List.mem_append_right _ (List.mem_append_left _ h))))) gd_s_sign
  have im_X8_sign := hts (.instanceMethod yX8_sign) (List.mem_of_getElem? (i := 5) rfl)
  have se_X8_sign := hts (.selects RX8 yX8_sign yX8_sign) (List.mem_of_getElem? (i := 6) rfl)
  have lf15 := hts (.fieldLink RX2 15 "KerbSplash$LawReader" "law" "LKerbSplash$Law;") (List.mem_of_getElem? (i := 7) rfl)
  have gg_3 : GoodIn vs_w_unit (vs_s_number) := goodIn_sub (fun w h => List.mem_cons_of_mem _ (List.mem_append_right _ (List.mem_append_right _ (List.mem_append_right _ (List.mem_append_right _ (List.mem_append_left _ h)))))) gd_s_number
  have im_X8_number := hts (.instanceMethod yX8_number) (List.mem_of_getElem? (i := 8) rfl)
  have se_X8_number := hts (.selects RX8 yX8_number yX8_number) (List.mem_of_getElem? (i := 9) rfl)
  have gg_4 : GoodIn vs_w_unit (vs_s_ladd) := goodIn_sub (fun w h => List.mem_cons_of_mem _ (List.mem_append_right _ (List.mem_append_right _ (List.mem_append_right _ (List.mem_append_right _ (List.mem_append_right _ (List.mem_append_left _ h))))))) gd_s_ladd
  have ini_RX1 := hts (.initialized RX1) (List.mem_of_getElem? (i := 10) rfl)
  have im_X1_add := hts (.instanceMethod yX1_add) (List.mem_of_getElem? (i := 11) rfl)
  have se_X1_add := hts (.selects RX1 yX1_add yX1_add) (List.mem_of_getElem? (i := 12) rfl)
  have gg_5 : GoodIn vs_w_unit (wsV RX2 86 RX2 yX2_open vs_w_open) := goodIn_sub (fun w h => List.mem_cons_of_mem _ (List.mem_append_right _ (List.mem_append_right _ (List.mem_append_right _ (List.mem_append_right _ (List.mem_append_right _ (List.mem_append_right _ (List.mem_append_left _ h)))))))) (gd_V gd_w_open (by decide +kernel))
  have gg_6 : GoodIn vs_w_unit (vs_s_want) := goodIn_sub (fun w h => List.mem_cons_of_mem _ (List.mem_append_right _ (List.mem_append_right _ (List.mem_append_right _ (List.mem_append_right _ (List.mem_append_right _ (List.mem_append_right _ (List.mem_append_right _ (List.mem_append_left _ h))))))))) gd_s_want
  have im_X8_want := hts (.instanceMethod yX8_want) (List.mem_of_getElem? (i := 13) rfl)
  have se_X8_want := hts (.selects RX8 yX8_want yX8_want) (List.mem_of_getElem? (i := 14) rfl)
  have gh_X2_readValue_62 : GoodIn vs_w_unit (wsV RX2 62 RX2 yX2_readValue vs_w_val) := goodIn_sub (gsub_V (List.mem_append_left _ (List.mem_of_getElem? (i := 14) rfl)) (List.mem_append_left _ (List.mem_of_getElem? (i := 15) rfl)) (List.mem_append_left _ (List.mem_of_getElem? (i := 16) rfl)) (List.mem_append_left _ (List.mem_of_getElem? (i := 17) rfl)) (List.mem_append_left _ (List.mem_of_getElem? (i := 18) rfl))) (gd_V (gd_C (by decide +kernel) gd_LRC) (by decide +kernel))
  have lf105 := hts (.fieldLink RX2 105 "KerbSplash$LawReader" "opened" "I") (List.mem_of_getElem? (i := 20) rfl)
  have gg_7 : GoodIn vs_w_unit (vs_s_takeWord) := goodIn_sub (fun w h => List.mem_cons_of_mem _ (List.mem_append_right _ (List.mem_append_right _ (List.mem_append_right _ (List.mem_append_right _ (List.mem_append_right _ (List.mem_append_right _ (List.mem_append_right _ (List.mem_append_right _ (List.mem_append_left _ h)))))))))) gd_s_takeWord
  have im_X8_takeWord := hts (.instanceMethod yX8_takeWord) (List.mem_of_getElem? (i := 21) rfl)
  have se_X8_takeWord := hts (.selects RX8 yX8_takeWord yX8_takeWord) (List.mem_of_getElem? (i := 22) rfl)
  refine lv_aload_n hx hb dX2_readUnit_0 rfl (lv_at hlv 0 rfl) ?_
  refine va_get (D := D) (ci := 2) (v := vR ta) (C := RX2) (T := TX2) (N := 3) hx hb hts hi2 hown hG.1 hP 0 rfl rfl 0 (by decide) lf9 (fun _ h9 => h9) rfl dX2_readUnit_1 ?_
  refine cjr_r (ra := fun u : SV => wd sa (u.2.1 0)) [true, false, false, true, true] (fun pre9 => (va_runVN (host := "KerbSplash") (As := []) (rest := []) ⟨hx, hb, hml, hown, hts⟩ (s_word l hl D cy sa ta tb fed len at_ we fa fp bf s.heap.size (by first | exact hr_fed | omega) (by first | exact hr_len | omega) (by first | exact hr_at_ | omega) (by first | exact hr_we | omega) (by first | exact hr_fa | omega) (by first | exact hr_fp | omega)) ⟨va_cnB 0 hts gg_1 rfl rfl rfl (nM_LawReader_33 hG.2.1) ini_RX8 (by decide +kernel) ⟨by dsimp only [headSpec]; omega, by dsimp only [headSpec]; omega⟩, im_X8_word, se_X8_word⟩ ⟨pcW.blind, (va_recv hG.1 hP (ci := 8) (q0 := 1) rfl rfl), pre9⟩ rfl rfl hlv.1 rfl (lv_room (Nat.le_of_ble_eq_true rfl)) dX2_readUnit_4 ⟨Nat.le_of_ble_eq_true rfl, Nat.le_of_ble_eq_true rfl⟩)) hP hD hS hA hG hT [1, 2] rfl (by decide +kernel) (fun u1 H locs hw1 hq9 hS => ?_)
  obtain ⟨hq1_0, hq1_1, hq1_2⟩ := hw1
  obtain ⟨hP, hD⟩ := pd9 [zO lr 2 [vR ta, vR la, vI op], zO la 1 [vR l0, vI size, vR l2, vR l3], zI l0 (cy 0) 600 st, zO ta 8 [vR tb, vI fed, vI len, vI (u1.2.1 1), vI (u1.2.1 2), vI fa, vI fp], zI tb (cy 1) 600 bf] hq9
  refine lv_astore_n (lv' := [(1, .ref (wd sa (u1.2.1 0))), (0, vR lr)]) hx hb dX2_readUnit_7 rfl hlv (by decide) rfl (fun ls hlv => ?_)
  refine lv_aload_n hx hb dX2_readUnit_8 rfl (lv_at hlv 0 rfl) ?_
  refine vk_getfN (o := "KerbSplash$Word") (n := "name") (d := "I") (ref := "KerbSplash$Word") (v := .int (iI (fM (u1.2.1 0)))) hx hb (hT.2.2.1 ((u1.2.1 0) : Int).toNat (by omega)).1.2.2.2.2.1 hS hown (va_Nw.use rfl (nF_LawReader_111 hG.2.1)) (fun _ h9 => h9) dX2_readUnit_9 ?_
  have hbfM_ := fM_b (k := (u1.2.1 0)) (by omega)
  refine lt_e (e0 := fM (u1.2.1 0)) rfl (fun z_1 hz_1 => ?_)
  refine lv_iconst (v := iI (-1)) hx hb dX2_readUnit_12 (by decide) ?_
  refine ir_eq (tgt := 41) hx hb dX2_readUnit_13 (by decide) (by omega) (by show ((-2147483648) : Int) ≤ (-1) ∧ ((-1) : Int) ≤ 2147483647; decide) (fun c_2 => ?_) (fun c_2 => ?_)
  · refine lv_aload_n hx hb dX2_readUnit_41 rfl (lv_at hlv 1 rfl) ?_
    refine va_get (D := D) (ci := 2) (v := vR ta) (C := RX2) (T := TX2) (N := 3) hx hb hts hi2 hown hG.1 hP 0 rfl rfl 0 (by decide) lf9 (fun _ h9 => h9) rfl dX2_readUnit_42 ?_
    refine cjr_i [true, true, true, false, false] (fun pre9 => (va_runVN (host := "KerbSplash") (As := []) (rest := []) ⟨hx, hb, hml, hown, hts⟩ (s_sign l hl D cy sa ta tb fed len (u1.2.1 1) (u1.2.1 2) fa fp bf H.size (by first | exact hr_fed | omega) (by first | exact hr_len | omega) (by first | exact hq1_1 | omega) (by first | exact hq1_2 | omega) (by first | exact hr_fa | omega) (by first | exact hr_fp | omega)) ⟨va_cnB 0 hts gg_2 rfl rfl rfl (nM_LawReader_114 hG.2.1) ini_RX8 (by decide +kernel) ⟨by dsimp only [headSpec]; omega, by dsimp only [headSpec]; omega⟩, im_X8_sign, se_X8_sign⟩ ⟨pcW.blind, (va_recv hG.1 hP (ci := 8) (q0 := 3) rfl rfl), pre9⟩ rfl rfl hlv.1 rfl (lv_room (Nat.le_of_ble_eq_true rfl)) dX2_readUnit_45 ⟨Nat.le_of_ble_eq_true rfl, Nat.le_of_ble_eq_true rfl⟩)) hP hD hS hA hG hT [3, 4] rfl (by decide +kernel) (fun r2 u2 H locs hw2 hq9 hS => ?_)
    obtain ⟨rfl, hq2_1, hq2_2, hq2_3, hq2_4, hq2_5⟩ := hw2
    obtain ⟨hP, hD⟩ := pd9 [zO lr 2 [vR ta, vR la, vI op], zO la 1 [vR l0, vI size, vR l2, vR l3], zI l0 (cy 0) 600 st, zO ta 8 [vR tb, vI fed, vI len, vI (u2.2.1 1), vI (u1.2.1 2), vI fa, vI fp], zI tb (cy 1) 600 bf] hq9
    refine lv_bipush (v := iI 40) hx hb dX2_readUnit_48 (by decide) ?_
    refine ir_ne (tgt := 95) hx hb dX2_readUnit_50 (by decide) (by first | exact rgw hq2_1 (by decide) (by decide) | omega) (by show ((-2147483648) : Int) ≤ 40 ∧ (40 : Int) ≤ 2147483647; decide) (fun c_3 => ?_) (fun c_3 => ?_)
    · refine lv_aload_n hx hb dX2_readUnit_95 rfl (lv_at hlv 1 rfl) ?_
      refine va_get (D := D) (ci := 2) (v := vR la) (C := RX2) (T := TX2) (N := 3) hx hb hts hi2 hown hG.1 hP 0 rfl rfl 1 (by decide) lf15 (fun _ h9 => h9) rfl dX2_readUnit_96 ?_
      refine lv_iconst (v := iI 0) hx hb dX2_readUnit_99 (by decide) ?_
      refine lv_aload_n hx hb dX2_readUnit_100 rfl (lv_at hlv 1 rfl) ?_
      refine va_get (D := D) (ci := 2) (v := vR ta) (C := RX2) (T := TX2) (N := 3) hx hb hts hi2 hown hG.1 hP 0 rfl rfl 0 (by decide) lf9 (fun _ h9 => h9) rfl dX2_readUnit_101 ?_
      refine lv_iconst (v := iI 0) hx hb dX2_readUnit_104 (by decide) ?_
      refine lv_sipush (v := iI 9999) hx hb dX2_readUnit_105 (by decide) ?_
      refine cjr_i [true, true, true, false, false] (fun pre9 => (va_runVN (host := "KerbSplash") (As := [vI 0, vI 9999]) (rest := [vI 0, vR la]) ⟨hx, hb, hml, hown, hts⟩ (s_number l hl D cy sa ta tb fed len (u2.2.1 1) (u1.2.1 2) fa fp bf 0 9999 H.size (by first | exact hr_fed | omega) (by first | exact hr_len | omega) (by first | exact hq2_2 | omega) (by first | exact hq1_2 | omega) (by first | exact hr_fa | omega) (by first | exact hr_fp | omega) (by show ((-1) : Int) ≤ 0 ∧ (0 : Int) ≤ 10000; decide) (by show ((-1) : Int) ≤ 9999 ∧ (9999 : Int) ≤ 9999; decide)) ⟨va_cnB 2 hts gg_3 rfl rfl rfl (nM_LawReader_118 hG.2.1) ini_RX8 (by decide +kernel) ⟨by dsimp only [headSpec]; omega, by dsimp only [headSpec]; omega⟩, im_X8_number, se_X8_number⟩ ⟨pcW.blind, (va_recv hG.1 hP (ci := 8) (q0 := 3) rfl rfl), pre9⟩ rfl rfl hlv.1 rfl (lv_room (Nat.le_of_ble_eq_true rfl)) dX2_readUnit_108 ⟨Nat.le_of_ble_eq_true rfl, Nat.le_of_ble_eq_true rfl⟩)) hP hD hS hA hG hT [3, 4] rfl (by decide +kernel) (fun r3 u3 H locs hw3 hq9 hS => ?_)
      obtain ⟨rfl, hq3_1, hq3_2, hq3_3, hq3_4, hq3_5, hq3_6, hq3_7⟩ := hw3
      obtain ⟨hP, hD⟩ := pd9 [zO lr 2 [vR ta, vR la, vI op], zO la 1 [vR l0, vI size, vR l2, vR l3], zI l0 (cy 0) 600 st, zO ta 8 [vR tb, vI fed, vI len, vI (u3.2.1 1), vI (u1.2.1 2), vI (u3.2.1 2), vI (u3.2.1 3)], zI tb (cy 1) 600 bf] hq9
      refine cjr_i [true, false, false, true, true] (fun pre9 => (va_runVN (host := "KerbSplash") (As := [vI 0, vI (u3.2.1 0)]) (rest := []) ⟨hx, hb, hml, hown, hts⟩ (s_ladd l hl D cy sa la l0 l2 l3 size st 0 (u3.2.1 0) H.size (by first | exact hr_size | omega) (by show (0 : Int) ≤ 0 ∧ (0 : Int) ≤ 15; decide) (by omega) hst) ⟨va_cnB 2 hts gg_4 rfl rfl rfl (nM_LawReader_65 hG.2.1) ini_RX1 (by decide +kernel) ⟨by dsimp only [headSpec]; omega, by dsimp only [headSpec]; omega⟩, im_X1_add, se_X1_add⟩ ⟨pcW.blind, (va_recv hG.1 hP (ci := 1) (q0 := 1) rfl rfl), pre9⟩ rfl rfl hlv.1 rfl (lv_room (Nat.le_of_ble_eq_true rfl)) dX2_readUnit_111 ⟨Nat.le_of_ble_eq_true rfl, Nat.le_of_ble_eq_true rfl⟩)) hP hD hS hA hG hT [1, 2] rfl (by decide +kernel) (fun r4 u4 H locs hw4 hq9 hS => ?_)
      obtain ⟨rfl, hq4_1, hq4_2, hq4_3, hq4_4⟩ := hw4
      obtain ⟨hP, hD⟩ := pd9 [zO lr 2 [vR ta, vR la, vI op], zO ta 8 [vR tb, vI fed, vI len, vI (u3.2.1 1), vI (u1.2.1 2), vI (u3.2.1 2), vI (u3.2.1 3)], zI tb (cy 1) 600 bf, zO la 1 [vR l0, vI (u4.2.1 1), vR l2, vR l3], zI l0 (cy 0) 600 (u4.2.2 0)] hq9
      refine lv_pop hx hb dX2_readUnit_114 rfl ?_
      refine W.widen (k := 0) (n := 0) (Nat.le_of_ble_eq_true rfl) (Nat.le_of_ble_eq_true rfl) ?_
      exact W.vret hx hb hr (fun t ht hW => ⟨⟨((fun k => ([] : List Nat).getD k 0), (fun k => ([(u3.2.1 1), (u1.2.1 2), (u3.2.1 2), (u3.2.1 3), (u4.2.1 1), op] : List Int).getD k 0), (fun k => ([(u4.2.2 0)] : List (Nat → Int32)).getD k (fun _ => 0))), rfl, ⟨(by show (0 ≤ (u3.2.1 1) ∧ (u3.2.1 1) ≤ 600); first | exact hq3_2 | omega), (by show (0 ≤ (u1.2.1 2) ∧ (u1.2.1 2) ≤ 600); first | exact hq1_2 | omega), (by show (0 ≤ (u3.2.1 2) ∧ (u3.2.1 2) ≤ 4); first | exact hq3_3 | omega), (by show ((-1) ≤ (u3.2.1 3) ∧ (u3.2.1 3) ≤ 600); first | exact hq3_4 | omega), (by show (0 ≤ (u4.2.1 1) ∧ (u4.2.1 1) ≤ 600); first | exact hq4_2 | omega), (by show (0 ≤ op ∧ op ≤ 6); first | exact hr_op | omega), (by show (op = op); omega), hq4_4⟩, at9 ht hP hD [0, 1, 2, 3, 4] (by decide +kernel) rfl⟩, hS.F ht⟩) hS.2.2 dX2_readUnit_115
    · refine lv_aload_n hx hb dX2_readUnit_53 rfl (lv_at hlv 1 rfl) ?_
      refine cjr_i [false, true, true, false, true] (fun pre9 => (va_runV (As := []) (rest := []) ⟨hx, hb, hml, hown, hts⟩ (w_open l hl D cy sa lr la ta tb fed len (u2.2.1 1) (u1.2.1 2) fa fp op H.size (by first | exact hr_fed | omega) (by first | exact hr_len | omega) (by first | exact hq2_2 | omega) (by first | exact hq1_2 | omega) (by first | exact hr_fa | omega) (by first | exact hr_fp | omega) (by first | exact hr_op | omega)) (cwV 0 hts gg_5 rfl rfl rfl (by decide +kernel) ⟨by dsimp only [headSpec]; omega, by dsimp only [headSpec]; omega⟩) ⟨pcW.blind, (va_recv hG.1 hP (ci := 2) (q0 := 0) rfl rfl), pre9⟩ rfl rfl hlv.1 rfl (lv_room (Nat.le_of_ble_eq_true rfl)) dX2_readUnit_54 ⟨Nat.le_of_ble_eq_true rfl, Nat.le_of_ble_eq_true rfl⟩)) hP hD hS hA hG hT [0, 3] rfl (by decide +kernel) (fun r5 u5 H locs hw5 hq9 hS => ?_)
      obtain ⟨rfl, hq5_1, hq5_2, hq5_3, hq5_4, hq5_5, hq5_6⟩ := hw5
      obtain ⟨hP, hD⟩ := pd9 [zO la 1 [vR l0, vI size, vR l2, vR l3], zI l0 (cy 0) 600 st, zI tb (cy 1) 600 bf, zO lr 2 [vR ta, vR la, vI (u5.2.1 1)], zO ta 8 [vR tb, vI fed, vI len, vI (u2.2.1 1), vI (u1.2.1 2), vI (u5.2.1 2), vI (u5.2.1 3)]] hq9
      refine iz_eq (tgt := 115) hx hb dX2_readUnit_57 (by decide) (by first | exact rgw hq5_1 (by decide) (by decide) | omega) (fun c_4 => ?_) (fun c_4 => ?_)
      · refine W.widen (k := 0) (n := 0) (Nat.le_of_ble_eq_true rfl) (Nat.le_of_ble_eq_true rfl) ?_
        exact W.vret hx hb hr (fun t ht hW => ⟨⟨((fun k => ([] : List Nat).getD k 0), (fun k => ([(u2.2.1 1), (u1.2.1 2), (u5.2.1 2), (u5.2.1 3), size, (u5.2.1 1)] : List Int).getD k 0), (fun k => ([st] : List (Nat → Int32)).getD k (fun _ => 0))), rfl, ⟨(by show (0 ≤ (u2.2.1 1) ∧ (u2.2.1 1) ≤ 600); first | exact hq2_2 | omega), (by show (0 ≤ (u1.2.1 2) ∧ (u1.2.1 2) ≤ 600); first | exact hq1_2 | omega), (by show (0 ≤ (u5.2.1 2) ∧ (u5.2.1 2) ≤ 4); first | exact hq5_3 | omega), (by show ((-1) ≤ (u5.2.1 3) ∧ (u5.2.1 3) ≤ 600); first | exact hq5_4 | omega), (by show (0 ≤ size ∧ size ≤ 600); first | exact hr_size | omega), (by show (0 ≤ (u5.2.1 1) ∧ (u5.2.1 1) ≤ 6); first | exact hq5_2 | omega), (by show ((u5.2.1 1) = op); omega), hst⟩, at9 ht hP hD [3, 4, 2, 0, 1] (by decide +kernel) rfl⟩, hS.F ht⟩) hS.2.2 dX2_readUnit_115
      · refine lv_aload_n hx hb dX2_readUnit_60 rfl (lv_at hlv 1 rfl) ?_
        refine va_get (D := D) (ci := 2) (v := vR ta) (C := RX2) (T := TX2) (N := 3) hx hb hts hi2 hown hG.1 hP 3 rfl rfl 0 (by decide) lf9 (fun _ h9 => h9) rfl dX2_readUnit_61 ?_
        refine lv_bipush (v := iI 40) hx hb dX2_readUnit_64 (by decide) ?_
        refine cjr_v [true, true, false, true, false] (fun pre9 => (va_runVN (host := "KerbSplash") (As := [vI 40]) (rest := []) ⟨hx, hb, hml, hown, hts⟩ (s_want l hl D cy sa ta tb fed len (u2.2.1 1) (u1.2.1 2) (u5.2.1 2) (u5.2.1 3) bf 40 H.size (by first | exact hr_fed | omega) (by first | exact hr_len | omega) (by first | exact hq2_2 | omega) (by first | exact hq1_2 | omega) (by first | exact hq5_3 | omega) (by first | exact hq5_4 | omega) (by show (0 : Int) ≤ 40 ∧ (40 : Int) ≤ 65535; decide)) ⟨va_cnB 1 hts gg_6 rfl rfl rfl (nM_LawReader_58 hG.2.1) ini_RX8 (by decide +kernel) ⟨by dsimp only [headSpec]; omega, by dsimp only [headSpec]; omega⟩, im_X8_want, se_X8_want⟩ ⟨pcW.blind, (va_recv hG.1 hP (ci := 8) (q0 := 4) rfl rfl), pre9⟩ rfl rfl hlv.1 rfl (lv_room (Nat.le_of_ble_eq_true rfl)) dX2_readUnit_66 ⟨Nat.le_of_ble_eq_true rfl, Nat.le_of_ble_eq_true rfl⟩)) hP hD hS hA hG hT [4, 2] rfl (by decide +kernel) (fun u6 H locs hw6 hq9 hS => ?_)
        obtain ⟨hq6_0, hq6_1, hq6_2, hq6_3, hq6_4⟩ := hw6
        obtain ⟨hP, hD⟩ := pd9 [zO la 1 [vR l0, vI size, vR l2, vR l3], zI l0 (cy 0) 600 st, zO lr 2 [vR ta, vR la, vI (u5.2.1 1)], zO ta 8 [vR tb, vI fed, vI len, vI (u6.2.1 0), vI (u1.2.1 2), vI (u6.2.1 1), vI (u6.2.1 2)], zI tb (cy 1) 600 bf] hq9
        refine lv_aload_n hx hb dX2_readUnit_69 rfl (lv_at hlv 1 rfl) ?_
        refine cjr_v [false, false, false, false, false] (fun pre9 => (va_runV (As := []) (rest := []) ⟨hx, hb, hml, hown, hts⟩ (IH.1 lr ta tb fed len (u6.2.1 0) (u1.2.1 2) (u6.2.1 1) (u6.2.1 2) bf la l0 l2 l3 size st (u5.2.1 1) H.size (by first | exact hr_fed | omega) (by first | exact hr_len | omega) (by first | exact hq6_0 | omega) (by first | exact hq1_2 | omega) (by first | exact hq6_1 | omega) (by first | exact hq6_2 | omega) (by first | exact hr_size | omega) (by first | exact hq5_2 | omega) hst (by omega)) (cwV 0 hts gh_X2_readValue_62 rfl rfl rfl (by decide +kernel) ⟨by dsimp only [headSpec]; omega, by dsimp only [headSpec]; omega⟩) ⟨pcW.blind, (va_recv hG.1 hP (ci := 2) (q0 := 2) rfl rfl), pre9⟩ rfl rfl hlv.1 rfl (lv_room (Nat.le_of_ble_eq_true rfl)) dX2_readUnit_70 ⟨Nat.le_of_ble_eq_true rfl, Nat.le_of_ble_eq_true rfl⟩)) hP hD hS hA hG hT [2, 3, 4, 0, 1] rfl (by decide +kernel) (fun u7 H locs hw7 hq9 hS => ?_)
        obtain ⟨hq7_0, hq7_1, hq7_2, hq7_3, hq7_4, hq7_5, hq7_6, hq7_7⟩ := hw7
        obtain ⟨hP, hD⟩ := pd9 [zO lr 2 [vR ta, vR la, vI (u7.2.1 5)], zO ta 8 [vR tb, vI fed, vI len, vI (u7.2.1 0), vI (u7.2.1 1), vI (u7.2.1 2), vI (u7.2.1 3)], zI tb (cy 1) 600 bf, zO la 1 [vR l0, vI (u7.2.1 4), vR l2, vR l3], zI l0 (cy 0) 600 (u7.2.2 0)] hq9
        refine lv_aload_n hx hb dX2_readUnit_73 rfl (lv_at hlv 1 rfl) ?_
        refine va_get (D := D) (ci := 2) (v := vR ta) (C := RX2) (T := TX2) (N := 3) hx hb hts hi2 hown hG.1 hP 0 rfl rfl 0 (by decide) lf9 (fun _ h9 => h9) rfl dX2_readUnit_74 ?_
        refine lv_bipush (v := iI 41) hx hb dX2_readUnit_77 (by decide) ?_
        refine cjr_v [true, false, false, true, true] (fun pre9 => (va_runVN (host := "KerbSplash") (As := [vI 41]) (rest := []) ⟨hx, hb, hml, hown, hts⟩ (s_want l hl D cy sa ta tb fed len (u7.2.1 0) (u7.2.1 1) (u7.2.1 2) (u7.2.1 3) bf 41 H.size (by first | exact hr_fed | omega) (by first | exact hr_len | omega) (by first | exact hq7_0 | omega) (by first | exact hq7_1 | omega) (by first | exact hq7_2 | omega) (by first | exact hq7_3 | omega) (by show (0 : Int) ≤ 41 ∧ (41 : Int) ≤ 65535; decide)) ⟨va_cnB 1 hts gg_6 rfl rfl rfl (nM_LawReader_58 hG.2.1) ini_RX8 (by decide +kernel) ⟨by dsimp only [headSpec]; omega, by dsimp only [headSpec]; omega⟩, im_X8_want, se_X8_want⟩ ⟨pcW.blind, (va_recv hG.1 hP (ci := 8) (q0 := 1) rfl rfl), pre9⟩ rfl rfl hlv.1 rfl (lv_room (Nat.le_of_ble_eq_true rfl)) dX2_readUnit_79 ⟨Nat.le_of_ble_eq_true rfl, Nat.le_of_ble_eq_true rfl⟩)) hP hD hS hA hG hT [1, 2] rfl (by decide +kernel) (fun u8 H locs hw8 hq9 hS => ?_)
        obtain ⟨hq8_0, hq8_1, hq8_2, hq8_3, hq8_4⟩ := hw8
        obtain ⟨hP, hD⟩ := pd9 [zO lr 2 [vR ta, vR la, vI (u7.2.1 5)], zO la 1 [vR l0, vI (u7.2.1 4), vR l2, vR l3], zI l0 (cy 0) 600 (u7.2.2 0), zO ta 8 [vR tb, vI fed, vI len, vI (u8.2.1 0), vI (u7.2.1 1), vI (u8.2.1 1), vI (u8.2.1 2)], zI tb (cy 1) 600 bf] hq9
        refine lv_aload_n hx hb dX2_readUnit_82 rfl (lv_at hlv 1 rfl) ?_
        refine lv_dup hx hb dX2_readUnit_83 rfl ?_
        refine va_get (D := D) (ci := 2) (v := vI (u7.2.1 5)) (C := RX2) (T := TX2) (N := 3) hx hb hts hi2 hown hG.1 hP 0 rfl rfl 2 (by decide) lf105 (fun _ h9 => h9) rfl dX2_readUnit_84 ?_
        refine lv_iconst (v := iI 1) hx hb dX2_readUnit_87 (by decide) ?_
        refine lv_isub hx hb dX2_readUnit_88 ?_
        refine lt_e (e0 := (u7.2.1 5) - 1) (Int32.ofInt_sub _ _).symm (fun z_5 hz_5 => ?_)
        refine va_put (D := D) (ci := 2) (v := vI z_5) (ty := .int) (C := RX2) (T := TX2) (N := 3) hx hb hts hi2 tyX2 tyX2_ok nmX2 hown hG.1 hP hD hS 0 rfl rfl 2 (by decide) lf105 (fun _ h9 => h9) rfl (by decide +kernel) rfl rfl (Nat.le_of_ble_eq_true rfl) dX2_readUnit_89 (fun H locs hP hD hS => ?_)
        obtain ⟨hP, hD⟩ := pw9 [zO lr 2 [vR ta, vR la, vI z_5], zO la 1 [vR l0, vI (u7.2.1 4), vR l2, vR l3], zI l0 (cy 0) 600 (u7.2.2 0), zO ta 8 [vR tb, vI fed, vI len, vI (u8.2.1 0), vI (u7.2.1 1), vI (u8.2.1 1), vI (u8.2.1 2)], zI tb (cy 1) 600 bf] hP hD
        refine lv_goto (tgt := 115) hx hb dX2_readUnit_92 (by decide) ?_
        refine W.widen (k := 0) (n := 0) (Nat.le_of_ble_eq_true rfl) (Nat.le_of_ble_eq_true rfl) ?_
        exact W.vret hx hb hr (fun t ht hW => ⟨⟨((fun k => ([] : List Nat).getD k 0), (fun k => ([(u8.2.1 0), (u7.2.1 1), (u8.2.1 1), (u8.2.1 2), (u7.2.1 4), z_5] : List Int).getD k 0), (fun k => ([(u7.2.2 0)] : List (Nat → Int32)).getD k (fun _ => 0))), rfl, ⟨(by show (0 ≤ (u8.2.1 0) ∧ (u8.2.1 0) ≤ 600); first | exact hq8_0 | omega), (by show (0 ≤ (u7.2.1 1) ∧ (u7.2.1 1) ≤ 600); first | exact hq7_1 | omega), (by show (0 ≤ (u8.2.1 1) ∧ (u8.2.1 1) ≤ 4); first | exact hq8_1 | omega), (by show ((-1) ≤ (u8.2.1 2) ∧ (u8.2.1 2) ≤ 600); first | exact hq8_2 | omega), (by show (0 ≤ (u7.2.1 4) ∧ (u7.2.1 4) ≤ 600); first | exact hq7_4 | omega), (by show (0 ≤ z_5 ∧ z_5 ≤ 6); omega), (by show (z_5 = op); omega), hq7_7⟩, at9 ht hP hD [0, 3, 4, 1, 2] (by decide +kernel) rfl⟩, hS.F ht⟩) hS.2.2 dX2_readUnit_115
  · refine lv_aload_n hx hb dX2_readUnit_16 rfl (lv_at hlv 1 rfl) ?_
    refine va_get (D := D) (ci := 2) (v := vR ta) (C := RX2) (T := TX2) (N := 3) hx hb hts hi2 hown hG.1 hP 0 rfl rfl 0 (by decide) lf9 (fun _ h9 => h9) rfl dX2_readUnit_17 ?_
    refine lv_aload_n hx hb dX2_readUnit_20 rfl (lv_at hlv 0 rfl) ?_
    refine cjr_i [true, true, true, false, false] (fun pre9 => (va_runVN (host := "KerbSplash") (As := [.ref (wd sa (u1.2.1 0))]) (rest := []) ⟨hx, hb, hml, hown, hts⟩ (s_takeWord l hl D cy sa ta tb fed len (u1.2.1 1) (u1.2.1 2) fa fp bf (u1.2.1 0) H.size (by first | exact hr_fed | omega) (by first | exact hr_len | omega) (by first | exact hq1_1 | omega) (by first | exact hq1_2 | omega) (by first | exact hr_fa | omega) (by first | exact hr_fp | omega) (by first | exact hq1_0 | omega)) ⟨va_cnB 1 hts gg_7 rfl rfl rfl (nM_LawReader_54 hG.2.1) ini_RX8 (by decide +kernel) ⟨by dsimp only [headSpec]; omega, by dsimp only [headSpec]; omega⟩, im_X8_takeWord, se_X8_takeWord⟩ ⟨pcW.blind, (va_recv hG.1 hP (ci := 8) (q0 := 3) rfl rfl), pre9⟩ rfl rfl hlv.1 rfl (lv_room (Nat.le_of_ble_eq_true rfl)) dX2_readUnit_21 ⟨Nat.le_of_ble_eq_true rfl, Nat.le_of_ble_eq_true rfl⟩)) hP hD hS hA hG hT [3, 4] rfl (by decide +kernel) (fun r9 u9 H locs hw9 hq9 hS => ?_)
    obtain ⟨rfl, hq9_1, hq9_2, hq9_3⟩ := hw9
    obtain ⟨hP, hD⟩ := pd9 [zO lr 2 [vR ta, vR la, vI op], zO la 1 [vR l0, vI size, vR l2, vR l3], zI l0 (cy 0) 600 st, zO ta 8 [vR tb, vI fed, vI len, vI (u9.2.1 1), vI (u9.2.1 2), vI fa, vI fp], zI tb (cy 1) 600 bf] hq9
    refine lv_pop hx hb dX2_readUnit_24 rfl ?_
    refine lv_aload_n hx hb dX2_readUnit_25 rfl (lv_at hlv 1 rfl) ?_
    refine va_get (D := D) (ci := 2) (v := vR la) (C := RX2) (T := TX2) (N := 3) hx hb hts hi2 hown hG.1 hP 0 rfl rfl 1 (by decide) lf15 (fun _ h9 => h9) rfl dX2_readUnit_26 ?_
    refine lv_iconst (v := iI 1) hx hb dX2_readUnit_29 (by decide) ?_
    refine lv_aload_n hx hb dX2_readUnit_30 rfl (lv_at hlv 0 rfl) ?_
    refine vk_getfN (o := "KerbSplash$Word") (n := "name") (d := "I") (ref := "KerbSplash$Word") (v := .int (iI (fM (u1.2.1 0)))) hx hb (hT.2.2.1 ((u1.2.1 0) : Int).toNat (by omega)).1.2.2.2.2.1 hS hown (va_Nw.use rfl (nF_LawReader_111 hG.2.1)) (fun _ h9 => h9) dX2_readUnit_31 ?_
    have hbfM_ := fM_b (k := (u1.2.1 0)) (by omega)
    refine lt_e (e0 := fM (u1.2.1 0)) rfl (fun z_6 hz_6 => ?_)
    refine cjr_i [true, false, false, true, true] (fun pre9 => (va_runVN (host := "KerbSplash") (As := [vI 1, vI z_6]) (rest := []) ⟨hx, hb, hml, hown, hts⟩ (s_ladd l hl D cy sa la l0 l2 l3 size st 1 z_6 H.size (by first | exact hr_size | omega) (by show (0 : Int) ≤ 1 ∧ (1 : Int) ≤ 15; decide) (by omega) hst) ⟨va_cnB 2 hts gg_4 rfl rfl rfl (nM_LawReader_65 hG.2.1) ini_RX1 (by decide +kernel) ⟨by dsimp only [headSpec]; omega, by dsimp only [headSpec]; omega⟩, im_X1_add, se_X1_add⟩ ⟨pcW.blind, (va_recv hG.1 hP (ci := 1) (q0 := 1) rfl rfl), pre9⟩ rfl rfl hlv.1 rfl (lv_room (Nat.le_of_ble_eq_true rfl)) dX2_readUnit_34 ⟨Nat.le_of_ble_eq_true rfl, Nat.le_of_ble_eq_true rfl⟩)) hP hD hS hA hG hT [1, 2] rfl (by decide +kernel) (fun r10 u10 H locs hw10 hq9 hS => ?_)
    obtain ⟨rfl, hq10_1, hq10_2, hq10_3, hq10_4⟩ := hw10
    obtain ⟨hP, hD⟩ := pd9 [zO lr 2 [vR ta, vR la, vI op], zO ta 8 [vR tb, vI fed, vI len, vI (u9.2.1 1), vI (u9.2.1 2), vI fa, vI fp], zI tb (cy 1) 600 bf, zO la 1 [vR l0, vI (u10.2.1 1), vR l2, vR l3], zI l0 (cy 0) 600 (u10.2.2 0)] hq9
    refine lv_pop hx hb dX2_readUnit_37 rfl ?_
    refine lv_goto (tgt := 115) hx hb dX2_readUnit_38 (by decide) ?_
    refine W.widen (k := 0) (n := 0) (Nat.le_of_ble_eq_true rfl) (Nat.le_of_ble_eq_true rfl) ?_
    exact W.vret hx hb hr (fun t ht hW => ⟨⟨((fun k => ([] : List Nat).getD k 0), (fun k => ([(u9.2.1 1), (u9.2.1 2), fa, fp, (u10.2.1 1), op] : List Int).getD k 0), (fun k => ([(u10.2.2 0)] : List (Nat → Int32)).getD k (fun _ => 0))), rfl, ⟨(by show (0 ≤ (u9.2.1 1) ∧ (u9.2.1 1) ≤ 600); first | exact hq9_2 | omega), (by show (0 ≤ (u9.2.1 2) ∧ (u9.2.1 2) ≤ 600); first | exact hq9_3 | omega), (by show (0 ≤ fa ∧ fa ≤ 4); first | exact hr_fa | omega), (by show ((-1) ≤ fp ∧ fp ≤ 600); first | exact hr_fp | omega), (by show (0 ≤ (u10.2.1 1) ∧ (u10.2.1 1) ≤ 600); first | exact hq10_2 | omega), (by show (0 ≤ op ∧ op ≤ 6); first | exact hr_op | omega), (by show (op = op); omega), hq10_4⟩, at9 ht hP hD [0, 1, 2, 3, 4] (by decide +kernel) rfl⟩, hS.F ht⟩) hS.2.2 dX2_readUnit_115
set_option maxHeartbeats 4000000 in
set_option maxRecDepth 100000 in
theorem w_product_step (l : Launch) (hl : l.stackTraces = false) (D : va_G) (cy : Nat → ClassId) (sa : Nat → Nat) (d : Nat) (IH : LR l D cy sa d) (lr : Nat) (ta tb : Nat) (fed len at_ we fa fp : Int) (bf : Nat → Int32) (la l0 l2 l3 : Nat) (size : Int) (st : Nat → Int32) (op : Int) (sz : Nat) (hr_fed : 0 ≤ fed ∧ fed ≤ 600) (hr_len : 0 ≤ len ∧ len ≤ 600) (hr_at_ : 0 ≤ at_ ∧ at_ ≤ 600) (hr_we : 0 ≤ we ∧ we ≤ 600) (hr_fa : 0 ≤ fa ∧ fa ≤ 4) (hr_fp : (-1) ≤ fp ∧ fp ≤ 600) (hr_size : 0 ≤ size ∧ size ≤ 600) (hr_op : 0 ≤ op ∧ op ≤ 6) (hst : inv_ 600 0 2147483647 st) (hlev : (7 : Int) - ((d + 1 : Nat) : Int) ≤ op) : mV9 l yX2_readProduct vs_w_product ({ frames := 12 * (d + 1) + 1, cells := 0, slots := 0, locals := 900 * (d + 1) + 40 }) D cy sa sz [vR lr] [zO lr 2 [vR ta, vR la, vI op], zO ta 8 [vR tb, vI fed, vI len, vI at_, vI we, vI fa, vI fp], zI tb (cy 1) 600 bf, zO la 1 [vR l0, vI size, vR l2, vR l3], zI l0 (cy 0) 600 st] (fun u : SV => (0 ≤ u.2.1 0 ∧ u.2.1 0 ≤ 600) ∧ (0 ≤ u.2.1 1 ∧ u.2.1 1 ≤ 600) ∧ (0 ≤ u.2.1 2 ∧ u.2.1 2 ≤ 4) ∧ ((-1) ≤ u.2.1 3 ∧ u.2.1 3 ≤ 600) ∧ (0 ≤ u.2.1 4 ∧ u.2.1 4 ≤ 600) ∧ (0 ≤ u.2.1 5 ∧ u.2.1 5 ≤ 6) ∧ (u.2.1 5 = op) ∧ inv_ 600 0 2147483647 (u.2.2 0)) (fun u : SV => [zO lr 2 [vR ta, vR la, vI (u.2.1 5)], zO ta 8 [vR tb, vI fed, vI len, vI (u.2.1 0), vI (u.2.1 1), vI (u.2.1 2), vI (u.2.1 3)], zI tb (cy 1) 600 bf, zO la 1 [vR l0, vI (u.2.1 4), vR l2, vR l3], zI l0 (cy 0) 600 (u.2.2 0)]) 0 0 := by
  refine Met.ofW (cc := cX2_readProduct) (maxL := 2) (ret := none) (by decide) rfl ?_
  intro p e s m args below meth c s₁ B hml hv
  obtain ⟨rfl, hsz, hP, hG, hD0, hT⟩ := hv
  have hx := B.exec
  have hb := B.bytes
  have hr := B.returns
  have hts := atoms_spec (ws := vs_w_product) B.pre
  have hown : s.vm.findClass RX2 = some m.cls := findClass_of_methodNamed B.named
  have hlocks := B.notSynchronized
  subst hsz
  have hD := hD0.self (sz := s.heap.size)
  generalize hAe : va_A [zO lr 2 [vR ta, vR la, vI op], zO ta 8 [vR tb, vI fed, vI len, vI at_, vI we, vI fa, vI fp], zI tb (cy 1) 600 bf, zO la 1 [vR l0, vI size, vR l2, vR l3], zI l0 (cy 0) 600 st] s.heap.size = A at hD hT ⊢
  have hA : ∀ q : Nat, s.heap.size ≤ q → A q := fun q h => by rw [← hAe]; exact Or.inr h
  have hS : va_S A s.heap s.heap [] := va_S.rf
  have hl0 := lv_entry ([vR lr]) (n := 2) (Nat.le_of_ble_eq_true rfl)
  rw [lg_entry_eq]
  generalize (lg_sl ([vR lr]) ++ List.replicate (2 - (lg_sl ([vR lr])).length) Slot.unset).toArray = ls at hl0 ⊢
  have hlv : lv_has ls 2 [(0, vR lr)] := hl0
  have gh_X2_readUnit_108 : GoodIn vs_w_product (wsV RX2 108 RX2 yX2_readUnit vs_w_unit) := goodIn_sub (gsub_V (List.mem_append_left _ (List.mem_of_getElem? (i := 22) rfl)) (List.mem_append_left _ (List.mem_of_getElem? (i := 23) rfl)) (List.mem_append_left _ (List.mem_of_getElem? (i := 24) rfl)) (List.mem_append_left _ (List.mem_of_getElem? (i := 17) rfl)) (List.mem_append_left _ (List.mem_of_getElem? (i := 25) rfl))) (gd_V (gd_C (by decide +kernel) gd_LRC) (by decide +kernel))
  have lf9 := hts (.fieldLink RX2 9 "KerbSplash$LawReader" "tape" "LKerbSplash$Tape;") (List.mem_of_getElem? (i := 1) rfl)
  have hi2 : ∀ w ∈ wsX20, w ∈ vs_w_product := fun w h => List.mem_cons_of_mem _ (List.mem_append_right _ (List.mem_append_left _ h))
  have gg_8 : GoodIn vs_w_product (vs_s_good) := goodIn_sub (fun w h => List.mem_cons_of_mem _ (List.mem_append_right _ (List.mem_append_right _ (List.mem_append_right _ (List.mem_append_right _ (List.mem_append_right _ (List.mem_append_right _ (List.mem_append_right _ (List.mem_append_right _ (List.mem_append_right _ (List.mem_append_left _ h))))))))))) gd_s_good
  have ini_RX8 := hts (.initialized RX8) (List.mem_of_getElem? (i := 2) rfl)
  have im_X8_good := hts (.instanceMethod yX8_good) (List.mem_of_getElem? (i := 27) rfl)
  have se_X8_good := hts (.selects RX8 yX8_good yX8_good) (List.mem_of_getElem? (i := 28) rfl)
  have gg_9 : GoodIn vs_w_product (vs_s_take) := goodIn_sub (fun w h => List.mem_cons_of_mem _ (List.mem_append_right _ (List.mem_append_right _ (List.mem_append_right _ (List.mem_append_right _ (List.mem_append_right _ (List.mem_append_right _ (List.mem_append_right _ (List.mem_append_right _ (List.mem_append_right _ (List.mem_append_right _ (List.mem_append_left _ h)))))))))))) gd_s_take
  have im_X8_take := hts (.instanceMethod yX8_take) (List.mem_of_getElem? (i := 29) rfl)
  have se_X8_take := hts (.selects RX8 yX8_take yX8_take) (List.mem_of_getElem? (i := 30) rfl)
  have lf15 := hts (.fieldLink RX2 15 "KerbSplash$LawReader" "law" "LKerbSplash$Law;") (List.mem_of_getElem? (i := 7) rfl)
  have gg_4 : GoodIn vs_w_product (vs_s_ladd) := goodIn_sub (fun w h => List.mem_cons_of_mem _ (List.mem_append_right _ (List.mem_append_right _ (List.mem_append_right _ (List.mem_append_right _ (List.mem_append_right _ (List.mem_append_left _ h))))))) gd_s_ladd
  have ini_RX1 := hts (.initialized RX1) (List.mem_of_getElem? (i := 10) rfl)
  have im_X1_add := hts (.instanceMethod yX1_add) (List.mem_of_getElem? (i := 11) rfl)
  have se_X1_add := hts (.selects RX1 yX1_add yX1_add) (List.mem_of_getElem? (i := 12) rfl)
  refine lv_aload_n hx hb dX2_readProduct_0 rfl (lv_at hlv 0 rfl) ?_
  refine cjr_v [false, false, false, false, false] (fun pre9 => (va_runV (As := []) (rest := []) ⟨hx, hb, hml, hown, hts⟩ (w_unit_step l hl D cy sa d IH lr ta tb fed len at_ we fa fp bf la l0 l2 l3 size st op s.heap.size (by first | exact hr_fed | omega) (by first | exact hr_len | omega) (by first | exact hr_at_ | omega) (by first | exact hr_we | omega) (by first | exact hr_fa | omega) (by first | exact hr_fp | omega) (by first | exact hr_size | omega) (by first | exact hr_op | omega) hst (by omega)) (cwV 0 hts gh_X2_readUnit_108 rfl rfl rfl (by decide +kernel) ⟨by dsimp only [headSpec]; omega, by dsimp only [headSpec]; omega⟩) ⟨pcW.blind, (va_recv hG.1 hP (ci := 2) (q0 := 0) rfl rfl), pre9⟩ rfl rfl hlv.1 rfl (lv_room (Nat.le_of_ble_eq_true rfl)) dX2_readProduct_1 ⟨Nat.le_of_ble_eq_true rfl, Nat.le_of_ble_eq_true rfl⟩)) hP hD hS hA hG hT [0, 1, 2, 3, 4] rfl (by decide +kernel) (fun u1 H locs hw1 hq9 hS => ?_)
  obtain ⟨hq1_0, hq1_1, hq1_2, hq1_3, hq1_4, hq1_5, hq1_6, hq1_7⟩ := hw1
  obtain ⟨hP, hD⟩ := pd9 [zO lr 2 [vR ta, vR la, vI (u1.2.1 5)], zO ta 8 [vR tb, vI fed, vI len, vI (u1.2.1 0), vI (u1.2.1 1), vI (u1.2.1 2), vI (u1.2.1 3)], zI tb (cy 1) 600 bf, zO la 1 [vR l0, vI (u1.2.1 4), vR l2, vR l3], zI l0 (cy 0) 600 (u1.2.2 0)] hq9
  refine lv_iconst (v := iI 0) hx hb dX2_readProduct_4 (by decide) ?_
  refine lv_istore_n (lv' := [(1, vI 0), (0, vR lr)]) hx hb dX2_readProduct_5 rfl hlv (by decide) rfl (fun ls hlv => ?_)
  refine (?_ : ∀ (fu : Nat) (q : Int) (ys : Int) (yo : Int) (yl : Nat → Int32) (ya : Int) (yw : Int) (yf : Int) (yg : Int) (H : Heap) (locs : List Loc) (ls : Array Slot), 600 - q < (fu : Int) → (0 ≤ q ∧ q ≤ 600) → (0 ≤ ys ∧ ys ≤ 600) → (0 ≤ yo ∧ yo ≤ 6) → (0 ≤ ya ∧ ya ≤ 600) → (0 ≤ yw ∧ yw ≤ 600) → (0 ≤ yf ∧ yf ≤ 4) → ((-1) ≤ yg ∧ yg ≤ 600) → (yo = op) → inv_ 600 0 2147483647 yl → va_P D vwCl [zO lr 2 [vR ta, vR la, vI yo], zO ta 8 [vR tb, vI fed, vI len, vI ya, vI yw, vI yf, vI yg], zI tb (cy 1) 600 bf, zO la 1 [vR l0, vI ys, vR l2, vR l3], zI l0 (cy 0) 600 yl] H → va_D A [zO lr 2 [vR ta, vR la, vI yo], zO ta 8 [vR tb, vI fed, vI len, vI ya, vI yw, vI yf, vI yg], zI tb (cy 1) 600 bf, zO la 1 [vR l0, vI ys, vR l2, vR l3], zI l0 (cy 0) 600 yl] → va_S A s.heap H locs → lv_has ls 2 [(1, vI q), (0, vR lr)] → W p l e _ s m _ below meth c H locs _ _ _ (F0 m 6 ls [])) (((600 - 0) + 1 : Int)).toNat 0 (u1.2.1 4) (u1.2.1 5) (u1.2.2 0) (u1.2.1 0) (u1.2.1 1) (u1.2.1 2) (u1.2.1 3) _ _ _ (by omega) (by show (0 : Int) ≤ 0 ∧ (0 : Int) ≤ 600; decide) (by first | exact hq1_4 | omega) (by first | exact hq1_5 | omega) (by first | exact hq1_0 | omega) (by first | exact hq1_1 | omega) (by first | exact hq1_2 | omega) (by first | exact hq1_3 | omega) (by omega) hq1_7 hP hD hS hlv
  clear hP hD hS hlv
  intro fu
  induction fu with
  | zero => intro q ys yo yl ya yw yf yg H locs ls hm6 hl6_0 hl6_1 hl6_2 hl6_3 hl6_4 hl6_5 hl6_6 hl6_7 hiyl hP hD hS hlv; omega
  | succ fu ih6 =>
    intro q ys yo yl ya yw yf yg H locs ls hm6 hl6_0 hl6_1 hl6_2 hl6_3 hl6_4 hl6_5 hl6_6 hl6_7 hiyl hP hD hS hlv
    refine lv_iload_n hx hb dX2_readProduct_6 rfl (lv_at hlv 0 rfl) ?_
    refine lv_sipush (v := iI 600) hx hb dX2_readProduct_7 (by decide) ?_
    refine ir_ge (tgt := 88) hx hb dX2_readProduct_10 (by decide) (by first | exact rgw hl6_0 (by decide) (by decide) | omega) (by show ((-2147483648) : Int) ≤ 600 ∧ (600 : Int) ≤ 2147483647; decide) (fun c_1 => ?_) (fun c_1 => ?_)
    · refine W.widen (k := 0) (n := 0) (Nat.le_of_ble_eq_true rfl) (Nat.le_of_ble_eq_true rfl) ?_
      exact W.vret hx hb hr (fun t ht hW => ⟨⟨((fun k => ([] : List Nat).getD k 0), (fun k => ([ya, yw, yf, yg, ys, yo] : List Int).getD k 0), (fun k => ([yl] : List (Nat → Int32)).getD k (fun _ => 0))), rfl, ⟨(by show (0 ≤ ya ∧ ya ≤ 600); first | exact hl6_3 | omega), (by show (0 ≤ yw ∧ yw ≤ 600); first | exact hl6_4 | omega), (by show (0 ≤ yf ∧ yf ≤ 4); first | exact hl6_5 | omega), (by show ((-1) ≤ yg ∧ yg ≤ 600); first | exact hl6_6 | omega), (by show (0 ≤ ys ∧ ys ≤ 600); first | exact hl6_1 | omega), (by show (0 ≤ yo ∧ yo ≤ 6); first | exact hl6_2 | omega), (by show (yo = op); omega), hiyl⟩, at9 ht hP hD [0, 1, 2, 3, 4] (by decide +kernel) rfl⟩, hS.F ht⟩) hS.2.2 dX2_readProduct_88
    · refine lv_aload_n hx hb dX2_readProduct_13 rfl (lv_at hlv 1 rfl) ?_
      refine va_get (D := D) (ci := 2) (v := vR ta) (C := RX2) (T := TX2) (N := 3) hx hb hts hi2 hown hG.1 hP 0 rfl rfl 0 (by decide) lf9 (fun _ h9 => h9) rfl dX2_readProduct_14 ?_
      refine cjr_i [true, false, true, true, true] (fun pre9 => (va_runVN (host := "KerbSplash") (As := []) (rest := []) ⟨hx, hb, hml, hown, hts⟩ (s_good l hl D cy sa ta tb fed len ya yw yf yg H.size (by first | exact hr_fed | omega) (by first | exact hr_len | omega) (by first | exact hl6_3 | omega) (by first | exact hl6_4 | omega) (by first | exact hl6_5 | omega) (by first | exact hl6_6 | omega)) ⟨va_cnB 0 hts gg_8 rfl rfl rfl (nM_LawReader_79 hG.2.1) ini_RX8 (by decide +kernel) ⟨by dsimp only [headSpec]; omega, by dsimp only [headSpec]; omega⟩, im_X8_good, se_X8_good⟩ ⟨pcW.blind, (va_recv hG.1 hP (ci := 8) (q0 := 1) rfl rfl), pre9⟩ rfl rfl hlv.1 rfl (lv_room (Nat.le_of_ble_eq_true rfl)) dX2_readProduct_17 ⟨Nat.le_of_ble_eq_true rfl, Nat.le_of_ble_eq_true rfl⟩)) hP hD hS hA hG hT [1] rfl (by decide +kernel) (fun r2 u2 H locs hw2 hq9 hS => ?_)
      obtain ⟨rfl, hq2_1, hq2_2, hq2_3⟩ := hw2
      obtain ⟨hP, hD⟩ := pd9 [zO lr 2 [vR ta, vR la, vI yo], zI tb (cy 1) 600 bf, zO la 1 [vR l0, vI ys, vR l2, vR l3], zI l0 (cy 0) 600 yl, zO ta 8 [vR tb, vI fed, vI len, vI ya, vI yw, vI yf, vI yg]] hq9
      refine iz_eq (tgt := 88) hx hb dX2_readProduct_20 (by decide) (by first | exact rgw hq2_1 (by decide) (by decide) | omega) (fun c_2 => ?_) (fun c_2 => ?_)
      · refine W.widen (k := 0) (n := 0) (Nat.le_of_ble_eq_true rfl) (Nat.le_of_ble_eq_true rfl) ?_
        exact W.vret hx hb hr (fun t ht hW => ⟨⟨((fun k => ([] : List Nat).getD k 0), (fun k => ([ya, yw, yf, yg, ys, yo] : List Int).getD k 0), (fun k => ([yl] : List (Nat → Int32)).getD k (fun _ => 0))), rfl, ⟨(by show (0 ≤ ya ∧ ya ≤ 600); first | exact hl6_3 | omega), (by show (0 ≤ yw ∧ yw ≤ 600); first | exact hl6_4 | omega), (by show (0 ≤ yf ∧ yf ≤ 4); first | exact hl6_5 | omega), (by show ((-1) ≤ yg ∧ yg ≤ 600); first | exact hl6_6 | omega), (by show (0 ≤ ys ∧ ys ≤ 600); first | exact hl6_1 | omega), (by show (0 ≤ yo ∧ yo ≤ 6); first | exact hl6_2 | omega), (by show (yo = op); omega), hiyl⟩, at9 ht hP hD [0, 4, 1, 2, 3] (by decide +kernel) rfl⟩, hS.F ht⟩) hS.2.2 dX2_readProduct_88
      · refine lv_aload_n hx hb dX2_readProduct_23 rfl (lv_at hlv 1 rfl) ?_
        refine va_get (D := D) (ci := 2) (v := vR ta) (C := RX2) (T := TX2) (N := 3) hx hb hts hi2 hown hG.1 hP 0 rfl rfl 0 (by decide) lf9 (fun _ h9 => h9) rfl dX2_readProduct_24 ?_
        refine lv_bipush (v := iI 42) hx hb dX2_readProduct_27 (by decide) ?_
        refine cjr_i [true, false, true, true, false] (fun pre9 => (va_runVN (host := "KerbSplash") (As := [vI 42]) (rest := []) ⟨hx, hb, hml, hown, hts⟩ (s_take l hl D cy sa ta tb fed len ya yw yf yg bf 42 H.size (by first | exact hr_fed | omega) (by first | exact hr_len | omega) (by first | exact hl6_3 | omega) (by first | exact hl6_4 | omega) (by first | exact hl6_5 | omega) (by first | exact hl6_6 | omega) (by show (0 : Int) ≤ 42 ∧ (42 : Int) ≤ 65535; decide)) ⟨va_cnB 1 hts gg_9 rfl rfl rfl (nM_LawReader_82 hG.2.1) ini_RX8 (by decide +kernel) ⟨by dsimp only [headSpec]; omega, by dsimp only [headSpec]; omega⟩, im_X8_take, se_X8_take⟩ ⟨pcW.blind, (va_recv hG.1 hP (ci := 8) (q0 := 4) rfl rfl), pre9⟩ rfl rfl hlv.1 rfl (lv_room (Nat.le_of_ble_eq_true rfl)) dX2_readProduct_29 ⟨Nat.le_of_ble_eq_true rfl, Nat.le_of_ble_eq_true rfl⟩)) hP hD hS hA hG hT [4, 1] rfl (by decide +kernel) (fun r3 u3 H locs hw3 hq9 hS => ?_)
        obtain ⟨rfl, hq3_1, hq3_2, hq3_3⟩ := hw3
        obtain ⟨hP, hD⟩ := pd9 [zO lr 2 [vR ta, vR la, vI yo], zO la 1 [vR l0, vI ys, vR l2, vR l3], zI l0 (cy 0) 600 yl, zO ta 8 [vR tb, vI fed, vI len, vI (u3.2.1 1), vI yw, vI yf, vI yg], zI tb (cy 1) 600 bf] hq9
        refine iz_eq (tgt := 52) hx hb dX2_readProduct_32 (by decide) (by first | exact rgw hq3_1 (by decide) (by decide) | omega) (fun c_3 => ?_) (fun c_3 => ?_)
        · refine lv_aload_n hx hb dX2_readProduct_52 rfl (lv_at hlv 1 rfl) ?_
          refine va_get (D := D) (ci := 2) (v := vR ta) (C := RX2) (T := TX2) (N := 3) hx hb hts hi2 hown hG.1 hP 0 rfl rfl 0 (by decide) lf9 (fun _ h9 => h9) rfl dX2_readProduct_53 ?_
          refine lv_bipush (v := iI 47) hx hb dX2_readProduct_56 (by decide) ?_
          refine cjr_i [true, true, true, false, false] (fun pre9 => (va_runVN (host := "KerbSplash") (As := [vI 47]) (rest := []) ⟨hx, hb, hml, hown, hts⟩ (s_take l hl D cy sa ta tb fed len (u3.2.1 1) yw yf yg bf 47 H.size (by first | exact hr_fed | omega) (by first | exact hr_len | omega) (by first | exact hq3_2 | omega) (by first | exact hl6_4 | omega) (by first | exact hl6_5 | omega) (by first | exact hl6_6 | omega) (by show (0 : Int) ≤ 47 ∧ (47 : Int) ≤ 65535; decide)) ⟨va_cnB 1 hts gg_9 rfl rfl rfl (nM_LawReader_82 hG.2.1) ini_RX8 (by decide +kernel) ⟨by dsimp only [headSpec]; omega, by dsimp only [headSpec]; omega⟩, im_X8_take, se_X8_take⟩ ⟨pcW.blind, (va_recv hG.1 hP (ci := 8) (q0 := 3) rfl rfl), pre9⟩ rfl rfl hlv.1 rfl (lv_room (Nat.le_of_ble_eq_true rfl)) dX2_readProduct_58 ⟨Nat.le_of_ble_eq_true rfl, Nat.le_of_ble_eq_true rfl⟩)) hP hD hS hA hG hT [3, 4] rfl (by decide +kernel) (fun r4 u4 H locs hw4 hq9 hS => ?_)
          obtain ⟨rfl, hq4_1, hq4_2, hq4_3⟩ := hw4
          obtain ⟨hP, hD⟩ := pd9 [zO lr 2 [vR ta, vR la, vI yo], zO la 1 [vR l0, vI ys, vR l2, vR l3], zI l0 (cy 0) 600 yl, zO ta 8 [vR tb, vI fed, vI len, vI (u4.2.1 1), vI yw, vI yf, vI yg], zI tb (cy 1) 600 bf] hq9
          refine iz_eq (tgt := 81) hx hb dX2_readProduct_61 (by decide) (by first | exact rgw hq4_1 (by decide) (by decide) | omega) (fun c_4 => ?_) (fun c_4 => ?_)
          · refine W.widen (k := 0) (n := 0) (Nat.le_of_ble_eq_true rfl) (Nat.le_of_ble_eq_true rfl) ?_
            exact W.vret hx hb hr (fun t ht hW => ⟨⟨((fun k => ([] : List Nat).getD k 0), (fun k => ([(u4.2.1 1), yw, yf, yg, ys, yo] : List Int).getD k 0), (fun k => ([yl] : List (Nat → Int32)).getD k (fun _ => 0))), rfl, ⟨(by show (0 ≤ (u4.2.1 1) ∧ (u4.2.1 1) ≤ 600); first | exact hq4_2 | omega), (by show (0 ≤ yw ∧ yw ≤ 600); first | exact hl6_4 | omega), (by show (0 ≤ yf ∧ yf ≤ 4); first | exact hl6_5 | omega), (by show ((-1) ≤ yg ∧ yg ≤ 600); first | exact hl6_6 | omega), (by show (0 ≤ ys ∧ ys ≤ 600); first | exact hl6_1 | omega), (by show (0 ≤ yo ∧ yo ≤ 6); first | exact hl6_2 | omega), (by show (yo = op); omega), hiyl⟩, at9 ht hP hD [0, 3, 4, 1, 2] (by decide +kernel) rfl⟩, hS.F ht⟩) hS.2.2 dX2_readProduct_81
          · refine lv_aload_n hx hb dX2_readProduct_64 rfl (lv_at hlv 1 rfl) ?_
            refine cjr_v [false, false, false, false, false] (fun pre9 => (va_runV (As := []) (rest := []) ⟨hx, hb, hml, hown, hts⟩ (w_unit_step l hl D cy sa d IH lr ta tb fed len (u4.2.1 1) yw yf yg bf la l0 l2 l3 ys yl yo H.size (by first | exact hr_fed | omega) (by first | exact hr_len | omega) (by first | exact hq4_2 | omega) (by first | exact hl6_4 | omega) (by first | exact hl6_5 | omega) (by first | exact hl6_6 | omega) (by first | exact hl6_1 | omega) (by first | exact hl6_2 | omega) hiyl (by omega)) (cwV 0 hts gh_X2_readUnit_108 rfl rfl rfl (by decide +kernel) ⟨by dsimp only [headSpec]; omega, by dsimp only [headSpec]; omega⟩) ⟨pcW.blind, (va_recv hG.1 hP (ci := 2) (q0 := 0) rfl rfl), pre9⟩ rfl rfl hlv.1 rfl (lv_room (Nat.le_of_ble_eq_true rfl)) dX2_readProduct_65 ⟨Nat.le_of_ble_eq_true rfl, Nat.le_of_ble_eq_true rfl⟩)) hP hD hS hA hG hT [0, 3, 4, 1, 2] rfl (by decide +kernel) (fun u5 H locs hw5 hq9 hS => ?_)
            obtain ⟨hq5_0, hq5_1, hq5_2, hq5_3, hq5_4, hq5_5, hq5_6, hq5_7⟩ := hw5
            obtain ⟨hP, hD⟩ := pd9 [zO lr 2 [vR ta, vR la, vI (u5.2.1 5)], zO ta 8 [vR tb, vI fed, vI len, vI (u5.2.1 0), vI (u5.2.1 1), vI (u5.2.1 2), vI (u5.2.1 3)], zI tb (cy 1) 600 bf, zO la 1 [vR l0, vI (u5.2.1 4), vR l2, vR l3], zI l0 (cy 0) 600 (u5.2.2 0)] hq9
            refine lv_aload_n hx hb dX2_readProduct_68 rfl (lv_at hlv 1 rfl) ?_
            refine va_get (D := D) (ci := 2) (v := vR la) (C := RX2) (T := TX2) (N := 3) hx hb hts hi2 hown hG.1 hP 0 rfl rfl 1 (by decide) lf15 (fun _ h9 => h9) rfl dX2_readProduct_69 ?_
            refine lv_iconst (v := iI 5) hx hb dX2_readProduct_72 (by decide) ?_
            refine lv_iconst (v := iI 0) hx hb dX2_readProduct_73 (by decide) ?_
            refine cjr_i [true, true, true, false, false] (fun pre9 => (va_runVN (host := "KerbSplash") (As := [vI 5, vI 0]) (rest := []) ⟨hx, hb, hml, hown, hts⟩ (s_ladd l hl D cy sa la l0 l2 l3 (u5.2.1 4) (u5.2.2 0) 5 0 H.size (by first | exact hq5_4 | omega) (by show (0 : Int) ≤ 5 ∧ (5 : Int) ≤ 15; decide) (by show (0 : Int) ≤ 0 ∧ (0 : Int) ≤ 10000; decide) hq5_7) ⟨va_cnB 2 hts gg_4 rfl rfl rfl (nM_LawReader_65 hG.2.1) ini_RX1 (by decide +kernel) ⟨by dsimp only [headSpec]; omega, by dsimp only [headSpec]; omega⟩, im_X1_add, se_X1_add⟩ ⟨pcW.blind, (va_recv hG.1 hP (ci := 1) (q0 := 3) rfl rfl), pre9⟩ rfl rfl hlv.1 rfl (lv_room (Nat.le_of_ble_eq_true rfl)) dX2_readProduct_74 ⟨Nat.le_of_ble_eq_true rfl, Nat.le_of_ble_eq_true rfl⟩)) hP hD hS hA hG hT [3, 4] rfl (by decide +kernel) (fun r6 u6 H locs hw6 hq9 hS => ?_)
            obtain ⟨rfl, hq6_1, hq6_2, hq6_3, hq6_4⟩ := hw6
            obtain ⟨hP, hD⟩ := pd9 [zO lr 2 [vR ta, vR la, vI (u5.2.1 5)], zO ta 8 [vR tb, vI fed, vI len, vI (u5.2.1 0), vI (u5.2.1 1), vI (u5.2.1 2), vI (u5.2.1 3)], zI tb (cy 1) 600 bf, zO la 1 [vR l0, vI (u6.2.1 1), vR l2, vR l3], zI l0 (cy 0) 600 (u6.2.2 0)] hq9
            refine lv_pop hx hb dX2_readProduct_77 rfl ?_
            refine lv_goto (tgt := 82) hx hb dX2_readProduct_78 (by decide) ?_
            obtain ⟨z_5, hz_5⟩ : ∃ z : Int, z = q + 1 := ⟨_, rfl⟩
            refine lv_iinc (v := iI z_5) (lv' := [(1, vI z_5), (0, vR lr)]) hx hb dX2_readProduct_82 hlv (k := 0) rfl (by rw [hz_5]; exact (Int32.ofInt_add _ _).symm) (by decide) rfl (fun ls hlv => ?_)
            refine lv_goto (tgt := 6) hx hb dX2_readProduct_85 (by decide) ?_
            exact ih6 z_5 (u6.2.1 1) (u5.2.1 5) (u6.2.2 0) (u5.2.1 0) (u5.2.1 1) (u5.2.1 2) (u5.2.1 3) H locs ls (by omega) (by omega) (by first | exact hq6_2 | omega) (by first | exact hq5_5 | omega) (by first | exact hq5_0 | omega) (by first | exact hq5_1 | omega) (by first | exact hq5_2 | omega) (by first | exact hq5_3 | omega) (by omega) hq6_4 (hP.sub [0, 1, 2, 3, 4] rfl) (hD.sub [0, 1, 2, 3, 4] (by decide) rfl) hS (lv_sub hlv [0, 1] rfl)
        · refine lv_aload_n hx hb dX2_readProduct_35 rfl (lv_at hlv 1 rfl) ?_
          refine cjr_v [false, false, false, false, false] (fun pre9 => (va_runV (As := []) (rest := []) ⟨hx, hb, hml, hown, hts⟩ (w_unit_step l hl D cy sa d IH lr ta tb fed len (u3.2.1 1) yw yf yg bf la l0 l2 l3 ys yl yo H.size (by first | exact hr_fed | omega) (by first | exact hr_len | omega) (by first | exact hq3_2 | omega) (by first | exact hl6_4 | omega) (by first | exact hl6_5 | omega) (by first | exact hl6_6 | omega) (by first | exact hl6_1 | omega) (by first | exact hl6_2 | omega) hiyl (by omega)) (cwV 0 hts gh_X2_readUnit_108 rfl rfl rfl (by decide +kernel) ⟨by dsimp only [headSpec]; omega, by dsimp only [headSpec]; omega⟩) ⟨pcW.blind, (va_recv hG.1 hP (ci := 2) (q0 := 0) rfl rfl), pre9⟩ rfl rfl hlv.1 rfl (lv_room (Nat.le_of_ble_eq_true rfl)) dX2_readProduct_36 ⟨Nat.le_of_ble_eq_true rfl, Nat.le_of_ble_eq_true rfl⟩)) hP hD hS hA hG hT [0, 3, 4, 1, 2] rfl (by decide +kernel) (fun u7 H locs hw7 hq9 hS => ?_)
          obtain ⟨hq7_0, hq7_1, hq7_2, hq7_3, hq7_4, hq7_5, hq7_6, hq7_7⟩ := hw7
          obtain ⟨hP, hD⟩ := pd9 [zO lr 2 [vR ta, vR la, vI (u7.2.1 5)], zO ta 8 [vR tb, vI fed, vI len, vI (u7.2.1 0), vI (u7.2.1 1), vI (u7.2.1 2), vI (u7.2.1 3)], zI tb (cy 1) 600 bf, zO la 1 [vR l0, vI (u7.2.1 4), vR l2, vR l3], zI l0 (cy 0) 600 (u7.2.2 0)] hq9
          refine lv_aload_n hx hb dX2_readProduct_39 rfl (lv_at hlv 1 rfl) ?_
          refine va_get (D := D) (ci := 2) (v := vR la) (C := RX2) (T := TX2) (N := 3) hx hb hts hi2 hown hG.1 hP 0 rfl rfl 1 (by decide) lf15 (fun _ h9 => h9) rfl dX2_readProduct_40 ?_
          refine lv_iconst (v := iI 4) hx hb dX2_readProduct_43 (by decide) ?_
          refine lv_iconst (v := iI 0) hx hb dX2_readProduct_44 (by decide) ?_
          refine cjr_i [true, true, true, false, false] (fun pre9 => (va_runVN (host := "KerbSplash") (As := [vI 4, vI 0]) (rest := []) ⟨hx, hb, hml, hown, hts⟩ (s_ladd l hl D cy sa la l0 l2 l3 (u7.2.1 4) (u7.2.2 0) 4 0 H.size (by first | exact hq7_4 | omega) (by show (0 : Int) ≤ 4 ∧ (4 : Int) ≤ 15; decide) (by show (0 : Int) ≤ 0 ∧ (0 : Int) ≤ 10000; decide) hq7_7) ⟨va_cnB 2 hts gg_4 rfl rfl rfl (nM_LawReader_65 hG.2.1) ini_RX1 (by decide +kernel) ⟨by dsimp only [headSpec]; omega, by dsimp only [headSpec]; omega⟩, im_X1_add, se_X1_add⟩ ⟨pcW.blind, (va_recv hG.1 hP (ci := 1) (q0 := 3) rfl rfl), pre9⟩ rfl rfl hlv.1 rfl (lv_room (Nat.le_of_ble_eq_true rfl)) dX2_readProduct_45 ⟨Nat.le_of_ble_eq_true rfl, Nat.le_of_ble_eq_true rfl⟩)) hP hD hS hA hG hT [3, 4] rfl (by decide +kernel) (fun r8 u8 H locs hw8 hq9 hS => ?_)
          obtain ⟨rfl, hq8_1, hq8_2, hq8_3, hq8_4⟩ := hw8
          obtain ⟨hP, hD⟩ := pd9 [zO lr 2 [vR ta, vR la, vI (u7.2.1 5)], zO ta 8 [vR tb, vI fed, vI len, vI (u7.2.1 0), vI (u7.2.1 1), vI (u7.2.1 2), vI (u7.2.1 3)], zI tb (cy 1) 600 bf, zO la 1 [vR l0, vI (u8.2.1 1), vR l2, vR l3], zI l0 (cy 0) 600 (u8.2.2 0)] hq9
          refine lv_pop hx hb dX2_readProduct_48 rfl ?_
          refine lv_goto (tgt := 82) hx hb dX2_readProduct_49 (by decide) ?_
          obtain ⟨z_6, hz_6⟩ : ∃ z : Int, z = q + 1 := ⟨_, rfl⟩
          refine lv_iinc (v := iI z_6) (lv' := [(1, vI z_6), (0, vR lr)]) hx hb dX2_readProduct_82 hlv (k := 0) rfl (by rw [hz_6]; exact (Int32.ofInt_add _ _).symm) (by decide) rfl (fun ls hlv => ?_)
          refine lv_goto (tgt := 6) hx hb dX2_readProduct_85 (by decide) ?_
          exact ih6 z_6 (u8.2.1 1) (u7.2.1 5) (u8.2.2 0) (u7.2.1 0) (u7.2.1 1) (u7.2.1 2) (u7.2.1 3) H locs ls (by omega) (by omega) (by first | exact hq8_2 | omega) (by first | exact hq7_5 | omega) (by first | exact hq7_0 | omega) (by first | exact hq7_1 | omega) (by first | exact hq7_2 | omega) (by first | exact hq7_3 | omega) (by omega) hq8_4 (hP.sub [0, 1, 2, 3, 4] rfl) (hD.sub [0, 1, 2, 3, 4] (by decide) rfl) hS (lv_sub hlv [0, 1] rfl)
set_option maxHeartbeats 4000000 in
set_option maxRecDepth 100000 in
theorem w_choice_step (l : Launch) (hl : l.stackTraces = false) (D : va_G) (cy : Nat → ClassId) (sa : Nat → Nat) (d : Nat) (IH : LR l D cy sa d) (lr : Nat) (ta tb : Nat) (fed len at_ we fa fp : Int) (bf : Nat → Int32) (la l0 l2 l3 : Nat) (size : Int) (st : Nat → Int32) (op : Int) (sz : Nat) (hr_fed : 0 ≤ fed ∧ fed ≤ 600) (hr_len : 0 ≤ len ∧ len ≤ 600) (hr_at_ : 0 ≤ at_ ∧ at_ ≤ 600) (hr_we : 0 ≤ we ∧ we ≤ 600) (hr_fa : 0 ≤ fa ∧ fa ≤ 4) (hr_fp : (-1) ≤ fp ∧ fp ≤ 600) (hr_size : 0 ≤ size ∧ size ≤ 600) (hr_op : 0 ≤ op ∧ op ≤ 6) (hst : inv_ 600 0 2147483647 st) (hlev : (7 : Int) - ((d + 1 : Nat) : Int) ≤ op) : mV9 l yX2_readChoice vs_w_choice ({ frames := 12 * (d + 1) + 0, cells := 0, slots := 0, locals := 900 * (d + 1) + 0 }) D cy sa sz [vR lr] [zO lr 2 [vR ta, vR la, vI op], zO ta 8 [vR tb, vI fed, vI len, vI at_, vI we, vI fa, vI fp], zI tb (cy 1) 600 bf, zO la 1 [vR l0, vI size, vR l2, vR l3], zI l0 (cy 0) 600 st] (fun u : SV => (0 ≤ u.2.1 0 ∧ u.2.1 0 ≤ 600) ∧ (0 ≤ u.2.1 1 ∧ u.2.1 1 ≤ 600) ∧ (0 ≤ u.2.1 2 ∧ u.2.1 2 ≤ 4) ∧ ((-1) ≤ u.2.1 3 ∧ u.2.1 3 ≤ 600) ∧ (0 ≤ u.2.1 4 ∧ u.2.1 4 ≤ 600) ∧ (0 ≤ u.2.1 5 ∧ u.2.1 5 ≤ 6) ∧ (u.2.1 5 = op) ∧ inv_ 600 0 2147483647 (u.2.2 0)) (fun u : SV => [zO lr 2 [vR ta, vR la, vI (u.2.1 5)], zO ta 8 [vR tb, vI fed, vI len, vI (u.2.1 0), vI (u.2.1 1), vI (u.2.1 2), vI (u.2.1 3)], zI tb (cy 1) 600 bf, zO la 1 [vR l0, vI (u.2.1 4), vR l2, vR l3], zI l0 (cy 0) 600 (u.2.2 0)]) 0 0 := by
  refine Met.ofW (cc := cX2_readChoice) (maxL := 3) (ret := none) (by decide) rfl ?_
  intro p e s m args below meth c s₁ B hml hv
  obtain ⟨rfl, hsz, hP, hG, hD0, hT⟩ := hv
  have hx := B.exec
  have hb := B.bytes
  have hr := B.returns
  have hts := atoms_spec (ws := vs_w_choice) B.pre
  have hown : s.vm.findClass RX2 = some m.cls := findClass_of_methodNamed B.named
  have hlocks := B.notSynchronized
  subst hsz
  have hD := hD0.self (sz := s.heap.size)
  generalize hAe : va_A [zO lr 2 [vR ta, vR la, vI op], zO ta 8 [vR tb, vI fed, vI len, vI at_, vI we, vI fa, vI fp], zI tb (cy 1) 600 bf, zO la 1 [vR l0, vI size, vR l2, vR l3], zI l0 (cy 0) 600 st] s.heap.size = A at hD hT ⊢
  have hA : ∀ q : Nat, s.heap.size ≤ q → A q := fun q h => by rw [← hAe]; exact Or.inr h
  have hS : va_S A s.heap s.heap [] := va_S.rf
  have hl0 := lv_entry ([vR lr]) (n := 3) (Nat.le_of_ble_eq_true rfl)
  rw [lg_entry_eq]
  generalize (lg_sl ([vR lr]) ++ List.replicate (3 - (lg_sl ([vR lr])).length) Slot.unset).toArray = ls at hl0 ⊢
  have hlv : lv_has ls 3 [(0, vR lr)] := hl0
  have gg_5 : GoodIn vs_w_choice (wsV RX2 86 RX2 yX2_open vs_w_open) := goodIn_sub (fun w h => List.mem_cons_of_mem _ (List.mem_append_right _ (List.mem_append_right _ (List.mem_append_right _ (List.mem_append_right _ (List.mem_append_right _ (List.mem_append_right _ (List.mem_append_left _ h)))))))) (gd_V gd_w_open (by decide +kernel))
  have lf9 := hts (.fieldLink RX2 9 "KerbSplash$LawReader" "tape" "LKerbSplash$Tape;") (List.mem_of_getElem? (i := 1) rfl)
  have hi2 : ∀ w ∈ wsX20, w ∈ vs_w_choice := fun w h => List.mem_cons_of_mem _ (List.mem_append_right _ (List.mem_append_left _ h))
  have lf69 := hts (.fieldLink RX2 69 "KerbSplash$Word" "IF" "LKerbSplash$Word;") (List.mem_of_getElem? (i := 31) rfl)
  have gg_10 : GoodIn vs_w_choice (vs_s_wantWord) := goodIn_sub (fun w h => List.mem_cons_of_mem _ (List.mem_append_right _ (List.mem_append_right _ (List.mem_append_right _ (List.mem_append_right _ (List.mem_append_right _ (List.mem_append_right _ (List.mem_append_right _ (List.mem_append_right _ (List.mem_append_right _ (List.mem_append_right _ (List.mem_append_right _ (List.mem_append_left _ h))))))))))))) gd_s_wantWord
  have ini_RX8 := hts (.initialized RX8) (List.mem_of_getElem? (i := 2) rfl)
  have im_X8_wantWord := hts (.instanceMethod yX8_wantWord) (List.mem_of_getElem? (i := 32) rfl)
  have se_X8_wantWord := hts (.selects RX8 yX8_wantWord yX8_wantWord) (List.mem_of_getElem? (i := 33) rfl)
  have gh_X2_readCondition_93 : GoodIn vs_w_choice (wsV RX2 93 RX2 yX2_readCondition vs_w_cond) := goodIn_sub (gsub_V (List.mem_append_left _ (List.mem_of_getElem? (i := 33) rfl)) (List.mem_append_left _ (List.mem_of_getElem? (i := 34) rfl)) (List.mem_append_left _ (List.mem_of_getElem? (i := 35) rfl)) (List.mem_append_left _ (List.mem_of_getElem? (i := 17) rfl)) (List.mem_append_left _ (List.mem_of_getElem? (i := 36) rfl))) (gd_V (gd_C (by decide +kernel) gd_LRC) (by decide +kernel))
  have lf96 := hts (.fieldLink RX2 96 "KerbSplash$Word" "THEN" "LKerbSplash$Word;") (List.mem_of_getElem? (i := 38) rfl)
  have lf15 := hts (.fieldLink RX2 15 "KerbSplash$LawReader" "law" "LKerbSplash$Law;") (List.mem_of_getElem? (i := 7) rfl)
  have gg_4 : GoodIn vs_w_choice (vs_s_ladd) := goodIn_sub (fun w h => List.mem_cons_of_mem _ (List.mem_append_right _ (List.mem_append_right _ (List.mem_append_right _ (List.mem_append_right _ (List.mem_append_right _ (List.mem_append_left _ h))))))) gd_s_ladd
  have ini_RX1 := hts (.initialized RX1) (List.mem_of_getElem? (i := 10) rfl)
  have im_X1_add := hts (.instanceMethod yX1_add) (List.mem_of_getElem? (i := 11) rfl)
  have se_X1_add := hts (.selects RX1 yX1_add yX1_add) (List.mem_of_getElem? (i := 12) rfl)
  have gh_X2_readValue_62 : GoodIn vs_w_choice (wsV RX2 62 RX2 yX2_readValue vs_w_val) := goodIn_sub (gsub_V (List.mem_append_left _ (List.mem_of_getElem? (i := 14) rfl)) (List.mem_append_left _ (List.mem_of_getElem? (i := 15) rfl)) (List.mem_append_left _ (List.mem_of_getElem? (i := 16) rfl)) (List.mem_append_left _ (List.mem_of_getElem? (i := 17) rfl)) (List.mem_append_left _ (List.mem_of_getElem? (i := 18) rfl))) (gd_V (gd_C (by decide +kernel) gd_LRC) (by decide +kernel))
  have lf99 := hts (.fieldLink RX2 99 "KerbSplash$Word" "ELSE" "LKerbSplash$Word;") (List.mem_of_getElem? (i := 39) rfl)
  have gg_11 : GoodIn vs_w_choice (vs_s_aim) := goodIn_sub (fun w h => List.mem_cons_of_mem _ (List.mem_append_right _ (List.mem_append_right _ (List.mem_append_right _ (List.mem_append_right _ (List.mem_append_right _ (List.mem_append_right _ (List.mem_append_right _ (List.mem_append_right _ (List.mem_append_right _ (List.mem_append_right _ (List.mem_append_right _ (List.mem_append_right _ (List.mem_append_left _ h)))))))))))))) gd_s_aim
  have im_X1_aim := hts (.instanceMethod yX1_aim) (List.mem_of_getElem? (i := 40) rfl)
  have se_X1_aim := hts (.selects RX1 yX1_aim yX1_aim) (List.mem_of_getElem? (i := 41) rfl)
  have lf105 := hts (.fieldLink RX2 105 "KerbSplash$LawReader" "opened" "I") (List.mem_of_getElem? (i := 20) rfl)
  refine lv_aload_n hx hb dX2_readChoice_0 rfl (lv_at hlv 0 rfl) ?_
  refine cjr_i [false, false, true, true, true] (fun pre9 => (va_runV (As := []) (rest := []) ⟨hx, hb, hml, hown, hts⟩ (w_open l hl D cy sa lr la ta tb fed len at_ we fa fp op s.heap.size (by first | exact hr_fed | omega) (by first | exact hr_len | omega) (by first | exact hr_at_ | omega) (by first | exact hr_we | omega) (by first | exact hr_fa | omega) (by first | exact hr_fp | omega) (by first | exact hr_op | omega)) (cwV 0 hts gg_5 rfl rfl rfl (by decide +kernel) ⟨by dsimp only [headSpec]; omega, by dsimp only [headSpec]; omega⟩) ⟨pcW.blind, (va_recv hG.1 hP (ci := 2) (q0 := 0) rfl rfl), pre9⟩ rfl rfl hlv.1 rfl (lv_room (Nat.le_of_ble_eq_true rfl)) dX2_readChoice_1 ⟨Nat.le_of_ble_eq_true rfl, Nat.le_of_ble_eq_true rfl⟩)) hP hD hS hA hG hT [0, 1] rfl (by decide +kernel) (fun r1 u1 H locs hw1 hq9 hS => ?_)
  obtain ⟨rfl, hq1_1, hq1_2, hq1_3, hq1_4, hq1_5, hq1_6⟩ := hw1
  obtain ⟨hP, hD⟩ := pd9 [zI tb (cy 1) 600 bf, zO la 1 [vR l0, vI size, vR l2, vR l3], zI l0 (cy 0) 600 st, zO lr 2 [vR ta, vR la, vI (u1.2.1 1)], zO ta 8 [vR tb, vI fed, vI len, vI at_, vI we, vI (u1.2.1 2), vI (u1.2.1 3)]] hq9
  refine iz_ne (tgt := 8) hx hb dX2_readChoice_4 (by decide) (by first | exact rgw hq1_1 (by decide) (by decide) | omega) (fun c_1 => ?_) (fun c_1 => ?_)
  · refine lv_aload_n hx hb dX2_readChoice_8 rfl (lv_at hlv 0 rfl) ?_
    refine va_get (D := D) (ci := 2) (v := vR ta) (C := RX2) (T := TX2) (N := 3) hx hb hts hi2 hown hG.1 hP 3 rfl rfl 0 (by decide) lf9 (fun _ h9 => h9) rfl dX2_readChoice_9 ?_
    refine va_gets (C := "KerbSplash$Word") (n := "IF") (d := "LKerbSplash$Word;") (ref := "KerbSplash$Word") (v := .ref (wd sa 16)) hx hb (hT.2.2.1 16 (by decide)).1.1 hS hown lf69 (fun _ h9 => h9) dX2_readChoice_12 ?_
    refine cjr_v [false, true, true, true, false] (fun pre9 => (va_runVN (host := "KerbSplash") (As := [.ref (wd sa 16)]) (rest := []) ⟨hx, hb, hml, hown, hts⟩ (s_wantWord l hl D cy sa ta tb fed len at_ we (u1.2.1 2) (u1.2.1 3) bf 16 H.size (by first | exact hr_fed | omega) (by first | exact hr_len | omega) (by first | exact hr_at_ | omega) (by first | exact hr_we | omega) (by first | exact hq1_3 | omega) (by first | exact hq1_4 | omega) (by show (0 : Int) ≤ 16 ∧ (16 : Int) ≤ 27; decide)) ⟨va_cnB 1 hts gg_10 rfl rfl rfl (nM_LawReader_89 hG.2.1) ini_RX8 (by decide +kernel) ⟨by dsimp only [headSpec]; omega, by dsimp only [headSpec]; omega⟩, im_X8_wantWord, se_X8_wantWord⟩ ⟨pcW.blind, (va_recv hG.1 hP (ci := 8) (q0 := 4) rfl rfl), pre9⟩ rfl rfl hlv.1 rfl (lv_room (Nat.le_of_ble_eq_true rfl)) dX2_readChoice_15 ⟨Nat.le_of_ble_eq_true rfl, Nat.le_of_ble_eq_true rfl⟩)) hP hD hS hA hG hT [4, 0] rfl (by decide +kernel) (fun u2 H locs hw2 hq9 hS => ?_)
    obtain ⟨hq2_0, hq2_1, hq2_2, hq2_3, hq2_4⟩ := hw2
    obtain ⟨hP, hD⟩ := pd9 [zO la 1 [vR l0, vI size, vR l2, vR l3], zI l0 (cy 0) 600 st, zO lr 2 [vR ta, vR la, vI (u1.2.1 1)], zO ta 8 [vR tb, vI fed, vI len, vI (u2.2.1 0), vI (u2.2.1 1), vI (u2.2.1 2), vI (u2.2.1 3)], zI tb (cy 1) 600 bf] hq9
    refine lv_aload_n hx hb dX2_readChoice_18 rfl (lv_at hlv 0 rfl) ?_
    refine cjr_v [false, false, false, false, false] (fun pre9 => (va_runV (As := []) (rest := []) ⟨hx, hb, hml, hown, hts⟩ (IH.2.1 lr ta tb fed len (u2.2.1 0) (u2.2.1 1) (u2.2.1 2) (u2.2.1 3) bf la l0 l2 l3 size st (u1.2.1 1) H.size (by first | exact hr_fed | omega) (by first | exact hr_len | omega) (by first | exact hq2_0 | omega) (by first | exact hq2_1 | omega) (by first | exact hq2_2 | omega) (by first | exact hq2_3 | omega) (by first | exact hr_size | omega) (by first | exact hq1_2 | omega) hst (by omega)) (cwV 0 hts gh_X2_readCondition_93 rfl rfl rfl (by decide +kernel) ⟨by dsimp only [headSpec]; omega, by dsimp only [headSpec]; omega⟩) ⟨pcW.blind, (va_recv hG.1 hP (ci := 2) (q0 := 2) rfl rfl), pre9⟩ rfl rfl hlv.1 rfl (lv_room (Nat.le_of_ble_eq_true rfl)) dX2_readChoice_19 ⟨Nat.le_of_ble_eq_true rfl, Nat.le_of_ble_eq_true rfl⟩)) hP hD hS hA hG hT [2, 3, 4, 0, 1] rfl (by decide +kernel) (fun u3 H locs hw3 hq9 hS => ?_)
    obtain ⟨hq3_0, hq3_1, hq3_2, hq3_3, hq3_4, hq3_5, hq3_6, hq3_7⟩ := hw3
    obtain ⟨hP, hD⟩ := pd9 [zO lr 2 [vR ta, vR la, vI (u3.2.1 5)], zO ta 8 [vR tb, vI fed, vI len, vI (u3.2.1 0), vI (u3.2.1 1), vI (u3.2.1 2), vI (u3.2.1 3)], zI tb (cy 1) 600 bf, zO la 1 [vR l0, vI (u3.2.1 4), vR l2, vR l3], zI l0 (cy 0) 600 (u3.2.2 0)] hq9
    refine lv_aload_n hx hb dX2_readChoice_22 rfl (lv_at hlv 0 rfl) ?_
    refine va_get (D := D) (ci := 2) (v := vR ta) (C := RX2) (T := TX2) (N := 3) hx hb hts hi2 hown hG.1 hP 0 rfl rfl 0 (by decide) lf9 (fun _ h9 => h9) rfl dX2_readChoice_23 ?_
    refine va_gets (C := "KerbSplash$Word") (n := "THEN") (d := "LKerbSplash$Word;") (ref := "KerbSplash$Word") (v := .ref (wd sa 17)) hx hb (hT.2.2.1 17 (by decide)).1.1 hS hown lf96 (fun _ h9 => h9) dX2_readChoice_26 ?_
    refine cjr_v [true, false, false, true, true] (fun pre9 => (va_runVN (host := "KerbSplash") (As := [.ref (wd sa 17)]) (rest := []) ⟨hx, hb, hml, hown, hts⟩ (s_wantWord l hl D cy sa ta tb fed len (u3.2.1 0) (u3.2.1 1) (u3.2.1 2) (u3.2.1 3) bf 17 H.size (by first | exact hr_fed | omega) (by first | exact hr_len | omega) (by first | exact hq3_0 | omega) (by first | exact hq3_1 | omega) (by first | exact hq3_2 | omega) (by first | exact hq3_3 | omega) (by show (0 : Int) ≤ 17 ∧ (17 : Int) ≤ 27; decide)) ⟨va_cnB 1 hts gg_10 rfl rfl rfl (nM_LawReader_89 hG.2.1) ini_RX8 (by decide +kernel) ⟨by dsimp only [headSpec]; omega, by dsimp only [headSpec]; omega⟩, im_X8_wantWord, se_X8_wantWord⟩ ⟨pcW.blind, (va_recv hG.1 hP (ci := 8) (q0 := 1) rfl rfl), pre9⟩ rfl rfl hlv.1 rfl (lv_room (Nat.le_of_ble_eq_true rfl)) dX2_readChoice_29 ⟨Nat.le_of_ble_eq_true rfl, Nat.le_of_ble_eq_true rfl⟩)) hP hD hS hA hG hT [1, 2] rfl (by decide +kernel) (fun u4 H locs hw4 hq9 hS => ?_)
    obtain ⟨hq4_0, hq4_1, hq4_2, hq4_3, hq4_4⟩ := hw4
    obtain ⟨hP, hD⟩ := pd9 [zO lr 2 [vR ta, vR la, vI (u3.2.1 5)], zO la 1 [vR l0, vI (u3.2.1 4), vR l2, vR l3], zI l0 (cy 0) 600 (u3.2.2 0), zO ta 8 [vR tb, vI fed, vI len, vI (u4.2.1 0), vI (u4.2.1 1), vI (u4.2.1 2), vI (u4.2.1 3)], zI tb (cy 1) 600 bf] hq9
    refine lv_aload_n hx hb dX2_readChoice_32 rfl (lv_at hlv 0 rfl) ?_
    refine va_get (D := D) (ci := 2) (v := vR la) (C := RX2) (T := TX2) (N := 3) hx hb hts hi2 hown hG.1 hP 0 rfl rfl 1 (by decide) lf15 (fun _ h9 => h9) rfl dX2_readChoice_33 ?_
    refine lv_bipush (v := iI 12) hx hb dX2_readChoice_36 (by decide) ?_
    refine lv_iconst (v := iI 0) hx hb dX2_readChoice_38 (by decide) ?_
    refine cjr_i [true, false, false, true, true] (fun pre9 => (va_runVN (host := "KerbSplash") (As := [vI 12, vI 0]) (rest := []) ⟨hx, hb, hml, hown, hts⟩ (s_ladd l hl D cy sa la l0 l2 l3 (u3.2.1 4) (u3.2.2 0) 12 0 H.size (by first | exact hq3_4 | omega) (by show (0 : Int) ≤ 12 ∧ (12 : Int) ≤ 15; decide) (by show (0 : Int) ≤ 0 ∧ (0 : Int) ≤ 10000; decide) hq3_7) ⟨va_cnB 2 hts gg_4 rfl rfl rfl (nM_LawReader_65 hG.2.1) ini_RX1 (by decide +kernel) ⟨by dsimp only [headSpec]; omega, by dsimp only [headSpec]; omega⟩, im_X1_add, se_X1_add⟩ ⟨pcW.blind, (va_recv hG.1 hP (ci := 1) (q0 := 1) rfl rfl), pre9⟩ rfl rfl hlv.1 rfl (lv_room (Nat.le_of_ble_eq_true rfl)) dX2_readChoice_39 ⟨Nat.le_of_ble_eq_true rfl, Nat.le_of_ble_eq_true rfl⟩)) hP hD hS hA hG hT [1, 2] rfl (by decide +kernel) (fun r5 u5 H locs hw5 hq9 hS => ?_)
    obtain ⟨rfl, hq5_1, hq5_2, hq5_3, hq5_4⟩ := hw5
    obtain ⟨hP, hD⟩ := pd9 [zO lr 2 [vR ta, vR la, vI (u3.2.1 5)], zO ta 8 [vR tb, vI fed, vI len, vI (u4.2.1 0), vI (u4.2.1 1), vI (u4.2.1 2), vI (u4.2.1 3)], zI tb (cy 1) 600 bf, zO la 1 [vR l0, vI (u5.2.1 1), vR l2, vR l3], zI l0 (cy 0) 600 (u5.2.2 0)] hq9
    refine lv_istore_n (lv' := [(1, vI (u5.2.1 0)), (0, vR lr)]) hx hb dX2_readChoice_42 rfl hlv (by decide) rfl (fun ls hlv => ?_)
    refine lv_aload_n hx hb dX2_readChoice_43 rfl (lv_at hlv 1 rfl) ?_
    refine cjr_v [false, false, false, false, false] (fun pre9 => (va_runV (As := []) (rest := []) ⟨hx, hb, hml, hown, hts⟩ (IH.1 lr ta tb fed len (u4.2.1 0) (u4.2.1 1) (u4.2.1 2) (u4.2.1 3) bf la l0 l2 l3 (u5.2.1 1) (u5.2.2 0) (u3.2.1 5) H.size (by first | exact hr_fed | omega) (by first | exact hr_len | omega) (by first | exact hq4_0 | omega) (by first | exact hq4_1 | omega) (by first | exact hq4_2 | omega) (by first | exact hq4_3 | omega) (by first | exact hq5_2 | omega) (by first | exact hq3_5 | omega) hq5_4 (by omega)) (cwV 0 hts gh_X2_readValue_62 rfl rfl rfl (by decide +kernel) ⟨by dsimp only [headSpec]; omega, by dsimp only [headSpec]; omega⟩) ⟨pcW.blind, (va_recv hG.1 hP (ci := 2) (q0 := 0) rfl rfl), pre9⟩ rfl rfl hlv.1 rfl (lv_room (Nat.le_of_ble_eq_true rfl)) dX2_readChoice_44 ⟨Nat.le_of_ble_eq_true rfl, Nat.le_of_ble_eq_true rfl⟩)) hP hD hS hA hG hT [0, 1, 2, 3, 4] rfl (by decide +kernel) (fun u6 H locs hw6 hq9 hS => ?_)
    obtain ⟨hq6_0, hq6_1, hq6_2, hq6_3, hq6_4, hq6_5, hq6_6, hq6_7⟩ := hw6
    obtain ⟨hP, hD⟩ := pd9 [zO lr 2 [vR ta, vR la, vI (u6.2.1 5)], zO ta 8 [vR tb, vI fed, vI len, vI (u6.2.1 0), vI (u6.2.1 1), vI (u6.2.1 2), vI (u6.2.1 3)], zI tb (cy 1) 600 bf, zO la 1 [vR l0, vI (u6.2.1 4), vR l2, vR l3], zI l0 (cy 0) 600 (u6.2.2 0)] hq9
    refine lv_aload_n hx hb dX2_readChoice_47 rfl (lv_at hlv 1 rfl) ?_
    refine va_get (D := D) (ci := 2) (v := vR ta) (C := RX2) (T := TX2) (N := 3) hx hb hts hi2 hown hG.1 hP 0 rfl rfl 0 (by decide) lf9 (fun _ h9 => h9) rfl dX2_readChoice_48 ?_
    refine va_gets (C := "KerbSplash$Word") (n := "ELSE") (d := "LKerbSplash$Word;") (ref := "KerbSplash$Word") (v := .ref (wd sa 18)) hx hb (hT.2.2.1 18 (by decide)).1.1 hS hown lf99 (fun _ h9 => h9) dX2_readChoice_51 ?_
    refine cjr_v [true, false, false, true, true] (fun pre9 => (va_runVN (host := "KerbSplash") (As := [.ref (wd sa 18)]) (rest := []) ⟨hx, hb, hml, hown, hts⟩ (s_wantWord l hl D cy sa ta tb fed len (u6.2.1 0) (u6.2.1 1) (u6.2.1 2) (u6.2.1 3) bf 18 H.size (by first | exact hr_fed | omega) (by first | exact hr_len | omega) (by first | exact hq6_0 | omega) (by first | exact hq6_1 | omega) (by first | exact hq6_2 | omega) (by first | exact hq6_3 | omega) (by show (0 : Int) ≤ 18 ∧ (18 : Int) ≤ 27; decide)) ⟨va_cnB 1 hts gg_10 rfl rfl rfl (nM_LawReader_89 hG.2.1) ini_RX8 (by decide +kernel) ⟨by dsimp only [headSpec]; omega, by dsimp only [headSpec]; omega⟩, im_X8_wantWord, se_X8_wantWord⟩ ⟨pcW.blind, (va_recv hG.1 hP (ci := 8) (q0 := 1) rfl rfl), pre9⟩ rfl rfl hlv.1 rfl (lv_room (Nat.le_of_ble_eq_true rfl)) dX2_readChoice_54 ⟨Nat.le_of_ble_eq_true rfl, Nat.le_of_ble_eq_true rfl⟩)) hP hD hS hA hG hT [1, 2] rfl (by decide +kernel) (fun u7 H locs hw7 hq9 hS => ?_)
    obtain ⟨hq7_0, hq7_1, hq7_2, hq7_3, hq7_4⟩ := hw7
    obtain ⟨hP, hD⟩ := pd9 [zO lr 2 [vR ta, vR la, vI (u6.2.1 5)], zO la 1 [vR l0, vI (u6.2.1 4), vR l2, vR l3], zI l0 (cy 0) 600 (u6.2.2 0), zO ta 8 [vR tb, vI fed, vI len, vI (u7.2.1 0), vI (u7.2.1 1), vI (u7.2.1 2), vI (u7.2.1 3)], zI tb (cy 1) 600 bf] hq9
    refine lv_aload_n hx hb dX2_readChoice_57 rfl (lv_at hlv 1 rfl) ?_
    refine va_get (D := D) (ci := 2) (v := vR la) (C := RX2) (T := TX2) (N := 3) hx hb hts hi2 hown hG.1 hP 0 rfl rfl 1 (by decide) lf15 (fun _ h9 => h9) rfl dX2_readChoice_58 ?_
    refine lv_bipush (v := iI 11) hx hb dX2_readChoice_61 (by decide) ?_
    refine lv_iconst (v := iI 0) hx hb dX2_readChoice_63 (by decide) ?_
    refine cjr_i [true, false, false, true, true] (fun pre9 => (va_runVN (host := "KerbSplash") (As := [vI 11, vI 0]) (rest := []) ⟨hx, hb, hml, hown, hts⟩ (s_ladd l hl D cy sa la l0 l2 l3 (u6.2.1 4) (u6.2.2 0) 11 0 H.size (by first | exact hq6_4 | omega) (by show (0 : Int) ≤ 11 ∧ (11 : Int) ≤ 15; decide) (by show (0 : Int) ≤ 0 ∧ (0 : Int) ≤ 10000; decide) hq6_7) ⟨va_cnB 2 hts gg_4 rfl rfl rfl (nM_LawReader_65 hG.2.1) ini_RX1 (by decide +kernel) ⟨by dsimp only [headSpec]; omega, by dsimp only [headSpec]; omega⟩, im_X1_add, se_X1_add⟩ ⟨pcW.blind, (va_recv hG.1 hP (ci := 1) (q0 := 1) rfl rfl), pre9⟩ rfl rfl hlv.1 rfl (lv_room (Nat.le_of_ble_eq_true rfl)) dX2_readChoice_64 ⟨Nat.le_of_ble_eq_true rfl, Nat.le_of_ble_eq_true rfl⟩)) hP hD hS hA hG hT [1, 2] rfl (by decide +kernel) (fun r8 u8 H locs hw8 hq9 hS => ?_)
    obtain ⟨rfl, hq8_1, hq8_2, hq8_3, hq8_4⟩ := hw8
    obtain ⟨hP, hD⟩ := pd9 [zO lr 2 [vR ta, vR la, vI (u6.2.1 5)], zO ta 8 [vR tb, vI fed, vI len, vI (u7.2.1 0), vI (u7.2.1 1), vI (u7.2.1 2), vI (u7.2.1 3)], zI tb (cy 1) 600 bf, zO la 1 [vR l0, vI (u8.2.1 1), vR l2, vR l3], zI l0 (cy 0) 600 (u8.2.2 0)] hq9
    refine lv_istore_n (lv' := [(2, vI (u8.2.1 0)), (1, vI (u5.2.1 0)), (0, vR lr)]) hx hb dX2_readChoice_67 rfl hlv (by decide) rfl (fun ls hlv => ?_)
    refine lv_aload_n hx hb dX2_readChoice_68 rfl (lv_at hlv 2 rfl) ?_
    refine va_get (D := D) (ci := 2) (v := vR la) (C := RX2) (T := TX2) (N := 3) hx hb hts hi2 hown hG.1 hP 0 rfl rfl 1 (by decide) lf15 (fun _ h9 => h9) rfl dX2_readChoice_69 ?_
    refine lv_iload_n hx hb dX2_readChoice_72 rfl (lv_at hlv 1 rfl) ?_
    refine cjr_v [true, true, true, false, false] (fun pre9 => (va_runVN (host := "KerbSplash") (As := [vI (u5.2.1 0)]) (rest := []) ⟨hx, hb, hml, hown, hts⟩ (s_aim l hl D cy sa la l0 l2 l3 (u8.2.1 1) (u8.2.2 0) (u5.2.1 0) H.size (by first | exact hq8_2 | omega) (by first | exact rgw hq5_1 (by decide) (by decide) | omega) hq8_4) ⟨va_cnB 1 hts gg_11 rfl rfl rfl (nM_LawReader_102 hG.2.1) ini_RX1 (by decide +kernel) ⟨by dsimp only [headSpec]; omega, by dsimp only [headSpec]; omega⟩, im_X1_aim, se_X1_aim⟩ ⟨pcW.blind, (va_recv hG.1 hP (ci := 1) (q0 := 3) rfl rfl), pre9⟩ rfl rfl hlv.1 rfl (lv_room (Nat.le_of_ble_eq_true rfl)) dX2_readChoice_73 ⟨Nat.le_of_ble_eq_true rfl, Nat.le_of_ble_eq_true rfl⟩)) hP hD hS hA hG hT [3, 4] rfl (by decide +kernel) (fun u9 H locs hw9 hq9 hS => ?_)
    have hq9_0 : inv_ 600 0 2147483647 (u9.2.2 0) := hw9
    obtain ⟨hP, hD⟩ := pd9 [zO lr 2 [vR ta, vR la, vI (u6.2.1 5)], zO ta 8 [vR tb, vI fed, vI len, vI (u7.2.1 0), vI (u7.2.1 1), vI (u7.2.1 2), vI (u7.2.1 3)], zI tb (cy 1) 600 bf, zO la 1 [vR l0, vI (u8.2.1 1), vR l2, vR l3], zI l0 (cy 0) 600 (u9.2.2 0)] hq9
    refine lv_aload_n hx hb dX2_readChoice_76 rfl (lv_at hlv 2 rfl) ?_
    refine cjr_v [false, false, false, false, false] (fun pre9 => (va_runV (As := []) (rest := []) ⟨hx, hb, hml, hown, hts⟩ (IH.1 lr ta tb fed len (u7.2.1 0) (u7.2.1 1) (u7.2.1 2) (u7.2.1 3) bf la l0 l2 l3 (u8.2.1 1) (u9.2.2 0) (u6.2.1 5) H.size (by first | exact hr_fed | omega) (by first | exact hr_len | omega) (by first | exact hq7_0 | omega) (by first | exact hq7_1 | omega) (by first | exact hq7_2 | omega) (by first | exact hq7_3 | omega) (by first | exact hq8_2 | omega) (by first | exact hq6_5 | omega) hq9_0 (by omega)) (cwV 0 hts gh_X2_readValue_62 rfl rfl rfl (by decide +kernel) ⟨by dsimp only [headSpec]; omega, by dsimp only [headSpec]; omega⟩) ⟨pcW.blind, (va_recv hG.1 hP (ci := 2) (q0 := 0) rfl rfl), pre9⟩ rfl rfl hlv.1 rfl (lv_room (Nat.le_of_ble_eq_true rfl)) dX2_readChoice_77 ⟨Nat.le_of_ble_eq_true rfl, Nat.le_of_ble_eq_true rfl⟩)) hP hD hS hA hG hT [0, 1, 2, 3, 4] rfl (by decide +kernel) (fun u10 H locs hw10 hq9 hS => ?_)
    obtain ⟨hq10_0, hq10_1, hq10_2, hq10_3, hq10_4, hq10_5, hq10_6, hq10_7⟩ := hw10
    obtain ⟨hP, hD⟩ := pd9 [zO lr 2 [vR ta, vR la, vI (u10.2.1 5)], zO ta 8 [vR tb, vI fed, vI len, vI (u10.2.1 0), vI (u10.2.1 1), vI (u10.2.1 2), vI (u10.2.1 3)], zI tb (cy 1) 600 bf, zO la 1 [vR l0, vI (u10.2.1 4), vR l2, vR l3], zI l0 (cy 0) 600 (u10.2.2 0)] hq9
    refine lv_aload_n hx hb dX2_readChoice_80 rfl (lv_at hlv 2 rfl) ?_
    refine va_get (D := D) (ci := 2) (v := vR la) (C := RX2) (T := TX2) (N := 3) hx hb hts hi2 hown hG.1 hP 0 rfl rfl 1 (by decide) lf15 (fun _ h9 => h9) rfl dX2_readChoice_81 ?_
    refine lv_iload_n hx hb dX2_readChoice_84 rfl (lv_at hlv 0 rfl) ?_
    refine cjr_v [true, true, true, false, false] (fun pre9 => (va_runVN (host := "KerbSplash") (As := [vI (u8.2.1 0)]) (rest := []) ⟨hx, hb, hml, hown, hts⟩ (s_aim l hl D cy sa la l0 l2 l3 (u10.2.1 4) (u10.2.2 0) (u8.2.1 0) H.size (by first | exact hq10_4 | omega) (by first | exact rgw hq8_1 (by decide) (by decide) | omega) hq10_7) ⟨va_cnB 1 hts gg_11 rfl rfl rfl (nM_LawReader_102 hG.2.1) ini_RX1 (by decide +kernel) ⟨by dsimp only [headSpec]; omega, by dsimp only [headSpec]; omega⟩, im_X1_aim, se_X1_aim⟩ ⟨pcW.blind, (va_recv hG.1 hP (ci := 1) (q0 := 3) rfl rfl), pre9⟩ rfl rfl hlv.1 rfl (lv_room (Nat.le_of_ble_eq_true rfl)) dX2_readChoice_85 ⟨Nat.le_of_ble_eq_true rfl, Nat.le_of_ble_eq_true rfl⟩)) hP hD hS hA hG hT [3, 4] rfl (by decide +kernel) (fun u11 H locs hw11 hq9 hS => ?_)
    have hq11_0 : inv_ 600 0 2147483647 (u11.2.2 0) := hw11
    obtain ⟨hP, hD⟩ := pd9 [zO lr 2 [vR ta, vR la, vI (u10.2.1 5)], zO ta 8 [vR tb, vI fed, vI len, vI (u10.2.1 0), vI (u10.2.1 1), vI (u10.2.1 2), vI (u10.2.1 3)], zI tb (cy 1) 600 bf, zO la 1 [vR l0, vI (u10.2.1 4), vR l2, vR l3], zI l0 (cy 0) 600 (u11.2.2 0)] hq9
    refine lv_aload_n hx hb dX2_readChoice_88 rfl (lv_at hlv 2 rfl) ?_
    refine lv_dup hx hb dX2_readChoice_89 rfl ?_
    refine va_get (D := D) (ci := 2) (v := vI (u10.2.1 5)) (C := RX2) (T := TX2) (N := 3) hx hb hts hi2 hown hG.1 hP 0 rfl rfl 2 (by decide) lf105 (fun _ h9 => h9) rfl dX2_readChoice_90 ?_
    refine lv_iconst (v := iI 1) hx hb dX2_readChoice_93 (by decide) ?_
    refine lv_isub hx hb dX2_readChoice_94 ?_
    refine lt_e (e0 := (u10.2.1 5) - 1) (Int32.ofInt_sub _ _).symm (fun z_2 hz_2 => ?_)
    refine va_put (D := D) (ci := 2) (v := vI z_2) (ty := .int) (C := RX2) (T := TX2) (N := 3) hx hb hts hi2 tyX2 tyX2_ok nmX2 hown hG.1 hP hD hS 0 rfl rfl 2 (by decide) lf105 (fun _ h9 => h9) rfl (by decide +kernel) rfl rfl (Nat.le_of_ble_eq_true rfl) dX2_readChoice_95 (fun H locs hP hD hS => ?_)
    obtain ⟨hP, hD⟩ := pw9 [zO lr 2 [vR ta, vR la, vI z_2], zO ta 8 [vR tb, vI fed, vI len, vI (u10.2.1 0), vI (u10.2.1 1), vI (u10.2.1 2), vI (u10.2.1 3)], zI tb (cy 1) 600 bf, zO la 1 [vR l0, vI (u10.2.1 4), vR l2, vR l3], zI l0 (cy 0) 600 (u11.2.2 0)] hP hD
    refine W.widen (k := 0) (n := 0) (Nat.le_of_ble_eq_true rfl) (Nat.le_of_ble_eq_true rfl) ?_
    exact W.vret hx hb hr (fun t ht hW => ⟨⟨((fun k => ([] : List Nat).getD k 0), (fun k => ([(u10.2.1 0), (u10.2.1 1), (u10.2.1 2), (u10.2.1 3), (u10.2.1 4), z_2] : List Int).getD k 0), (fun k => ([(u11.2.2 0)] : List (Nat → Int32)).getD k (fun _ => 0))), rfl, ⟨(by show (0 ≤ (u10.2.1 0) ∧ (u10.2.1 0) ≤ 600); first | exact hq10_0 | omega), (by show (0 ≤ (u10.2.1 1) ∧ (u10.2.1 1) ≤ 600); first | exact hq10_1 | omega), (by show (0 ≤ (u10.2.1 2) ∧ (u10.2.1 2) ≤ 4); first | exact hq10_2 | omega), (by show ((-1) ≤ (u10.2.1 3) ∧ (u10.2.1 3) ≤ 600); first | exact hq10_3 | omega), (by show (0 ≤ (u10.2.1 4) ∧ (u10.2.1 4) ≤ 600); first | exact hq10_4 | omega), (by show (0 ≤ z_2 ∧ z_2 ≤ 6); omega), (by show (z_2 = op); omega), hq11_0⟩, at9 ht hP hD [0, 1, 2, 3, 4] (by decide +kernel) rfl⟩, hS.F ht⟩) hS.2.2 dX2_readChoice_98
  · refine W.widen (k := 0) (n := 0) (Nat.le_of_ble_eq_true rfl) (Nat.le_of_ble_eq_true rfl) ?_
    exact W.vret hx hb hr (fun t ht hW => ⟨⟨((fun k => ([] : List Nat).getD k 0), (fun k => ([at_, we, (u1.2.1 2), (u1.2.1 3), size, (u1.2.1 1)] : List Int).getD k 0), (fun k => ([st] : List (Nat → Int32)).getD k (fun _ => 0))), rfl, ⟨(by show (0 ≤ at_ ∧ at_ ≤ 600); first | exact hr_at_ | omega), (by show (0 ≤ we ∧ we ≤ 600); first | exact hr_we | omega), (by show (0 ≤ (u1.2.1 2) ∧ (u1.2.1 2) ≤ 4); first | exact hq1_3 | omega), (by show ((-1) ≤ (u1.2.1 3) ∧ (u1.2.1 3) ≤ 600); first | exact hq1_4 | omega), (by show (0 ≤ size ∧ size ≤ 600); first | exact hr_size | omega), (by show (0 ≤ (u1.2.1 1) ∧ (u1.2.1 1) ≤ 6); first | exact hq1_2 | omega), (by show ((u1.2.1 1) = op); omega), hst⟩, at9 ht hP hD [3, 4, 0, 1, 2] (by decide +kernel) rfl⟩, hS.F ht⟩) hS.2.2 dX2_readChoice_7
set_option maxHeartbeats 4000000 in
set_option maxRecDepth 100000 in
theorem w_val_step (l : Launch) (hl : l.stackTraces = false) (D : va_G) (cy : Nat → ClassId) (sa : Nat → Nat) (d : Nat) (IH : LR l D cy sa d) (lr : Nat) (ta tb : Nat) (fed len at_ we fa fp : Int) (bf : Nat → Int32) (la l0 l2 l3 : Nat) (size : Int) (st : Nat → Int32) (op : Int) (sz : Nat) (hr_fed : 0 ≤ fed ∧ fed ≤ 600) (hr_len : 0 ≤ len ∧ len ≤ 600) (hr_at_ : 0 ≤ at_ ∧ at_ ≤ 600) (hr_we : 0 ≤ we ∧ we ≤ 600) (hr_fa : 0 ≤ fa ∧ fa ≤ 4) (hr_fp : (-1) ≤ fp ∧ fp ≤ 600) (hr_size : 0 ≤ size ∧ size ≤ 600) (hr_op : 0 ≤ op ∧ op ≤ 6) (hst : inv_ 600 0 2147483647 st) (hlev : (7 : Int) - ((d + 1 : Nat) : Int) ≤ op) : mV9 l yX2_readValue vs_w_val ({ frames := 12 * (d + 1) + 2, cells := 0, slots := 0, locals := 900 * (d + 1) + 80 }) D cy sa sz [vR lr] [zO lr 2 [vR ta, vR la, vI op], zO ta 8 [vR tb, vI fed, vI len, vI at_, vI we, vI fa, vI fp], zI tb (cy 1) 600 bf, zO la 1 [vR l0, vI size, vR l2, vR l3], zI l0 (cy 0) 600 st] (fun u : SV => (0 ≤ u.2.1 0 ∧ u.2.1 0 ≤ 600) ∧ (0 ≤ u.2.1 1 ∧ u.2.1 1 ≤ 600) ∧ (0 ≤ u.2.1 2 ∧ u.2.1 2 ≤ 4) ∧ ((-1) ≤ u.2.1 3 ∧ u.2.1 3 ≤ 600) ∧ (0 ≤ u.2.1 4 ∧ u.2.1 4 ≤ 600) ∧ (0 ≤ u.2.1 5 ∧ u.2.1 5 ≤ 6) ∧ (u.2.1 5 = op) ∧ inv_ 600 0 2147483647 (u.2.2 0)) (fun u : SV => [zO lr 2 [vR ta, vR la, vI (u.2.1 5)], zO ta 8 [vR tb, vI fed, vI len, vI (u.2.1 0), vI (u.2.1 1), vI (u.2.1 2), vI (u.2.1 3)], zI tb (cy 1) 600 bf, zO la 1 [vR l0, vI (u.2.1 4), vR l2, vR l3], zI l0 (cy 0) 600 (u.2.2 0)]) 0 0 := by
  refine Met.ofW (cc := cX2_readValue) (maxL := 2) (ret := none) (by decide) rfl ?_
  intro p e s m args below meth c s₁ B hml hv
  obtain ⟨rfl, hsz, hP, hG, hD0, hT⟩ := hv
  have hx := B.exec
  have hb := B.bytes
  have hr := B.returns
  have hts := atoms_spec (ws := vs_w_val) B.pre
  have hown : s.vm.findClass RX2 = some m.cls := findClass_of_methodNamed B.named
  have hlocks := B.notSynchronized
  subst hsz
  have hD := hD0.self (sz := s.heap.size)
  generalize hAe : va_A [zO lr 2 [vR ta, vR la, vI op], zO ta 8 [vR tb, vI fed, vI len, vI at_, vI we, vI fa, vI fp], zI tb (cy 1) 600 bf, zO la 1 [vR l0, vI size, vR l2, vR l3], zI l0 (cy 0) 600 st] s.heap.size = A at hD hT ⊢
  have hA : ∀ q : Nat, s.heap.size ≤ q → A q := fun q h => by rw [← hAe]; exact Or.inr h
  have hS : va_S A s.heap s.heap [] := va_S.rf
  have hl0 := lv_entry ([vR lr]) (n := 2) (Nat.le_of_ble_eq_true rfl)
  rw [lg_entry_eq]
  generalize (lg_sl ([vR lr]) ++ List.replicate (2 - (lg_sl ([vR lr])).length) Slot.unset).toArray = ls at hl0 ⊢
  have hlv : lv_has ls 2 [(0, vR lr)] := hl0
  have lf9 := hts (.fieldLink RX2 9 "KerbSplash$LawReader" "tape" "LKerbSplash$Tape;") (List.mem_of_getElem? (i := 1) rfl)
  have hi2 : ∀ w ∈ wsX20, w ∈ vs_w_val := fun w h => List.mem_cons_of_mem _ (List.mem_append_right _ (List.mem_append_left _ h))
  have gg_1 : GoodIn vs_w_val (vs_s_word) := goodIn_sub (fun w h => List.mem_cons_of_mem _ (List.mem_append_right _ (List.mem_append_right _ (List.mem_append_left _ h)))) gd_s_word
  have ini_RX8 := hts (.initialized RX8) (List.mem_of_getElem? (i := 2) rfl)
  have im_X8_word := hts (.instanceMethod yX8_word) (List.mem_of_getElem? (i := 3) rfl)
  have se_X8_word := hts (.selects RX8 yX8_word yX8_word) (List.mem_of_getElem? (i := 4) rfl)
  have lf69 := hts (.fieldLink RX2 69 "KerbSplash$Word" "IF" "LKerbSplash$Word;") (List.mem_of_getElem? (i := 31) rfl)
  have gh_X2_readProduct_76 : GoodIn vs_w_val (wsV RX2 76 RX2 yX2_readProduct vs_w_product) := goodIn_sub (gsub_V (List.mem_append_left _ (List.mem_of_getElem? (i := 41) rfl)) (List.mem_append_left _ (List.mem_of_getElem? (i := 42) rfl)) (List.mem_append_left _ (List.mem_of_getElem? (i := 43) rfl)) (List.mem_append_left _ (List.mem_of_getElem? (i := 17) rfl)) (List.mem_append_left _ (List.mem_of_getElem? (i := 44) rfl))) (gd_V (gd_C (by decide +kernel) gd_LRC) (by decide +kernel))
  have gg_8 : GoodIn vs_w_val (vs_s_good) := goodIn_sub (fun w h => List.mem_cons_of_mem _ (List.mem_append_right _ (List.mem_append_right _ (List.mem_append_right _ (List.mem_append_right _ (List.mem_append_right _ (List.mem_append_right _ (List.mem_append_right _ (List.mem_append_right _ (List.mem_append_right _ (List.mem_append_left _ h))))))))))) gd_s_good
  have im_X8_good := hts (.instanceMethod yX8_good) (List.mem_of_getElem? (i := 27) rfl)
  have se_X8_good := hts (.selects RX8 yX8_good yX8_good) (List.mem_of_getElem? (i := 28) rfl)
  have gg_9 : GoodIn vs_w_val (vs_s_take) := goodIn_sub (fun w h => List.mem_cons_of_mem _ (List.mem_append_right _ (List.mem_append_right _ (List.mem_append_right _ (List.mem_append_right _ (List.mem_append_right _ (List.mem_append_right _ (List.mem_append_right _ (List.mem_append_right _ (List.mem_append_right _ (List.mem_append_right _ (List.mem_append_left _ h)))))))))))) gd_s_take
  have im_X8_take := hts (.instanceMethod yX8_take) (List.mem_of_getElem? (i := 29) rfl)
  have se_X8_take := hts (.selects RX8 yX8_take yX8_take) (List.mem_of_getElem? (i := 30) rfl)
  have lf15 := hts (.fieldLink RX2 15 "KerbSplash$LawReader" "law" "LKerbSplash$Law;") (List.mem_of_getElem? (i := 7) rfl)
  have gg_4 : GoodIn vs_w_val (vs_s_ladd) := goodIn_sub (fun w h => List.mem_cons_of_mem _ (List.mem_append_right _ (List.mem_append_right _ (List.mem_append_right _ (List.mem_append_right _ (List.mem_append_right _ (List.mem_append_left _ h))))))) gd_s_ladd
  have ini_RX1 := hts (.initialized RX1) (List.mem_of_getElem? (i := 10) rfl)
  have im_X1_add := hts (.instanceMethod yX1_add) (List.mem_of_getElem? (i := 11) rfl)
  have se_X1_add := hts (.selects RX1 yX1_add yX1_add) (List.mem_of_getElem? (i := 12) rfl)
  have gh_X2_readChoice_73 : GoodIn vs_w_val (wsV RX2 73 RX2 yX2_readChoice vs_w_choice) := goodIn_sub (gsub_V (List.mem_append_left _ (List.mem_of_getElem? (i := 45) rfl)) (List.mem_append_left _ (List.mem_of_getElem? (i := 46) rfl)) (List.mem_append_left _ (List.mem_of_getElem? (i := 47) rfl)) (List.mem_append_left _ (List.mem_of_getElem? (i := 17) rfl)) (List.mem_append_left _ (List.mem_of_getElem? (i := 48) rfl))) (gd_V (gd_C (by decide +kernel) gd_LRC) (by decide +kernel))
  refine lv_aload_n hx hb dX2_readValue_0 rfl (lv_at hlv 0 rfl) ?_
  refine va_get (D := D) (ci := 2) (v := vR ta) (C := RX2) (T := TX2) (N := 3) hx hb hts hi2 hown hG.1 hP 0 rfl rfl 0 (by decide) lf9 (fun _ h9 => h9) rfl dX2_readValue_1 ?_
  refine cjr_r (ra := fun u : SV => wd sa (u.2.1 0)) [true, false, false, true, true] (fun pre9 => (va_runVN (host := "KerbSplash") (As := []) (rest := []) ⟨hx, hb, hml, hown, hts⟩ (s_word l hl D cy sa ta tb fed len at_ we fa fp bf s.heap.size (by first | exact hr_fed | omega) (by first | exact hr_len | omega) (by first | exact hr_at_ | omega) (by first | exact hr_we | omega) (by first | exact hr_fa | omega) (by first | exact hr_fp | omega)) ⟨va_cnB 0 hts gg_1 rfl rfl rfl (nM_LawReader_33 hG.2.1) ini_RX8 (by decide +kernel) ⟨by dsimp only [headSpec]; omega, by dsimp only [headSpec]; omega⟩, im_X8_word, se_X8_word⟩ ⟨pcW.blind, (va_recv hG.1 hP (ci := 8) (q0 := 1) rfl rfl), pre9⟩ rfl rfl hlv.1 rfl (lv_room (Nat.le_of_ble_eq_true rfl)) dX2_readValue_4 ⟨Nat.le_of_ble_eq_true rfl, Nat.le_of_ble_eq_true rfl⟩)) hP hD hS hA hG hT [1, 2] rfl (by decide +kernel) (fun u1 H locs hw1 hq9 hS => ?_)
  obtain ⟨hq1_0, hq1_1, hq1_2⟩ := hw1
  obtain ⟨hP, hD⟩ := pd9 [zO lr 2 [vR ta, vR la, vI op], zO la 1 [vR l0, vI size, vR l2, vR l3], zI l0 (cy 0) 600 st, zO ta 8 [vR tb, vI fed, vI len, vI (u1.2.1 1), vI (u1.2.1 2), vI fa, vI fp], zI tb (cy 1) 600 bf] hq9
  refine va_gets (C := "KerbSplash$Word") (n := "IF") (d := "LKerbSplash$Word;") (ref := "KerbSplash$Word") (v := .ref (wd sa 16)) hx hb (hT.2.2.1 16 (by decide)).1.1 hS hown lf69 (fun _ h9 => h9) dX2_readValue_7 ?_
  refine aw_ne (tgt := 18) hx hb hT.2.2 dX2_readValue_10 (by decide) (by omega) (by omega) (fun c_1 => ?_) (fun c_1 => ?_)
  · refine lv_aload_n hx hb dX2_readValue_18 rfl (lv_at hlv 0 rfl) ?_
    refine cjr_v [false, false, false, false, false] (fun pre9 => (va_runV (As := []) (rest := []) ⟨hx, hb, hml, hown, hts⟩ (w_product_step l hl D cy sa d IH lr ta tb fed len (u1.2.1 1) (u1.2.1 2) fa fp bf la l0 l2 l3 size st op H.size (by first | exact hr_fed | omega) (by first | exact hr_len | omega) (by first | exact hq1_1 | omega) (by first | exact hq1_2 | omega) (by first | exact hr_fa | omega) (by first | exact hr_fp | omega) (by first | exact hr_size | omega) (by first | exact hr_op | omega) hst (by omega)) (cwV 0 hts gh_X2_readProduct_76 rfl rfl rfl (by decide +kernel) ⟨by dsimp only [headSpec]; omega, by dsimp only [headSpec]; omega⟩) ⟨pcW.blind, (va_recv hG.1 hP (ci := 2) (q0 := 0) rfl rfl), pre9⟩ rfl rfl hlv.1 rfl (lv_room (Nat.le_of_ble_eq_true rfl)) dX2_readValue_19 ⟨Nat.le_of_ble_eq_true rfl, Nat.le_of_ble_eq_true rfl⟩)) hP hD hS hA hG hT [0, 3, 4, 1, 2] rfl (by decide +kernel) (fun u2 H locs hw2 hq9 hS => ?_)
    obtain ⟨hq2_0, hq2_1, hq2_2, hq2_3, hq2_4, hq2_5, hq2_6, hq2_7⟩ := hw2
    obtain ⟨hP, hD⟩ := pd9 [zO lr 2 [vR ta, vR la, vI (u2.2.1 5)], zO ta 8 [vR tb, vI fed, vI len, vI (u2.2.1 0), vI (u2.2.1 1), vI (u2.2.1 2), vI (u2.2.1 3)], zI tb (cy 1) 600 bf, zO la 1 [vR l0, vI (u2.2.1 4), vR l2, vR l3], zI l0 (cy 0) 600 (u2.2.2 0)] hq9
    refine lv_iconst (v := iI 0) hx hb dX2_readValue_22 (by decide) ?_
    refine lv_istore_n (lv' := [(1, vI 0), (0, vR lr)]) hx hb dX2_readValue_23 rfl hlv (by decide) rfl (fun ls hlv => ?_)
    refine (?_ : ∀ (fu : Nat) (q : Int) (ys : Int) (yo : Int) (yl : Nat → Int32) (ya : Int) (yw : Int) (yf : Int) (yg : Int) (H : Heap) (locs : List Loc) (ls : Array Slot), 600 - q < (fu : Int) → (0 ≤ q ∧ q ≤ 600) → (0 ≤ ys ∧ ys ≤ 600) → (0 ≤ yo ∧ yo ≤ 6) → (0 ≤ ya ∧ ya ≤ 600) → (0 ≤ yw ∧ yw ≤ 600) → (0 ≤ yf ∧ yf ≤ 4) → ((-1) ≤ yg ∧ yg ≤ 600) → (yo = op) → inv_ 600 0 2147483647 yl → va_P D vwCl [zO lr 2 [vR ta, vR la, vI yo], zO ta 8 [vR tb, vI fed, vI len, vI ya, vI yw, vI yf, vI yg], zI tb (cy 1) 600 bf, zO la 1 [vR l0, vI ys, vR l2, vR l3], zI l0 (cy 0) 600 yl] H → va_D A [zO lr 2 [vR ta, vR la, vI yo], zO ta 8 [vR tb, vI fed, vI len, vI ya, vI yw, vI yf, vI yg], zI tb (cy 1) 600 bf, zO la 1 [vR l0, vI ys, vR l2, vR l3], zI l0 (cy 0) 600 yl] → va_S A s.heap H locs → lv_has ls 2 [(1, vI q), (0, vR lr)] → W p l e _ s m _ below meth c H locs _ _ _ (F0 m 24 ls [])) (((600 - 0) + 1 : Int)).toNat 0 (u2.2.1 4) (u2.2.1 5) (u2.2.2 0) (u2.2.1 0) (u2.2.1 1) (u2.2.1 2) (u2.2.1 3) _ _ _ (by omega) (by show (0 : Int) ≤ 0 ∧ (0 : Int) ≤ 600; decide) (by first | exact hq2_4 | omega) (by first | exact hq2_5 | omega) (by first | exact hq2_0 | omega) (by first | exact hq2_1 | omega) (by first | exact hq2_2 | omega) (by first | exact hq2_3 | omega) (by omega) hq2_7 hP hD hS hlv
    clear hP hD hS hlv
    intro fu
    induction fu with
    | zero => intro q ys yo yl ya yw yf yg H locs ls hm24 hl24_0 hl24_1 hl24_2 hl24_3 hl24_4 hl24_5 hl24_6 hl24_7 hiyl hP hD hS hlv; omega
    | succ fu ih24 =>
      intro q ys yo yl ya yw yf yg H locs ls hm24 hl24_0 hl24_1 hl24_2 hl24_3 hl24_4 hl24_5 hl24_6 hl24_7 hiyl hP hD hS hlv
      refine lv_iload_n hx hb dX2_readValue_24 rfl (lv_at hlv 0 rfl) ?_
      refine lv_sipush (v := iI 600) hx hb dX2_readValue_25 (by decide) ?_
      refine ir_ge (tgt := 106) hx hb dX2_readValue_28 (by decide) (by first | exact rgw hl24_0 (by decide) (by decide) | omega) (by show ((-2147483648) : Int) ≤ 600 ∧ (600 : Int) ≤ 2147483647; decide) (fun c_2 => ?_) (fun c_2 => ?_)
      · refine W.widen (k := 0) (n := 0) (Nat.le_of_ble_eq_true rfl) (Nat.le_of_ble_eq_true rfl) ?_
        exact W.vret hx hb hr (fun t ht hW => ⟨⟨((fun k => ([] : List Nat).getD k 0), (fun k => ([ya, yw, yf, yg, ys, yo] : List Int).getD k 0), (fun k => ([yl] : List (Nat → Int32)).getD k (fun _ => 0))), rfl, ⟨(by show (0 ≤ ya ∧ ya ≤ 600); first | exact hl24_3 | omega), (by show (0 ≤ yw ∧ yw ≤ 600); first | exact hl24_4 | omega), (by show (0 ≤ yf ∧ yf ≤ 4); first | exact hl24_5 | omega), (by show ((-1) ≤ yg ∧ yg ≤ 600); first | exact hl24_6 | omega), (by show (0 ≤ ys ∧ ys ≤ 600); first | exact hl24_1 | omega), (by show (0 ≤ yo ∧ yo ≤ 6); first | exact hl24_2 | omega), (by show (yo = op); omega), hiyl⟩, at9 ht hP hD [0, 1, 2, 3, 4] (by decide +kernel) rfl⟩, hS.F ht⟩) hS.2.2 dX2_readValue_106
      · refine lv_aload_n hx hb dX2_readValue_31 rfl (lv_at hlv 1 rfl) ?_
        refine va_get (D := D) (ci := 2) (v := vR ta) (C := RX2) (T := TX2) (N := 3) hx hb hts hi2 hown hG.1 hP 0 rfl rfl 0 (by decide) lf9 (fun _ h9 => h9) rfl dX2_readValue_32 ?_
        refine cjr_i [true, false, true, true, true] (fun pre9 => (va_runVN (host := "KerbSplash") (As := []) (rest := []) ⟨hx, hb, hml, hown, hts⟩ (s_good l hl D cy sa ta tb fed len ya yw yf yg H.size (by first | exact hr_fed | omega) (by first | exact hr_len | omega) (by first | exact hl24_3 | omega) (by first | exact hl24_4 | omega) (by first | exact hl24_5 | omega) (by first | exact hl24_6 | omega)) ⟨va_cnB 0 hts gg_8 rfl rfl rfl (nM_LawReader_79 hG.2.1) ini_RX8 (by decide +kernel) ⟨by dsimp only [headSpec]; omega, by dsimp only [headSpec]; omega⟩, im_X8_good, se_X8_good⟩ ⟨pcW.blind, (va_recv hG.1 hP (ci := 8) (q0 := 1) rfl rfl), pre9⟩ rfl rfl hlv.1 rfl (lv_room (Nat.le_of_ble_eq_true rfl)) dX2_readValue_35 ⟨Nat.le_of_ble_eq_true rfl, Nat.le_of_ble_eq_true rfl⟩)) hP hD hS hA hG hT [1] rfl (by decide +kernel) (fun r3 u3 H locs hw3 hq9 hS => ?_)
        obtain ⟨rfl, hq3_1, hq3_2, hq3_3⟩ := hw3
        obtain ⟨hP, hD⟩ := pd9 [zO lr 2 [vR ta, vR la, vI yo], zI tb (cy 1) 600 bf, zO la 1 [vR l0, vI ys, vR l2, vR l3], zI l0 (cy 0) 600 yl, zO ta 8 [vR tb, vI fed, vI len, vI ya, vI yw, vI yf, vI yg]] hq9
        refine iz_eq (tgt := 106) hx hb dX2_readValue_38 (by decide) (by first | exact rgw hq3_1 (by decide) (by decide) | omega) (fun c_3 => ?_) (fun c_3 => ?_)
        · refine W.widen (k := 0) (n := 0) (Nat.le_of_ble_eq_true rfl) (Nat.le_of_ble_eq_true rfl) ?_
          exact W.vret hx hb hr (fun t ht hW => ⟨⟨((fun k => ([] : List Nat).getD k 0), (fun k => ([ya, yw, yf, yg, ys, yo] : List Int).getD k 0), (fun k => ([yl] : List (Nat → Int32)).getD k (fun _ => 0))), rfl, ⟨(by show (0 ≤ ya ∧ ya ≤ 600); first | exact hl24_3 | omega), (by show (0 ≤ yw ∧ yw ≤ 600); first | exact hl24_4 | omega), (by show (0 ≤ yf ∧ yf ≤ 4); first | exact hl24_5 | omega), (by show ((-1) ≤ yg ∧ yg ≤ 600); first | exact hl24_6 | omega), (by show (0 ≤ ys ∧ ys ≤ 600); first | exact hl24_1 | omega), (by show (0 ≤ yo ∧ yo ≤ 6); first | exact hl24_2 | omega), (by show (yo = op); omega), hiyl⟩, at9 ht hP hD [0, 4, 1, 2, 3] (by decide +kernel) rfl⟩, hS.F ht⟩) hS.2.2 dX2_readValue_106
        · refine lv_aload_n hx hb dX2_readValue_41 rfl (lv_at hlv 1 rfl) ?_
          refine va_get (D := D) (ci := 2) (v := vR ta) (C := RX2) (T := TX2) (N := 3) hx hb hts hi2 hown hG.1 hP 0 rfl rfl 0 (by decide) lf9 (fun _ h9 => h9) rfl dX2_readValue_42 ?_
          refine lv_bipush (v := iI 43) hx hb dX2_readValue_45 (by decide) ?_
          refine cjr_i [true, false, true, true, false] (fun pre9 => (va_runVN (host := "KerbSplash") (As := [vI 43]) (rest := []) ⟨hx, hb, hml, hown, hts⟩ (s_take l hl D cy sa ta tb fed len ya yw yf yg bf 43 H.size (by first | exact hr_fed | omega) (by first | exact hr_len | omega) (by first | exact hl24_3 | omega) (by first | exact hl24_4 | omega) (by first | exact hl24_5 | omega) (by first | exact hl24_6 | omega) (by show (0 : Int) ≤ 43 ∧ (43 : Int) ≤ 65535; decide)) ⟨va_cnB 1 hts gg_9 rfl rfl rfl (nM_LawReader_82 hG.2.1) ini_RX8 (by decide +kernel) ⟨by dsimp only [headSpec]; omega, by dsimp only [headSpec]; omega⟩, im_X8_take, se_X8_take⟩ ⟨pcW.blind, (va_recv hG.1 hP (ci := 8) (q0 := 4) rfl rfl), pre9⟩ rfl rfl hlv.1 rfl (lv_room (Nat.le_of_ble_eq_true rfl)) dX2_readValue_47 ⟨Nat.le_of_ble_eq_true rfl, Nat.le_of_ble_eq_true rfl⟩)) hP hD hS hA hG hT [4, 1] rfl (by decide +kernel) (fun r4 u4 H locs hw4 hq9 hS => ?_)
          obtain ⟨rfl, hq4_1, hq4_2, hq4_3⟩ := hw4
          obtain ⟨hP, hD⟩ := pd9 [zO lr 2 [vR ta, vR la, vI yo], zO la 1 [vR l0, vI ys, vR l2, vR l3], zI l0 (cy 0) 600 yl, zO ta 8 [vR tb, vI fed, vI len, vI (u4.2.1 1), vI yw, vI yf, vI yg], zI tb (cy 1) 600 bf] hq9
          refine iz_eq (tgt := 70) hx hb dX2_readValue_50 (by decide) (by first | exact rgw hq4_1 (by decide) (by decide) | omega) (fun c_4 => ?_) (fun c_4 => ?_)
          · refine lv_aload_n hx hb dX2_readValue_70 rfl (lv_at hlv 1 rfl) ?_
            refine va_get (D := D) (ci := 2) (v := vR ta) (C := RX2) (T := TX2) (N := 3) hx hb hts hi2 hown hG.1 hP 0 rfl rfl 0 (by decide) lf9 (fun _ h9 => h9) rfl dX2_readValue_71 ?_
            refine lv_bipush (v := iI 45) hx hb dX2_readValue_74 (by decide) ?_
            refine cjr_i [true, true, true, false, false] (fun pre9 => (va_runVN (host := "KerbSplash") (As := [vI 45]) (rest := []) ⟨hx, hb, hml, hown, hts⟩ (s_take l hl D cy sa ta tb fed len (u4.2.1 1) yw yf yg bf 45 H.size (by first | exact hr_fed | omega) (by first | exact hr_len | omega) (by first | exact hq4_2 | omega) (by first | exact hl24_4 | omega) (by first | exact hl24_5 | omega) (by first | exact hl24_6 | omega) (by show (0 : Int) ≤ 45 ∧ (45 : Int) ≤ 65535; decide)) ⟨va_cnB 1 hts gg_9 rfl rfl rfl (nM_LawReader_82 hG.2.1) ini_RX8 (by decide +kernel) ⟨by dsimp only [headSpec]; omega, by dsimp only [headSpec]; omega⟩, im_X8_take, se_X8_take⟩ ⟨pcW.blind, (va_recv hG.1 hP (ci := 8) (q0 := 3) rfl rfl), pre9⟩ rfl rfl hlv.1 rfl (lv_room (Nat.le_of_ble_eq_true rfl)) dX2_readValue_76 ⟨Nat.le_of_ble_eq_true rfl, Nat.le_of_ble_eq_true rfl⟩)) hP hD hS hA hG hT [3, 4] rfl (by decide +kernel) (fun r5 u5 H locs hw5 hq9 hS => ?_)
            obtain ⟨rfl, hq5_1, hq5_2, hq5_3⟩ := hw5
            obtain ⟨hP, hD⟩ := pd9 [zO lr 2 [vR ta, vR la, vI yo], zO la 1 [vR l0, vI ys, vR l2, vR l3], zI l0 (cy 0) 600 yl, zO ta 8 [vR tb, vI fed, vI len, vI (u5.2.1 1), vI yw, vI yf, vI yg], zI tb (cy 1) 600 bf] hq9
            refine iz_eq (tgt := 99) hx hb dX2_readValue_79 (by decide) (by first | exact rgw hq5_1 (by decide) (by decide) | omega) (fun c_5 => ?_) (fun c_5 => ?_)
            · refine W.widen (k := 0) (n := 0) (Nat.le_of_ble_eq_true rfl) (Nat.le_of_ble_eq_true rfl) ?_
              exact W.vret hx hb hr (fun t ht hW => ⟨⟨((fun k => ([] : List Nat).getD k 0), (fun k => ([(u5.2.1 1), yw, yf, yg, ys, yo] : List Int).getD k 0), (fun k => ([yl] : List (Nat → Int32)).getD k (fun _ => 0))), rfl, ⟨(by show (0 ≤ (u5.2.1 1) ∧ (u5.2.1 1) ≤ 600); first | exact hq5_2 | omega), (by show (0 ≤ yw ∧ yw ≤ 600); first | exact hl24_4 | omega), (by show (0 ≤ yf ∧ yf ≤ 4); first | exact hl24_5 | omega), (by show ((-1) ≤ yg ∧ yg ≤ 600); first | exact hl24_6 | omega), (by show (0 ≤ ys ∧ ys ≤ 600); first | exact hl24_1 | omega), (by show (0 ≤ yo ∧ yo ≤ 6); first | exact hl24_2 | omega), (by show (yo = op); omega), hiyl⟩, at9 ht hP hD [0, 3, 4, 1, 2] (by decide +kernel) rfl⟩, hS.F ht⟩) hS.2.2 dX2_readValue_99
            · refine lv_aload_n hx hb dX2_readValue_82 rfl (lv_at hlv 1 rfl) ?_
              refine cjr_v [false, false, false, false, false] (fun pre9 => (va_runV (As := []) (rest := []) ⟨hx, hb, hml, hown, hts⟩ (w_product_step l hl D cy sa d IH lr ta tb fed len (u5.2.1 1) yw yf yg bf la l0 l2 l3 ys yl yo H.size (by first | exact hr_fed | omega) (by first | exact hr_len | omega) (by first | exact hq5_2 | omega) (by first | exact hl24_4 | omega) (by first | exact hl24_5 | omega) (by first | exact hl24_6 | omega) (by first | exact hl24_1 | omega) (by first | exact hl24_2 | omega) hiyl (by omega)) (cwV 0 hts gh_X2_readProduct_76 rfl rfl rfl (by decide +kernel) ⟨by dsimp only [headSpec]; omega, by dsimp only [headSpec]; omega⟩) ⟨pcW.blind, (va_recv hG.1 hP (ci := 2) (q0 := 0) rfl rfl), pre9⟩ rfl rfl hlv.1 rfl (lv_room (Nat.le_of_ble_eq_true rfl)) dX2_readValue_83 ⟨Nat.le_of_ble_eq_true rfl, Nat.le_of_ble_eq_true rfl⟩)) hP hD hS hA hG hT [0, 3, 4, 1, 2] rfl (by decide +kernel) (fun u6 H locs hw6 hq9 hS => ?_)
              obtain ⟨hq6_0, hq6_1, hq6_2, hq6_3, hq6_4, hq6_5, hq6_6, hq6_7⟩ := hw6
              obtain ⟨hP, hD⟩ := pd9 [zO lr 2 [vR ta, vR la, vI (u6.2.1 5)], zO ta 8 [vR tb, vI fed, vI len, vI (u6.2.1 0), vI (u6.2.1 1), vI (u6.2.1 2), vI (u6.2.1 3)], zI tb (cy 1) 600 bf, zO la 1 [vR l0, vI (u6.2.1 4), vR l2, vR l3], zI l0 (cy 0) 600 (u6.2.2 0)] hq9
              refine lv_aload_n hx hb dX2_readValue_86 rfl (lv_at hlv 1 rfl) ?_
              refine va_get (D := D) (ci := 2) (v := vR la) (C := RX2) (T := TX2) (N := 3) hx hb hts hi2 hown hG.1 hP 0 rfl rfl 1 (by decide) lf15 (fun _ h9 => h9) rfl dX2_readValue_87 ?_
              refine lv_iconst (v := iI 3) hx hb dX2_readValue_90 (by decide) ?_
              refine lv_iconst (v := iI 0) hx hb dX2_readValue_91 (by decide) ?_
              refine cjr_i [true, true, true, false, false] (fun pre9 => (va_runVN (host := "KerbSplash") (As := [vI 3, vI 0]) (rest := []) ⟨hx, hb, hml, hown, hts⟩ (s_ladd l hl D cy sa la l0 l2 l3 (u6.2.1 4) (u6.2.2 0) 3 0 H.size (by first | exact hq6_4 | omega) (by show (0 : Int) ≤ 3 ∧ (3 : Int) ≤ 15; decide) (by show (0 : Int) ≤ 0 ∧ (0 : Int) ≤ 10000; decide) hq6_7) ⟨va_cnB 2 hts gg_4 rfl rfl rfl (nM_LawReader_65 hG.2.1) ini_RX1 (by decide +kernel) ⟨by dsimp only [headSpec]; omega, by dsimp only [headSpec]; omega⟩, im_X1_add, se_X1_add⟩ ⟨pcW.blind, (va_recv hG.1 hP (ci := 1) (q0 := 3) rfl rfl), pre9⟩ rfl rfl hlv.1 rfl (lv_room (Nat.le_of_ble_eq_true rfl)) dX2_readValue_92 ⟨Nat.le_of_ble_eq_true rfl, Nat.le_of_ble_eq_true rfl⟩)) hP hD hS hA hG hT [3, 4] rfl (by decide +kernel) (fun r7 u7 H locs hw7 hq9 hS => ?_)
              obtain ⟨rfl, hq7_1, hq7_2, hq7_3, hq7_4⟩ := hw7
              obtain ⟨hP, hD⟩ := pd9 [zO lr 2 [vR ta, vR la, vI (u6.2.1 5)], zO ta 8 [vR tb, vI fed, vI len, vI (u6.2.1 0), vI (u6.2.1 1), vI (u6.2.1 2), vI (u6.2.1 3)], zI tb (cy 1) 600 bf, zO la 1 [vR l0, vI (u7.2.1 1), vR l2, vR l3], zI l0 (cy 0) 600 (u7.2.2 0)] hq9
              refine lv_pop hx hb dX2_readValue_95 rfl ?_
              refine lv_goto (tgt := 100) hx hb dX2_readValue_96 (by decide) ?_
              obtain ⟨z_6, hz_6⟩ : ∃ z : Int, z = q + 1 := ⟨_, rfl⟩
              refine lv_iinc (v := iI z_6) (lv' := [(1, vI z_6), (0, vR lr)]) hx hb dX2_readValue_100 hlv (k := 0) rfl (by rw [hz_6]; exact (Int32.ofInt_add _ _).symm) (by decide) rfl (fun ls hlv => ?_)
              refine lv_goto (tgt := 24) hx hb dX2_readValue_103 (by decide) ?_
              exact ih24 z_6 (u7.2.1 1) (u6.2.1 5) (u7.2.2 0) (u6.2.1 0) (u6.2.1 1) (u6.2.1 2) (u6.2.1 3) H locs ls (by omega) (by omega) (by first | exact hq7_2 | omega) (by first | exact hq6_5 | omega) (by first | exact hq6_0 | omega) (by first | exact hq6_1 | omega) (by first | exact hq6_2 | omega) (by first | exact hq6_3 | omega) (by omega) hq7_4 (hP.sub [0, 1, 2, 3, 4] rfl) (hD.sub [0, 1, 2, 3, 4] (by decide) rfl) hS (lv_sub hlv [0, 1] rfl)
          · refine lv_aload_n hx hb dX2_readValue_53 rfl (lv_at hlv 1 rfl) ?_
            refine cjr_v [false, false, false, false, false] (fun pre9 => (va_runV (As := []) (rest := []) ⟨hx, hb, hml, hown, hts⟩ (w_product_step l hl D cy sa d IH lr ta tb fed len (u4.2.1 1) yw yf yg bf la l0 l2 l3 ys yl yo H.size (by first | exact hr_fed | omega) (by first | exact hr_len | omega) (by first | exact hq4_2 | omega) (by first | exact hl24_4 | omega) (by first | exact hl24_5 | omega) (by first | exact hl24_6 | omega) (by first | exact hl24_1 | omega) (by first | exact hl24_2 | omega) hiyl (by omega)) (cwV 0 hts gh_X2_readProduct_76 rfl rfl rfl (by decide +kernel) ⟨by dsimp only [headSpec]; omega, by dsimp only [headSpec]; omega⟩) ⟨pcW.blind, (va_recv hG.1 hP (ci := 2) (q0 := 0) rfl rfl), pre9⟩ rfl rfl hlv.1 rfl (lv_room (Nat.le_of_ble_eq_true rfl)) dX2_readValue_54 ⟨Nat.le_of_ble_eq_true rfl, Nat.le_of_ble_eq_true rfl⟩)) hP hD hS hA hG hT [0, 3, 4, 1, 2] rfl (by decide +kernel) (fun u8 H locs hw8 hq9 hS => ?_)
            obtain ⟨hq8_0, hq8_1, hq8_2, hq8_3, hq8_4, hq8_5, hq8_6, hq8_7⟩ := hw8
            obtain ⟨hP, hD⟩ := pd9 [zO lr 2 [vR ta, vR la, vI (u8.2.1 5)], zO ta 8 [vR tb, vI fed, vI len, vI (u8.2.1 0), vI (u8.2.1 1), vI (u8.2.1 2), vI (u8.2.1 3)], zI tb (cy 1) 600 bf, zO la 1 [vR l0, vI (u8.2.1 4), vR l2, vR l3], zI l0 (cy 0) 600 (u8.2.2 0)] hq9
            refine lv_aload_n hx hb dX2_readValue_57 rfl (lv_at hlv 1 rfl) ?_
            refine va_get (D := D) (ci := 2) (v := vR la) (C := RX2) (T := TX2) (N := 3) hx hb hts hi2 hown hG.1 hP 0 rfl rfl 1 (by decide) lf15 (fun _ h9 => h9) rfl dX2_readValue_58 ?_
            refine lv_iconst (v := iI 2) hx hb dX2_readValue_61 (by decide) ?_
            refine lv_iconst (v := iI 0) hx hb dX2_readValue_62 (by decide) ?_
            refine cjr_i [true, true, true, false, false] (fun pre9 => (va_runVN (host := "KerbSplash") (As := [vI 2, vI 0]) (rest := []) ⟨hx, hb, hml, hown, hts⟩ (s_ladd l hl D cy sa la l0 l2 l3 (u8.2.1 4) (u8.2.2 0) 2 0 H.size (by first | exact hq8_4 | omega) (by show (0 : Int) ≤ 2 ∧ (2 : Int) ≤ 15; decide) (by show (0 : Int) ≤ 0 ∧ (0 : Int) ≤ 10000; decide) hq8_7) ⟨va_cnB 2 hts gg_4 rfl rfl rfl (nM_LawReader_65 hG.2.1) ini_RX1 (by decide +kernel) ⟨by dsimp only [headSpec]; omega, by dsimp only [headSpec]; omega⟩, im_X1_add, se_X1_add⟩ ⟨pcW.blind, (va_recv hG.1 hP (ci := 1) (q0 := 3) rfl rfl), pre9⟩ rfl rfl hlv.1 rfl (lv_room (Nat.le_of_ble_eq_true rfl)) dX2_readValue_63 ⟨Nat.le_of_ble_eq_true rfl, Nat.le_of_ble_eq_true rfl⟩)) hP hD hS hA hG hT [3, 4] rfl (by decide +kernel) (fun r9 u9 H locs hw9 hq9 hS => ?_)
            obtain ⟨rfl, hq9_1, hq9_2, hq9_3, hq9_4⟩ := hw9
            obtain ⟨hP, hD⟩ := pd9 [zO lr 2 [vR ta, vR la, vI (u8.2.1 5)], zO ta 8 [vR tb, vI fed, vI len, vI (u8.2.1 0), vI (u8.2.1 1), vI (u8.2.1 2), vI (u8.2.1 3)], zI tb (cy 1) 600 bf, zO la 1 [vR l0, vI (u9.2.1 1), vR l2, vR l3], zI l0 (cy 0) 600 (u9.2.2 0)] hq9
            refine lv_pop hx hb dX2_readValue_66 rfl ?_
            refine lv_goto (tgt := 100) hx hb dX2_readValue_67 (by decide) ?_
            obtain ⟨z_7, hz_7⟩ : ∃ z : Int, z = q + 1 := ⟨_, rfl⟩
            refine lv_iinc (v := iI z_7) (lv' := [(1, vI z_7), (0, vR lr)]) hx hb dX2_readValue_100 hlv (k := 0) rfl (by rw [hz_7]; exact (Int32.ofInt_add _ _).symm) (by decide) rfl (fun ls hlv => ?_)
            refine lv_goto (tgt := 24) hx hb dX2_readValue_103 (by decide) ?_
            exact ih24 z_7 (u9.2.1 1) (u8.2.1 5) (u9.2.2 0) (u8.2.1 0) (u8.2.1 1) (u8.2.1 2) (u8.2.1 3) H locs ls (by omega) (by omega) (by first | exact hq9_2 | omega) (by first | exact hq8_5 | omega) (by first | exact hq8_0 | omega) (by first | exact hq8_1 | omega) (by first | exact hq8_2 | omega) (by first | exact hq8_3 | omega) (by omega) hq9_4 (hP.sub [0, 1, 2, 3, 4] rfl) (hD.sub [0, 1, 2, 3, 4] (by decide) rfl) hS (lv_sub hlv [0, 1] rfl)
  · refine lv_aload_n hx hb dX2_readValue_13 rfl (lv_at hlv 0 rfl) ?_
    refine cjr_v [false, false, false, false, false] (fun pre9 => (va_runV (As := []) (rest := []) ⟨hx, hb, hml, hown, hts⟩ (w_choice_step l hl D cy sa d IH lr ta tb fed len (u1.2.1 1) (u1.2.1 2) fa fp bf la l0 l2 l3 size st op H.size (by first | exact hr_fed | omega) (by first | exact hr_len | omega) (by first | exact hq1_1 | omega) (by first | exact hq1_2 | omega) (by first | exact hr_fa | omega) (by first | exact hr_fp | omega) (by first | exact hr_size | omega) (by first | exact hr_op | omega) hst (by omega)) (cwV 0 hts gh_X2_readChoice_73 rfl rfl rfl (by decide +kernel) ⟨by dsimp only [headSpec]; omega, by dsimp only [headSpec]; omega⟩) ⟨pcW.blind, (va_recv hG.1 hP (ci := 2) (q0 := 0) rfl rfl), pre9⟩ rfl rfl hlv.1 rfl (lv_room (Nat.le_of_ble_eq_true rfl)) dX2_readValue_14 ⟨Nat.le_of_ble_eq_true rfl, Nat.le_of_ble_eq_true rfl⟩)) hP hD hS hA hG hT [0, 3, 4, 1, 2] rfl (by decide +kernel) (fun u10 H locs hw10 hq9 hS => ?_)
    obtain ⟨hq10_0, hq10_1, hq10_2, hq10_3, hq10_4, hq10_5, hq10_6, hq10_7⟩ := hw10
    obtain ⟨hP, hD⟩ := pd9 [zO lr 2 [vR ta, vR la, vI (u10.2.1 5)], zO ta 8 [vR tb, vI fed, vI len, vI (u10.2.1 0), vI (u10.2.1 1), vI (u10.2.1 2), vI (u10.2.1 3)], zI tb (cy 1) 600 bf, zO la 1 [vR l0, vI (u10.2.1 4), vR l2, vR l3], zI l0 (cy 0) 600 (u10.2.2 0)] hq9
    refine W.widen (k := 0) (n := 0) (Nat.le_of_ble_eq_true rfl) (Nat.le_of_ble_eq_true rfl) ?_
    exact W.vret hx hb hr (fun t ht hW => ⟨⟨((fun k => ([] : List Nat).getD k 0), (fun k => ([(u10.2.1 0), (u10.2.1 1), (u10.2.1 2), (u10.2.1 3), (u10.2.1 4), (u10.2.1 5)] : List Int).getD k 0), (fun k => ([(u10.2.2 0)] : List (Nat → Int32)).getD k (fun _ => 0))), rfl, ⟨(by show (0 ≤ (u10.2.1 0) ∧ (u10.2.1 0) ≤ 600); first | exact hq10_0 | omega), (by show (0 ≤ (u10.2.1 1) ∧ (u10.2.1 1) ≤ 600); first | exact hq10_1 | omega), (by show (0 ≤ (u10.2.1 2) ∧ (u10.2.1 2) ≤ 4); first | exact hq10_2 | omega), (by show ((-1) ≤ (u10.2.1 3) ∧ (u10.2.1 3) ≤ 600); first | exact hq10_3 | omega), (by show (0 ≤ (u10.2.1 4) ∧ (u10.2.1 4) ≤ 600); first | exact hq10_4 | omega), (by show (0 ≤ (u10.2.1 5) ∧ (u10.2.1 5) ≤ 6); first | exact hq10_5 | omega), (by show ((u10.2.1 5) = op); omega), hq10_7⟩, at9 ht hP hD [0, 1, 2, 3, 4] (by decide +kernel) rfl⟩, hS.F ht⟩) hS.2.2 dX2_readValue_17
set_option maxHeartbeats 4000000 in
set_option maxRecDepth 100000 in
theorem w_cmp_step (l : Launch) (hl : l.stackTraces = false) (D : va_G) (cy : Nat → ClassId) (sa : Nat → Nat) (d : Nat) (IH : LR l D cy sa d) (lr : Nat) (ta tb : Nat) (fed len at_ we fa fp : Int) (bf : Nat → Int32) (la l0 l2 l3 : Nat) (size : Int) (st : Nat → Int32) (op : Int) (sz : Nat) (hr_fed : 0 ≤ fed ∧ fed ≤ 600) (hr_len : 0 ≤ len ∧ len ≤ 600) (hr_at_ : 0 ≤ at_ ∧ at_ ≤ 600) (hr_we : 0 ≤ we ∧ we ≤ 600) (hr_fa : 0 ≤ fa ∧ fa ≤ 4) (hr_fp : (-1) ≤ fp ∧ fp ≤ 600) (hr_size : 0 ≤ size ∧ size ≤ 600) (hr_op : 0 ≤ op ∧ op ≤ 6) (hst : inv_ 600 0 2147483647 st) (hlev : (7 : Int) - ((d + 1 : Nat) : Int) ≤ op) : mV9 l yX2_readComparison vs_w_cmp ({ frames := 12 * (d + 1) + 3, cells := 0, slots := 0, locals := 900 * (d + 1) + 120 }) D cy sa sz [vR lr] [zO lr 2 [vR ta, vR la, vI op], zO ta 8 [vR tb, vI fed, vI len, vI at_, vI we, vI fa, vI fp], zI tb (cy 1) 600 bf, zO la 1 [vR l0, vI size, vR l2, vR l3], zI l0 (cy 0) 600 st] (fun u : SV => (0 ≤ u.2.1 0 ∧ u.2.1 0 ≤ 600) ∧ (0 ≤ u.2.1 1 ∧ u.2.1 1 ≤ 600) ∧ (0 ≤ u.2.1 2 ∧ u.2.1 2 ≤ 4) ∧ ((-1) ≤ u.2.1 3 ∧ u.2.1 3 ≤ 600) ∧ (0 ≤ u.2.1 4 ∧ u.2.1 4 ≤ 600) ∧ (0 ≤ u.2.1 5 ∧ u.2.1 5 ≤ 6) ∧ (u.2.1 5 = op) ∧ inv_ 600 0 2147483647 (u.2.2 0)) (fun u : SV => [zO lr 2 [vR ta, vR la, vI (u.2.1 5)], zO ta 8 [vR tb, vI fed, vI len, vI (u.2.1 0), vI (u.2.1 1), vI (u.2.1 2), vI (u.2.1 3)], zI tb (cy 1) 600 bf, zO la 1 [vR l0, vI (u.2.1 4), vR l2, vR l3], zI l0 (cy 0) 600 (u.2.2 0)]) 0 0 := by
  refine Met.ofW (cc := cX2_readComparison) (maxL := 2) (ret := none) (by decide) rfl ?_
  intro p e s m args below meth c s₁ B hml hv
  obtain ⟨rfl, hsz, hP, hG, hD0, hT⟩ := hv
  have hx := B.exec
  have hb := B.bytes
  have hr := B.returns
  have hts := atoms_spec (ws := vs_w_cmp) B.pre
  have hown : s.vm.findClass RX2 = some m.cls := findClass_of_methodNamed B.named
  have hlocks := B.notSynchronized
  subst hsz
  have hD := hD0.self (sz := s.heap.size)
  generalize hAe : va_A [zO lr 2 [vR ta, vR la, vI op], zO ta 8 [vR tb, vI fed, vI len, vI at_, vI we, vI fa, vI fp], zI tb (cy 1) 600 bf, zO la 1 [vR l0, vI size, vR l2, vR l3], zI l0 (cy 0) 600 st] s.heap.size = A at hD hT ⊢
  have hA : ∀ q : Nat, s.heap.size ≤ q → A q := fun q h => by rw [← hAe]; exact Or.inr h
  have hS : va_S A s.heap s.heap [] := va_S.rf
  have hl0 := lv_entry ([vR lr]) (n := 2) (Nat.le_of_ble_eq_true rfl)
  rw [lg_entry_eq]
  generalize (lg_sl ([vR lr]) ++ List.replicate (2 - (lg_sl ([vR lr])).length) Slot.unset).toArray = ls at hl0 ⊢
  have hlv : lv_has ls 2 [(0, vR lr)] := hl0
  have gh_X2_readValue_62 : GoodIn vs_w_cmp (wsV RX2 62 RX2 yX2_readValue vs_w_val) := goodIn_sub (gsub_V (List.mem_append_left _ (List.mem_of_getElem? (i := 14) rfl)) (List.mem_append_left _ (List.mem_of_getElem? (i := 15) rfl)) (List.mem_append_left _ (List.mem_of_getElem? (i := 16) rfl)) (List.mem_append_left _ (List.mem_of_getElem? (i := 17) rfl)) (List.mem_append_left _ (List.mem_of_getElem? (i := 18) rfl))) (gd_V (gd_C (by decide +kernel) gd_LRC) (by decide +kernel))
  have lf9 := hts (.fieldLink RX2 9 "KerbSplash$LawReader" "tape" "LKerbSplash$Tape;") (List.mem_of_getElem? (i := 1) rfl)
  have hi2 : ∀ w ∈ wsX20, w ∈ vs_w_cmp := fun w h => List.mem_cons_of_mem _ (List.mem_append_right _ (List.mem_append_left _ h))
  have gg_9 : GoodIn vs_w_cmp (vs_s_take) := goodIn_sub (fun w h => List.mem_cons_of_mem _ (List.mem_append_right _ (List.mem_append_right _ (List.mem_append_right _ (List.mem_append_right _ (List.mem_append_right _ (List.mem_append_right _ (List.mem_append_right _ (List.mem_append_right _ (List.mem_append_right _ (List.mem_append_right _ (List.mem_append_left _ h)))))))))))) gd_s_take
  have ini_RX8 := hts (.initialized RX8) (List.mem_of_getElem? (i := 2) rfl)
  have im_X8_take := hts (.instanceMethod yX8_take) (List.mem_of_getElem? (i := 29) rfl)
  have se_X8_take := hts (.selects RX8 yX8_take yX8_take) (List.mem_of_getElem? (i := 30) rfl)
  have gg_6 : GoodIn vs_w_cmp (vs_s_want) := goodIn_sub (fun w h => List.mem_cons_of_mem _ (List.mem_append_right _ (List.mem_append_right _ (List.mem_append_right _ (List.mem_append_right _ (List.mem_append_right _ (List.mem_append_right _ (List.mem_append_right _ (List.mem_append_left _ h))))))))) gd_s_want
  have im_X8_want := hts (.instanceMethod yX8_want) (List.mem_of_getElem? (i := 13) rfl)
  have se_X8_want := hts (.selects RX8 yX8_want yX8_want) (List.mem_of_getElem? (i := 14) rfl)
  have lf15 := hts (.fieldLink RX2 15 "KerbSplash$LawReader" "law" "LKerbSplash$Law;") (List.mem_of_getElem? (i := 7) rfl)
  have gg_4 : GoodIn vs_w_cmp (vs_s_ladd) := goodIn_sub (fun w h => List.mem_cons_of_mem _ (List.mem_append_right _ (List.mem_append_right _ (List.mem_append_right _ (List.mem_append_right _ (List.mem_append_right _ (List.mem_append_left _ h))))))) gd_s_ladd
  have ini_RX1 := hts (.initialized RX1) (List.mem_of_getElem? (i := 10) rfl)
  have im_X1_add := hts (.instanceMethod yX1_add) (List.mem_of_getElem? (i := 11) rfl)
  have se_X1_add := hts (.selects RX1 yX1_add yX1_add) (List.mem_of_getElem? (i := 12) rfl)
  refine lv_aload_n hx hb dX2_readComparison_0 rfl (lv_at hlv 0 rfl) ?_
  refine cjr_v [false, false, false, false, false] (fun pre9 => (va_runV (As := []) (rest := []) ⟨hx, hb, hml, hown, hts⟩ (w_val_step l hl D cy sa d IH lr ta tb fed len at_ we fa fp bf la l0 l2 l3 size st op s.heap.size (by first | exact hr_fed | omega) (by first | exact hr_len | omega) (by first | exact hr_at_ | omega) (by first | exact hr_we | omega) (by first | exact hr_fa | omega) (by first | exact hr_fp | omega) (by first | exact hr_size | omega) (by first | exact hr_op | omega) hst (by omega)) (cwV 0 hts gh_X2_readValue_62 rfl rfl rfl (by decide +kernel) ⟨by dsimp only [headSpec]; omega, by dsimp only [headSpec]; omega⟩) ⟨pcW.blind, (va_recv hG.1 hP (ci := 2) (q0 := 0) rfl rfl), pre9⟩ rfl rfl hlv.1 rfl (lv_room (Nat.le_of_ble_eq_true rfl)) dX2_readComparison_1 ⟨Nat.le_of_ble_eq_true rfl, Nat.le_of_ble_eq_true rfl⟩)) hP hD hS hA hG hT [0, 1, 2, 3, 4] rfl (by decide +kernel) (fun u1 H locs hw1 hq9 hS => ?_)
  obtain ⟨hq1_0, hq1_1, hq1_2, hq1_3, hq1_4, hq1_5, hq1_6, hq1_7⟩ := hw1
  obtain ⟨hP, hD⟩ := pd9 [zO lr 2 [vR ta, vR la, vI (u1.2.1 5)], zO ta 8 [vR tb, vI fed, vI len, vI (u1.2.1 0), vI (u1.2.1 1), vI (u1.2.1 2), vI (u1.2.1 3)], zI tb (cy 1) 600 bf, zO la 1 [vR l0, vI (u1.2.1 4), vR l2, vR l3], zI l0 (cy 0) 600 (u1.2.2 0)] hq9
  refine lv_bipush (v := iI 8) hx hb dX2_readComparison_4 (by decide) ?_
  refine lv_istore_n (lv' := [(1, vI 8), (0, vR lr)]) hx hb dX2_readComparison_6 rfl hlv (by decide) rfl (fun ls hlv => ?_)
  refine lv_aload_n hx hb dX2_readComparison_7 rfl (lv_at hlv 1 rfl) ?_
  refine va_get (D := D) (ci := 2) (v := vR ta) (C := RX2) (T := TX2) (N := 3) hx hb hts hi2 hown hG.1 hP 0 rfl rfl 0 (by decide) lf9 (fun _ h9 => h9) rfl dX2_readComparison_8 ?_
  refine lv_bipush (v := iI 60) hx hb dX2_readComparison_11 (by decide) ?_
  refine cjr_i [true, false, false, true, true] (fun pre9 => (va_runVN (host := "KerbSplash") (As := [vI 60]) (rest := []) ⟨hx, hb, hml, hown, hts⟩ (s_take l hl D cy sa ta tb fed len (u1.2.1 0) (u1.2.1 1) (u1.2.1 2) (u1.2.1 3) bf 60 H.size (by first | exact hr_fed | omega) (by first | exact hr_len | omega) (by first | exact hq1_0 | omega) (by first | exact hq1_1 | omega) (by first | exact hq1_2 | omega) (by first | exact hq1_3 | omega) (by show (0 : Int) ≤ 60 ∧ (60 : Int) ≤ 65535; decide)) ⟨va_cnB 1 hts gg_9 rfl rfl rfl (nM_LawReader_82 hG.2.1) ini_RX8 (by decide +kernel) ⟨by dsimp only [headSpec]; omega, by dsimp only [headSpec]; omega⟩, im_X8_take, se_X8_take⟩ ⟨pcW.blind, (va_recv hG.1 hP (ci := 8) (q0 := 1) rfl rfl), pre9⟩ rfl rfl hlv.1 rfl (lv_room (Nat.le_of_ble_eq_true rfl)) dX2_readComparison_13 ⟨Nat.le_of_ble_eq_true rfl, Nat.le_of_ble_eq_true rfl⟩)) hP hD hS hA hG hT [1, 2] rfl (by decide +kernel) (fun r2 u2 H locs hw2 hq9 hS => ?_)
  obtain ⟨rfl, hq2_1, hq2_2, hq2_3⟩ := hw2
  obtain ⟨hP, hD⟩ := pd9 [zO lr 2 [vR ta, vR la, vI (u1.2.1 5)], zO la 1 [vR l0, vI (u1.2.1 4), vR l2, vR l3], zI l0 (cy 0) 600 (u1.2.2 0), zO ta 8 [vR tb, vI fed, vI len, vI (u2.2.1 1), vI (u1.2.1 1), vI (u1.2.1 2), vI (u1.2.1 3)], zI tb (cy 1) 600 bf] hq9
  refine iz_eq (tgt := 25) hx hb dX2_readComparison_16 (by decide) (by first | exact rgw hq2_1 (by decide) (by decide) | omega) (fun c_1 => ?_) (fun c_1 => ?_)
  · refine lv_aload_n hx hb dX2_readComparison_25 rfl (lv_at hlv 1 rfl) ?_
    refine va_get (D := D) (ci := 2) (v := vR ta) (C := RX2) (T := TX2) (N := 3) hx hb hts hi2 hown hG.1 hP 0 rfl rfl 0 (by decide) lf9 (fun _ h9 => h9) rfl dX2_readComparison_26 ?_
    refine lv_bipush (v := iI 62) hx hb dX2_readComparison_29 (by decide) ?_
    refine cjr_i [true, true, true, false, false] (fun pre9 => (va_runVN (host := "KerbSplash") (As := [vI 62]) (rest := []) ⟨hx, hb, hml, hown, hts⟩ (s_take l hl D cy sa ta tb fed len (u2.2.1 1) (u1.2.1 1) (u1.2.1 2) (u1.2.1 3) bf 62 H.size (by first | exact hr_fed | omega) (by first | exact hr_len | omega) (by first | exact hq2_2 | omega) (by first | exact hq1_1 | omega) (by first | exact hq1_2 | omega) (by first | exact hq1_3 | omega) (by show (0 : Int) ≤ 62 ∧ (62 : Int) ≤ 65535; decide)) ⟨va_cnB 1 hts gg_9 rfl rfl rfl (nM_LawReader_82 hG.2.1) ini_RX8 (by decide +kernel) ⟨by dsimp only [headSpec]; omega, by dsimp only [headSpec]; omega⟩, im_X8_take, se_X8_take⟩ ⟨pcW.blind, (va_recv hG.1 hP (ci := 8) (q0 := 3) rfl rfl), pre9⟩ rfl rfl hlv.1 rfl (lv_room (Nat.le_of_ble_eq_true rfl)) dX2_readComparison_31 ⟨Nat.le_of_ble_eq_true rfl, Nat.le_of_ble_eq_true rfl⟩)) hP hD hS hA hG hT [3, 4] rfl (by decide +kernel) (fun r3 u3 H locs hw3 hq9 hS => ?_)
    obtain ⟨rfl, hq3_1, hq3_2, hq3_3⟩ := hw3
    obtain ⟨hP, hD⟩ := pd9 [zO lr 2 [vR ta, vR la, vI (u1.2.1 5)], zO la 1 [vR l0, vI (u1.2.1 4), vR l2, vR l3], zI l0 (cy 0) 600 (u1.2.2 0), zO ta 8 [vR tb, vI fed, vI len, vI (u3.2.1 1), vI (u1.2.1 1), vI (u1.2.1 2), vI (u1.2.1 3)], zI tb (cy 1) 600 bf] hq9
    refine iz_eq (tgt := 43) hx hb dX2_readComparison_34 (by decide) (by first | exact rgw hq3_1 (by decide) (by decide) | omega) (fun c_2 => ?_) (fun c_2 => ?_)
    · refine lv_aload_n hx hb dX2_readComparison_43 rfl (lv_at hlv 1 rfl) ?_
      refine va_get (D := D) (ci := 2) (v := vR ta) (C := RX2) (T := TX2) (N := 3) hx hb hts hi2 hown hG.1 hP 0 rfl rfl 0 (by decide) lf9 (fun _ h9 => h9) rfl dX2_readComparison_44 ?_
      refine lv_bipush (v := iI 61) hx hb dX2_readComparison_47 (by decide) ?_
      refine cjr_v [true, true, true, false, false] (fun pre9 => (va_runVN (host := "KerbSplash") (As := [vI 61]) (rest := []) ⟨hx, hb, hml, hown, hts⟩ (s_want l hl D cy sa ta tb fed len (u3.2.1 1) (u1.2.1 1) (u1.2.1 2) (u1.2.1 3) bf 61 H.size (by first | exact hr_fed | omega) (by first | exact hr_len | omega) (by first | exact hq3_2 | omega) (by first | exact hq1_1 | omega) (by first | exact hq1_2 | omega) (by first | exact hq1_3 | omega) (by show (0 : Int) ≤ 61 ∧ (61 : Int) ≤ 65535; decide)) ⟨va_cnB 1 hts gg_6 rfl rfl rfl (nM_LawReader_58 hG.2.1) ini_RX8 (by decide +kernel) ⟨by dsimp only [headSpec]; omega, by dsimp only [headSpec]; omega⟩, im_X8_want, se_X8_want⟩ ⟨pcW.blind, (va_recv hG.1 hP (ci := 8) (q0 := 3) rfl rfl), pre9⟩ rfl rfl hlv.1 rfl (lv_room (Nat.le_of_ble_eq_true rfl)) dX2_readComparison_49 ⟨Nat.le_of_ble_eq_true rfl, Nat.le_of_ble_eq_true rfl⟩)) hP hD hS hA hG hT [3, 4] rfl (by decide +kernel) (fun u4 H locs hw4 hq9 hS => ?_)
      obtain ⟨hq4_0, hq4_1, hq4_2, hq4_3, hq4_4⟩ := hw4
      obtain ⟨hP, hD⟩ := pd9 [zO lr 2 [vR ta, vR la, vI (u1.2.1 5)], zO la 1 [vR l0, vI (u1.2.1 4), vR l2, vR l3], zI l0 (cy 0) 600 (u1.2.2 0), zO ta 8 [vR tb, vI fed, vI len, vI (u4.2.1 0), vI (u1.2.1 1), vI (u4.2.1 1), vI (u4.2.1 2)], zI tb (cy 1) 600 bf] hq9
      refine lv_aload_n hx hb dX2_readComparison_52 rfl (lv_at hlv 1 rfl) ?_
      refine cjr_v [false, false, false, false, false] (fun pre9 => (va_runV (As := []) (rest := []) ⟨hx, hb, hml, hown, hts⟩ (w_val_step l hl D cy sa d IH lr ta tb fed len (u4.2.1 0) (u1.2.1 1) (u4.2.1 1) (u4.2.1 2) bf la l0 l2 l3 (u1.2.1 4) (u1.2.2 0) (u1.2.1 5) H.size (by first | exact hr_fed | omega) (by first | exact hr_len | omega) (by first | exact hq4_0 | omega) (by first | exact hq1_1 | omega) (by first | exact hq4_1 | omega) (by first | exact hq4_2 | omega) (by first | exact hq1_4 | omega) (by first | exact hq1_5 | omega) hq1_7 (by omega)) (cwV 0 hts gh_X2_readValue_62 rfl rfl rfl (by decide +kernel) ⟨by dsimp only [headSpec]; omega, by dsimp only [headSpec]; omega⟩) ⟨pcW.blind, (va_recv hG.1 hP (ci := 2) (q0 := 0) rfl rfl), pre9⟩ rfl rfl hlv.1 rfl (lv_room (Nat.le_of_ble_eq_true rfl)) dX2_readComparison_53 ⟨Nat.le_of_ble_eq_true rfl, Nat.le_of_ble_eq_true rfl⟩)) hP hD hS hA hG hT [0, 3, 4, 1, 2] rfl (by decide +kernel) (fun u5 H locs hw5 hq9 hS => ?_)
      obtain ⟨hq5_0, hq5_1, hq5_2, hq5_3, hq5_4, hq5_5, hq5_6, hq5_7⟩ := hw5
      obtain ⟨hP, hD⟩ := pd9 [zO lr 2 [vR ta, vR la, vI (u5.2.1 5)], zO ta 8 [vR tb, vI fed, vI len, vI (u5.2.1 0), vI (u5.2.1 1), vI (u5.2.1 2), vI (u5.2.1 3)], zI tb (cy 1) 600 bf, zO la 1 [vR l0, vI (u5.2.1 4), vR l2, vR l3], zI l0 (cy 0) 600 (u5.2.2 0)] hq9
      refine lv_aload_n hx hb dX2_readComparison_56 rfl (lv_at hlv 1 rfl) ?_
      refine va_get (D := D) (ci := 2) (v := vR la) (C := RX2) (T := TX2) (N := 3) hx hb hts hi2 hown hG.1 hP 0 rfl rfl 1 (by decide) lf15 (fun _ h9 => h9) rfl dX2_readComparison_57 ?_
      refine lv_iload_n hx hb dX2_readComparison_60 rfl (lv_at hlv 0 rfl) ?_
      refine lv_iconst (v := iI 0) hx hb dX2_readComparison_61 (by decide) ?_
      refine cjr_i [true, true, true, false, false] (fun pre9 => (va_runVN (host := "KerbSplash") (As := [vI 8, vI 0]) (rest := []) ⟨hx, hb, hml, hown, hts⟩ (s_ladd l hl D cy sa la l0 l2 l3 (u5.2.1 4) (u5.2.2 0) 8 0 H.size (by first | exact hq5_4 | omega) (by show (0 : Int) ≤ 8 ∧ (8 : Int) ≤ 15; decide) (by show (0 : Int) ≤ 0 ∧ (0 : Int) ≤ 10000; decide) hq5_7) ⟨va_cnB 2 hts gg_4 rfl rfl rfl (nM_LawReader_65 hG.2.1) ini_RX1 (by decide +kernel) ⟨by dsimp only [headSpec]; omega, by dsimp only [headSpec]; omega⟩, im_X1_add, se_X1_add⟩ ⟨pcW.blind, (va_recv hG.1 hP (ci := 1) (q0 := 3) rfl rfl), pre9⟩ rfl rfl hlv.1 rfl (lv_room (Nat.le_of_ble_eq_true rfl)) dX2_readComparison_62 ⟨Nat.le_of_ble_eq_true rfl, Nat.le_of_ble_eq_true rfl⟩)) hP hD hS hA hG hT [3, 4] rfl (by decide +kernel) (fun r6 u6 H locs hw6 hq9 hS => ?_)
      obtain ⟨rfl, hq6_1, hq6_2, hq6_3, hq6_4⟩ := hw6
      obtain ⟨hP, hD⟩ := pd9 [zO lr 2 [vR ta, vR la, vI (u5.2.1 5)], zO ta 8 [vR tb, vI fed, vI len, vI (u5.2.1 0), vI (u5.2.1 1), vI (u5.2.1 2), vI (u5.2.1 3)], zI tb (cy 1) 600 bf, zO la 1 [vR l0, vI (u6.2.1 1), vR l2, vR l3], zI l0 (cy 0) 600 (u6.2.2 0)] hq9
      refine lv_pop hx hb dX2_readComparison_65 rfl ?_
      refine W.widen (k := 0) (n := 0) (Nat.le_of_ble_eq_true rfl) (Nat.le_of_ble_eq_true rfl) ?_
      exact W.vret hx hb hr (fun t ht hW => ⟨⟨((fun k => ([] : List Nat).getD k 0), (fun k => ([(u5.2.1 0), (u5.2.1 1), (u5.2.1 2), (u5.2.1 3), (u6.2.1 1), (u5.2.1 5)] : List Int).getD k 0), (fun k => ([(u6.2.2 0)] : List (Nat → Int32)).getD k (fun _ => 0))), rfl, ⟨(by show (0 ≤ (u5.2.1 0) ∧ (u5.2.1 0) ≤ 600); first | exact hq5_0 | omega), (by show (0 ≤ (u5.2.1 1) ∧ (u5.2.1 1) ≤ 600); first | exact hq5_1 | omega), (by show (0 ≤ (u5.2.1 2) ∧ (u5.2.1 2) ≤ 4); first | exact hq5_2 | omega), (by show ((-1) ≤ (u5.2.1 3) ∧ (u5.2.1 3) ≤ 600); first | exact hq5_3 | omega), (by show (0 ≤ (u6.2.1 1) ∧ (u6.2.1 1) ≤ 600); first | exact hq6_2 | omega), (by show (0 ≤ (u5.2.1 5) ∧ (u5.2.1 5) ≤ 6); first | exact hq5_5 | omega), (by show ((u5.2.1 5) = op); omega), hq6_4⟩, at9 ht hP hD [0, 1, 2, 3, 4] (by decide +kernel) rfl⟩, hS.F ht⟩) hS.2.2 dX2_readComparison_66
    · refine lv_bipush (v := iI 7) hx hb dX2_readComparison_37 (by decide) ?_
      refine lv_istore_n (lv' := [(1, vI 7), (0, vR lr)]) hx hb dX2_readComparison_39 rfl hlv (by decide) rfl (fun ls hlv => ?_)
      refine lv_goto (tgt := 52) hx hb dX2_readComparison_40 (by decide) ?_
      refine lv_aload_n hx hb dX2_readComparison_52 rfl (lv_at hlv 1 rfl) ?_
      refine cjr_v [false, false, false, false, false] (fun pre9 => (va_runV (As := []) (rest := []) ⟨hx, hb, hml, hown, hts⟩ (w_val_step l hl D cy sa d IH lr ta tb fed len (u3.2.1 1) (u1.2.1 1) (u1.2.1 2) (u1.2.1 3) bf la l0 l2 l3 (u1.2.1 4) (u1.2.2 0) (u1.2.1 5) H.size (by first | exact hr_fed | omega) (by first | exact hr_len | omega) (by first | exact hq3_2 | omega) (by first | exact hq1_1 | omega) (by first | exact hq1_2 | omega) (by first | exact hq1_3 | omega) (by first | exact hq1_4 | omega) (by first | exact hq1_5 | omega) hq1_7 (by omega)) (cwV 0 hts gh_X2_readValue_62 rfl rfl rfl (by decide +kernel) ⟨by dsimp only [headSpec]; omega, by dsimp only [headSpec]; omega⟩) ⟨pcW.blind, (va_recv hG.1 hP (ci := 2) (q0 := 0) rfl rfl), pre9⟩ rfl rfl hlv.1 rfl (lv_room (Nat.le_of_ble_eq_true rfl)) dX2_readComparison_53 ⟨Nat.le_of_ble_eq_true rfl, Nat.le_of_ble_eq_true rfl⟩)) hP hD hS hA hG hT [0, 3, 4, 1, 2] rfl (by decide +kernel) (fun u7 H locs hw7 hq9 hS => ?_)
      obtain ⟨hq7_0, hq7_1, hq7_2, hq7_3, hq7_4, hq7_5, hq7_6, hq7_7⟩ := hw7
      obtain ⟨hP, hD⟩ := pd9 [zO lr 2 [vR ta, vR la, vI (u7.2.1 5)], zO ta 8 [vR tb, vI fed, vI len, vI (u7.2.1 0), vI (u7.2.1 1), vI (u7.2.1 2), vI (u7.2.1 3)], zI tb (cy 1) 600 bf, zO la 1 [vR l0, vI (u7.2.1 4), vR l2, vR l3], zI l0 (cy 0) 600 (u7.2.2 0)] hq9
      refine lv_aload_n hx hb dX2_readComparison_56 rfl (lv_at hlv 1 rfl) ?_
      refine va_get (D := D) (ci := 2) (v := vR la) (C := RX2) (T := TX2) (N := 3) hx hb hts hi2 hown hG.1 hP 0 rfl rfl 1 (by decide) lf15 (fun _ h9 => h9) rfl dX2_readComparison_57 ?_
      refine lv_iload_n hx hb dX2_readComparison_60 rfl (lv_at hlv 0 rfl) ?_
      refine lv_iconst (v := iI 0) hx hb dX2_readComparison_61 (by decide) ?_
      refine cjr_i [true, true, true, false, false] (fun pre9 => (va_runVN (host := "KerbSplash") (As := [vI 7, vI 0]) (rest := []) ⟨hx, hb, hml, hown, hts⟩ (s_ladd l hl D cy sa la l0 l2 l3 (u7.2.1 4) (u7.2.2 0) 7 0 H.size (by first | exact hq7_4 | omega) (by show (0 : Int) ≤ 7 ∧ (7 : Int) ≤ 15; decide) (by show (0 : Int) ≤ 0 ∧ (0 : Int) ≤ 10000; decide) hq7_7) ⟨va_cnB 2 hts gg_4 rfl rfl rfl (nM_LawReader_65 hG.2.1) ini_RX1 (by decide +kernel) ⟨by dsimp only [headSpec]; omega, by dsimp only [headSpec]; omega⟩, im_X1_add, se_X1_add⟩ ⟨pcW.blind, (va_recv hG.1 hP (ci := 1) (q0 := 3) rfl rfl), pre9⟩ rfl rfl hlv.1 rfl (lv_room (Nat.le_of_ble_eq_true rfl)) dX2_readComparison_62 ⟨Nat.le_of_ble_eq_true rfl, Nat.le_of_ble_eq_true rfl⟩)) hP hD hS hA hG hT [3, 4] rfl (by decide +kernel) (fun r8 u8 H locs hw8 hq9 hS => ?_)
      obtain ⟨rfl, hq8_1, hq8_2, hq8_3, hq8_4⟩ := hw8
      obtain ⟨hP, hD⟩ := pd9 [zO lr 2 [vR ta, vR la, vI (u7.2.1 5)], zO ta 8 [vR tb, vI fed, vI len, vI (u7.2.1 0), vI (u7.2.1 1), vI (u7.2.1 2), vI (u7.2.1 3)], zI tb (cy 1) 600 bf, zO la 1 [vR l0, vI (u8.2.1 1), vR l2, vR l3], zI l0 (cy 0) 600 (u8.2.2 0)] hq9
      refine lv_pop hx hb dX2_readComparison_65 rfl ?_
      refine W.widen (k := 0) (n := 0) (Nat.le_of_ble_eq_true rfl) (Nat.le_of_ble_eq_true rfl) ?_
      exact W.vret hx hb hr (fun t ht hW => ⟨⟨((fun k => ([] : List Nat).getD k 0), (fun k => ([(u7.2.1 0), (u7.2.1 1), (u7.2.1 2), (u7.2.1 3), (u8.2.1 1), (u7.2.1 5)] : List Int).getD k 0), (fun k => ([(u8.2.2 0)] : List (Nat → Int32)).getD k (fun _ => 0))), rfl, ⟨(by show (0 ≤ (u7.2.1 0) ∧ (u7.2.1 0) ≤ 600); first | exact hq7_0 | omega), (by show (0 ≤ (u7.2.1 1) ∧ (u7.2.1 1) ≤ 600); first | exact hq7_1 | omega), (by show (0 ≤ (u7.2.1 2) ∧ (u7.2.1 2) ≤ 4); first | exact hq7_2 | omega), (by show ((-1) ≤ (u7.2.1 3) ∧ (u7.2.1 3) ≤ 600); first | exact hq7_3 | omega), (by show (0 ≤ (u8.2.1 1) ∧ (u8.2.1 1) ≤ 600); first | exact hq8_2 | omega), (by show (0 ≤ (u7.2.1 5) ∧ (u7.2.1 5) ≤ 6); first | exact hq7_5 | omega), (by show ((u7.2.1 5) = op); omega), hq8_4⟩, at9 ht hP hD [0, 1, 2, 3, 4] (by decide +kernel) rfl⟩, hS.F ht⟩) hS.2.2 dX2_readComparison_66
  · refine lv_bipush (v := iI 6) hx hb dX2_readComparison_19 (by decide) ?_
    refine lv_istore_n (lv' := [(1, vI 6), (0, vR lr)]) hx hb dX2_readComparison_21 rfl hlv (by decide) rfl (fun ls hlv => ?_)
    refine lv_goto (tgt := 52) hx hb dX2_readComparison_22 (by decide) ?_
    refine lv_aload_n hx hb dX2_readComparison_52 rfl (lv_at hlv 1 rfl) ?_
    refine cjr_v [false, false, false, false, false] (fun pre9 => (va_runV (As := []) (rest := []) ⟨hx, hb, hml, hown, hts⟩ (w_val_step l hl D cy sa d IH lr ta tb fed len (u2.2.1 1) (u1.2.1 1) (u1.2.1 2) (u1.2.1 3) bf la l0 l2 l3 (u1.2.1 4) (u1.2.2 0) (u1.2.1 5) H.size (by first | exact hr_fed | omega) (by first | exact hr_len | omega) (by first | exact hq2_2 | omega) (by first | exact hq1_1 | omega) (by first | exact hq1_2 | omega) (by first | exact hq1_3 | omega) (by first | exact hq1_4 | omega) (by first | exact hq1_5 | omega) hq1_7 (by omega)) (cwV 0 hts gh_X2_readValue_62 rfl rfl rfl (by decide +kernel) ⟨by dsimp only [headSpec]; omega, by dsimp only [headSpec]; omega⟩) ⟨pcW.blind, (va_recv hG.1 hP (ci := 2) (q0 := 0) rfl rfl), pre9⟩ rfl rfl hlv.1 rfl (lv_room (Nat.le_of_ble_eq_true rfl)) dX2_readComparison_53 ⟨Nat.le_of_ble_eq_true rfl, Nat.le_of_ble_eq_true rfl⟩)) hP hD hS hA hG hT [0, 3, 4, 1, 2] rfl (by decide +kernel) (fun u9 H locs hw9 hq9 hS => ?_)
    obtain ⟨hq9_0, hq9_1, hq9_2, hq9_3, hq9_4, hq9_5, hq9_6, hq9_7⟩ := hw9
    obtain ⟨hP, hD⟩ := pd9 [zO lr 2 [vR ta, vR la, vI (u9.2.1 5)], zO ta 8 [vR tb, vI fed, vI len, vI (u9.2.1 0), vI (u9.2.1 1), vI (u9.2.1 2), vI (u9.2.1 3)], zI tb (cy 1) 600 bf, zO la 1 [vR l0, vI (u9.2.1 4), vR l2, vR l3], zI l0 (cy 0) 600 (u9.2.2 0)] hq9
    refine lv_aload_n hx hb dX2_readComparison_56 rfl (lv_at hlv 1 rfl) ?_
    refine va_get (D := D) (ci := 2) (v := vR la) (C := RX2) (T := TX2) (N := 3) hx hb hts hi2 hown hG.1 hP 0 rfl rfl 1 (by decide) lf15 (fun _ h9 => h9) rfl dX2_readComparison_57 ?_
    refine lv_iload_n hx hb dX2_readComparison_60 rfl (lv_at hlv 0 rfl) ?_
    refine lv_iconst (v := iI 0) hx hb dX2_readComparison_61 (by decide) ?_
    refine cjr_i [true, true, true, false, false] (fun pre9 => (va_runVN (host := "KerbSplash") (As := [vI 6, vI 0]) (rest := []) ⟨hx, hb, hml, hown, hts⟩ (s_ladd l hl D cy sa la l0 l2 l3 (u9.2.1 4) (u9.2.2 0) 6 0 H.size (by first | exact hq9_4 | omega) (by show (0 : Int) ≤ 6 ∧ (6 : Int) ≤ 15; decide) (by show (0 : Int) ≤ 0 ∧ (0 : Int) ≤ 10000; decide) hq9_7) ⟨va_cnB 2 hts gg_4 rfl rfl rfl (nM_LawReader_65 hG.2.1) ini_RX1 (by decide +kernel) ⟨by dsimp only [headSpec]; omega, by dsimp only [headSpec]; omega⟩, im_X1_add, se_X1_add⟩ ⟨pcW.blind, (va_recv hG.1 hP (ci := 1) (q0 := 3) rfl rfl), pre9⟩ rfl rfl hlv.1 rfl (lv_room (Nat.le_of_ble_eq_true rfl)) dX2_readComparison_62 ⟨Nat.le_of_ble_eq_true rfl, Nat.le_of_ble_eq_true rfl⟩)) hP hD hS hA hG hT [3, 4] rfl (by decide +kernel) (fun r10 u10 H locs hw10 hq9 hS => ?_)
    obtain ⟨rfl, hq10_1, hq10_2, hq10_3, hq10_4⟩ := hw10
    obtain ⟨hP, hD⟩ := pd9 [zO lr 2 [vR ta, vR la, vI (u9.2.1 5)], zO ta 8 [vR tb, vI fed, vI len, vI (u9.2.1 0), vI (u9.2.1 1), vI (u9.2.1 2), vI (u9.2.1 3)], zI tb (cy 1) 600 bf, zO la 1 [vR l0, vI (u10.2.1 1), vR l2, vR l3], zI l0 (cy 0) 600 (u10.2.2 0)] hq9
    refine lv_pop hx hb dX2_readComparison_65 rfl ?_
    refine W.widen (k := 0) (n := 0) (Nat.le_of_ble_eq_true rfl) (Nat.le_of_ble_eq_true rfl) ?_
    exact W.vret hx hb hr (fun t ht hW => ⟨⟨((fun k => ([] : List Nat).getD k 0), (fun k => ([(u9.2.1 0), (u9.2.1 1), (u9.2.1 2), (u9.2.1 3), (u10.2.1 1), (u9.2.1 5)] : List Int).getD k 0), (fun k => ([(u10.2.2 0)] : List (Nat → Int32)).getD k (fun _ => 0))), rfl, ⟨(by show (0 ≤ (u9.2.1 0) ∧ (u9.2.1 0) ≤ 600); first | exact hq9_0 | omega), (by show (0 ≤ (u9.2.1 1) ∧ (u9.2.1 1) ≤ 600); first | exact hq9_1 | omega), (by show (0 ≤ (u9.2.1 2) ∧ (u9.2.1 2) ≤ 4); first | exact hq9_2 | omega), (by show ((-1) ≤ (u9.2.1 3) ∧ (u9.2.1 3) ≤ 600); first | exact hq9_3 | omega), (by show (0 ≤ (u10.2.1 1) ∧ (u10.2.1 1) ≤ 600); first | exact hq10_2 | omega), (by show (0 ≤ (u9.2.1 5) ∧ (u9.2.1 5) ≤ 6); first | exact hq9_5 | omega), (by show ((u9.2.1 5) = op); omega), hq10_4⟩, at9 ht hP hD [0, 1, 2, 3, 4] (by decide +kernel) rfl⟩, hS.F ht⟩) hS.2.2 dX2_readComparison_66
set_option maxHeartbeats 4000000 in
set_option maxRecDepth 100000 in
theorem w_test_step (l : Launch) (hl : l.stackTraces = false) (D : va_G) (cy : Nat → ClassId) (sa : Nat → Nat) (d : Nat) (IH : LR l D cy sa d) (lr : Nat) (ta tb : Nat) (fed len at_ we fa fp : Int) (bf : Nat → Int32) (la l0 l2 l3 : Nat) (size : Int) (st : Nat → Int32) (op : Int) (sz : Nat) (hr_fed : 0 ≤ fed ∧ fed ≤ 600) (hr_len : 0 ≤ len ∧ len ≤ 600) (hr_at_ : 0 ≤ at_ ∧ at_ ≤ 600) (hr_we : 0 ≤ we ∧ we ≤ 600) (hr_fa : 0 ≤ fa ∧ fa ≤ 4) (hr_fp : (-1) ≤ fp ∧ fp ≤ 600) (hr_size : 0 ≤ size ∧ size ≤ 600) (hr_op : 0 ≤ op ∧ op ≤ 6) (hst : inv_ 600 0 2147483647 st) (hlev : (7 : Int) - ((d + 1 : Nat) : Int) ≤ op) : mV9 l yX2_readTest vs_w_test ({ frames := 12 * (d + 1) + 4, cells := 0, slots := 0, locals := 900 * (d + 1) + 160 }) D cy sa sz [vR lr] [zO lr 2 [vR ta, vR la, vI op], zO ta 8 [vR tb, vI fed, vI len, vI at_, vI we, vI fa, vI fp], zI tb (cy 1) 600 bf, zO la 1 [vR l0, vI size, vR l2, vR l3], zI l0 (cy 0) 600 st] (fun u : SV => (0 ≤ u.2.1 0 ∧ u.2.1 0 ≤ 600) ∧ (0 ≤ u.2.1 1 ∧ u.2.1 1 ≤ 600) ∧ (0 ≤ u.2.1 2 ∧ u.2.1 2 ≤ 4) ∧ ((-1) ≤ u.2.1 3 ∧ u.2.1 3 ≤ 600) ∧ (0 ≤ u.2.1 4 ∧ u.2.1 4 ≤ 600) ∧ (0 ≤ u.2.1 5 ∧ u.2.1 5 ≤ 6) ∧ (u.2.1 5 = op) ∧ inv_ 600 0 2147483647 (u.2.2 0)) (fun u : SV => [zO lr 2 [vR ta, vR la, vI (u.2.1 5)], zO ta 8 [vR tb, vI fed, vI len, vI (u.2.1 0), vI (u.2.1 1), vI (u.2.1 2), vI (u.2.1 3)], zI tb (cy 1) 600 bf, zO la 1 [vR l0, vI (u.2.1 4), vR l2, vR l3], zI l0 (cy 0) 600 (u.2.2 0)]) 0 0 := by
  refine Met.ofW (cc := cX2_readTest) (maxL := 1) (ret := none) (by decide) rfl ?_
  intro p e s m args below meth c s₁ B hml hv
  obtain ⟨rfl, hsz, hP, hG, hD0, hT⟩ := hv
  have hx := B.exec
  have hb := B.bytes
  have hr := B.returns
  have hts := atoms_spec (ws := vs_w_test) B.pre
  have hown : s.vm.findClass RX2 = some m.cls := findClass_of_methodNamed B.named
  have hlocks := B.notSynchronized
  subst hsz
  have hD := hD0.self (sz := s.heap.size)
  generalize hAe : va_A [zO lr 2 [vR ta, vR la, vI op], zO ta 8 [vR tb, vI fed, vI len, vI at_, vI we, vI fa, vI fp], zI tb (cy 1) 600 bf, zO la 1 [vR l0, vI size, vR l2, vR l3], zI l0 (cy 0) 600 st] s.heap.size = A at hD hT ⊢
  have hA : ∀ q : Nat, s.heap.size ≤ q → A q := fun q h => by rw [← hAe]; exact Or.inr h
  have hS : va_S A s.heap s.heap [] := va_S.rf
  have hl0 := lv_entry ([vR lr]) (n := 1) (Nat.le_of_ble_eq_true rfl)
  rw [lg_entry_eq]
  generalize (lg_sl ([vR lr]) ++ List.replicate (1 - (lg_sl ([vR lr])).length) Slot.unset).toArray = ls at hl0 ⊢
  have hlv : lv_has ls 1 [(0, vR lr)] := hl0
  have lf9 := hts (.fieldLink RX2 9 "KerbSplash$LawReader" "tape" "LKerbSplash$Tape;") (List.mem_of_getElem? (i := 1) rfl)
  have hi2 : ∀ w ∈ wsX20, w ∈ vs_w_test := fun w h => List.mem_cons_of_mem _ (List.mem_append_right _ (List.mem_append_left _ h))
  have gg_1 : GoodIn vs_w_test (vs_s_word) := goodIn_sub (fun w h => List.mem_cons_of_mem _ (List.mem_append_right _ (List.mem_append_right _ (List.mem_append_left _ h)))) gd_s_word
  have ini_RX8 := hts (.initialized RX8) (List.mem_of_getElem? (i := 2) rfl)
  have im_X8_word := hts (.instanceMethod yX8_word) (List.mem_of_getElem? (i := 3) rfl)
  have se_X8_word := hts (.selects RX8 yX8_word yX8_word) (List.mem_of_getElem? (i := 4) rfl)
  have lf133 := hts (.fieldLink RX2 133 "KerbSplash$Word" "NOT" "LKerbSplash$Word;") (List.mem_of_getElem? (i := 50) rfl)
  have gg_2 : GoodIn vs_w_test (vs_s_sign) := goodIn_sub (fun w h => List.mem_cons_of_mem _ (List.mem_append_right _ (List.mem_append_right _ (List.mem_append_right _ (List.mem_append_left _ h))))) gd_s_sign
  have im_X8_sign := hts (.instanceMethod yX8_sign) (List.mem_of_getElem? (i := 5) rfl)
  have se_X8_sign := hts (.selects RX8 yX8_sign yX8_sign) (List.mem_of_getElem? (i := 6) rfl)
  have gh_X2_readComparison_136 : GoodIn vs_w_test (wsV RX2 136 RX2 yX2_readComparison vs_w_cmp) := goodIn_sub (gsub_V (List.mem_append_left _ (List.mem_of_getElem? (i := 50) rfl)) (List.mem_append_left _ (List.mem_of_getElem? (i := 51) rfl)) (List.mem_append_left _ (List.mem_of_getElem? (i := 52) rfl)) (List.mem_append_left _ (List.mem_of_getElem? (i := 17) rfl)) (List.mem_append_left _ (List.mem_of_getElem? (i := 53) rfl))) (gd_V (gd_C (by decide +kernel) gd_LRC) (by decide +kernel))
  have gg_5 : GoodIn vs_w_test (wsV RX2 86 RX2 yX2_open vs_w_open) := goodIn_sub (fun w h => List.mem_cons_of_mem _ (List.mem_append_right _ (List.mem_append_right _ (List.mem_append_right _ (List.mem_append_right _ (List.mem_append_right _ (List.mem_append_right _ (List.mem_append_left _ h)))))))) (gd_V gd_w_open (by decide +kernel))
  have gg_6 : GoodIn vs_w_test (vs_s_want) := goodIn_sub (fun w h => List.mem_cons_of_mem _ (List.mem_append_right _ (List.mem_append_right _ (List.mem_append_right _ (List.mem_append_right _ (List.mem_append_right _ (List.mem_append_right _ (List.mem_append_right _ (List.mem_append_left _ h))))))))) gd_s_want
  have im_X8_want := hts (.instanceMethod yX8_want) (List.mem_of_getElem? (i := 13) rfl)
  have se_X8_want := hts (.selects RX8 yX8_want yX8_want) (List.mem_of_getElem? (i := 14) rfl)
  have gh_X2_readCondition_93 : GoodIn vs_w_test (wsV RX2 93 RX2 yX2_readCondition vs_w_cond) := goodIn_sub (gsub_V (List.mem_append_left _ (List.mem_of_getElem? (i := 33) rfl)) (List.mem_append_left _ (List.mem_of_getElem? (i := 34) rfl)) (List.mem_append_left _ (List.mem_of_getElem? (i := 35) rfl)) (List.mem_append_left _ (List.mem_of_getElem? (i := 17) rfl)) (List.mem_append_left _ (List.mem_of_getElem? (i := 36) rfl))) (gd_V (gd_C (by decide +kernel) gd_LRC) (by decide +kernel))
  have lf105 := hts (.fieldLink RX2 105 "KerbSplash$LawReader" "opened" "I") (List.mem_of_getElem? (i := 20) rfl)
  have gg_10 : GoodIn vs_w_test (vs_s_wantWord) := goodIn_sub (fun w h => List.mem_cons_of_mem _ (List.mem_append_right _ (List.mem_append_right _ (List.mem_append_right _ (List.mem_append_right _ (List.mem_append_right _ (List.mem_append_right _ (List.mem_append_right _ (List.mem_append_right _ (List.mem_append_right _ (List.mem_append_right _ (List.mem_append_right _ (List.mem_append_left _ h))))))))))))) gd_s_wantWord
  have im_X8_wantWord := hts (.instanceMethod yX8_wantWord) (List.mem_of_getElem? (i := 32) rfl)
  have se_X8_wantWord := hts (.selects RX8 yX8_wantWord yX8_wantWord) (List.mem_of_getElem? (i := 33) rfl)
  have gh_X2_readTest_127 : GoodIn vs_w_test (wsV RX2 127 RX2 yX2_readTest vs_w_test) := goodIn_sub (gsub_V (List.mem_append_left _ (List.mem_of_getElem? (i := 54) rfl)) (List.mem_append_left _ (List.mem_of_getElem? (i := 55) rfl)) (List.mem_append_left _ (List.mem_of_getElem? (i := 56) rfl)) (List.mem_append_left _ (List.mem_of_getElem? (i := 17) rfl)) (List.mem_append_left _ (List.mem_of_getElem? (i := 57) rfl))) (gd_V (gd_C (by decide +kernel) gd_LRC) (by decide +kernel))
  have lf15 := hts (.fieldLink RX2 15 "KerbSplash$LawReader" "law" "LKerbSplash$Law;") (List.mem_of_getElem? (i := 7) rfl)
  have gg_4 : GoodIn vs_w_test (vs_s_ladd) := goodIn_sub (fun w h => List.mem_cons_of_mem _ (List.mem_append_right _ (List.mem_append_right _ (List.mem_append_right _ (List.mem_append_right _ (List.mem_append_right _ (List.mem_append_left _ h))))))) gd_s_ladd
  have ini_RX1 := hts (.initialized RX1) (List.mem_of_getElem? (i := 10) rfl)
  have im_X1_add := hts (.instanceMethod yX1_add) (List.mem_of_getElem? (i := 11) rfl)
  have se_X1_add := hts (.selects RX1 yX1_add yX1_add) (List.mem_of_getElem? (i := 12) rfl)
  refine lv_aload_n hx hb dX2_readTest_0 rfl (lv_at hlv 0 rfl) ?_
  refine va_get (D := D) (ci := 2) (v := vR ta) (C := RX2) (T := TX2) (N := 3) hx hb hts hi2 hown hG.1 hP 0 rfl rfl 0 (by decide) lf9 (fun _ h9 => h9) rfl dX2_readTest_1 ?_
  refine cjr_r (ra := fun u : SV => wd sa (u.2.1 0)) [true, false, false, true, true] (fun pre9 => (va_runVN (host := "KerbSplash") (As := []) (rest := []) ⟨hx, hb, hml, hown, hts⟩ (s_word l hl D cy sa ta tb fed len at_ we fa fp bf s.heap.size (by first | exact hr_fed | omega) (by first | exact hr_len | omega) (by first | exact hr_at_ | omega) (by first | exact hr_we | omega) (by first | exact hr_fa | omega) (by first | exact hr_fp | omega)) ⟨va_cnB 0 hts gg_1 rfl rfl rfl (nM_LawReader_33 hG.2.1) ini_RX8 (by decide +kernel) ⟨by dsimp only [headSpec]; omega, by dsimp only [headSpec]; omega⟩, im_X8_word, se_X8_word⟩ ⟨pcW.blind, (va_recv hG.1 hP (ci := 8) (q0 := 1) rfl rfl), pre9⟩ rfl rfl hlv.1 rfl (lv_room (Nat.le_of_ble_eq_true rfl)) dX2_readTest_4 ⟨Nat.le_of_ble_eq_true rfl, Nat.le_of_ble_eq_true rfl⟩)) hP hD hS hA hG hT [1, 2] rfl (by decide +kernel) (fun u1 H locs hw1 hq9 hS => ?_)
  obtain ⟨hq1_0, hq1_1, hq1_2⟩ := hw1
  obtain ⟨hP, hD⟩ := pd9 [zO lr 2 [vR ta, vR la, vI op], zO la 1 [vR l0, vI size, vR l2, vR l3], zI l0 (cy 0) 600 st, zO ta 8 [vR tb, vI fed, vI len, vI (u1.2.1 1), vI (u1.2.1 2), vI fa, vI fp], zI tb (cy 1) 600 bf] hq9
  refine va_gets (C := "KerbSplash$Word") (n := "NOT") (d := "LKerbSplash$Word;") (ref := "KerbSplash$Word") (v := .ref (wd sa 21)) hx hb (hT.2.2.1 21 (by decide)).1.1 hS hown lf133 (fun _ h9 => h9) dX2_readTest_7 ?_
  refine aw_ne (tgt := 68) hx hb hT.2.2 dX2_readTest_10 (by decide) (by omega) (by omega) (fun c_1 => ?_) (fun c_1 => ?_)
  · refine lv_aload_n hx hb dX2_readTest_68 rfl (lv_at hlv 0 rfl) ?_
    refine va_get (D := D) (ci := 2) (v := vR ta) (C := RX2) (T := TX2) (N := 3) hx hb hts hi2 hown hG.1 hP 0 rfl rfl 0 (by decide) lf9 (fun _ h9 => h9) rfl dX2_readTest_69 ?_
    refine cjr_i [true, true, true, false, false] (fun pre9 => (va_runVN (host := "KerbSplash") (As := []) (rest := []) ⟨hx, hb, hml, hown, hts⟩ (s_sign l hl D cy sa ta tb fed len (u1.2.1 1) (u1.2.1 2) fa fp bf H.size (by first | exact hr_fed | omega) (by first | exact hr_len | omega) (by first | exact hq1_1 | omega) (by first | exact hq1_2 | omega) (by first | exact hr_fa | omega) (by first | exact hr_fp | omega)) ⟨va_cnB 0 hts gg_2 rfl rfl rfl (nM_LawReader_114 hG.2.1) ini_RX8 (by decide +kernel) ⟨by dsimp only [headSpec]; omega, by dsimp only [headSpec]; omega⟩, im_X8_sign, se_X8_sign⟩ ⟨pcW.blind, (va_recv hG.1 hP (ci := 8) (q0 := 3) rfl rfl), pre9⟩ rfl rfl hlv.1 rfl (lv_room (Nat.le_of_ble_eq_true rfl)) dX2_readTest_72 ⟨Nat.le_of_ble_eq_true rfl, Nat.le_of_ble_eq_true rfl⟩)) hP hD hS hA hG hT [3, 4] rfl (by decide +kernel) (fun r2 u2 H locs hw2 hq9 hS => ?_)
    obtain ⟨rfl, hq2_1, hq2_2, hq2_3, hq2_4, hq2_5⟩ := hw2
    obtain ⟨hP, hD⟩ := pd9 [zO lr 2 [vR ta, vR la, vI op], zO la 1 [vR l0, vI size, vR l2, vR l3], zI l0 (cy 0) 600 st, zO ta 8 [vR tb, vI fed, vI len, vI (u2.2.1 1), vI (u1.2.1 2), vI fa, vI fp], zI tb (cy 1) 600 bf] hq9
    refine lv_bipush (v := iI 91) hx hb dX2_readTest_75 (by decide) ?_
    refine ir_ne (tgt := 122) hx hb dX2_readTest_77 (by decide) (by first | exact rgw hq2_1 (by decide) (by decide) | omega) (by show ((-2147483648) : Int) ≤ 91 ∧ (91 : Int) ≤ 2147483647; decide) (fun c_2 => ?_) (fun c_2 => ?_)
    · refine lv_aload_n hx hb dX2_readTest_122 rfl (lv_at hlv 0 rfl) ?_
      refine cjr_v [false, false, false, false, false] (fun pre9 => (va_runV (As := []) (rest := []) ⟨hx, hb, hml, hown, hts⟩ (w_cmp_step l hl D cy sa d IH lr ta tb fed len (u2.2.1 1) (u1.2.1 2) fa fp bf la l0 l2 l3 size st op H.size (by first | exact hr_fed | omega) (by first | exact hr_len | omega) (by first | exact hq2_2 | omega) (by first | exact hq1_2 | omega) (by first | exact hr_fa | omega) (by first | exact hr_fp | omega) (by first | exact hr_size | omega) (by first | exact hr_op | omega) hst (by omega)) (cwV 0 hts gh_X2_readComparison_136 rfl rfl rfl (by decide +kernel) ⟨by dsimp only [headSpec]; omega, by dsimp only [headSpec]; omega⟩) ⟨pcW.blind, (va_recv hG.1 hP (ci := 2) (q0 := 0) rfl rfl), pre9⟩ rfl rfl hlv.1 rfl (lv_room (Nat.le_of_ble_eq_true rfl)) dX2_readTest_123 ⟨Nat.le_of_ble_eq_true rfl, Nat.le_of_ble_eq_true rfl⟩)) hP hD hS hA hG hT [0, 3, 4, 1, 2] rfl (by decide +kernel) (fun u3 H locs hw3 hq9 hS => ?_)
      obtain ⟨hq3_0, hq3_1, hq3_2, hq3_3, hq3_4, hq3_5, hq3_6, hq3_7⟩ := hw3
      obtain ⟨hP, hD⟩ := pd9 [zO lr 2 [vR ta, vR la, vI (u3.2.1 5)], zO ta 8 [vR tb, vI fed, vI len, vI (u3.2.1 0), vI (u3.2.1 1), vI (u3.2.1 2), vI (u3.2.1 3)], zI tb (cy 1) 600 bf, zO la 1 [vR l0, vI (u3.2.1 4), vR l2, vR l3], zI l0 (cy 0) 600 (u3.2.2 0)] hq9
      refine W.widen (k := 0) (n := 0) (Nat.le_of_ble_eq_true rfl) (Nat.le_of_ble_eq_true rfl) ?_
      exact W.vret hx hb hr (fun t ht hW => ⟨⟨((fun k => ([] : List Nat).getD k 0), (fun k => ([(u3.2.1 0), (u3.2.1 1), (u3.2.1 2), (u3.2.1 3), (u3.2.1 4), (u3.2.1 5)] : List Int).getD k 0), (fun k => ([(u3.2.2 0)] : List (Nat → Int32)).getD k (fun _ => 0))), rfl, ⟨(by show (0 ≤ (u3.2.1 0) ∧ (u3.2.1 0) ≤ 600); first | exact hq3_0 | omega), (by show (0 ≤ (u3.2.1 1) ∧ (u3.2.1 1) ≤ 600); first | exact hq3_1 | omega), (by show (0 ≤ (u3.2.1 2) ∧ (u3.2.1 2) ≤ 4); first | exact hq3_2 | omega), (by show ((-1) ≤ (u3.2.1 3) ∧ (u3.2.1 3) ≤ 600); first | exact hq3_3 | omega), (by show (0 ≤ (u3.2.1 4) ∧ (u3.2.1 4) ≤ 600); first | exact hq3_4 | omega), (by show (0 ≤ (u3.2.1 5) ∧ (u3.2.1 5) ≤ 6); first | exact hq3_5 | omega), (by show ((u3.2.1 5) = op); omega), hq3_7⟩, at9 ht hP hD [0, 1, 2, 3, 4] (by decide +kernel) rfl⟩, hS.F ht⟩) hS.2.2 dX2_readTest_126
    · refine lv_aload_n hx hb dX2_readTest_80 rfl (lv_at hlv 0 rfl) ?_
      refine cjr_i [false, true, true, false, true] (fun pre9 => (va_runV (As := []) (rest := []) ⟨hx, hb, hml, hown, hts⟩ (w_open l hl D cy sa lr la ta tb fed len (u2.2.1 1) (u1.2.1 2) fa fp op H.size (by first | exact hr_fed | omega) (by first | exact hr_len | omega) (by first | exact hq2_2 | omega) (by first | exact hq1_2 | omega) (by first | exact hr_fa | omega) (by first | exact hr_fp | omega) (by first | exact hr_op | omega)) (cwV 0 hts gg_5 rfl rfl rfl (by decide +kernel) ⟨by dsimp only [headSpec]; omega, by dsimp only [headSpec]; omega⟩) ⟨pcW.blind, (va_recv hG.1 hP (ci := 2) (q0 := 0) rfl rfl), pre9⟩ rfl rfl hlv.1 rfl (lv_room (Nat.le_of_ble_eq_true rfl)) dX2_readTest_81 ⟨Nat.le_of_ble_eq_true rfl, Nat.le_of_ble_eq_true rfl⟩)) hP hD hS hA hG hT [0, 3] rfl (by decide +kernel) (fun r4 u4 H locs hw4 hq9 hS => ?_)
      obtain ⟨rfl, hq4_1, hq4_2, hq4_3, hq4_4, hq4_5, hq4_6⟩ := hw4
      obtain ⟨hP, hD⟩ := pd9 [zO la 1 [vR l0, vI size, vR l2, vR l3], zI l0 (cy 0) 600 st, zI tb (cy 1) 600 bf, zO lr 2 [vR ta, vR la, vI (u4.2.1 1)], zO ta 8 [vR tb, vI fed, vI len, vI (u2.2.1 1), vI (u1.2.1 2), vI (u4.2.1 2), vI (u4.2.1 3)]] hq9
      refine iz_eq (tgt := 126) hx hb dX2_readTest_84 (by decide) (by first | exact rgw hq4_1 (by decide) (by decide) | omega) (fun c_3 => ?_) (fun c_3 => ?_)
      · refine W.widen (k := 0) (n := 0) (Nat.le_of_ble_eq_true rfl) (Nat.le_of_ble_eq_true rfl) ?_
        exact W.vret hx hb hr (fun t ht hW => ⟨⟨((fun k => ([] : List Nat).getD k 0), (fun k => ([(u2.2.1 1), (u1.2.1 2), (u4.2.1 2), (u4.2.1 3), size, (u4.2.1 1)] : List Int).getD k 0), (fun k => ([st] : List (Nat → Int32)).getD k (fun _ => 0))), rfl, ⟨(by show (0 ≤ (u2.2.1 1) ∧ (u2.2.1 1) ≤ 600); first | exact hq2_2 | omega), (by show (0 ≤ (u1.2.1 2) ∧ (u1.2.1 2) ≤ 600); first | exact hq1_2 | omega), (by show (0 ≤ (u4.2.1 2) ∧ (u4.2.1 2) ≤ 4); first | exact hq4_3 | omega), (by show ((-1) ≤ (u4.2.1 3) ∧ (u4.2.1 3) ≤ 600); first | exact hq4_4 | omega), (by show (0 ≤ size ∧ size ≤ 600); first | exact hr_size | omega), (by show (0 ≤ (u4.2.1 1) ∧ (u4.2.1 1) ≤ 6); first | exact hq4_2 | omega), (by show ((u4.2.1 1) = op); omega), hst⟩, at9 ht hP hD [3, 4, 2, 0, 1] (by decide +kernel) rfl⟩, hS.F ht⟩) hS.2.2 dX2_readTest_126
      · refine lv_aload_n hx hb dX2_readTest_87 rfl (lv_at hlv 0 rfl) ?_
        refine va_get (D := D) (ci := 2) (v := vR ta) (C := RX2) (T := TX2) (N := 3) hx hb hts hi2 hown hG.1 hP 3 rfl rfl 0 (by decide) lf9 (fun _ h9 => h9) rfl dX2_readTest_88 ?_
        refine lv_bipush (v := iI 91) hx hb dX2_readTest_91 (by decide) ?_
        refine cjr_v [true, true, false, true, false] (fun pre9 => (va_runVN (host := "KerbSplash") (As := [vI 91]) (rest := []) ⟨hx, hb, hml, hown, hts⟩ (s_want l hl D cy sa ta tb fed len (u2.2.1 1) (u1.2.1 2) (u4.2.1 2) (u4.2.1 3) bf 91 H.size (by first | exact hr_fed | omega) (by first | exact hr_len | omega) (by first | exact hq2_2 | omega) (by first | exact hq1_2 | omega) (by first | exact hq4_3 | omega) (by first | exact hq4_4 | omega) (by show (0 : Int) ≤ 91 ∧ (91 : Int) ≤ 65535; decide)) ⟨va_cnB 1 hts gg_6 rfl rfl rfl (nM_LawReader_58 hG.2.1) ini_RX8 (by decide +kernel) ⟨by dsimp only [headSpec]; omega, by dsimp only [headSpec]; omega⟩, im_X8_want, se_X8_want⟩ ⟨pcW.blind, (va_recv hG.1 hP (ci := 8) (q0 := 4) rfl rfl), pre9⟩ rfl rfl hlv.1 rfl (lv_room (Nat.le_of_ble_eq_true rfl)) dX2_readTest_93 ⟨Nat.le_of_ble_eq_true rfl, Nat.le_of_ble_eq_true rfl⟩)) hP hD hS hA hG hT [4, 2] rfl (by decide +kernel) (fun u5 H locs hw5 hq9 hS => ?_)
        obtain ⟨hq5_0, hq5_1, hq5_2, hq5_3, hq5_4⟩ := hw5
        obtain ⟨hP, hD⟩ := pd9 [zO la 1 [vR l0, vI size, vR l2, vR l3], zI l0 (cy 0) 600 st, zO lr 2 [vR ta, vR la, vI (u4.2.1 1)], zO ta 8 [vR tb, vI fed, vI len, vI (u5.2.1 0), vI (u1.2.1 2), vI (u5.2.1 1), vI (u5.2.1 2)], zI tb (cy 1) 600 bf] hq9
        refine lv_aload_n hx hb dX2_readTest_96 rfl (lv_at hlv 0 rfl) ?_
        refine cjr_v [false, false, false, false, false] (fun pre9 => (va_runV (As := []) (rest := []) ⟨hx, hb, hml, hown, hts⟩ (IH.2.1 lr ta tb fed len (u5.2.1 0) (u1.2.1 2) (u5.2.1 1) (u5.2.1 2) bf la l0 l2 l3 size st (u4.2.1 1) H.size (by first | exact hr_fed | omega) (by first | exact hr_len | omega) (by first | exact hq5_0 | omega) (by first | exact hq1_2 | omega) (by first | exact hq5_1 | omega) (by first | exact hq5_2 | omega) (by first | exact hr_size | omega) (by first | exact hq4_2 | omega) hst (by omega)) (cwV 0 hts gh_X2_readCondition_93 rfl rfl rfl (by decide +kernel) ⟨by dsimp only [headSpec]; omega, by dsimp only [headSpec]; omega⟩) ⟨pcW.blind, (va_recv hG.1 hP (ci := 2) (q0 := 2) rfl rfl), pre9⟩ rfl rfl hlv.1 rfl (lv_room (Nat.le_of_ble_eq_true rfl)) dX2_readTest_97 ⟨Nat.le_of_ble_eq_true rfl, Nat.le_of_ble_eq_true rfl⟩)) hP hD hS hA hG hT [2, 3, 4, 0, 1] rfl (by decide +kernel) (fun u6 H locs hw6 hq9 hS => ?_)
        obtain ⟨hq6_0, hq6_1, hq6_2, hq6_3, hq6_4, hq6_5, hq6_6, hq6_7⟩ := hw6
        obtain ⟨hP, hD⟩ := pd9 [zO lr 2 [vR ta, vR la, vI (u6.2.1 5)], zO ta 8 [vR tb, vI fed, vI len, vI (u6.2.1 0), vI (u6.2.1 1), vI (u6.2.1 2), vI (u6.2.1 3)], zI tb (cy 1) 600 bf, zO la 1 [vR l0, vI (u6.2.1 4), vR l2, vR l3], zI l0 (cy 0) 600 (u6.2.2 0)] hq9
        refine lv_aload_n hx hb dX2_readTest_100 rfl (lv_at hlv 0 rfl) ?_
        refine va_get (D := D) (ci := 2) (v := vR ta) (C := RX2) (T := TX2) (N := 3) hx hb hts hi2 hown hG.1 hP 0 rfl rfl 0 (by decide) lf9 (fun _ h9 => h9) rfl dX2_readTest_101 ?_
        refine lv_bipush (v := iI 93) hx hb dX2_readTest_104 (by decide) ?_
        refine cjr_v [true, false, false, true, true] (fun pre9 => (va_runVN (host := "KerbSplash") (As := [vI 93]) (rest := []) ⟨hx, hb, hml, hown, hts⟩ (s_want l hl D cy sa ta tb fed len (u6.2.1 0) (u6.2.1 1) (u6.2.1 2) (u6.2.1 3) bf 93 H.size (by first | exact hr_fed | omega) (by first | exact hr_len | omega) (by first | exact hq6_0 | omega) (by first | exact hq6_1 | omega) (by first | exact hq6_2 | omega) (by first | exact hq6_3 | omega) (by show (0 : Int) ≤ 93 ∧ (93 : Int) ≤ 65535; decide)) ⟨va_cnB 1 hts gg_6 rfl rfl rfl (nM_LawReader_58 hG.2.1) ini_RX8 (by decide +kernel) ⟨by dsimp only [headSpec]; omega, by dsimp only [headSpec]; omega⟩, im_X8_want, se_X8_want⟩ ⟨pcW.blind, (va_recv hG.1 hP (ci := 8) (q0 := 1) rfl rfl), pre9⟩ rfl rfl hlv.1 rfl (lv_room (Nat.le_of_ble_eq_true rfl)) dX2_readTest_106 ⟨Nat.le_of_ble_eq_true rfl, Nat.le_of_ble_eq_true rfl⟩)) hP hD hS hA hG hT [1, 2] rfl (by decide +kernel) (fun u7 H locs hw7 hq9 hS => ?_)
        obtain ⟨hq7_0, hq7_1, hq7_2, hq7_3, hq7_4⟩ := hw7
        obtain ⟨hP, hD⟩ := pd9 [zO lr 2 [vR ta, vR la, vI (u6.2.1 5)], zO la 1 [vR l0, vI (u6.2.1 4), vR l2, vR l3], zI l0 (cy 0) 600 (u6.2.2 0), zO ta 8 [vR tb, vI fed, vI len, vI (u7.2.1 0), vI (u6.2.1 1), vI (u7.2.1 1), vI (u7.2.1 2)], zI tb (cy 1) 600 bf] hq9
        refine lv_aload_n hx hb dX2_readTest_109 rfl (lv_at hlv 0 rfl) ?_
        refine lv_dup hx hb dX2_readTest_110 rfl ?_
        refine va_get (D := D) (ci := 2) (v := vI (u6.2.1 5)) (C := RX2) (T := TX2) (N := 3) hx hb hts hi2 hown hG.1 hP 0 rfl rfl 2 (by decide) lf105 (fun _ h9 => h9) rfl dX2_readTest_111 ?_
        refine lv_iconst (v := iI 1) hx hb dX2_readTest_114 (by decide) ?_
        refine lv_isub hx hb dX2_readTest_115 ?_
        refine lt_e (e0 := (u6.2.1 5) - 1) (Int32.ofInt_sub _ _).symm (fun z_4 hz_4 => ?_)
        refine va_put (D := D) (ci := 2) (v := vI z_4) (ty := .int) (C := RX2) (T := TX2) (N := 3) hx hb hts hi2 tyX2 tyX2_ok nmX2 hown hG.1 hP hD hS 0 rfl rfl 2 (by decide) lf105 (fun _ h9 => h9) rfl (by decide +kernel) rfl rfl (Nat.le_of_ble_eq_true rfl) dX2_readTest_116 (fun H locs hP hD hS => ?_)
        obtain ⟨hP, hD⟩ := pw9 [zO lr 2 [vR ta, vR la, vI z_4], zO la 1 [vR l0, vI (u6.2.1 4), vR l2, vR l3], zI l0 (cy 0) 600 (u6.2.2 0), zO ta 8 [vR tb, vI fed, vI len, vI (u7.2.1 0), vI (u6.2.1 1), vI (u7.2.1 1), vI (u7.2.1 2)], zI tb (cy 1) 600 bf] hP hD
        refine lv_goto (tgt := 126) hx hb dX2_readTest_119 (by decide) ?_
        refine W.widen (k := 0) (n := 0) (Nat.le_of_ble_eq_true rfl) (Nat.le_of_ble_eq_true rfl) ?_
        exact W.vret hx hb hr (fun t ht hW => ⟨⟨((fun k => ([] : List Nat).getD k 0), (fun k => ([(u7.2.1 0), (u6.2.1 1), (u7.2.1 1), (u7.2.1 2), (u6.2.1 4), z_4] : List Int).getD k 0), (fun k => ([(u6.2.2 0)] : List (Nat → Int32)).getD k (fun _ => 0))), rfl, ⟨(by show (0 ≤ (u7.2.1 0) ∧ (u7.2.1 0) ≤ 600); first | exact hq7_0 | omega), (by show (0 ≤ (u6.2.1 1) ∧ (u6.2.1 1) ≤ 600); first | exact hq6_1 | omega), (by show (0 ≤ (u7.2.1 1) ∧ (u7.2.1 1) ≤ 4); first | exact hq7_1 | omega), (by show ((-1) ≤ (u7.2.1 2) ∧ (u7.2.1 2) ≤ 600); first | exact hq7_2 | omega), (by show (0 ≤ (u6.2.1 4) ∧ (u6.2.1 4) ≤ 600); first | exact hq6_4 | omega), (by show (0 ≤ z_4 ∧ z_4 ≤ 6); omega), (by show (z_4 = op); omega), hq6_7⟩, at9 ht hP hD [0, 3, 4, 1, 2] (by decide +kernel) rfl⟩, hS.F ht⟩) hS.2.2 dX2_readTest_126
  · refine lv_aload_n hx hb dX2_readTest_13 rfl (lv_at hlv 0 rfl) ?_
    refine cjr_i [false, true, true, false, true] (fun pre9 => (va_runV (As := []) (rest := []) ⟨hx, hb, hml, hown, hts⟩ (w_open l hl D cy sa lr la ta tb fed len (u1.2.1 1) (u1.2.1 2) fa fp op H.size (by first | exact hr_fed | omega) (by first | exact hr_len | omega) (by first | exact hq1_1 | omega) (by first | exact hq1_2 | omega) (by first | exact hr_fa | omega) (by first | exact hr_fp | omega) (by first | exact hr_op | omega)) (cwV 0 hts gg_5 rfl rfl rfl (by decide +kernel) ⟨by dsimp only [headSpec]; omega, by dsimp only [headSpec]; omega⟩) ⟨pcW.blind, (va_recv hG.1 hP (ci := 2) (q0 := 0) rfl rfl), pre9⟩ rfl rfl hlv.1 rfl (lv_room (Nat.le_of_ble_eq_true rfl)) dX2_readTest_14 ⟨Nat.le_of_ble_eq_true rfl, Nat.le_of_ble_eq_true rfl⟩)) hP hD hS hA hG hT [0, 3] rfl (by decide +kernel) (fun r8 u8 H locs hw8 hq9 hS => ?_)
    obtain ⟨rfl, hq8_1, hq8_2, hq8_3, hq8_4, hq8_5, hq8_6⟩ := hw8
    obtain ⟨hP, hD⟩ := pd9 [zO la 1 [vR l0, vI size, vR l2, vR l3], zI l0 (cy 0) 600 st, zI tb (cy 1) 600 bf, zO lr 2 [vR ta, vR la, vI (u8.2.1 1)], zO ta 8 [vR tb, vI fed, vI len, vI (u1.2.1 1), vI (u1.2.1 2), vI (u8.2.1 2), vI (u8.2.1 3)]] hq9
    refine iz_eq (tgt := 126) hx hb dX2_readTest_17 (by decide) (by first | exact rgw hq8_1 (by decide) (by decide) | omega) (fun c_5 => ?_) (fun c_5 => ?_)
    · refine W.widen (k := 0) (n := 0) (Nat.le_of_ble_eq_true rfl) (Nat.le_of_ble_eq_true rfl) ?_
      exact W.vret hx hb hr (fun t ht hW => ⟨⟨((fun k => ([] : List Nat).getD k 0), (fun k => ([(u1.2.1 1), (u1.2.1 2), (u8.2.1 2), (u8.2.1 3), size, (u8.2.1 1)] : List Int).getD k 0), (fun k => ([st] : List (Nat → Int32)).getD k (fun _ => 0))), rfl, ⟨(by show (0 ≤ (u1.2.1 1) ∧ (u1.2.1 1) ≤ 600); first | exact hq1_1 | omega), (by show (0 ≤ (u1.2.1 2) ∧ (u1.2.1 2) ≤ 600); first | exact hq1_2 | omega), (by show (0 ≤ (u8.2.1 2) ∧ (u8.2.1 2) ≤ 4); first | exact hq8_3 | omega), (by show ((-1) ≤ (u8.2.1 3) ∧ (u8.2.1 3) ≤ 600); first | exact hq8_4 | omega), (by show (0 ≤ size ∧ size ≤ 600); first | exact hr_size | omega), (by show (0 ≤ (u8.2.1 1) ∧ (u8.2.1 1) ≤ 6); first | exact hq8_2 | omega), (by show ((u8.2.1 1) = op); omega), hst⟩, at9 ht hP hD [3, 4, 2, 0, 1] (by decide +kernel) rfl⟩, hS.F ht⟩) hS.2.2 dX2_readTest_126
    · refine lv_aload_n hx hb dX2_readTest_20 rfl (lv_at hlv 0 rfl) ?_
      refine va_get (D := D) (ci := 2) (v := vR ta) (C := RX2) (T := TX2) (N := 3) hx hb hts hi2 hown hG.1 hP 3 rfl rfl 0 (by decide) lf9 (fun _ h9 => h9) rfl dX2_readTest_21 ?_
      refine va_gets (C := "KerbSplash$Word") (n := "NOT") (d := "LKerbSplash$Word;") (ref := "KerbSplash$Word") (v := .ref (wd sa 21)) hx hb (hT.2.2.1 21 (by decide)).1.1 hS hown lf133 (fun _ h9 => h9) dX2_readTest_24 ?_
      refine cjr_v [true, true, false, true, false] (fun pre9 => (va_runVN (host := "KerbSplash") (As := [.ref (wd sa 21)]) (rest := []) ⟨hx, hb, hml, hown, hts⟩ (s_wantWord l hl D cy sa ta tb fed len (u1.2.1 1) (u1.2.1 2) (u8.2.1 2) (u8.2.1 3) bf 21 H.size (by first | exact hr_fed | omega) (by first | exact hr_len | omega) (by first | exact hq1_1 | omega) (by first | exact hq1_2 | omega) (by first | exact hq8_3 | omega) (by first | exact hq8_4 | omega) (by show (0 : Int) ≤ 21 ∧ (21 : Int) ≤ 27; decide)) ⟨va_cnB 1 hts gg_10 rfl rfl rfl (nM_LawReader_89 hG.2.1) ini_RX8 (by decide +kernel) ⟨by dsimp only [headSpec]; omega, by dsimp only [headSpec]; omega⟩, im_X8_wantWord, se_X8_wantWord⟩ ⟨pcW.blind, (va_recv hG.1 hP (ci := 8) (q0 := 4) rfl rfl), pre9⟩ rfl rfl hlv.1 rfl (lv_room (Nat.le_of_ble_eq_true rfl)) dX2_readTest_27 ⟨Nat.le_of_ble_eq_true rfl, Nat.le_of_ble_eq_true rfl⟩)) hP hD hS hA hG hT [4, 2] rfl (by decide +kernel) (fun u9 H locs hw9 hq9 hS => ?_)
      obtain ⟨hq9_0, hq9_1, hq9_2, hq9_3, hq9_4⟩ := hw9
      obtain ⟨hP, hD⟩ := pd9 [zO la 1 [vR l0, vI size, vR l2, vR l3], zI l0 (cy 0) 600 st, zO lr 2 [vR ta, vR la, vI (u8.2.1 1)], zO ta 8 [vR tb, vI fed, vI len, vI (u9.2.1 0), vI (u9.2.1 1), vI (u9.2.1 2), vI (u9.2.1 3)], zI tb (cy 1) 600 bf] hq9
      refine lv_aload_n hx hb dX2_readTest_30 rfl (lv_at hlv 0 rfl) ?_
      refine cjr_v [false, false, false, false, false] (fun pre9 => (va_runV (As := []) (rest := []) ⟨hx, hb, hml, hown, hts⟩ (IH.2.2 lr ta tb fed len (u9.2.1 0) (u9.2.1 1) (u9.2.1 2) (u9.2.1 3) bf la l0 l2 l3 size st (u8.2.1 1) H.size (by first | exact hr_fed | omega) (by first | exact hr_len | omega) (by first | exact hq9_0 | omega) (by first | exact hq9_1 | omega) (by first | exact hq9_2 | omega) (by first | exact hq9_3 | omega) (by first | exact hr_size | omega) (by first | exact hq8_2 | omega) hst (by omega)) (cwV 0 hts gh_X2_readTest_127 rfl rfl rfl (by decide +kernel) ⟨by dsimp only [headSpec]; omega, by dsimp only [headSpec]; omega⟩) ⟨pcW.blind, (va_recv hG.1 hP (ci := 2) (q0 := 2) rfl rfl), pre9⟩ rfl rfl hlv.1 rfl (lv_room (Nat.le_of_ble_eq_true rfl)) dX2_readTest_31 ⟨Nat.le_of_ble_eq_true rfl, Nat.le_of_ble_eq_true rfl⟩)) hP hD hS hA hG hT [2, 3, 4, 0, 1] rfl (by decide +kernel) (fun u10 H locs hw10 hq9 hS => ?_)
      obtain ⟨hq10_0, hq10_1, hq10_2, hq10_3, hq10_4, hq10_5, hq10_6, hq10_7⟩ := hw10
      obtain ⟨hP, hD⟩ := pd9 [zO lr 2 [vR ta, vR la, vI (u10.2.1 5)], zO ta 8 [vR tb, vI fed, vI len, vI (u10.2.1 0), vI (u10.2.1 1), vI (u10.2.1 2), vI (u10.2.1 3)], zI tb (cy 1) 600 bf, zO la 1 [vR l0, vI (u10.2.1 4), vR l2, vR l3], zI l0 (cy 0) 600 (u10.2.2 0)] hq9
      refine lv_aload_n hx hb dX2_readTest_34 rfl (lv_at hlv 0 rfl) ?_
      refine va_get (D := D) (ci := 2) (v := vR la) (C := RX2) (T := TX2) (N := 3) hx hb hts hi2 hown hG.1 hP 0 rfl rfl 1 (by decide) lf15 (fun _ h9 => h9) rfl dX2_readTest_35 ?_
      refine lv_iconst (v := iI 0) hx hb dX2_readTest_38 (by decide) ?_
      refine lv_iconst (v := iI 0) hx hb dX2_readTest_39 (by decide) ?_
      refine cjr_i [true, true, true, false, false] (fun pre9 => (va_runVN (host := "KerbSplash") (As := [vI 0, vI 0]) (rest := []) ⟨hx, hb, hml, hown, hts⟩ (s_ladd l hl D cy sa la l0 l2 l3 (u10.2.1 4) (u10.2.2 0) 0 0 H.size (by first | exact hq10_4 | omega) (by show (0 : Int) ≤ 0 ∧ (0 : Int) ≤ 15; decide) (by show (0 : Int) ≤ 0 ∧ (0 : Int) ≤ 10000; decide) hq10_7) ⟨va_cnB 2 hts gg_4 rfl rfl rfl (nM_LawReader_65 hG.2.1) ini_RX1 (by decide +kernel) ⟨by dsimp only [headSpec]; omega, by dsimp only [headSpec]; omega⟩, im_X1_add, se_X1_add⟩ ⟨pcW.blind, (va_recv hG.1 hP (ci := 1) (q0 := 3) rfl rfl), pre9⟩ rfl rfl hlv.1 rfl (lv_room (Nat.le_of_ble_eq_true rfl)) dX2_readTest_40 ⟨Nat.le_of_ble_eq_true rfl, Nat.le_of_ble_eq_true rfl⟩)) hP hD hS hA hG hT [3, 4] rfl (by decide +kernel) (fun r11 u11 H locs hw11 hq9 hS => ?_)
      obtain ⟨rfl, hq11_1, hq11_2, hq11_3, hq11_4⟩ := hw11
      obtain ⟨hP, hD⟩ := pd9 [zO lr 2 [vR ta, vR la, vI (u10.2.1 5)], zO ta 8 [vR tb, vI fed, vI len, vI (u10.2.1 0), vI (u10.2.1 1), vI (u10.2.1 2), vI (u10.2.1 3)], zI tb (cy 1) 600 bf, zO la 1 [vR l0, vI (u11.2.1 1), vR l2, vR l3], zI l0 (cy 0) 600 (u11.2.2 0)] hq9
      refine lv_pop hx hb dX2_readTest_43 rfl ?_
      refine lv_aload_n hx hb dX2_readTest_44 rfl (lv_at hlv 0 rfl) ?_
      refine va_get (D := D) (ci := 2) (v := vR la) (C := RX2) (T := TX2) (N := 3) hx hb hts hi2 hown hG.1 hP 0 rfl rfl 1 (by decide) lf15 (fun _ h9 => h9) rfl dX2_readTest_45 ?_
      refine lv_bipush (v := iI 8) hx hb dX2_readTest_48 (by decide) ?_
      refine lv_iconst (v := iI 0) hx hb dX2_readTest_50 (by decide) ?_
      refine cjr_i [true, true, true, false, false] (fun pre9 => (va_runVN (host := "KerbSplash") (As := [vI 8, vI 0]) (rest := []) ⟨hx, hb, hml, hown, hts⟩ (s_ladd l hl D cy sa la l0 l2 l3 (u11.2.1 1) (u11.2.2 0) 8 0 H.size (by first | exact hq11_2 | omega) (by show (0 : Int) ≤ 8 ∧ (8 : Int) ≤ 15; decide) (by show (0 : Int) ≤ 0 ∧ (0 : Int) ≤ 10000; decide) hq11_4) ⟨va_cnB 2 hts gg_4 rfl rfl rfl (nM_LawReader_65 hG.2.1) ini_RX1 (by decide +kernel) ⟨by dsimp only [headSpec]; omega, by dsimp only [headSpec]; omega⟩, im_X1_add, se_X1_add⟩ ⟨pcW.blind, (va_recv hG.1 hP (ci := 1) (q0 := 3) rfl rfl), pre9⟩ rfl rfl hlv.1 rfl (lv_room (Nat.le_of_ble_eq_true rfl)) dX2_readTest_51 ⟨Nat.le_of_ble_eq_true rfl, Nat.le_of_ble_eq_true rfl⟩)) hP hD hS hA hG hT [3, 4] rfl (by decide +kernel) (fun r12 u12 H locs hw12 hq9 hS => ?_)
      obtain ⟨rfl, hq12_1, hq12_2, hq12_3, hq12_4⟩ := hw12
      obtain ⟨hP, hD⟩ := pd9 [zO lr 2 [vR ta, vR la, vI (u10.2.1 5)], zO ta 8 [vR tb, vI fed, vI len, vI (u10.2.1 0), vI (u10.2.1 1), vI (u10.2.1 2), vI (u10.2.1 3)], zI tb (cy 1) 600 bf, zO la 1 [vR l0, vI (u12.2.1 1), vR l2, vR l3], zI l0 (cy 0) 600 (u12.2.2 0)] hq9
      refine lv_pop hx hb dX2_readTest_54 rfl ?_
      refine lv_aload_n hx hb dX2_readTest_55 rfl (lv_at hlv 0 rfl) ?_
      refine lv_dup hx hb dX2_readTest_56 rfl ?_
      refine va_get (D := D) (ci := 2) (v := vI (u10.2.1 5)) (C := RX2) (T := TX2) (N := 3) hx hb hts hi2 hown hG.1 hP 0 rfl rfl 2 (by decide) lf105 (fun _ h9 => h9) rfl dX2_readTest_57 ?_
      refine lv_iconst (v := iI 1) hx hb dX2_readTest_60 (by decide) ?_
      refine lv_isub hx hb dX2_readTest_61 ?_
      refine lt_e (e0 := (u10.2.1 5) - 1) (Int32.ofInt_sub _ _).symm (fun z_6 hz_6 => ?_)
      refine va_put (D := D) (ci := 2) (v := vI z_6) (ty := .int) (C := RX2) (T := TX2) (N := 3) hx hb hts hi2 tyX2 tyX2_ok nmX2 hown hG.1 hP hD hS 0 rfl rfl 2 (by decide) lf105 (fun _ h9 => h9) rfl (by decide +kernel) rfl rfl (Nat.le_of_ble_eq_true rfl) dX2_readTest_62 (fun H locs hP hD hS => ?_)
      obtain ⟨hP, hD⟩ := pw9 [zO lr 2 [vR ta, vR la, vI z_6], zO ta 8 [vR tb, vI fed, vI len, vI (u10.2.1 0), vI (u10.2.1 1), vI (u10.2.1 2), vI (u10.2.1 3)], zI tb (cy 1) 600 bf, zO la 1 [vR l0, vI (u12.2.1 1), vR l2, vR l3], zI l0 (cy 0) 600 (u12.2.2 0)] hP hD
      refine lv_goto (tgt := 126) hx hb dX2_readTest_65 (by decide) ?_
      refine W.widen (k := 0) (n := 0) (Nat.le_of_ble_eq_true rfl) (Nat.le_of_ble_eq_true rfl) ?_
      exact W.vret hx hb hr (fun t ht hW => ⟨⟨((fun k => ([] : List Nat).getD k 0), (fun k => ([(u10.2.1 0), (u10.2.1 1), (u10.2.1 2), (u10.2.1 3), (u12.2.1 1), z_6] : List Int).getD k 0), (fun k => ([(u12.2.2 0)] : List (Nat → Int32)).getD k (fun _ => 0))), rfl, ⟨(by show (0 ≤ (u10.2.1 0) ∧ (u10.2.1 0) ≤ 600); first | exact hq10_0 | omega), (by show (0 ≤ (u10.2.1 1) ∧ (u10.2.1 1) ≤ 600); first | exact hq10_1 | omega), (by show (0 ≤ (u10.2.1 2) ∧ (u10.2.1 2) ≤ 4); first | exact hq10_2 | omega), (by show ((-1) ≤ (u10.2.1 3) ∧ (u10.2.1 3) ≤ 600); first | exact hq10_3 | omega), (by show (0 ≤ (u12.2.1 1) ∧ (u12.2.1 1) ≤ 600); first | exact hq12_2 | omega), (by show (0 ≤ z_6 ∧ z_6 ≤ 6); omega), (by show (z_6 = op); omega), hq12_4⟩, at9 ht hP hD [0, 1, 2, 3, 4] (by decide +kernel) rfl⟩, hS.F ht⟩) hS.2.2 dX2_readTest_126
set_option maxHeartbeats 4000000 in
set_option maxRecDepth 100000 in
theorem w_alt_step (l : Launch) (hl : l.stackTraces = false) (D : va_G) (cy : Nat → ClassId) (sa : Nat → Nat) (d : Nat) (IH : LR l D cy sa d) (lr : Nat) (ta tb : Nat) (fed len at_ we fa fp : Int) (bf : Nat → Int32) (la l0 l2 l3 : Nat) (size : Int) (st : Nat → Int32) (op : Int) (sz : Nat) (hr_fed : 0 ≤ fed ∧ fed ≤ 600) (hr_len : 0 ≤ len ∧ len ≤ 600) (hr_at_ : 0 ≤ at_ ∧ at_ ≤ 600) (hr_we : 0 ≤ we ∧ we ≤ 600) (hr_fa : 0 ≤ fa ∧ fa ≤ 4) (hr_fp : (-1) ≤ fp ∧ fp ≤ 600) (hr_size : 0 ≤ size ∧ size ≤ 600) (hr_op : 0 ≤ op ∧ op ≤ 6) (hst : inv_ 600 0 2147483647 st) (hlev : (7 : Int) - ((d + 1 : Nat) : Int) ≤ op) : mV9 l yX2_readAlternative vs_w_alt ({ frames := 12 * (d + 1) + 5, cells := 0, slots := 0, locals := 900 * (d + 1) + 200 }) D cy sa sz [vR lr] [zO lr 2 [vR ta, vR la, vI op], zO ta 8 [vR tb, vI fed, vI len, vI at_, vI we, vI fa, vI fp], zI tb (cy 1) 600 bf, zO la 1 [vR l0, vI size, vR l2, vR l3], zI l0 (cy 0) 600 st] (fun u : SV => (0 ≤ u.2.1 0 ∧ u.2.1 0 ≤ 600) ∧ (0 ≤ u.2.1 1 ∧ u.2.1 1 ≤ 600) ∧ (0 ≤ u.2.1 2 ∧ u.2.1 2 ≤ 4) ∧ ((-1) ≤ u.2.1 3 ∧ u.2.1 3 ≤ 600) ∧ (0 ≤ u.2.1 4 ∧ u.2.1 4 ≤ 600) ∧ (0 ≤ u.2.1 5 ∧ u.2.1 5 ≤ 6) ∧ (u.2.1 5 = op) ∧ inv_ 600 0 2147483647 (u.2.2 0)) (fun u : SV => [zO lr 2 [vR ta, vR la, vI (u.2.1 5)], zO ta 8 [vR tb, vI fed, vI len, vI (u.2.1 0), vI (u.2.1 1), vI (u.2.1 2), vI (u.2.1 3)], zI tb (cy 1) 600 bf, zO la 1 [vR l0, vI (u.2.1 4), vR l2, vR l3], zI l0 (cy 0) 600 (u.2.2 0)]) 0 0 := by
  refine Met.ofW (cc := cX2_readAlternative) (maxL := 2) (ret := none) (by decide) rfl ?_
  intro p e s m args below meth c s₁ B hml hv
  obtain ⟨rfl, hsz, hP, hG, hD0, hT⟩ := hv
  have hx := B.exec
  have hb := B.bytes
  have hr := B.returns
  have hts := atoms_spec (ws := vs_w_alt) B.pre
  have hown : s.vm.findClass RX2 = some m.cls := findClass_of_methodNamed B.named
  have hlocks := B.notSynchronized
  subst hsz
  have hD := hD0.self (sz := s.heap.size)
  generalize hAe : va_A [zO lr 2 [vR ta, vR la, vI op], zO ta 8 [vR tb, vI fed, vI len, vI at_, vI we, vI fa, vI fp], zI tb (cy 1) 600 bf, zO la 1 [vR l0, vI size, vR l2, vR l3], zI l0 (cy 0) 600 st] s.heap.size = A at hD hT ⊢
  have hA : ∀ q : Nat, s.heap.size ≤ q → A q := fun q h => by rw [← hAe]; exact Or.inr h
  have hS : va_S A s.heap s.heap [] := va_S.rf
  have hl0 := lv_entry ([vR lr]) (n := 2) (Nat.le_of_ble_eq_true rfl)
  rw [lg_entry_eq]
  generalize (lg_sl ([vR lr]) ++ List.replicate (2 - (lg_sl ([vR lr])).length) Slot.unset).toArray = ls at hl0 ⊢
  have hlv : lv_has ls 2 [(0, vR lr)] := hl0
  have gh_X2_readTest_127 : GoodIn vs_w_alt (wsV RX2 127 RX2 yX2_readTest vs_w_test) := goodIn_sub (gsub_V (List.mem_append_left _ (List.mem_of_getElem? (i := 54) rfl)) (List.mem_append_left _ (List.mem_of_getElem? (i := 55) rfl)) (List.mem_append_left _ (List.mem_of_getElem? (i := 56) rfl)) (List.mem_append_left _ (List.mem_of_getElem? (i := 17) rfl)) (List.mem_append_left _ (List.mem_of_getElem? (i := 57) rfl))) (gd_V (gd_C (by decide +kernel) gd_LRC) (by decide +kernel))
  have lf9 := hts (.fieldLink RX2 9 "KerbSplash$LawReader" "tape" "LKerbSplash$Tape;") (List.mem_of_getElem? (i := 1) rfl)
  have hi2 : ∀ w ∈ wsX20, w ∈ vs_w_alt := fun w h => List.mem_cons_of_mem _ (List.mem_append_right _ (List.mem_append_left _ h))
  have lf130 := hts (.fieldLink RX2 130 "KerbSplash$Word" "AND" "LKerbSplash$Word;") (List.mem_of_getElem? (i := 59) rfl)
  have gg_7 : GoodIn vs_w_alt (vs_s_takeWord) := goodIn_sub (fun w h => List.mem_cons_of_mem _ (List.mem_append_right _ (List.mem_append_right _ (List.mem_append_right _ (List.mem_append_right _ (List.mem_append_right _ (List.mem_append_right _ (List.mem_append_right _ (List.mem_append_right _ (List.mem_append_left _ h)))))))))) gd_s_takeWord
  have ini_RX8 := hts (.initialized RX8) (List.mem_of_getElem? (i := 2) rfl)
  have im_X8_takeWord := hts (.instanceMethod yX8_takeWord) (List.mem_of_getElem? (i := 21) rfl)
  have se_X8_takeWord := hts (.selects RX8 yX8_takeWord yX8_takeWord) (List.mem_of_getElem? (i := 22) rfl)
  have lf15 := hts (.fieldLink RX2 15 "KerbSplash$LawReader" "law" "LKerbSplash$Law;") (List.mem_of_getElem? (i := 7) rfl)
  have gg_4 : GoodIn vs_w_alt (vs_s_ladd) := goodIn_sub (fun w h => List.mem_cons_of_mem _ (List.mem_append_right _ (List.mem_append_right _ (List.mem_append_right _ (List.mem_append_right _ (List.mem_append_right _ (List.mem_append_left _ h))))))) gd_s_ladd
  have ini_RX1 := hts (.initialized RX1) (List.mem_of_getElem? (i := 10) rfl)
  have im_X1_add := hts (.instanceMethod yX1_add) (List.mem_of_getElem? (i := 11) rfl)
  have se_X1_add := hts (.selects RX1 yX1_add yX1_add) (List.mem_of_getElem? (i := 12) rfl)
  refine lv_aload_n hx hb dX2_readAlternative_0 rfl (lv_at hlv 0 rfl) ?_
  refine cjr_v [false, false, false, false, false] (fun pre9 => (va_runV (As := []) (rest := []) ⟨hx, hb, hml, hown, hts⟩ (w_test_step l hl D cy sa d IH lr ta tb fed len at_ we fa fp bf la l0 l2 l3 size st op s.heap.size (by first | exact hr_fed | omega) (by first | exact hr_len | omega) (by first | exact hr_at_ | omega) (by first | exact hr_we | omega) (by first | exact hr_fa | omega) (by first | exact hr_fp | omega) (by first | exact hr_size | omega) (by first | exact hr_op | omega) hst (by omega)) (cwV 0 hts gh_X2_readTest_127 rfl rfl rfl (by decide +kernel) ⟨by dsimp only [headSpec]; omega, by dsimp only [headSpec]; omega⟩) ⟨pcW.blind, (va_recv hG.1 hP (ci := 2) (q0 := 0) rfl rfl), pre9⟩ rfl rfl hlv.1 rfl (lv_room (Nat.le_of_ble_eq_true rfl)) dX2_readAlternative_1 ⟨Nat.le_of_ble_eq_true rfl, Nat.le_of_ble_eq_true rfl⟩)) hP hD hS hA hG hT [0, 1, 2, 3, 4] rfl (by decide +kernel) (fun u1 H locs hw1 hq9 hS => ?_)
  obtain ⟨hq1_0, hq1_1, hq1_2, hq1_3, hq1_4, hq1_5, hq1_6, hq1_7⟩ := hw1
  obtain ⟨hP, hD⟩ := pd9 [zO lr 2 [vR ta, vR la, vI (u1.2.1 5)], zO ta 8 [vR tb, vI fed, vI len, vI (u1.2.1 0), vI (u1.2.1 1), vI (u1.2.1 2), vI (u1.2.1 3)], zI tb (cy 1) 600 bf, zO la 1 [vR l0, vI (u1.2.1 4), vR l2, vR l3], zI l0 (cy 0) 600 (u1.2.2 0)] hq9
  refine lv_iconst (v := iI 0) hx hb dX2_readAlternative_4 (by decide) ?_
  refine lv_istore_n (lv' := [(1, vI 0), (0, vR lr)]) hx hb dX2_readAlternative_5 rfl hlv (by decide) rfl (fun ls hlv => ?_)
  refine (?_ : ∀ (fu : Nat) (q : Int) (ys : Int) (yo : Int) (yl : Nat → Int32) (ya : Int) (yw : Int) (yf : Int) (yg : Int) (H : Heap) (locs : List Loc) (ls : Array Slot), 600 - q < (fu : Int) → (0 ≤ q ∧ q ≤ 600) → (0 ≤ ys ∧ ys ≤ 600) → (0 ≤ yo ∧ yo ≤ 6) → (0 ≤ ya ∧ ya ≤ 600) → (0 ≤ yw ∧ yw ≤ 600) → (0 ≤ yf ∧ yf ≤ 4) → ((-1) ≤ yg ∧ yg ≤ 600) → (yo = op) → inv_ 600 0 2147483647 yl → va_P D vwCl [zO lr 2 [vR ta, vR la, vI yo], zO ta 8 [vR tb, vI fed, vI len, vI ya, vI yw, vI yf, vI yg], zI tb (cy 1) 600 bf, zO la 1 [vR l0, vI ys, vR l2, vR l3], zI l0 (cy 0) 600 yl] H → va_D A [zO lr 2 [vR ta, vR la, vI yo], zO ta 8 [vR tb, vI fed, vI len, vI ya, vI yw, vI yf, vI yg], zI tb (cy 1) 600 bf, zO la 1 [vR l0, vI ys, vR l2, vR l3], zI l0 (cy 0) 600 yl] → va_S A s.heap H locs → lv_has ls 2 [(1, vI q), (0, vR lr)] → W p l e _ s m _ below meth c H locs _ _ _ (F0 m 6 ls [])) (((600 - 0) + 1 : Int)).toNat 0 (u1.2.1 4) (u1.2.1 5) (u1.2.2 0) (u1.2.1 0) (u1.2.1 1) (u1.2.1 2) (u1.2.1 3) _ _ _ (by omega) (by show (0 : Int) ≤ 0 ∧ (0 : Int) ≤ 600; decide) (by first | exact hq1_4 | omega) (by first | exact hq1_5 | omega) (by first | exact hq1_0 | omega) (by first | exact hq1_1 | omega) (by first | exact hq1_2 | omega) (by first | exact hq1_3 | omega) (by omega) hq1_7 hP hD hS hlv
  clear hP hD hS hlv
  intro fu
  induction fu with
  | zero => intro q ys yo yl ya yw yf yg H locs ls hm6 hl6_0 hl6_1 hl6_2 hl6_3 hl6_4 hl6_5 hl6_6 hl6_7 hiyl hP hD hS hlv; omega
  | succ fu ih6 =>
    intro q ys yo yl ya yw yf yg H locs ls hm6 hl6_0 hl6_1 hl6_2 hl6_3 hl6_4 hl6_5 hl6_6 hl6_7 hiyl hP hD hS hlv
    refine lv_iload_n hx hb dX2_readAlternative_6 rfl (lv_at hlv 0 rfl) ?_
    refine lv_sipush (v := iI 600) hx hb dX2_readAlternative_7 (by decide) ?_
    refine ir_ge (tgt := 47) hx hb dX2_readAlternative_10 (by decide) (by first | exact rgw hl6_0 (by decide) (by decide) | omega) (by show ((-2147483648) : Int) ≤ 600 ∧ (600 : Int) ≤ 2147483647; decide) (fun c_1 => ?_) (fun c_1 => ?_)
    · refine W.widen (k := 0) (n := 0) (Nat.le_of_ble_eq_true rfl) (Nat.le_of_ble_eq_true rfl) ?_
      exact W.vret hx hb hr (fun t ht hW => ⟨⟨((fun k => ([] : List Nat).getD k 0), (fun k => ([ya, yw, yf, yg, ys, yo] : List Int).getD k 0), (fun k => ([yl] : List (Nat → Int32)).getD k (fun _ => 0))), rfl, ⟨(by show (0 ≤ ya ∧ ya ≤ 600); first | exact hl6_3 | omega), (by show (0 ≤ yw ∧ yw ≤ 600); first | exact hl6_4 | omega), (by show (0 ≤ yf ∧ yf ≤ 4); first | exact hl6_5 | omega), (by show ((-1) ≤ yg ∧ yg ≤ 600); first | exact hl6_6 | omega), (by show (0 ≤ ys ∧ ys ≤ 600); first | exact hl6_1 | omega), (by show (0 ≤ yo ∧ yo ≤ 6); first | exact hl6_2 | omega), (by show (yo = op); omega), hiyl⟩, at9 ht hP hD [0, 1, 2, 3, 4] (by decide +kernel) rfl⟩, hS.F ht⟩) hS.2.2 dX2_readAlternative_47
    · refine lv_aload_n hx hb dX2_readAlternative_13 rfl (lv_at hlv 1 rfl) ?_
      refine va_get (D := D) (ci := 2) (v := vR ta) (C := RX2) (T := TX2) (N := 3) hx hb hts hi2 hown hG.1 hP 0 rfl rfl 0 (by decide) lf9 (fun _ h9 => h9) rfl dX2_readAlternative_14 ?_
      refine va_gets (C := "KerbSplash$Word") (n := "AND") (d := "LKerbSplash$Word;") (ref := "KerbSplash$Word") (v := .ref (wd sa 20)) hx hb (hT.2.2.1 20 (by decide)).1.1 hS hown lf130 (fun _ h9 => h9) dX2_readAlternative_17 ?_
      refine cjr_i [true, false, false, true, true] (fun pre9 => (va_runVN (host := "KerbSplash") (As := [.ref (wd sa 20)]) (rest := []) ⟨hx, hb, hml, hown, hts⟩ (s_takeWord l hl D cy sa ta tb fed len ya yw yf yg bf 20 H.size (by first | exact hr_fed | omega) (by first | exact hr_len | omega) (by first | exact hl6_3 | omega) (by first | exact hl6_4 | omega) (by first | exact hl6_5 | omega) (by first | exact hl6_6 | omega) (by show (0 : Int) ≤ 20 ∧ (20 : Int) ≤ 27; decide)) ⟨va_cnB 1 hts gg_7 rfl rfl rfl (nM_LawReader_54 hG.2.1) ini_RX8 (by decide +kernel) ⟨by dsimp only [headSpec]; omega, by dsimp only [headSpec]; omega⟩, im_X8_takeWord, se_X8_takeWord⟩ ⟨pcW.blind, (va_recv hG.1 hP (ci := 8) (q0 := 1) rfl rfl), pre9⟩ rfl rfl hlv.1 rfl (lv_room (Nat.le_of_ble_eq_true rfl)) dX2_readAlternative_20 ⟨Nat.le_of_ble_eq_true rfl, Nat.le_of_ble_eq_true rfl⟩)) hP hD hS hA hG hT [1, 2] rfl (by decide +kernel) (fun r2 u2 H locs hw2 hq9 hS => ?_)
      obtain ⟨rfl, hq2_1, hq2_2, hq2_3⟩ := hw2
      obtain ⟨hP, hD⟩ := pd9 [zO lr 2 [vR ta, vR la, vI yo], zO la 1 [vR l0, vI ys, vR l2, vR l3], zI l0 (cy 0) 600 yl, zO ta 8 [vR tb, vI fed, vI len, vI (u2.2.1 1), vI (u2.2.1 2), vI yf, vI yg], zI tb (cy 1) 600 bf] hq9
      refine iz_eq (tgt := 47) hx hb dX2_readAlternative_23 (by decide) (by first | exact rgw hq2_1 (by decide) (by decide) | omega) (fun c_2 => ?_) (fun c_2 => ?_)
      · refine W.widen (k := 0) (n := 0) (Nat.le_of_ble_eq_true rfl) (Nat.le_of_ble_eq_true rfl) ?_
        exact W.vret hx hb hr (fun t ht hW => ⟨⟨((fun k => ([] : List Nat).getD k 0), (fun k => ([(u2.2.1 1), (u2.2.1 2), yf, yg, ys, yo] : List Int).getD k 0), (fun k => ([yl] : List (Nat → Int32)).getD k (fun _ => 0))), rfl, ⟨(by show (0 ≤ (u2.2.1 1) ∧ (u2.2.1 1) ≤ 600); first | exact hq2_2 | omega), (by show (0 ≤ (u2.2.1 2) ∧ (u2.2.1 2) ≤ 600); first | exact hq2_3 | omega), (by show (0 ≤ yf ∧ yf ≤ 4); first | exact hl6_5 | omega), (by show ((-1) ≤ yg ∧ yg ≤ 600); first | exact hl6_6 | omega), (by show (0 ≤ ys ∧ ys ≤ 600); first | exact hl6_1 | omega), (by show (0 ≤ yo ∧ yo ≤ 6); first | exact hl6_2 | omega), (by show (yo = op); omega), hiyl⟩, at9 ht hP hD [0, 3, 4, 1, 2] (by decide +kernel) rfl⟩, hS.F ht⟩) hS.2.2 dX2_readAlternative_47
      · refine lv_aload_n hx hb dX2_readAlternative_26 rfl (lv_at hlv 1 rfl) ?_
        refine cjr_v [false, false, false, false, false] (fun pre9 => (va_runV (As := []) (rest := []) ⟨hx, hb, hml, hown, hts⟩ (w_test_step l hl D cy sa d IH lr ta tb fed len (u2.2.1 1) (u2.2.1 2) yf yg bf la l0 l2 l3 ys yl yo H.size (by first | exact hr_fed | omega) (by first | exact hr_len | omega) (by first | exact hq2_2 | omega) (by first | exact hq2_3 | omega) (by first | exact hl6_5 | omega) (by first | exact hl6_6 | omega) (by first | exact hl6_1 | omega) (by first | exact hl6_2 | omega) hiyl (by omega)) (cwV 0 hts gh_X2_readTest_127 rfl rfl rfl (by decide +kernel) ⟨by dsimp only [headSpec]; omega, by dsimp only [headSpec]; omega⟩) ⟨pcW.blind, (va_recv hG.1 hP (ci := 2) (q0 := 0) rfl rfl), pre9⟩ rfl rfl hlv.1 rfl (lv_room (Nat.le_of_ble_eq_true rfl)) dX2_readAlternative_27 ⟨Nat.le_of_ble_eq_true rfl, Nat.le_of_ble_eq_true rfl⟩)) hP hD hS hA hG hT [0, 3, 4, 1, 2] rfl (by decide +kernel) (fun u3 H locs hw3 hq9 hS => ?_)
        obtain ⟨hq3_0, hq3_1, hq3_2, hq3_3, hq3_4, hq3_5, hq3_6, hq3_7⟩ := hw3
        obtain ⟨hP, hD⟩ := pd9 [zO lr 2 [vR ta, vR la, vI (u3.2.1 5)], zO ta 8 [vR tb, vI fed, vI len, vI (u3.2.1 0), vI (u3.2.1 1), vI (u3.2.1 2), vI (u3.2.1 3)], zI tb (cy 1) 600 bf, zO la 1 [vR l0, vI (u3.2.1 4), vR l2, vR l3], zI l0 (cy 0) 600 (u3.2.2 0)] hq9
        refine lv_aload_n hx hb dX2_readAlternative_30 rfl (lv_at hlv 1 rfl) ?_
        refine va_get (D := D) (ci := 2) (v := vR la) (C := RX2) (T := TX2) (N := 3) hx hb hts hi2 hown hG.1 hP 0 rfl rfl 1 (by decide) lf15 (fun _ h9 => h9) rfl dX2_readAlternative_31 ?_
        refine lv_bipush (v := iI 9) hx hb dX2_readAlternative_34 (by decide) ?_
        refine lv_iconst (v := iI 0) hx hb dX2_readAlternative_36 (by decide) ?_
        refine cjr_i [true, true, true, false, false] (fun pre9 => (va_runVN (host := "KerbSplash") (As := [vI 9, vI 0]) (rest := []) ⟨hx, hb, hml, hown, hts⟩ (s_ladd l hl D cy sa la l0 l2 l3 (u3.2.1 4) (u3.2.2 0) 9 0 H.size (by first | exact hq3_4 | omega) (by show (0 : Int) ≤ 9 ∧ (9 : Int) ≤ 15; decide) (by show (0 : Int) ≤ 0 ∧ (0 : Int) ≤ 10000; decide) hq3_7) ⟨va_cnB 2 hts gg_4 rfl rfl rfl (nM_LawReader_65 hG.2.1) ini_RX1 (by decide +kernel) ⟨by dsimp only [headSpec]; omega, by dsimp only [headSpec]; omega⟩, im_X1_add, se_X1_add⟩ ⟨pcW.blind, (va_recv hG.1 hP (ci := 1) (q0 := 3) rfl rfl), pre9⟩ rfl rfl hlv.1 rfl (lv_room (Nat.le_of_ble_eq_true rfl)) dX2_readAlternative_37 ⟨Nat.le_of_ble_eq_true rfl, Nat.le_of_ble_eq_true rfl⟩)) hP hD hS hA hG hT [3, 4] rfl (by decide +kernel) (fun r4 u4 H locs hw4 hq9 hS => ?_)
        obtain ⟨rfl, hq4_1, hq4_2, hq4_3, hq4_4⟩ := hw4
        obtain ⟨hP, hD⟩ := pd9 [zO lr 2 [vR ta, vR la, vI (u3.2.1 5)], zO ta 8 [vR tb, vI fed, vI len, vI (u3.2.1 0), vI (u3.2.1 1), vI (u3.2.1 2), vI (u3.2.1 3)], zI tb (cy 1) 600 bf, zO la 1 [vR l0, vI (u4.2.1 1), vR l2, vR l3], zI l0 (cy 0) 600 (u4.2.2 0)] hq9
        refine lv_pop hx hb dX2_readAlternative_40 rfl ?_
        obtain ⟨z_3, hz_3⟩ : ∃ z : Int, z = q + 1 := ⟨_, rfl⟩
        refine lv_iinc (v := iI z_3) (lv' := [(1, vI z_3), (0, vR lr)]) hx hb dX2_readAlternative_41 hlv (k := 0) rfl (by rw [hz_3]; exact (Int32.ofInt_add _ _).symm) (by decide) rfl (fun ls hlv => ?_)
        refine lv_goto (tgt := 6) hx hb dX2_readAlternative_44 (by decide) ?_
        exact ih6 z_3 (u4.2.1 1) (u3.2.1 5) (u4.2.2 0) (u3.2.1 0) (u3.2.1 1) (u3.2.1 2) (u3.2.1 3) H locs ls (by omega) (by omega) (by first | exact hq4_2 | omega) (by first | exact hq3_5 | omega) (by first | exact hq3_0 | omega) (by first | exact hq3_1 | omega) (by first | exact hq3_2 | omega) (by first | exact hq3_3 | omega) (by omega) hq4_4 (hP.sub [0, 1, 2, 3, 4] rfl) (hD.sub [0, 1, 2, 3, 4] (by decide) rfl) hS (lv_sub hlv [0, 1] rfl)
set_option maxHeartbeats 4000000 in
set_option maxRecDepth 100000 in
theorem w_cond_step (l : Launch) (hl : l.stackTraces = false) (D : va_G) (cy : Nat → ClassId) (sa : Nat → Nat) (d : Nat) (IH : LR l D cy sa d) (lr : Nat) (ta tb : Nat) (fed len at_ we fa fp : Int) (bf : Nat → Int32) (la l0 l2 l3 : Nat) (size : Int) (st : Nat → Int32) (op : Int) (sz : Nat) (hr_fed : 0 ≤ fed ∧ fed ≤ 600) (hr_len : 0 ≤ len ∧ len ≤ 600) (hr_at_ : 0 ≤ at_ ∧ at_ ≤ 600) (hr_we : 0 ≤ we ∧ we ≤ 600) (hr_fa : 0 ≤ fa ∧ fa ≤ 4) (hr_fp : (-1) ≤ fp ∧ fp ≤ 600) (hr_size : 0 ≤ size ∧ size ≤ 600) (hr_op : 0 ≤ op ∧ op ≤ 6) (hst : inv_ 600 0 2147483647 st) (hlev : (7 : Int) - ((d + 1 : Nat) : Int) ≤ op) : mV9 l yX2_readCondition vs_w_cond ({ frames := 12 * (d + 1) + 6, cells := 0, slots := 0, locals := 900 * (d + 1) + 240 }) D cy sa sz [vR lr] [zO lr 2 [vR ta, vR la, vI op], zO ta 8 [vR tb, vI fed, vI len, vI at_, vI we, vI fa, vI fp], zI tb (cy 1) 600 bf, zO la 1 [vR l0, vI size, vR l2, vR l3], zI l0 (cy 0) 600 st] (fun u : SV => (0 ≤ u.2.1 0 ∧ u.2.1 0 ≤ 600) ∧ (0 ≤ u.2.1 1 ∧ u.2.1 1 ≤ 600) ∧ (0 ≤ u.2.1 2 ∧ u.2.1 2 ≤ 4) ∧ ((-1) ≤ u.2.1 3 ∧ u.2.1 3 ≤ 600) ∧ (0 ≤ u.2.1 4 ∧ u.2.1 4 ≤ 600) ∧ (0 ≤ u.2.1 5 ∧ u.2.1 5 ≤ 6) ∧ (u.2.1 5 = op) ∧ inv_ 600 0 2147483647 (u.2.2 0)) (fun u : SV => [zO lr 2 [vR ta, vR la, vI (u.2.1 5)], zO ta 8 [vR tb, vI fed, vI len, vI (u.2.1 0), vI (u.2.1 1), vI (u.2.1 2), vI (u.2.1 3)], zI tb (cy 1) 600 bf, zO la 1 [vR l0, vI (u.2.1 4), vR l2, vR l3], zI l0 (cy 0) 600 (u.2.2 0)]) 0 0 := by
  refine Met.ofW (cc := cX2_readCondition) (maxL := 2) (ret := none) (by decide) rfl ?_
  intro p e s m args below meth c s₁ B hml hv
  obtain ⟨rfl, hsz, hP, hG, hD0, hT⟩ := hv
  have hx := B.exec
  have hb := B.bytes
  have hr := B.returns
  have hts := atoms_spec (ws := vs_w_cond) B.pre
  have hown : s.vm.findClass RX2 = some m.cls := findClass_of_methodNamed B.named
  have hlocks := B.notSynchronized
  subst hsz
  have hD := hD0.self (sz := s.heap.size)
  generalize hAe : va_A [zO lr 2 [vR ta, vR la, vI op], zO ta 8 [vR tb, vI fed, vI len, vI at_, vI we, vI fa, vI fp], zI tb (cy 1) 600 bf, zO la 1 [vR l0, vI size, vR l2, vR l3], zI l0 (cy 0) 600 st] s.heap.size = A at hD hT ⊢
  have hA : ∀ q : Nat, s.heap.size ≤ q → A q := fun q h => by rw [← hAe]; exact Or.inr h
  have hS : va_S A s.heap s.heap [] := va_S.rf
  have hl0 := lv_entry ([vR lr]) (n := 2) (Nat.le_of_ble_eq_true rfl)
  rw [lg_entry_eq]
  generalize (lg_sl ([vR lr]) ++ List.replicate (2 - (lg_sl ([vR lr])).length) Slot.unset).toArray = ls at hl0 ⊢
  have hlv : lv_has ls 2 [(0, vR lr)] := hl0
  have gh_X2_readAlternative_121 : GoodIn vs_w_cond (wsV RX2 121 RX2 yX2_readAlternative vs_w_alt) := goodIn_sub (gsub_V (List.mem_append_left _ (List.mem_of_getElem? (i := 59) rfl)) (List.mem_append_left _ (List.mem_of_getElem? (i := 60) rfl)) (List.mem_append_left _ (List.mem_of_getElem? (i := 61) rfl)) (List.mem_append_left _ (List.mem_of_getElem? (i := 17) rfl)) (List.mem_append_left _ (List.mem_of_getElem? (i := 62) rfl))) (gd_V (gd_C (by decide +kernel) gd_LRC) (by decide +kernel))
  have lf9 := hts (.fieldLink RX2 9 "KerbSplash$LawReader" "tape" "LKerbSplash$Tape;") (List.mem_of_getElem? (i := 1) rfl)
  have hi2 : ∀ w ∈ wsX20, w ∈ vs_w_cond := fun w h => List.mem_cons_of_mem _ (List.mem_append_right _ (List.mem_append_left _ h))
  have lf124 := hts (.fieldLink RX2 124 "KerbSplash$Word" "OR" "LKerbSplash$Word;") (List.mem_of_getElem? (i := 64) rfl)
  have gg_7 : GoodIn vs_w_cond (vs_s_takeWord) := goodIn_sub (fun w h => List.mem_cons_of_mem _ (List.mem_append_right _ (List.mem_append_right _ (List.mem_append_right _ (List.mem_append_right _ (List.mem_append_right _ (List.mem_append_right _ (List.mem_append_right _ (List.mem_append_right _ (List.mem_append_left _ h)))))))))) gd_s_takeWord
  have ini_RX8 := hts (.initialized RX8) (List.mem_of_getElem? (i := 2) rfl)
  have im_X8_takeWord := hts (.instanceMethod yX8_takeWord) (List.mem_of_getElem? (i := 21) rfl)
  have se_X8_takeWord := hts (.selects RX8 yX8_takeWord yX8_takeWord) (List.mem_of_getElem? (i := 22) rfl)
  have lf15 := hts (.fieldLink RX2 15 "KerbSplash$LawReader" "law" "LKerbSplash$Law;") (List.mem_of_getElem? (i := 7) rfl)
  have gg_4 : GoodIn vs_w_cond (vs_s_ladd) := goodIn_sub (fun w h => List.mem_cons_of_mem _ (List.mem_append_right _ (List.mem_append_right _ (List.mem_append_right _ (List.mem_append_right _ (List.mem_append_right _ (List.mem_append_left _ h))))))) gd_s_ladd
  have ini_RX1 := hts (.initialized RX1) (List.mem_of_getElem? (i := 10) rfl)
  have im_X1_add := hts (.instanceMethod yX1_add) (List.mem_of_getElem? (i := 11) rfl)
  have se_X1_add := hts (.selects RX1 yX1_add yX1_add) (List.mem_of_getElem? (i := 12) rfl)
  refine lv_aload_n hx hb dX2_readCondition_0 rfl (lv_at hlv 0 rfl) ?_
  refine cjr_v [false, false, false, false, false] (fun pre9 => (va_runV (As := []) (rest := []) ⟨hx, hb, hml, hown, hts⟩ (w_alt_step l hl D cy sa d IH lr ta tb fed len at_ we fa fp bf la l0 l2 l3 size st op s.heap.size (by first | exact hr_fed | omega) (by first | exact hr_len | omega) (by first | exact hr_at_ | omega) (by first | exact hr_we | omega) (by first | exact hr_fa | omega) (by first | exact hr_fp | omega) (by first | exact hr_size | omega) (by first | exact hr_op | omega) hst (by omega)) (cwV 0 hts gh_X2_readAlternative_121 rfl rfl rfl (by decide +kernel) ⟨by dsimp only [headSpec]; omega, by dsimp only [headSpec]; omega⟩) ⟨pcW.blind, (va_recv hG.1 hP (ci := 2) (q0 := 0) rfl rfl), pre9⟩ rfl rfl hlv.1 rfl (lv_room (Nat.le_of_ble_eq_true rfl)) dX2_readCondition_1 ⟨Nat.le_of_ble_eq_true rfl, Nat.le_of_ble_eq_true rfl⟩)) hP hD hS hA hG hT [0, 1, 2, 3, 4] rfl (by decide +kernel) (fun u1 H locs hw1 hq9 hS => ?_)
  obtain ⟨hq1_0, hq1_1, hq1_2, hq1_3, hq1_4, hq1_5, hq1_6, hq1_7⟩ := hw1
  obtain ⟨hP, hD⟩ := pd9 [zO lr 2 [vR ta, vR la, vI (u1.2.1 5)], zO ta 8 [vR tb, vI fed, vI len, vI (u1.2.1 0), vI (u1.2.1 1), vI (u1.2.1 2), vI (u1.2.1 3)], zI tb (cy 1) 600 bf, zO la 1 [vR l0, vI (u1.2.1 4), vR l2, vR l3], zI l0 (cy 0) 600 (u1.2.2 0)] hq9
  refine lv_iconst (v := iI 0) hx hb dX2_readCondition_4 (by decide) ?_
  refine lv_istore_n (lv' := [(1, vI 0), (0, vR lr)]) hx hb dX2_readCondition_5 rfl hlv (by decide) rfl (fun ls hlv => ?_)
  refine (?_ : ∀ (fu : Nat) (q : Int) (ys : Int) (yo : Int) (yl : Nat → Int32) (ya : Int) (yw : Int) (yf : Int) (yg : Int) (H : Heap) (locs : List Loc) (ls : Array Slot), 600 - q < (fu : Int) → (0 ≤ q ∧ q ≤ 600) → (0 ≤ ys ∧ ys ≤ 600) → (0 ≤ yo ∧ yo ≤ 6) → (0 ≤ ya ∧ ya ≤ 600) → (0 ≤ yw ∧ yw ≤ 600) → (0 ≤ yf ∧ yf ≤ 4) → ((-1) ≤ yg ∧ yg ≤ 600) → (yo = op) → inv_ 600 0 2147483647 yl → va_P D vwCl [zO lr 2 [vR ta, vR la, vI yo], zO ta 8 [vR tb, vI fed, vI len, vI ya, vI yw, vI yf, vI yg], zI tb (cy 1) 600 bf, zO la 1 [vR l0, vI ys, vR l2, vR l3], zI l0 (cy 0) 600 yl] H → va_D A [zO lr 2 [vR ta, vR la, vI yo], zO ta 8 [vR tb, vI fed, vI len, vI ya, vI yw, vI yf, vI yg], zI tb (cy 1) 600 bf, zO la 1 [vR l0, vI ys, vR l2, vR l3], zI l0 (cy 0) 600 yl] → va_S A s.heap H locs → lv_has ls 2 [(1, vI q), (0, vR lr)] → W p l e _ s m _ below meth c H locs _ _ _ (F0 m 6 ls [])) (((600 - 0) + 1 : Int)).toNat 0 (u1.2.1 4) (u1.2.1 5) (u1.2.2 0) (u1.2.1 0) (u1.2.1 1) (u1.2.1 2) (u1.2.1 3) _ _ _ (by omega) (by show (0 : Int) ≤ 0 ∧ (0 : Int) ≤ 600; decide) (by first | exact hq1_4 | omega) (by first | exact hq1_5 | omega) (by first | exact hq1_0 | omega) (by first | exact hq1_1 | omega) (by first | exact hq1_2 | omega) (by first | exact hq1_3 | omega) (by omega) hq1_7 hP hD hS hlv
  clear hP hD hS hlv
  intro fu
  induction fu with
  | zero => intro q ys yo yl ya yw yf yg H locs ls hm6 hl6_0 hl6_1 hl6_2 hl6_3 hl6_4 hl6_5 hl6_6 hl6_7 hiyl hP hD hS hlv; omega
  | succ fu ih6 =>
    intro q ys yo yl ya yw yf yg H locs ls hm6 hl6_0 hl6_1 hl6_2 hl6_3 hl6_4 hl6_5 hl6_6 hl6_7 hiyl hP hD hS hlv
    refine lv_iload_n hx hb dX2_readCondition_6 rfl (lv_at hlv 0 rfl) ?_
    refine lv_sipush (v := iI 600) hx hb dX2_readCondition_7 (by decide) ?_
    refine ir_ge (tgt := 47) hx hb dX2_readCondition_10 (by decide) (by first | exact rgw hl6_0 (by decide) (by decide) | omega) (by show ((-2147483648) : Int) ≤ 600 ∧ (600 : Int) ≤ 2147483647; decide) (fun c_1 => ?_) (fun c_1 => ?_)
    · refine W.widen (k := 0) (n := 0) (Nat.le_of_ble_eq_true rfl) (Nat.le_of_ble_eq_true rfl) ?_
      exact W.vret hx hb hr (fun t ht hW => ⟨⟨((fun k => ([] : List Nat).getD k 0), (fun k => ([ya, yw, yf, yg, ys, yo] : List Int).getD k 0), (fun k => ([yl] : List (Nat → Int32)).getD k (fun _ => 0))), rfl, ⟨(by show (0 ≤ ya ∧ ya ≤ 600); first | exact hl6_3 | omega), (by show (0 ≤ yw ∧ yw ≤ 600); first | exact hl6_4 | omega), (by show (0 ≤ yf ∧ yf ≤ 4); first | exact hl6_5 | omega), (by show ((-1) ≤ yg ∧ yg ≤ 600); first | exact hl6_6 | omega), (by show (0 ≤ ys ∧ ys ≤ 600); first | exact hl6_1 | omega), (by show (0 ≤ yo ∧ yo ≤ 6); first | exact hl6_2 | omega), (by show (yo = op); omega), hiyl⟩, at9 ht hP hD [0, 1, 2, 3, 4] (by decide +kernel) rfl⟩, hS.F ht⟩) hS.2.2 dX2_readCondition_47
    · refine lv_aload_n hx hb dX2_readCondition_13 rfl (lv_at hlv 1 rfl) ?_
      refine va_get (D := D) (ci := 2) (v := vR ta) (C := RX2) (T := TX2) (N := 3) hx hb hts hi2 hown hG.1 hP 0 rfl rfl 0 (by decide) lf9 (fun _ h9 => h9) rfl dX2_readCondition_14 ?_
      refine va_gets (C := "KerbSplash$Word") (n := "OR") (d := "LKerbSplash$Word;") (ref := "KerbSplash$Word") (v := .ref (wd sa 19)) hx hb (hT.2.2.1 19 (by decide)).1.1 hS hown lf124 (fun _ h9 => h9) dX2_readCondition_17 ?_
      refine cjr_i [true, false, false, true, true] (fun pre9 => (va_runVN (host := "KerbSplash") (As := [.ref (wd sa 19)]) (rest := []) ⟨hx, hb, hml, hown, hts⟩ (s_takeWord l hl D cy sa ta tb fed len ya yw yf yg bf 19 H.size (by first | exact hr_fed | omega) (by first | exact hr_len | omega) (by first | exact hl6_3 | omega) (by first | exact hl6_4 | omega) (by first | exact hl6_5 | omega) (by first | exact hl6_6 | omega) (by show (0 : Int) ≤ 19 ∧ (19 : Int) ≤ 27; decide)) ⟨va_cnB 1 hts gg_7 rfl rfl rfl (nM_LawReader_54 hG.2.1) ini_RX8 (by decide +kernel) ⟨by dsimp only [headSpec]; omega, by dsimp only [headSpec]; omega⟩, im_X8_takeWord, se_X8_takeWord⟩ ⟨pcW.blind, (va_recv hG.1 hP (ci := 8) (q0 := 1) rfl rfl), pre9⟩ rfl rfl hlv.1 rfl (lv_room (Nat.le_of_ble_eq_true rfl)) dX2_readCondition_20 ⟨Nat.le_of_ble_eq_true rfl, Nat.le_of_ble_eq_true rfl⟩)) hP hD hS hA hG hT [1, 2] rfl (by decide +kernel) (fun r2 u2 H locs hw2 hq9 hS => ?_)
      obtain ⟨rfl, hq2_1, hq2_2, hq2_3⟩ := hw2
      obtain ⟨hP, hD⟩ := pd9 [zO lr 2 [vR ta, vR la, vI yo], zO la 1 [vR l0, vI ys, vR l2, vR l3], zI l0 (cy 0) 600 yl, zO ta 8 [vR tb, vI fed, vI len, vI (u2.2.1 1), vI (u2.2.1 2), vI yf, vI yg], zI tb (cy 1) 600 bf] hq9
      refine iz_eq (tgt := 47) hx hb dX2_readCondition_23 (by decide) (by first | exact rgw hq2_1 (by decide) (by decide) | omega) (fun c_2 => ?_) (fun c_2 => ?_)
      · refine W.widen (k := 0) (n := 0) (Nat.le_of_ble_eq_true rfl) (Nat.le_of_ble_eq_true rfl) ?_
        exact W.vret hx hb hr (fun t ht hW => ⟨⟨((fun k => ([] : List Nat).getD k 0), (fun k => ([(u2.2.1 1), (u2.2.1 2), yf, yg, ys, yo] : List Int).getD k 0), (fun k => ([yl] : List (Nat → Int32)).getD k (fun _ => 0))), rfl, ⟨(by show (0 ≤ (u2.2.1 1) ∧ (u2.2.1 1) ≤ 600); first | exact hq2_2 | omega), (by show (0 ≤ (u2.2.1 2) ∧ (u2.2.1 2) ≤ 600); first | exact hq2_3 | omega), (by show (0 ≤ yf ∧ yf ≤ 4); first | exact hl6_5 | omega), (by show ((-1) ≤ yg ∧ yg ≤ 600); first | exact hl6_6 | omega), (by show (0 ≤ ys ∧ ys ≤ 600); first | exact hl6_1 | omega), (by show (0 ≤ yo ∧ yo ≤ 6); first | exact hl6_2 | omega), (by show (yo = op); omega), hiyl⟩, at9 ht hP hD [0, 3, 4, 1, 2] (by decide +kernel) rfl⟩, hS.F ht⟩) hS.2.2 dX2_readCondition_47
      · refine lv_aload_n hx hb dX2_readCondition_26 rfl (lv_at hlv 1 rfl) ?_
        refine cjr_v [false, false, false, false, false] (fun pre9 => (va_runV (As := []) (rest := []) ⟨hx, hb, hml, hown, hts⟩ (w_alt_step l hl D cy sa d IH lr ta tb fed len (u2.2.1 1) (u2.2.1 2) yf yg bf la l0 l2 l3 ys yl yo H.size (by first | exact hr_fed | omega) (by first | exact hr_len | omega) (by first | exact hq2_2 | omega) (by first | exact hq2_3 | omega) (by first | exact hl6_5 | omega) (by first | exact hl6_6 | omega) (by first | exact hl6_1 | omega) (by first | exact hl6_2 | omega) hiyl (by omega)) (cwV 0 hts gh_X2_readAlternative_121 rfl rfl rfl (by decide +kernel) ⟨by dsimp only [headSpec]; omega, by dsimp only [headSpec]; omega⟩) ⟨pcW.blind, (va_recv hG.1 hP (ci := 2) (q0 := 0) rfl rfl), pre9⟩ rfl rfl hlv.1 rfl (lv_room (Nat.le_of_ble_eq_true rfl)) dX2_readCondition_27 ⟨Nat.le_of_ble_eq_true rfl, Nat.le_of_ble_eq_true rfl⟩)) hP hD hS hA hG hT [0, 3, 4, 1, 2] rfl (by decide +kernel) (fun u3 H locs hw3 hq9 hS => ?_)
        obtain ⟨hq3_0, hq3_1, hq3_2, hq3_3, hq3_4, hq3_5, hq3_6, hq3_7⟩ := hw3
        obtain ⟨hP, hD⟩ := pd9 [zO lr 2 [vR ta, vR la, vI (u3.2.1 5)], zO ta 8 [vR tb, vI fed, vI len, vI (u3.2.1 0), vI (u3.2.1 1), vI (u3.2.1 2), vI (u3.2.1 3)], zI tb (cy 1) 600 bf, zO la 1 [vR l0, vI (u3.2.1 4), vR l2, vR l3], zI l0 (cy 0) 600 (u3.2.2 0)] hq9
        refine lv_aload_n hx hb dX2_readCondition_30 rfl (lv_at hlv 1 rfl) ?_
        refine va_get (D := D) (ci := 2) (v := vR la) (C := RX2) (T := TX2) (N := 3) hx hb hts hi2 hown hG.1 hP 0 rfl rfl 1 (by decide) lf15 (fun _ h9 => h9) rfl dX2_readCondition_31 ?_
        refine lv_bipush (v := iI 10) hx hb dX2_readCondition_34 (by decide) ?_
        refine lv_iconst (v := iI 0) hx hb dX2_readCondition_36 (by decide) ?_
        refine cjr_i [true, true, true, false, false] (fun pre9 => (va_runVN (host := "KerbSplash") (As := [vI 10, vI 0]) (rest := []) ⟨hx, hb, hml, hown, hts⟩ (s_ladd l hl D cy sa la l0 l2 l3 (u3.2.1 4) (u3.2.2 0) 10 0 H.size (by first | exact hq3_4 | omega) (by show (0 : Int) ≤ 10 ∧ (10 : Int) ≤ 15; decide) (by show (0 : Int) ≤ 0 ∧ (0 : Int) ≤ 10000; decide) hq3_7) ⟨va_cnB 2 hts gg_4 rfl rfl rfl (nM_LawReader_65 hG.2.1) ini_RX1 (by decide +kernel) ⟨by dsimp only [headSpec]; omega, by dsimp only [headSpec]; omega⟩, im_X1_add, se_X1_add⟩ ⟨pcW.blind, (va_recv hG.1 hP (ci := 1) (q0 := 3) rfl rfl), pre9⟩ rfl rfl hlv.1 rfl (lv_room (Nat.le_of_ble_eq_true rfl)) dX2_readCondition_37 ⟨Nat.le_of_ble_eq_true rfl, Nat.le_of_ble_eq_true rfl⟩)) hP hD hS hA hG hT [3, 4] rfl (by decide +kernel) (fun r4 u4 H locs hw4 hq9 hS => ?_)
        obtain ⟨rfl, hq4_1, hq4_2, hq4_3, hq4_4⟩ := hw4
        obtain ⟨hP, hD⟩ := pd9 [zO lr 2 [vR ta, vR la, vI (u3.2.1 5)], zO ta 8 [vR tb, vI fed, vI len, vI (u3.2.1 0), vI (u3.2.1 1), vI (u3.2.1 2), vI (u3.2.1 3)], zI tb (cy 1) 600 bf, zO la 1 [vR l0, vI (u4.2.1 1), vR l2, vR l3], zI l0 (cy 0) 600 (u4.2.2 0)] hq9
        refine lv_pop hx hb dX2_readCondition_40 rfl ?_
        obtain ⟨z_3, hz_3⟩ : ∃ z : Int, z = q + 1 := ⟨_, rfl⟩
        refine lv_iinc (v := iI z_3) (lv' := [(1, vI z_3), (0, vR lr)]) hx hb dX2_readCondition_41 hlv (k := 0) rfl (by rw [hz_3]; exact (Int32.ofInt_add _ _).symm) (by decide) rfl (fun ls hlv => ?_)
        refine lv_goto (tgt := 6) hx hb dX2_readCondition_44 (by decide) ?_
        exact ih6 z_3 (u4.2.1 1) (u3.2.1 5) (u4.2.2 0) (u3.2.1 0) (u3.2.1 1) (u3.2.1 2) (u3.2.1 3) H locs ls (by omega) (by omega) (by first | exact hq4_2 | omega) (by first | exact hq3_5 | omega) (by first | exact hq3_0 | omega) (by first | exact hq3_1 | omega) (by first | exact hq3_2 | omega) (by first | exact hq3_3 | omega) (by omega) hq4_4 (hP.sub [0, 1, 2, 3, 4] rfl) (hD.sub [0, 1, 2, 3, 4] (by decide) rfl) hS (lv_sub hlv [0, 1] rfl)
theorem LR_all (l : Launch) (hl : l.stackTraces = false) (D : va_G) (cy : Nat → ClassId) (sa : Nat → Nat) : ∀ d : Nat, LR l D cy sa d := by
  intro d
  induction d with
  | zero => exact ⟨fun lr ta tb fed len at_ we fa fp bf la l0 l2 l3 size st op sz hr_fed hr_len hr_at_ hr_we hr_fa hr_fp hr_size hr_op hst hlev => by exfalso; omega, fun lr ta tb fed len at_ we fa fp bf la l0 l2 l3 size st op sz hr_fed hr_len hr_at_ hr_we hr_fa hr_fp hr_size hr_op hst hlev => by exfalso; omega, fun lr ta tb fed len at_ we fa fp bf la l0 l2 l3 size st op sz hr_fed hr_len hr_at_ hr_we hr_fa hr_fp hr_size hr_op hst hlev => by exfalso; omega⟩
  | succ d ih => exact ⟨fun lr ta tb fed len at_ we fa fp bf la l0 l2 l3 size st op sz hr_fed hr_len hr_at_ hr_we hr_fa hr_fp hr_size hr_op hst hlev => w_val_step l hl D cy sa d ih lr ta tb fed len at_ we fa fp bf la l0 l2 l3 size st op sz hr_fed hr_len hr_at_ hr_we hr_fa hr_fp hr_size hr_op hst hlev, fun lr ta tb fed len at_ we fa fp bf la l0 l2 l3 size st op sz hr_fed hr_len hr_at_ hr_we hr_fa hr_fp hr_size hr_op hst hlev => w_cond_step l hl D cy sa d ih lr ta tb fed len at_ we fa fp bf la l0 l2 l3 size st op sz hr_fed hr_len hr_at_ hr_we hr_fa hr_fp hr_size hr_op hst hlev, fun lr ta tb fed len at_ we fa fp bf la l0 l2 l3 size st op sz hr_fed hr_len hr_at_ hr_we hr_fa hr_fp hr_size hr_op hst hlev => w_test_step l hl D cy sa d ih lr ta tb fed len at_ we fa fp bf la l0 l2 l3 size st op sz hr_fed hr_len hr_at_ hr_we hr_fa hr_fp hr_size hr_op hst hlev⟩
theorem w_val (l : Launch) (hl : l.stackTraces = false) (D : va_G) (cy : Nat → ClassId) (sa : Nat → Nat) (lr : Nat) (ta tb : Nat) (fed len at_ we fa fp : Int) (bf : Nat → Int32) (la l0 l2 l3 : Nat) (size : Int) (st : Nat → Int32) (op : Int) (sz : Nat) (hr_fed : 0 ≤ fed ∧ fed ≤ 600) (hr_len : 0 ≤ len ∧ len ≤ 600) (hr_at_ : 0 ≤ at_ ∧ at_ ≤ 600) (hr_we : 0 ≤ we ∧ we ≤ 600) (hr_fa : 0 ≤ fa ∧ fa ≤ 4) (hr_fp : (-1) ≤ fp ∧ fp ≤ 600) (hr_size : 0 ≤ size ∧ size ≤ 600) (hr_op : 0 ≤ op ∧ op ≤ 6) (hst : inv_ 600 0 2147483647 st) : mV9 l yX2_readValue vs_w_val ({ frames := 86, cells := 0, slots := 0, locals := 6380 }) D cy sa sz [vR lr] [zO lr 2 [vR ta, vR la, vI op], zO ta 8 [vR tb, vI fed, vI len, vI at_, vI we, vI fa, vI fp], zI tb (cy 1) 600 bf, zO la 1 [vR l0, vI size, vR l2, vR l3], zI l0 (cy 0) 600 st] (fun u : SV => (0 ≤ u.2.1 0 ∧ u.2.1 0 ≤ 600) ∧ (0 ≤ u.2.1 1 ∧ u.2.1 1 ≤ 600) ∧ (0 ≤ u.2.1 2 ∧ u.2.1 2 ≤ 4) ∧ ((-1) ≤ u.2.1 3 ∧ u.2.1 3 ≤ 600) ∧ (0 ≤ u.2.1 4 ∧ u.2.1 4 ≤ 600) ∧ (0 ≤ u.2.1 5 ∧ u.2.1 5 ≤ 6) ∧ (u.2.1 5 = op) ∧ inv_ 600 0 2147483647 (u.2.2 0)) (fun u : SV => [zO lr 2 [vR ta, vR la, vI (u.2.1 5)], zO ta 8 [vR tb, vI fed, vI len, vI (u.2.1 0), vI (u.2.1 1), vI (u.2.1 2), vI (u.2.1 3)], zI tb (cy 1) 600 bf, zO la 1 [vR l0, vI (u.2.1 4), vR l2, vR l3], zI l0 (cy 0) 600 (u.2.2 0)]) 0 0 :=
  (LR_all l hl D cy sa 7).1 lr ta tb fed len at_ we fa fp bf la l0 l2 l3 size st op sz hr_fed hr_len hr_at_ hr_we hr_fa hr_fp hr_size hr_op hst (by omega)
