theorem dX12_begins_0 : decode cX12_begins 0 = .ok (.aload_n 0, 1) := by decide +kernel
theorem dX12_begins_1 : decode cX12_begins 1 = .ok (.iconst 0, 1) := by decide +kernel
theorem dX12_begins_10 : decode cX12_begins 10 = .ok (.aload_n 0, 1) := by decide +kernel
theorem dX12_begins_11 : decode cX12_begins 11 = .ok (.iload_n 1, 1) := by decide +kernel
theorem dX12_begins_12 : decode cX12_begins 12 = .ok (.putfield 89, 3) := by decide +kernel
theorem dX12_begins_15 : decode cX12_begins 15 = .ok (.aload_n 0, 1) := by decide +kernel
theorem dX12_begins_16 : decode cX12_begins 16 = .ok (.iconst 0, 1) := by decide +kernel
theorem dX12_begins_17 : decode cX12_begins 17 = .ok (.putfield 86, 3) := by decide +kernel
theorem dX12_begins_2 : decode cX12_begins 2 = .ok (.putfield 77, 3) := by decide +kernel
theorem dX12_begins_20 : decode cX12_begins 20 = .ok (.aload_n 0, 1) := by decide +kernel
theorem dX12_begins_21 : decode cX12_begins 21 = .ok (.iconst (-1), 1) := by decide +kernel
theorem dX12_begins_22 : decode cX12_begins 22 = .ok (.putfield 80, 3) := by decide +kernel
theorem dX12_begins_25 : decode cX12_begins 25 = .ok (.aload_n 0, 1) := by decide +kernel
theorem dX12_begins_26 : decode cX12_begins 26 = .ok (.iconst 0, 1) := by decide +kernel
theorem dX12_begins_27 : decode cX12_begins 27 = .ok (.putfield 120, 3) := by decide +kernel
theorem dX12_begins_30 : decode cX12_begins 30 = .ok (.return_, 1) := by decide +kernel
theorem dX12_begins_5 : decode cX12_begins 5 = .ok (.aload_n 0, 1) := by decide +kernel
theorem dX12_begins_6 : decode cX12_begins 6 = .ok (.iconst (-1), 1) := by decide +kernel
theorem dX12_begins_7 : decode cX12_begins 7 = .ok (.putfield 17, 3) := by decide +kernel
theorem dX12_fine_0 : decode cX12_fine 0 = .ok (.aload_n 0, 1) := by decide +kernel
theorem dX12_fine_1 : decode cX12_fine 1 = .ok (.getfield 80, 3) := by decide +kernel
theorem dX12_fine_12 : decode cX12_fine 12 = .ok (.iconst 0, 1) := by decide +kernel
theorem dX12_fine_13 : decode cX12_fine 13 = .ok (.ireturn, 1) := by decide +kernel
theorem dX12_fine_4 : decode cX12_fine 4 = .ok (.iconst (-1), 1) := by decide +kernel
theorem dX12_fine_5 : decode cX12_fine 5 = .ok (.if_icmp .ne 7, 3) := by decide +kernel
theorem dX12_fine_8 : decode cX12_fine 8 = .ok (.iconst 1, 1) := by decide +kernel
theorem dX12_fine_9 : decode cX12_fine 9 = .ok (.goto 4, 3) := by decide +kernel
theorem dX12_here_0 : decode cX12_here 0 = .ok (.aload_n 0, 1) := by decide +kernel
theorem dX12_here_1 : decode cX12_here 1 = .ok (.getfield 86, 3) := by decide +kernel
theorem dX12_here_38 : decode cX12_here 38 = .ok (.aload_n 0, 1) := by decide +kernel
theorem dX12_here_39 : decode cX12_here 39 = .ok (.getfield 86, 3) := by decide +kernel
theorem dX12_here_4 : decode cX12_here 4 = .ok (.aload_n 0, 1) := by decide +kernel
theorem dX12_here_42 : decode cX12_here 42 = .ok (.aload_n 0, 1) := by decide +kernel
theorem dX12_here_43 : decode cX12_here 43 = .ok (.getfield 89, 3) := by decide +kernel
theorem dX12_here_46 : decode cX12_here 46 = .ok (.if_icmp .ge 15, 3) := by decide +kernel
theorem dX12_here_5 : decode cX12_here 5 = .ok (.getfield 89, 3) := by decide +kernel
theorem dX12_here_61 : decode cX12_here 61 = .ok (.iconst 0, 1) := by decide +kernel
theorem dX12_here_62 : decode cX12_here 62 = .ok (.ireturn, 1) := by decide +kernel
theorem dX12_here_8 : decode cX12_here 8 = .ok (.if_icmp .ge 30, 3) := by decide +kernel
theorem dX12_isMore_0 : decode cX12_isMore 0 = .ok (.aload_n 0, 1) := by decide +kernel
theorem dX12_isMore_1 : decode cX12_isMore 1 = .ok (.invokevirtual 92, 3) := by decide +kernel
theorem dX12_isMore_10 : decode cX12_isMore 10 = .ok (.getfield 89, 3) := by decide +kernel
theorem dX12_isMore_13 : decode cX12_isMore 13 = .ok (.if_icmp .ge 7, 3) := by decide +kernel
theorem dX12_isMore_20 : decode cX12_isMore 20 = .ok (.iconst 0, 1) := by decide +kernel
theorem dX12_isMore_21 : decode cX12_isMore 21 = .ok (.ireturn, 1) := by decide +kernel
theorem dX12_isMore_4 : decode cX12_isMore 4 = .ok (.pop, 1) := by decide +kernel
theorem dX12_isMore_5 : decode cX12_isMore 5 = .ok (.aload_n 0, 1) := by decide +kernel
theorem dX12_isMore_6 : decode cX12_isMore 6 = .ok (.getfield 86, 3) := by decide +kernel
theorem dX12_isMore_9 : decode cX12_isMore 9 = .ok (.aload_n 0, 1) := by decide +kernel
theorem dX12_law_0 : decode cX12_law 0 = .ok (.aload_n 0, 1) := by decide +kernel
theorem dX12_law_1 : decode cX12_law 1 = .ok (.iconst 0, 1) := by decide +kernel
theorem dX12_law_10 : decode cX12_law 10 = .ok (.iload_n 1, 1) := by decide +kernel
theorem dX12_law_101 : decode cX12_law 101 = .ok (.aload_n 0, 1) := by decide +kernel
theorem dX12_law_102 : decode cX12_law 102 = .ok (.invokevirtual 182, 3) := by decide +kernel
theorem dX12_law_105 : decode cX12_law 105 = .ok (.ifCond .eq 207, 3) := by decide +kernel
theorem dX12_law_11 : decode cX12_law 11 = .ok (.aload_n 0, 1) := by decide +kernel
theorem dX12_law_12 : decode cX12_law 12 = .ok (.getfield 77, 3) := by decide +kernel
theorem dX12_law_15 : decode cX12_law 15 = .ok (.if_icmp .gt 7, 3) := by decide +kernel
theorem dX12_law_18 : decode cX12_law 18 = .ok (.iconst 1, 1) := by decide +kernel
theorem dX12_law_19 : decode cX12_law 19 = .ok (.goto 4, 3) := by decide +kernel
theorem dX12_law_2 : decode cX12_law 2 = .ok (.putfield 1, 3) := by decide +kernel
theorem dX12_law_22 : decode cX12_law 22 = .ok (.iconst 0, 1) := by decide +kernel
theorem dX12_law_23 : decode cX12_law 23 = .ok (.iconst 1, 1) := by decide +kernel
theorem dX12_law_24 : decode cX12_law 24 = .ok (.iconst 2, 1) := by decide +kernel
theorem dX12_law_25 : decode cX12_law 25 = .ok (.invokevirtual 175, 3) := by decide +kernel
theorem dX12_law_28 : decode cX12_law 28 = .ok (.ifCond .ne 5, 3) := by decide +kernel
theorem dX12_law_31 : decode cX12_law 31 = .ok (.iconst 0, 1) := by decide +kernel
theorem dX12_law_312 : decode cX12_law 312 = .ok (.aload_n 0, 1) := by decide +kernel
theorem dX12_law_313 : decode cX12_law 313 = .ok (.aload_n 0, 1) := by decide +kernel
theorem dX12_law_314 : decode cX12_law 314 = .ok (.getfield 209, 3) := by decide +kernel
theorem dX12_law_317 : decode cX12_law 317 = .ok (.invokevirtual 198, 3) := by decide +kernel
theorem dX12_law_32 : decode cX12_law 32 = .ok (.ireturn, 1) := by decide +kernel
theorem dX12_law_320 : decode cX12_law 320 = .ok (.istore_n 2, 1) := by decide +kernel
theorem dX12_law_321 : decode cX12_law 321 = .ok (.iload_n 2, 1) := by decide +kernel
theorem dX12_law_322 : decode cX12_law 322 = .ok (.aload_n 0, 1) := by decide +kernel
theorem dX12_law_323 : decode cX12_law 323 = .ok (.getfield 209, 3) := by decide +kernel
theorem dX12_law_326 : decode cX12_law 326 = .ok (.if_icmp .ne 13, 3) := by decide +kernel
theorem dX12_law_329 : decode cX12_law 329 = .ok (.aload_n 0, 1) := by decide +kernel
theorem dX12_law_33 : decode cX12_law 33 = .ok (.aload_n 0, 1) := by decide +kernel
theorem dX12_law_330 : decode cX12_law 330 = .ok (.dup, 1) := by decide +kernel
theorem dX12_law_331 : decode cX12_law 331 = .ok (.getfield 209, 3) := by decide +kernel
theorem dX12_law_334 : decode cX12_law 334 = .ok (.iconst 1, 1) := by decide +kernel
theorem dX12_law_335 : decode cX12_law 335 = .ok (.iadd, 1) := by decide +kernel
theorem dX12_law_336 : decode cX12_law 336 = .ok (.putfield 209, 3) := by decide +kernel
theorem dX12_law_339 : decode cX12_law 339 = .ok (.iload_n 2, 1) := by decide +kernel
theorem dX12_law_34 : decode cX12_law 34 = .ok (.iload_n 1, 1) := by decide +kernel
theorem dX12_law_340 : decode cX12_law 340 = .ok (.ireturn, 1) := by decide +kernel
theorem dX12_law_35 : decode cX12_law 35 = .ok (.invokevirtual 179, 3) := by decide +kernel
theorem dX12_law_38 : decode cX12_law 38 = .ok (.aload_n 0, 1) := by decide +kernel
theorem dX12_law_39 : decode cX12_law 39 = .ok (.getfield 209, 3) := by decide +kernel
theorem dX12_law_42 : decode cX12_law 42 = .ok (.iconst 4, 1) := by decide +kernel
theorem dX12_law_43 : decode cX12_law 43 = .ok (.if_icmp .ne 5, 3) := by decide +kernel
theorem dX12_law_48 : decode cX12_law 48 = .ok (.aload_n 0, 1) := by decide +kernel
theorem dX12_law_49 : decode cX12_law 49 = .ok (.iconst 0, 1) := by decide +kernel
theorem dX12_law_5 : decode cX12_law 5 = .ok (.aload_n 0, 1) := by decide +kernel
theorem dX12_law_50 : decode cX12_law 50 = .ok (.putfield 212, 3) := by decide +kernel
theorem dX12_law_53 : decode cX12_law 53 = .ok (.iconst 0, 1) := by decide +kernel
theorem dX12_law_54 : decode cX12_law 54 = .ok (.istore_n 2, 1) := by decide +kernel
theorem dX12_law_55 : decode cX12_law 55 = .ok (.iload_n 2, 1) := by decide +kernel
theorem dX12_law_56 : decode cX12_law 56 = .ok (.iconst 5, 1) := by decide +kernel
theorem dX12_law_57 : decode cX12_law 57 = .ok (.if_icmp .ge 37, 3) := by decide +kernel
theorem dX12_law_6 : decode cX12_law 6 = .ok (.iload_n 1, 1) := by decide +kernel
theorem dX12_law_60 : decode cX12_law 60 = .ok (.aload_n 0, 1) := by decide +kernel
theorem dX12_law_61 : decode cX12_law 61 = .ok (.getfield 56, 3) := by decide +kernel
theorem dX12_law_64 : decode cX12_law 64 = .ok (.iconst 5, 1) := by decide +kernel
theorem dX12_law_65 : decode cX12_law 65 = .ok (.aload_n 0, 1) := by decide +kernel
theorem dX12_law_66 : decode cX12_law 66 = .ok (.getfield 209, 3) := by decide +kernel
theorem dX12_law_69 : decode cX12_law 69 = .ok (.imul, 1) := by decide +kernel
theorem dX12_law_7 : decode cX12_law 7 = .ok (.ifCond .lt 15, 3) := by decide +kernel
theorem dX12_law_70 : decode cX12_law 70 = .ok (.iload_n 2, 1) := by decide +kernel
theorem dX12_law_71 : decode cX12_law 71 = .ok (.iadd, 1) := by decide +kernel
theorem dX12_law_72 : decode cX12_law 72 = .ok (.iconst 0, 1) := by decide +kernel
theorem dX12_law_73 : decode cX12_law 73 = .ok (.iastore, 1) := by decide +kernel
theorem dX12_law_74 : decode cX12_law 74 = .ok (.aload_n 0, 1) := by decide +kernel
theorem dX12_law_75 : decode cX12_law 75 = .ok (.getfield 59, 3) := by decide +kernel
theorem dX12_law_78 : decode cX12_law 78 = .ok (.iconst 5, 1) := by decide +kernel
theorem dX12_law_79 : decode cX12_law 79 = .ok (.aload_n 0, 1) := by decide +kernel
theorem dX12_law_80 : decode cX12_law 80 = .ok (.getfield 209, 3) := by decide +kernel
theorem dX12_law_83 : decode cX12_law 83 = .ok (.imul, 1) := by decide +kernel
theorem dX12_law_84 : decode cX12_law 84 = .ok (.iload_n 2, 1) := by decide +kernel
theorem dX12_law_85 : decode cX12_law 85 = .ok (.iadd, 1) := by decide +kernel
theorem dX12_law_86 : decode cX12_law 86 = .ok (.iconst 0, 1) := by decide +kernel
theorem dX12_law_87 : decode cX12_law 87 = .ok (.iastore, 1) := by decide +kernel
theorem dX12_law_88 : decode cX12_law 88 = .ok (.iinc 2 1, 3) := by decide +kernel
theorem dX12_law_91 : decode cX12_law 91 = .ok (.goto (-36), 3) := by decide +kernel
theorem dX12_law_94 : decode cX12_law 94 = .ok (.aload_n 0, 1) := by decide +kernel
theorem dX12_law_95 : decode cX12_law 95 = .ok (.invokevirtual 109, 3) := by decide +kernel
theorem dX12_law_98 : decode cX12_law 98 = .ok (.ifCond .eq 214, 3) := by decide +kernel
theorem dX12_rain_0 : decode cX12_rain 0 = .ok (.aload_n 0, 1) := by decide +kernel
theorem dX12_rain_1 : decode cX12_rain 1 = .ok (.iconst 0, 1) := by decide +kernel
theorem dX12_rain_10 : decode cX12_rain 10 = .ok (.iload_n 1, 1) := by decide +kernel
theorem dX12_rain_11 : decode cX12_rain 11 = .ok (.aload_n 0, 1) := by decide +kernel
theorem dX12_rain_12 : decode cX12_rain 12 = .ok (.getfield 77, 3) := by decide +kernel
theorem dX12_rain_15 : decode cX12_rain 15 = .ok (.if_icmp .gt 7, 3) := by decide +kernel
theorem dX12_rain_18 : decode cX12_rain 18 = .ok (.iconst 1, 1) := by decide +kernel
theorem dX12_rain_187 : decode cX12_rain 187 = .ok (.aload_n 0, 1) := by decide +kernel
theorem dX12_rain_188 : decode cX12_rain 188 = .ok (.aload_n 0, 1) := by decide +kernel
theorem dX12_rain_189 : decode cX12_rain 189 = .ok (.getfield 204, 3) := by decide +kernel
theorem dX12_rain_19 : decode cX12_rain 19 = .ok (.goto 4, 3) := by decide +kernel
theorem dX12_rain_192 : decode cX12_rain 192 = .ok (.invokevirtual 198, 3) := by decide +kernel
theorem dX12_rain_195 : decode cX12_rain 195 = .ok (.istore_n 3, 1) := by decide +kernel
theorem dX12_rain_196 : decode cX12_rain 196 = .ok (.iload_n 3, 1) := by decide +kernel
theorem dX12_rain_197 : decode cX12_rain 197 = .ok (.aload_n 0, 1) := by decide +kernel
theorem dX12_rain_198 : decode cX12_rain 198 = .ok (.getfield 204, 3) := by decide +kernel
theorem dX12_rain_2 : decode cX12_rain 2 = .ok (.putfield 1, 3) := by decide +kernel
theorem dX12_rain_201 : decode cX12_rain 201 = .ok (.if_icmp .ne 23, 3) := by decide +kernel
theorem dX12_rain_22 : decode cX12_rain 22 = .ok (.iconst 0, 1) := by decide +kernel
theorem dX12_rain_224 : decode cX12_rain 224 = .ok (.iload_n 3, 1) := by decide +kernel
theorem dX12_rain_225 : decode cX12_rain 225 = .ok (.ireturn, 1) := by decide +kernel
theorem dX12_rain_23 : decode cX12_rain 23 = .ok (.iconst 1, 1) := by decide +kernel
theorem dX12_rain_24 : decode cX12_rain 24 = .ok (.iconst 2, 1) := by decide +kernel
theorem dX12_rain_25 : decode cX12_rain 25 = .ok (.invokevirtual 175, 3) := by decide +kernel
theorem dX12_rain_28 : decode cX12_rain 28 = .ok (.ifCond .ne 5, 3) := by decide +kernel
theorem dX12_rain_31 : decode cX12_rain 31 = .ok (.iconst 0, 1) := by decide +kernel
theorem dX12_rain_32 : decode cX12_rain 32 = .ok (.ireturn, 1) := by decide +kernel
theorem dX12_rain_33 : decode cX12_rain 33 = .ok (.aload_n 0, 1) := by decide +kernel
theorem dX12_rain_34 : decode cX12_rain 34 = .ok (.iload_n 1, 1) := by decide +kernel
theorem dX12_rain_35 : decode cX12_rain 35 = .ok (.invokevirtual 179, 3) := by decide +kernel
theorem dX12_rain_38 : decode cX12_rain 38 = .ok (.aload_n 0, 1) := by decide +kernel
theorem dX12_rain_39 : decode cX12_rain 39 = .ok (.getfield 204, 3) := by decide +kernel
theorem dX12_rain_42 : decode cX12_rain 42 = .ok (.iconst 4, 1) := by decide +kernel
theorem dX12_rain_43 : decode cX12_rain 43 = .ok (.if_icmp .ne 5, 3) := by decide +kernel
theorem dX12_rain_48 : decode cX12_rain 48 = .ok (.iconst 0, 1) := by decide +kernel
theorem dX12_rain_49 : decode cX12_rain 49 = .ok (.istore_n 2, 1) := by decide +kernel
theorem dX12_rain_5 : decode cX12_rain 5 = .ok (.aload_n 0, 1) := by decide +kernel
theorem dX12_rain_50 : decode cX12_rain 50 = .ok (.aload_n 0, 1) := by decide +kernel
theorem dX12_rain_51 : decode cX12_rain 51 = .ok (.invokevirtual 182, 3) := by decide +kernel
theorem dX12_rain_54 : decode cX12_rain 54 = .ok (.ifCond .ne 12, 3) := by decide +kernel
theorem dX12_rain_57 : decode cX12_rain 57 = .ok (.aload_n 0, 1) := by decide +kernel
theorem dX12_rain_58 : decode cX12_rain 58 = .ok (.iconst 1, 1) := by decide +kernel
theorem dX12_rain_59 : decode cX12_rain 59 = .ok (.aload_n 0, 1) := by decide +kernel
theorem dX12_rain_6 : decode cX12_rain 6 = .ok (.iload_n 1, 1) := by decide +kernel
theorem dX12_rain_60 : decode cX12_rain 60 = .ok (.getfield 89, 3) := by decide +kernel
theorem dX12_rain_63 : decode cX12_rain 63 = .ok (.invokevirtual 116, 3) := by decide +kernel
theorem dX12_rain_66 : decode cX12_rain 66 = .ok (.aload_n 0, 1) := by decide +kernel
theorem dX12_rain_67 : decode cX12_rain 67 = .ok (.invokevirtual 109, 3) := by decide +kernel
theorem dX12_rain_7 : decode cX12_rain 7 = .ok (.ifCond .lt 15, 3) := by decide +kernel
theorem dX12_rain_70 : decode cX12_rain 70 = .ok (.ifCond .eq 117, 3) := by decide +kernel
theorem dX12_result_0 : decode cX12_result 0 = .ok (.aload_n 0, 1) := by decide +kernel
theorem dX12_result_1 : decode cX12_result 1 = .ok (.aload_n 0, 1) := by decide +kernel
theorem dX12_result_12 : decode cX12_result 12 = .ok (.ifCond .eq 7, 3) := by decide +kernel
theorem dX12_result_15 : decode cX12_result 15 = .ok (.iload_n 1, 1) := by decide +kernel
theorem dX12_result_16 : decode cX12_result 16 = .ok (.goto 10, 3) := by decide +kernel
theorem dX12_result_19 : decode cX12_result 19 = .ok (.aload_n 0, 1) := by decide +kernel
theorem dX12_result_2 : decode cX12_result 2 = .ok (.getfield 80, 3) := by decide +kernel
theorem dX12_result_20 : decode cX12_result 20 = .ok (.getfield 83, 3) := by decide +kernel
theorem dX12_result_23 : decode cX12_result 23 = .ok (.bipush 10, 2) := by decide +kernel
theorem dX12_result_25 : decode cX12_result 25 = .ok (.isub, 1) := by decide +kernel
theorem dX12_result_26 : decode cX12_result 26 = .ok (.ireturn, 1) := by decide +kernel
theorem dX12_result_5 : decode cX12_result 5 = .ok (.putfield 17, 3) := by decide +kernel
theorem dX12_result_8 : decode cX12_result 8 = .ok (.aload_n 0, 1) := by decide +kernel
theorem dX12_result_9 : decode cX12_result 9 = .ok (.invokevirtual 109, 3) := by decide +kernel
theorem dX12_street_0 : decode cX12_street 0 = .ok (.aload_n 0, 1) := by decide +kernel
theorem dX12_street_1 : decode cX12_street 1 = .ok (.iconst 0, 1) := by decide +kernel
theorem dX12_street_10 : decode cX12_street 10 = .ok (.iload_n 1, 1) := by decide +kernel
theorem dX12_street_11 : decode cX12_street 11 = .ok (.aload_n 0, 1) := by decide +kernel
theorem dX12_street_12 : decode cX12_street 12 = .ok (.getfield 77, 3) := by decide +kernel
theorem dX12_street_15 : decode cX12_street 15 = .ok (.if_icmp .gt 7, 3) := by decide +kernel
theorem dX12_street_2 : decode cX12_street 2 = .ok (.putfield 1, 3) := by decide +kernel
theorem dX12_street_22 : decode cX12_street 22 = .ok (.iconst 0, 1) := by decide +kernel
theorem dX12_street_23 : decode cX12_street 23 = .ok (.iconst 1, 1) := by decide +kernel
theorem dX12_street_24 : decode cX12_street 24 = .ok (.iconst 2, 1) := by decide +kernel
theorem dX12_street_25 : decode cX12_street 25 = .ok (.invokevirtual 175, 3) := by decide +kernel
theorem dX12_street_28 : decode cX12_street 28 = .ok (.ifCond .ne 5, 3) := by decide +kernel
theorem dX12_street_31 : decode cX12_street 31 = .ok (.iconst 0, 1) := by decide +kernel
theorem dX12_street_32 : decode cX12_street 32 = .ok (.ireturn, 1) := by decide +kernel
theorem dX12_street_5 : decode cX12_street 5 = .ok (.aload_n 0, 1) := by decide +kernel
theorem dX12_street_6 : decode cX12_street 6 = .ok (.iload_n 1, 1) := by decide +kernel
theorem dX12_street_7 : decode cX12_street 7 = .ok (.ifCond .lt 15, 3) := by decide +kernel
theorem dX12_wrong_0 : decode cX12_wrong 0 = .ok (.aload_n 0, 1) := by decide +kernel
theorem dX12_wrong_1 : decode cX12_wrong 1 = .ok (.getfield 80, 3) := by decide +kernel
theorem dX12_wrong_10 : decode cX12_wrong 10 = .ok (.iload_n 2, 1) := by decide +kernel
theorem dX12_wrong_11 : decode cX12_wrong 11 = .ok (.putfield 80, 3) := by decide +kernel
theorem dX12_wrong_14 : decode cX12_wrong 14 = .ok (.aload_n 0, 1) := by decide +kernel
theorem dX12_wrong_15 : decode cX12_wrong 15 = .ok (.iload_n 1, 1) := by decide +kernel
theorem dX12_wrong_16 : decode cX12_wrong 16 = .ok (.putfield 83, 3) := by decide +kernel
theorem dX12_wrong_19 : decode cX12_wrong 19 = .ok (.return_, 1) := by decide +kernel
theorem dX12_wrong_4 : decode cX12_wrong 4 = .ok (.iconst (-1), 1) := by decide +kernel
theorem dX12_wrong_5 : decode cX12_wrong 5 = .ok (.if_icmp .eq 4, 3) := by decide +kernel
theorem dX12_wrong_9 : decode cX12_wrong 9 = .ok (.aload_n 0, 1) := by decide +kernel
def vs_m_streetx : List Cond := .code yX12_street cX12_street 5 (some .int) :: (([.fieldLink RX12 1 "KerbSplashModel" "thrown" "I", .fieldLink RX12 77 "KerbSplashModel" "taped" "I"] : List Cond) ++ ((wsX120) ++ ((wsV RX12 175 RX12 yX12_may vs_c_may0_2) ++ ([]))))
set_option maxHeartbeats 4000000 in
set_option maxRecDepth 100000 in
theorem m_streetx (l : Launch) (hl : l.stackTraces = false) (D : va_G) (cy : Nat → ClassId) (sa : Nat → Nat) (mo : Nat) (ma : Nat → Nat) (n : Int32) (sz : Nat) (hn : ¬ (0 ≤ n ∧ n ≤ 0)) : Met l yX12_street vs_m_streetx ({ frames := 1, cells := 0, slots := 0, locals := 23 }) (va_Pc [.ref mo, .int n] (pcW D cy sa sz [(mo, .inr (12, [.int 0, .ref (ma 1), .int 0, .int 0, .int 0, .int 0, .int 0, .int 0, .int (-1), .ref (ma 9), .ref (ma 10), .ref (ma 11), .ref (ma 12), .ref (ma 13), .ref (ma 14), .ref (ma 15), .int 0, .int 0, .int 0, .ref (ma 19), .ref (ma 20), .ref (ma 21), .int 0, .ref (ma 23), .ref (ma 24), .ref (ma 25), .ref (ma 26), .ref (ma 27), .ref (ma 28), .int 0, .int 0, .int 0, .int 0, .ref (ma 33), .int (-1), .ref (ma 35), .int 0, .int 0])), ((ma 1), .inl (cy 0, 4, .inl (fun _ => 0)))])) (va_Qi (fun (r : Int32) (u : SU) => (r = 0)) (fun u t => atW D (va_A [(mo, .inr (12, [.int 0, .ref (ma 1), .int 0, .int 0, .int 0, .int 0, .int 0, .int 0, .int (-1), .ref (ma 9), .ref (ma 10), .ref (ma 11), .ref (ma 12), .ref (ma 13), .ref (ma 14), .ref (ma 15), .int 0, .int 0, .int 0, .ref (ma 19), .ref (ma 20), .ref (ma 21), .int 0, .ref (ma 23), .ref (ma 24), .ref (ma 25), .ref (ma 26), .ref (ma 27), .ref (ma 28), .int 0, .int 0, .int 0, .int 0, .ref (ma 33), .int (-1), .ref (ma 35), .int 0, .int 0])), ((ma 1), .inl (cy 0, 4, .inl (fun _ => 0)))] sz) [(mo, .inr (12, [.int 1, .ref (ma 1), .int 0, .int 0, .int 0, .int 0, .int 0, .int 0, .int (-1), .ref (ma 9), .ref (ma 10), .ref (ma 11), .ref (ma 12), .ref (ma 13), .ref (ma 14), .ref (ma 15), .int 0, .int 0, .int 0, .ref (ma 19), .ref (ma 20), .ref (ma 21), .int 0, .ref (ma 23), .ref (ma 24), .ref (ma 25), .ref (ma 26), .ref (ma 27), .ref (ma 28), .int 0, .int 0, .int 0, .int 0, .ref (ma 33), .int (-1), .ref (ma 35), .int 0, .int 0]))] t) (va_A [(mo, .inr (12, [.int 0, .ref (ma 1), .int 0, .int 0, .int 0, .int 0, .int 0, .int 0, .int (-1), .ref (ma 9), .ref (ma 10), .ref (ma 11), .ref (ma 12), .ref (ma 13), .ref (ma 14), .ref (ma 15), .int 0, .int 0, .int 0, .ref (ma 19), .ref (ma 20), .ref (ma 21), .int 0, .ref (ma 23), .ref (ma 24), .ref (ma 25), .ref (ma 26), .ref (ma 27), .ref (ma 28), .int 0, .int 0, .int 0, .int 0, .ref (ma 33), .int (-1), .ref (ma 35), .int 0, .int 0])), ((ma 1), .inl (cy 0, 4, .inl (fun _ => 0)))] sz)) 0 0 (va_A [(mo, .inr (12, [.int 0, .ref (ma 1), .int 0, .int 0, .int 0, .int 0, .int 0, .int 0, .int (-1), .ref (ma 9), .ref (ma 10), .ref (ma 11), .ref (ma 12), .ref (ma 13), .ref (ma 14), .ref (ma 15), .int 0, .int 0, .int 0, .ref (ma 19), .ref (ma 20), .ref (ma 21), .int 0, .ref (ma 23), .ref (ma 24), .ref (ma 25), .ref (ma 26), .ref (ma 27), .ref (ma 28), .int 0, .int 0, .int 0, .int 0, .ref (ma 33), .int (-1), .ref (ma 35), .int 0, .int 0])), ((ma 1), .inl (cy 0, 4, .inl (fun _ => 0)))] sz) := by
  refine Met.ofW (cc := cX12_street) (maxL := 5) (ret := (some .int)) (by decide) rfl ?_
  intro p e s m args below meth c s₁ B hml hv
  obtain ⟨rfl, hsz, hP, hG, hD0, hT⟩ := hv
  have hx := B.exec
  have hb := B.bytes
  have hr := B.returns
  have hts := atoms_spec (ws := vs_m_streetx) B.pre
  have hown : s.vm.findClass RX12 = some m.cls := findClass_of_methodNamed B.named
  have hlocks := B.notSynchronized
  subst hsz
  have hD := hD0.self (sz := s.heap.size)
  generalize hAe : va_A [(mo, .inr (12, [.int 0, .ref (ma 1), .int 0, .int 0, .int 0, .int 0, .int 0, .int 0, .int (-1), .ref (ma 9), .ref (ma 10), .ref (ma 11), .ref (ma 12), .ref (ma 13), .ref (ma 14), .ref (ma 15), .int 0, .int 0, .int 0, .ref (ma 19), .ref (ma 20), .ref (ma 21), .int 0, .ref (ma 23), .ref (ma 24), .ref (ma 25), .ref (ma 26), .ref (ma 27), .ref (ma 28), .int 0, .int 0, .int 0, .int 0, .ref (ma 33), .int (-1), .ref (ma 35), .int 0, .int 0])), ((ma 1), .inl (cy 0, 4, .inl (fun _ => 0)))] s.heap.size = A at hD hT ⊢
  have hA : ∀ q : Nat, s.heap.size ≤ q → A q := fun q h => by rw [← hAe]; exact Or.inr h
  have hS : va_S A s.heap s.heap [] := va_S.rf
  have hl0 := lv_entry ([.ref mo, .int n]) (n := 5) (Nat.le_of_ble_eq_true rfl)
  rw [lg_entry_eq]
  generalize (lg_sl ([.ref mo, .int n]) ++ List.replicate (5 - (lg_sl ([.ref mo, .int n])).length) Slot.unset).toArray = ls at hl0 ⊢
  have hlv : lv_has ls 5 [(0, .ref mo), (1, .int n)] := hl0
  have lf1 := hts (.fieldLink RX12 1 "KerbSplashModel" "thrown" "I") (List.mem_of_getElem? (i := 1) rfl)
  have hi12 : ∀ w ∈ wsX120, w ∈ vs_m_streetx := fun w h => List.mem_cons_of_mem _ (List.mem_append_right _ (List.mem_append_left _ h))
  have gg_1 : GoodIn vs_m_streetx (wsV RX12 175 RX12 yX12_may vs_c_may0_2) := goodIn_sub (fun w h => List.mem_cons_of_mem _ (List.mem_append_right _ (List.mem_append_right _ (List.mem_append_left _ h)))) (by decide +kernel)
  have lf77 := hts (.fieldLink RX12 77 "KerbSplashModel" "taped" "I") (List.mem_of_getElem? (i := 2) rfl)
  refine lv_aload_n hx hb dX12_street_0 rfl (lv_at hlv 0 rfl) ?_
  refine lv_iconst (v := 0) hx hb dX12_street_1 (by decide) ?_
  refine va_put (D := D) (ci := 12) (v := .int 0) (ty := .int) (C := RX12) (T := TX12) (N := 38) hx hb hts hi12 tyX12 tyX12_ok nmX12 hown hG.1 hP hD hS 0 rfl rfl 0 (by decide) lf1 (fun _ h9 => h9) rfl (by decide +kernel) rfl rfl (Nat.le_of_ble_eq_true rfl) dX12_street_2 (fun H locs hP hD hS => ?_)
  have hP : va_P D vwCl [(mo, .inr (12, [.int 0, .ref (ma 1), .int 0, .int 0, .int 0, .int 0, .int 0, .int 0, .int (-1), .ref (ma 9), .ref (ma 10), .ref (ma 11), .ref (ma 12), .ref (ma 13), .ref (ma 14), .ref (ma 15), .int 0, .int 0, .int 0, .ref (ma 19), .ref (ma 20), .ref (ma 21), .int 0, .ref (ma 23), .ref (ma 24), .ref (ma 25), .ref (ma 26), .ref (ma 27), .ref (ma 28), .int 0, .int 0, .int 0, .int 0, .ref (ma 33), .int (-1), .ref (ma 35), .int 0, .int 0])), ((ma 1), .inl (cy 0, 4, .inl (fun _ => 0)))] H := hP
  have hD : va_D A [(mo, .inr (12, [.int 0, .ref (ma 1), .int 0, .int 0, .int 0, .int 0, .int 0, .int 0, .int (-1), .ref (ma 9), .ref (ma 10), .ref (ma 11), .ref (ma 12), .ref (ma 13), .ref (ma 14), .ref (ma 15), .int 0, .int 0, .int 0, .ref (ma 19), .ref (ma 20), .ref (ma 21), .int 0, .ref (ma 23), .ref (ma 24), .ref (ma 25), .ref (ma 26), .ref (ma 27), .ref (ma 28), .int 0, .int 0, .int 0, .int 0, .ref (ma 33), .int (-1), .ref (ma 35), .int 0, .int 0])), ((ma 1), .inl (cy 0, 4, .inl (fun _ => 0)))] := hD
  refine lv_aload_n hx hb dX12_street_5 rfl (lv_at hlv 0 rfl) ?_
  refine lv_iload_n hx hb dX12_street_6 rfl (lv_at hlv 1 rfl) ?_
  refine lv_if_lt (tgt := 22) hx hb dX12_street_7 (by decide) (fun c_1 => ?_) (fun c_1 => ?_)
  · refine lv_iconst (v := 0) hx hb dX12_street_22 (by decide) ?_
    refine lv_iconst (v := 1) hx hb dX12_street_23 (by decide) ?_
    refine lv_iconst (v := 2) hx hb dX12_street_24 (by decide) ?_
    refine cj_i (wr := []) (va_runV (As := [.int 0, .int 1, .int 2]) (rest := []) ⟨hx, hb, hml, hown, hts⟩ (c_may0_2 l hl D cy sa mo ma 1 H.size (by decide)) (cwV 3 hts gg_1 rfl rfl rfl (by decide +kernel) ⟨Nat.le_of_ble_eq_true rfl, Nat.le_of_ble_eq_true rfl⟩) ⟨pcW.blind, (va_recv hG.1 hP (ci := 12) (q0 := 0) rfl rfl), (pcW.mk hP hD hS hA hG hT [0, 1] rfl (by decide))⟩ rfl rfl hlv.1 rfl (lv_room (Nat.le_of_ble_eq_true rfl)) dX12_street_25 ⟨Nat.le_of_ble_eq_true rfl, Nat.le_of_ble_eq_true rfl⟩) hP hD hS hA [0, 1] [] rfl rfl (by decide) (by decide) (fun r1 u1 H locs hw1 hP hD hS => ?_)
    obtain rfl := hw1
    have hP : va_P D vwCl [(mo, .inr (12, [.int 1, .ref (ma 1), .int 0, .int 0, .int 0, .int 0, .int 0, .int 0, .int (-1), .ref (ma 9), .ref (ma 10), .ref (ma 11), .ref (ma 12), .ref (ma 13), .ref (ma 14), .ref (ma 15), .int 0, .int 0, .int 0, .ref (ma 19), .ref (ma 20), .ref (ma 21), .int 0, .ref (ma 23), .ref (ma 24), .ref (ma 25), .ref (ma 26), .ref (ma 27), .ref (ma 28), .int 0, .int 0, .int 0, .int 0, .ref (ma 33), .int (-1), .ref (ma 35), .int 0, .int 0]))] H := hP
    have hD : va_D A [(mo, .inr (12, [.int 1, .ref (ma 1), .int 0, .int 0, .int 0, .int 0, .int 0, .int 0, .int (-1), .ref (ma 9), .ref (ma 10), .ref (ma 11), .ref (ma 12), .ref (ma 13), .ref (ma 14), .ref (ma 15), .int 0, .int 0, .int 0, .ref (ma 19), .ref (ma 20), .ref (ma 21), .int 0, .ref (ma 23), .ref (ma 24), .ref (ma 25), .ref (ma 26), .ref (ma 27), .ref (ma 28), .int 0, .int 0, .int 0, .int 0, .ref (ma 33), .int (-1), .ref (ma 35), .int 0, .int 0]))] := hD
    refine lv_if_ne (tgt := 33) hx hb dX12_street_28 (by decide) (fun c => absurd (by decide) c) (fun _ => ?_)
    refine lv_iconst (v := 0) hx hb dX12_street_31 (by decide) ?_
    refine W.widen (k := 0) (n := 0) (Nat.le_of_ble_eq_true rfl) (Nat.le_of_ble_eq_true rfl) ?_
    exact W.iret (v := 0) hx hb hr (fun t ht hW => ⟨⟨0, ((fun k => ([] : List Nat).getD k 0), (fun k => ([] : List Int32).getD k 0), (fun k => ([] : List (Nat → Int32)).getD k (fun _ => 0))), rfl, (by first | (exact (by rfl))), by rw [ht]; exact hP.sub [0] rfl, hD.sub [0] (by decide) rfl⟩, hS.F ht⟩) hS.2.2 dX12_street_32
  · refine lv_iload_n hx hb dX12_street_10 rfl (lv_at hlv 1 rfl) ?_
    refine lv_aload_n hx hb dX12_street_11 rfl (lv_at hlv 0 rfl) ?_
    refine va_get (D := D) (ci := 12) (v := .int 0) (C := RX12) (T := TX12) (N := 38) hx hb hts hi12 hown hG.1 hP 0 rfl rfl 2 (by decide) lf77 (fun _ h9 => h9) rfl dX12_street_12 ?_
    refine lv_icmp_gt (tgt := 22) hx hb dX12_street_15 (by decide) (fun c_2 => ?_) (fun c_2 => ?_)
    · refine lv_iconst (v := 0) hx hb dX12_street_22 (by decide) ?_
      refine lv_iconst (v := 1) hx hb dX12_street_23 (by decide) ?_
      refine lv_iconst (v := 2) hx hb dX12_street_24 (by decide) ?_
      refine cj_i (wr := []) (va_runV (As := [.int 0, .int 1, .int 2]) (rest := []) ⟨hx, hb, hml, hown, hts⟩ (c_may0_2 l hl D cy sa mo ma 1 H.size (by decide)) (cwV 3 hts gg_1 rfl rfl rfl (by decide +kernel) ⟨Nat.le_of_ble_eq_true rfl, Nat.le_of_ble_eq_true rfl⟩) ⟨pcW.blind, (va_recv hG.1 hP (ci := 12) (q0 := 0) rfl rfl), (pcW.mk hP hD hS hA hG hT [0, 1] rfl (by decide))⟩ rfl rfl hlv.1 rfl (lv_room (Nat.le_of_ble_eq_true rfl)) dX12_street_25 ⟨Nat.le_of_ble_eq_true rfl, Nat.le_of_ble_eq_true rfl⟩) hP hD hS hA [0, 1] [] rfl rfl (by decide) (by decide) (fun r2 u2 H locs hw2 hP hD hS => ?_)
      obtain rfl := hw2
      have hP : va_P D vwCl [(mo, .inr (12, [.int 1, .ref (ma 1), .int 0, .int 0, .int 0, .int 0, .int 0, .int 0, .int (-1), .ref (ma 9), .ref (ma 10), .ref (ma 11), .ref (ma 12), .ref (ma 13), .ref (ma 14), .ref (ma 15), .int 0, .int 0, .int 0, .ref (ma 19), .ref (ma 20), .ref (ma 21), .int 0, .ref (ma 23), .ref (ma 24), .ref (ma 25), .ref (ma 26), .ref (ma 27), .ref (ma 28), .int 0, .int 0, .int 0, .int 0, .ref (ma 33), .int (-1), .ref (ma 35), .int 0, .int 0]))] H := hP
      have hD : va_D A [(mo, .inr (12, [.int 1, .ref (ma 1), .int 0, .int 0, .int 0, .int 0, .int 0, .int 0, .int (-1), .ref (ma 9), .ref (ma 10), .ref (ma 11), .ref (ma 12), .ref (ma 13), .ref (ma 14), .ref (ma 15), .int 0, .int 0, .int 0, .ref (ma 19), .ref (ma 20), .ref (ma 21), .int 0, .ref (ma 23), .ref (ma 24), .ref (ma 25), .ref (ma 26), .ref (ma 27), .ref (ma 28), .int 0, .int 0, .int 0, .int 0, .ref (ma 33), .int (-1), .ref (ma 35), .int 0, .int 0]))] := hD
      refine lv_if_ne (tgt := 33) hx hb dX12_street_28 (by decide) (fun c => absurd (by decide) c) (fun _ => ?_)
      refine lv_iconst (v := 0) hx hb dX12_street_31 (by decide) ?_
      refine W.widen (k := 0) (n := 0) (Nat.le_of_ble_eq_true rfl) (Nat.le_of_ble_eq_true rfl) ?_
      exact W.iret (v := 0) hx hb hr (fun t ht hW => ⟨⟨0, ((fun k => ([] : List Nat).getD k 0), (fun k => ([] : List Int32).getD k 0), (fun k => ([] : List (Nat → Int32)).getD k (fun _ => 0))), rfl, (by first | (exact (by rfl))), by rw [ht]; exact hP.sub [0] rfl, hD.sub [0] (by decide) rfl⟩, hS.F ht⟩) hS.2.2 dX12_street_32
    · exact absurd (⟨Int32.not_lt.mp (by assumption), Int32.not_lt.mp (by assumption)⟩ : 0 ≤ n ∧ n ≤ 0) hn
def vs_m_rainx : List Cond := .code yX12_rain cX12_rain 4 (some .int) :: (([.fieldLink RX12 1 "KerbSplashModel" "thrown" "I", .fieldLink RX12 77 "KerbSplashModel" "taped" "I"] : List Cond) ++ ((wsX120) ++ ((wsV RX12 175 RX12 yX12_may vs_c_may0_2) ++ ([]))))
set_option maxHeartbeats 4000000 in
set_option maxRecDepth 100000 in
theorem m_rainx (l : Launch) (hl : l.stackTraces = false) (D : va_G) (cy : Nat → ClassId) (sa : Nat → Nat) (mo : Nat) (ma : Nat → Nat) (n : Int32) (sz : Nat) (hn : ¬ (0 ≤ n ∧ n ≤ 0)) : Met l yX12_rain vs_m_rainx ({ frames := 1, cells := 0, slots := 0, locals := 23 }) (va_Pc [.ref mo, .int n] (pcW D cy sa sz [(mo, .inr (12, [.int 0, .ref (ma 1), .int 0, .int 0, .int 0, .int 0, .int 0, .int 0, .int (-1), .ref (ma 9), .ref (ma 10), .ref (ma 11), .ref (ma 12), .ref (ma 13), .ref (ma 14), .ref (ma 15), .int 0, .int 0, .int 0, .ref (ma 19), .ref (ma 20), .ref (ma 21), .int 0, .ref (ma 23), .ref (ma 24), .ref (ma 25), .ref (ma 26), .ref (ma 27), .ref (ma 28), .int 0, .int 0, .int 0, .int 0, .ref (ma 33), .int (-1), .ref (ma 35), .int 0, .int 0])), ((ma 1), .inl (cy 0, 4, .inl (fun _ => 0)))])) (va_Qi (fun (r : Int32) (u : SU) => (r = 0)) (fun u t => atW D (va_A [(mo, .inr (12, [.int 0, .ref (ma 1), .int 0, .int 0, .int 0, .int 0, .int 0, .int 0, .int (-1), .ref (ma 9), .ref (ma 10), .ref (ma 11), .ref (ma 12), .ref (ma 13), .ref (ma 14), .ref (ma 15), .int 0, .int 0, .int 0, .ref (ma 19), .ref (ma 20), .ref (ma 21), .int 0, .ref (ma 23), .ref (ma 24), .ref (ma 25), .ref (ma 26), .ref (ma 27), .ref (ma 28), .int 0, .int 0, .int 0, .int 0, .ref (ma 33), .int (-1), .ref (ma 35), .int 0, .int 0])), ((ma 1), .inl (cy 0, 4, .inl (fun _ => 0)))] sz) [(mo, .inr (12, [.int 1, .ref (ma 1), .int 0, .int 0, .int 0, .int 0, .int 0, .int 0, .int (-1), .ref (ma 9), .ref (ma 10), .ref (ma 11), .ref (ma 12), .ref (ma 13), .ref (ma 14), .ref (ma 15), .int 0, .int 0, .int 0, .ref (ma 19), .ref (ma 20), .ref (ma 21), .int 0, .ref (ma 23), .ref (ma 24), .ref (ma 25), .ref (ma 26), .ref (ma 27), .ref (ma 28), .int 0, .int 0, .int 0, .int 0, .ref (ma 33), .int (-1), .ref (ma 35), .int 0, .int 0]))] t) (va_A [(mo, .inr (12, [.int 0, .ref (ma 1), .int 0, .int 0, .int 0, .int 0, .int 0, .int 0, .int (-1), .ref (ma 9), .ref (ma 10), .ref (ma 11), .ref (ma 12), .ref (ma 13), .ref (ma 14), .ref (ma 15), .int 0, .int 0, .int 0, .ref (ma 19), .ref (ma 20), .ref (ma 21), .int 0, .ref (ma 23), .ref (ma 24), .ref (ma 25), .ref (ma 26), .ref (ma 27), .ref (ma 28), .int 0, .int 0, .int 0, .int 0, .ref (ma 33), .int (-1), .ref (ma 35), .int 0, .int 0])), ((ma 1), .inl (cy 0, 4, .inl (fun _ => 0)))] sz)) 0 0 (va_A [(mo, .inr (12, [.int 0, .ref (ma 1), .int 0, .int 0, .int 0, .int 0, .int 0, .int 0, .int (-1), .ref (ma 9), .ref (ma 10), .ref (ma 11), .ref (ma 12), .ref (ma 13), .ref (ma 14), .ref (ma 15), .int 0, .int 0, .int 0, .ref (ma 19), .ref (ma 20), .ref (ma 21), .int 0, .ref (ma 23), .ref (ma 24), .ref (ma 25), .ref (ma 26), .ref (ma 27), .ref (ma 28), .int 0, .int 0, .int 0, .int 0, .ref (ma 33), .int (-1), .ref (ma 35), .int 0, .int 0])), ((ma 1), .inl (cy 0, 4, .inl (fun _ => 0)))] sz) := by
  refine Met.ofW (cc := cX12_rain) (maxL := 4) (ret := (some .int)) (by decide) rfl ?_
  intro p e s m args below meth c s₁ B hml hv
  obtain ⟨rfl, hsz, hP, hG, hD0, hT⟩ := hv
  have hx := B.exec
  have hb := B.bytes
  have hr := B.returns
  have hts := atoms_spec (ws := vs_m_rainx) B.pre
  have hown : s.vm.findClass RX12 = some m.cls := findClass_of_methodNamed B.named
  have hlocks := B.notSynchronized
  subst hsz
  have hD := hD0.self (sz := s.heap.size)
  generalize hAe : va_A [(mo, .inr (12, [.int 0, .ref (ma 1), .int 0, .int 0, .int 0, .int 0, .int 0, .int 0, .int (-1), .ref (ma 9), .ref (ma 10), .ref (ma 11), .ref (ma 12), .ref (ma 13), .ref (ma 14), .ref (ma 15), .int 0, .int 0, .int 0, .ref (ma 19), .ref (ma 20), .ref (ma 21), .int 0, .ref (ma 23), .ref (ma 24), .ref (ma 25), .ref (ma 26), .ref (ma 27), .ref (ma 28), .int 0, .int 0, .int 0, .int 0, .ref (ma 33), .int (-1), .ref (ma 35), .int 0, .int 0])), ((ma 1), .inl (cy 0, 4, .inl (fun _ => 0)))] s.heap.size = A at hD hT ⊢
  have hA : ∀ q : Nat, s.heap.size ≤ q → A q := fun q h => by rw [← hAe]; exact Or.inr h
  have hS : va_S A s.heap s.heap [] := va_S.rf
  have hl0 := lv_entry ([.ref mo, .int n]) (n := 4) (Nat.le_of_ble_eq_true rfl)
  rw [lg_entry_eq]
  generalize (lg_sl ([.ref mo, .int n]) ++ List.replicate (4 - (lg_sl ([.ref mo, .int n])).length) Slot.unset).toArray = ls at hl0 ⊢
  have hlv : lv_has ls 4 [(0, .ref mo), (1, .int n)] := hl0
  have lf1 := hts (.fieldLink RX12 1 "KerbSplashModel" "thrown" "I") (List.mem_of_getElem? (i := 1) rfl)
  have hi12 : ∀ w ∈ wsX120, w ∈ vs_m_rainx := fun w h => List.mem_cons_of_mem _ (List.mem_append_right _ (List.mem_append_left _ h))
  have gg_1 : GoodIn vs_m_rainx (wsV RX12 175 RX12 yX12_may vs_c_may0_2) := goodIn_sub (fun w h => List.mem_cons_of_mem _ (List.mem_append_right _ (List.mem_append_right _ (List.mem_append_left _ h)))) (by decide +kernel)
  have lf77 := hts (.fieldLink RX12 77 "KerbSplashModel" "taped" "I") (List.mem_of_getElem? (i := 2) rfl)
  refine lv_aload_n hx hb dX12_rain_0 rfl (lv_at hlv 0 rfl) ?_
  refine lv_iconst (v := 0) hx hb dX12_rain_1 (by decide) ?_
  refine va_put (D := D) (ci := 12) (v := .int 0) (ty := .int) (C := RX12) (T := TX12) (N := 38) hx hb hts hi12 tyX12 tyX12_ok nmX12 hown hG.1 hP hD hS 0 rfl rfl 0 (by decide) lf1 (fun _ h9 => h9) rfl (by decide +kernel) rfl rfl (Nat.le_of_ble_eq_true rfl) dX12_rain_2 (fun H locs hP hD hS => ?_)
  have hP : va_P D vwCl [(mo, .inr (12, [.int 0, .ref (ma 1), .int 0, .int 0, .int 0, .int 0, .int 0, .int 0, .int (-1), .ref (ma 9), .ref (ma 10), .ref (ma 11), .ref (ma 12), .ref (ma 13), .ref (ma 14), .ref (ma 15), .int 0, .int 0, .int 0, .ref (ma 19), .ref (ma 20), .ref (ma 21), .int 0, .ref (ma 23), .ref (ma 24), .ref (ma 25), .ref (ma 26), .ref (ma 27), .ref (ma 28), .int 0, .int 0, .int 0, .int 0, .ref (ma 33), .int (-1), .ref (ma 35), .int 0, .int 0])), ((ma 1), .inl (cy 0, 4, .inl (fun _ => 0)))] H := hP
  have hD : va_D A [(mo, .inr (12, [.int 0, .ref (ma 1), .int 0, .int 0, .int 0, .int 0, .int 0, .int 0, .int (-1), .ref (ma 9), .ref (ma 10), .ref (ma 11), .ref (ma 12), .ref (ma 13), .ref (ma 14), .ref (ma 15), .int 0, .int 0, .int 0, .ref (ma 19), .ref (ma 20), .ref (ma 21), .int 0, .ref (ma 23), .ref (ma 24), .ref (ma 25), .ref (ma 26), .ref (ma 27), .ref (ma 28), .int 0, .int 0, .int 0, .int 0, .ref (ma 33), .int (-1), .ref (ma 35), .int 0, .int 0])), ((ma 1), .inl (cy 0, 4, .inl (fun _ => 0)))] := hD
  refine lv_aload_n hx hb dX12_rain_5 rfl (lv_at hlv 0 rfl) ?_
  refine lv_iload_n hx hb dX12_rain_6 rfl (lv_at hlv 1 rfl) ?_
  refine lv_if_lt (tgt := 22) hx hb dX12_rain_7 (by decide) (fun c_1 => ?_) (fun c_1 => ?_)
  · refine lv_iconst (v := 0) hx hb dX12_rain_22 (by decide) ?_
    refine lv_iconst (v := 1) hx hb dX12_rain_23 (by decide) ?_
    refine lv_iconst (v := 2) hx hb dX12_rain_24 (by decide) ?_
    refine cj_i (wr := []) (va_runV (As := [.int 0, .int 1, .int 2]) (rest := []) ⟨hx, hb, hml, hown, hts⟩ (c_may0_2 l hl D cy sa mo ma 1 H.size (by decide)) (cwV 3 hts gg_1 rfl rfl rfl (by decide +kernel) ⟨Nat.le_of_ble_eq_true rfl, Nat.le_of_ble_eq_true rfl⟩) ⟨pcW.blind, (va_recv hG.1 hP (ci := 12) (q0 := 0) rfl rfl), (pcW.mk hP hD hS hA hG hT [0, 1] rfl (by decide))⟩ rfl rfl hlv.1 rfl (lv_room (Nat.le_of_ble_eq_true rfl)) dX12_rain_25 ⟨Nat.le_of_ble_eq_true rfl, Nat.le_of_ble_eq_true rfl⟩) hP hD hS hA [0, 1] [] rfl rfl (by decide) (by decide) (fun r1 u1 H locs hw1 hP hD hS => ?_)
    obtain rfl := hw1
    have hP : va_P D vwCl [(mo, .inr (12, [.int 1, .ref (ma 1), .int 0, .int 0, .int 0, .int 0, .int 0, .int 0, .int (-1), .ref (ma 9), .ref (ma 10), .ref (ma 11), .ref (ma 12), .ref (ma 13), .ref (ma 14), .ref (ma 15), .int 0, .int 0, .int 0, .ref (ma 19), .ref (ma 20), .ref (ma 21), .int 0, .ref (ma 23), .ref (ma 24), .ref (ma 25), .ref (ma 26), .ref (ma 27), .ref (ma 28), .int 0, .int 0, .int 0, .int 0, .ref (ma 33), .int (-1), .ref (ma 35), .int 0, .int 0]))] H := hP
    have hD : va_D A [(mo, .inr (12, [.int 1, .ref (ma 1), .int 0, .int 0, .int 0, .int 0, .int 0, .int 0, .int (-1), .ref (ma 9), .ref (ma 10), .ref (ma 11), .ref (ma 12), .ref (ma 13), .ref (ma 14), .ref (ma 15), .int 0, .int 0, .int 0, .ref (ma 19), .ref (ma 20), .ref (ma 21), .int 0, .ref (ma 23), .ref (ma 24), .ref (ma 25), .ref (ma 26), .ref (ma 27), .ref (ma 28), .int 0, .int 0, .int 0, .int 0, .ref (ma 33), .int (-1), .ref (ma 35), .int 0, .int 0]))] := hD
    refine lv_if_ne (tgt := 33) hx hb dX12_rain_28 (by decide) (fun c => absurd (by decide) c) (fun _ => ?_)
    refine lv_iconst (v := 0) hx hb dX12_rain_31 (by decide) ?_
    refine W.widen (k := 0) (n := 0) (Nat.le_of_ble_eq_true rfl) (Nat.le_of_ble_eq_true rfl) ?_
    exact W.iret (v := 0) hx hb hr (fun t ht hW => ⟨⟨0, ((fun k => ([] : List Nat).getD k 0), (fun k => ([] : List Int32).getD k 0), (fun k => ([] : List (Nat → Int32)).getD k (fun _ => 0))), rfl, (by first | (exact (by rfl))), by rw [ht]; exact hP.sub [0] rfl, hD.sub [0] (by decide) rfl⟩, hS.F ht⟩) hS.2.2 dX12_rain_32
  · refine lv_iload_n hx hb dX12_rain_10 rfl (lv_at hlv 1 rfl) ?_
    refine lv_aload_n hx hb dX12_rain_11 rfl (lv_at hlv 0 rfl) ?_
    refine va_get (D := D) (ci := 12) (v := .int 0) (C := RX12) (T := TX12) (N := 38) hx hb hts hi12 hown hG.1 hP 0 rfl rfl 2 (by decide) lf77 (fun _ h9 => h9) rfl dX12_rain_12 ?_
    refine lv_icmp_gt (tgt := 22) hx hb dX12_rain_15 (by decide) (fun c_2 => ?_) (fun c_2 => ?_)
    · refine lv_iconst (v := 0) hx hb dX12_rain_22 (by decide) ?_
      refine lv_iconst (v := 1) hx hb dX12_rain_23 (by decide) ?_
      refine lv_iconst (v := 2) hx hb dX12_rain_24 (by decide) ?_
      refine cj_i (wr := []) (va_runV (As := [.int 0, .int 1, .int 2]) (rest := []) ⟨hx, hb, hml, hown, hts⟩ (c_may0_2 l hl D cy sa mo ma 1 H.size (by decide)) (cwV 3 hts gg_1 rfl rfl rfl (by decide +kernel) ⟨Nat.le_of_ble_eq_true rfl, Nat.le_of_ble_eq_true rfl⟩) ⟨pcW.blind, (va_recv hG.1 hP (ci := 12) (q0 := 0) rfl rfl), (pcW.mk hP hD hS hA hG hT [0, 1] rfl (by decide))⟩ rfl rfl hlv.1 rfl (lv_room (Nat.le_of_ble_eq_true rfl)) dX12_rain_25 ⟨Nat.le_of_ble_eq_true rfl, Nat.le_of_ble_eq_true rfl⟩) hP hD hS hA [0, 1] [] rfl rfl (by decide) (by decide) (fun r2 u2 H locs hw2 hP hD hS => ?_)
      obtain rfl := hw2
      have hP : va_P D vwCl [(mo, .inr (12, [.int 1, .ref (ma 1), .int 0, .int 0, .int 0, .int 0, .int 0, .int 0, .int (-1), .ref (ma 9), .ref (ma 10), .ref (ma 11), .ref (ma 12), .ref (ma 13), .ref (ma 14), .ref (ma 15), .int 0, .int 0, .int 0, .ref (ma 19), .ref (ma 20), .ref (ma 21), .int 0, .ref (ma 23), .ref (ma 24), .ref (ma 25), .ref (ma 26), .ref (ma 27), .ref (ma 28), .int 0, .int 0, .int 0, .int 0, .ref (ma 33), .int (-1), .ref (ma 35), .int 0, .int 0]))] H := hP
      have hD : va_D A [(mo, .inr (12, [.int 1, .ref (ma 1), .int 0, .int 0, .int 0, .int 0, .int 0, .int 0, .int (-1), .ref (ma 9), .ref (ma 10), .ref (ma 11), .ref (ma 12), .ref (ma 13), .ref (ma 14), .ref (ma 15), .int 0, .int 0, .int 0, .ref (ma 19), .ref (ma 20), .ref (ma 21), .int 0, .ref (ma 23), .ref (ma 24), .ref (ma 25), .ref (ma 26), .ref (ma 27), .ref (ma 28), .int 0, .int 0, .int 0, .int 0, .ref (ma 33), .int (-1), .ref (ma 35), .int 0, .int 0]))] := hD
      refine lv_if_ne (tgt := 33) hx hb dX12_rain_28 (by decide) (fun c => absurd (by decide) c) (fun _ => ?_)
      refine lv_iconst (v := 0) hx hb dX12_rain_31 (by decide) ?_
      refine W.widen (k := 0) (n := 0) (Nat.le_of_ble_eq_true rfl) (Nat.le_of_ble_eq_true rfl) ?_
      exact W.iret (v := 0) hx hb hr (fun t ht hW => ⟨⟨0, ((fun k => ([] : List Nat).getD k 0), (fun k => ([] : List Int32).getD k 0), (fun k => ([] : List (Nat → Int32)).getD k (fun _ => 0))), rfl, (by first | (exact (by rfl))), by rw [ht]; exact hP.sub [0] rfl, hD.sub [0] (by decide) rfl⟩, hS.F ht⟩) hS.2.2 dX12_rain_32
    · exact absurd (⟨Int32.not_lt.mp (by assumption), Int32.not_lt.mp (by assumption)⟩ : 0 ≤ n ∧ n ≤ 0) hn
def vs_m_lawx : List Cond := .code yX12_law cX12_law 4 (some .int) :: (([.fieldLink RX12 1 "KerbSplashModel" "thrown" "I", .fieldLink RX12 77 "KerbSplashModel" "taped" "I"] : List Cond) ++ ((wsX120) ++ ((wsV RX12 175 RX12 yX12_may vs_c_may0_2) ++ ([]))))
set_option maxHeartbeats 4000000 in
set_option maxRecDepth 100000 in
theorem m_lawx (l : Launch) (hl : l.stackTraces = false) (D : va_G) (cy : Nat → ClassId) (sa : Nat → Nat) (mo : Nat) (ma : Nat → Nat) (n : Int32) (sz : Nat) (hn : ¬ (0 ≤ n ∧ n ≤ 0)) : Met l yX12_law vs_m_lawx ({ frames := 1, cells := 0, slots := 0, locals := 23 }) (va_Pc [.ref mo, .int n] (pcW D cy sa sz [(mo, .inr (12, [.int 0, .ref (ma 1), .int 0, .int 0, .int 0, .int 0, .int 0, .int 0, .int (-1), .ref (ma 9), .ref (ma 10), .ref (ma 11), .ref (ma 12), .ref (ma 13), .ref (ma 14), .ref (ma 15), .int 0, .int 0, .int 0, .ref (ma 19), .ref (ma 20), .ref (ma 21), .int 0, .ref (ma 23), .ref (ma 24), .ref (ma 25), .ref (ma 26), .ref (ma 27), .ref (ma 28), .int 0, .int 0, .int 0, .int 0, .ref (ma 33), .int (-1), .ref (ma 35), .int 0, .int 0])), ((ma 1), .inl (cy 0, 4, .inl (fun _ => 0)))])) (va_Qi (fun (r : Int32) (u : SU) => (r = 0)) (fun u t => atW D (va_A [(mo, .inr (12, [.int 0, .ref (ma 1), .int 0, .int 0, .int 0, .int 0, .int 0, .int 0, .int (-1), .ref (ma 9), .ref (ma 10), .ref (ma 11), .ref (ma 12), .ref (ma 13), .ref (ma 14), .ref (ma 15), .int 0, .int 0, .int 0, .ref (ma 19), .ref (ma 20), .ref (ma 21), .int 0, .ref (ma 23), .ref (ma 24), .ref (ma 25), .ref (ma 26), .ref (ma 27), .ref (ma 28), .int 0, .int 0, .int 0, .int 0, .ref (ma 33), .int (-1), .ref (ma 35), .int 0, .int 0])), ((ma 1), .inl (cy 0, 4, .inl (fun _ => 0)))] sz) [(mo, .inr (12, [.int 1, .ref (ma 1), .int 0, .int 0, .int 0, .int 0, .int 0, .int 0, .int (-1), .ref (ma 9), .ref (ma 10), .ref (ma 11), .ref (ma 12), .ref (ma 13), .ref (ma 14), .ref (ma 15), .int 0, .int 0, .int 0, .ref (ma 19), .ref (ma 20), .ref (ma 21), .int 0, .ref (ma 23), .ref (ma 24), .ref (ma 25), .ref (ma 26), .ref (ma 27), .ref (ma 28), .int 0, .int 0, .int 0, .int 0, .ref (ma 33), .int (-1), .ref (ma 35), .int 0, .int 0]))] t) (va_A [(mo, .inr (12, [.int 0, .ref (ma 1), .int 0, .int 0, .int 0, .int 0, .int 0, .int 0, .int (-1), .ref (ma 9), .ref (ma 10), .ref (ma 11), .ref (ma 12), .ref (ma 13), .ref (ma 14), .ref (ma 15), .int 0, .int 0, .int 0, .ref (ma 19), .ref (ma 20), .ref (ma 21), .int 0, .ref (ma 23), .ref (ma 24), .ref (ma 25), .ref (ma 26), .ref (ma 27), .ref (ma 28), .int 0, .int 0, .int 0, .int 0, .ref (ma 33), .int (-1), .ref (ma 35), .int 0, .int 0])), ((ma 1), .inl (cy 0, 4, .inl (fun _ => 0)))] sz)) 0 0 (va_A [(mo, .inr (12, [.int 0, .ref (ma 1), .int 0, .int 0, .int 0, .int 0, .int 0, .int 0, .int (-1), .ref (ma 9), .ref (ma 10), .ref (ma 11), .ref (ma 12), .ref (ma 13), .ref (ma 14), .ref (ma 15), .int 0, .int 0, .int 0, .ref (ma 19), .ref (ma 20), .ref (ma 21), .int 0, .ref (ma 23), .ref (ma 24), .ref (ma 25), .ref (ma 26), .ref (ma 27), .ref (ma 28), .int 0, .int 0, .int 0, .int 0, .ref (ma 33), .int (-1), .ref (ma 35), .int 0, .int 0])), ((ma 1), .inl (cy 0, 4, .inl (fun _ => 0)))] sz) := by
  refine Met.ofW (cc := cX12_law) (maxL := 4) (ret := (some .int)) (by decide) rfl ?_
  intro p e s m args below meth c s₁ B hml hv
  obtain ⟨rfl, hsz, hP, hG, hD0, hT⟩ := hv
  have hx := B.exec
  have hb := B.bytes
  have hr := B.returns
  have hts := atoms_spec (ws := vs_m_lawx) B.pre
  have hown : s.vm.findClass RX12 = some m.cls := findClass_of_methodNamed B.named
  have hlocks := B.notSynchronized
  subst hsz
  have hD := hD0.self (sz := s.heap.size)
  generalize hAe : va_A [(mo, .inr (12, [.int 0, .ref (ma 1), .int 0, .int 0, .int 0, .int 0, .int 0, .int 0, .int (-1), .ref (ma 9), .ref (ma 10), .ref (ma 11), .ref (ma 12), .ref (ma 13), .ref (ma 14), .ref (ma 15), .int 0, .int 0, .int 0, .ref (ma 19), .ref (ma 20), .ref (ma 21), .int 0, .ref (ma 23), .ref (ma 24), .ref (ma 25), .ref (ma 26), .ref (ma 27), .ref (ma 28), .int 0, .int 0, .int 0, .int 0, .ref (ma 33), .int (-1), .ref (ma 35), .int 0, .int 0])), ((ma 1), .inl (cy 0, 4, .inl (fun _ => 0)))] s.heap.size = A at hD hT ⊢
  have hA : ∀ q : Nat, s.heap.size ≤ q → A q := fun q h => by rw [← hAe]; exact Or.inr h
  have hS : va_S A s.heap s.heap [] := va_S.rf
  have hl0 := lv_entry ([.ref mo, .int n]) (n := 4) (Nat.le_of_ble_eq_true rfl)
  rw [lg_entry_eq]
  generalize (lg_sl ([.ref mo, .int n]) ++ List.replicate (4 - (lg_sl ([.ref mo, .int n])).length) Slot.unset).toArray = ls at hl0 ⊢
  have hlv : lv_has ls 4 [(0, .ref mo), (1, .int n)] := hl0
  have lf1 := hts (.fieldLink RX12 1 "KerbSplashModel" "thrown" "I") (List.mem_of_getElem? (i := 1) rfl)
  have hi12 : ∀ w ∈ wsX120, w ∈ vs_m_lawx := fun w h => List.mem_cons_of_mem _ (List.mem_append_right _ (List.mem_append_left _ h))
  have gg_1 : GoodIn vs_m_lawx (wsV RX12 175 RX12 yX12_may vs_c_may0_2) := goodIn_sub (fun w h => List.mem_cons_of_mem _ (List.mem_append_right _ (List.mem_append_right _ (List.mem_append_left _ h)))) (by decide +kernel)
  have lf77 := hts (.fieldLink RX12 77 "KerbSplashModel" "taped" "I") (List.mem_of_getElem? (i := 2) rfl)
  refine lv_aload_n hx hb dX12_law_0 rfl (lv_at hlv 0 rfl) ?_
  refine lv_iconst (v := 0) hx hb dX12_law_1 (by decide) ?_
  refine va_put (D := D) (ci := 12) (v := .int 0) (ty := .int) (C := RX12) (T := TX12) (N := 38) hx hb hts hi12 tyX12 tyX12_ok nmX12 hown hG.1 hP hD hS 0 rfl rfl 0 (by decide) lf1 (fun _ h9 => h9) rfl (by decide +kernel) rfl rfl (Nat.le_of_ble_eq_true rfl) dX12_law_2 (fun H locs hP hD hS => ?_)
  have hP : va_P D vwCl [(mo, .inr (12, [.int 0, .ref (ma 1), .int 0, .int 0, .int 0, .int 0, .int 0, .int 0, .int (-1), .ref (ma 9), .ref (ma 10), .ref (ma 11), .ref (ma 12), .ref (ma 13), .ref (ma 14), .ref (ma 15), .int 0, .int 0, .int 0, .ref (ma 19), .ref (ma 20), .ref (ma 21), .int 0, .ref (ma 23), .ref (ma 24), .ref (ma 25), .ref (ma 26), .ref (ma 27), .ref (ma 28), .int 0, .int 0, .int 0, .int 0, .ref (ma 33), .int (-1), .ref (ma 35), .int 0, .int 0])), ((ma 1), .inl (cy 0, 4, .inl (fun _ => 0)))] H := hP
  have hD : va_D A [(mo, .inr (12, [.int 0, .ref (ma 1), .int 0, .int 0, .int 0, .int 0, .int 0, .int 0, .int (-1), .ref (ma 9), .ref (ma 10), .ref (ma 11), .ref (ma 12), .ref (ma 13), .ref (ma 14), .ref (ma 15), .int 0, .int 0, .int 0, .ref (ma 19), .ref (ma 20), .ref (ma 21), .int 0, .ref (ma 23), .ref (ma 24), .ref (ma 25), .ref (ma 26), .ref (ma 27), .ref (ma 28), .int 0, .int 0, .int 0, .int 0, .ref (ma 33), .int (-1), .ref (ma 35), .int 0, .int 0])), ((ma 1), .inl (cy 0, 4, .inl (fun _ => 0)))] := hD
  refine lv_aload_n hx hb dX12_law_5 rfl (lv_at hlv 0 rfl) ?_
  refine lv_iload_n hx hb dX12_law_6 rfl (lv_at hlv 1 rfl) ?_
  refine lv_if_lt (tgt := 22) hx hb dX12_law_7 (by decide) (fun c_1 => ?_) (fun c_1 => ?_)
  · refine lv_iconst (v := 0) hx hb dX12_law_22 (by decide) ?_
    refine lv_iconst (v := 1) hx hb dX12_law_23 (by decide) ?_
    refine lv_iconst (v := 2) hx hb dX12_law_24 (by decide) ?_
    refine cj_i (wr := []) (va_runV (As := [.int 0, .int 1, .int 2]) (rest := []) ⟨hx, hb, hml, hown, hts⟩ (c_may0_2 l hl D cy sa mo ma 1 H.size (by decide)) (cwV 3 hts gg_1 rfl rfl rfl (by decide +kernel) ⟨Nat.le_of_ble_eq_true rfl, Nat.le_of_ble_eq_true rfl⟩) ⟨pcW.blind, (va_recv hG.1 hP (ci := 12) (q0 := 0) rfl rfl), (pcW.mk hP hD hS hA hG hT [0, 1] rfl (by decide))⟩ rfl rfl hlv.1 rfl (lv_room (Nat.le_of_ble_eq_true rfl)) dX12_law_25 ⟨Nat.le_of_ble_eq_true rfl, Nat.le_of_ble_eq_true rfl⟩) hP hD hS hA [0, 1] [] rfl rfl (by decide) (by decide) (fun r1 u1 H locs hw1 hP hD hS => ?_)
    obtain rfl := hw1
    have hP : va_P D vwCl [(mo, .inr (12, [.int 1, .ref (ma 1), .int 0, .int 0, .int 0, .int 0, .int 0, .int 0, .int (-1), .ref (ma 9), .ref (ma 10), .ref (ma 11), .ref (ma 12), .ref (ma 13), .ref (ma 14), .ref (ma 15), .int 0, .int 0, .int 0, .ref (ma 19), .ref (ma 20), .ref (ma 21), .int 0, .ref (ma 23), .ref (ma 24), .ref (ma 25), .ref (ma 26), .ref (ma 27), .ref (ma 28), .int 0, .int 0, .int 0, .int 0, .ref (ma 33), .int (-1), .ref (ma 35), .int 0, .int 0]))] H := hP
    have hD : va_D A [(mo, .inr (12, [.int 1, .ref (ma 1), .int 0, .int 0, .int 0, .int 0, .int 0, .int 0, .int (-1), .ref (ma 9), .ref (ma 10), .ref (ma 11), .ref (ma 12), .ref (ma 13), .ref (ma 14), .ref (ma 15), .int 0, .int 0, .int 0, .ref (ma 19), .ref (ma 20), .ref (ma 21), .int 0, .ref (ma 23), .ref (ma 24), .ref (ma 25), .ref (ma 26), .ref (ma 27), .ref (ma 28), .int 0, .int 0, .int 0, .int 0, .ref (ma 33), .int (-1), .ref (ma 35), .int 0, .int 0]))] := hD
    refine lv_if_ne (tgt := 33) hx hb dX12_law_28 (by decide) (fun c => absurd (by decide) c) (fun _ => ?_)
    refine lv_iconst (v := 0) hx hb dX12_law_31 (by decide) ?_
    refine W.widen (k := 0) (n := 0) (Nat.le_of_ble_eq_true rfl) (Nat.le_of_ble_eq_true rfl) ?_
    exact W.iret (v := 0) hx hb hr (fun t ht hW => ⟨⟨0, ((fun k => ([] : List Nat).getD k 0), (fun k => ([] : List Int32).getD k 0), (fun k => ([] : List (Nat → Int32)).getD k (fun _ => 0))), rfl, (by first | (exact (by rfl))), by rw [ht]; exact hP.sub [0] rfl, hD.sub [0] (by decide) rfl⟩, hS.F ht⟩) hS.2.2 dX12_law_32
  · refine lv_iload_n hx hb dX12_law_10 rfl (lv_at hlv 1 rfl) ?_
    refine lv_aload_n hx hb dX12_law_11 rfl (lv_at hlv 0 rfl) ?_
    refine va_get (D := D) (ci := 12) (v := .int 0) (C := RX12) (T := TX12) (N := 38) hx hb hts hi12 hown hG.1 hP 0 rfl rfl 2 (by decide) lf77 (fun _ h9 => h9) rfl dX12_law_12 ?_
    refine lv_icmp_gt (tgt := 22) hx hb dX12_law_15 (by decide) (fun c_2 => ?_) (fun c_2 => ?_)
    · refine lv_iconst (v := 0) hx hb dX12_law_22 (by decide) ?_
      refine lv_iconst (v := 1) hx hb dX12_law_23 (by decide) ?_
      refine lv_iconst (v := 2) hx hb dX12_law_24 (by decide) ?_
      refine cj_i (wr := []) (va_runV (As := [.int 0, .int 1, .int 2]) (rest := []) ⟨hx, hb, hml, hown, hts⟩ (c_may0_2 l hl D cy sa mo ma 1 H.size (by decide)) (cwV 3 hts gg_1 rfl rfl rfl (by decide +kernel) ⟨Nat.le_of_ble_eq_true rfl, Nat.le_of_ble_eq_true rfl⟩) ⟨pcW.blind, (va_recv hG.1 hP (ci := 12) (q0 := 0) rfl rfl), (pcW.mk hP hD hS hA hG hT [0, 1] rfl (by decide))⟩ rfl rfl hlv.1 rfl (lv_room (Nat.le_of_ble_eq_true rfl)) dX12_law_25 ⟨Nat.le_of_ble_eq_true rfl, Nat.le_of_ble_eq_true rfl⟩) hP hD hS hA [0, 1] [] rfl rfl (by decide) (by decide) (fun r2 u2 H locs hw2 hP hD hS => ?_)
      obtain rfl := hw2
      have hP : va_P D vwCl [(mo, .inr (12, [.int 1, .ref (ma 1), .int 0, .int 0, .int 0, .int 0, .int 0, .int 0, .int (-1), .ref (ma 9), .ref (ma 10), .ref (ma 11), .ref (ma 12), .ref (ma 13), .ref (ma 14), .ref (ma 15), .int 0, .int 0, .int 0, .ref (ma 19), .ref (ma 20), .ref (ma 21), .int 0, .ref (ma 23), .ref (ma 24), .ref (ma 25), .ref (ma 26), .ref (ma 27), .ref (ma 28), .int 0, .int 0, .int 0, .int 0, .ref (ma 33), .int (-1), .ref (ma 35), .int 0, .int 0]))] H := hP
      have hD : va_D A [(mo, .inr (12, [.int 1, .ref (ma 1), .int 0, .int 0, .int 0, .int 0, .int 0, .int 0, .int (-1), .ref (ma 9), .ref (ma 10), .ref (ma 11), .ref (ma 12), .ref (ma 13), .ref (ma 14), .ref (ma 15), .int 0, .int 0, .int 0, .ref (ma 19), .ref (ma 20), .ref (ma 21), .int 0, .ref (ma 23), .ref (ma 24), .ref (ma 25), .ref (ma 26), .ref (ma 27), .ref (ma 28), .int 0, .int 0, .int 0, .int 0, .ref (ma 33), .int (-1), .ref (ma 35), .int 0, .int 0]))] := hD
      refine lv_if_ne (tgt := 33) hx hb dX12_law_28 (by decide) (fun c => absurd (by decide) c) (fun _ => ?_)
      refine lv_iconst (v := 0) hx hb dX12_law_31 (by decide) ?_
      refine W.widen (k := 0) (n := 0) (Nat.le_of_ble_eq_true rfl) (Nat.le_of_ble_eq_true rfl) ?_
      exact W.iret (v := 0) hx hb hr (fun t ht hW => ⟨⟨0, ((fun k => ([] : List Nat).getD k 0), (fun k => ([] : List Int32).getD k 0), (fun k => ([] : List (Nat → Int32)).getD k (fun _ => 0))), rfl, (by first | (exact (by rfl))), by rw [ht]; exact hP.sub [0] rfl, hD.sub [0] (by decide) rfl⟩, hS.F ht⟩) hS.2.2 dX12_law_32
    · exact absurd (⟨Int32.not_lt.mp (by assumption), Int32.not_lt.mp (by assumption)⟩ : 0 ≤ n ∧ n ≤ 0) hn
def vs_m_begins : List Cond := .code yX12_begins cX12_begins 2 none :: (([.fieldLink RX12 77 "KerbSplashModel" "taped" "I", .fieldLink RX12 17 "KerbSplashModel" "faultAt" "I", .fieldLink RX12 89 "KerbSplashModel" "size" "I", .fieldLink RX12 86 "KerbSplashModel" "at" "I", .fieldLink RX12 80 "KerbSplashModel" "bad" "I", .fieldLink RX12 120 "KerbSplashModel" "opens" "I"] : List Cond) ++ ((wsX120) ++ ([])))
set_option maxHeartbeats 4000000 in
set_option maxRecDepth 100000 in
theorem m_begins (l : Launch) (hl : l.stackTraces = false) (D : va_G) (cy : Nat → ClassId) (sa : Nat → Nat) (mo : Nat) (ma : Nat → Nat) (sz : Nat) : Met l yX12_begins vs_m_begins ({ frames := 0, cells := 0, slots := 0, locals := 0 }) (va_Pc [.ref mo, .int 0] (pcW D cy sa sz [(mo, .inr (12, [.int 0, .ref (ma 1), .int 0, .int 0, .int 0, .int 0, .int 0, .int 0, .int (-1), .ref (ma 9), .ref (ma 10), .ref (ma 11), .ref (ma 12), .ref (ma 13), .ref (ma 14), .ref (ma 15), .int 0, .int 0, .int 0, .ref (ma 19), .ref (ma 20), .ref (ma 21), .int 0, .ref (ma 23), .ref (ma 24), .ref (ma 25), .ref (ma 26), .ref (ma 27), .ref (ma 28), .int 0, .int 0, .int 0, .int 0, .ref (ma 33), .int (-1), .ref (ma 35), .int 0, .int 0]))])) (va_Qv (fun u : SU => (True)) (fun u t => atW D (va_A [(mo, .inr (12, [.int 0, .ref (ma 1), .int 0, .int 0, .int 0, .int 0, .int 0, .int 0, .int (-1), .ref (ma 9), .ref (ma 10), .ref (ma 11), .ref (ma 12), .ref (ma 13), .ref (ma 14), .ref (ma 15), .int 0, .int 0, .int 0, .ref (ma 19), .ref (ma 20), .ref (ma 21), .int 0, .ref (ma 23), .ref (ma 24), .ref (ma 25), .ref (ma 26), .ref (ma 27), .ref (ma 28), .int 0, .int 0, .int 0, .int 0, .ref (ma 33), .int (-1), .ref (ma 35), .int 0, .int 0]))] sz) [(mo, .inr (12, [.int 0, .ref (ma 1), .int 0, .int 0, .int 0, .int (-1), .int 0, .int 0, .int (-1), .ref (ma 9), .ref (ma 10), .ref (ma 11), .ref (ma 12), .ref (ma 13), .ref (ma 14), .ref (ma 15), .int 0, .int 0, .int 0, .ref (ma 19), .ref (ma 20), .ref (ma 21), .int 0, .ref (ma 23), .ref (ma 24), .ref (ma 25), .ref (ma 26), .ref (ma 27), .ref (ma 28), .int 0, .int 0, .int 0, .int 0, .ref (ma 33), .int (-1), .ref (ma 35), .int 0, .int 0]))] t) (va_A [(mo, .inr (12, [.int 0, .ref (ma 1), .int 0, .int 0, .int 0, .int 0, .int 0, .int 0, .int (-1), .ref (ma 9), .ref (ma 10), .ref (ma 11), .ref (ma 12), .ref (ma 13), .ref (ma 14), .ref (ma 15), .int 0, .int 0, .int 0, .ref (ma 19), .ref (ma 20), .ref (ma 21), .int 0, .ref (ma 23), .ref (ma 24), .ref (ma 25), .ref (ma 26), .ref (ma 27), .ref (ma 28), .int 0, .int 0, .int 0, .int 0, .ref (ma 33), .int (-1), .ref (ma 35), .int 0, .int 0]))] sz)) 0 0 (va_A [(mo, .inr (12, [.int 0, .ref (ma 1), .int 0, .int 0, .int 0, .int 0, .int 0, .int 0, .int (-1), .ref (ma 9), .ref (ma 10), .ref (ma 11), .ref (ma 12), .ref (ma 13), .ref (ma 14), .ref (ma 15), .int 0, .int 0, .int 0, .ref (ma 19), .ref (ma 20), .ref (ma 21), .int 0, .ref (ma 23), .ref (ma 24), .ref (ma 25), .ref (ma 26), .ref (ma 27), .ref (ma 28), .int 0, .int 0, .int 0, .int 0, .ref (ma 33), .int (-1), .ref (ma 35), .int 0, .int 0]))] sz) := by
  refine Met.ofW (cc := cX12_begins) (maxL := 2) (ret := none) (by decide) rfl ?_
  intro p e s m args below meth c s₁ B hml hv
  obtain ⟨rfl, hsz, hP, hG, hD0, hT⟩ := hv
  have hx := B.exec
  have hb := B.bytes
  have hr := B.returns
  have hts := atoms_spec (ws := vs_m_begins) B.pre
  have hown : s.vm.findClass RX12 = some m.cls := findClass_of_methodNamed B.named
  have hlocks := B.notSynchronized
  subst hsz
  have hD := hD0.self (sz := s.heap.size)
  generalize hAe : va_A [(mo, .inr (12, [.int 0, .ref (ma 1), .int 0, .int 0, .int 0, .int 0, .int 0, .int 0, .int (-1), .ref (ma 9), .ref (ma 10), .ref (ma 11), .ref (ma 12), .ref (ma 13), .ref (ma 14), .ref (ma 15), .int 0, .int 0, .int 0, .ref (ma 19), .ref (ma 20), .ref (ma 21), .int 0, .ref (ma 23), .ref (ma 24), .ref (ma 25), .ref (ma 26), .ref (ma 27), .ref (ma 28), .int 0, .int 0, .int 0, .int 0, .ref (ma 33), .int (-1), .ref (ma 35), .int 0, .int 0]))] s.heap.size = A at hD hT ⊢
  have hA : ∀ q : Nat, s.heap.size ≤ q → A q := fun q h => by rw [← hAe]; exact Or.inr h
  have hS : va_S A s.heap s.heap [] := va_S.rf
  have hl0 := lv_entry ([.ref mo, .int 0]) (n := 2) (Nat.le_of_ble_eq_true rfl)
  rw [lg_entry_eq]
  generalize (lg_sl ([.ref mo, .int 0]) ++ List.replicate (2 - (lg_sl ([.ref mo, .int 0])).length) Slot.unset).toArray = ls at hl0 ⊢
  have hlv : lv_has ls 2 [(0, .ref mo), (1, .int 0)] := hl0
  have lf77 := hts (.fieldLink RX12 77 "KerbSplashModel" "taped" "I") (List.mem_of_getElem? (i := 1) rfl)
  have hi12 : ∀ w ∈ wsX120, w ∈ vs_m_begins := fun w h => List.mem_cons_of_mem _ (List.mem_append_right _ (List.mem_append_left _ h))
  have lf17 := hts (.fieldLink RX12 17 "KerbSplashModel" "faultAt" "I") (List.mem_of_getElem? (i := 2) rfl)
  have lf89 := hts (.fieldLink RX12 89 "KerbSplashModel" "size" "I") (List.mem_of_getElem? (i := 3) rfl)
  have lf86 := hts (.fieldLink RX12 86 "KerbSplashModel" "at" "I") (List.mem_of_getElem? (i := 4) rfl)
  have lf80 := hts (.fieldLink RX12 80 "KerbSplashModel" "bad" "I") (List.mem_of_getElem? (i := 5) rfl)
  have lf120 := hts (.fieldLink RX12 120 "KerbSplashModel" "opens" "I") (List.mem_of_getElem? (i := 6) rfl)
  refine lv_aload_n hx hb dX12_begins_0 rfl (lv_at hlv 0 rfl) ?_
  refine lv_iconst (v := 0) hx hb dX12_begins_1 (by decide) ?_
  refine va_put (D := D) (ci := 12) (v := .int 0) (ty := .int) (C := RX12) (T := TX12) (N := 38) hx hb hts hi12 tyX12 tyX12_ok nmX12 hown hG.1 hP hD hS 0 rfl rfl 2 (by decide) lf77 (fun _ h9 => h9) rfl (by decide +kernel) rfl rfl (Nat.le_of_ble_eq_true rfl) dX12_begins_2 (fun H locs hP hD hS => ?_)
  have hP : va_P D vwCl [(mo, .inr (12, [.int 0, .ref (ma 1), .int 0, .int 0, .int 0, .int 0, .int 0, .int 0, .int (-1), .ref (ma 9), .ref (ma 10), .ref (ma 11), .ref (ma 12), .ref (ma 13), .ref (ma 14), .ref (ma 15), .int 0, .int 0, .int 0, .ref (ma 19), .ref (ma 20), .ref (ma 21), .int 0, .ref (ma 23), .ref (ma 24), .ref (ma 25), .ref (ma 26), .ref (ma 27), .ref (ma 28), .int 0, .int 0, .int 0, .int 0, .ref (ma 33), .int (-1), .ref (ma 35), .int 0, .int 0]))] H := hP
  have hD : va_D A [(mo, .inr (12, [.int 0, .ref (ma 1), .int 0, .int 0, .int 0, .int 0, .int 0, .int 0, .int (-1), .ref (ma 9), .ref (ma 10), .ref (ma 11), .ref (ma 12), .ref (ma 13), .ref (ma 14), .ref (ma 15), .int 0, .int 0, .int 0, .ref (ma 19), .ref (ma 20), .ref (ma 21), .int 0, .ref (ma 23), .ref (ma 24), .ref (ma 25), .ref (ma 26), .ref (ma 27), .ref (ma 28), .int 0, .int 0, .int 0, .int 0, .ref (ma 33), .int (-1), .ref (ma 35), .int 0, .int 0]))] := hD
  refine lv_aload_n hx hb dX12_begins_5 rfl (lv_at hlv 0 rfl) ?_
  refine lv_iconst (v := (-1)) hx hb dX12_begins_6 (by decide) ?_
  refine va_put (D := D) (ci := 12) (v := .int (-1)) (ty := .int) (C := RX12) (T := TX12) (N := 38) hx hb hts hi12 tyX12 tyX12_ok nmX12 hown hG.1 hP hD hS 0 rfl rfl 8 (by decide) lf17 (fun _ h9 => h9) rfl (by decide +kernel) rfl rfl (Nat.le_of_ble_eq_true rfl) dX12_begins_7 (fun H locs hP hD hS => ?_)
  have hP : va_P D vwCl [(mo, .inr (12, [.int 0, .ref (ma 1), .int 0, .int 0, .int 0, .int 0, .int 0, .int 0, .int (-1), .ref (ma 9), .ref (ma 10), .ref (ma 11), .ref (ma 12), .ref (ma 13), .ref (ma 14), .ref (ma 15), .int 0, .int 0, .int 0, .ref (ma 19), .ref (ma 20), .ref (ma 21), .int 0, .ref (ma 23), .ref (ma 24), .ref (ma 25), .ref (ma 26), .ref (ma 27), .ref (ma 28), .int 0, .int 0, .int 0, .int 0, .ref (ma 33), .int (-1), .ref (ma 35), .int 0, .int 0]))] H := hP
  have hD : va_D A [(mo, .inr (12, [.int 0, .ref (ma 1), .int 0, .int 0, .int 0, .int 0, .int 0, .int 0, .int (-1), .ref (ma 9), .ref (ma 10), .ref (ma 11), .ref (ma 12), .ref (ma 13), .ref (ma 14), .ref (ma 15), .int 0, .int 0, .int 0, .ref (ma 19), .ref (ma 20), .ref (ma 21), .int 0, .ref (ma 23), .ref (ma 24), .ref (ma 25), .ref (ma 26), .ref (ma 27), .ref (ma 28), .int 0, .int 0, .int 0, .int 0, .ref (ma 33), .int (-1), .ref (ma 35), .int 0, .int 0]))] := hD
  refine lv_aload_n hx hb dX12_begins_10 rfl (lv_at hlv 0 rfl) ?_
  refine lv_iload_n hx hb dX12_begins_11 rfl (lv_at hlv 1 rfl) ?_
  refine va_put (D := D) (ci := 12) (v := .int 0) (ty := .int) (C := RX12) (T := TX12) (N := 38) hx hb hts hi12 tyX12 tyX12_ok nmX12 hown hG.1 hP hD hS 0 rfl rfl 3 (by decide) lf89 (fun _ h9 => h9) rfl (by decide +kernel) rfl rfl (Nat.le_of_ble_eq_true rfl) dX12_begins_12 (fun H locs hP hD hS => ?_)
  have hP : va_P D vwCl [(mo, .inr (12, [.int 0, .ref (ma 1), .int 0, .int 0, .int 0, .int 0, .int 0, .int 0, .int (-1), .ref (ma 9), .ref (ma 10), .ref (ma 11), .ref (ma 12), .ref (ma 13), .ref (ma 14), .ref (ma 15), .int 0, .int 0, .int 0, .ref (ma 19), .ref (ma 20), .ref (ma 21), .int 0, .ref (ma 23), .ref (ma 24), .ref (ma 25), .ref (ma 26), .ref (ma 27), .ref (ma 28), .int 0, .int 0, .int 0, .int 0, .ref (ma 33), .int (-1), .ref (ma 35), .int 0, .int 0]))] H := hP
  have hD : va_D A [(mo, .inr (12, [.int 0, .ref (ma 1), .int 0, .int 0, .int 0, .int 0, .int 0, .int 0, .int (-1), .ref (ma 9), .ref (ma 10), .ref (ma 11), .ref (ma 12), .ref (ma 13), .ref (ma 14), .ref (ma 15), .int 0, .int 0, .int 0, .ref (ma 19), .ref (ma 20), .ref (ma 21), .int 0, .ref (ma 23), .ref (ma 24), .ref (ma 25), .ref (ma 26), .ref (ma 27), .ref (ma 28), .int 0, .int 0, .int 0, .int 0, .ref (ma 33), .int (-1), .ref (ma 35), .int 0, .int 0]))] := hD
  refine lv_aload_n hx hb dX12_begins_15 rfl (lv_at hlv 0 rfl) ?_
  refine lv_iconst (v := 0) hx hb dX12_begins_16 (by decide) ?_
  refine va_put (D := D) (ci := 12) (v := .int 0) (ty := .int) (C := RX12) (T := TX12) (N := 38) hx hb hts hi12 tyX12 tyX12_ok nmX12 hown hG.1 hP hD hS 0 rfl rfl 4 (by decide) lf86 (fun _ h9 => h9) rfl (by decide +kernel) rfl rfl (Nat.le_of_ble_eq_true rfl) dX12_begins_17 (fun H locs hP hD hS => ?_)
  have hP : va_P D vwCl [(mo, .inr (12, [.int 0, .ref (ma 1), .int 0, .int 0, .int 0, .int 0, .int 0, .int 0, .int (-1), .ref (ma 9), .ref (ma 10), .ref (ma 11), .ref (ma 12), .ref (ma 13), .ref (ma 14), .ref (ma 15), .int 0, .int 0, .int 0, .ref (ma 19), .ref (ma 20), .ref (ma 21), .int 0, .ref (ma 23), .ref (ma 24), .ref (ma 25), .ref (ma 26), .ref (ma 27), .ref (ma 28), .int 0, .int 0, .int 0, .int 0, .ref (ma 33), .int (-1), .ref (ma 35), .int 0, .int 0]))] H := hP
  have hD : va_D A [(mo, .inr (12, [.int 0, .ref (ma 1), .int 0, .int 0, .int 0, .int 0, .int 0, .int 0, .int (-1), .ref (ma 9), .ref (ma 10), .ref (ma 11), .ref (ma 12), .ref (ma 13), .ref (ma 14), .ref (ma 15), .int 0, .int 0, .int 0, .ref (ma 19), .ref (ma 20), .ref (ma 21), .int 0, .ref (ma 23), .ref (ma 24), .ref (ma 25), .ref (ma 26), .ref (ma 27), .ref (ma 28), .int 0, .int 0, .int 0, .int 0, .ref (ma 33), .int (-1), .ref (ma 35), .int 0, .int 0]))] := hD
  refine lv_aload_n hx hb dX12_begins_20 rfl (lv_at hlv 0 rfl) ?_
  refine lv_iconst (v := (-1)) hx hb dX12_begins_21 (by decide) ?_
  refine va_put (D := D) (ci := 12) (v := .int (-1)) (ty := .int) (C := RX12) (T := TX12) (N := 38) hx hb hts hi12 tyX12 tyX12_ok nmX12 hown hG.1 hP hD hS 0 rfl rfl 5 (by decide) lf80 (fun _ h9 => h9) rfl (by decide +kernel) rfl rfl (Nat.le_of_ble_eq_true rfl) dX12_begins_22 (fun H locs hP hD hS => ?_)
  have hP : va_P D vwCl [(mo, .inr (12, [.int 0, .ref (ma 1), .int 0, .int 0, .int 0, .int (-1), .int 0, .int 0, .int (-1), .ref (ma 9), .ref (ma 10), .ref (ma 11), .ref (ma 12), .ref (ma 13), .ref (ma 14), .ref (ma 15), .int 0, .int 0, .int 0, .ref (ma 19), .ref (ma 20), .ref (ma 21), .int 0, .ref (ma 23), .ref (ma 24), .ref (ma 25), .ref (ma 26), .ref (ma 27), .ref (ma 28), .int 0, .int 0, .int 0, .int 0, .ref (ma 33), .int (-1), .ref (ma 35), .int 0, .int 0]))] H := hP
  have hD : va_D A [(mo, .inr (12, [.int 0, .ref (ma 1), .int 0, .int 0, .int 0, .int (-1), .int 0, .int 0, .int (-1), .ref (ma 9), .ref (ma 10), .ref (ma 11), .ref (ma 12), .ref (ma 13), .ref (ma 14), .ref (ma 15), .int 0, .int 0, .int 0, .ref (ma 19), .ref (ma 20), .ref (ma 21), .int 0, .ref (ma 23), .ref (ma 24), .ref (ma 25), .ref (ma 26), .ref (ma 27), .ref (ma 28), .int 0, .int 0, .int 0, .int 0, .ref (ma 33), .int (-1), .ref (ma 35), .int 0, .int 0]))] := hD
  refine lv_aload_n hx hb dX12_begins_25 rfl (lv_at hlv 0 rfl) ?_
  refine lv_iconst (v := 0) hx hb dX12_begins_26 (by decide) ?_
  refine va_put (D := D) (ci := 12) (v := .int 0) (ty := .int) (C := RX12) (T := TX12) (N := 38) hx hb hts hi12 tyX12 tyX12_ok nmX12 hown hG.1 hP hD hS 0 rfl rfl 7 (by decide) lf120 (fun _ h9 => h9) rfl (by decide +kernel) rfl rfl (Nat.le_of_ble_eq_true rfl) dX12_begins_27 (fun H locs hP hD hS => ?_)
  have hP : va_P D vwCl [(mo, .inr (12, [.int 0, .ref (ma 1), .int 0, .int 0, .int 0, .int (-1), .int 0, .int 0, .int (-1), .ref (ma 9), .ref (ma 10), .ref (ma 11), .ref (ma 12), .ref (ma 13), .ref (ma 14), .ref (ma 15), .int 0, .int 0, .int 0, .ref (ma 19), .ref (ma 20), .ref (ma 21), .int 0, .ref (ma 23), .ref (ma 24), .ref (ma 25), .ref (ma 26), .ref (ma 27), .ref (ma 28), .int 0, .int 0, .int 0, .int 0, .ref (ma 33), .int (-1), .ref (ma 35), .int 0, .int 0]))] H := hP
  have hD : va_D A [(mo, .inr (12, [.int 0, .ref (ma 1), .int 0, .int 0, .int 0, .int (-1), .int 0, .int 0, .int (-1), .ref (ma 9), .ref (ma 10), .ref (ma 11), .ref (ma 12), .ref (ma 13), .ref (ma 14), .ref (ma 15), .int 0, .int 0, .int 0, .ref (ma 19), .ref (ma 20), .ref (ma 21), .int 0, .ref (ma 23), .ref (ma 24), .ref (ma 25), .ref (ma 26), .ref (ma 27), .ref (ma 28), .int 0, .int 0, .int 0, .int 0, .ref (ma 33), .int (-1), .ref (ma 35), .int 0, .int 0]))] := hD
  refine W.widen (k := 0) (n := 0) (Nat.le_of_ble_eq_true rfl) (Nat.le_of_ble_eq_true rfl) ?_
  exact W.vret hx hb hr (fun t ht hW => ⟨⟨((fun k => ([] : List Nat).getD k 0), (fun k => ([] : List Int32).getD k 0), (fun k => ([] : List (Nat → Int32)).getD k (fun _ => 0))), rfl, (by first | (trivial)), by rw [ht]; exact hP.sub [0] rfl, hD.sub [0] (by decide) rfl⟩, hS.F ht⟩) hS.2.2 dX12_begins_30
def vs_m_fine : List Cond := .code yX12_fine cX12_fine 1 (some .boolean) :: (([.fieldLink RX12 80 "KerbSplashModel" "bad" "I"] : List Cond) ++ ((wsX120) ++ ([])))
set_option maxHeartbeats 4000000 in
set_option maxRecDepth 100000 in
theorem m_fine (l : Launch) (hl : l.stackTraces = false) (D : va_G) (cy : Nat → ClassId) (sa : Nat → Nat) (mo : Nat) (ma : Nat → Nat) (sz : Nat) : Met l yX12_fine vs_m_fine ({ frames := 0, cells := 0, slots := 0, locals := 0 }) (va_Pc [.ref mo] (pcW D cy sa sz [(mo, .inr (12, [.int 0, .ref (ma 1), .int 0, .int 0, .int 0, .int (-1), .int 0, .int 0, .int (-1), .ref (ma 9), .ref (ma 10), .ref (ma 11), .ref (ma 12), .ref (ma 13), .ref (ma 14), .ref (ma 15), .int 0, .int 0, .int 0, .ref (ma 19), .ref (ma 20), .ref (ma 21), .int 0, .ref (ma 23), .ref (ma 24), .ref (ma 25), .ref (ma 26), .ref (ma 27), .ref (ma 28), .int 0, .int 0, .int 0, .int 0, .ref (ma 33), .int (-1), .ref (ma 35), .int 0, .int 0]))])) (va_Qi (fun (r : Int32) (u : SU) => (r = 1)) (fun u t => atW D (va_A [(mo, .inr (12, [.int 0, .ref (ma 1), .int 0, .int 0, .int 0, .int (-1), .int 0, .int 0, .int (-1), .ref (ma 9), .ref (ma 10), .ref (ma 11), .ref (ma 12), .ref (ma 13), .ref (ma 14), .ref (ma 15), .int 0, .int 0, .int 0, .ref (ma 19), .ref (ma 20), .ref (ma 21), .int 0, .ref (ma 23), .ref (ma 24), .ref (ma 25), .ref (ma 26), .ref (ma 27), .ref (ma 28), .int 0, .int 0, .int 0, .int 0, .ref (ma 33), .int (-1), .ref (ma 35), .int 0, .int 0]))] sz) [(mo, .inr (12, [.int 0, .ref (ma 1), .int 0, .int 0, .int 0, .int (-1), .int 0, .int 0, .int (-1), .ref (ma 9), .ref (ma 10), .ref (ma 11), .ref (ma 12), .ref (ma 13), .ref (ma 14), .ref (ma 15), .int 0, .int 0, .int 0, .ref (ma 19), .ref (ma 20), .ref (ma 21), .int 0, .ref (ma 23), .ref (ma 24), .ref (ma 25), .ref (ma 26), .ref (ma 27), .ref (ma 28), .int 0, .int 0, .int 0, .int 0, .ref (ma 33), .int (-1), .ref (ma 35), .int 0, .int 0]))] t) (va_A [(mo, .inr (12, [.int 0, .ref (ma 1), .int 0, .int 0, .int 0, .int (-1), .int 0, .int 0, .int (-1), .ref (ma 9), .ref (ma 10), .ref (ma 11), .ref (ma 12), .ref (ma 13), .ref (ma 14), .ref (ma 15), .int 0, .int 0, .int 0, .ref (ma 19), .ref (ma 20), .ref (ma 21), .int 0, .ref (ma 23), .ref (ma 24), .ref (ma 25), .ref (ma 26), .ref (ma 27), .ref (ma 28), .int 0, .int 0, .int 0, .int 0, .ref (ma 33), .int (-1), .ref (ma 35), .int 0, .int 0]))] sz)) 0 0 (va_A [(mo, .inr (12, [.int 0, .ref (ma 1), .int 0, .int 0, .int 0, .int (-1), .int 0, .int 0, .int (-1), .ref (ma 9), .ref (ma 10), .ref (ma 11), .ref (ma 12), .ref (ma 13), .ref (ma 14), .ref (ma 15), .int 0, .int 0, .int 0, .ref (ma 19), .ref (ma 20), .ref (ma 21), .int 0, .ref (ma 23), .ref (ma 24), .ref (ma 25), .ref (ma 26), .ref (ma 27), .ref (ma 28), .int 0, .int 0, .int 0, .int 0, .ref (ma 33), .int (-1), .ref (ma 35), .int 0, .int 0]))] sz) := by
  refine Met.ofW (cc := cX12_fine) (maxL := 1) (ret := (some .boolean)) (by decide) rfl ?_
  intro p e s m args below meth c s₁ B hml hv
  obtain ⟨rfl, hsz, hP, hG, hD0, hT⟩ := hv
  have hx := B.exec
  have hb := B.bytes
  have hr := B.returns
  have hts := atoms_spec (ws := vs_m_fine) B.pre
  have hown : s.vm.findClass RX12 = some m.cls := findClass_of_methodNamed B.named
  have hlocks := B.notSynchronized
  subst hsz
  have hD := hD0.self (sz := s.heap.size)
  generalize hAe : va_A [(mo, .inr (12, [.int 0, .ref (ma 1), .int 0, .int 0, .int 0, .int (-1), .int 0, .int 0, .int (-1), .ref (ma 9), .ref (ma 10), .ref (ma 11), .ref (ma 12), .ref (ma 13), .ref (ma 14), .ref (ma 15), .int 0, .int 0, .int 0, .ref (ma 19), .ref (ma 20), .ref (ma 21), .int 0, .ref (ma 23), .ref (ma 24), .ref (ma 25), .ref (ma 26), .ref (ma 27), .ref (ma 28), .int 0, .int 0, .int 0, .int 0, .ref (ma 33), .int (-1), .ref (ma 35), .int 0, .int 0]))] s.heap.size = A at hD hT ⊢
  have hA : ∀ q : Nat, s.heap.size ≤ q → A q := fun q h => by rw [← hAe]; exact Or.inr h
  have hS : va_S A s.heap s.heap [] := va_S.rf
  have hl0 := lv_entry ([.ref mo]) (n := 1) (Nat.le_of_ble_eq_true rfl)
  rw [lg_entry_eq]
  generalize (lg_sl ([.ref mo]) ++ List.replicate (1 - (lg_sl ([.ref mo])).length) Slot.unset).toArray = ls at hl0 ⊢
  have hlv : lv_has ls 1 [(0, .ref mo)] := hl0
  have lf80 := hts (.fieldLink RX12 80 "KerbSplashModel" "bad" "I") (List.mem_of_getElem? (i := 1) rfl)
  have hi12 : ∀ w ∈ wsX120, w ∈ vs_m_fine := fun w h => List.mem_cons_of_mem _ (List.mem_append_right _ (List.mem_append_left _ h))
  refine lv_aload_n hx hb dX12_fine_0 rfl (lv_at hlv 0 rfl) ?_
  refine va_get (D := D) (ci := 12) (v := .int (-1)) (C := RX12) (T := TX12) (N := 38) hx hb hts hi12 hown hG.1 hP 0 rfl rfl 5 (by decide) lf80 (fun _ h9 => h9) rfl dX12_fine_1 ?_
  refine lv_iconst (v := (-1)) hx hb dX12_fine_4 (by decide) ?_
  refine lv_icmp_ne (tgt := 12) hx hb dX12_fine_5 (by decide) (fun c => absurd (by decide) c) (fun _ => ?_)
  refine lv_iconst (v := 1) hx hb dX12_fine_8 (by decide) ?_
  refine lv_goto (tgt := 13) hx hb dX12_fine_9 (by decide) ?_
  refine W.widen (k := 0) (n := 0) (Nat.le_of_ble_eq_true rfl) (Nat.le_of_ble_eq_true rfl) ?_
  exact W.zret (v := 1) hx hb hr (by first | rfl | decide) (fun t ht hW => ⟨⟨1, ((fun k => ([] : List Nat).getD k 0), (fun k => ([] : List Int32).getD k 0), (fun k => ([] : List (Nat → Int32)).getD k (fun _ => 0))), rfl, (by first | (exact (by rfl))), by rw [ht]; exact hP.sub [0] rfl, hD.sub [0] (by decide) rfl⟩, hS.F ht⟩) hS.2.2 dX12_fine_13
def vs_m_here : List Cond := .code yX12_here cX12_here 1 (some .int) :: (([.fieldLink RX12 86 "KerbSplashModel" "at" "I", .fieldLink RX12 89 "KerbSplashModel" "size" "I"] : List Cond) ++ ((wsX120) ++ ([])))
set_option maxHeartbeats 4000000 in
set_option maxRecDepth 100000 in
theorem m_here (l : Launch) (hl : l.stackTraces = false) (D : va_G) (cy : Nat → ClassId) (sa : Nat → Nat) (mo : Nat) (ma : Nat → Nat) (sz : Nat) : Met l yX12_here vs_m_here ({ frames := 0, cells := 0, slots := 0, locals := 0 }) (va_Pc [.ref mo] (pcW D cy sa sz [(mo, .inr (12, [.int 0, .ref (ma 1), .int 0, .int 0, .int 0, .int (-1), .int 0, .int 0, .int (-1), .ref (ma 9), .ref (ma 10), .ref (ma 11), .ref (ma 12), .ref (ma 13), .ref (ma 14), .ref (ma 15), .int 0, .int 0, .int 0, .ref (ma 19), .ref (ma 20), .ref (ma 21), .int 0, .ref (ma 23), .ref (ma 24), .ref (ma 25), .ref (ma 26), .ref (ma 27), .ref (ma 28), .int 0, .int 0, .int 0, .int 0, .ref (ma 33), .int (-1), .ref (ma 35), .int 0, .int 0]))])) (va_Qi (fun (r : Int32) (u : SU) => (r = 0)) (fun u t => atW D (va_A [(mo, .inr (12, [.int 0, .ref (ma 1), .int 0, .int 0, .int 0, .int (-1), .int 0, .int 0, .int (-1), .ref (ma 9), .ref (ma 10), .ref (ma 11), .ref (ma 12), .ref (ma 13), .ref (ma 14), .ref (ma 15), .int 0, .int 0, .int 0, .ref (ma 19), .ref (ma 20), .ref (ma 21), .int 0, .ref (ma 23), .ref (ma 24), .ref (ma 25), .ref (ma 26), .ref (ma 27), .ref (ma 28), .int 0, .int 0, .int 0, .int 0, .ref (ma 33), .int (-1), .ref (ma 35), .int 0, .int 0]))] sz) [(mo, .inr (12, [.int 0, .ref (ma 1), .int 0, .int 0, .int 0, .int (-1), .int 0, .int 0, .int (-1), .ref (ma 9), .ref (ma 10), .ref (ma 11), .ref (ma 12), .ref (ma 13), .ref (ma 14), .ref (ma 15), .int 0, .int 0, .int 0, .ref (ma 19), .ref (ma 20), .ref (ma 21), .int 0, .ref (ma 23), .ref (ma 24), .ref (ma 25), .ref (ma 26), .ref (ma 27), .ref (ma 28), .int 0, .int 0, .int 0, .int 0, .ref (ma 33), .int (-1), .ref (ma 35), .int 0, .int 0]))] t) (va_A [(mo, .inr (12, [.int 0, .ref (ma 1), .int 0, .int 0, .int 0, .int (-1), .int 0, .int 0, .int (-1), .ref (ma 9), .ref (ma 10), .ref (ma 11), .ref (ma 12), .ref (ma 13), .ref (ma 14), .ref (ma 15), .int 0, .int 0, .int 0, .ref (ma 19), .ref (ma 20), .ref (ma 21), .int 0, .ref (ma 23), .ref (ma 24), .ref (ma 25), .ref (ma 26), .ref (ma 27), .ref (ma 28), .int 0, .int 0, .int 0, .int 0, .ref (ma 33), .int (-1), .ref (ma 35), .int 0, .int 0]))] sz)) 0 0 (va_A [(mo, .inr (12, [.int 0, .ref (ma 1), .int 0, .int 0, .int 0, .int (-1), .int 0, .int 0, .int (-1), .ref (ma 9), .ref (ma 10), .ref (ma 11), .ref (ma 12), .ref (ma 13), .ref (ma 14), .ref (ma 15), .int 0, .int 0, .int 0, .ref (ma 19), .ref (ma 20), .ref (ma 21), .int 0, .ref (ma 23), .ref (ma 24), .ref (ma 25), .ref (ma 26), .ref (ma 27), .ref (ma 28), .int 0, .int 0, .int 0, .int 0, .ref (ma 33), .int (-1), .ref (ma 35), .int 0, .int 0]))] sz) := by
  refine Met.ofW (cc := cX12_here) (maxL := 1) (ret := (some .int)) (by decide) rfl ?_
  intro p e s m args below meth c s₁ B hml hv
  obtain ⟨rfl, hsz, hP, hG, hD0, hT⟩ := hv
  have hx := B.exec
  have hb := B.bytes
  have hr := B.returns
  have hts := atoms_spec (ws := vs_m_here) B.pre
  have hown : s.vm.findClass RX12 = some m.cls := findClass_of_methodNamed B.named
  have hlocks := B.notSynchronized
  subst hsz
  have hD := hD0.self (sz := s.heap.size)
  generalize hAe : va_A [(mo, .inr (12, [.int 0, .ref (ma 1), .int 0, .int 0, .int 0, .int (-1), .int 0, .int 0, .int (-1), .ref (ma 9), .ref (ma 10), .ref (ma 11), .ref (ma 12), .ref (ma 13), .ref (ma 14), .ref (ma 15), .int 0, .int 0, .int 0, .ref (ma 19), .ref (ma 20), .ref (ma 21), .int 0, .ref (ma 23), .ref (ma 24), .ref (ma 25), .ref (ma 26), .ref (ma 27), .ref (ma 28), .int 0, .int 0, .int 0, .int 0, .ref (ma 33), .int (-1), .ref (ma 35), .int 0, .int 0]))] s.heap.size = A at hD hT ⊢
  have hA : ∀ q : Nat, s.heap.size ≤ q → A q := fun q h => by rw [← hAe]; exact Or.inr h
  have hS : va_S A s.heap s.heap [] := va_S.rf
  have hl0 := lv_entry ([.ref mo]) (n := 1) (Nat.le_of_ble_eq_true rfl)
  rw [lg_entry_eq]
  generalize (lg_sl ([.ref mo]) ++ List.replicate (1 - (lg_sl ([.ref mo])).length) Slot.unset).toArray = ls at hl0 ⊢
  have hlv : lv_has ls 1 [(0, .ref mo)] := hl0
  have lf86 := hts (.fieldLink RX12 86 "KerbSplashModel" "at" "I") (List.mem_of_getElem? (i := 1) rfl)
  have hi12 : ∀ w ∈ wsX120, w ∈ vs_m_here := fun w h => List.mem_cons_of_mem _ (List.mem_append_right _ (List.mem_append_left _ h))
  have lf89 := hts (.fieldLink RX12 89 "KerbSplashModel" "size" "I") (List.mem_of_getElem? (i := 2) rfl)
  refine lv_aload_n hx hb dX12_here_0 rfl (lv_at hlv 0 rfl) ?_
  refine va_get (D := D) (ci := 12) (v := .int 0) (C := RX12) (T := TX12) (N := 38) hx hb hts hi12 hown hG.1 hP 0 rfl rfl 4 (by decide) lf86 (fun _ h9 => h9) rfl dX12_here_1 ?_
  refine lv_aload_n hx hb dX12_here_4 rfl (lv_at hlv 0 rfl) ?_
  refine va_get (D := D) (ci := 12) (v := .int 0) (C := RX12) (T := TX12) (N := 38) hx hb hts hi12 hown hG.1 hP 0 rfl rfl 3 (by decide) lf89 (fun _ h9 => h9) rfl dX12_here_5 ?_
  refine lv_icmp_ge (tgt := 38) hx hb dX12_here_8 (by decide) (fun _ => ?_) (fun c => absurd (by decide) c)
  refine lv_aload_n hx hb dX12_here_38 rfl (lv_at hlv 0 rfl) ?_
  refine va_get (D := D) (ci := 12) (v := .int 0) (C := RX12) (T := TX12) (N := 38) hx hb hts hi12 hown hG.1 hP 0 rfl rfl 4 (by decide) lf86 (fun _ h9 => h9) rfl dX12_here_39 ?_
  refine lv_aload_n hx hb dX12_here_42 rfl (lv_at hlv 0 rfl) ?_
  refine va_get (D := D) (ci := 12) (v := .int 0) (C := RX12) (T := TX12) (N := 38) hx hb hts hi12 hown hG.1 hP 0 rfl rfl 3 (by decide) lf89 (fun _ h9 => h9) rfl dX12_here_43 ?_
  refine lv_icmp_ge (tgt := 61) hx hb dX12_here_46 (by decide) (fun _ => ?_) (fun c => absurd (by decide) c)
  refine lv_iconst (v := 0) hx hb dX12_here_61 (by decide) ?_
  refine W.widen (k := 0) (n := 0) (Nat.le_of_ble_eq_true rfl) (Nat.le_of_ble_eq_true rfl) ?_
  exact W.iret (v := 0) hx hb hr (fun t ht hW => ⟨⟨0, ((fun k => ([] : List Nat).getD k 0), (fun k => ([] : List Int32).getD k 0), (fun k => ([] : List (Nat → Int32)).getD k (fun _ => 0))), rfl, (by first | (exact (by rfl))), by rw [ht]; exact hP.sub [0] rfl, hD.sub [0] (by decide) rfl⟩, hS.F ht⟩) hS.2.2 dX12_here_62
def vs_m_isMore : List Cond := .code yX12_isMore cX12_isMore 1 (some .boolean) :: (([.fieldLink RX12 86 "KerbSplashModel" "at" "I", .fieldLink RX12 89 "KerbSplashModel" "size" "I"] : List Cond) ++ ((wsV RX12 92 RX12 yX12_here vs_m_here) ++ ((wsX120) ++ ([]))))
set_option maxHeartbeats 4000000 in
set_option maxRecDepth 100000 in
theorem m_isMore (l : Launch) (hl : l.stackTraces = false) (D : va_G) (cy : Nat → ClassId) (sa : Nat → Nat) (mo : Nat) (ma : Nat → Nat) (sz : Nat) : Met l yX12_isMore vs_m_isMore ({ frames := 1, cells := 0, slots := 0, locals := 20 }) (va_Pc [.ref mo] (pcW D cy sa sz [(mo, .inr (12, [.int 0, .ref (ma 1), .int 0, .int 0, .int 0, .int (-1), .int 0, .int 0, .int (-1), .ref (ma 9), .ref (ma 10), .ref (ma 11), .ref (ma 12), .ref (ma 13), .ref (ma 14), .ref (ma 15), .int 0, .int 0, .int 0, .ref (ma 19), .ref (ma 20), .ref (ma 21), .int 0, .ref (ma 23), .ref (ma 24), .ref (ma 25), .ref (ma 26), .ref (ma 27), .ref (ma 28), .int 0, .int 0, .int 0, .int 0, .ref (ma 33), .int (-1), .ref (ma 35), .int 0, .int 0]))])) (va_Qi (fun (r : Int32) (u : SU) => (r = 0)) (fun u t => atW D (va_A [(mo, .inr (12, [.int 0, .ref (ma 1), .int 0, .int 0, .int 0, .int (-1), .int 0, .int 0, .int (-1), .ref (ma 9), .ref (ma 10), .ref (ma 11), .ref (ma 12), .ref (ma 13), .ref (ma 14), .ref (ma 15), .int 0, .int 0, .int 0, .ref (ma 19), .ref (ma 20), .ref (ma 21), .int 0, .ref (ma 23), .ref (ma 24), .ref (ma 25), .ref (ma 26), .ref (ma 27), .ref (ma 28), .int 0, .int 0, .int 0, .int 0, .ref (ma 33), .int (-1), .ref (ma 35), .int 0, .int 0]))] sz) [(mo, .inr (12, [.int 0, .ref (ma 1), .int 0, .int 0, .int 0, .int (-1), .int 0, .int 0, .int (-1), .ref (ma 9), .ref (ma 10), .ref (ma 11), .ref (ma 12), .ref (ma 13), .ref (ma 14), .ref (ma 15), .int 0, .int 0, .int 0, .ref (ma 19), .ref (ma 20), .ref (ma 21), .int 0, .ref (ma 23), .ref (ma 24), .ref (ma 25), .ref (ma 26), .ref (ma 27), .ref (ma 28), .int 0, .int 0, .int 0, .int 0, .ref (ma 33), .int (-1), .ref (ma 35), .int 0, .int 0]))] t) (va_A [(mo, .inr (12, [.int 0, .ref (ma 1), .int 0, .int 0, .int 0, .int (-1), .int 0, .int 0, .int (-1), .ref (ma 9), .ref (ma 10), .ref (ma 11), .ref (ma 12), .ref (ma 13), .ref (ma 14), .ref (ma 15), .int 0, .int 0, .int 0, .ref (ma 19), .ref (ma 20), .ref (ma 21), .int 0, .ref (ma 23), .ref (ma 24), .ref (ma 25), .ref (ma 26), .ref (ma 27), .ref (ma 28), .int 0, .int 0, .int 0, .int 0, .ref (ma 33), .int (-1), .ref (ma 35), .int 0, .int 0]))] sz)) 0 0 (va_A [(mo, .inr (12, [.int 0, .ref (ma 1), .int 0, .int 0, .int 0, .int (-1), .int 0, .int 0, .int (-1), .ref (ma 9), .ref (ma 10), .ref (ma 11), .ref (ma 12), .ref (ma 13), .ref (ma 14), .ref (ma 15), .int 0, .int 0, .int 0, .ref (ma 19), .ref (ma 20), .ref (ma 21), .int 0, .ref (ma 23), .ref (ma 24), .ref (ma 25), .ref (ma 26), .ref (ma 27), .ref (ma 28), .int 0, .int 0, .int 0, .int 0, .ref (ma 33), .int (-1), .ref (ma 35), .int 0, .int 0]))] sz) := by
  refine Met.ofW (cc := cX12_isMore) (maxL := 1) (ret := (some .boolean)) (by decide) rfl ?_
  intro p e s m args below meth c s₁ B hml hv
  obtain ⟨rfl, hsz, hP, hG, hD0, hT⟩ := hv
  have hx := B.exec
  have hb := B.bytes
  have hr := B.returns
  have hts := atoms_spec (ws := vs_m_isMore) B.pre
  have hown : s.vm.findClass RX12 = some m.cls := findClass_of_methodNamed B.named
  have hlocks := B.notSynchronized
  subst hsz
  have hD := hD0.self (sz := s.heap.size)
  generalize hAe : va_A [(mo, .inr (12, [.int 0, .ref (ma 1), .int 0, .int 0, .int 0, .int (-1), .int 0, .int 0, .int (-1), .ref (ma 9), .ref (ma 10), .ref (ma 11), .ref (ma 12), .ref (ma 13), .ref (ma 14), .ref (ma 15), .int 0, .int 0, .int 0, .ref (ma 19), .ref (ma 20), .ref (ma 21), .int 0, .ref (ma 23), .ref (ma 24), .ref (ma 25), .ref (ma 26), .ref (ma 27), .ref (ma 28), .int 0, .int 0, .int 0, .int 0, .ref (ma 33), .int (-1), .ref (ma 35), .int 0, .int 0]))] s.heap.size = A at hD hT ⊢
  have hA : ∀ q : Nat, s.heap.size ≤ q → A q := fun q h => by rw [← hAe]; exact Or.inr h
  have hS : va_S A s.heap s.heap [] := va_S.rf
  have hl0 := lv_entry ([.ref mo]) (n := 1) (Nat.le_of_ble_eq_true rfl)
  rw [lg_entry_eq]
  generalize (lg_sl ([.ref mo]) ++ List.replicate (1 - (lg_sl ([.ref mo])).length) Slot.unset).toArray = ls at hl0 ⊢
  have hlv : lv_has ls 1 [(0, .ref mo)] := hl0
  have gg_0 : GoodIn vs_m_isMore (wsV RX12 92 RX12 yX12_here vs_m_here) := goodIn_sub (fun w h => List.mem_cons_of_mem _ (List.mem_append_right _ (List.mem_append_left _ h))) (by decide +kernel)
  have lf86 := hts (.fieldLink RX12 86 "KerbSplashModel" "at" "I") (List.mem_of_getElem? (i := 1) rfl)
  have hi12 : ∀ w ∈ wsX120, w ∈ vs_m_isMore := fun w h => List.mem_cons_of_mem _ (List.mem_append_right _ (List.mem_append_right _ (List.mem_append_left _ h)))
  have lf89 := hts (.fieldLink RX12 89 "KerbSplashModel" "size" "I") (List.mem_of_getElem? (i := 2) rfl)
  refine lv_aload_n hx hb dX12_isMore_0 rfl (lv_at hlv 0 rfl) ?_
  refine cj_i (wr := []) (va_runV (As := []) (rest := []) ⟨hx, hb, hml, hown, hts⟩ (m_here l hl D cy sa mo ma s.heap.size) (cwV 0 hts gg_0 rfl rfl rfl (by decide +kernel) ⟨Nat.le_of_ble_eq_true rfl, Nat.le_of_ble_eq_true rfl⟩) ⟨pcW.blind, (va_recv hG.1 hP (ci := 12) (q0 := 0) rfl rfl), (pcW.mk hP hD hS hA hG hT [0] rfl (by decide))⟩ rfl rfl hlv.1 rfl (lv_room (Nat.le_of_ble_eq_true rfl)) dX12_isMore_1 ⟨Nat.le_of_ble_eq_true rfl, Nat.le_of_ble_eq_true rfl⟩) hP hD hS hA [0] [] rfl rfl (by decide) (by decide) (fun r1 u1 H locs hw1 hP hD hS => ?_)
  obtain rfl := hw1
  have hP : va_P D vwCl [(mo, .inr (12, [.int 0, .ref (ma 1), .int 0, .int 0, .int 0, .int (-1), .int 0, .int 0, .int (-1), .ref (ma 9), .ref (ma 10), .ref (ma 11), .ref (ma 12), .ref (ma 13), .ref (ma 14), .ref (ma 15), .int 0, .int 0, .int 0, .ref (ma 19), .ref (ma 20), .ref (ma 21), .int 0, .ref (ma 23), .ref (ma 24), .ref (ma 25), .ref (ma 26), .ref (ma 27), .ref (ma 28), .int 0, .int 0, .int 0, .int 0, .ref (ma 33), .int (-1), .ref (ma 35), .int 0, .int 0]))] H := hP
  have hD : va_D A [(mo, .inr (12, [.int 0, .ref (ma 1), .int 0, .int 0, .int 0, .int (-1), .int 0, .int 0, .int (-1), .ref (ma 9), .ref (ma 10), .ref (ma 11), .ref (ma 12), .ref (ma 13), .ref (ma 14), .ref (ma 15), .int 0, .int 0, .int 0, .ref (ma 19), .ref (ma 20), .ref (ma 21), .int 0, .ref (ma 23), .ref (ma 24), .ref (ma 25), .ref (ma 26), .ref (ma 27), .ref (ma 28), .int 0, .int 0, .int 0, .int 0, .ref (ma 33), .int (-1), .ref (ma 35), .int 0, .int 0]))] := hD
  refine lv_pop hx hb dX12_isMore_4 rfl ?_
  refine lv_aload_n hx hb dX12_isMore_5 rfl (lv_at hlv 0 rfl) ?_
  refine va_get (D := D) (ci := 12) (v := .int 0) (C := RX12) (T := TX12) (N := 38) hx hb hts hi12 hown hG.1 hP 0 rfl rfl 4 (by decide) lf86 (fun _ h9 => h9) rfl dX12_isMore_6 ?_
  refine lv_aload_n hx hb dX12_isMore_9 rfl (lv_at hlv 0 rfl) ?_
  refine va_get (D := D) (ci := 12) (v := .int 0) (C := RX12) (T := TX12) (N := 38) hx hb hts hi12 hown hG.1 hP 0 rfl rfl 3 (by decide) lf89 (fun _ h9 => h9) rfl dX12_isMore_10 ?_
  refine lv_icmp_ge (tgt := 20) hx hb dX12_isMore_13 (by decide) (fun _ => ?_) (fun c => absurd (by decide) c)
  refine lv_iconst (v := 0) hx hb dX12_isMore_20 (by decide) ?_
  refine W.widen (k := 0) (n := 0) (Nat.le_of_ble_eq_true rfl) (Nat.le_of_ble_eq_true rfl) ?_
  exact W.zret (v := 0) hx hb hr (by first | rfl | decide) (fun t ht hW => ⟨⟨0, ((fun k => ([] : List Nat).getD k 0), (fun k => ([] : List Int32).getD k 0), (fun k => ([] : List (Nat → Int32)).getD k (fun _ => 0))), rfl, (by first | (exact (by rfl))), by rw [ht]; exact hP.sub [0] rfl, hD.sub [0] (by decide) rfl⟩, hS.F ht⟩) hS.2.2 dX12_isMore_21
def vs_m_result : List Cond := .code yX12_result cX12_result 2 (some .int) :: (([.fieldLink RX12 80 "KerbSplashModel" "bad" "I", .fieldLink RX12 17 "KerbSplashModel" "faultAt" "I"] : List Cond) ++ ((wsX120) ++ ((wsV RX12 109 RX12 yX12_fine vs_m_fine) ++ ([]))))
set_option maxHeartbeats 4000000 in
set_option maxRecDepth 100000 in
theorem m_result (l : Launch) (hl : l.stackTraces = false) (D : va_G) (cy : Nat → ClassId) (sa : Nat → Nat) (mo : Nat) (ma : Nat → Nat) (r0 : Int32) (sz : Nat) : Met l yX12_result vs_m_result ({ frames := 1, cells := 0, slots := 0, locals := 20 }) (va_Pc [.ref mo, .int r0] (pcW D cy sa sz [(mo, .inr (12, [.int 0, .ref (ma 1), .int 0, .int 0, .int 0, .int (-1), .int 0, .int 0, .int (-1), .ref (ma 9), .ref (ma 10), .ref (ma 11), .ref (ma 12), .ref (ma 13), .ref (ma 14), .ref (ma 15), .int 0, .int 0, .int 0, .ref (ma 19), .ref (ma 20), .ref (ma 21), .int 0, .ref (ma 23), .ref (ma 24), .ref (ma 25), .ref (ma 26), .ref (ma 27), .ref (ma 28), .int 0, .int 0, .int 0, .int 0, .ref (ma 33), .int (-1), .ref (ma 35), .int 0, .int 0]))])) (va_Qi (fun (r : Int32) (u : SU) => (r = r0)) (fun u t => atW D (va_A [(mo, .inr (12, [.int 0, .ref (ma 1), .int 0, .int 0, .int 0, .int (-1), .int 0, .int 0, .int (-1), .ref (ma 9), .ref (ma 10), .ref (ma 11), .ref (ma 12), .ref (ma 13), .ref (ma 14), .ref (ma 15), .int 0, .int 0, .int 0, .ref (ma 19), .ref (ma 20), .ref (ma 21), .int 0, .ref (ma 23), .ref (ma 24), .ref (ma 25), .ref (ma 26), .ref (ma 27), .ref (ma 28), .int 0, .int 0, .int 0, .int 0, .ref (ma 33), .int (-1), .ref (ma 35), .int 0, .int 0]))] sz) [(mo, .inr (12, [.int 0, .ref (ma 1), .int 0, .int 0, .int 0, .int (-1), .int 0, .int 0, .int (-1), .ref (ma 9), .ref (ma 10), .ref (ma 11), .ref (ma 12), .ref (ma 13), .ref (ma 14), .ref (ma 15), .int 0, .int 0, .int 0, .ref (ma 19), .ref (ma 20), .ref (ma 21), .int 0, .ref (ma 23), .ref (ma 24), .ref (ma 25), .ref (ma 26), .ref (ma 27), .ref (ma 28), .int 0, .int 0, .int 0, .int 0, .ref (ma 33), .int (-1), .ref (ma 35), .int 0, .int 0]))] t) (va_A [(mo, .inr (12, [.int 0, .ref (ma 1), .int 0, .int 0, .int 0, .int (-1), .int 0, .int 0, .int (-1), .ref (ma 9), .ref (ma 10), .ref (ma 11), .ref (ma 12), .ref (ma 13), .ref (ma 14), .ref (ma 15), .int 0, .int 0, .int 0, .ref (ma 19), .ref (ma 20), .ref (ma 21), .int 0, .ref (ma 23), .ref (ma 24), .ref (ma 25), .ref (ma 26), .ref (ma 27), .ref (ma 28), .int 0, .int 0, .int 0, .int 0, .ref (ma 33), .int (-1), .ref (ma 35), .int 0, .int 0]))] sz)) 0 0 (va_A [(mo, .inr (12, [.int 0, .ref (ma 1), .int 0, .int 0, .int 0, .int (-1), .int 0, .int 0, .int (-1), .ref (ma 9), .ref (ma 10), .ref (ma 11), .ref (ma 12), .ref (ma 13), .ref (ma 14), .ref (ma 15), .int 0, .int 0, .int 0, .ref (ma 19), .ref (ma 20), .ref (ma 21), .int 0, .ref (ma 23), .ref (ma 24), .ref (ma 25), .ref (ma 26), .ref (ma 27), .ref (ma 28), .int 0, .int 0, .int 0, .int 0, .ref (ma 33), .int (-1), .ref (ma 35), .int 0, .int 0]))] sz) := by
  refine Met.ofW (cc := cX12_result) (maxL := 2) (ret := (some .int)) (by decide) rfl ?_
  intro p e s m args below meth c s₁ B hml hv
  obtain ⟨rfl, hsz, hP, hG, hD0, hT⟩ := hv
  have hx := B.exec
  have hb := B.bytes
  have hr := B.returns
  have hts := atoms_spec (ws := vs_m_result) B.pre
  have hown : s.vm.findClass RX12 = some m.cls := findClass_of_methodNamed B.named
  have hlocks := B.notSynchronized
  subst hsz
  have hD := hD0.self (sz := s.heap.size)
  generalize hAe : va_A [(mo, .inr (12, [.int 0, .ref (ma 1), .int 0, .int 0, .int 0, .int (-1), .int 0, .int 0, .int (-1), .ref (ma 9), .ref (ma 10), .ref (ma 11), .ref (ma 12), .ref (ma 13), .ref (ma 14), .ref (ma 15), .int 0, .int 0, .int 0, .ref (ma 19), .ref (ma 20), .ref (ma 21), .int 0, .ref (ma 23), .ref (ma 24), .ref (ma 25), .ref (ma 26), .ref (ma 27), .ref (ma 28), .int 0, .int 0, .int 0, .int 0, .ref (ma 33), .int (-1), .ref (ma 35), .int 0, .int 0]))] s.heap.size = A at hD hT ⊢
  have hA : ∀ q : Nat, s.heap.size ≤ q → A q := fun q h => by rw [← hAe]; exact Or.inr h
  have hS : va_S A s.heap s.heap [] := va_S.rf
  have hl0 := lv_entry ([.ref mo, .int r0]) (n := 2) (Nat.le_of_ble_eq_true rfl)
  rw [lg_entry_eq]
  generalize (lg_sl ([.ref mo, .int r0]) ++ List.replicate (2 - (lg_sl ([.ref mo, .int r0])).length) Slot.unset).toArray = ls at hl0 ⊢
  have hlv : lv_has ls 2 [(0, .ref mo), (1, .int r0)] := hl0
  have lf80 := hts (.fieldLink RX12 80 "KerbSplashModel" "bad" "I") (List.mem_of_getElem? (i := 1) rfl)
  have hi12 : ∀ w ∈ wsX120, w ∈ vs_m_result := fun w h => List.mem_cons_of_mem _ (List.mem_append_right _ (List.mem_append_left _ h))
  have lf17 := hts (.fieldLink RX12 17 "KerbSplashModel" "faultAt" "I") (List.mem_of_getElem? (i := 2) rfl)
  have gg_1 : GoodIn vs_m_result (wsV RX12 109 RX12 yX12_fine vs_m_fine) := goodIn_sub (fun w h => List.mem_cons_of_mem _ (List.mem_append_right _ (List.mem_append_right _ (List.mem_append_left _ h)))) (by decide +kernel)
  refine lv_aload_n hx hb dX12_result_0 rfl (lv_at hlv 0 rfl) ?_
  refine lv_aload_n hx hb dX12_result_1 rfl (lv_at hlv 0 rfl) ?_
  refine va_get (D := D) (ci := 12) (v := .int (-1)) (C := RX12) (T := TX12) (N := 38) hx hb hts hi12 hown hG.1 hP 0 rfl rfl 5 (by decide) lf80 (fun _ h9 => h9) rfl dX12_result_2 ?_
  refine va_put (D := D) (ci := 12) (v := .int (-1)) (ty := .int) (C := RX12) (T := TX12) (N := 38) hx hb hts hi12 tyX12 tyX12_ok nmX12 hown hG.1 hP hD hS 0 rfl rfl 8 (by decide) lf17 (fun _ h9 => h9) rfl (by decide +kernel) rfl rfl (Nat.le_of_ble_eq_true rfl) dX12_result_5 (fun H locs hP hD hS => ?_)
  have hP : va_P D vwCl [(mo, .inr (12, [.int 0, .ref (ma 1), .int 0, .int 0, .int 0, .int (-1), .int 0, .int 0, .int (-1), .ref (ma 9), .ref (ma 10), .ref (ma 11), .ref (ma 12), .ref (ma 13), .ref (ma 14), .ref (ma 15), .int 0, .int 0, .int 0, .ref (ma 19), .ref (ma 20), .ref (ma 21), .int 0, .ref (ma 23), .ref (ma 24), .ref (ma 25), .ref (ma 26), .ref (ma 27), .ref (ma 28), .int 0, .int 0, .int 0, .int 0, .ref (ma 33), .int (-1), .ref (ma 35), .int 0, .int 0]))] H := hP
  have hD : va_D A [(mo, .inr (12, [.int 0, .ref (ma 1), .int 0, .int 0, .int 0, .int (-1), .int 0, .int 0, .int (-1), .ref (ma 9), .ref (ma 10), .ref (ma 11), .ref (ma 12), .ref (ma 13), .ref (ma 14), .ref (ma 15), .int 0, .int 0, .int 0, .ref (ma 19), .ref (ma 20), .ref (ma 21), .int 0, .ref (ma 23), .ref (ma 24), .ref (ma 25), .ref (ma 26), .ref (ma 27), .ref (ma 28), .int 0, .int 0, .int 0, .int 0, .ref (ma 33), .int (-1), .ref (ma 35), .int 0, .int 0]))] := hD
  refine lv_aload_n hx hb dX12_result_8 rfl (lv_at hlv 0 rfl) ?_
  refine cj_i (wr := []) (va_runV (As := []) (rest := []) ⟨hx, hb, hml, hown, hts⟩ (m_fine l hl D cy sa mo ma H.size) (cwV 0 hts gg_1 rfl rfl rfl (by decide +kernel) ⟨Nat.le_of_ble_eq_true rfl, Nat.le_of_ble_eq_true rfl⟩) ⟨pcW.blind, (va_recv hG.1 hP (ci := 12) (q0 := 0) rfl rfl), (pcW.mk hP hD hS hA hG hT [0] rfl (by decide))⟩ rfl rfl hlv.1 rfl (lv_room (Nat.le_of_ble_eq_true rfl)) dX12_result_9 ⟨Nat.le_of_ble_eq_true rfl, Nat.le_of_ble_eq_true rfl⟩) hP hD hS hA [0] [] rfl rfl (by decide) (by decide) (fun r1 u1 H locs hw1 hP hD hS => ?_)
  obtain rfl := hw1
  have hP : va_P D vwCl [(mo, .inr (12, [.int 0, .ref (ma 1), .int 0, .int 0, .int 0, .int (-1), .int 0, .int 0, .int (-1), .ref (ma 9), .ref (ma 10), .ref (ma 11), .ref (ma 12), .ref (ma 13), .ref (ma 14), .ref (ma 15), .int 0, .int 0, .int 0, .ref (ma 19), .ref (ma 20), .ref (ma 21), .int 0, .ref (ma 23), .ref (ma 24), .ref (ma 25), .ref (ma 26), .ref (ma 27), .ref (ma 28), .int 0, .int 0, .int 0, .int 0, .ref (ma 33), .int (-1), .ref (ma 35), .int 0, .int 0]))] H := hP
  have hD : va_D A [(mo, .inr (12, [.int 0, .ref (ma 1), .int 0, .int 0, .int 0, .int (-1), .int 0, .int 0, .int (-1), .ref (ma 9), .ref (ma 10), .ref (ma 11), .ref (ma 12), .ref (ma 13), .ref (ma 14), .ref (ma 15), .int 0, .int 0, .int 0, .ref (ma 19), .ref (ma 20), .ref (ma 21), .int 0, .ref (ma 23), .ref (ma 24), .ref (ma 25), .ref (ma 26), .ref (ma 27), .ref (ma 28), .int 0, .int 0, .int 0, .int 0, .ref (ma 33), .int (-1), .ref (ma 35), .int 0, .int 0]))] := hD
  refine lv_if_eq (tgt := 19) hx hb dX12_result_12 (by decide) (fun c => absurd c (by decide)) (fun _ => ?_)
  refine lv_iload_n hx hb dX12_result_15 rfl (lv_at hlv 1 rfl) ?_
  refine lv_goto (tgt := 26) hx hb dX12_result_16 (by decide) ?_
  refine W.widen (k := 0) (n := 0) (Nat.le_of_ble_eq_true rfl) (Nat.le_of_ble_eq_true rfl) ?_
  exact W.iret (v := r0) hx hb hr (fun t ht hW => ⟨⟨r0, ((fun k => ([] : List Nat).getD k 0), (fun k => ([] : List Int32).getD k 0), (fun k => ([] : List (Nat → Int32)).getD k (fun _ => 0))), rfl, (by first | (exact (by rfl))), by rw [ht]; exact hP.sub [0] rfl, hD.sub [0] (by decide) rfl⟩, hS.F ht⟩) hS.2.2 dX12_result_26
def vs_m_wrong : List Cond := .code yX12_wrong cX12_wrong 3 none :: (([.fieldLink RX12 80 "KerbSplashModel" "bad" "I", .fieldLink RX12 83 "KerbSplashModel" "badKind" "I"] : List Cond) ++ ((wsX120) ++ ([])))
set_option maxHeartbeats 4000000 in
set_option maxRecDepth 100000 in
theorem m_wrong (l : Launch) (hl : l.stackTraces = false) (D : va_G) (cy : Nat → ClassId) (sa : Nat → Nat) (mo : Nat) (ma : Nat → Nat) (sz : Nat) : Met l yX12_wrong vs_m_wrong ({ frames := 0, cells := 0, slots := 0, locals := 0 }) (va_Pc [.ref mo, .int 1, .int 0] (pcW D cy sa sz [(mo, .inr (12, [.int 0, .ref (ma 1), .int 0, .int 0, .int 0, .int (-1), .int 0, .int 0, .int (-1), .ref (ma 9), .ref (ma 10), .ref (ma 11), .ref (ma 12), .ref (ma 13), .ref (ma 14), .ref (ma 15), .int 0, .int 0, .int 0, .ref (ma 19), .ref (ma 20), .ref (ma 21), .int 0, .ref (ma 23), .ref (ma 24), .ref (ma 25), .ref (ma 26), .ref (ma 27), .ref (ma 28), .int 0, .int 0, .int 0, .int 0, .ref (ma 33), .int (-1), .ref (ma 35), .int 0, .int 0]))])) (va_Qv (fun u : SU => (True)) (fun u t => atW D (va_A [(mo, .inr (12, [.int 0, .ref (ma 1), .int 0, .int 0, .int 0, .int (-1), .int 0, .int 0, .int (-1), .ref (ma 9), .ref (ma 10), .ref (ma 11), .ref (ma 12), .ref (ma 13), .ref (ma 14), .ref (ma 15), .int 0, .int 0, .int 0, .ref (ma 19), .ref (ma 20), .ref (ma 21), .int 0, .ref (ma 23), .ref (ma 24), .ref (ma 25), .ref (ma 26), .ref (ma 27), .ref (ma 28), .int 0, .int 0, .int 0, .int 0, .ref (ma 33), .int (-1), .ref (ma 35), .int 0, .int 0]))] sz) [(mo, .inr (12, [.int 0, .ref (ma 1), .int 0, .int 0, .int 0, .int 0, .int 1, .int 0, .int (-1), .ref (ma 9), .ref (ma 10), .ref (ma 11), .ref (ma 12), .ref (ma 13), .ref (ma 14), .ref (ma 15), .int 0, .int 0, .int 0, .ref (ma 19), .ref (ma 20), .ref (ma 21), .int 0, .ref (ma 23), .ref (ma 24), .ref (ma 25), .ref (ma 26), .ref (ma 27), .ref (ma 28), .int 0, .int 0, .int 0, .int 0, .ref (ma 33), .int (-1), .ref (ma 35), .int 0, .int 0]))] t) (va_A [(mo, .inr (12, [.int 0, .ref (ma 1), .int 0, .int 0, .int 0, .int (-1), .int 0, .int 0, .int (-1), .ref (ma 9), .ref (ma 10), .ref (ma 11), .ref (ma 12), .ref (ma 13), .ref (ma 14), .ref (ma 15), .int 0, .int 0, .int 0, .ref (ma 19), .ref (ma 20), .ref (ma 21), .int 0, .ref (ma 23), .ref (ma 24), .ref (ma 25), .ref (ma 26), .ref (ma 27), .ref (ma 28), .int 0, .int 0, .int 0, .int 0, .ref (ma 33), .int (-1), .ref (ma 35), .int 0, .int 0]))] sz)) 0 0 (va_A [(mo, .inr (12, [.int 0, .ref (ma 1), .int 0, .int 0, .int 0, .int (-1), .int 0, .int 0, .int (-1), .ref (ma 9), .ref (ma 10), .ref (ma 11), .ref (ma 12), .ref (ma 13), .ref (ma 14), .ref (ma 15), .int 0, .int 0, .int 0, .ref (ma 19), .ref (ma 20), .ref (ma 21), .int 0, .ref (ma 23), .ref (ma 24), .ref (ma 25), .ref (ma 26), .ref (ma 27), .ref (ma 28), .int 0, .int 0, .int 0, .int 0, .ref (ma 33), .int (-1), .ref (ma 35), .int 0, .int 0]))] sz) := by
  refine Met.ofW (cc := cX12_wrong) (maxL := 3) (ret := none) (by decide) rfl ?_
  intro p e s m args below meth c s₁ B hml hv
  obtain ⟨rfl, hsz, hP, hG, hD0, hT⟩ := hv
  have hx := B.exec
  have hb := B.bytes
  have hr := B.returns
  have hts := atoms_spec (ws := vs_m_wrong) B.pre
  have hown : s.vm.findClass RX12 = some m.cls := findClass_of_methodNamed B.named
  have hlocks := B.notSynchronized
  subst hsz
  have hD := hD0.self (sz := s.heap.size)
  generalize hAe : va_A [(mo, .inr (12, [.int 0, .ref (ma 1), .int 0, .int 0, .int 0, .int (-1), .int 0, .int 0, .int (-1), .ref (ma 9), .ref (ma 10), .ref (ma 11), .ref (ma 12), .ref (ma 13), .ref (ma 14), .ref (ma 15), .int 0, .int 0, .int 0, .ref (ma 19), .ref (ma 20), .ref (ma 21), .int 0, .ref (ma 23), .ref (ma 24), .ref (ma 25), .ref (ma 26), .ref (ma 27), .ref (ma 28), .int 0, .int 0, .int 0, .int 0, .ref (ma 33), .int (-1), .ref (ma 35), .int 0, .int 0]))] s.heap.size = A at hD hT ⊢
  have hA : ∀ q : Nat, s.heap.size ≤ q → A q := fun q h => by rw [← hAe]; exact Or.inr h
  have hS : va_S A s.heap s.heap [] := va_S.rf
  have hl0 := lv_entry ([.ref mo, .int 1, .int 0]) (n := 3) (Nat.le_of_ble_eq_true rfl)
  rw [lg_entry_eq]
  generalize (lg_sl ([.ref mo, .int 1, .int 0]) ++ List.replicate (3 - (lg_sl ([.ref mo, .int 1, .int 0])).length) Slot.unset).toArray = ls at hl0 ⊢
  have hlv : lv_has ls 3 [(0, .ref mo), (1, .int 1), (2, .int 0)] := hl0
  have lf80 := hts (.fieldLink RX12 80 "KerbSplashModel" "bad" "I") (List.mem_of_getElem? (i := 1) rfl)
  have hi12 : ∀ w ∈ wsX120, w ∈ vs_m_wrong := fun w h => List.mem_cons_of_mem _ (List.mem_append_right _ (List.mem_append_left _ h))
  have lf83 := hts (.fieldLink RX12 83 "KerbSplashModel" "badKind" "I") (List.mem_of_getElem? (i := 2) rfl)
  refine lv_aload_n hx hb dX12_wrong_0 rfl (lv_at hlv 0 rfl) ?_
  refine va_get (D := D) (ci := 12) (v := .int (-1)) (C := RX12) (T := TX12) (N := 38) hx hb hts hi12 hown hG.1 hP 0 rfl rfl 5 (by decide) lf80 (fun _ h9 => h9) rfl dX12_wrong_1 ?_
  refine lv_iconst (v := (-1)) hx hb dX12_wrong_4 (by decide) ?_
  refine lv_icmp_eq (tgt := 9) hx hb dX12_wrong_5 (by decide) (fun _ => ?_) (fun c => absurd (by decide) c)
  refine lv_aload_n hx hb dX12_wrong_9 rfl (lv_at hlv 0 rfl) ?_
  refine lv_iload_n hx hb dX12_wrong_10 rfl (lv_at hlv 2 rfl) ?_
  refine va_put (D := D) (ci := 12) (v := .int 0) (ty := .int) (C := RX12) (T := TX12) (N := 38) hx hb hts hi12 tyX12 tyX12_ok nmX12 hown hG.1 hP hD hS 0 rfl rfl 5 (by decide) lf80 (fun _ h9 => h9) rfl (by decide +kernel) rfl rfl (Nat.le_of_ble_eq_true rfl) dX12_wrong_11 (fun H locs hP hD hS => ?_)
  have hP : va_P D vwCl [(mo, .inr (12, [.int 0, .ref (ma 1), .int 0, .int 0, .int 0, .int 0, .int 0, .int 0, .int (-1), .ref (ma 9), .ref (ma 10), .ref (ma 11), .ref (ma 12), .ref (ma 13), .ref (ma 14), .ref (ma 15), .int 0, .int 0, .int 0, .ref (ma 19), .ref (ma 20), .ref (ma 21), .int 0, .ref (ma 23), .ref (ma 24), .ref (ma 25), .ref (ma 26), .ref (ma 27), .ref (ma 28), .int 0, .int 0, .int 0, .int 0, .ref (ma 33), .int (-1), .ref (ma 35), .int 0, .int 0]))] H := hP
  have hD : va_D A [(mo, .inr (12, [.int 0, .ref (ma 1), .int 0, .int 0, .int 0, .int 0, .int 0, .int 0, .int (-1), .ref (ma 9), .ref (ma 10), .ref (ma 11), .ref (ma 12), .ref (ma 13), .ref (ma 14), .ref (ma 15), .int 0, .int 0, .int 0, .ref (ma 19), .ref (ma 20), .ref (ma 21), .int 0, .ref (ma 23), .ref (ma 24), .ref (ma 25), .ref (ma 26), .ref (ma 27), .ref (ma 28), .int 0, .int 0, .int 0, .int 0, .ref (ma 33), .int (-1), .ref (ma 35), .int 0, .int 0]))] := hD
  refine lv_aload_n hx hb dX12_wrong_14 rfl (lv_at hlv 0 rfl) ?_
  refine lv_iload_n hx hb dX12_wrong_15 rfl (lv_at hlv 1 rfl) ?_
  refine va_put (D := D) (ci := 12) (v := .int 1) (ty := .int) (C := RX12) (T := TX12) (N := 38) hx hb hts hi12 tyX12 tyX12_ok nmX12 hown hG.1 hP hD hS 0 rfl rfl 6 (by decide) lf83 (fun _ h9 => h9) rfl (by decide +kernel) rfl rfl (Nat.le_of_ble_eq_true rfl) dX12_wrong_16 (fun H locs hP hD hS => ?_)
  have hP : va_P D vwCl [(mo, .inr (12, [.int 0, .ref (ma 1), .int 0, .int 0, .int 0, .int 0, .int 1, .int 0, .int (-1), .ref (ma 9), .ref (ma 10), .ref (ma 11), .ref (ma 12), .ref (ma 13), .ref (ma 14), .ref (ma 15), .int 0, .int 0, .int 0, .ref (ma 19), .ref (ma 20), .ref (ma 21), .int 0, .ref (ma 23), .ref (ma 24), .ref (ma 25), .ref (ma 26), .ref (ma 27), .ref (ma 28), .int 0, .int 0, .int 0, .int 0, .ref (ma 33), .int (-1), .ref (ma 35), .int 0, .int 0]))] H := hP
  have hD : va_D A [(mo, .inr (12, [.int 0, .ref (ma 1), .int 0, .int 0, .int 0, .int 0, .int 1, .int 0, .int (-1), .ref (ma 9), .ref (ma 10), .ref (ma 11), .ref (ma 12), .ref (ma 13), .ref (ma 14), .ref (ma 15), .int 0, .int 0, .int 0, .ref (ma 19), .ref (ma 20), .ref (ma 21), .int 0, .ref (ma 23), .ref (ma 24), .ref (ma 25), .ref (ma 26), .ref (ma 27), .ref (ma 28), .int 0, .int 0, .int 0, .int 0, .ref (ma 33), .int (-1), .ref (ma 35), .int 0, .int 0]))] := hD
  refine W.widen (k := 0) (n := 0) (Nat.le_of_ble_eq_true rfl) (Nat.le_of_ble_eq_true rfl) ?_
  exact W.vret hx hb hr (fun t ht hW => ⟨⟨((fun k => ([] : List Nat).getD k 0), (fun k => ([] : List Int32).getD k 0), (fun k => ([] : List (Nat → Int32)).getD k (fun _ => 0))), rfl, (by first | (trivial)), by rw [ht]; exact hP.sub [0] rfl, hD.sub [0] (by decide) rfl⟩, hS.F ht⟩) hS.2.2 dX12_wrong_19
def vs_m_fineF : List Cond := .code yX12_fine cX12_fine 1 (some .boolean) :: (([.fieldLink RX12 80 "KerbSplashModel" "bad" "I"] : List Cond) ++ ((wsX120) ++ ([])))
set_option maxHeartbeats 4000000 in
set_option maxRecDepth 100000 in
theorem m_fineF (l : Launch) (hl : l.stackTraces = false) (D : va_G) (cy : Nat → ClassId) (sa : Nat → Nat) (mo : Nat) (ma : Nat → Nat) (fa : Int32) (sz : Nat) : Met l yX12_fine vs_m_fineF ({ frames := 0, cells := 0, slots := 0, locals := 0 }) (va_Pc [.ref mo] (pcW D cy sa sz [(mo, .inr (12, [.int 0, .ref (ma 1), .int 0, .int 0, .int 0, .int 0, .int 1, .int 0, .int fa, .ref (ma 9), .ref (ma 10), .ref (ma 11), .ref (ma 12), .ref (ma 13), .ref (ma 14), .ref (ma 15), .int 0, .int 0, .int 0, .ref (ma 19), .ref (ma 20), .ref (ma 21), .int 0, .ref (ma 23), .ref (ma 24), .ref (ma 25), .ref (ma 26), .ref (ma 27), .ref (ma 28), .int 0, .int 0, .int 0, .int 0, .ref (ma 33), .int (-1), .ref (ma 35), .int 0, .int 0]))])) (va_Qi (fun (r : Int32) (u : SU) => (r = 0)) (fun u t => atW D (va_A [(mo, .inr (12, [.int 0, .ref (ma 1), .int 0, .int 0, .int 0, .int 0, .int 1, .int 0, .int fa, .ref (ma 9), .ref (ma 10), .ref (ma 11), .ref (ma 12), .ref (ma 13), .ref (ma 14), .ref (ma 15), .int 0, .int 0, .int 0, .ref (ma 19), .ref (ma 20), .ref (ma 21), .int 0, .ref (ma 23), .ref (ma 24), .ref (ma 25), .ref (ma 26), .ref (ma 27), .ref (ma 28), .int 0, .int 0, .int 0, .int 0, .ref (ma 33), .int (-1), .ref (ma 35), .int 0, .int 0]))] sz) [(mo, .inr (12, [.int 0, .ref (ma 1), .int 0, .int 0, .int 0, .int 0, .int 1, .int 0, .int fa, .ref (ma 9), .ref (ma 10), .ref (ma 11), .ref (ma 12), .ref (ma 13), .ref (ma 14), .ref (ma 15), .int 0, .int 0, .int 0, .ref (ma 19), .ref (ma 20), .ref (ma 21), .int 0, .ref (ma 23), .ref (ma 24), .ref (ma 25), .ref (ma 26), .ref (ma 27), .ref (ma 28), .int 0, .int 0, .int 0, .int 0, .ref (ma 33), .int (-1), .ref (ma 35), .int 0, .int 0]))] t) (va_A [(mo, .inr (12, [.int 0, .ref (ma 1), .int 0, .int 0, .int 0, .int 0, .int 1, .int 0, .int fa, .ref (ma 9), .ref (ma 10), .ref (ma 11), .ref (ma 12), .ref (ma 13), .ref (ma 14), .ref (ma 15), .int 0, .int 0, .int 0, .ref (ma 19), .ref (ma 20), .ref (ma 21), .int 0, .ref (ma 23), .ref (ma 24), .ref (ma 25), .ref (ma 26), .ref (ma 27), .ref (ma 28), .int 0, .int 0, .int 0, .int 0, .ref (ma 33), .int (-1), .ref (ma 35), .int 0, .int 0]))] sz)) 0 0 (va_A [(mo, .inr (12, [.int 0, .ref (ma 1), .int 0, .int 0, .int 0, .int 0, .int 1, .int 0, .int fa, .ref (ma 9), .ref (ma 10), .ref (ma 11), .ref (ma 12), .ref (ma 13), .ref (ma 14), .ref (ma 15), .int 0, .int 0, .int 0, .ref (ma 19), .ref (ma 20), .ref (ma 21), .int 0, .ref (ma 23), .ref (ma 24), .ref (ma 25), .ref (ma 26), .ref (ma 27), .ref (ma 28), .int 0, .int 0, .int 0, .int 0, .ref (ma 33), .int (-1), .ref (ma 35), .int 0, .int 0]))] sz) := by
  refine Met.ofW (cc := cX12_fine) (maxL := 1) (ret := (some .boolean)) (by decide) rfl ?_
  intro p e s m args below meth c s₁ B hml hv
  obtain ⟨rfl, hsz, hP, hG, hD0, hT⟩ := hv
  have hx := B.exec
  have hb := B.bytes
  have hr := B.returns
  have hts := atoms_spec (ws := vs_m_fineF) B.pre
  have hown : s.vm.findClass RX12 = some m.cls := findClass_of_methodNamed B.named
  have hlocks := B.notSynchronized
  subst hsz
  have hD := hD0.self (sz := s.heap.size)
  generalize hAe : va_A [(mo, .inr (12, [.int 0, .ref (ma 1), .int 0, .int 0, .int 0, .int 0, .int 1, .int 0, .int fa, .ref (ma 9), .ref (ma 10), .ref (ma 11), .ref (ma 12), .ref (ma 13), .ref (ma 14), .ref (ma 15), .int 0, .int 0, .int 0, .ref (ma 19), .ref (ma 20), .ref (ma 21), .int 0, .ref (ma 23), .ref (ma 24), .ref (ma 25), .ref (ma 26), .ref (ma 27), .ref (ma 28), .int 0, .int 0, .int 0, .int 0, .ref (ma 33), .int (-1), .ref (ma 35), .int 0, .int 0]))] s.heap.size = A at hD hT ⊢
  have hA : ∀ q : Nat, s.heap.size ≤ q → A q := fun q h => by rw [← hAe]; exact Or.inr h
  have hS : va_S A s.heap s.heap [] := va_S.rf
  have hl0 := lv_entry ([.ref mo]) (n := 1) (Nat.le_of_ble_eq_true rfl)
  rw [lg_entry_eq]
  generalize (lg_sl ([.ref mo]) ++ List.replicate (1 - (lg_sl ([.ref mo])).length) Slot.unset).toArray = ls at hl0 ⊢
  have hlv : lv_has ls 1 [(0, .ref mo)] := hl0
  have lf80 := hts (.fieldLink RX12 80 "KerbSplashModel" "bad" "I") (List.mem_of_getElem? (i := 1) rfl)
  have hi12 : ∀ w ∈ wsX120, w ∈ vs_m_fineF := fun w h => List.mem_cons_of_mem _ (List.mem_append_right _ (List.mem_append_left _ h))
  refine lv_aload_n hx hb dX12_fine_0 rfl (lv_at hlv 0 rfl) ?_
  refine va_get (D := D) (ci := 12) (v := .int 0) (C := RX12) (T := TX12) (N := 38) hx hb hts hi12 hown hG.1 hP 0 rfl rfl 5 (by decide) lf80 (fun _ h9 => h9) rfl dX12_fine_1 ?_
  refine lv_iconst (v := (-1)) hx hb dX12_fine_4 (by decide) ?_
  refine lv_icmp_ne (tgt := 12) hx hb dX12_fine_5 (by decide) (fun _ => ?_) (fun c => absurd c (by decide))
  refine lv_iconst (v := 0) hx hb dX12_fine_12 (by decide) ?_
  refine W.widen (k := 0) (n := 0) (Nat.le_of_ble_eq_true rfl) (Nat.le_of_ble_eq_true rfl) ?_
  exact W.zret (v := 0) hx hb hr (by first | rfl | decide) (fun t ht hW => ⟨⟨0, ((fun k => ([] : List Nat).getD k 0), (fun k => ([] : List Int32).getD k 0), (fun k => ([] : List (Nat → Int32)).getD k (fun _ => 0))), rfl, (by first | (exact (by rfl))), by rw [ht]; exact hP.sub [0] rfl, hD.sub [0] (by decide) rfl⟩, hS.F ht⟩) hS.2.2 dX12_fine_13
def vs_m_resultF : List Cond := .code yX12_result cX12_result 2 (some .int) :: (([.fieldLink RX12 80 "KerbSplashModel" "bad" "I", .fieldLink RX12 17 "KerbSplashModel" "faultAt" "I", .fieldLink RX12 83 "KerbSplashModel" "badKind" "I"] : List Cond) ++ ((wsX120) ++ ((wsV RX12 109 RX12 yX12_fine vs_m_fineF) ++ ([]))))
set_option maxHeartbeats 4000000 in
set_option maxRecDepth 100000 in
theorem m_resultF (l : Launch) (hl : l.stackTraces = false) (D : va_G) (cy : Nat → ClassId) (sa : Nat → Nat) (mo : Nat) (ma : Nat → Nat) (sz : Nat) : Met l yX12_result vs_m_resultF ({ frames := 1, cells := 0, slots := 0, locals := 20 }) (va_Pc [.ref mo, .int 0] (pcW D cy sa sz [(mo, .inr (12, [.int 0, .ref (ma 1), .int 0, .int 0, .int 0, .int 0, .int 1, .int 0, .int (-1), .ref (ma 9), .ref (ma 10), .ref (ma 11), .ref (ma 12), .ref (ma 13), .ref (ma 14), .ref (ma 15), .int 0, .int 0, .int 0, .ref (ma 19), .ref (ma 20), .ref (ma 21), .int 0, .ref (ma 23), .ref (ma 24), .ref (ma 25), .ref (ma 26), .ref (ma 27), .ref (ma 28), .int 0, .int 0, .int 0, .int 0, .ref (ma 33), .int (-1), .ref (ma 35), .int 0, .int 0]))])) (va_Qi (fun (r : Int32) (u : SU) => (r = (-9))) (fun u t => atW D (va_A [(mo, .inr (12, [.int 0, .ref (ma 1), .int 0, .int 0, .int 0, .int 0, .int 1, .int 0, .int (-1), .ref (ma 9), .ref (ma 10), .ref (ma 11), .ref (ma 12), .ref (ma 13), .ref (ma 14), .ref (ma 15), .int 0, .int 0, .int 0, .ref (ma 19), .ref (ma 20), .ref (ma 21), .int 0, .ref (ma 23), .ref (ma 24), .ref (ma 25), .ref (ma 26), .ref (ma 27), .ref (ma 28), .int 0, .int 0, .int 0, .int 0, .ref (ma 33), .int (-1), .ref (ma 35), .int 0, .int 0]))] sz) [(mo, .inr (12, [.int 0, .ref (ma 1), .int 0, .int 0, .int 0, .int 0, .int 1, .int 0, .int 0, .ref (ma 9), .ref (ma 10), .ref (ma 11), .ref (ma 12), .ref (ma 13), .ref (ma 14), .ref (ma 15), .int 0, .int 0, .int 0, .ref (ma 19), .ref (ma 20), .ref (ma 21), .int 0, .ref (ma 23), .ref (ma 24), .ref (ma 25), .ref (ma 26), .ref (ma 27), .ref (ma 28), .int 0, .int 0, .int 0, .int 0, .ref (ma 33), .int (-1), .ref (ma 35), .int 0, .int 0]))] t) (va_A [(mo, .inr (12, [.int 0, .ref (ma 1), .int 0, .int 0, .int 0, .int 0, .int 1, .int 0, .int (-1), .ref (ma 9), .ref (ma 10), .ref (ma 11), .ref (ma 12), .ref (ma 13), .ref (ma 14), .ref (ma 15), .int 0, .int 0, .int 0, .ref (ma 19), .ref (ma 20), .ref (ma 21), .int 0, .ref (ma 23), .ref (ma 24), .ref (ma 25), .ref (ma 26), .ref (ma 27), .ref (ma 28), .int 0, .int 0, .int 0, .int 0, .ref (ma 33), .int (-1), .ref (ma 35), .int 0, .int 0]))] sz)) 0 0 (va_A [(mo, .inr (12, [.int 0, .ref (ma 1), .int 0, .int 0, .int 0, .int 0, .int 1, .int 0, .int (-1), .ref (ma 9), .ref (ma 10), .ref (ma 11), .ref (ma 12), .ref (ma 13), .ref (ma 14), .ref (ma 15), .int 0, .int 0, .int 0, .ref (ma 19), .ref (ma 20), .ref (ma 21), .int 0, .ref (ma 23), .ref (ma 24), .ref (ma 25), .ref (ma 26), .ref (ma 27), .ref (ma 28), .int 0, .int 0, .int 0, .int 0, .ref (ma 33), .int (-1), .ref (ma 35), .int 0, .int 0]))] sz) := by
  refine Met.ofW (cc := cX12_result) (maxL := 2) (ret := (some .int)) (by decide) rfl ?_
  intro p e s m args below meth c s₁ B hml hv
  obtain ⟨rfl, hsz, hP, hG, hD0, hT⟩ := hv
  have hx := B.exec
  have hb := B.bytes
  have hr := B.returns
  have hts := atoms_spec (ws := vs_m_resultF) B.pre
  have hown : s.vm.findClass RX12 = some m.cls := findClass_of_methodNamed B.named
  have hlocks := B.notSynchronized
  subst hsz
  have hD := hD0.self (sz := s.heap.size)
  generalize hAe : va_A [(mo, .inr (12, [.int 0, .ref (ma 1), .int 0, .int 0, .int 0, .int 0, .int 1, .int 0, .int (-1), .ref (ma 9), .ref (ma 10), .ref (ma 11), .ref (ma 12), .ref (ma 13), .ref (ma 14), .ref (ma 15), .int 0, .int 0, .int 0, .ref (ma 19), .ref (ma 20), .ref (ma 21), .int 0, .ref (ma 23), .ref (ma 24), .ref (ma 25), .ref (ma 26), .ref (ma 27), .ref (ma 28), .int 0, .int 0, .int 0, .int 0, .ref (ma 33), .int (-1), .ref (ma 35), .int 0, .int 0]))] s.heap.size = A at hD hT ⊢
  have hA : ∀ q : Nat, s.heap.size ≤ q → A q := fun q h => by rw [← hAe]; exact Or.inr h
  have hS : va_S A s.heap s.heap [] := va_S.rf
  have hl0 := lv_entry ([.ref mo, .int 0]) (n := 2) (Nat.le_of_ble_eq_true rfl)
  rw [lg_entry_eq]
  generalize (lg_sl ([.ref mo, .int 0]) ++ List.replicate (2 - (lg_sl ([.ref mo, .int 0])).length) Slot.unset).toArray = ls at hl0 ⊢
  have hlv : lv_has ls 2 [(0, .ref mo), (1, .int 0)] := hl0
  have lf80 := hts (.fieldLink RX12 80 "KerbSplashModel" "bad" "I") (List.mem_of_getElem? (i := 1) rfl)
  have hi12 : ∀ w ∈ wsX120, w ∈ vs_m_resultF := fun w h => List.mem_cons_of_mem _ (List.mem_append_right _ (List.mem_append_left _ h))
  have lf17 := hts (.fieldLink RX12 17 "KerbSplashModel" "faultAt" "I") (List.mem_of_getElem? (i := 2) rfl)
  have gg_1 : GoodIn vs_m_resultF (wsV RX12 109 RX12 yX12_fine vs_m_fineF) := goodIn_sub (fun w h => List.mem_cons_of_mem _ (List.mem_append_right _ (List.mem_append_right _ (List.mem_append_left _ h)))) (by decide +kernel)
  have lf83 := hts (.fieldLink RX12 83 "KerbSplashModel" "badKind" "I") (List.mem_of_getElem? (i := 3) rfl)
  refine lv_aload_n hx hb dX12_result_0 rfl (lv_at hlv 0 rfl) ?_
  refine lv_aload_n hx hb dX12_result_1 rfl (lv_at hlv 0 rfl) ?_
  refine va_get (D := D) (ci := 12) (v := .int 0) (C := RX12) (T := TX12) (N := 38) hx hb hts hi12 hown hG.1 hP 0 rfl rfl 5 (by decide) lf80 (fun _ h9 => h9) rfl dX12_result_2 ?_
  refine va_put (D := D) (ci := 12) (v := .int 0) (ty := .int) (C := RX12) (T := TX12) (N := 38) hx hb hts hi12 tyX12 tyX12_ok nmX12 hown hG.1 hP hD hS 0 rfl rfl 8 (by decide) lf17 (fun _ h9 => h9) rfl (by decide +kernel) rfl rfl (Nat.le_of_ble_eq_true rfl) dX12_result_5 (fun H locs hP hD hS => ?_)
  have hP : va_P D vwCl [(mo, .inr (12, [.int 0, .ref (ma 1), .int 0, .int 0, .int 0, .int 0, .int 1, .int 0, .int 0, .ref (ma 9), .ref (ma 10), .ref (ma 11), .ref (ma 12), .ref (ma 13), .ref (ma 14), .ref (ma 15), .int 0, .int 0, .int 0, .ref (ma 19), .ref (ma 20), .ref (ma 21), .int 0, .ref (ma 23), .ref (ma 24), .ref (ma 25), .ref (ma 26), .ref (ma 27), .ref (ma 28), .int 0, .int 0, .int 0, .int 0, .ref (ma 33), .int (-1), .ref (ma 35), .int 0, .int 0]))] H := hP
  have hD : va_D A [(mo, .inr (12, [.int 0, .ref (ma 1), .int 0, .int 0, .int 0, .int 0, .int 1, .int 0, .int 0, .ref (ma 9), .ref (ma 10), .ref (ma 11), .ref (ma 12), .ref (ma 13), .ref (ma 14), .ref (ma 15), .int 0, .int 0, .int 0, .ref (ma 19), .ref (ma 20), .ref (ma 21), .int 0, .ref (ma 23), .ref (ma 24), .ref (ma 25), .ref (ma 26), .ref (ma 27), .ref (ma 28), .int 0, .int 0, .int 0, .int 0, .ref (ma 33), .int (-1), .ref (ma 35), .int 0, .int 0]))] := hD
  refine lv_aload_n hx hb dX12_result_8 rfl (lv_at hlv 0 rfl) ?_
  refine cj_i (wr := []) (va_runV (As := []) (rest := []) ⟨hx, hb, hml, hown, hts⟩ (m_fineF l hl D cy sa mo ma 0 H.size) (cwV 0 hts gg_1 rfl rfl rfl (by decide +kernel) ⟨Nat.le_of_ble_eq_true rfl, Nat.le_of_ble_eq_true rfl⟩) ⟨pcW.blind, (va_recv hG.1 hP (ci := 12) (q0 := 0) rfl rfl), (pcW.mk hP hD hS hA hG hT [0] rfl (by decide))⟩ rfl rfl hlv.1 rfl (lv_room (Nat.le_of_ble_eq_true rfl)) dX12_result_9 ⟨Nat.le_of_ble_eq_true rfl, Nat.le_of_ble_eq_true rfl⟩) hP hD hS hA [0] [] rfl rfl (by decide) (by decide) (fun r1 u1 H locs hw1 hP hD hS => ?_)
  obtain rfl := hw1
  have hP : va_P D vwCl [(mo, .inr (12, [.int 0, .ref (ma 1), .int 0, .int 0, .int 0, .int 0, .int 1, .int 0, .int 0, .ref (ma 9), .ref (ma 10), .ref (ma 11), .ref (ma 12), .ref (ma 13), .ref (ma 14), .ref (ma 15), .int 0, .int 0, .int 0, .ref (ma 19), .ref (ma 20), .ref (ma 21), .int 0, .ref (ma 23), .ref (ma 24), .ref (ma 25), .ref (ma 26), .ref (ma 27), .ref (ma 28), .int 0, .int 0, .int 0, .int 0, .ref (ma 33), .int (-1), .ref (ma 35), .int 0, .int 0]))] H := hP
  have hD : va_D A [(mo, .inr (12, [.int 0, .ref (ma 1), .int 0, .int 0, .int 0, .int 0, .int 1, .int 0, .int 0, .ref (ma 9), .ref (ma 10), .ref (ma 11), .ref (ma 12), .ref (ma 13), .ref (ma 14), .ref (ma 15), .int 0, .int 0, .int 0, .ref (ma 19), .ref (ma 20), .ref (ma 21), .int 0, .ref (ma 23), .ref (ma 24), .ref (ma 25), .ref (ma 26), .ref (ma 27), .ref (ma 28), .int 0, .int 0, .int 0, .int 0, .ref (ma 33), .int (-1), .ref (ma 35), .int 0, .int 0]))] := hD
  refine lv_if_eq (tgt := 19) hx hb dX12_result_12 (by decide) (fun _ => ?_) (fun c => absurd (by decide) c)
  refine lv_aload_n hx hb dX12_result_19 rfl (lv_at hlv 0 rfl) ?_
  refine va_get (D := D) (ci := 12) (v := .int 1) (C := RX12) (T := TX12) (N := 38) hx hb hts hi12 hown hG.1 hP 0 rfl rfl 6 (by decide) lf83 (fun _ h9 => h9) rfl dX12_result_20 ?_
  refine lv_bipush (v := 10) hx hb dX12_result_23 (by decide) ?_
  refine lv_isub hx hb dX12_result_25 ?_
  refine lt_i (y := (-9)) (by decide) ?_
  refine W.widen (k := 0) (n := 0) (Nat.le_of_ble_eq_true rfl) (Nat.le_of_ble_eq_true rfl) ?_
  exact W.iret (v := (-9)) hx hb hr (fun t ht hW => ⟨⟨(-9), ((fun k => ([] : List Nat).getD k 0), (fun k => ([] : List Int32).getD k 0), (fun k => ([] : List (Nat → Int32)).getD k (fun _ => 0))), rfl, (by first | (exact (by rfl))), by rw [ht]; exact hP.sub [0] rfl, hD.sub [0] (by decide) rfl⟩, hS.F ht⟩) hS.2.2 dX12_result_26
def vs_m_rain0 : List Cond := .code yX12_rain cX12_rain 4 (some .int) :: (([.fieldLink RX12 1 "KerbSplashModel" "thrown" "I", .fieldLink RX12 77 "KerbSplashModel" "taped" "I", .fieldLink RX12 204 "KerbSplashModel" "rains" "I", .fieldLink RX12 89 "KerbSplashModel" "size" "I"] : List Cond) ++ ((wsX120) ++ ((wsV RX12 175 RX12 yX12_may vs_c_may1) ++ ((wsV RX12 179 RX12 yX12_begins vs_m_begins) ++ ((wsV RX12 182 RX12 yX12_isMore vs_m_isMore) ++ ((wsV RX12 116 RX12 yX12_wrong vs_m_wrong) ++ ((wsV RX12 109 RX12 yX12_fine vs_m_fineF) ++ ((wsV RX12 198 RX12 yX12_result vs_m_resultF) ++ ([])))))))))
set_option maxHeartbeats 4000000 in
set_option maxRecDepth 100000 in
theorem m_rain0 (l : Launch) (hl : l.stackTraces = false) (D : va_G) (cy : Nat → ClassId) (sa : Nat → Nat) (mo : Nat) (ma : Nat → Nat) (sz : Nat) : Met l yX12_rain vs_m_rain0 ({ frames := 2, cells := 0, slots := 0, locals := 41 }) (va_Pc [.ref mo, .int 0] (pcW D cy sa sz [(mo, .inr (12, [.int 0, .ref (ma 1), .int 0, .int 0, .int 0, .int 0, .int 0, .int 0, .int (-1), .ref (ma 9), .ref (ma 10), .ref (ma 11), .ref (ma 12), .ref (ma 13), .ref (ma 14), .ref (ma 15), .int 0, .int 0, .int 0, .ref (ma 19), .ref (ma 20), .ref (ma 21), .int 0, .ref (ma 23), .ref (ma 24), .ref (ma 25), .ref (ma 26), .ref (ma 27), .ref (ma 28), .int 0, .int 0, .int 0, .int 0, .ref (ma 33), .int (-1), .ref (ma 35), .int 0, .int 0]))])) (va_Qi (fun (r : Int32) (u : SU) => (r = (-9))) (fun u t => atW D (va_A [(mo, .inr (12, [.int 0, .ref (ma 1), .int 0, .int 0, .int 0, .int 0, .int 0, .int 0, .int (-1), .ref (ma 9), .ref (ma 10), .ref (ma 11), .ref (ma 12), .ref (ma 13), .ref (ma 14), .ref (ma 15), .int 0, .int 0, .int 0, .ref (ma 19), .ref (ma 20), .ref (ma 21), .int 0, .ref (ma 23), .ref (ma 24), .ref (ma 25), .ref (ma 26), .ref (ma 27), .ref (ma 28), .int 0, .int 0, .int 0, .int 0, .ref (ma 33), .int (-1), .ref (ma 35), .int 0, .int 0]))] sz) [(mo, .inr (12, [.int 0, .ref (ma 1), .int 0, .int 0, .int 0, .int 0, .int 1, .int 0, .int 0, .ref (ma 9), .ref (ma 10), .ref (ma 11), .ref (ma 12), .ref (ma 13), .ref (ma 14), .ref (ma 15), .int 0, .int 0, .int 0, .ref (ma 19), .ref (ma 20), .ref (ma 21), .int 0, .ref (ma 23), .ref (ma 24), .ref (ma 25), .ref (ma 26), .ref (ma 27), .ref (ma 28), .int 0, .int 0, .int 0, .int 0, .ref (ma 33), .int (-1), .ref (ma 35), .int 0, .int 0]))] t) (va_A [(mo, .inr (12, [.int 0, .ref (ma 1), .int 0, .int 0, .int 0, .int 0, .int 0, .int 0, .int (-1), .ref (ma 9), .ref (ma 10), .ref (ma 11), .ref (ma 12), .ref (ma 13), .ref (ma 14), .ref (ma 15), .int 0, .int 0, .int 0, .ref (ma 19), .ref (ma 20), .ref (ma 21), .int 0, .ref (ma 23), .ref (ma 24), .ref (ma 25), .ref (ma 26), .ref (ma 27), .ref (ma 28), .int 0, .int 0, .int 0, .int 0, .ref (ma 33), .int (-1), .ref (ma 35), .int 0, .int 0]))] sz)) 0 0 (va_A [(mo, .inr (12, [.int 0, .ref (ma 1), .int 0, .int 0, .int 0, .int 0, .int 0, .int 0, .int (-1), .ref (ma 9), .ref (ma 10), .ref (ma 11), .ref (ma 12), .ref (ma 13), .ref (ma 14), .ref (ma 15), .int 0, .int 0, .int 0, .ref (ma 19), .ref (ma 20), .ref (ma 21), .int 0, .ref (ma 23), .ref (ma 24), .ref (ma 25), .ref (ma 26), .ref (ma 27), .ref (ma 28), .int 0, .int 0, .int 0, .int 0, .ref (ma 33), .int (-1), .ref (ma 35), .int 0, .int 0]))] sz) := by
  refine Met.ofW (cc := cX12_rain) (maxL := 4) (ret := (some .int)) (by decide) rfl ?_
  intro p e s m args below meth c s₁ B hml hv
  obtain ⟨rfl, hsz, hP, hG, hD0, hT⟩ := hv
  have hx := B.exec
  have hb := B.bytes
  have hr := B.returns
  have hts := atoms_spec (ws := vs_m_rain0) B.pre
  have hown : s.vm.findClass RX12 = some m.cls := findClass_of_methodNamed B.named
  have hlocks := B.notSynchronized
  subst hsz
  have hD := hD0.self (sz := s.heap.size)
  generalize hAe : va_A [(mo, .inr (12, [.int 0, .ref (ma 1), .int 0, .int 0, .int 0, .int 0, .int 0, .int 0, .int (-1), .ref (ma 9), .ref (ma 10), .ref (ma 11), .ref (ma 12), .ref (ma 13), .ref (ma 14), .ref (ma 15), .int 0, .int 0, .int 0, .ref (ma 19), .ref (ma 20), .ref (ma 21), .int 0, .ref (ma 23), .ref (ma 24), .ref (ma 25), .ref (ma 26), .ref (ma 27), .ref (ma 28), .int 0, .int 0, .int 0, .int 0, .ref (ma 33), .int (-1), .ref (ma 35), .int 0, .int 0]))] s.heap.size = A at hD hT ⊢
  have hA : ∀ q : Nat, s.heap.size ≤ q → A q := fun q h => by rw [← hAe]; exact Or.inr h
  have hS : va_S A s.heap s.heap [] := va_S.rf
  have hl0 := lv_entry ([.ref mo, .int 0]) (n := 4) (Nat.le_of_ble_eq_true rfl)
  rw [lg_entry_eq]
  generalize (lg_sl ([.ref mo, .int 0]) ++ List.replicate (4 - (lg_sl ([.ref mo, .int 0])).length) Slot.unset).toArray = ls at hl0 ⊢
  have hlv : lv_has ls 4 [(0, .ref mo), (1, .int 0)] := hl0
  have lf1 := hts (.fieldLink RX12 1 "KerbSplashModel" "thrown" "I") (List.mem_of_getElem? (i := 1) rfl)
  have hi12 : ∀ w ∈ wsX120, w ∈ vs_m_rain0 := fun w h => List.mem_cons_of_mem _ (List.mem_append_right _ (List.mem_append_left _ h))
  have lf77 := hts (.fieldLink RX12 77 "KerbSplashModel" "taped" "I") (List.mem_of_getElem? (i := 2) rfl)
  have gg_1 : GoodIn vs_m_rain0 (wsV RX12 175 RX12 yX12_may vs_c_may1) := goodIn_sub (fun w h => List.mem_cons_of_mem _ (List.mem_append_right _ (List.mem_append_right _ (List.mem_append_left _ h)))) (by decide +kernel)
  have gg_2 : GoodIn vs_m_rain0 (wsV RX12 179 RX12 yX12_begins vs_m_begins) := goodIn_sub (fun w h => List.mem_cons_of_mem _ (List.mem_append_right _ (List.mem_append_right _ (List.mem_append_right _ (List.mem_append_left _ h))))) (by decide +kernel)
  have lf204 := hts (.fieldLink RX12 204 "KerbSplashModel" "rains" "I") (List.mem_of_getElem? (i := 3) rfl)
  have gg_3 : GoodIn vs_m_rain0 (wsV RX12 182 RX12 yX12_isMore vs_m_isMore) := goodIn_sub (fun w h => List.mem_cons_of_mem _ (List.mem_append_right _ (List.mem_append_right _ (List.mem_append_right _ (List.mem_append_right _ (List.mem_append_left _ h)))))) (by decide +kernel)
  have lf89 := hts (.fieldLink RX12 89 "KerbSplashModel" "size" "I") (List.mem_of_getElem? (i := 4) rfl)
  have gg_4 : GoodIn vs_m_rain0 (wsV RX12 116 RX12 yX12_wrong vs_m_wrong) := goodIn_sub (fun w h => List.mem_cons_of_mem _ (List.mem_append_right _ (List.mem_append_right _ (List.mem_append_right _ (List.mem_append_right _ (List.mem_append_right _ (List.mem_append_left _ h))))))) (by decide +kernel)
  have gg_5 : GoodIn vs_m_rain0 (wsV RX12 109 RX12 yX12_fine vs_m_fineF) := goodIn_sub (fun w h => List.mem_cons_of_mem _ (List.mem_append_right _ (List.mem_append_right _ (List.mem_append_right _ (List.mem_append_right _ (List.mem_append_right _ (List.mem_append_right _ (List.mem_append_left _ h)))))))) (by decide +kernel)
  have gg_6 : GoodIn vs_m_rain0 (wsV RX12 198 RX12 yX12_result vs_m_resultF) := goodIn_sub (fun w h => List.mem_cons_of_mem _ (List.mem_append_right _ (List.mem_append_right _ (List.mem_append_right _ (List.mem_append_right _ (List.mem_append_right _ (List.mem_append_right _ (List.mem_append_right _ (List.mem_append_left _ h))))))))) (by decide +kernel)
  refine lv_aload_n hx hb dX12_rain_0 rfl (lv_at hlv 0 rfl) ?_
  refine lv_iconst (v := 0) hx hb dX12_rain_1 (by decide) ?_
  refine va_put (D := D) (ci := 12) (v := .int 0) (ty := .int) (C := RX12) (T := TX12) (N := 38) hx hb hts hi12 tyX12 tyX12_ok nmX12 hown hG.1 hP hD hS 0 rfl rfl 0 (by decide) lf1 (fun _ h9 => h9) rfl (by decide +kernel) rfl rfl (Nat.le_of_ble_eq_true rfl) dX12_rain_2 (fun H locs hP hD hS => ?_)
  have hP : va_P D vwCl [(mo, .inr (12, [.int 0, .ref (ma 1), .int 0, .int 0, .int 0, .int 0, .int 0, .int 0, .int (-1), .ref (ma 9), .ref (ma 10), .ref (ma 11), .ref (ma 12), .ref (ma 13), .ref (ma 14), .ref (ma 15), .int 0, .int 0, .int 0, .ref (ma 19), .ref (ma 20), .ref (ma 21), .int 0, .ref (ma 23), .ref (ma 24), .ref (ma 25), .ref (ma 26), .ref (ma 27), .ref (ma 28), .int 0, .int 0, .int 0, .int 0, .ref (ma 33), .int (-1), .ref (ma 35), .int 0, .int 0]))] H := hP
  have hD : va_D A [(mo, .inr (12, [.int 0, .ref (ma 1), .int 0, .int 0, .int 0, .int 0, .int 0, .int 0, .int (-1), .ref (ma 9), .ref (ma 10), .ref (ma 11), .ref (ma 12), .ref (ma 13), .ref (ma 14), .ref (ma 15), .int 0, .int 0, .int 0, .ref (ma 19), .ref (ma 20), .ref (ma 21), .int 0, .ref (ma 23), .ref (ma 24), .ref (ma 25), .ref (ma 26), .ref (ma 27), .ref (ma 28), .int 0, .int 0, .int 0, .int 0, .ref (ma 33), .int (-1), .ref (ma 35), .int 0, .int 0]))] := hD
  refine lv_aload_n hx hb dX12_rain_5 rfl (lv_at hlv 0 rfl) ?_
  refine lv_iload_n hx hb dX12_rain_6 rfl (lv_at hlv 1 rfl) ?_
  refine lv_if_lt (tgt := 22) hx hb dX12_rain_7 (by decide) (fun c => absurd c (by decide)) (fun _ => ?_)
  refine lv_iload_n hx hb dX12_rain_10 rfl (lv_at hlv 1 rfl) ?_
  refine lv_aload_n hx hb dX12_rain_11 rfl (lv_at hlv 0 rfl) ?_
  refine va_get (D := D) (ci := 12) (v := .int 0) (C := RX12) (T := TX12) (N := 38) hx hb hts hi12 hown hG.1 hP 0 rfl rfl 2 (by decide) lf77 (fun _ h9 => h9) rfl dX12_rain_12 ?_
  refine lv_icmp_gt (tgt := 22) hx hb dX12_rain_15 (by decide) (fun c => absurd c (by decide)) (fun _ => ?_)
  refine lv_iconst (v := 1) hx hb dX12_rain_18 (by decide) ?_
  refine lv_goto (tgt := 23) hx hb dX12_rain_19 (by decide) ?_
  refine lv_iconst (v := 1) hx hb dX12_rain_23 (by decide) ?_
  refine lv_iconst (v := 2) hx hb dX12_rain_24 (by decide) ?_
  refine cj_i (wr := []) (va_runV (As := [.int 1, .int 1, .int 2]) (rest := []) ⟨hx, hb, hml, hown, hts⟩ (c_may1 l hl D cy sa mo ma 1 2 H.size) (cwV 3 hts gg_1 rfl rfl rfl (by decide +kernel) ⟨Nat.le_of_ble_eq_true rfl, Nat.le_of_ble_eq_true rfl⟩) ⟨pcW.blind, (va_recv hG.1 hP (ci := 12) (q0 := 0) rfl rfl), (pcW.mk hP hD hS hA hG hT [0] rfl (by decide))⟩ rfl rfl hlv.1 rfl (lv_room (Nat.le_of_ble_eq_true rfl)) dX12_rain_25 ⟨Nat.le_of_ble_eq_true rfl, Nat.le_of_ble_eq_true rfl⟩) hP hD hS hA [0] [] rfl rfl (by decide) (by decide) (fun r1 u1 H locs hw1 hP hD hS => ?_)
  obtain rfl := hw1
  have hP : va_P D vwCl [(mo, .inr (12, [.int 0, .ref (ma 1), .int 0, .int 0, .int 0, .int 0, .int 0, .int 0, .int (-1), .ref (ma 9), .ref (ma 10), .ref (ma 11), .ref (ma 12), .ref (ma 13), .ref (ma 14), .ref (ma 15), .int 0, .int 0, .int 0, .ref (ma 19), .ref (ma 20), .ref (ma 21), .int 0, .ref (ma 23), .ref (ma 24), .ref (ma 25), .ref (ma 26), .ref (ma 27), .ref (ma 28), .int 0, .int 0, .int 0, .int 0, .ref (ma 33), .int (-1), .ref (ma 35), .int 0, .int 0]))] H := hP
  have hD : va_D A [(mo, .inr (12, [.int 0, .ref (ma 1), .int 0, .int 0, .int 0, .int 0, .int 0, .int 0, .int (-1), .ref (ma 9), .ref (ma 10), .ref (ma 11), .ref (ma 12), .ref (ma 13), .ref (ma 14), .ref (ma 15), .int 0, .int 0, .int 0, .ref (ma 19), .ref (ma 20), .ref (ma 21), .int 0, .ref (ma 23), .ref (ma 24), .ref (ma 25), .ref (ma 26), .ref (ma 27), .ref (ma 28), .int 0, .int 0, .int 0, .int 0, .ref (ma 33), .int (-1), .ref (ma 35), .int 0, .int 0]))] := hD
  refine lv_if_ne (tgt := 33) hx hb dX12_rain_28 (by decide) (fun _ => ?_) (fun c => absurd c (by decide))
  refine lv_aload_n hx hb dX12_rain_33 rfl (lv_at hlv 0 rfl) ?_
  refine lv_iload_n hx hb dX12_rain_34 rfl (lv_at hlv 1 rfl) ?_
  refine cj_v (wr := []) (va_runV (As := [.int 0]) (rest := []) ⟨hx, hb, hml, hown, hts⟩ (m_begins l hl D cy sa mo ma H.size) (cwV 1 hts gg_2 rfl rfl rfl (by decide +kernel) ⟨Nat.le_of_ble_eq_true rfl, Nat.le_of_ble_eq_true rfl⟩) ⟨pcW.blind, (va_recv hG.1 hP (ci := 12) (q0 := 0) rfl rfl), (pcW.mk hP hD hS hA hG hT [0] rfl (by decide))⟩ rfl rfl hlv.1 rfl (lv_room (Nat.le_of_ble_eq_true rfl)) dX12_rain_35 ⟨Nat.le_of_ble_eq_true rfl, Nat.le_of_ble_eq_true rfl⟩) hP hD hS hA [0] [] rfl rfl (by decide) (by decide) (fun u2 H locs hw2 hP hD hS => ?_)
  have hP : va_P D vwCl [(mo, .inr (12, [.int 0, .ref (ma 1), .int 0, .int 0, .int 0, .int (-1), .int 0, .int 0, .int (-1), .ref (ma 9), .ref (ma 10), .ref (ma 11), .ref (ma 12), .ref (ma 13), .ref (ma 14), .ref (ma 15), .int 0, .int 0, .int 0, .ref (ma 19), .ref (ma 20), .ref (ma 21), .int 0, .ref (ma 23), .ref (ma 24), .ref (ma 25), .ref (ma 26), .ref (ma 27), .ref (ma 28), .int 0, .int 0, .int 0, .int 0, .ref (ma 33), .int (-1), .ref (ma 35), .int 0, .int 0]))] H := hP
  have hD : va_D A [(mo, .inr (12, [.int 0, .ref (ma 1), .int 0, .int 0, .int 0, .int (-1), .int 0, .int 0, .int (-1), .ref (ma 9), .ref (ma 10), .ref (ma 11), .ref (ma 12), .ref (ma 13), .ref (ma 14), .ref (ma 15), .int 0, .int 0, .int 0, .ref (ma 19), .ref (ma 20), .ref (ma 21), .int 0, .ref (ma 23), .ref (ma 24), .ref (ma 25), .ref (ma 26), .ref (ma 27), .ref (ma 28), .int 0, .int 0, .int 0, .int 0, .ref (ma 33), .int (-1), .ref (ma 35), .int 0, .int 0]))] := hD
  refine lv_aload_n hx hb dX12_rain_38 rfl (lv_at hlv 0 rfl) ?_
  refine va_get (D := D) (ci := 12) (v := .int 0) (C := RX12) (T := TX12) (N := 38) hx hb hts hi12 hown hG.1 hP 0 rfl rfl 17 (by decide) lf204 (fun _ h9 => h9) rfl dX12_rain_39 ?_
  refine lv_iconst (v := 4) hx hb dX12_rain_42 (by decide) ?_
  refine lv_icmp_ne (tgt := 48) hx hb dX12_rain_43 (by decide) (fun _ => ?_) (fun c => absurd c (by decide))
  refine lv_iconst (v := 0) hx hb dX12_rain_48 (by decide) ?_
  refine lv_istore_n (lv' := [(2, .int 0), (0, .ref mo), (1, .int 0)]) hx hb dX12_rain_49 rfl hlv (by decide) rfl (fun ls hlv => ?_)
  refine lv_aload_n hx hb dX12_rain_50 rfl (lv_at hlv 1 rfl) ?_
  refine cj_i (wr := []) (va_runV (As := []) (rest := []) ⟨hx, hb, hml, hown, hts⟩ (m_isMore l hl D cy sa mo ma H.size) (cwV 0 hts gg_3 rfl rfl rfl (by decide +kernel) ⟨Nat.le_of_ble_eq_true rfl, Nat.le_of_ble_eq_true rfl⟩) ⟨pcW.blind, (va_recv hG.1 hP (ci := 12) (q0 := 0) rfl rfl), (pcW.mk hP hD hS hA hG hT [0] rfl (by decide))⟩ rfl rfl hlv.1 rfl (lv_room (Nat.le_of_ble_eq_true rfl)) dX12_rain_51 ⟨Nat.le_of_ble_eq_true rfl, Nat.le_of_ble_eq_true rfl⟩) hP hD hS hA [0] [] rfl rfl (by decide) (by decide) (fun r3 u3 H locs hw3 hP hD hS => ?_)
  obtain rfl := hw3
  have hP : va_P D vwCl [(mo, .inr (12, [.int 0, .ref (ma 1), .int 0, .int 0, .int 0, .int (-1), .int 0, .int 0, .int (-1), .ref (ma 9), .ref (ma 10), .ref (ma 11), .ref (ma 12), .ref (ma 13), .ref (ma 14), .ref (ma 15), .int 0, .int 0, .int 0, .ref (ma 19), .ref (ma 20), .ref (ma 21), .int 0, .ref (ma 23), .ref (ma 24), .ref (ma 25), .ref (ma 26), .ref (ma 27), .ref (ma 28), .int 0, .int 0, .int 0, .int 0, .ref (ma 33), .int (-1), .ref (ma 35), .int 0, .int 0]))] H := hP
  have hD : va_D A [(mo, .inr (12, [.int 0, .ref (ma 1), .int 0, .int 0, .int 0, .int (-1), .int 0, .int 0, .int (-1), .ref (ma 9), .ref (ma 10), .ref (ma 11), .ref (ma 12), .ref (ma 13), .ref (ma 14), .ref (ma 15), .int 0, .int 0, .int 0, .ref (ma 19), .ref (ma 20), .ref (ma 21), .int 0, .ref (ma 23), .ref (ma 24), .ref (ma 25), .ref (ma 26), .ref (ma 27), .ref (ma 28), .int 0, .int 0, .int 0, .int 0, .ref (ma 33), .int (-1), .ref (ma 35), .int 0, .int 0]))] := hD
  refine lv_if_ne (tgt := 66) hx hb dX12_rain_54 (by decide) (fun c => absurd (by decide) c) (fun _ => ?_)
  refine lv_aload_n hx hb dX12_rain_57 rfl (lv_at hlv 1 rfl) ?_
  refine lv_iconst (v := 1) hx hb dX12_rain_58 (by decide) ?_
  refine lv_aload_n hx hb dX12_rain_59 rfl (lv_at hlv 1 rfl) ?_
  refine va_get (D := D) (ci := 12) (v := .int 0) (C := RX12) (T := TX12) (N := 38) hx hb hts hi12 hown hG.1 hP 0 rfl rfl 3 (by decide) lf89 (fun _ h9 => h9) rfl dX12_rain_60 ?_
  refine cj_v (wr := []) (va_runV (As := [.int 1, .int 0]) (rest := []) ⟨hx, hb, hml, hown, hts⟩ (m_wrong l hl D cy sa mo ma H.size) (cwV 2 hts gg_4 rfl rfl rfl (by decide +kernel) ⟨Nat.le_of_ble_eq_true rfl, Nat.le_of_ble_eq_true rfl⟩) ⟨pcW.blind, (va_recv hG.1 hP (ci := 12) (q0 := 0) rfl rfl), (pcW.mk hP hD hS hA hG hT [0] rfl (by decide))⟩ rfl rfl hlv.1 rfl (lv_room (Nat.le_of_ble_eq_true rfl)) dX12_rain_63 ⟨Nat.le_of_ble_eq_true rfl, Nat.le_of_ble_eq_true rfl⟩) hP hD hS hA [0] [] rfl rfl (by decide) (by decide) (fun u4 H locs hw4 hP hD hS => ?_)
  have hP : va_P D vwCl [(mo, .inr (12, [.int 0, .ref (ma 1), .int 0, .int 0, .int 0, .int 0, .int 1, .int 0, .int (-1), .ref (ma 9), .ref (ma 10), .ref (ma 11), .ref (ma 12), .ref (ma 13), .ref (ma 14), .ref (ma 15), .int 0, .int 0, .int 0, .ref (ma 19), .ref (ma 20), .ref (ma 21), .int 0, .ref (ma 23), .ref (ma 24), .ref (ma 25), .ref (ma 26), .ref (ma 27), .ref (ma 28), .int 0, .int 0, .int 0, .int 0, .ref (ma 33), .int (-1), .ref (ma 35), .int 0, .int 0]))] H := hP
  have hD : va_D A [(mo, .inr (12, [.int 0, .ref (ma 1), .int 0, .int 0, .int 0, .int 0, .int 1, .int 0, .int (-1), .ref (ma 9), .ref (ma 10), .ref (ma 11), .ref (ma 12), .ref (ma 13), .ref (ma 14), .ref (ma 15), .int 0, .int 0, .int 0, .ref (ma 19), .ref (ma 20), .ref (ma 21), .int 0, .ref (ma 23), .ref (ma 24), .ref (ma 25), .ref (ma 26), .ref (ma 27), .ref (ma 28), .int 0, .int 0, .int 0, .int 0, .ref (ma 33), .int (-1), .ref (ma 35), .int 0, .int 0]))] := hD
  refine lv_aload_n hx hb dX12_rain_66 rfl (lv_at hlv 1 rfl) ?_
  refine cj_i (wr := []) (va_runV (As := []) (rest := []) ⟨hx, hb, hml, hown, hts⟩ (m_fineF l hl D cy sa mo ma (-1) H.size) (cwV 0 hts gg_5 rfl rfl rfl (by decide +kernel) ⟨Nat.le_of_ble_eq_true rfl, Nat.le_of_ble_eq_true rfl⟩) ⟨pcW.blind, (va_recv hG.1 hP (ci := 12) (q0 := 0) rfl rfl), (pcW.mk hP hD hS hA hG hT [0] rfl (by decide))⟩ rfl rfl hlv.1 rfl (lv_room (Nat.le_of_ble_eq_true rfl)) dX12_rain_67 ⟨Nat.le_of_ble_eq_true rfl, Nat.le_of_ble_eq_true rfl⟩) hP hD hS hA [0] [] rfl rfl (by decide) (by decide) (fun r5 u5 H locs hw5 hP hD hS => ?_)
  obtain rfl := hw5
  have hP : va_P D vwCl [(mo, .inr (12, [.int 0, .ref (ma 1), .int 0, .int 0, .int 0, .int 0, .int 1, .int 0, .int (-1), .ref (ma 9), .ref (ma 10), .ref (ma 11), .ref (ma 12), .ref (ma 13), .ref (ma 14), .ref (ma 15), .int 0, .int 0, .int 0, .ref (ma 19), .ref (ma 20), .ref (ma 21), .int 0, .ref (ma 23), .ref (ma 24), .ref (ma 25), .ref (ma 26), .ref (ma 27), .ref (ma 28), .int 0, .int 0, .int 0, .int 0, .ref (ma 33), .int (-1), .ref (ma 35), .int 0, .int 0]))] H := hP
  have hD : va_D A [(mo, .inr (12, [.int 0, .ref (ma 1), .int 0, .int 0, .int 0, .int 0, .int 1, .int 0, .int (-1), .ref (ma 9), .ref (ma 10), .ref (ma 11), .ref (ma 12), .ref (ma 13), .ref (ma 14), .ref (ma 15), .int 0, .int 0, .int 0, .ref (ma 19), .ref (ma 20), .ref (ma 21), .int 0, .ref (ma 23), .ref (ma 24), .ref (ma 25), .ref (ma 26), .ref (ma 27), .ref (ma 28), .int 0, .int 0, .int 0, .int 0, .ref (ma 33), .int (-1), .ref (ma 35), .int 0, .int 0]))] := hD
  refine lv_if_eq (tgt := 187) hx hb dX12_rain_70 (by decide) (fun _ => ?_) (fun c => absurd (by decide) c)
  refine lv_aload_n hx hb dX12_rain_187 rfl (lv_at hlv 1 rfl) ?_
  refine lv_aload_n hx hb dX12_rain_188 rfl (lv_at hlv 1 rfl) ?_
  refine va_get (D := D) (ci := 12) (v := .int 0) (C := RX12) (T := TX12) (N := 38) hx hb hts hi12 hown hG.1 hP 0 rfl rfl 17 (by decide) lf204 (fun _ h9 => h9) rfl dX12_rain_189 ?_
  refine cj_i (wr := []) (va_runV (As := [.int 0]) (rest := []) ⟨hx, hb, hml, hown, hts⟩ (m_resultF l hl D cy sa mo ma H.size) (cwV 1 hts gg_6 rfl rfl rfl (by decide +kernel) ⟨Nat.le_of_ble_eq_true rfl, Nat.le_of_ble_eq_true rfl⟩) ⟨pcW.blind, (va_recv hG.1 hP (ci := 12) (q0 := 0) rfl rfl), (pcW.mk hP hD hS hA hG hT [0] rfl (by decide))⟩ rfl rfl hlv.1 rfl (lv_room (Nat.le_of_ble_eq_true rfl)) dX12_rain_192 ⟨Nat.le_of_ble_eq_true rfl, Nat.le_of_ble_eq_true rfl⟩) hP hD hS hA [0] [] rfl rfl (by decide) (by decide) (fun r6 u6 H locs hw6 hP hD hS => ?_)
  obtain rfl := hw6
  have hP : va_P D vwCl [(mo, .inr (12, [.int 0, .ref (ma 1), .int 0, .int 0, .int 0, .int 0, .int 1, .int 0, .int 0, .ref (ma 9), .ref (ma 10), .ref (ma 11), .ref (ma 12), .ref (ma 13), .ref (ma 14), .ref (ma 15), .int 0, .int 0, .int 0, .ref (ma 19), .ref (ma 20), .ref (ma 21), .int 0, .ref (ma 23), .ref (ma 24), .ref (ma 25), .ref (ma 26), .ref (ma 27), .ref (ma 28), .int 0, .int 0, .int 0, .int 0, .ref (ma 33), .int (-1), .ref (ma 35), .int 0, .int 0]))] H := hP
  have hD : va_D A [(mo, .inr (12, [.int 0, .ref (ma 1), .int 0, .int 0, .int 0, .int 0, .int 1, .int 0, .int 0, .ref (ma 9), .ref (ma 10), .ref (ma 11), .ref (ma 12), .ref (ma 13), .ref (ma 14), .ref (ma 15), .int 0, .int 0, .int 0, .ref (ma 19), .ref (ma 20), .ref (ma 21), .int 0, .ref (ma 23), .ref (ma 24), .ref (ma 25), .ref (ma 26), .ref (ma 27), .ref (ma 28), .int 0, .int 0, .int 0, .int 0, .ref (ma 33), .int (-1), .ref (ma 35), .int 0, .int 0]))] := hD
  refine lv_istore_n (lv' := [(3, .int (-9)), (2, .int 0), (0, .ref mo), (1, .int 0)]) hx hb dX12_rain_195 rfl hlv (by decide) rfl (fun ls hlv => ?_)
  refine lv_iload_n hx hb dX12_rain_196 rfl (lv_at hlv 0 rfl) ?_
  refine lv_aload_n hx hb dX12_rain_197 rfl (lv_at hlv 2 rfl) ?_
  refine va_get (D := D) (ci := 12) (v := .int 0) (C := RX12) (T := TX12) (N := 38) hx hb hts hi12 hown hG.1 hP 0 rfl rfl 17 (by decide) lf204 (fun _ h9 => h9) rfl dX12_rain_198 ?_
  refine lv_icmp_ne (tgt := 224) hx hb dX12_rain_201 (by decide) (fun _ => ?_) (fun c => absurd c (by decide))
  refine lv_iload_n hx hb dX12_rain_224 rfl (lv_at hlv 0 rfl) ?_
  refine W.widen (k := 0) (n := 0) (Nat.le_of_ble_eq_true rfl) (Nat.le_of_ble_eq_true rfl) ?_
  exact W.iret (v := (-9)) hx hb hr (fun t ht hW => ⟨⟨(-9), ((fun k => ([] : List Nat).getD k 0), (fun k => ([] : List Int32).getD k 0), (fun k => ([] : List (Nat → Int32)).getD k (fun _ => 0))), rfl, (by first | (exact (by rfl))), by rw [ht]; exact hP.sub [0] rfl, hD.sub [0] (by decide) rfl⟩, hS.F ht⟩) hS.2.2 dX12_rain_225
def vs_m_law0 : List Cond := .code yX12_law cX12_law 4 (some .int) :: (([.fieldLink RX12 1 "KerbSplashModel" "thrown" "I", .fieldLink RX12 77 "KerbSplashModel" "taped" "I", .fieldLink RX12 209 "KerbSplashModel" "laws" "I", .fieldLink RX12 212 "KerbSplashModel" "steps" "I", .fieldLink RX12 56 "KerbSplashModel" "lawFrom" "[I", .fieldLink RX12 59 "KerbSplashModel" "lawTo" "[I"] : List Cond) ++ ((wsX120) ++ ((wsV RX12 175 RX12 yX12_may vs_c_may1) ++ ((wsV RX12 179 RX12 yX12_begins vs_m_begins) ++ ((wsV RX12 109 RX12 yX12_fine vs_m_fine) ++ ((wsV RX12 182 RX12 yX12_isMore vs_m_isMore) ++ ((wsV RX12 198 RX12 yX12_result vs_m_result) ++ ([]))))))))
set_option maxHeartbeats 4000000 in
set_option maxRecDepth 100000 in
theorem m_law0 (l : Launch) (hl : l.stackTraces = false) (D : va_G) (cy : Nat → ClassId) (sa : Nat → Nat) (mo : Nat) (ma : Nat → Nat) (sz : Nat) : Met l yX12_law vs_m_law0 ({ frames := 2, cells := 0, slots := 0, locals := 41 }) (va_Pc [.ref mo, .int 0] (pcW D cy sa sz [(mo, .inr (12, [.int 0, .ref (ma 1), .int 0, .int 0, .int 0, .int 0, .int 0, .int 0, .int (-1), .ref (ma 9), .ref (ma 10), .ref (ma 11), .ref (ma 12), .ref (ma 13), .ref (ma 14), .ref (ma 15), .int 0, .int 0, .int 0, .ref (ma 19), .ref (ma 20), .ref (ma 21), .int 0, .ref (ma 23), .ref (ma 24), .ref (ma 25), .ref (ma 26), .ref (ma 27), .ref (ma 28), .int 0, .int 0, .int 0, .int 0, .ref (ma 33), .int (-1), .ref (ma 35), .int 0, .int 0])), ((ma 25), .inl (cy 0, 20, .inl (fun _ => 0))), ((ma 26), .inl (cy 0, 20, .inl (fun _ => 0)))])) (va_Qi (fun (r : Int32) (u : SU) => (r = 0)) (fun u t => atW D (va_A [(mo, .inr (12, [.int 0, .ref (ma 1), .int 0, .int 0, .int 0, .int 0, .int 0, .int 0, .int (-1), .ref (ma 9), .ref (ma 10), .ref (ma 11), .ref (ma 12), .ref (ma 13), .ref (ma 14), .ref (ma 15), .int 0, .int 0, .int 0, .ref (ma 19), .ref (ma 20), .ref (ma 21), .int 0, .ref (ma 23), .ref (ma 24), .ref (ma 25), .ref (ma 26), .ref (ma 27), .ref (ma 28), .int 0, .int 0, .int 0, .int 0, .ref (ma 33), .int (-1), .ref (ma 35), .int 0, .int 0])), ((ma 25), .inl (cy 0, 20, .inl (fun _ => 0))), ((ma 26), .inl (cy 0, 20, .inl (fun _ => 0)))] sz) [(mo, .inr (12, [.int 0, .ref (ma 1), .int 0, .int 0, .int 0, .int (-1), .int 0, .int 0, .int (-1), .ref (ma 9), .ref (ma 10), .ref (ma 11), .ref (ma 12), .ref (ma 13), .ref (ma 14), .ref (ma 15), .int 0, .int 0, .int 1, .ref (ma 19), .ref (ma 20), .ref (ma 21), .int 0, .ref (ma 23), .ref (ma 24), .ref (ma 25), .ref (ma 26), .ref (ma 27), .ref (ma 28), .int 0, .int 0, .int 0, .int 0, .ref (ma 33), .int (-1), .ref (ma 35), .int 0, .int 0]))] t) (va_A [(mo, .inr (12, [.int 0, .ref (ma 1), .int 0, .int 0, .int 0, .int 0, .int 0, .int 0, .int (-1), .ref (ma 9), .ref (ma 10), .ref (ma 11), .ref (ma 12), .ref (ma 13), .ref (ma 14), .ref (ma 15), .int 0, .int 0, .int 0, .ref (ma 19), .ref (ma 20), .ref (ma 21), .int 0, .ref (ma 23), .ref (ma 24), .ref (ma 25), .ref (ma 26), .ref (ma 27), .ref (ma 28), .int 0, .int 0, .int 0, .int 0, .ref (ma 33), .int (-1), .ref (ma 35), .int 0, .int 0])), ((ma 25), .inl (cy 0, 20, .inl (fun _ => 0))), ((ma 26), .inl (cy 0, 20, .inl (fun _ => 0)))] sz)) 0 0 (va_A [(mo, .inr (12, [.int 0, .ref (ma 1), .int 0, .int 0, .int 0, .int 0, .int 0, .int 0, .int (-1), .ref (ma 9), .ref (ma 10), .ref (ma 11), .ref (ma 12), .ref (ma 13), .ref (ma 14), .ref (ma 15), .int 0, .int 0, .int 0, .ref (ma 19), .ref (ma 20), .ref (ma 21), .int 0, .ref (ma 23), .ref (ma 24), .ref (ma 25), .ref (ma 26), .ref (ma 27), .ref (ma 28), .int 0, .int 0, .int 0, .int 0, .ref (ma 33), .int (-1), .ref (ma 35), .int 0, .int 0])), ((ma 25), .inl (cy 0, 20, .inl (fun _ => 0))), ((ma 26), .inl (cy 0, 20, .inl (fun _ => 0)))] sz) := by
  refine Met.ofW (cc := cX12_law) (maxL := 4) (ret := (some .int)) (by decide) rfl ?_
  intro p e s m args below meth c s₁ B hml hv
  obtain ⟨rfl, hsz, hP, hG, hD0, hT⟩ := hv
  have hx := B.exec
  have hb := B.bytes
  have hr := B.returns
  have hts := atoms_spec (ws := vs_m_law0) B.pre
  have hown : s.vm.findClass RX12 = some m.cls := findClass_of_methodNamed B.named
  have hlocks := B.notSynchronized
  subst hsz
  have hD := hD0.self (sz := s.heap.size)
  generalize hAe : va_A [(mo, .inr (12, [.int 0, .ref (ma 1), .int 0, .int 0, .int 0, .int 0, .int 0, .int 0, .int (-1), .ref (ma 9), .ref (ma 10), .ref (ma 11), .ref (ma 12), .ref (ma 13), .ref (ma 14), .ref (ma 15), .int 0, .int 0, .int 0, .ref (ma 19), .ref (ma 20), .ref (ma 21), .int 0, .ref (ma 23), .ref (ma 24), .ref (ma 25), .ref (ma 26), .ref (ma 27), .ref (ma 28), .int 0, .int 0, .int 0, .int 0, .ref (ma 33), .int (-1), .ref (ma 35), .int 0, .int 0])), ((ma 25), .inl (cy 0, 20, .inl (fun _ => 0))), ((ma 26), .inl (cy 0, 20, .inl (fun _ => 0)))] s.heap.size = A at hD hT ⊢
  have hA : ∀ q : Nat, s.heap.size ≤ q → A q := fun q h => by rw [← hAe]; exact Or.inr h
  have hS : va_S A s.heap s.heap [] := va_S.rf
  have hl0 := lv_entry ([.ref mo, .int 0]) (n := 4) (Nat.le_of_ble_eq_true rfl)
  rw [lg_entry_eq]
  generalize (lg_sl ([.ref mo, .int 0]) ++ List.replicate (4 - (lg_sl ([.ref mo, .int 0])).length) Slot.unset).toArray = ls at hl0 ⊢
  have hlv : lv_has ls 4 [(0, .ref mo), (1, .int 0)] := hl0
  have lf1 := hts (.fieldLink RX12 1 "KerbSplashModel" "thrown" "I") (List.mem_of_getElem? (i := 1) rfl)
  have hi12 : ∀ w ∈ wsX120, w ∈ vs_m_law0 := fun w h => List.mem_cons_of_mem _ (List.mem_append_right _ (List.mem_append_left _ h))
  have lf77 := hts (.fieldLink RX12 77 "KerbSplashModel" "taped" "I") (List.mem_of_getElem? (i := 2) rfl)
  have gg_1 : GoodIn vs_m_law0 (wsV RX12 175 RX12 yX12_may vs_c_may1) := goodIn_sub (fun w h => List.mem_cons_of_mem _ (List.mem_append_right _ (List.mem_append_right _ (List.mem_append_left _ h)))) (by decide +kernel)
  have gg_2 : GoodIn vs_m_law0 (wsV RX12 179 RX12 yX12_begins vs_m_begins) := goodIn_sub (fun w h => List.mem_cons_of_mem _ (List.mem_append_right _ (List.mem_append_right _ (List.mem_append_right _ (List.mem_append_left _ h))))) (by decide +kernel)
  have lf209 := hts (.fieldLink RX12 209 "KerbSplashModel" "laws" "I") (List.mem_of_getElem? (i := 3) rfl)
  have lf212 := hts (.fieldLink RX12 212 "KerbSplashModel" "steps" "I") (List.mem_of_getElem? (i := 4) rfl)
  have lf56 := hts (.fieldLink RX12 56 "KerbSplashModel" "lawFrom" "[I") (List.mem_of_getElem? (i := 5) rfl)
  have lf59 := hts (.fieldLink RX12 59 "KerbSplashModel" "lawTo" "[I") (List.mem_of_getElem? (i := 6) rfl)
  have gg_3 : GoodIn vs_m_law0 (wsV RX12 109 RX12 yX12_fine vs_m_fine) := goodIn_sub (fun w h => List.mem_cons_of_mem _ (List.mem_append_right _ (List.mem_append_right _ (List.mem_append_right _ (List.mem_append_right _ (List.mem_append_left _ h)))))) (by decide +kernel)
  have gg_4 : GoodIn vs_m_law0 (wsV RX12 182 RX12 yX12_isMore vs_m_isMore) := goodIn_sub (fun w h => List.mem_cons_of_mem _ (List.mem_append_right _ (List.mem_append_right _ (List.mem_append_right _ (List.mem_append_right _ (List.mem_append_right _ (List.mem_append_left _ h))))))) (by decide +kernel)
  have gg_5 : GoodIn vs_m_law0 (wsV RX12 198 RX12 yX12_result vs_m_result) := goodIn_sub (fun w h => List.mem_cons_of_mem _ (List.mem_append_right _ (List.mem_append_right _ (List.mem_append_right _ (List.mem_append_right _ (List.mem_append_right _ (List.mem_append_right _ (List.mem_append_left _ h)))))))) (by decide +kernel)
  refine lv_aload_n hx hb dX12_law_0 rfl (lv_at hlv 0 rfl) ?_
  refine lv_iconst (v := 0) hx hb dX12_law_1 (by decide) ?_
  refine va_put (D := D) (ci := 12) (v := .int 0) (ty := .int) (C := RX12) (T := TX12) (N := 38) hx hb hts hi12 tyX12 tyX12_ok nmX12 hown hG.1 hP hD hS 0 rfl rfl 0 (by decide) lf1 (fun _ h9 => h9) rfl (by decide +kernel) rfl rfl (Nat.le_of_ble_eq_true rfl) dX12_law_2 (fun H locs hP hD hS => ?_)
  have hP : va_P D vwCl [(mo, .inr (12, [.int 0, .ref (ma 1), .int 0, .int 0, .int 0, .int 0, .int 0, .int 0, .int (-1), .ref (ma 9), .ref (ma 10), .ref (ma 11), .ref (ma 12), .ref (ma 13), .ref (ma 14), .ref (ma 15), .int 0, .int 0, .int 0, .ref (ma 19), .ref (ma 20), .ref (ma 21), .int 0, .ref (ma 23), .ref (ma 24), .ref (ma 25), .ref (ma 26), .ref (ma 27), .ref (ma 28), .int 0, .int 0, .int 0, .int 0, .ref (ma 33), .int (-1), .ref (ma 35), .int 0, .int 0])), ((ma 25), .inl (cy 0, 20, .inl (fun _ => 0))), ((ma 26), .inl (cy 0, 20, .inl (fun _ => 0)))] H := hP
  have hD : va_D A [(mo, .inr (12, [.int 0, .ref (ma 1), .int 0, .int 0, .int 0, .int 0, .int 0, .int 0, .int (-1), .ref (ma 9), .ref (ma 10), .ref (ma 11), .ref (ma 12), .ref (ma 13), .ref (ma 14), .ref (ma 15), .int 0, .int 0, .int 0, .ref (ma 19), .ref (ma 20), .ref (ma 21), .int 0, .ref (ma 23), .ref (ma 24), .ref (ma 25), .ref (ma 26), .ref (ma 27), .ref (ma 28), .int 0, .int 0, .int 0, .int 0, .ref (ma 33), .int (-1), .ref (ma 35), .int 0, .int 0])), ((ma 25), .inl (cy 0, 20, .inl (fun _ => 0))), ((ma 26), .inl (cy 0, 20, .inl (fun _ => 0)))] := hD
  refine lv_aload_n hx hb dX12_law_5 rfl (lv_at hlv 0 rfl) ?_
  refine lv_iload_n hx hb dX12_law_6 rfl (lv_at hlv 1 rfl) ?_
  refine lv_if_lt (tgt := 22) hx hb dX12_law_7 (by decide) (fun c => absurd c (by decide)) (fun _ => ?_)
  refine lv_iload_n hx hb dX12_law_10 rfl (lv_at hlv 1 rfl) ?_
  refine lv_aload_n hx hb dX12_law_11 rfl (lv_at hlv 0 rfl) ?_
  refine va_get (D := D) (ci := 12) (v := .int 0) (C := RX12) (T := TX12) (N := 38) hx hb hts hi12 hown hG.1 hP 0 rfl rfl 2 (by decide) lf77 (fun _ h9 => h9) rfl dX12_law_12 ?_
  refine lv_icmp_gt (tgt := 22) hx hb dX12_law_15 (by decide) (fun c => absurd c (by decide)) (fun _ => ?_)
  refine lv_iconst (v := 1) hx hb dX12_law_18 (by decide) ?_
  refine lv_goto (tgt := 23) hx hb dX12_law_19 (by decide) ?_
  refine lv_iconst (v := 1) hx hb dX12_law_23 (by decide) ?_
  refine lv_iconst (v := 2) hx hb dX12_law_24 (by decide) ?_
  refine cj_i (wr := [((ma 25), .inl (cy 0, 20, .inl (fun _ => 0))), ((ma 26), .inl (cy 0, 20, .inl (fun _ => 0)))]) (va_runV (As := [.int 1, .int 1, .int 2]) (rest := []) ⟨hx, hb, hml, hown, hts⟩ (c_may1 l hl D cy sa mo ma 1 2 H.size) (cwV 3 hts gg_1 rfl rfl rfl (by decide +kernel) ⟨Nat.le_of_ble_eq_true rfl, Nat.le_of_ble_eq_true rfl⟩) ⟨pcW.blind, (va_recv hG.1 hP (ci := 12) (q0 := 0) rfl rfl), (pcW.mk hP hD hS hA hG hT [0] rfl (by decide))⟩ rfl rfl hlv.1 rfl (lv_room (Nat.le_of_ble_eq_true rfl)) dX12_law_25 ⟨Nat.le_of_ble_eq_true rfl, Nat.le_of_ble_eq_true rfl⟩) hP hD hS hA [0] [1, 2] rfl rfl (by decide) (by decide) (fun r1 u1 H locs hw1 hP hD hS => ?_)
  obtain rfl := hw1
  have hP : va_P D vwCl [((ma 25), .inl (cy 0, 20, .inl (fun _ => 0))), ((ma 26), .inl (cy 0, 20, .inl (fun _ => 0))), (mo, .inr (12, [.int 0, .ref (ma 1), .int 0, .int 0, .int 0, .int 0, .int 0, .int 0, .int (-1), .ref (ma 9), .ref (ma 10), .ref (ma 11), .ref (ma 12), .ref (ma 13), .ref (ma 14), .ref (ma 15), .int 0, .int 0, .int 0, .ref (ma 19), .ref (ma 20), .ref (ma 21), .int 0, .ref (ma 23), .ref (ma 24), .ref (ma 25), .ref (ma 26), .ref (ma 27), .ref (ma 28), .int 0, .int 0, .int 0, .int 0, .ref (ma 33), .int (-1), .ref (ma 35), .int 0, .int 0]))] H := hP
  have hD : va_D A [((ma 25), .inl (cy 0, 20, .inl (fun _ => 0))), ((ma 26), .inl (cy 0, 20, .inl (fun _ => 0))), (mo, .inr (12, [.int 0, .ref (ma 1), .int 0, .int 0, .int 0, .int 0, .int 0, .int 0, .int (-1), .ref (ma 9), .ref (ma 10), .ref (ma 11), .ref (ma 12), .ref (ma 13), .ref (ma 14), .ref (ma 15), .int 0, .int 0, .int 0, .ref (ma 19), .ref (ma 20), .ref (ma 21), .int 0, .ref (ma 23), .ref (ma 24), .ref (ma 25), .ref (ma 26), .ref (ma 27), .ref (ma 28), .int 0, .int 0, .int 0, .int 0, .ref (ma 33), .int (-1), .ref (ma 35), .int 0, .int 0]))] := hD
  refine lv_if_ne (tgt := 33) hx hb dX12_law_28 (by decide) (fun _ => ?_) (fun c => absurd c (by decide))
  refine lv_aload_n hx hb dX12_law_33 rfl (lv_at hlv 0 rfl) ?_
  refine lv_iload_n hx hb dX12_law_34 rfl (lv_at hlv 1 rfl) ?_
  refine cj_v (wr := [((ma 25), .inl (cy 0, 20, .inl (fun _ => 0))), ((ma 26), .inl (cy 0, 20, .inl (fun _ => 0)))]) (va_runV (As := [.int 0]) (rest := []) ⟨hx, hb, hml, hown, hts⟩ (m_begins l hl D cy sa mo ma H.size) (cwV 1 hts gg_2 rfl rfl rfl (by decide +kernel) ⟨Nat.le_of_ble_eq_true rfl, Nat.le_of_ble_eq_true rfl⟩) ⟨pcW.blind, (va_recv hG.1 hP (ci := 12) (q0 := 2) rfl rfl), (pcW.mk hP hD hS hA hG hT [2] rfl (by decide))⟩ rfl rfl hlv.1 rfl (lv_room (Nat.le_of_ble_eq_true rfl)) dX12_law_35 ⟨Nat.le_of_ble_eq_true rfl, Nat.le_of_ble_eq_true rfl⟩) hP hD hS hA [2] [0, 1] rfl rfl (by decide) (by decide) (fun u2 H locs hw2 hP hD hS => ?_)
  have hP : va_P D vwCl [((ma 25), .inl (cy 0, 20, .inl (fun _ => 0))), ((ma 26), .inl (cy 0, 20, .inl (fun _ => 0))), (mo, .inr (12, [.int 0, .ref (ma 1), .int 0, .int 0, .int 0, .int (-1), .int 0, .int 0, .int (-1), .ref (ma 9), .ref (ma 10), .ref (ma 11), .ref (ma 12), .ref (ma 13), .ref (ma 14), .ref (ma 15), .int 0, .int 0, .int 0, .ref (ma 19), .ref (ma 20), .ref (ma 21), .int 0, .ref (ma 23), .ref (ma 24), .ref (ma 25), .ref (ma 26), .ref (ma 27), .ref (ma 28), .int 0, .int 0, .int 0, .int 0, .ref (ma 33), .int (-1), .ref (ma 35), .int 0, .int 0]))] H := hP
  have hD : va_D A [((ma 25), .inl (cy 0, 20, .inl (fun _ => 0))), ((ma 26), .inl (cy 0, 20, .inl (fun _ => 0))), (mo, .inr (12, [.int 0, .ref (ma 1), .int 0, .int 0, .int 0, .int (-1), .int 0, .int 0, .int (-1), .ref (ma 9), .ref (ma 10), .ref (ma 11), .ref (ma 12), .ref (ma 13), .ref (ma 14), .ref (ma 15), .int 0, .int 0, .int 0, .ref (ma 19), .ref (ma 20), .ref (ma 21), .int 0, .ref (ma 23), .ref (ma 24), .ref (ma 25), .ref (ma 26), .ref (ma 27), .ref (ma 28), .int 0, .int 0, .int 0, .int 0, .ref (ma 33), .int (-1), .ref (ma 35), .int 0, .int 0]))] := hD
  refine lv_aload_n hx hb dX12_law_38 rfl (lv_at hlv 0 rfl) ?_
  refine va_get (D := D) (ci := 12) (v := .int 0) (C := RX12) (T := TX12) (N := 38) hx hb hts hi12 hown hG.1 hP 2 rfl rfl 18 (by decide) lf209 (fun _ h9 => h9) rfl dX12_law_39 ?_
  refine lv_iconst (v := 4) hx hb dX12_law_42 (by decide) ?_
  refine lv_icmp_ne (tgt := 48) hx hb dX12_law_43 (by decide) (fun _ => ?_) (fun c => absurd c (by decide))
  refine lv_aload_n hx hb dX12_law_48 rfl (lv_at hlv 0 rfl) ?_
  refine lv_iconst (v := 0) hx hb dX12_law_49 (by decide) ?_
  refine va_put (D := D) (ci := 12) (v := .int 0) (ty := .int) (C := RX12) (T := TX12) (N := 38) hx hb hts hi12 tyX12 tyX12_ok nmX12 hown hG.1 hP hD hS 2 rfl rfl 22 (by decide) lf212 (fun _ h9 => h9) rfl (by decide +kernel) rfl rfl (Nat.le_of_ble_eq_true rfl) dX12_law_50 (fun H locs hP hD hS => ?_)
  have hP : va_P D vwCl [((ma 25), .inl (cy 0, 20, .inl (fun _ => 0))), ((ma 26), .inl (cy 0, 20, .inl (fun _ => 0))), (mo, .inr (12, [.int 0, .ref (ma 1), .int 0, .int 0, .int 0, .int (-1), .int 0, .int 0, .int (-1), .ref (ma 9), .ref (ma 10), .ref (ma 11), .ref (ma 12), .ref (ma 13), .ref (ma 14), .ref (ma 15), .int 0, .int 0, .int 0, .ref (ma 19), .ref (ma 20), .ref (ma 21), .int 0, .ref (ma 23), .ref (ma 24), .ref (ma 25), .ref (ma 26), .ref (ma 27), .ref (ma 28), .int 0, .int 0, .int 0, .int 0, .ref (ma 33), .int (-1), .ref (ma 35), .int 0, .int 0]))] H := hP
  have hD : va_D A [((ma 25), .inl (cy 0, 20, .inl (fun _ => 0))), ((ma 26), .inl (cy 0, 20, .inl (fun _ => 0))), (mo, .inr (12, [.int 0, .ref (ma 1), .int 0, .int 0, .int 0, .int (-1), .int 0, .int 0, .int (-1), .ref (ma 9), .ref (ma 10), .ref (ma 11), .ref (ma 12), .ref (ma 13), .ref (ma 14), .ref (ma 15), .int 0, .int 0, .int 0, .ref (ma 19), .ref (ma 20), .ref (ma 21), .int 0, .ref (ma 23), .ref (ma 24), .ref (ma 25), .ref (ma 26), .ref (ma 27), .ref (ma 28), .int 0, .int 0, .int 0, .int 0, .ref (ma 33), .int (-1), .ref (ma 35), .int 0, .int 0]))] := hD
  refine lv_iconst (v := 0) hx hb dX12_law_53 (by decide) ?_
  refine lv_istore_n (lv' := [(2, .int 0), (0, .ref mo), (1, .int 0)]) hx hb dX12_law_54 rfl hlv (by decide) rfl (fun ls hlv => ?_)
  refine lv_iload_n hx hb dX12_law_55 rfl (lv_at hlv 0 rfl) ?_
  refine lv_iconst (v := 5) hx hb dX12_law_56 (by decide) ?_
  refine lv_icmp_ge (tgt := 94) hx hb dX12_law_57 (by decide) (fun c => absurd c (by decide)) (fun _ => ?_)
  refine lv_aload_n hx hb dX12_law_60 rfl (lv_at hlv 1 rfl) ?_
  refine va_get (D := D) (ci := 12) (v := .ref (ma 25)) (C := RX12) (T := TX12) (N := 38) hx hb hts hi12 hown hG.1 hP 2 rfl rfl 25 (by decide) lf56 (fun _ h9 => h9) rfl dX12_law_61 ?_
  refine lv_iconst (v := 5) hx hb dX12_law_64 (by decide) ?_
  refine lv_aload_n hx hb dX12_law_65 rfl (lv_at hlv 1 rfl) ?_
  refine va_get (D := D) (ci := 12) (v := .int 0) (C := RX12) (T := TX12) (N := 38) hx hb hts hi12 hown hG.1 hP 2 rfl rfl 18 (by decide) lf209 (fun _ h9 => h9) rfl dX12_law_66 ?_
  refine lv_imul hx hb dX12_law_69 ?_
  refine lt_i (y := 0) (by decide) ?_
  refine lv_iload_n hx hb dX12_law_70 rfl (lv_at hlv 0 rfl) ?_
  refine lv_iadd hx hb dX12_law_71 ?_
  refine lt_i (y := 0) (by decide) ?_
  refine lv_iconst (v := 0) hx hb dX12_law_72 (by decide) ?_
  refine va_iast hx hb hG.1 hP hD hS 0 0 rfl rfl (vpd (by decide)) dX12_law_73 (fun H locs hP hD hS => ?_)
  have ⟨f_1, hP, hD⟩ : ∃ f_1 : Nat → Int32, va_P D vwCl [((ma 25), .inl (cy 0, 20, .inl f_1)), ((ma 26), .inl (cy 0, 20, .inl (fun _ => 0))), (mo, .inr (12, [.int 0, .ref (ma 1), .int 0, .int 0, .int 0, .int (-1), .int 0, .int 0, .int (-1), .ref (ma 9), .ref (ma 10), .ref (ma 11), .ref (ma 12), .ref (ma 13), .ref (ma 14), .ref (ma 15), .int 0, .int 0, .int 0, .ref (ma 19), .ref (ma 20), .ref (ma 21), .int 0, .ref (ma 23), .ref (ma 24), .ref (ma 25), .ref (ma 26), .ref (ma 27), .ref (ma 28), .int 0, .int 0, .int 0, .int 0, .ref (ma 33), .int (-1), .ref (ma 35), .int 0, .int 0]))] H ∧ va_D A [((ma 25), .inl (cy 0, 20, .inl f_1)), ((ma 26), .inl (cy 0, 20, .inl (fun _ => 0))), (mo, .inr (12, [.int 0, .ref (ma 1), .int 0, .int 0, .int 0, .int (-1), .int 0, .int 0, .int (-1), .ref (ma 9), .ref (ma 10), .ref (ma 11), .ref (ma 12), .ref (ma 13), .ref (ma 14), .ref (ma 15), .int 0, .int 0, .int 0, .ref (ma 19), .ref (ma 20), .ref (ma 21), .int 0, .ref (ma 23), .ref (ma 24), .ref (ma 25), .ref (ma 26), .ref (ma 27), .ref (ma 28), .int 0, .int 0, .int 0, .int 0, .ref (ma 33), .int (-1), .ref (ma 35), .int 0, .int 0]))] := ⟨_, hP, hD⟩
  refine lv_aload_n hx hb dX12_law_74 rfl (lv_at hlv 1 rfl) ?_
  refine va_get (D := D) (ci := 12) (v := .ref (ma 26)) (C := RX12) (T := TX12) (N := 38) hx hb hts hi12 hown hG.1 hP 2 rfl rfl 26 (by decide) lf59 (fun _ h9 => h9) rfl dX12_law_75 ?_
  refine lv_iconst (v := 5) hx hb dX12_law_78 (by decide) ?_
  refine lv_aload_n hx hb dX12_law_79 rfl (lv_at hlv 1 rfl) ?_
  refine va_get (D := D) (ci := 12) (v := .int 0) (C := RX12) (T := TX12) (N := 38) hx hb hts hi12 hown hG.1 hP 2 rfl rfl 18 (by decide) lf209 (fun _ h9 => h9) rfl dX12_law_80 ?_
  refine lv_imul hx hb dX12_law_83 ?_
  refine lt_i (y := 0) (by decide) ?_
  refine lv_iload_n hx hb dX12_law_84 rfl (lv_at hlv 0 rfl) ?_
  refine lv_iadd hx hb dX12_law_85 ?_
  refine lt_i (y := 0) (by decide) ?_
  refine lv_iconst (v := 0) hx hb dX12_law_86 (by decide) ?_
  refine va_iast hx hb hG.1 hP hD hS 1 0 rfl rfl (vpd (by decide)) dX12_law_87 (fun H locs hP hD hS => ?_)
  have ⟨f_2, hP, hD⟩ : ∃ f_2 : Nat → Int32, va_P D vwCl [((ma 25), .inl (cy 0, 20, .inl f_1)), ((ma 26), .inl (cy 0, 20, .inl f_2)), (mo, .inr (12, [.int 0, .ref (ma 1), .int 0, .int 0, .int 0, .int (-1), .int 0, .int 0, .int (-1), .ref (ma 9), .ref (ma 10), .ref (ma 11), .ref (ma 12), .ref (ma 13), .ref (ma 14), .ref (ma 15), .int 0, .int 0, .int 0, .ref (ma 19), .ref (ma 20), .ref (ma 21), .int 0, .ref (ma 23), .ref (ma 24), .ref (ma 25), .ref (ma 26), .ref (ma 27), .ref (ma 28), .int 0, .int 0, .int 0, .int 0, .ref (ma 33), .int (-1), .ref (ma 35), .int 0, .int 0]))] H ∧ va_D A [((ma 25), .inl (cy 0, 20, .inl f_1)), ((ma 26), .inl (cy 0, 20, .inl f_2)), (mo, .inr (12, [.int 0, .ref (ma 1), .int 0, .int 0, .int 0, .int (-1), .int 0, .int 0, .int (-1), .ref (ma 9), .ref (ma 10), .ref (ma 11), .ref (ma 12), .ref (ma 13), .ref (ma 14), .ref (ma 15), .int 0, .int 0, .int 0, .ref (ma 19), .ref (ma 20), .ref (ma 21), .int 0, .ref (ma 23), .ref (ma 24), .ref (ma 25), .ref (ma 26), .ref (ma 27), .ref (ma 28), .int 0, .int 0, .int 0, .int 0, .ref (ma 33), .int (-1), .ref (ma 35), .int 0, .int 0]))] := ⟨_, hP, hD⟩
  refine lv_iinc (v := 1) (lv' := [(2, .int 1), (0, .ref mo), (1, .int 0)]) hx hb dX12_law_88 hlv (k := 0) rfl (by decide) (by decide) rfl (fun ls hlv => ?_)
  refine lv_goto (tgt := 55) hx hb dX12_law_91 (by decide) ?_
  refine lv_iload_n hx hb dX12_law_55 rfl (lv_at hlv 0 rfl) ?_
  refine lv_iconst (v := 5) hx hb dX12_law_56 (by decide) ?_
  refine lv_icmp_ge (tgt := 94) hx hb dX12_law_57 (by decide) (fun c => absurd c (by decide)) (fun _ => ?_)
  refine lv_aload_n hx hb dX12_law_60 rfl (lv_at hlv 1 rfl) ?_
  refine va_get (D := D) (ci := 12) (v := .ref (ma 25)) (C := RX12) (T := TX12) (N := 38) hx hb hts hi12 hown hG.1 hP 2 rfl rfl 25 (by decide) lf56 (fun _ h9 => h9) rfl dX12_law_61 ?_
  refine lv_iconst (v := 5) hx hb dX12_law_64 (by decide) ?_
  refine lv_aload_n hx hb dX12_law_65 rfl (lv_at hlv 1 rfl) ?_
  refine va_get (D := D) (ci := 12) (v := .int 0) (C := RX12) (T := TX12) (N := 38) hx hb hts hi12 hown hG.1 hP 2 rfl rfl 18 (by decide) lf209 (fun _ h9 => h9) rfl dX12_law_66 ?_
  refine lv_imul hx hb dX12_law_69 ?_
  refine lt_i (y := 0) (by decide) ?_
  refine lv_iload_n hx hb dX12_law_70 rfl (lv_at hlv 0 rfl) ?_
  refine lv_iadd hx hb dX12_law_71 ?_
  refine lt_i (y := 1) (by decide) ?_
  refine lv_iconst (v := 0) hx hb dX12_law_72 (by decide) ?_
  refine va_iast hx hb hG.1 hP hD hS 0 0 rfl rfl (vpd (by decide)) dX12_law_73 (fun H locs hP hD hS => ?_)
  have ⟨f_3, hP, hD⟩ : ∃ f_3 : Nat → Int32, va_P D vwCl [((ma 25), .inl (cy 0, 20, .inl f_3)), ((ma 26), .inl (cy 0, 20, .inl f_2)), (mo, .inr (12, [.int 0, .ref (ma 1), .int 0, .int 0, .int 0, .int (-1), .int 0, .int 0, .int (-1), .ref (ma 9), .ref (ma 10), .ref (ma 11), .ref (ma 12), .ref (ma 13), .ref (ma 14), .ref (ma 15), .int 0, .int 0, .int 0, .ref (ma 19), .ref (ma 20), .ref (ma 21), .int 0, .ref (ma 23), .ref (ma 24), .ref (ma 25), .ref (ma 26), .ref (ma 27), .ref (ma 28), .int 0, .int 0, .int 0, .int 0, .ref (ma 33), .int (-1), .ref (ma 35), .int 0, .int 0]))] H ∧ va_D A [((ma 25), .inl (cy 0, 20, .inl f_3)), ((ma 26), .inl (cy 0, 20, .inl f_2)), (mo, .inr (12, [.int 0, .ref (ma 1), .int 0, .int 0, .int 0, .int (-1), .int 0, .int 0, .int (-1), .ref (ma 9), .ref (ma 10), .ref (ma 11), .ref (ma 12), .ref (ma 13), .ref (ma 14), .ref (ma 15), .int 0, .int 0, .int 0, .ref (ma 19), .ref (ma 20), .ref (ma 21), .int 0, .ref (ma 23), .ref (ma 24), .ref (ma 25), .ref (ma 26), .ref (ma 27), .ref (ma 28), .int 0, .int 0, .int 0, .int 0, .ref (ma 33), .int (-1), .ref (ma 35), .int 0, .int 0]))] := ⟨_, hP, hD⟩
  refine lv_aload_n hx hb dX12_law_74 rfl (lv_at hlv 1 rfl) ?_
  refine va_get (D := D) (ci := 12) (v := .ref (ma 26)) (C := RX12) (T := TX12) (N := 38) hx hb hts hi12 hown hG.1 hP 2 rfl rfl 26 (by decide) lf59 (fun _ h9 => h9) rfl dX12_law_75 ?_
  refine lv_iconst (v := 5) hx hb dX12_law_78 (by decide) ?_
  refine lv_aload_n hx hb dX12_law_79 rfl (lv_at hlv 1 rfl) ?_
  refine va_get (D := D) (ci := 12) (v := .int 0) (C := RX12) (T := TX12) (N := 38) hx hb hts hi12 hown hG.1 hP 2 rfl rfl 18 (by decide) lf209 (fun _ h9 => h9) rfl dX12_law_80 ?_
  refine lv_imul hx hb dX12_law_83 ?_
  refine lt_i (y := 0) (by decide) ?_
  refine lv_iload_n hx hb dX12_law_84 rfl (lv_at hlv 0 rfl) ?_
  refine lv_iadd hx hb dX12_law_85 ?_
  refine lt_i (y := 1) (by decide) ?_
  refine lv_iconst (v := 0) hx hb dX12_law_86 (by decide) ?_
  refine va_iast hx hb hG.1 hP hD hS 1 0 rfl rfl (vpd (by decide)) dX12_law_87 (fun H locs hP hD hS => ?_)
  have ⟨f_4, hP, hD⟩ : ∃ f_4 : Nat → Int32, va_P D vwCl [((ma 25), .inl (cy 0, 20, .inl f_3)), ((ma 26), .inl (cy 0, 20, .inl f_4)), (mo, .inr (12, [.int 0, .ref (ma 1), .int 0, .int 0, .int 0, .int (-1), .int 0, .int 0, .int (-1), .ref (ma 9), .ref (ma 10), .ref (ma 11), .ref (ma 12), .ref (ma 13), .ref (ma 14), .ref (ma 15), .int 0, .int 0, .int 0, .ref (ma 19), .ref (ma 20), .ref (ma 21), .int 0, .ref (ma 23), .ref (ma 24), .ref (ma 25), .ref (ma 26), .ref (ma 27), .ref (ma 28), .int 0, .int 0, .int 0, .int 0, .ref (ma 33), .int (-1), .ref (ma 35), .int 0, .int 0]))] H ∧ va_D A [((ma 25), .inl (cy 0, 20, .inl f_3)), ((ma 26), .inl (cy 0, 20, .inl f_4)), (mo, .inr (12, [.int 0, .ref (ma 1), .int 0, .int 0, .int 0, .int (-1), .int 0, .int 0, .int (-1), .ref (ma 9), .ref (ma 10), .ref (ma 11), .ref (ma 12), .ref (ma 13), .ref (ma 14), .ref (ma 15), .int 0, .int 0, .int 0, .ref (ma 19), .ref (ma 20), .ref (ma 21), .int 0, .ref (ma 23), .ref (ma 24), .ref (ma 25), .ref (ma 26), .ref (ma 27), .ref (ma 28), .int 0, .int 0, .int 0, .int 0, .ref (ma 33), .int (-1), .ref (ma 35), .int 0, .int 0]))] := ⟨_, hP, hD⟩
  refine lv_iinc (v := 2) (lv' := [(2, .int 2), (0, .ref mo), (1, .int 0)]) hx hb dX12_law_88 hlv (k := 0) rfl (by decide) (by decide) rfl (fun ls hlv => ?_)
  refine lv_goto (tgt := 55) hx hb dX12_law_91 (by decide) ?_
  refine lv_iload_n hx hb dX12_law_55 rfl (lv_at hlv 0 rfl) ?_
  refine lv_iconst (v := 5) hx hb dX12_law_56 (by decide) ?_
  refine lv_icmp_ge (tgt := 94) hx hb dX12_law_57 (by decide) (fun c => absurd c (by decide)) (fun _ => ?_)
  refine lv_aload_n hx hb dX12_law_60 rfl (lv_at hlv 1 rfl) ?_
  refine va_get (D := D) (ci := 12) (v := .ref (ma 25)) (C := RX12) (T := TX12) (N := 38) hx hb hts hi12 hown hG.1 hP 2 rfl rfl 25 (by decide) lf56 (fun _ h9 => h9) rfl dX12_law_61 ?_
  refine lv_iconst (v := 5) hx hb dX12_law_64 (by decide) ?_
  refine lv_aload_n hx hb dX12_law_65 rfl (lv_at hlv 1 rfl) ?_
  refine va_get (D := D) (ci := 12) (v := .int 0) (C := RX12) (T := TX12) (N := 38) hx hb hts hi12 hown hG.1 hP 2 rfl rfl 18 (by decide) lf209 (fun _ h9 => h9) rfl dX12_law_66 ?_
  refine lv_imul hx hb dX12_law_69 ?_
  refine lt_i (y := 0) (by decide) ?_
  refine lv_iload_n hx hb dX12_law_70 rfl (lv_at hlv 0 rfl) ?_
  refine lv_iadd hx hb dX12_law_71 ?_
  refine lt_i (y := 2) (by decide) ?_
  refine lv_iconst (v := 0) hx hb dX12_law_72 (by decide) ?_
  refine va_iast hx hb hG.1 hP hD hS 0 0 rfl rfl (vpd (by decide)) dX12_law_73 (fun H locs hP hD hS => ?_)
  have ⟨f_5, hP, hD⟩ : ∃ f_5 : Nat → Int32, va_P D vwCl [((ma 25), .inl (cy 0, 20, .inl f_5)), ((ma 26), .inl (cy 0, 20, .inl f_4)), (mo, .inr (12, [.int 0, .ref (ma 1), .int 0, .int 0, .int 0, .int (-1), .int 0, .int 0, .int (-1), .ref (ma 9), .ref (ma 10), .ref (ma 11), .ref (ma 12), .ref (ma 13), .ref (ma 14), .ref (ma 15), .int 0, .int 0, .int 0, .ref (ma 19), .ref (ma 20), .ref (ma 21), .int 0, .ref (ma 23), .ref (ma 24), .ref (ma 25), .ref (ma 26), .ref (ma 27), .ref (ma 28), .int 0, .int 0, .int 0, .int 0, .ref (ma 33), .int (-1), .ref (ma 35), .int 0, .int 0]))] H ∧ va_D A [((ma 25), .inl (cy 0, 20, .inl f_5)), ((ma 26), .inl (cy 0, 20, .inl f_4)), (mo, .inr (12, [.int 0, .ref (ma 1), .int 0, .int 0, .int 0, .int (-1), .int 0, .int 0, .int (-1), .ref (ma 9), .ref (ma 10), .ref (ma 11), .ref (ma 12), .ref (ma 13), .ref (ma 14), .ref (ma 15), .int 0, .int 0, .int 0, .ref (ma 19), .ref (ma 20), .ref (ma 21), .int 0, .ref (ma 23), .ref (ma 24), .ref (ma 25), .ref (ma 26), .ref (ma 27), .ref (ma 28), .int 0, .int 0, .int 0, .int 0, .ref (ma 33), .int (-1), .ref (ma 35), .int 0, .int 0]))] := ⟨_, hP, hD⟩
  refine lv_aload_n hx hb dX12_law_74 rfl (lv_at hlv 1 rfl) ?_
  refine va_get (D := D) (ci := 12) (v := .ref (ma 26)) (C := RX12) (T := TX12) (N := 38) hx hb hts hi12 hown hG.1 hP 2 rfl rfl 26 (by decide) lf59 (fun _ h9 => h9) rfl dX12_law_75 ?_
  refine lv_iconst (v := 5) hx hb dX12_law_78 (by decide) ?_
  refine lv_aload_n hx hb dX12_law_79 rfl (lv_at hlv 1 rfl) ?_
  refine va_get (D := D) (ci := 12) (v := .int 0) (C := RX12) (T := TX12) (N := 38) hx hb hts hi12 hown hG.1 hP 2 rfl rfl 18 (by decide) lf209 (fun _ h9 => h9) rfl dX12_law_80 ?_
  refine lv_imul hx hb dX12_law_83 ?_
  refine lt_i (y := 0) (by decide) ?_
  refine lv_iload_n hx hb dX12_law_84 rfl (lv_at hlv 0 rfl) ?_
  refine lv_iadd hx hb dX12_law_85 ?_
  refine lt_i (y := 2) (by decide) ?_
  refine lv_iconst (v := 0) hx hb dX12_law_86 (by decide) ?_
  refine va_iast hx hb hG.1 hP hD hS 1 0 rfl rfl (vpd (by decide)) dX12_law_87 (fun H locs hP hD hS => ?_)
  have ⟨f_6, hP, hD⟩ : ∃ f_6 : Nat → Int32, va_P D vwCl [((ma 25), .inl (cy 0, 20, .inl f_5)), ((ma 26), .inl (cy 0, 20, .inl f_6)), (mo, .inr (12, [.int 0, .ref (ma 1), .int 0, .int 0, .int 0, .int (-1), .int 0, .int 0, .int (-1), .ref (ma 9), .ref (ma 10), .ref (ma 11), .ref (ma 12), .ref (ma 13), .ref (ma 14), .ref (ma 15), .int 0, .int 0, .int 0, .ref (ma 19), .ref (ma 20), .ref (ma 21), .int 0, .ref (ma 23), .ref (ma 24), .ref (ma 25), .ref (ma 26), .ref (ma 27), .ref (ma 28), .int 0, .int 0, .int 0, .int 0, .ref (ma 33), .int (-1), .ref (ma 35), .int 0, .int 0]))] H ∧ va_D A [((ma 25), .inl (cy 0, 20, .inl f_5)), ((ma 26), .inl (cy 0, 20, .inl f_6)), (mo, .inr (12, [.int 0, .ref (ma 1), .int 0, .int 0, .int 0, .int (-1), .int 0, .int 0, .int (-1), .ref (ma 9), .ref (ma 10), .ref (ma 11), .ref (ma 12), .ref (ma 13), .ref (ma 14), .ref (ma 15), .int 0, .int 0, .int 0, .ref (ma 19), .ref (ma 20), .ref (ma 21), .int 0, .ref (ma 23), .ref (ma 24), .ref (ma 25), .ref (ma 26), .ref (ma 27), .ref (ma 28), .int 0, .int 0, .int 0, .int 0, .ref (ma 33), .int (-1), .ref (ma 35), .int 0, .int 0]))] := ⟨_, hP, hD⟩
  refine lv_iinc (v := 3) (lv' := [(2, .int 3), (0, .ref mo), (1, .int 0)]) hx hb dX12_law_88 hlv (k := 0) rfl (by decide) (by decide) rfl (fun ls hlv => ?_)
  refine lv_goto (tgt := 55) hx hb dX12_law_91 (by decide) ?_
  refine lv_iload_n hx hb dX12_law_55 rfl (lv_at hlv 0 rfl) ?_
  refine lv_iconst (v := 5) hx hb dX12_law_56 (by decide) ?_
  refine lv_icmp_ge (tgt := 94) hx hb dX12_law_57 (by decide) (fun c => absurd c (by decide)) (fun _ => ?_)
  refine lv_aload_n hx hb dX12_law_60 rfl (lv_at hlv 1 rfl) ?_
  refine va_get (D := D) (ci := 12) (v := .ref (ma 25)) (C := RX12) (T := TX12) (N := 38) hx hb hts hi12 hown hG.1 hP 2 rfl rfl 25 (by decide) lf56 (fun _ h9 => h9) rfl dX12_law_61 ?_
  refine lv_iconst (v := 5) hx hb dX12_law_64 (by decide) ?_
  refine lv_aload_n hx hb dX12_law_65 rfl (lv_at hlv 1 rfl) ?_
  refine va_get (D := D) (ci := 12) (v := .int 0) (C := RX12) (T := TX12) (N := 38) hx hb hts hi12 hown hG.1 hP 2 rfl rfl 18 (by decide) lf209 (fun _ h9 => h9) rfl dX12_law_66 ?_
  refine lv_imul hx hb dX12_law_69 ?_
  refine lt_i (y := 0) (by decide) ?_
  refine lv_iload_n hx hb dX12_law_70 rfl (lv_at hlv 0 rfl) ?_
  refine lv_iadd hx hb dX12_law_71 ?_
  refine lt_i (y := 3) (by decide) ?_
  refine lv_iconst (v := 0) hx hb dX12_law_72 (by decide) ?_
  refine va_iast hx hb hG.1 hP hD hS 0 0 rfl rfl (vpd (by decide)) dX12_law_73 (fun H locs hP hD hS => ?_)
  have ⟨f_7, hP, hD⟩ : ∃ f_7 : Nat → Int32, va_P D vwCl [((ma 25), .inl (cy 0, 20, .inl f_7)), ((ma 26), .inl (cy 0, 20, .inl f_6)), (mo, .inr (12, [.int 0, .ref (ma 1), .int 0, .int 0, .int 0, .int (-1), .int 0, .int 0, .int (-1), .ref (ma 9), .ref (ma 10), .ref (ma 11), .ref (ma 12), .ref (ma 13), .ref (ma 14), .ref (ma 15), .int 0, .int 0, .int 0, .ref (ma 19), .ref (ma 20), .ref (ma 21), .int 0, .ref (ma 23), .ref (ma 24), .ref (ma 25), .ref (ma 26), .ref (ma 27), .ref (ma 28), .int 0, .int 0, .int 0, .int 0, .ref (ma 33), .int (-1), .ref (ma 35), .int 0, .int 0]))] H ∧ va_D A [((ma 25), .inl (cy 0, 20, .inl f_7)), ((ma 26), .inl (cy 0, 20, .inl f_6)), (mo, .inr (12, [.int 0, .ref (ma 1), .int 0, .int 0, .int 0, .int (-1), .int 0, .int 0, .int (-1), .ref (ma 9), .ref (ma 10), .ref (ma 11), .ref (ma 12), .ref (ma 13), .ref (ma 14), .ref (ma 15), .int 0, .int 0, .int 0, .ref (ma 19), .ref (ma 20), .ref (ma 21), .int 0, .ref (ma 23), .ref (ma 24), .ref (ma 25), .ref (ma 26), .ref (ma 27), .ref (ma 28), .int 0, .int 0, .int 0, .int 0, .ref (ma 33), .int (-1), .ref (ma 35), .int 0, .int 0]))] := ⟨_, hP, hD⟩
  refine lv_aload_n hx hb dX12_law_74 rfl (lv_at hlv 1 rfl) ?_
  refine va_get (D := D) (ci := 12) (v := .ref (ma 26)) (C := RX12) (T := TX12) (N := 38) hx hb hts hi12 hown hG.1 hP 2 rfl rfl 26 (by decide) lf59 (fun _ h9 => h9) rfl dX12_law_75 ?_
  refine lv_iconst (v := 5) hx hb dX12_law_78 (by decide) ?_
  refine lv_aload_n hx hb dX12_law_79 rfl (lv_at hlv 1 rfl) ?_
  refine va_get (D := D) (ci := 12) (v := .int 0) (C := RX12) (T := TX12) (N := 38) hx hb hts hi12 hown hG.1 hP 2 rfl rfl 18 (by decide) lf209 (fun _ h9 => h9) rfl dX12_law_80 ?_
  refine lv_imul hx hb dX12_law_83 ?_
  refine lt_i (y := 0) (by decide) ?_
  refine lv_iload_n hx hb dX12_law_84 rfl (lv_at hlv 0 rfl) ?_
  refine lv_iadd hx hb dX12_law_85 ?_
  refine lt_i (y := 3) (by decide) ?_
  refine lv_iconst (v := 0) hx hb dX12_law_86 (by decide) ?_
  refine va_iast hx hb hG.1 hP hD hS 1 0 rfl rfl (vpd (by decide)) dX12_law_87 (fun H locs hP hD hS => ?_)
  have ⟨f_8, hP, hD⟩ : ∃ f_8 : Nat → Int32, va_P D vwCl [((ma 25), .inl (cy 0, 20, .inl f_7)), ((ma 26), .inl (cy 0, 20, .inl f_8)), (mo, .inr (12, [.int 0, .ref (ma 1), .int 0, .int 0, .int 0, .int (-1), .int 0, .int 0, .int (-1), .ref (ma 9), .ref (ma 10), .ref (ma 11), .ref (ma 12), .ref (ma 13), .ref (ma 14), .ref (ma 15), .int 0, .int 0, .int 0, .ref (ma 19), .ref (ma 20), .ref (ma 21), .int 0, .ref (ma 23), .ref (ma 24), .ref (ma 25), .ref (ma 26), .ref (ma 27), .ref (ma 28), .int 0, .int 0, .int 0, .int 0, .ref (ma 33), .int (-1), .ref (ma 35), .int 0, .int 0]))] H ∧ va_D A [((ma 25), .inl (cy 0, 20, .inl f_7)), ((ma 26), .inl (cy 0, 20, .inl f_8)), (mo, .inr (12, [.int 0, .ref (ma 1), .int 0, .int 0, .int 0, .int (-1), .int 0, .int 0, .int (-1), .ref (ma 9), .ref (ma 10), .ref (ma 11), .ref (ma 12), .ref (ma 13), .ref (ma 14), .ref (ma 15), .int 0, .int 0, .int 0, .ref (ma 19), .ref (ma 20), .ref (ma 21), .int 0, .ref (ma 23), .ref (ma 24), .ref (ma 25), .ref (ma 26), .ref (ma 27), .ref (ma 28), .int 0, .int 0, .int 0, .int 0, .ref (ma 33), .int (-1), .ref (ma 35), .int 0, .int 0]))] := ⟨_, hP, hD⟩
  refine lv_iinc (v := 4) (lv' := [(2, .int 4), (0, .ref mo), (1, .int 0)]) hx hb dX12_law_88 hlv (k := 0) rfl (by decide) (by decide) rfl (fun ls hlv => ?_)
  refine lv_goto (tgt := 55) hx hb dX12_law_91 (by decide) ?_
  refine lv_iload_n hx hb dX12_law_55 rfl (lv_at hlv 0 rfl) ?_
  refine lv_iconst (v := 5) hx hb dX12_law_56 (by decide) ?_
  refine lv_icmp_ge (tgt := 94) hx hb dX12_law_57 (by decide) (fun c => absurd c (by decide)) (fun _ => ?_)
  refine lv_aload_n hx hb dX12_law_60 rfl (lv_at hlv 1 rfl) ?_
  refine va_get (D := D) (ci := 12) (v := .ref (ma 25)) (C := RX12) (T := TX12) (N := 38) hx hb hts hi12 hown hG.1 hP 2 rfl rfl 25 (by decide) lf56 (fun _ h9 => h9) rfl dX12_law_61 ?_
  refine lv_iconst (v := 5) hx hb dX12_law_64 (by decide) ?_
  refine lv_aload_n hx hb dX12_law_65 rfl (lv_at hlv 1 rfl) ?_
  refine va_get (D := D) (ci := 12) (v := .int 0) (C := RX12) (T := TX12) (N := 38) hx hb hts hi12 hown hG.1 hP 2 rfl rfl 18 (by decide) lf209 (fun _ h9 => h9) rfl dX12_law_66 ?_
  refine lv_imul hx hb dX12_law_69 ?_
  refine lt_i (y := 0) (by decide) ?_
  refine lv_iload_n hx hb dX12_law_70 rfl (lv_at hlv 0 rfl) ?_
  refine lv_iadd hx hb dX12_law_71 ?_
  refine lt_i (y := 4) (by decide) ?_
  refine lv_iconst (v := 0) hx hb dX12_law_72 (by decide) ?_
  refine va_iast hx hb hG.1 hP hD hS 0 0 rfl rfl (vpd (by decide)) dX12_law_73 (fun H locs hP hD hS => ?_)
  have ⟨f_9, hP, hD⟩ : ∃ f_9 : Nat → Int32, va_P D vwCl [((ma 25), .inl (cy 0, 20, .inl f_9)), ((ma 26), .inl (cy 0, 20, .inl f_8)), (mo, .inr (12, [.int 0, .ref (ma 1), .int 0, .int 0, .int 0, .int (-1), .int 0, .int 0, .int (-1), .ref (ma 9), .ref (ma 10), .ref (ma 11), .ref (ma 12), .ref (ma 13), .ref (ma 14), .ref (ma 15), .int 0, .int 0, .int 0, .ref (ma 19), .ref (ma 20), .ref (ma 21), .int 0, .ref (ma 23), .ref (ma 24), .ref (ma 25), .ref (ma 26), .ref (ma 27), .ref (ma 28), .int 0, .int 0, .int 0, .int 0, .ref (ma 33), .int (-1), .ref (ma 35), .int 0, .int 0]))] H ∧ va_D A [((ma 25), .inl (cy 0, 20, .inl f_9)), ((ma 26), .inl (cy 0, 20, .inl f_8)), (mo, .inr (12, [.int 0, .ref (ma 1), .int 0, .int 0, .int 0, .int (-1), .int 0, .int 0, .int (-1), .ref (ma 9), .ref (ma 10), .ref (ma 11), .ref (ma 12), .ref (ma 13), .ref (ma 14), .ref (ma 15), .int 0, .int 0, .int 0, .ref (ma 19), .ref (ma 20), .ref (ma 21), .int 0, .ref (ma 23), .ref (ma 24), .ref (ma 25), .ref (ma 26), .ref (ma 27), .ref (ma 28), .int 0, .int 0, .int 0, .int 0, .ref (ma 33), .int (-1), .ref (ma 35), .int 0, .int 0]))] := ⟨_, hP, hD⟩
  refine lv_aload_n hx hb dX12_law_74 rfl (lv_at hlv 1 rfl) ?_
  refine va_get (D := D) (ci := 12) (v := .ref (ma 26)) (C := RX12) (T := TX12) (N := 38) hx hb hts hi12 hown hG.1 hP 2 rfl rfl 26 (by decide) lf59 (fun _ h9 => h9) rfl dX12_law_75 ?_
  refine lv_iconst (v := 5) hx hb dX12_law_78 (by decide) ?_
  refine lv_aload_n hx hb dX12_law_79 rfl (lv_at hlv 1 rfl) ?_
  refine va_get (D := D) (ci := 12) (v := .int 0) (C := RX12) (T := TX12) (N := 38) hx hb hts hi12 hown hG.1 hP 2 rfl rfl 18 (by decide) lf209 (fun _ h9 => h9) rfl dX12_law_80 ?_
  refine lv_imul hx hb dX12_law_83 ?_
  refine lt_i (y := 0) (by decide) ?_
  refine lv_iload_n hx hb dX12_law_84 rfl (lv_at hlv 0 rfl) ?_
  refine lv_iadd hx hb dX12_law_85 ?_
  refine lt_i (y := 4) (by decide) ?_
  refine lv_iconst (v := 0) hx hb dX12_law_86 (by decide) ?_
  refine va_iast hx hb hG.1 hP hD hS 1 0 rfl rfl (vpd (by decide)) dX12_law_87 (fun H locs hP hD hS => ?_)
  have ⟨f_10, hP, hD⟩ : ∃ f_10 : Nat → Int32, va_P D vwCl [((ma 25), .inl (cy 0, 20, .inl f_9)), ((ma 26), .inl (cy 0, 20, .inl f_10)), (mo, .inr (12, [.int 0, .ref (ma 1), .int 0, .int 0, .int 0, .int (-1), .int 0, .int 0, .int (-1), .ref (ma 9), .ref (ma 10), .ref (ma 11), .ref (ma 12), .ref (ma 13), .ref (ma 14), .ref (ma 15), .int 0, .int 0, .int 0, .ref (ma 19), .ref (ma 20), .ref (ma 21), .int 0, .ref (ma 23), .ref (ma 24), .ref (ma 25), .ref (ma 26), .ref (ma 27), .ref (ma 28), .int 0, .int 0, .int 0, .int 0, .ref (ma 33), .int (-1), .ref (ma 35), .int 0, .int 0]))] H ∧ va_D A [((ma 25), .inl (cy 0, 20, .inl f_9)), ((ma 26), .inl (cy 0, 20, .inl f_10)), (mo, .inr (12, [.int 0, .ref (ma 1), .int 0, .int 0, .int 0, .int (-1), .int 0, .int 0, .int (-1), .ref (ma 9), .ref (ma 10), .ref (ma 11), .ref (ma 12), .ref (ma 13), .ref (ma 14), .ref (ma 15), .int 0, .int 0, .int 0, .ref (ma 19), .ref (ma 20), .ref (ma 21), .int 0, .ref (ma 23), .ref (ma 24), .ref (ma 25), .ref (ma 26), .ref (ma 27), .ref (ma 28), .int 0, .int 0, .int 0, .int 0, .ref (ma 33), .int (-1), .ref (ma 35), .int 0, .int 0]))] := ⟨_, hP, hD⟩
  refine lv_iinc (v := 5) (lv' := [(2, .int 5), (0, .ref mo), (1, .int 0)]) hx hb dX12_law_88 hlv (k := 0) rfl (by decide) (by decide) rfl (fun ls hlv => ?_)
  refine lv_goto (tgt := 55) hx hb dX12_law_91 (by decide) ?_
  refine lv_iload_n hx hb dX12_law_55 rfl (lv_at hlv 0 rfl) ?_
  refine lv_iconst (v := 5) hx hb dX12_law_56 (by decide) ?_
  refine lv_icmp_ge (tgt := 94) hx hb dX12_law_57 (by decide) (fun _ => ?_) (fun c => absurd (by decide) c)
  refine lv_aload_n hx hb dX12_law_94 rfl (lv_at hlv 1 rfl) ?_
  refine cj_i (wr := [((ma 25), .inl (cy 0, 20, .inl f_9)), ((ma 26), .inl (cy 0, 20, .inl f_10))]) (va_runV (As := []) (rest := []) ⟨hx, hb, hml, hown, hts⟩ (m_fine l hl D cy sa mo ma H.size) (cwV 0 hts gg_3 rfl rfl rfl (by decide +kernel) ⟨Nat.le_of_ble_eq_true rfl, Nat.le_of_ble_eq_true rfl⟩) ⟨pcW.blind, (va_recv hG.1 hP (ci := 12) (q0 := 2) rfl rfl), (pcW.mk hP hD hS hA hG hT [2] rfl (by decide))⟩ rfl rfl hlv.1 rfl (lv_room (Nat.le_of_ble_eq_true rfl)) dX12_law_95 ⟨Nat.le_of_ble_eq_true rfl, Nat.le_of_ble_eq_true rfl⟩) hP hD hS hA [2] [0, 1] rfl rfl (by decide) (by decide) (fun r3 u3 H locs hw3 hP hD hS => ?_)
  obtain rfl := hw3
  have hP : va_P D vwCl [((ma 25), .inl (cy 0, 20, .inl f_9)), ((ma 26), .inl (cy 0, 20, .inl f_10)), (mo, .inr (12, [.int 0, .ref (ma 1), .int 0, .int 0, .int 0, .int (-1), .int 0, .int 0, .int (-1), .ref (ma 9), .ref (ma 10), .ref (ma 11), .ref (ma 12), .ref (ma 13), .ref (ma 14), .ref (ma 15), .int 0, .int 0, .int 0, .ref (ma 19), .ref (ma 20), .ref (ma 21), .int 0, .ref (ma 23), .ref (ma 24), .ref (ma 25), .ref (ma 26), .ref (ma 27), .ref (ma 28), .int 0, .int 0, .int 0, .int 0, .ref (ma 33), .int (-1), .ref (ma 35), .int 0, .int 0]))] H := hP
  have hD : va_D A [((ma 25), .inl (cy 0, 20, .inl f_9)), ((ma 26), .inl (cy 0, 20, .inl f_10)), (mo, .inr (12, [.int 0, .ref (ma 1), .int 0, .int 0, .int 0, .int (-1), .int 0, .int 0, .int (-1), .ref (ma 9), .ref (ma 10), .ref (ma 11), .ref (ma 12), .ref (ma 13), .ref (ma 14), .ref (ma 15), .int 0, .int 0, .int 0, .ref (ma 19), .ref (ma 20), .ref (ma 21), .int 0, .ref (ma 23), .ref (ma 24), .ref (ma 25), .ref (ma 26), .ref (ma 27), .ref (ma 28), .int 0, .int 0, .int 0, .int 0, .ref (ma 33), .int (-1), .ref (ma 35), .int 0, .int 0]))] := hD
  refine lv_if_eq (tgt := 312) hx hb dX12_law_98 (by decide) (fun c => absurd c (by decide)) (fun _ => ?_)
  refine lv_aload_n hx hb dX12_law_101 rfl (lv_at hlv 1 rfl) ?_
  refine cj_i (wr := [((ma 25), .inl (cy 0, 20, .inl f_9)), ((ma 26), .inl (cy 0, 20, .inl f_10))]) (va_runV (As := []) (rest := []) ⟨hx, hb, hml, hown, hts⟩ (m_isMore l hl D cy sa mo ma H.size) (cwV 0 hts gg_4 rfl rfl rfl (by decide +kernel) ⟨Nat.le_of_ble_eq_true rfl, Nat.le_of_ble_eq_true rfl⟩) ⟨pcW.blind, (va_recv hG.1 hP (ci := 12) (q0 := 2) rfl rfl), (pcW.mk hP hD hS hA hG hT [2] rfl (by decide))⟩ rfl rfl hlv.1 rfl (lv_room (Nat.le_of_ble_eq_true rfl)) dX12_law_102 ⟨Nat.le_of_ble_eq_true rfl, Nat.le_of_ble_eq_true rfl⟩) hP hD hS hA [2] [0, 1] rfl rfl (by decide) (by decide) (fun r4 u4 H locs hw4 hP hD hS => ?_)
  obtain rfl := hw4
  have hP : va_P D vwCl [((ma 25), .inl (cy 0, 20, .inl f_9)), ((ma 26), .inl (cy 0, 20, .inl f_10)), (mo, .inr (12, [.int 0, .ref (ma 1), .int 0, .int 0, .int 0, .int (-1), .int 0, .int 0, .int (-1), .ref (ma 9), .ref (ma 10), .ref (ma 11), .ref (ma 12), .ref (ma 13), .ref (ma 14), .ref (ma 15), .int 0, .int 0, .int 0, .ref (ma 19), .ref (ma 20), .ref (ma 21), .int 0, .ref (ma 23), .ref (ma 24), .ref (ma 25), .ref (ma 26), .ref (ma 27), .ref (ma 28), .int 0, .int 0, .int 0, .int 0, .ref (ma 33), .int (-1), .ref (ma 35), .int 0, .int 0]))] H := hP
  have hD : va_D A [((ma 25), .inl (cy 0, 20, .inl f_9)), ((ma 26), .inl (cy 0, 20, .inl f_10)), (mo, .inr (12, [.int 0, .ref (ma 1), .int 0, .int 0, .int 0, .int (-1), .int 0, .int 0, .int (-1), .ref (ma 9), .ref (ma 10), .ref (ma 11), .ref (ma 12), .ref (ma 13), .ref (ma 14), .ref (ma 15), .int 0, .int 0, .int 0, .ref (ma 19), .ref (ma 20), .ref (ma 21), .int 0, .ref (ma 23), .ref (ma 24), .ref (ma 25), .ref (ma 26), .ref (ma 27), .ref (ma 28), .int 0, .int 0, .int 0, .int 0, .ref (ma 33), .int (-1), .ref (ma 35), .int 0, .int 0]))] := hD
  refine lv_if_eq (tgt := 312) hx hb dX12_law_105 (by decide) (fun _ => ?_) (fun c => absurd (by decide) c)
  refine lv_aload_n hx hb dX12_law_312 rfl (lv_at hlv 1 rfl) ?_
  refine lv_aload_n hx hb dX12_law_313 rfl (lv_at hlv 1 rfl) ?_
  refine va_get (D := D) (ci := 12) (v := .int 0) (C := RX12) (T := TX12) (N := 38) hx hb hts hi12 hown hG.1 hP 2 rfl rfl 18 (by decide) lf209 (fun _ h9 => h9) rfl dX12_law_314 ?_
  refine cj_i (wr := [((ma 25), .inl (cy 0, 20, .inl f_9)), ((ma 26), .inl (cy 0, 20, .inl f_10))]) (va_runV (As := [.int 0]) (rest := []) ⟨hx, hb, hml, hown, hts⟩ (m_result l hl D cy sa mo ma 0 H.size) (cwV 1 hts gg_5 rfl rfl rfl (by decide +kernel) ⟨Nat.le_of_ble_eq_true rfl, Nat.le_of_ble_eq_true rfl⟩) ⟨pcW.blind, (va_recv hG.1 hP (ci := 12) (q0 := 2) rfl rfl), (pcW.mk hP hD hS hA hG hT [2] rfl (by decide))⟩ rfl rfl hlv.1 rfl (lv_room (Nat.le_of_ble_eq_true rfl)) dX12_law_317 ⟨Nat.le_of_ble_eq_true rfl, Nat.le_of_ble_eq_true rfl⟩) hP hD hS hA [2] [0, 1] rfl rfl (by decide) (by decide) (fun r5 u5 H locs hw5 hP hD hS => ?_)
  obtain rfl := hw5
  have hP : va_P D vwCl [((ma 25), .inl (cy 0, 20, .inl f_9)), ((ma 26), .inl (cy 0, 20, .inl f_10)), (mo, .inr (12, [.int 0, .ref (ma 1), .int 0, .int 0, .int 0, .int (-1), .int 0, .int 0, .int (-1), .ref (ma 9), .ref (ma 10), .ref (ma 11), .ref (ma 12), .ref (ma 13), .ref (ma 14), .ref (ma 15), .int 0, .int 0, .int 0, .ref (ma 19), .ref (ma 20), .ref (ma 21), .int 0, .ref (ma 23), .ref (ma 24), .ref (ma 25), .ref (ma 26), .ref (ma 27), .ref (ma 28), .int 0, .int 0, .int 0, .int 0, .ref (ma 33), .int (-1), .ref (ma 35), .int 0, .int 0]))] H := hP
  have hD : va_D A [((ma 25), .inl (cy 0, 20, .inl f_9)), ((ma 26), .inl (cy 0, 20, .inl f_10)), (mo, .inr (12, [.int 0, .ref (ma 1), .int 0, .int 0, .int 0, .int (-1), .int 0, .int 0, .int (-1), .ref (ma 9), .ref (ma 10), .ref (ma 11), .ref (ma 12), .ref (ma 13), .ref (ma 14), .ref (ma 15), .int 0, .int 0, .int 0, .ref (ma 19), .ref (ma 20), .ref (ma 21), .int 0, .ref (ma 23), .ref (ma 24), .ref (ma 25), .ref (ma 26), .ref (ma 27), .ref (ma 28), .int 0, .int 0, .int 0, .int 0, .ref (ma 33), .int (-1), .ref (ma 35), .int 0, .int 0]))] := hD
  refine lv_istore_n (lv' := [(2, .int 0), (0, .ref mo), (1, .int 0)]) hx hb dX12_law_320 rfl hlv (by decide) rfl (fun ls hlv => ?_)
  refine lv_iload_n hx hb dX12_law_321 rfl (lv_at hlv 0 rfl) ?_
  refine lv_aload_n hx hb dX12_law_322 rfl (lv_at hlv 1 rfl) ?_
  refine va_get (D := D) (ci := 12) (v := .int 0) (C := RX12) (T := TX12) (N := 38) hx hb hts hi12 hown hG.1 hP 2 rfl rfl 18 (by decide) lf209 (fun _ h9 => h9) rfl dX12_law_323 ?_
  refine lv_icmp_ne (tgt := 339) hx hb dX12_law_326 (by decide) (fun c => absurd (by decide) c) (fun _ => ?_)
  refine lv_aload_n hx hb dX12_law_329 rfl (lv_at hlv 1 rfl) ?_
  refine lv_dup hx hb dX12_law_330 rfl ?_
  refine va_get (D := D) (ci := 12) (v := .int 0) (C := RX12) (T := TX12) (N := 38) hx hb hts hi12 hown hG.1 hP 2 rfl rfl 18 (by decide) lf209 (fun _ h9 => h9) rfl dX12_law_331 ?_
  refine lv_iconst (v := 1) hx hb dX12_law_334 (by decide) ?_
  refine lv_iadd hx hb dX12_law_335 ?_
  refine lt_i (y := 1) (by decide) ?_
  refine va_put (D := D) (ci := 12) (v := .int 1) (ty := .int) (C := RX12) (T := TX12) (N := 38) hx hb hts hi12 tyX12 tyX12_ok nmX12 hown hG.1 hP hD hS 2 rfl rfl 18 (by decide) lf209 (fun _ h9 => h9) rfl (by decide +kernel) rfl rfl (Nat.le_of_ble_eq_true rfl) dX12_law_336 (fun H locs hP hD hS => ?_)
  have hP : va_P D vwCl [((ma 25), .inl (cy 0, 20, .inl f_9)), ((ma 26), .inl (cy 0, 20, .inl f_10)), (mo, .inr (12, [.int 0, .ref (ma 1), .int 0, .int 0, .int 0, .int (-1), .int 0, .int 0, .int (-1), .ref (ma 9), .ref (ma 10), .ref (ma 11), .ref (ma 12), .ref (ma 13), .ref (ma 14), .ref (ma 15), .int 0, .int 0, .int 1, .ref (ma 19), .ref (ma 20), .ref (ma 21), .int 0, .ref (ma 23), .ref (ma 24), .ref (ma 25), .ref (ma 26), .ref (ma 27), .ref (ma 28), .int 0, .int 0, .int 0, .int 0, .ref (ma 33), .int (-1), .ref (ma 35), .int 0, .int 0]))] H := hP
  have hD : va_D A [((ma 25), .inl (cy 0, 20, .inl f_9)), ((ma 26), .inl (cy 0, 20, .inl f_10)), (mo, .inr (12, [.int 0, .ref (ma 1), .int 0, .int 0, .int 0, .int (-1), .int 0, .int 0, .int (-1), .ref (ma 9), .ref (ma 10), .ref (ma 11), .ref (ma 12), .ref (ma 13), .ref (ma 14), .ref (ma 15), .int 0, .int 0, .int 1, .ref (ma 19), .ref (ma 20), .ref (ma 21), .int 0, .ref (ma 23), .ref (ma 24), .ref (ma 25), .ref (ma 26), .ref (ma 27), .ref (ma 28), .int 0, .int 0, .int 0, .int 0, .ref (ma 33), .int (-1), .ref (ma 35), .int 0, .int 0]))] := hD
  refine lv_iload_n hx hb dX12_law_339 rfl (lv_at hlv 0 rfl) ?_
  refine W.widen (k := 0) (n := 0) (Nat.le_of_ble_eq_true rfl) (Nat.le_of_ble_eq_true rfl) ?_
  exact W.iret (v := 0) hx hb hr (fun t ht hW => ⟨⟨0, ((fun k => ([] : List Nat).getD k 0), (fun k => ([] : List Int32).getD k 0), (fun k => ([] : List (Nat → Int32)).getD k (fun _ => 0))), rfl, (by first | (exact (by rfl))), by rw [ht]; exact hP.sub [2] rfl, hD.sub [2] (by decide) rfl⟩, hS.F ht⟩) hS.2.2 dX12_law_340
