theorem dX6_addShelter_0 : decode cX6_addShelter 0 = .ok (.iconst 2, 1) := by decide +kernel
theorem dX6_addShelter_1 : decode cX6_addShelter 1 = .ok (.aload_n 0, 1) := by decide +kernel
theorem dX6_addShelter_10 : decode cX6_addShelter 10 = .ok (.aload_n 0, 1) := by decide +kernel
theorem dX6_addShelter_11 : decode cX6_addShelter 11 = .ok (.getfield 22, 3) := by decide +kernel
theorem dX6_addShelter_14 : decode cX6_addShelter 14 = .ok (.arraylength, 1) := by decide +kernel
theorem dX6_addShelter_15 : decode cX6_addShelter 15 = .ok (.if_icmp .le 4, 3) := by decide +kernel
theorem dX6_addShelter_18 : decode cX6_addShelter 18 = .ok (.return_, 1) := by decide +kernel
theorem dX6_addShelter_19 : decode cX6_addShelter 19 = .ok (.aload_n 0, 1) := by decide +kernel
theorem dX6_addShelter_2 : decode cX6_addShelter 2 = .ok (.getfield 53, 3) := by decide +kernel
theorem dX6_addShelter_20 : decode cX6_addShelter 20 = .ok (.getfield 22, 3) := by decide +kernel
theorem dX6_addShelter_23 : decode cX6_addShelter 23 = .ok (.iload_n 3, 1) := by decide +kernel
theorem dX6_addShelter_24 : decode cX6_addShelter 24 = .ok (.iload_n 1, 1) := by decide +kernel
theorem dX6_addShelter_25 : decode cX6_addShelter 25 = .ok (.iastore, 1) := by decide +kernel
theorem dX6_addShelter_26 : decode cX6_addShelter 26 = .ok (.aload_n 0, 1) := by decide +kernel
theorem dX6_addShelter_27 : decode cX6_addShelter 27 = .ok (.getfield 22, 3) := by decide +kernel
theorem dX6_addShelter_30 : decode cX6_addShelter 30 = .ok (.iload_n 3, 1) := by decide +kernel
theorem dX6_addShelter_31 : decode cX6_addShelter 31 = .ok (.iconst 1, 1) := by decide +kernel
theorem dX6_addShelter_32 : decode cX6_addShelter 32 = .ok (.iadd, 1) := by decide +kernel
theorem dX6_addShelter_33 : decode cX6_addShelter 33 = .ok (.iload_n 2, 1) := by decide +kernel
theorem dX6_addShelter_34 : decode cX6_addShelter 34 = .ok (.iastore, 1) := by decide +kernel
theorem dX6_addShelter_35 : decode cX6_addShelter 35 = .ok (.aload_n 0, 1) := by decide +kernel
theorem dX6_addShelter_36 : decode cX6_addShelter 36 = .ok (.dup, 1) := by decide +kernel
theorem dX6_addShelter_37 : decode cX6_addShelter 37 = .ok (.getfield 53, 3) := by decide +kernel
theorem dX6_addShelter_40 : decode cX6_addShelter 40 = .ok (.iconst 1, 1) := by decide +kernel
theorem dX6_addShelter_41 : decode cX6_addShelter 41 = .ok (.iadd, 1) := by decide +kernel
theorem dX6_addShelter_42 : decode cX6_addShelter 42 = .ok (.putfield 53, 3) := by decide +kernel
theorem dX6_addShelter_45 : decode cX6_addShelter 45 = .ok (.return_, 1) := by decide +kernel
theorem dX6_addShelter_5 : decode cX6_addShelter 5 = .ok (.imul, 1) := by decide +kernel
theorem dX6_addShelter_6 : decode cX6_addShelter 6 = .ok (.istore_n 3, 1) := by decide +kernel
theorem dX6_addShelter_7 : decode cX6_addShelter 7 = .ok (.iload_n 3, 1) := by decide +kernel
theorem dX6_addShelter_8 : decode cX6_addShelter 8 = .ok (.iconst 2, 1) := by decide +kernel
theorem dX6_addShelter_9 : decode cX6_addShelter 9 = .ok (.iadd, 1) := by decide +kernel
theorem dX6_canStep_0 : decode cX6_canStep 0 = .ok (.iconst 0, 1) := by decide +kernel
theorem dX6_canStep_1 : decode cX6_canStep 1 = .ok (.istore_n 2, 1) := by decide +kernel
theorem dX6_canStep_10 : decode cX6_canStep 10 = .ok (.aload_n 0, 1) := by decide +kernel
theorem dX6_canStep_11 : decode cX6_canStep 11 = .ok (.getfield 19, 3) := by decide +kernel
theorem dX6_canStep_14 : decode cX6_canStep 14 = .ok (.iconst 4, 1) := by decide +kernel
theorem dX6_canStep_15 : decode cX6_canStep 15 = .ok (.iload_n 2, 1) := by decide +kernel
theorem dX6_canStep_16 : decode cX6_canStep 16 = .ok (.imul, 1) := by decide +kernel
theorem dX6_canStep_17 : decode cX6_canStep 17 = .ok (.iaload, 1) := by decide +kernel
theorem dX6_canStep_18 : decode cX6_canStep 18 = .ok (.iload_n 1, 1) := by decide +kernel
theorem dX6_canStep_19 : decode cX6_canStep 19 = .ok (.iadd, 1) := by decide +kernel
theorem dX6_canStep_2 : decode cX6_canStep 2 = .ok (.iload_n 2, 1) := by decide +kernel
theorem dX6_canStep_20 : decode cX6_canStep 20 = .ok (.iconst 0, 1) := by decide +kernel
theorem dX6_canStep_21 : decode cX6_canStep 21 = .ok (.aload_n 0, 1) := by decide +kernel
theorem dX6_canStep_22 : decode cX6_canStep 22 = .ok (.getfield 28, 3) := by decide +kernel
theorem dX6_canStep_25 : decode cX6_canStep 25 = .ok (.iconst 1, 1) := by decide +kernel
theorem dX6_canStep_26 : decode cX6_canStep 26 = .ok (.isub, 1) := by decide +kernel
theorem dX6_canStep_27 : decode cX6_canStep 27 = .ok (.invokestatic 139, 3) := by decide +kernel
theorem dX6_canStep_3 : decode cX6_canStep 3 = .ok (.aload_n 0, 1) := by decide +kernel
theorem dX6_canStep_30 : decode cX6_canStep 30 = .ok (.ifCond .ne 5, 3) := by decide +kernel
theorem dX6_canStep_33 : decode cX6_canStep 33 = .ok (.iconst 0, 1) := by decide +kernel
theorem dX6_canStep_34 : decode cX6_canStep 34 = .ok (.ireturn, 1) := by decide +kernel
theorem dX6_canStep_35 : decode cX6_canStep 35 = .ok (.iinc 2 1, 3) := by decide +kernel
theorem dX6_canStep_38 : decode cX6_canStep 38 = .ok (.goto (-36), 3) := by decide +kernel
theorem dX6_canStep_4 : decode cX6_canStep 4 = .ok (.getfield 47, 3) := by decide +kernel
theorem dX6_canStep_41 : decode cX6_canStep 41 = .ok (.iconst 1, 1) := by decide +kernel
theorem dX6_canStep_42 : decode cX6_canStep 42 = .ok (.ireturn, 1) := by decide +kernel
theorem dX6_canStep_7 : decode cX6_canStep 7 = .ok (.if_icmp .ge 34, 3) := by decide +kernel
theorem dX6_coinOf_0 : decode cX6_coinOf 0 = .ok (.iconst 0, 1) := by decide +kernel
theorem dX6_coinOf_1 : decode cX6_coinOf 1 = .ok (.istore_n 2, 1) := by decide +kernel
theorem dX6_coinOf_12 : decode cX6_coinOf 12 = .ok (.iload_n 1, 1) := by decide +kernel
theorem dX6_coinOf_13 : decode cX6_coinOf 13 = .ok (.iload_n 3, 1) := by decide +kernel
theorem dX6_coinOf_14 : decode cX6_coinOf 14 = .ok (.ishr, 1) := by decide +kernel
theorem dX6_coinOf_15 : decode cX6_coinOf 15 = .ok (.iconst 1, 1) := by decide +kernel
theorem dX6_coinOf_16 : decode cX6_coinOf 16 = .ok (.iand, 1) := by decide +kernel
theorem dX6_coinOf_17 : decode cX6_coinOf 17 = .ok (.ifCond .eq 16, 3) := by decide +kernel
theorem dX6_coinOf_2 : decode cX6_coinOf 2 = .ok (.iconst 0, 1) := by decide +kernel
theorem dX6_coinOf_20 : decode cX6_coinOf 20 = .ok (.iload_n 2, 1) := by decide +kernel
theorem dX6_coinOf_21 : decode cX6_coinOf 21 = .ok (.aload_n 0, 1) := by decide +kernel
theorem dX6_coinOf_22 : decode cX6_coinOf 22 = .ok (.getfield 25, 3) := by decide +kernel
theorem dX6_coinOf_25 : decode cX6_coinOf 25 = .ok (.iconst 5, 1) := by decide +kernel
theorem dX6_coinOf_26 : decode cX6_coinOf 26 = .ok (.iload_n 3, 1) := by decide +kernel
theorem dX6_coinOf_27 : decode cX6_coinOf 27 = .ok (.imul, 1) := by decide +kernel
theorem dX6_coinOf_28 : decode cX6_coinOf 28 = .ok (.iconst 1, 1) := by decide +kernel
theorem dX6_coinOf_29 : decode cX6_coinOf 29 = .ok (.iadd, 1) := by decide +kernel
theorem dX6_coinOf_3 : decode cX6_coinOf 3 = .ok (.istore_n 3, 1) := by decide +kernel
theorem dX6_coinOf_30 : decode cX6_coinOf 30 = .ok (.iaload, 1) := by decide +kernel
theorem dX6_coinOf_31 : decode cX6_coinOf 31 = .ok (.iadd, 1) := by decide +kernel
theorem dX6_coinOf_32 : decode cX6_coinOf 32 = .ok (.istore_n 2, 1) := by decide +kernel
theorem dX6_coinOf_33 : decode cX6_coinOf 33 = .ok (.iinc 3 1, 3) := by decide +kernel
theorem dX6_coinOf_36 : decode cX6_coinOf 36 = .ok (.goto (-32), 3) := by decide +kernel
theorem dX6_coinOf_39 : decode cX6_coinOf 39 = .ok (.iload_n 2, 1) := by decide +kernel
theorem dX6_coinOf_4 : decode cX6_coinOf 4 = .ok (.iload_n 3, 1) := by decide +kernel
theorem dX6_coinOf_40 : decode cX6_coinOf 40 = .ok (.ireturn, 1) := by decide +kernel
theorem dX6_coinOf_5 : decode cX6_coinOf 5 = .ok (.aload_n 0, 1) := by decide +kernel
theorem dX6_coinOf_6 : decode cX6_coinOf 6 = .ok (.getfield 56, 3) := by decide +kernel
theorem dX6_coinOf_9 : decode cX6_coinOf 9 = .ok (.if_icmp .ge 30, 3) := by decide +kernel
theorem dX6_isSheltered_0 : decode cX6_isSheltered 0 = .ok (.iconst 0, 1) := by decide +kernel
theorem dX6_isSheltered_1 : decode cX6_isSheltered 1 = .ok (.istore_n 2, 1) := by decide +kernel
theorem dX6_isSheltered_10 : decode cX6_isSheltered 10 = .ok (.iload_n 1, 1) := by decide +kernel
theorem dX6_isSheltered_11 : decode cX6_isSheltered 11 = .ok (.aload_n 0, 1) := by decide +kernel
theorem dX6_isSheltered_12 : decode cX6_isSheltered 12 = .ok (.getfield 22, 3) := by decide +kernel
theorem dX6_isSheltered_15 : decode cX6_isSheltered 15 = .ok (.iconst 2, 1) := by decide +kernel
theorem dX6_isSheltered_16 : decode cX6_isSheltered 16 = .ok (.iload_n 2, 1) := by decide +kernel
theorem dX6_isSheltered_17 : decode cX6_isSheltered 17 = .ok (.imul, 1) := by decide +kernel
theorem dX6_isSheltered_18 : decode cX6_isSheltered 18 = .ok (.iaload, 1) := by decide +kernel
theorem dX6_isSheltered_19 : decode cX6_isSheltered 19 = .ok (.aload_n 0, 1) := by decide +kernel
theorem dX6_isSheltered_2 : decode cX6_isSheltered 2 = .ok (.iload_n 2, 1) := by decide +kernel
theorem dX6_isSheltered_20 : decode cX6_isSheltered 20 = .ok (.getfield 22, 3) := by decide +kernel
theorem dX6_isSheltered_23 : decode cX6_isSheltered 23 = .ok (.iconst 2, 1) := by decide +kernel
theorem dX6_isSheltered_24 : decode cX6_isSheltered 24 = .ok (.iload_n 2, 1) := by decide +kernel
theorem dX6_isSheltered_25 : decode cX6_isSheltered 25 = .ok (.imul, 1) := by decide +kernel
theorem dX6_isSheltered_26 : decode cX6_isSheltered 26 = .ok (.iconst 1, 1) := by decide +kernel
theorem dX6_isSheltered_27 : decode cX6_isSheltered 27 = .ok (.iadd, 1) := by decide +kernel
theorem dX6_isSheltered_28 : decode cX6_isSheltered 28 = .ok (.iaload, 1) := by decide +kernel
theorem dX6_isSheltered_29 : decode cX6_isSheltered 29 = .ok (.invokestatic 139, 3) := by decide +kernel
theorem dX6_isSheltered_3 : decode cX6_isSheltered 3 = .ok (.aload_n 0, 1) := by decide +kernel
theorem dX6_isSheltered_32 : decode cX6_isSheltered 32 = .ok (.ifCond .eq 5, 3) := by decide +kernel
theorem dX6_isSheltered_35 : decode cX6_isSheltered 35 = .ok (.iconst 1, 1) := by decide +kernel
theorem dX6_isSheltered_36 : decode cX6_isSheltered 36 = .ok (.ireturn, 1) := by decide +kernel
theorem dX6_isSheltered_37 : decode cX6_isSheltered 37 = .ok (.iinc 2 1, 3) := by decide +kernel
theorem dX6_isSheltered_4 : decode cX6_isSheltered 4 = .ok (.getfield 53, 3) := by decide +kernel
theorem dX6_isSheltered_40 : decode cX6_isSheltered 40 = .ok (.goto (-38), 3) := by decide +kernel
theorem dX6_isSheltered_43 : decode cX6_isSheltered 43 = .ok (.iconst 0, 1) := by decide +kernel
theorem dX6_isSheltered_44 : decode cX6_isSheltered 44 = .ok (.ireturn, 1) := by decide +kernel
theorem dX6_isSheltered_7 : decode cX6_isSheltered 7 = .ok (.if_icmp .ge 36, 3) := by decide +kernel
theorem dX6_peopleAt_0 : decode cX6_peopleAt 0 = .ok (.iconst 0, 1) := by decide +kernel
theorem dX6_peopleAt_1 : decode cX6_peopleAt 1 = .ok (.istore_n 2, 1) := by decide +kernel
theorem dX6_peopleAt_12 : decode cX6_peopleAt 12 = .ok (.aload_n 0, 1) := by decide +kernel
theorem dX6_peopleAt_13 : decode cX6_peopleAt 13 = .ok (.getfield 19, 3) := by decide +kernel
theorem dX6_peopleAt_16 : decode cX6_peopleAt 16 = .ok (.iconst 4, 1) := by decide +kernel
theorem dX6_peopleAt_17 : decode cX6_peopleAt 17 = .ok (.iload_n 3, 1) := by decide +kernel
theorem dX6_peopleAt_18 : decode cX6_peopleAt 18 = .ok (.imul, 1) := by decide +kernel
theorem dX6_peopleAt_19 : decode cX6_peopleAt 19 = .ok (.iaload, 1) := by decide +kernel
theorem dX6_peopleAt_2 : decode cX6_peopleAt 2 = .ok (.iconst 0, 1) := by decide +kernel
theorem dX6_peopleAt_20 : decode cX6_peopleAt 20 = .ok (.iload_n 1, 1) := by decide +kernel
theorem dX6_peopleAt_21 : decode cX6_peopleAt 21 = .ok (.if_icmp .ne 6, 3) := by decide +kernel
theorem dX6_peopleAt_24 : decode cX6_peopleAt 24 = .ok (.iinc 2 1, 3) := by decide +kernel
theorem dX6_peopleAt_27 : decode cX6_peopleAt 27 = .ok (.iinc 3 1, 3) := by decide +kernel
theorem dX6_peopleAt_3 : decode cX6_peopleAt 3 = .ok (.istore_n 3, 1) := by decide +kernel
theorem dX6_peopleAt_30 : decode cX6_peopleAt 30 = .ok (.goto (-26), 3) := by decide +kernel
theorem dX6_peopleAt_33 : decode cX6_peopleAt 33 = .ok (.aload_n 0, 1) := by decide +kernel
theorem dX6_peopleAt_34 : decode cX6_peopleAt 34 = .ok (.getfield 50, 3) := by decide +kernel
theorem dX6_peopleAt_37 : decode cX6_peopleAt 37 = .ok (.ifCond .le 22, 3) := by decide +kernel
theorem dX6_peopleAt_4 : decode cX6_peopleAt 4 = .ok (.iload_n 3, 1) := by decide +kernel
theorem dX6_peopleAt_40 : decode cX6_peopleAt 40 = .ok (.aload_n 0, 1) := by decide +kernel
theorem dX6_peopleAt_41 : decode cX6_peopleAt 41 = .ok (.getfield 19, 3) := by decide +kernel
theorem dX6_peopleAt_44 : decode cX6_peopleAt 44 = .ok (.iconst 4, 1) := by decide +kernel
theorem dX6_peopleAt_45 : decode cX6_peopleAt 45 = .ok (.aload_n 0, 1) := by decide +kernel
theorem dX6_peopleAt_46 : decode cX6_peopleAt 46 = .ok (.getfield 47, 3) := by decide +kernel
theorem dX6_peopleAt_49 : decode cX6_peopleAt 49 = .ok (.imul, 1) := by decide +kernel
theorem dX6_peopleAt_5 : decode cX6_peopleAt 5 = .ok (.aload_n 0, 1) := by decide +kernel
theorem dX6_peopleAt_50 : decode cX6_peopleAt 50 = .ok (.iaload, 1) := by decide +kernel
theorem dX6_peopleAt_51 : decode cX6_peopleAt 51 = .ok (.iload_n 1, 1) := by decide +kernel
theorem dX6_peopleAt_52 : decode cX6_peopleAt 52 = .ok (.if_icmp .ne 7, 3) := by decide +kernel
theorem dX6_peopleAt_55 : decode cX6_peopleAt 55 = .ok (.iconst 1, 1) := by decide +kernel
theorem dX6_peopleAt_56 : decode cX6_peopleAt 56 = .ok (.goto 4, 3) := by decide +kernel
theorem dX6_peopleAt_59 : decode cX6_peopleAt 59 = .ok (.iconst 0, 1) := by decide +kernel
theorem dX6_peopleAt_6 : decode cX6_peopleAt 6 = .ok (.getfield 47, 3) := by decide +kernel
theorem dX6_peopleAt_60 : decode cX6_peopleAt 60 = .ok (.istore_n 3, 1) := by decide +kernel
theorem dX6_peopleAt_61 : decode cX6_peopleAt 61 = .ok (.iload_n 3, 1) := by decide +kernel
theorem dX6_peopleAt_62 : decode cX6_peopleAt 62 = .ok (.ifCond .eq 9, 3) := by decide +kernel
theorem dX6_peopleAt_65 : decode cX6_peopleAt 65 = .ok (.iload_n 2, 1) := by decide +kernel
theorem dX6_peopleAt_66 : decode cX6_peopleAt 66 = .ok (.iconst 1, 1) := by decide +kernel
theorem dX6_peopleAt_67 : decode cX6_peopleAt 67 = .ok (.iadd, 1) := by decide +kernel
theorem dX6_peopleAt_68 : decode cX6_peopleAt 68 = .ok (.goto 4, 3) := by decide +kernel
theorem dX6_peopleAt_71 : decode cX6_peopleAt 71 = .ok (.iload_n 2, 1) := by decide +kernel
theorem dX6_peopleAt_72 : decode cX6_peopleAt 72 = .ok (.ireturn, 1) := by decide +kernel
theorem dX6_peopleAt_9 : decode cX6_peopleAt 9 = .ok (.if_icmp .ge 24, 3) := by decide +kernel
theorem dX6_putPerson_0 : decode cX6_putPerson 0 = .ok (.iconst 4, 1) := by decide +kernel
theorem dX6_putPerson_1 : decode cX6_putPerson 1 = .ok (.iload_n 1, 1) := by decide +kernel
theorem dX6_putPerson_10 : decode cX6_putPerson 10 = .ok (.getfield 19, 3) := by decide +kernel
theorem dX6_putPerson_13 : decode cX6_putPerson 13 = .ok (.arraylength, 1) := by decide +kernel
theorem dX6_putPerson_14 : decode cX6_putPerson 14 = .ok (.if_icmp .le 4, 3) := by decide +kernel
theorem dX6_putPerson_17 : decode cX6_putPerson 17 = .ok (.return_, 1) := by decide +kernel
theorem dX6_putPerson_18 : decode cX6_putPerson 18 = .ok (.aload_n 0, 1) := by decide +kernel
theorem dX6_putPerson_19 : decode cX6_putPerson 19 = .ok (.getfield 19, 3) := by decide +kernel
theorem dX6_putPerson_2 : decode cX6_putPerson 2 = .ok (.imul, 1) := by decide +kernel
theorem dX6_putPerson_22 : decode cX6_putPerson 22 = .ok (.iload 4, 2) := by decide +kernel
theorem dX6_putPerson_24 : decode cX6_putPerson 24 = .ok (.iload_n 2, 1) := by decide +kernel
theorem dX6_putPerson_25 : decode cX6_putPerson 25 = .ok (.iastore, 1) := by decide +kernel
theorem dX6_putPerson_26 : decode cX6_putPerson 26 = .ok (.aload_n 0, 1) := by decide +kernel
theorem dX6_putPerson_27 : decode cX6_putPerson 27 = .ok (.getfield 19, 3) := by decide +kernel
theorem dX6_putPerson_3 : decode cX6_putPerson 3 = .ok (.istore 4, 2) := by decide +kernel
theorem dX6_putPerson_30 : decode cX6_putPerson 30 = .ok (.iload 4, 2) := by decide +kernel
theorem dX6_putPerson_32 : decode cX6_putPerson 32 = .ok (.iconst 1, 1) := by decide +kernel
theorem dX6_putPerson_33 : decode cX6_putPerson 33 = .ok (.iadd, 1) := by decide +kernel
theorem dX6_putPerson_34 : decode cX6_putPerson 34 = .ok (.iload_n 3, 1) := by decide +kernel
theorem dX6_putPerson_35 : decode cX6_putPerson 35 = .ok (.iastore, 1) := by decide +kernel
theorem dX6_putPerson_36 : decode cX6_putPerson 36 = .ok (.aload_n 0, 1) := by decide +kernel
theorem dX6_putPerson_37 : decode cX6_putPerson 37 = .ok (.getfield 19, 3) := by decide +kernel
theorem dX6_putPerson_40 : decode cX6_putPerson 40 = .ok (.iload 4, 2) := by decide +kernel
theorem dX6_putPerson_42 : decode cX6_putPerson 42 = .ok (.iconst 2, 1) := by decide +kernel
theorem dX6_putPerson_43 : decode cX6_putPerson 43 = .ok (.iadd, 1) := by decide +kernel
theorem dX6_putPerson_44 : decode cX6_putPerson 44 = .ok (.iconst 0, 1) := by decide +kernel
theorem dX6_putPerson_45 : decode cX6_putPerson 45 = .ok (.iastore, 1) := by decide +kernel
theorem dX6_putPerson_46 : decode cX6_putPerson 46 = .ok (.aload_n 0, 1) := by decide +kernel
theorem dX6_putPerson_47 : decode cX6_putPerson 47 = .ok (.getfield 19, 3) := by decide +kernel
theorem dX6_putPerson_5 : decode cX6_putPerson 5 = .ok (.iload 4, 2) := by decide +kernel
theorem dX6_putPerson_50 : decode cX6_putPerson 50 = .ok (.iload 4, 2) := by decide +kernel
theorem dX6_putPerson_52 : decode cX6_putPerson 52 = .ok (.iconst 3, 1) := by decide +kernel
theorem dX6_putPerson_53 : decode cX6_putPerson 53 = .ok (.iadd, 1) := by decide +kernel
theorem dX6_putPerson_54 : decode cX6_putPerson 54 = .ok (.iconst 0, 1) := by decide +kernel
theorem dX6_putPerson_55 : decode cX6_putPerson 55 = .ok (.iastore, 1) := by decide +kernel
theorem dX6_putPerson_56 : decode cX6_putPerson 56 = .ok (.return_, 1) := by decide +kernel
theorem dX6_putPerson_7 : decode cX6_putPerson 7 = .ok (.iconst 4, 1) := by decide +kernel
theorem dX6_putPerson_8 : decode cX6_putPerson 8 = .ok (.iadd, 1) := by decide +kernel
theorem dX6_putPerson_9 : decode cX6_putPerson 9 = .ok (.aload_n 0, 1) := by decide +kernel
def vs_s_peopleAt : List Cond := .code yX6_peopleAt cX6_peopleAt 4 (some .int) :: (([.fieldLink RX6 47 "KerbSplash$Street" "persons" "I", .fieldLink RX6 50 "KerbSplash$Street" "guesses" "I", .fieldLink RX6 19 "KerbSplash$Street" "person" "[I"] : List Cond) ++ ((wsX60) ++ ([])))
theorem gd_s_peopleAt : vs_s_peopleAt.all goodWord = true := gd_C (by decide +kernel) (gd_A (by decide +kernel) (gd_A (by decide +kernel) rfl))
set_option maxHeartbeats 4000000 in
set_option maxRecDepth 100000 in
theorem s_peopleAt (l : Launch) (hl : l.stackTraces = false) (D : va_G) (cy : Nat → ClassId) (sa : Nat → Nat) (sA s2 s3 s6 s8 s11 s13 : Nat) (wi ro dr dt pe gu sh wo dn mi fl tk go : Int) (xl xh : Int) (pf : Nat → Int32) (n : Int) (sz : Nat) (hr_wi : 0 ≤ wi ∧ wi ≤ 16) (hr_ro : 0 ≤ ro ∧ ro ≤ 6) (hr_dr : 0 ≤ dr ∧ dr ≤ 14) (hr_dt : 0 ≤ dt ∧ dt ≤ 6) (hr_pe : 0 ≤ pe ∧ pe ≤ 8) (hr_gu : 0 ≤ gu ∧ gu ≤ 20) (hr_sh : 0 ≤ sh ∧ sh ≤ 2) (hr_wo : 0 ≤ wo ∧ wo ≤ 8) (hr_dn : (-2147483648) ≤ dn ∧ dn ≤ 2147483647) (hr_mi : 0 ≤ mi ∧ mi ≤ 600) (hr_fl : (-2147483648) ≤ fl ∧ fl ≤ 2147483647) (hr_tk : (-2147483648) ≤ tk ∧ tk ≤ 2147483647) (hr_go : (-2147483648) ≤ go ∧ go ≤ 2147483647) (hr_xl : (-2147483648) ≤ xl ∧ xl ≤ 0) (hr_xh : 15 ≤ xh ∧ xh ≤ 2147483647) (hr_n : (-2147483648) ≤ n ∧ n ≤ 2147483647) (hpf : tab_ 4 28 [xl, 0, (-2147483648), (-2147483648)] [xh, 19, 2147483647, 2147483647] pf) : Met l yX6_peopleAt vs_s_peopleAt ({ frames := 0, cells := 0, slots := 0, locals := 0 }) (va_Pc [vR sA, vI n] (pcW D cy sa sz [zO sA 6 [vI wi, vI ro, vR s2, vR s3, vI dr, vI dt, vR s6, vI pe, vR s8, vI gu, vI sh, vR s11, vI wo, vR s13, vI dn, vI mi, vI fl, vI tk, vI go], zI s8 (cy 0) 112 pf])) (va_Qi (fun (r : Int32) (u : SV) => r = iI (u.2.1 0) ∧ (0 ≤ u.2.1 0 ∧ u.2.1 0 ≤ 9) ∧ tab_ 4 28 [xl, 0, (-2147483648), (-2147483648)] [xh, 19, 2147483647, 2147483647] pf) (fun u t => atW D (va_A [zO sA 6 [vI wi, vI ro, vR s2, vR s3, vI dr, vI dt, vR s6, vI pe, vR s8, vI gu, vI sh, vR s11, vI wo, vR s13, vI dn, vI mi, vI fl, vI tk, vI go], zI s8 (cy 0) 112 pf] sz) [zO sA 6 [vI wi, vI ro, vR s2, vR s3, vI dr, vI dt, vR s6, vI pe, vR s8, vI gu, vI sh, vR s11, vI wo, vR s13, vI dn, vI mi, vI fl, vI tk, vI go], zI s8 (cy 0) 112 pf] t) (va_A [zO sA 6 [vI wi, vI ro, vR s2, vR s3, vI dr, vI dt, vR s6, vI pe, vR s8, vI gu, vI sh, vR s11, vI wo, vR s13, vI dn, vI mi, vI fl, vI tk, vI go], zI s8 (cy 0) 112 pf] sz)) 0 0 (va_A [zO sA 6 [vI wi, vI ro, vR s2, vR s3, vI dr, vI dt, vR s6, vI pe, vR s8, vI gu, vI sh, vR s11, vI wo, vR s13, vI dn, vI mi, vI fl, vI tk, vI go], zI s8 (cy 0) 112 pf] sz) := by
  refine Met.ofW (cc := cX6_peopleAt) (maxL := 4) (ret := (some .int)) (by decide) rfl ?_
  intro p e s m args below meth c s₁ B hml hv
  obtain ⟨rfl, hsz, hP, hG, hD0, hT⟩ := hv
  have hx := B.exec
  have hb := B.bytes
  have hr := B.returns
  have hts := atoms_spec (ws := vs_s_peopleAt) B.pre
  have hown : s.vm.findClass RX6 = some m.cls := findClass_of_methodNamed B.named
  have hlocks := B.notSynchronized
  subst hsz
  have hD := hD0.self (sz := s.heap.size)
  generalize hAe : va_A [zO sA 6 [vI wi, vI ro, vR s2, vR s3, vI dr, vI dt, vR s6, vI pe, vR s8, vI gu, vI sh, vR s11, vI wo, vR s13, vI dn, vI mi, vI fl, vI tk, vI go], zI s8 (cy 0) 112 pf] s.heap.size = A at hD hT ⊢
  have hA : ∀ q : Nat, s.heap.size ≤ q → A q := fun q h => by rw [← hAe]; exact Or.inr h
  have hS : va_S A s.heap s.heap [] := va_S.rf
  have hl0 := lv_entry ([vR sA, vI n]) (n := 4) (Nat.le_of_ble_eq_true rfl)
  rw [lg_entry_eq]
  generalize (lg_sl ([vR sA, vI n]) ++ List.replicate (4 - (lg_sl ([vR sA, vI n])).length) Slot.unset).toArray = ls at hl0 ⊢
  have hlv : lv_has ls 4 [(0, vR sA), (1, vI n)] := hl0
  have lf47 := hts (.fieldLink RX6 47 "KerbSplash$Street" "persons" "I") (List.mem_of_getElem? (i := 1) rfl)
  have hi6 : ∀ w ∈ wsX60, w ∈ vs_s_peopleAt := fun w h => List.mem_cons_of_mem _ (List.mem_append_right _ (List.mem_append_left _ h))
  have lf50 := hts (.fieldLink RX6 50 "KerbSplash$Street" "guesses" "I") (List.mem_of_getElem? (i := 2) rfl)
  have lf19 := hts (.fieldLink RX6 19 "KerbSplash$Street" "person" "[I") (List.mem_of_getElem? (i := 3) rfl)
  refine lv_iconst (v := iI 0) hx hb dX6_peopleAt_0 (by decide) ?_
  refine lv_istore_n (lv' := [(2, vI 0), (0, vR sA), (1, vI n)]) hx hb dX6_peopleAt_1 rfl hlv (by decide) rfl (fun ls hlv => ?_)
  refine lv_iconst (v := iI 0) hx hb dX6_peopleAt_2 (by decide) ?_
  refine lv_istore_n (lv' := [(3, vI 0), (2, vI 0), (0, vR sA), (1, vI n)]) hx hb dX6_peopleAt_3 rfl hlv (by decide) rfl (fun ls hlv => ?_)
  refine (?_ : ∀ (fu : Nat) (x : Int) (v : Int) (H : Heap) (locs : List Loc) (ls : Array Slot), 8 - x < (fu : Int) → (0 ≤ x ∧ x ≤ 8) → (0 ≤ v ∧ v ≤ 8) → (v ≤ x) → (x ≤ pe) → va_P D vwCl [zO sA 6 [vI wi, vI ro, vR s2, vR s3, vI dr, vI dt, vR s6, vI pe, vR s8, vI gu, vI sh, vR s11, vI wo, vR s13, vI dn, vI mi, vI fl, vI tk, vI go], zI s8 (cy 0) 112 pf] H → va_D A [zO sA 6 [vI wi, vI ro, vR s2, vR s3, vI dr, vI dt, vR s6, vI pe, vR s8, vI gu, vI sh, vR s11, vI wo, vR s13, vI dn, vI mi, vI fl, vI tk, vI go], zI s8 (cy 0) 112 pf] → va_S A s.heap H locs → lv_has ls 4 [(3, vI x), (2, vI v), (0, vR sA), (1, vI n)] → W p l e _ s m _ below meth c H locs _ _ _ (F0 m 4 ls [])) (((8 - 0) + 1 : Int)).toNat 0 0 _ _ _ (by omega) (by show (0 : Int) ≤ 0 ∧ (0 : Int) ≤ 8; decide) (by show (0 : Int) ≤ 0 ∧ (0 : Int) ≤ 8; decide) (by omega) (by omega)  hP hD hS hlv
  clear hP hD hS hlv
  intro fu
  induction fu with
  | zero => intro x v H locs ls hm4 hl4_0 hl4_1 hl4_2 hl4_3  hP hD hS hlv; omega
  | succ fu ih4 =>
    intro x v H locs ls hm4 hl4_0 hl4_1 hl4_2 hl4_3  hP hD hS hlv
    refine lv_iload_n hx hb dX6_peopleAt_4 rfl (lv_at hlv 0 rfl) ?_
    refine lv_aload_n hx hb dX6_peopleAt_5 rfl (lv_at hlv 2 rfl) ?_
    refine va_get (D := D) (ci := 6) (v := vI pe) (C := RX6) (T := TX6) (N := 19) hx hb hts hi6 hown hG.1 hP 0 rfl rfl 7 (by decide) lf47 (fun _ h9 => h9) rfl dX6_peopleAt_6 ?_
    refine ir_ge (tgt := 33) hx hb dX6_peopleAt_9 (by decide) (by first | exact rgw hl4_0 (by decide) (by decide) | omega) (by first | exact rgw hr_pe (by decide) (by decide) | omega) (fun c_1 => ?_) (fun c_1 => ?_)
    · refine lv_aload_n hx hb dX6_peopleAt_33 rfl (lv_at hlv 2 rfl) ?_
      refine va_get (D := D) (ci := 6) (v := vI gu) (C := RX6) (T := TX6) (N := 19) hx hb hts hi6 hown hG.1 hP 0 rfl rfl 9 (by decide) lf50 (fun _ h9 => h9) rfl dX6_peopleAt_34 ?_
      refine iz_le (tgt := 59) hx hb dX6_peopleAt_37 (by decide) (by first | exact rgw hr_gu (by decide) (by decide) | omega) (fun c_2 => ?_) (fun c_2 => ?_)
      · refine lv_iconst (v := iI 0) hx hb dX6_peopleAt_59 (by decide) ?_
        refine lv_istore_n (lv' := [(3, vI 0), (2, vI v), (0, vR sA), (1, vI n)]) hx hb dX6_peopleAt_60 rfl hlv (by decide) rfl (fun ls hlv => ?_)
        refine lv_iload_n hx hb dX6_peopleAt_61 rfl (lv_at hlv 0 rfl) ?_
        refine iz_eq (tgt := 71) hx hb dX6_peopleAt_62 (by decide) (by show ((-2147483648) : Int) ≤ 0 ∧ (0 : Int) ≤ 2147483647; decide) (fun c_3 => ?_) (fun c_3 => by exfalso; omega)
        refine lv_iload_n hx hb dX6_peopleAt_71 rfl (lv_at hlv 1 rfl) ?_
        refine W.widen (k := 0) (n := 0) (Nat.le_of_ble_eq_true rfl) (Nat.le_of_ble_eq_true rfl) ?_
        exact W.iret (v := iI v) hx hb hr (fun t ht hW => ⟨⟨iI v, ((fun k => ([] : List Nat).getD k 0), (fun k => ([v] : List Int).getD k 0), (fun k => ([] : List (Nat → Int32)).getD k (fun _ => 0))), rfl, ⟨rfl, (by show (0 ≤ v ∧ v ≤ 9); first | exact rgw hl4_1 (by decide) (by decide) | omega), hpf⟩, by rw [ht]; exact hP.sub [0, 1] rfl, hD.sub [0, 1] (by decide) rfl⟩, hS.F ht⟩) hS.2.2 dX6_peopleAt_72
      · refine lv_aload_n hx hb dX6_peopleAt_40 rfl (lv_at hlv 2 rfl) ?_
        refine va_get (D := D) (ci := 6) (v := vR s8) (C := RX6) (T := TX6) (N := 19) hx hb hts hi6 hown hG.1 hP 0 rfl rfl 8 (by decide) lf19 (fun _ h9 => h9) rfl dX6_peopleAt_41 ?_
        refine lv_iconst (v := iI 4) hx hb dX6_peopleAt_44 (by decide) ?_
        refine lv_aload_n hx hb dX6_peopleAt_45 rfl (lv_at hlv 2 rfl) ?_
        refine va_get (D := D) (ci := 6) (v := vI pe) (C := RX6) (T := TX6) (N := 19) hx hb hts hi6 hown hG.1 hP 0 rfl rfl 7 (by decide) lf47 (fun _ h9 => h9) rfl dX6_peopleAt_46 ?_
        refine lv_imul hx hb dX6_peopleAt_49 ?_
        refine lt_e (e0 := 4 * pe) (Int32.ofInt_mul _ _).symm (fun z_4 hz_4 => ?_)
        refine va_iald hx hb hG.1 hP 1 0 rfl rfl (iI_in (by omega) (by decide)) dX6_peopleAt_50 ?_
        obtain ⟨z_5, ez_5, hz_5, lz_5⟩ := tab_rd hpf (e := z_4) (k := pe) (c := 0) (a := xl) (b := xh) (by omega) (by omega) (by decide) (by omega) rfl rfl
        refine lt_i (y := iI z_5) ez_5 ?_
        refine lv_iload_n hx hb dX6_peopleAt_51 rfl (lv_at hlv 3 rfl) ?_
        refine ir_ne (tgt := 59) hx hb dX6_peopleAt_52 (by decide) (by first | exact hz_5 | omega) (by first | exact hr_n | omega) (fun c_6 => ?_) (fun c_6 => ?_)
        · refine lv_iconst (v := iI 0) hx hb dX6_peopleAt_59 (by decide) ?_
          refine lv_istore_n (lv' := [(3, vI 0), (2, vI v), (0, vR sA), (1, vI n)]) hx hb dX6_peopleAt_60 rfl hlv (by decide) rfl (fun ls hlv => ?_)
          refine lv_iload_n hx hb dX6_peopleAt_61 rfl (lv_at hlv 0 rfl) ?_
          refine iz_eq (tgt := 71) hx hb dX6_peopleAt_62 (by decide) (by show ((-2147483648) : Int) ≤ 0 ∧ (0 : Int) ≤ 2147483647; decide) (fun c_7 => ?_) (fun c_7 => by exfalso; omega)
          refine lv_iload_n hx hb dX6_peopleAt_71 rfl (lv_at hlv 1 rfl) ?_
          refine W.widen (k := 0) (n := 0) (Nat.le_of_ble_eq_true rfl) (Nat.le_of_ble_eq_true rfl) ?_
          exact W.iret (v := iI v) hx hb hr (fun t ht hW => ⟨⟨iI v, ((fun k => ([] : List Nat).getD k 0), (fun k => ([v] : List Int).getD k 0), (fun k => ([] : List (Nat → Int32)).getD k (fun _ => 0))), rfl, ⟨rfl, (by show (0 ≤ v ∧ v ≤ 9); first | exact rgw hl4_1 (by decide) (by decide) | omega), hpf⟩, by rw [ht]; exact hP.sub [0, 1] rfl, hD.sub [0, 1] (by decide) rfl⟩, hS.F ht⟩) hS.2.2 dX6_peopleAt_72
        · refine lv_iconst (v := iI 1) hx hb dX6_peopleAt_55 (by decide) ?_
          refine lv_goto (tgt := 60) hx hb dX6_peopleAt_56 (by decide) ?_
          refine lv_istore_n (lv' := [(3, vI 1), (2, vI v), (0, vR sA), (1, vI n)]) hx hb dX6_peopleAt_60 rfl hlv (by decide) rfl (fun ls hlv => ?_)
          refine lv_iload_n hx hb dX6_peopleAt_61 rfl (lv_at hlv 0 rfl) ?_
          refine iz_eq (tgt := 71) hx hb dX6_peopleAt_62 (by decide) (by show ((-2147483648) : Int) ≤ 1 ∧ (1 : Int) ≤ 2147483647; decide) (fun c_8 => by exfalso; omega) (fun c_8 => ?_)
          refine lv_iload_n hx hb dX6_peopleAt_65 rfl (lv_at hlv 1 rfl) ?_
          refine lv_iconst (v := iI 1) hx hb dX6_peopleAt_66 (by decide) ?_
          refine lv_iadd hx hb dX6_peopleAt_67 ?_
          refine lt_e (e0 := v + 1) (Int32.ofInt_add _ _).symm (fun z_9 hz_9 => ?_)
          refine lv_goto (tgt := 72) hx hb dX6_peopleAt_68 (by decide) ?_
          refine W.widen (k := 0) (n := 0) (Nat.le_of_ble_eq_true rfl) (Nat.le_of_ble_eq_true rfl) ?_
          exact W.iret (v := iI z_9) hx hb hr (fun t ht hW => ⟨⟨iI z_9, ((fun k => ([] : List Nat).getD k 0), (fun k => ([z_9] : List Int).getD k 0), (fun k => ([] : List (Nat → Int32)).getD k (fun _ => 0))), rfl, ⟨rfl, (by show (0 ≤ z_9 ∧ z_9 ≤ 9); omega), hpf⟩, by rw [ht]; exact hP.sub [0, 1] rfl, hD.sub [0, 1] (by decide) rfl⟩, hS.F ht⟩) hS.2.2 dX6_peopleAt_72
    · refine lv_aload_n hx hb dX6_peopleAt_12 rfl (lv_at hlv 2 rfl) ?_
      refine va_get (D := D) (ci := 6) (v := vR s8) (C := RX6) (T := TX6) (N := 19) hx hb hts hi6 hown hG.1 hP 0 rfl rfl 8 (by decide) lf19 (fun _ h9 => h9) rfl dX6_peopleAt_13 ?_
      refine lv_iconst (v := iI 4) hx hb dX6_peopleAt_16 (by decide) ?_
      refine lv_iload_n hx hb dX6_peopleAt_17 rfl (lv_at hlv 0 rfl) ?_
      refine lv_imul hx hb dX6_peopleAt_18 ?_
      refine lt_e (e0 := 4 * x) (Int32.ofInt_mul _ _).symm (fun z_10 hz_10 => ?_)
      refine va_iald hx hb hG.1 hP 1 0 rfl rfl (iI_in (by omega) (by decide)) dX6_peopleAt_19 ?_
      obtain ⟨z_11, ez_11, hz_11, lz_11⟩ := tab_rd hpf (e := z_10) (k := x) (c := 0) (a := xl) (b := xh) (by omega) (by omega) (by decide) (by omega) rfl rfl
      refine lt_i (y := iI z_11) ez_11 ?_
      refine lv_iload_n hx hb dX6_peopleAt_20 rfl (lv_at hlv 3 rfl) ?_
      refine ir_ne (tgt := 27) hx hb dX6_peopleAt_21 (by decide) (by first | exact hz_11 | omega) (by first | exact hr_n | omega) (fun c_12 => ?_) (fun c_12 => ?_)
      · obtain ⟨z_13, hz_13⟩ : ∃ z : Int, z = x + 1 := ⟨_, rfl⟩
        refine lv_iinc (v := iI z_13) (lv' := [(3, vI z_13), (2, vI v), (0, vR sA), (1, vI n)]) hx hb dX6_peopleAt_27 hlv (k := 0) rfl (by rw [hz_13]; exact (Int32.ofInt_add _ _).symm) (by decide) rfl (fun ls hlv => ?_)
        refine lv_goto (tgt := 4) hx hb dX6_peopleAt_30 (by decide) ?_
        exact ih4 z_13 v H locs ls (by omega) (by omega) (by first | exact hl4_1 | omega) (by omega) (by omega)  (hP.sub [0, 1] rfl) (hD.sub [0, 1] (by decide) rfl) hS (lv_sub hlv [0, 1, 2, 3] rfl)
      · obtain ⟨z_14, hz_14⟩ : ∃ z : Int, z = v + 1 := ⟨_, rfl⟩
        refine lv_iinc (v := iI z_14) (lv' := [(2, vI z_14), (3, vI x), (0, vR sA), (1, vI n)]) hx hb dX6_peopleAt_24 hlv (k := 1) rfl (by rw [hz_14]; exact (Int32.ofInt_add _ _).symm) (by decide) rfl (fun ls hlv => ?_)
        obtain ⟨z_15, hz_15⟩ : ∃ z : Int, z = x + 1 := ⟨_, rfl⟩
        refine lv_iinc (v := iI z_15) (lv' := [(3, vI z_15), (2, vI z_14), (0, vR sA), (1, vI n)]) hx hb dX6_peopleAt_27 hlv (k := 1) rfl (by rw [hz_15]; exact (Int32.ofInt_add _ _).symm) (by decide) rfl (fun ls hlv => ?_)
        refine lv_goto (tgt := 4) hx hb dX6_peopleAt_30 (by decide) ?_
        exact ih4 z_15 z_14 H locs ls (by omega) (by omega) (by omega) (by omega) (by omega)  (hP.sub [0, 1] rfl) (hD.sub [0, 1] (by decide) rfl) hS (lv_sub hlv [0, 1, 2, 3] rfl)
def vs_s_isSheltered : List Cond := .code yX6_isSheltered cX6_isSheltered 3 (some .boolean) :: (([.fieldLink RX6 53 "KerbSplash$Street" "shelters" "I", .fieldLink RX6 22 "KerbSplash$Street" "shelter" "[I", .initialized RX11, .static yX11_isWithin] : List Cond) ++ ((wsX60) ++ ((vs_s_within) ++ ([]))))
theorem gd_s_isSheltered : vs_s_isSheltered.all goodWord = true := gd_C (by decide +kernel) (gd_A (by decide +kernel) (gd_A (by decide +kernel) (gd_A gd_s_within rfl)))
set_option maxHeartbeats 4000000 in
set_option maxRecDepth 100000 in
theorem s_isSheltered (l : Launch) (hl : l.stackTraces = false) (D : va_G) (cy : Nat → ClassId) (sa : Nat → Nat) (sA s2 s3 s6 s8 s11 s13 : Nat) (wi ro dr dt pe gu sh wo dn mi fl tk go : Int) (sf : Nat → Int32) (n : Int) (sz : Nat) (hr_wi : 0 ≤ wi ∧ wi ≤ 16) (hr_ro : 0 ≤ ro ∧ ro ≤ 6) (hr_dr : 0 ≤ dr ∧ dr ≤ 14) (hr_dt : 0 ≤ dt ∧ dt ≤ 6) (hr_pe : 0 ≤ pe ∧ pe ≤ 8) (hr_gu : 0 ≤ gu ∧ gu ≤ 20) (hr_sh : 0 ≤ sh ∧ sh ≤ 2) (hr_wo : 0 ≤ wo ∧ wo ≤ 8) (hr_dn : (-2147483648) ≤ dn ∧ dn ≤ 2147483647) (hr_mi : 0 ≤ mi ∧ mi ≤ 600) (hr_fl : (-2147483648) ≤ fl ∧ fl ≤ 2147483647) (hr_tk : (-2147483648) ≤ tk ∧ tk ≤ 2147483647) (hr_go : (-2147483648) ≤ go ∧ go ≤ 2147483647) (hr_n : (-2147483648) ≤ n ∧ n ≤ 2147483647) : Met l yX6_isSheltered vs_s_isSheltered ({ frames := 1, cells := 0, slots := 0, locals := 22 }) (va_Pc [vR sA, vI n] (pcW D cy sa sz [zO sA 6 [vI wi, vI ro, vR s2, vR s3, vI dr, vI dt, vR s6, vI pe, vR s8, vI gu, vI sh, vR s11, vI wo, vR s13, vI dn, vI mi, vI fl, vI tk, vI go], zI s11 (cy 0) 4 sf])) (va_Qi (fun (r : Int32) (u : SV) => r = iI (u.2.1 0) ∧ (0 ≤ u.2.1 0 ∧ u.2.1 0 ≤ 1)) (fun u t => atW D (va_A [zO sA 6 [vI wi, vI ro, vR s2, vR s3, vI dr, vI dt, vR s6, vI pe, vR s8, vI gu, vI sh, vR s11, vI wo, vR s13, vI dn, vI mi, vI fl, vI tk, vI go], zI s11 (cy 0) 4 sf] sz) [zO sA 6 [vI wi, vI ro, vR s2, vR s3, vI dr, vI dt, vR s6, vI pe, vR s8, vI gu, vI sh, vR s11, vI wo, vR s13, vI dn, vI mi, vI fl, vI tk, vI go], zI s11 (cy 0) 4 sf] t) (va_A [zO sA 6 [vI wi, vI ro, vR s2, vR s3, vI dr, vI dt, vR s6, vI pe, vR s8, vI gu, vI sh, vR s11, vI wo, vR s13, vI dn, vI mi, vI fl, vI tk, vI go], zI s11 (cy 0) 4 sf] sz)) 0 0 (va_A [zO sA 6 [vI wi, vI ro, vR s2, vR s3, vI dr, vI dt, vR s6, vI pe, vR s8, vI gu, vI sh, vR s11, vI wo, vR s13, vI dn, vI mi, vI fl, vI tk, vI go], zI s11 (cy 0) 4 sf] sz) := by
  refine Met.ofW (cc := cX6_isSheltered) (maxL := 3) (ret := (some .boolean)) (by decide) rfl ?_
  intro p e s m args below meth c s₁ B hml hv
  obtain ⟨rfl, hsz, hP, hG, hD0, hT⟩ := hv
  have hx := B.exec
  have hb := B.bytes
  have hr := B.returns
  have hts := atoms_spec (ws := vs_s_isSheltered) B.pre
  have hown : s.vm.findClass RX6 = some m.cls := findClass_of_methodNamed B.named
  have hlocks := B.notSynchronized
  subst hsz
  have hD := hD0.self (sz := s.heap.size)
  generalize hAe : va_A [zO sA 6 [vI wi, vI ro, vR s2, vR s3, vI dr, vI dt, vR s6, vI pe, vR s8, vI gu, vI sh, vR s11, vI wo, vR s13, vI dn, vI mi, vI fl, vI tk, vI go], zI s11 (cy 0) 4 sf] s.heap.size = A at hD hT ⊢
  have hA : ∀ q : Nat, s.heap.size ≤ q → A q := fun q h => by rw [← hAe]; exact Or.inr h
  have hS : va_S A s.heap s.heap [] := va_S.rf
  have hl0 := lv_entry ([vR sA, vI n]) (n := 3) (Nat.le_of_ble_eq_true rfl)
  rw [lg_entry_eq]
  generalize (lg_sl ([vR sA, vI n]) ++ List.replicate (3 - (lg_sl ([vR sA, vI n])).length) Slot.unset).toArray = ls at hl0 ⊢
  have hlv : lv_has ls 3 [(0, vR sA), (1, vI n)] := hl0
  have lf53 := hts (.fieldLink RX6 53 "KerbSplash$Street" "shelters" "I") (List.mem_of_getElem? (i := 1) rfl)
  have hi6 : ∀ w ∈ wsX60, w ∈ vs_s_isSheltered := fun w h => List.mem_cons_of_mem _ (List.mem_append_right _ (List.mem_append_left _ h))
  have lf22 := hts (.fieldLink RX6 22 "KerbSplash$Street" "shelter" "[I") (List.mem_of_getElem? (i := 2) rfl)
  have gg_1 : GoodIn vs_s_isSheltered (vs_s_within) := goodIn_sub (fun w h => List.mem_cons_of_mem _ (List.mem_append_right _ (List.mem_append_right _ (List.mem_append_left _ h)))) gd_s_within
  have ini_RX11 := hts (.initialized RX11) (List.mem_of_getElem? (i := 3) rfl)
  have st_X11_isWithin := hts (.static yX11_isWithin) (List.mem_of_getElem? (i := 4) rfl)
  refine lv_iconst (v := iI 0) hx hb dX6_isSheltered_0 (by decide) ?_
  refine lv_istore_n (lv' := [(2, vI 0), (0, vR sA), (1, vI n)]) hx hb dX6_isSheltered_1 rfl hlv (by decide) rfl (fun ls hlv => ?_)
  refine (?_ : ∀ (fu : Nat) (x : Int) (H : Heap) (locs : List Loc) (ls : Array Slot), 2 - x < (fu : Int) → (0 ≤ x ∧ x ≤ 2) → va_P D vwCl [zO sA 6 [vI wi, vI ro, vR s2, vR s3, vI dr, vI dt, vR s6, vI pe, vR s8, vI gu, vI sh, vR s11, vI wo, vR s13, vI dn, vI mi, vI fl, vI tk, vI go], zI s11 (cy 0) 4 sf] H → va_D A [zO sA 6 [vI wi, vI ro, vR s2, vR s3, vI dr, vI dt, vR s6, vI pe, vR s8, vI gu, vI sh, vR s11, vI wo, vR s13, vI dn, vI mi, vI fl, vI tk, vI go], zI s11 (cy 0) 4 sf] → va_S A s.heap H locs → lv_has ls 3 [(2, vI x), (0, vR sA), (1, vI n)] → W p l e _ s m _ below meth c H locs _ _ _ (F0 m 2 ls [])) (((2 - 0) + 1 : Int)).toNat 0 _ _ _ (by omega) (by show (0 : Int) ≤ 0 ∧ (0 : Int) ≤ 2; decide)  hP hD hS hlv
  clear hP hD hS hlv
  intro fu
  induction fu with
  | zero => intro x H locs ls hm2 hl2_0  hP hD hS hlv; omega
  | succ fu ih2 =>
    intro x H locs ls hm2 hl2_0  hP hD hS hlv
    refine lv_iload_n hx hb dX6_isSheltered_2 rfl (lv_at hlv 0 rfl) ?_
    refine lv_aload_n hx hb dX6_isSheltered_3 rfl (lv_at hlv 1 rfl) ?_
    refine va_get (D := D) (ci := 6) (v := vI sh) (C := RX6) (T := TX6) (N := 19) hx hb hts hi6 hown hG.1 hP 0 rfl rfl 10 (by decide) lf53 (fun _ h9 => h9) rfl dX6_isSheltered_4 ?_
    refine ir_ge (tgt := 43) hx hb dX6_isSheltered_7 (by decide) (by first | exact rgw hl2_0 (by decide) (by decide) | omega) (by first | exact rgw hr_sh (by decide) (by decide) | omega) (fun c_1 => ?_) (fun c_1 => ?_)
    · refine lv_iconst (v := iI 0) hx hb dX6_isSheltered_43 (by decide) ?_
      refine W.widen (k := 0) (n := 0) (Nat.le_of_ble_eq_true rfl) (Nat.le_of_ble_eq_true rfl) ?_
      exact W.zret (v := iI 0) hx hb hr (by first | rfl | decide) (fun t ht hW => ⟨⟨iI 0, ((fun k => ([] : List Nat).getD k 0), (fun k => ([0] : List Int).getD k 0), (fun k => ([] : List (Nat → Int32)).getD k (fun _ => 0))), rfl, ⟨rfl, (by show (0 ≤ 0 ∧ 0 ≤ 1); show (0 : Int) ≤ 0 ∧ (0 : Int) ≤ 1; decide)⟩, by rw [ht]; exact hP.sub [0, 1] rfl, hD.sub [0, 1] (by decide) rfl⟩, hS.F ht⟩) hS.2.2 dX6_isSheltered_44
    · refine lv_iload_n hx hb dX6_isSheltered_10 rfl (lv_at hlv 2 rfl) ?_
      refine lv_aload_n hx hb dX6_isSheltered_11 rfl (lv_at hlv 1 rfl) ?_
      refine va_get (D := D) (ci := 6) (v := vR s11) (C := RX6) (T := TX6) (N := 19) hx hb hts hi6 hown hG.1 hP 0 rfl rfl 11 (by decide) lf22 (fun _ h9 => h9) rfl dX6_isSheltered_12 ?_
      refine lv_iconst (v := iI 2) hx hb dX6_isSheltered_15 (by decide) ?_
      refine lv_iload_n hx hb dX6_isSheltered_16 rfl (lv_at hlv 0 rfl) ?_
      refine lv_imul hx hb dX6_isSheltered_17 ?_
      refine lt_e (e0 := 2 * x) (Int32.ofInt_mul _ _).symm (fun z_2 hz_2 => ?_)
      refine va_iald hx hb hG.1 hP 1 0 rfl rfl (iI_in (by omega) (by decide)) dX6_isSheltered_18 ?_
      refine lt_z (fun z_3 ez_3 lz_3 hz_3 => ?_)
      refine lv_aload_n hx hb dX6_isSheltered_19 rfl (lv_at hlv 1 rfl) ?_
      refine va_get (D := D) (ci := 6) (v := vR s11) (C := RX6) (T := TX6) (N := 19) hx hb hts hi6 hown hG.1 hP 0 rfl rfl 11 (by decide) lf22 (fun _ h9 => h9) rfl dX6_isSheltered_20 ?_
      refine lv_iconst (v := iI 2) hx hb dX6_isSheltered_23 (by decide) ?_
      refine lv_iload_n hx hb dX6_isSheltered_24 rfl (lv_at hlv 0 rfl) ?_
      refine lv_imul hx hb dX6_isSheltered_25 ?_
      refine lt_e (e0 := 2 * x) (Int32.ofInt_mul _ _).symm (fun z_4 hz_4 => ?_)
      refine lv_iconst (v := iI 1) hx hb dX6_isSheltered_26 (by decide) ?_
      refine lv_iadd hx hb dX6_isSheltered_27 ?_
      refine lt_e (e0 := z_4 + 1) (Int32.ofInt_add _ _).symm (fun z_5 hz_5 => ?_)
      refine va_iald hx hb hG.1 hP 1 0 rfl rfl (iI_in (by omega) (by decide)) dX6_isSheltered_28 ?_
      refine lt_z (fun z_6 ez_6 lz_6 hz_6 => ?_)
      refine cj_i (wr := [zO sA 6 [vI wi, vI ro, vR s2, vR s3, vI dr, vI dt, vR s6, vI pe, vR s8, vI gu, vI sh, vR s11, vI wo, vR s13, vI dn, vI mi, vI fl, vI tk, vI go], zI s11 (cy 0) 4 sf]) (va_runSN (host := "KerbSplash") (As := [vI n, vI z_3, vI z_6]) (rest := []) ⟨hx, hb, hml, hown, hts⟩ (s_within l hl D cy sa n z_3 z_6 H.size (by first | exact hr_n | omega) (by omega) (by omega)) ⟨va_cnB 3 hts gg_1 rfl rfl rfl (nM_Street_139 hG.2.1) ini_RX11 (by decide +kernel) ⟨Nat.le_of_ble_eq_true rfl, Nat.le_of_ble_eq_true rfl⟩, st_X11_isWithin, trivial⟩ ⟨pcW.blind, (pcW.mk hP hD hS hA hG hT [] rfl (by decide))⟩ rfl rfl hlv.1 rfl (lv_room (Nat.le_of_ble_eq_true rfl)) dX6_isSheltered_29 ⟨Nat.le_of_ble_eq_true rfl, Nat.le_of_ble_eq_true rfl⟩) hP hD hS hA [] [0, 1] rfl rfl (by decide) (by decide) (fun r1 u1 H locs hw1 hP hD hS => ?_)
      obtain ⟨rfl, hq1_1, hq1_2, hq1_3⟩ := hw1
      have hP : va_P D vwCl [zO sA 6 [vI wi, vI ro, vR s2, vR s3, vI dr, vI dt, vR s6, vI pe, vR s8, vI gu, vI sh, vR s11, vI wo, vR s13, vI dn, vI mi, vI fl, vI tk, vI go], zI s11 (cy 0) 4 sf] H := hP
      have hD : va_D A [zO sA 6 [vI wi, vI ro, vR s2, vR s3, vI dr, vI dt, vR s6, vI pe, vR s8, vI gu, vI sh, vR s11, vI wo, vR s13, vI dn, vI mi, vI fl, vI tk, vI go], zI s11 (cy 0) 4 sf] := hD
      refine iz_eq (tgt := 37) hx hb dX6_isSheltered_32 (by decide) (by first | exact rgw hq1_1 (by decide) (by decide) | omega) (fun c_7 => ?_) (fun c_7 => ?_)
      · obtain ⟨z_8, hz_8⟩ : ∃ z : Int, z = x + 1 := ⟨_, rfl⟩
        refine lv_iinc (v := iI z_8) (lv' := [(2, vI z_8), (0, vR sA), (1, vI n)]) hx hb dX6_isSheltered_37 hlv (k := 0) rfl (by rw [hz_8]; exact (Int32.ofInt_add _ _).symm) (by decide) rfl (fun ls hlv => ?_)
        refine lv_goto (tgt := 2) hx hb dX6_isSheltered_40 (by decide) ?_
        exact ih2 z_8 H locs ls (by omega) (by omega)  (hP.sub [0, 1] rfl) (hD.sub [0, 1] (by decide) rfl) hS (lv_sub hlv [0, 1, 2] rfl)
      · refine lv_iconst (v := iI 1) hx hb dX6_isSheltered_35 (by decide) ?_
        refine W.widen (k := 0) (n := 0) (Nat.le_of_ble_eq_true rfl) (Nat.le_of_ble_eq_true rfl) ?_
        exact W.zret (v := iI 1) hx hb hr (by first | rfl | decide) (fun t ht hW => ⟨⟨iI 1, ((fun k => ([] : List Nat).getD k 0), (fun k => ([1] : List Int).getD k 0), (fun k => ([] : List (Nat → Int32)).getD k (fun _ => 0))), rfl, ⟨rfl, (by show (0 ≤ 1 ∧ 1 ≤ 1); show (0 : Int) ≤ 1 ∧ (1 : Int) ≤ 1; decide)⟩, by rw [ht]; exact hP.sub [0, 1] rfl, hD.sub [0, 1] (by decide) rfl⟩, hS.F ht⟩) hS.2.2 dX6_isSheltered_36
def vs_s_canStep : List Cond := .code yX6_canStep cX6_canStep 3 (some .boolean) :: (([.fieldLink RX6 47 "KerbSplash$Street" "persons" "I", .fieldLink RX6 19 "KerbSplash$Street" "person" "[I", .fieldLink RX6 28 "KerbSplash$Street" "wide" "I", .initialized RX11, .static yX11_isWithin] : List Cond) ++ ((wsX60) ++ ((vs_s_within) ++ ([]))))
theorem gd_s_canStep : vs_s_canStep.all goodWord = true := gd_C (by decide +kernel) (gd_A (by decide +kernel) (gd_A (by decide +kernel) (gd_A gd_s_within rfl)))
set_option maxHeartbeats 4000000 in
set_option maxRecDepth 100000 in
theorem s_canStep (l : Launch) (hl : l.stackTraces = false) (D : va_G) (cy : Nat → ClassId) (sa : Nat → Nat) (sA s2 s3 s6 s8 s11 s13 : Nat) (wi ro dr dt pe gu sh wo dn mi fl tk go : Int) (xl xh : Int) (pf : Nat → Int32) (n : Int) (sz : Nat) (hr_wi : 0 ≤ wi ∧ wi ≤ 16) (hr_ro : 0 ≤ ro ∧ ro ≤ 6) (hr_dr : 0 ≤ dr ∧ dr ≤ 14) (hr_dt : 0 ≤ dt ∧ dt ≤ 6) (hr_pe : 0 ≤ pe ∧ pe ≤ 8) (hr_gu : 0 ≤ gu ∧ gu ≤ 20) (hr_sh : 0 ≤ sh ∧ sh ≤ 2) (hr_wo : 0 ≤ wo ∧ wo ≤ 8) (hr_dn : (-2147483648) ≤ dn ∧ dn ≤ 2147483647) (hr_mi : 0 ≤ mi ∧ mi ≤ 600) (hr_fl : (-2147483648) ≤ fl ∧ fl ≤ 2147483647) (hr_tk : (-2147483648) ≤ tk ∧ tk ≤ 2147483647) (hr_go : (-2147483648) ≤ go ∧ go ≤ 2147483647) (hr_xl : (-2147483648) ≤ xl ∧ xl ≤ 0) (hr_xh : 15 ≤ xh ∧ xh ≤ 2147483647) (hr_n : (-15) ≤ n ∧ n ≤ 15) (hpf : tab_ 4 28 [xl, 0, (-2147483648), (-2147483648)] [xh, 19, 2147483647, 2147483647] pf) : Met l yX6_canStep vs_s_canStep ({ frames := 1, cells := 0, slots := 0, locals := 22 }) (va_Pc [vR sA, vI n] (pcW D cy sa sz [zO sA 6 [vI wi, vI ro, vR s2, vR s3, vI dr, vI dt, vR s6, vI pe, vR s8, vI gu, vI sh, vR s11, vI wo, vR s13, vI dn, vI mi, vI fl, vI tk, vI go], zI s8 (cy 0) 112 pf])) (va_Qi (fun (r : Int32) (u : SV) => r = iI (u.2.1 0) ∧ (0 ≤ u.2.1 0 ∧ u.2.1 0 ≤ 1) ∧ tab_ 4 28 [xl, 0, (-2147483648), (-2147483648)] [xh, 19, 2147483647, 2147483647] pf) (fun u t => atW D (va_A [zO sA 6 [vI wi, vI ro, vR s2, vR s3, vI dr, vI dt, vR s6, vI pe, vR s8, vI gu, vI sh, vR s11, vI wo, vR s13, vI dn, vI mi, vI fl, vI tk, vI go], zI s8 (cy 0) 112 pf] sz) [zO sA 6 [vI wi, vI ro, vR s2, vR s3, vI dr, vI dt, vR s6, vI pe, vR s8, vI gu, vI sh, vR s11, vI wo, vR s13, vI dn, vI mi, vI fl, vI tk, vI go], zI s8 (cy 0) 112 pf] t) (va_A [zO sA 6 [vI wi, vI ro, vR s2, vR s3, vI dr, vI dt, vR s6, vI pe, vR s8, vI gu, vI sh, vR s11, vI wo, vR s13, vI dn, vI mi, vI fl, vI tk, vI go], zI s8 (cy 0) 112 pf] sz)) 0 0 (va_A [zO sA 6 [vI wi, vI ro, vR s2, vR s3, vI dr, vI dt, vR s6, vI pe, vR s8, vI gu, vI sh, vR s11, vI wo, vR s13, vI dn, vI mi, vI fl, vI tk, vI go], zI s8 (cy 0) 112 pf] sz) := by
  refine Met.ofW (cc := cX6_canStep) (maxL := 3) (ret := (some .boolean)) (by decide) rfl ?_
  intro p e s m args below meth c s₁ B hml hv
  obtain ⟨rfl, hsz, hP, hG, hD0, hT⟩ := hv
  have hx := B.exec
  have hb := B.bytes
  have hr := B.returns
  have hts := atoms_spec (ws := vs_s_canStep) B.pre
  have hown : s.vm.findClass RX6 = some m.cls := findClass_of_methodNamed B.named
  have hlocks := B.notSynchronized
  subst hsz
  have hD := hD0.self (sz := s.heap.size)
  generalize hAe : va_A [zO sA 6 [vI wi, vI ro, vR s2, vR s3, vI dr, vI dt, vR s6, vI pe, vR s8, vI gu, vI sh, vR s11, vI wo, vR s13, vI dn, vI mi, vI fl, vI tk, vI go], zI s8 (cy 0) 112 pf] s.heap.size = A at hD hT ⊢
  have hA : ∀ q : Nat, s.heap.size ≤ q → A q := fun q h => by rw [← hAe]; exact Or.inr h
  have hS : va_S A s.heap s.heap [] := va_S.rf
  have hl0 := lv_entry ([vR sA, vI n]) (n := 3) (Nat.le_of_ble_eq_true rfl)
  rw [lg_entry_eq]
  generalize (lg_sl ([vR sA, vI n]) ++ List.replicate (3 - (lg_sl ([vR sA, vI n])).length) Slot.unset).toArray = ls at hl0 ⊢
  have hlv : lv_has ls 3 [(0, vR sA), (1, vI n)] := hl0
  have lf47 := hts (.fieldLink RX6 47 "KerbSplash$Street" "persons" "I") (List.mem_of_getElem? (i := 1) rfl)
  have hi6 : ∀ w ∈ wsX60, w ∈ vs_s_canStep := fun w h => List.mem_cons_of_mem _ (List.mem_append_right _ (List.mem_append_left _ h))
  have lf19 := hts (.fieldLink RX6 19 "KerbSplash$Street" "person" "[I") (List.mem_of_getElem? (i := 2) rfl)
  have lf28 := hts (.fieldLink RX6 28 "KerbSplash$Street" "wide" "I") (List.mem_of_getElem? (i := 3) rfl)
  have gg_1 : GoodIn vs_s_canStep (vs_s_within) := goodIn_sub (fun w h => List.mem_cons_of_mem _ (List.mem_append_right _ (List.mem_append_right _ (List.mem_append_left _ h)))) gd_s_within
  have ini_RX11 := hts (.initialized RX11) (List.mem_of_getElem? (i := 4) rfl)
  have st_X11_isWithin := hts (.static yX11_isWithin) (List.mem_of_getElem? (i := 5) rfl)
  refine lv_iconst (v := iI 0) hx hb dX6_canStep_0 (by decide) ?_
  refine lv_istore_n (lv' := [(2, vI 0), (0, vR sA), (1, vI n)]) hx hb dX6_canStep_1 rfl hlv (by decide) rfl (fun ls hlv => ?_)
  refine (?_ : ∀ (fu : Nat) (x : Int) (H : Heap) (locs : List Loc) (ls : Array Slot), 8 - x < (fu : Int) → (0 ≤ x ∧ x ≤ 8) → (x ≤ pe) → va_P D vwCl [zO sA 6 [vI wi, vI ro, vR s2, vR s3, vI dr, vI dt, vR s6, vI pe, vR s8, vI gu, vI sh, vR s11, vI wo, vR s13, vI dn, vI mi, vI fl, vI tk, vI go], zI s8 (cy 0) 112 pf] H → va_D A [zO sA 6 [vI wi, vI ro, vR s2, vR s3, vI dr, vI dt, vR s6, vI pe, vR s8, vI gu, vI sh, vR s11, vI wo, vR s13, vI dn, vI mi, vI fl, vI tk, vI go], zI s8 (cy 0) 112 pf] → va_S A s.heap H locs → lv_has ls 3 [(2, vI x), (0, vR sA), (1, vI n)] → W p l e _ s m _ below meth c H locs _ _ _ (F0 m 2 ls [])) (((8 - 0) + 1 : Int)).toNat 0 _ _ _ (by omega) (by show (0 : Int) ≤ 0 ∧ (0 : Int) ≤ 8; decide) (by omega)  hP hD hS hlv
  clear hP hD hS hlv
  intro fu
  induction fu with
  | zero => intro x H locs ls hm2 hl2_0 hl2_1  hP hD hS hlv; omega
  | succ fu ih2 =>
    intro x H locs ls hm2 hl2_0 hl2_1  hP hD hS hlv
    refine lv_iload_n hx hb dX6_canStep_2 rfl (lv_at hlv 0 rfl) ?_
    refine lv_aload_n hx hb dX6_canStep_3 rfl (lv_at hlv 1 rfl) ?_
    refine va_get (D := D) (ci := 6) (v := vI pe) (C := RX6) (T := TX6) (N := 19) hx hb hts hi6 hown hG.1 hP 0 rfl rfl 7 (by decide) lf47 (fun _ h9 => h9) rfl dX6_canStep_4 ?_
    refine ir_ge (tgt := 41) hx hb dX6_canStep_7 (by decide) (by first | exact rgw hl2_0 (by decide) (by decide) | omega) (by first | exact rgw hr_pe (by decide) (by decide) | omega) (fun c_1 => ?_) (fun c_1 => ?_)
    · refine lv_iconst (v := iI 1) hx hb dX6_canStep_41 (by decide) ?_
      refine W.widen (k := 0) (n := 0) (Nat.le_of_ble_eq_true rfl) (Nat.le_of_ble_eq_true rfl) ?_
      exact W.zret (v := iI 1) hx hb hr (by first | rfl | decide) (fun t ht hW => ⟨⟨iI 1, ((fun k => ([] : List Nat).getD k 0), (fun k => ([1] : List Int).getD k 0), (fun k => ([] : List (Nat → Int32)).getD k (fun _ => 0))), rfl, ⟨rfl, (by show (0 ≤ 1 ∧ 1 ≤ 1); show (0 : Int) ≤ 1 ∧ (1 : Int) ≤ 1; decide), hpf⟩, by rw [ht]; exact hP.sub [0, 1] rfl, hD.sub [0, 1] (by decide) rfl⟩, hS.F ht⟩) hS.2.2 dX6_canStep_42
    · refine lv_aload_n hx hb dX6_canStep_10 rfl (lv_at hlv 1 rfl) ?_
      refine va_get (D := D) (ci := 6) (v := vR s8) (C := RX6) (T := TX6) (N := 19) hx hb hts hi6 hown hG.1 hP 0 rfl rfl 8 (by decide) lf19 (fun _ h9 => h9) rfl dX6_canStep_11 ?_
      refine lv_iconst (v := iI 4) hx hb dX6_canStep_14 (by decide) ?_
      refine lv_iload_n hx hb dX6_canStep_15 rfl (lv_at hlv 0 rfl) ?_
      refine lv_imul hx hb dX6_canStep_16 ?_
      refine lt_e (e0 := 4 * x) (Int32.ofInt_mul _ _).symm (fun z_2 hz_2 => ?_)
      refine va_iald hx hb hG.1 hP 1 0 rfl rfl (iI_in (by omega) (by decide)) dX6_canStep_17 ?_
      obtain ⟨z_3, ez_3, hz_3, lz_3⟩ := tab_rd hpf (e := z_2) (k := x) (c := 0) (a := xl) (b := xh) (by omega) (by omega) (by decide) (by omega) rfl rfl
      refine lt_i (y := iI z_3) ez_3 ?_
      refine lv_iload_n hx hb dX6_canStep_18 rfl (lv_at hlv 2 rfl) ?_
      refine lv_iadd hx hb dX6_canStep_19 ?_
      refine lt_z (fun z_4 ez_4 lz_4 hz_4 => ?_)
      refine lv_iconst (v := iI 0) hx hb dX6_canStep_20 (by decide) ?_
      refine lv_aload_n hx hb dX6_canStep_21 rfl (lv_at hlv 1 rfl) ?_
      refine va_get (D := D) (ci := 6) (v := vI wi) (C := RX6) (T := TX6) (N := 19) hx hb hts hi6 hown hG.1 hP 0 rfl rfl 0 (by decide) lf28 (fun _ h9 => h9) rfl dX6_canStep_22 ?_
      refine lv_iconst (v := iI 1) hx hb dX6_canStep_25 (by decide) ?_
      refine lv_isub hx hb dX6_canStep_26 ?_
      refine lt_e (e0 := wi - 1) (Int32.ofInt_sub _ _).symm (fun z_5 hz_5 => ?_)
      refine cj_i (wr := [zO sA 6 [vI wi, vI ro, vR s2, vR s3, vI dr, vI dt, vR s6, vI pe, vR s8, vI gu, vI sh, vR s11, vI wo, vR s13, vI dn, vI mi, vI fl, vI tk, vI go], zI s8 (cy 0) 112 pf]) (va_runSN (host := "KerbSplash") (As := [vI z_4, vI 0, vI z_5]) (rest := []) ⟨hx, hb, hml, hown, hts⟩ (s_within l hl D cy sa z_4 0 z_5 H.size (by omega) (by show ((-2147483648) : Int) ≤ 0 ∧ (0 : Int) ≤ 2147483647; decide) (by omega)) ⟨va_cnB 3 hts gg_1 rfl rfl rfl (nM_Street_139 hG.2.1) ini_RX11 (by decide +kernel) ⟨Nat.le_of_ble_eq_true rfl, Nat.le_of_ble_eq_true rfl⟩, st_X11_isWithin, trivial⟩ ⟨pcW.blind, (pcW.mk hP hD hS hA hG hT [] rfl (by decide))⟩ rfl rfl hlv.1 rfl (lv_room (Nat.le_of_ble_eq_true rfl)) dX6_canStep_27 ⟨Nat.le_of_ble_eq_true rfl, Nat.le_of_ble_eq_true rfl⟩) hP hD hS hA [] [0, 1] rfl rfl (by decide) (by decide) (fun r1 u1 H locs hw1 hP hD hS => ?_)
      obtain ⟨rfl, hq1_1, hq1_2, hq1_3⟩ := hw1
      have hP : va_P D vwCl [zO sA 6 [vI wi, vI ro, vR s2, vR s3, vI dr, vI dt, vR s6, vI pe, vR s8, vI gu, vI sh, vR s11, vI wo, vR s13, vI dn, vI mi, vI fl, vI tk, vI go], zI s8 (cy 0) 112 pf] H := hP
      have hD : va_D A [zO sA 6 [vI wi, vI ro, vR s2, vR s3, vI dr, vI dt, vR s6, vI pe, vR s8, vI gu, vI sh, vR s11, vI wo, vR s13, vI dn, vI mi, vI fl, vI tk, vI go], zI s8 (cy 0) 112 pf] := hD
      refine iz_ne (tgt := 35) hx hb dX6_canStep_30 (by decide) (by first | exact rgw hq1_1 (by decide) (by decide) | omega) (fun c_6 => ?_) (fun c_6 => ?_)
      · obtain ⟨z_7, hz_7⟩ : ∃ z : Int, z = x + 1 := ⟨_, rfl⟩
        refine lv_iinc (v := iI z_7) (lv' := [(2, vI z_7), (0, vR sA), (1, vI n)]) hx hb dX6_canStep_35 hlv (k := 0) rfl (by rw [hz_7]; exact (Int32.ofInt_add _ _).symm) (by decide) rfl (fun ls hlv => ?_)
        refine lv_goto (tgt := 2) hx hb dX6_canStep_38 (by decide) ?_
        exact ih2 z_7 H locs ls (by omega) (by omega) (by omega)  (hP.sub [0, 1] rfl) (hD.sub [0, 1] (by decide) rfl) hS (lv_sub hlv [0, 1, 2] rfl)
      · refine lv_iconst (v := iI 0) hx hb dX6_canStep_33 (by decide) ?_
        refine W.widen (k := 0) (n := 0) (Nat.le_of_ble_eq_true rfl) (Nat.le_of_ble_eq_true rfl) ?_
        exact W.zret (v := iI 0) hx hb hr (by first | rfl | decide) (fun t ht hW => ⟨⟨iI 0, ((fun k => ([] : List Nat).getD k 0), (fun k => ([0] : List Int).getD k 0), (fun k => ([] : List (Nat → Int32)).getD k (fun _ => 0))), rfl, ⟨rfl, (by show (0 ≤ 0 ∧ 0 ≤ 1); show (0 : Int) ≤ 0 ∧ (0 : Int) ≤ 1; decide), hpf⟩, by rw [ht]; exact hP.sub [0, 1] rfl, hD.sub [0, 1] (by decide) rfl⟩, hS.F ht⟩) hS.2.2 dX6_canStep_34
def vs_s_putPerson : List Cond := .code yX6_putPerson cX6_putPerson 5 none :: (([.fieldLink RX6 19 "KerbSplash$Street" "person" "[I"] : List Cond) ++ ((wsX60) ++ ([])))
theorem gd_s_putPerson : vs_s_putPerson.all goodWord = true := gd_C (by decide +kernel) (gd_A (by decide +kernel) (gd_A (by decide +kernel) rfl))
set_option maxHeartbeats 4000000 in
set_option maxRecDepth 100000 in
theorem s_putPerson (l : Launch) (hl : l.stackTraces = false) (D : va_G) (cy : Nat → ClassId) (sa : Nat → Nat) (sA s2 s3 s6 s8 s11 s13 : Nat) (wi ro dr dt pe gu sh wo dn mi fl tk go : Int) (xl xh : Int) (pf : Nat → Int32) (k x f : Int) (sz : Nat) (hr_wi : 0 ≤ wi ∧ wi ≤ 16) (hr_ro : 0 ≤ ro ∧ ro ≤ 6) (hr_dr : 0 ≤ dr ∧ dr ≤ 14) (hr_dt : 0 ≤ dt ∧ dt ≤ 6) (hr_pe : 0 ≤ pe ∧ pe ≤ 8) (hr_gu : 0 ≤ gu ∧ gu ≤ 20) (hr_sh : 0 ≤ sh ∧ sh ≤ 2) (hr_wo : 0 ≤ wo ∧ wo ≤ 8) (hr_dn : (-2147483648) ≤ dn ∧ dn ≤ 2147483647) (hr_mi : 0 ≤ mi ∧ mi ≤ 600) (hr_fl : (-2147483648) ≤ fl ∧ fl ≤ 2147483647) (hr_tk : (-2147483648) ≤ tk ∧ tk ≤ 2147483647) (hr_go : (-2147483648) ≤ go ∧ go ≤ 2147483647) (hr_xl : (-2147483648) ≤ xl ∧ xl ≤ 0) (hr_xh : 15 ≤ xh ∧ xh ≤ 2147483647) (hr_k : 0 ≤ k ∧ k ≤ 28) (hr_x : 0 ≤ x ∧ x ≤ 15) (hr_f : 0 ≤ f ∧ f ≤ 19) (hpf : tab_ 4 28 [xl, 0, (-2147483648), (-2147483648)] [xh, 19, 2147483647, 2147483647] pf) : Met l yX6_putPerson vs_s_putPerson ({ frames := 0, cells := 0, slots := 0, locals := 0 }) (va_Pc [vR sA, vI k, vI x, vI f] (pcW D cy sa sz [zO sA 6 [vI wi, vI ro, vR s2, vR s3, vI dr, vI dt, vR s6, vI pe, vR s8, vI gu, vI sh, vR s11, vI wo, vR s13, vI dn, vI mi, vI fl, vI tk, vI go], zI s8 (cy 0) 112 pf])) (va_Qv (fun u : SV => tab_ 4 28 [xl, 0, (-2147483648), (-2147483648)] [xh, 19, 2147483647, 2147483647] (u.2.2 0)) (fun u t => atW D (va_A [zO sA 6 [vI wi, vI ro, vR s2, vR s3, vI dr, vI dt, vR s6, vI pe, vR s8, vI gu, vI sh, vR s11, vI wo, vR s13, vI dn, vI mi, vI fl, vI tk, vI go], zI s8 (cy 0) 112 pf] sz) [zO sA 6 [vI wi, vI ro, vR s2, vR s3, vI dr, vI dt, vR s6, vI pe, vR s8, vI gu, vI sh, vR s11, vI wo, vR s13, vI dn, vI mi, vI fl, vI tk, vI go], zI s8 (cy 0) 112 (u.2.2 0)] t) (va_A [zO sA 6 [vI wi, vI ro, vR s2, vR s3, vI dr, vI dt, vR s6, vI pe, vR s8, vI gu, vI sh, vR s11, vI wo, vR s13, vI dn, vI mi, vI fl, vI tk, vI go], zI s8 (cy 0) 112 pf] sz)) 0 0 (va_A [zO sA 6 [vI wi, vI ro, vR s2, vR s3, vI dr, vI dt, vR s6, vI pe, vR s8, vI gu, vI sh, vR s11, vI wo, vR s13, vI dn, vI mi, vI fl, vI tk, vI go], zI s8 (cy 0) 112 pf] sz) := by
  refine Met.ofW (cc := cX6_putPerson) (maxL := 5) (ret := none) (by decide) rfl ?_
  intro p e s m args below meth c s₁ B hml hv
  obtain ⟨rfl, hsz, hP, hG, hD0, hT⟩ := hv
  have hx := B.exec
  have hb := B.bytes
  have hr := B.returns
  have hts := atoms_spec (ws := vs_s_putPerson) B.pre
  have hown : s.vm.findClass RX6 = some m.cls := findClass_of_methodNamed B.named
  have hlocks := B.notSynchronized
  subst hsz
  have hD := hD0.self (sz := s.heap.size)
  generalize hAe : va_A [zO sA 6 [vI wi, vI ro, vR s2, vR s3, vI dr, vI dt, vR s6, vI pe, vR s8, vI gu, vI sh, vR s11, vI wo, vR s13, vI dn, vI mi, vI fl, vI tk, vI go], zI s8 (cy 0) 112 pf] s.heap.size = A at hD hT ⊢
  have hA : ∀ q : Nat, s.heap.size ≤ q → A q := fun q h => by rw [← hAe]; exact Or.inr h
  have hS : va_S A s.heap s.heap [] := va_S.rf
  have hl0 := lv_entry ([vR sA, vI k, vI x, vI f]) (n := 5) (Nat.le_of_ble_eq_true rfl)
  rw [lg_entry_eq]
  generalize (lg_sl ([vR sA, vI k, vI x, vI f]) ++ List.replicate (5 - (lg_sl ([vR sA, vI k, vI x, vI f])).length) Slot.unset).toArray = ls at hl0 ⊢
  have hlv : lv_has ls 5 [(0, vR sA), (1, vI k), (2, vI x), (3, vI f)] := hl0
  have lf19 := hts (.fieldLink RX6 19 "KerbSplash$Street" "person" "[I") (List.mem_of_getElem? (i := 1) rfl)
  have hi6 : ∀ w ∈ wsX60, w ∈ vs_s_putPerson := fun w h => List.mem_cons_of_mem _ (List.mem_append_right _ (List.mem_append_left _ h))
  refine lv_iconst (v := iI 4) hx hb dX6_putPerson_0 (by decide) ?_
  refine lv_iload_n hx hb dX6_putPerson_1 rfl (lv_at hlv 1 rfl) ?_
  refine lv_imul hx hb dX6_putPerson_2 ?_
  refine lt_e (e0 := 4 * k) (Int32.ofInt_mul _ _).symm (fun z_1 hz_1 => ?_)
  refine lv_istore (lv' := [(4, vI z_1), (0, vR sA), (1, vI k), (2, vI x), (3, vI f)]) hx hb dX6_putPerson_3 hlv (by decide) rfl (fun ls hlv => ?_)
  refine lv_iload hx hb dX6_putPerson_5 (lv_at hlv 0 rfl) ?_
  refine lv_iconst (v := iI 4) hx hb dX6_putPerson_7 (by decide) ?_
  refine lv_iadd hx hb dX6_putPerson_8 ?_
  refine lt_e (e0 := z_1 + 4) (Int32.ofInt_add _ _).symm (fun z_2 hz_2 => ?_)
  refine lv_aload_n hx hb dX6_putPerson_9 rfl (lv_at hlv 1 rfl) ?_
  refine va_get (D := D) (ci := 6) (v := vR s8) (C := RX6) (T := TX6) (N := 19) hx hb hts hi6 hown hG.1 hP 0 rfl rfl 8 (by decide) lf19 (fun _ h9 => h9) rfl dX6_putPerson_10 ?_
  refine va_alen (v := iI 112) hx hb hG.1 hP 1 0 rfl rfl (iI_nI _) dX6_putPerson_13 ?_
  refine ir_le (tgt := 18) hx hb dX6_putPerson_14 (by decide) (by omega) (by show ((-2147483648) : Int) ≤ 112 ∧ (112 : Int) ≤ 2147483647; decide) (fun c_3 => ?_) (fun c_3 => ?_)
  · refine lv_aload_n hx hb dX6_putPerson_18 rfl (lv_at hlv 1 rfl) ?_
    refine va_get (D := D) (ci := 6) (v := vR s8) (C := RX6) (T := TX6) (N := 19) hx hb hts hi6 hown hG.1 hP 0 rfl rfl 8 (by decide) lf19 (fun _ h9 => h9) rfl dX6_putPerson_19 ?_
    refine lv_iload hx hb dX6_putPerson_22 (lv_at hlv 0 rfl) ?_
    refine lv_iload_n hx hb dX6_putPerson_24 rfl (lv_at hlv 3 rfl) ?_
    refine va_iast hx hb hG.1 hP hD hS 1 0 rfl rfl (iI_in (by omega) (by decide)) dX6_putPerson_25 (fun H locs hP hD hS => ?_)
    have ⟨f_4, hf_4, hP, hD⟩ : ∃ f_4 : Nat → Int32, tab_ 4 28 [xl, 0, (-2147483648), (-2147483648)] [xh, 19, 2147483647, 2147483647] f_4 ∧ va_P D vwCl [zO sA 6 [vI wi, vI ro, vR s2, vR s3, vI dr, vI dt, vR s6, vI pe, vR s8, vI gu, vI sh, vR s11, vI wo, vR s13, vI dn, vI mi, vI fl, vI tk, vI go], zI s8 (cy 0) 112 f_4] H ∧ va_D A [zO sA 6 [vI wi, vI ro, vR s2, vR s3, vI dr, vI dt, vR s6, vI pe, vR s8, vI gu, vI sh, vR s11, vI wo, vR s13, vI dn, vI mi, vI fl, vI tk, vI go], zI s8 (cy 0) 112 f_4] := ⟨_, tab_wr hpf (e := z_1) (k := k) (c := 0) (a := xl) (b := xh) (by omega) (by omega) (by decide) (by omega) rfl rfl (by omega), hP, hD⟩
    refine lv_aload_n hx hb dX6_putPerson_26 rfl (lv_at hlv 1 rfl) ?_
    refine va_get (D := D) (ci := 6) (v := vR s8) (C := RX6) (T := TX6) (N := 19) hx hb hts hi6 hown hG.1 hP 0 rfl rfl 8 (by decide) lf19 (fun _ h9 => h9) rfl dX6_putPerson_27 ?_
    refine lv_iload hx hb dX6_putPerson_30 (lv_at hlv 0 rfl) ?_
    refine lv_iconst (v := iI 1) hx hb dX6_putPerson_32 (by decide) ?_
    refine lv_iadd hx hb dX6_putPerson_33 ?_
    refine lt_e (e0 := z_1 + 1) (Int32.ofInt_add _ _).symm (fun z_5 hz_5 => ?_)
    refine lv_iload_n hx hb dX6_putPerson_34 rfl (lv_at hlv 4 rfl) ?_
    refine va_iast hx hb hG.1 hP hD hS 1 0 rfl rfl (iI_in (by omega) (by decide)) dX6_putPerson_35 (fun H locs hP hD hS => ?_)
    have ⟨f_6, hf_6, hP, hD⟩ : ∃ f_6 : Nat → Int32, tab_ 4 28 [xl, 0, (-2147483648), (-2147483648)] [xh, 19, 2147483647, 2147483647] f_6 ∧ va_P D vwCl [zO sA 6 [vI wi, vI ro, vR s2, vR s3, vI dr, vI dt, vR s6, vI pe, vR s8, vI gu, vI sh, vR s11, vI wo, vR s13, vI dn, vI mi, vI fl, vI tk, vI go], zI s8 (cy 0) 112 f_6] H ∧ va_D A [zO sA 6 [vI wi, vI ro, vR s2, vR s3, vI dr, vI dt, vR s6, vI pe, vR s8, vI gu, vI sh, vR s11, vI wo, vR s13, vI dn, vI mi, vI fl, vI tk, vI go], zI s8 (cy 0) 112 f_6] := ⟨_, tab_wr hf_4 (e := z_5) (k := k) (c := 1) (a := 0) (b := 19) (by omega) (by omega) (by decide) (by omega) rfl rfl (by omega), hP, hD⟩
    refine lv_aload_n hx hb dX6_putPerson_36 rfl (lv_at hlv 1 rfl) ?_
    refine va_get (D := D) (ci := 6) (v := vR s8) (C := RX6) (T := TX6) (N := 19) hx hb hts hi6 hown hG.1 hP 0 rfl rfl 8 (by decide) lf19 (fun _ h9 => h9) rfl dX6_putPerson_37 ?_
    refine lv_iload hx hb dX6_putPerson_40 (lv_at hlv 0 rfl) ?_
    refine lv_iconst (v := iI 2) hx hb dX6_putPerson_42 (by decide) ?_
    refine lv_iadd hx hb dX6_putPerson_43 ?_
    refine lt_e (e0 := z_1 + 2) (Int32.ofInt_add _ _).symm (fun z_7 hz_7 => ?_)
    refine lv_iconst (v := iI 0) hx hb dX6_putPerson_44 (by decide) ?_
    refine va_iast hx hb hG.1 hP hD hS 1 0 rfl rfl (iI_in (by omega) (by decide)) dX6_putPerson_45 (fun H locs hP hD hS => ?_)
    have ⟨f_8, hf_8, hP, hD⟩ : ∃ f_8 : Nat → Int32, tab_ 4 28 [xl, 0, (-2147483648), (-2147483648)] [xh, 19, 2147483647, 2147483647] f_8 ∧ va_P D vwCl [zO sA 6 [vI wi, vI ro, vR s2, vR s3, vI dr, vI dt, vR s6, vI pe, vR s8, vI gu, vI sh, vR s11, vI wo, vR s13, vI dn, vI mi, vI fl, vI tk, vI go], zI s8 (cy 0) 112 f_8] H ∧ va_D A [zO sA 6 [vI wi, vI ro, vR s2, vR s3, vI dr, vI dt, vR s6, vI pe, vR s8, vI gu, vI sh, vR s11, vI wo, vR s13, vI dn, vI mi, vI fl, vI tk, vI go], zI s8 (cy 0) 112 f_8] := ⟨_, tab_wr hf_6 (e := z_7) (k := k) (c := 2) (a := (-2147483648)) (b := 2147483647) (by omega) (by omega) (by decide) (by omega) rfl rfl (by omega), hP, hD⟩
    refine lv_aload_n hx hb dX6_putPerson_46 rfl (lv_at hlv 1 rfl) ?_
    refine va_get (D := D) (ci := 6) (v := vR s8) (C := RX6) (T := TX6) (N := 19) hx hb hts hi6 hown hG.1 hP 0 rfl rfl 8 (by decide) lf19 (fun _ h9 => h9) rfl dX6_putPerson_47 ?_
    refine lv_iload hx hb dX6_putPerson_50 (lv_at hlv 0 rfl) ?_
    refine lv_iconst (v := iI 3) hx hb dX6_putPerson_52 (by decide) ?_
    refine lv_iadd hx hb dX6_putPerson_53 ?_
    refine lt_e (e0 := z_1 + 3) (Int32.ofInt_add _ _).symm (fun z_9 hz_9 => ?_)
    refine lv_iconst (v := iI 0) hx hb dX6_putPerson_54 (by decide) ?_
    refine va_iast hx hb hG.1 hP hD hS 1 0 rfl rfl (iI_in (by omega) (by decide)) dX6_putPerson_55 (fun H locs hP hD hS => ?_)
    have ⟨f_10, hf_10, hP, hD⟩ : ∃ f_10 : Nat → Int32, tab_ 4 28 [xl, 0, (-2147483648), (-2147483648)] [xh, 19, 2147483647, 2147483647] f_10 ∧ va_P D vwCl [zO sA 6 [vI wi, vI ro, vR s2, vR s3, vI dr, vI dt, vR s6, vI pe, vR s8, vI gu, vI sh, vR s11, vI wo, vR s13, vI dn, vI mi, vI fl, vI tk, vI go], zI s8 (cy 0) 112 f_10] H ∧ va_D A [zO sA 6 [vI wi, vI ro, vR s2, vR s3, vI dr, vI dt, vR s6, vI pe, vR s8, vI gu, vI sh, vR s11, vI wo, vR s13, vI dn, vI mi, vI fl, vI tk, vI go], zI s8 (cy 0) 112 f_10] := ⟨_, tab_wr hf_8 (e := z_9) (k := k) (c := 3) (a := (-2147483648)) (b := 2147483647) (by omega) (by omega) (by decide) (by omega) rfl rfl (by omega), hP, hD⟩
    refine W.widen (k := 0) (n := 0) (Nat.le_of_ble_eq_true rfl) (Nat.le_of_ble_eq_true rfl) ?_
    exact W.vret hx hb hr (fun t ht hW => ⟨⟨((fun k => ([] : List Nat).getD k 0), (fun k => ([] : List Int).getD k 0), (fun k => ([f_10] : List (Nat → Int32)).getD k (fun _ => 0))), rfl, hf_10, by rw [ht]; exact hP.sub [0, 1] rfl, hD.sub [0, 1] (by decide) rfl⟩, hS.F ht⟩) hS.2.2 dX6_putPerson_56
  · refine W.widen (k := 0) (n := 0) (Nat.le_of_ble_eq_true rfl) (Nat.le_of_ble_eq_true rfl) ?_
    exact W.vret hx hb hr (fun t ht hW => ⟨⟨((fun k => ([] : List Nat).getD k 0), (fun k => ([] : List Int).getD k 0), (fun k => ([pf] : List (Nat → Int32)).getD k (fun _ => 0))), rfl, hpf, by rw [ht]; exact hP.sub [0, 1] rfl, hD.sub [0, 1] (by decide) rfl⟩, hS.F ht⟩) hS.2.2 dX6_putPerson_17
def vs_s_coinOf : List Cond := .code yX6_coinOf cX6_coinOf 4 (some .int) :: (([.fieldLink RX6 56 "KerbSplash$Street" "works" "I", .fieldLink RX6 25 "KerbSplash$Street" "work" "[I"] : List Cond) ++ ((wsX60) ++ ([])))
theorem gd_s_coinOf : vs_s_coinOf.all goodWord = true := gd_C (by decide +kernel) (gd_A (by decide +kernel) (gd_A (by decide +kernel) rfl))
set_option maxHeartbeats 4000000 in
set_option maxRecDepth 100000 in
theorem s_coinOf (l : Launch) (hl : l.stackTraces = false) (D : va_G) (cy : Nat → ClassId) (sa : Nat → Nat) (sA s2 s3 s6 s8 s11 s13 : Nat) (wi ro dr dt pe gu sh wo dn mi fl tk go : Int) (kf : Nat → Int32) (n : Int) (sz : Nat) (hr_wi : 0 ≤ wi ∧ wi ≤ 16) (hr_ro : 0 ≤ ro ∧ ro ≤ 6) (hr_dr : 0 ≤ dr ∧ dr ≤ 14) (hr_dt : 0 ≤ dt ∧ dt ≤ 6) (hr_pe : 0 ≤ pe ∧ pe ≤ 8) (hr_gu : 0 ≤ gu ∧ gu ≤ 20) (hr_sh : 0 ≤ sh ∧ sh ≤ 2) (hr_wo : 0 ≤ wo ∧ wo ≤ 8) (hr_dn : (-2147483648) ≤ dn ∧ dn ≤ 2147483647) (hr_mi : 0 ≤ mi ∧ mi ≤ 600) (hr_fl : (-2147483648) ≤ fl ∧ fl ≤ 2147483647) (hr_tk : (-2147483648) ≤ tk ∧ tk ≤ 2147483647) (hr_go : (-2147483648) ≤ go ∧ go ≤ 2147483647) (hr_n : (-2147483648) ≤ n ∧ n ≤ 2147483647) (hkf : tw_ kf) : Met l yX6_coinOf vs_s_coinOf ({ frames := 0, cells := 0, slots := 0, locals := 0 }) (va_Pc [vR sA, vI n] (pcW D cy sa sz [zO sA 6 [vI wi, vI ro, vR s2, vR s3, vI dr, vI dt, vR s6, vI pe, vR s8, vI gu, vI sh, vR s11, vI wo, vR s13, vI dn, vI mi, vI fl, vI tk, vI go], zI s13 (cy 0) 40 kf])) (va_Qi (fun (r : Int32) (u : SV) => r = iI (u.2.1 0) ∧ (0 ≤ u.2.1 0 ∧ u.2.1 0 ≤ 792) ∧ tw_ kf) (fun u t => atW D (va_A [zO sA 6 [vI wi, vI ro, vR s2, vR s3, vI dr, vI dt, vR s6, vI pe, vR s8, vI gu, vI sh, vR s11, vI wo, vR s13, vI dn, vI mi, vI fl, vI tk, vI go], zI s13 (cy 0) 40 kf] sz) [zO sA 6 [vI wi, vI ro, vR s2, vR s3, vI dr, vI dt, vR s6, vI pe, vR s8, vI gu, vI sh, vR s11, vI wo, vR s13, vI dn, vI mi, vI fl, vI tk, vI go], zI s13 (cy 0) 40 kf] t) (va_A [zO sA 6 [vI wi, vI ro, vR s2, vR s3, vI dr, vI dt, vR s6, vI pe, vR s8, vI gu, vI sh, vR s11, vI wo, vR s13, vI dn, vI mi, vI fl, vI tk, vI go], zI s13 (cy 0) 40 kf] sz)) 0 0 (va_A [zO sA 6 [vI wi, vI ro, vR s2, vR s3, vI dr, vI dt, vR s6, vI pe, vR s8, vI gu, vI sh, vR s11, vI wo, vR s13, vI dn, vI mi, vI fl, vI tk, vI go], zI s13 (cy 0) 40 kf] sz) := by
  refine Met.ofW (cc := cX6_coinOf) (maxL := 4) (ret := (some .int)) (by decide) rfl ?_
  intro p e s m args below meth c s₁ B hml hv
  obtain ⟨rfl, hsz, hP, hG, hD0, hT⟩ := hv
  have hx := B.exec
  have hb := B.bytes
  have hr := B.returns
  have hts := atoms_spec (ws := vs_s_coinOf) B.pre
  have hown : s.vm.findClass RX6 = some m.cls := findClass_of_methodNamed B.named
  have hlocks := B.notSynchronized
  subst hsz
  have hD := hD0.self (sz := s.heap.size)
  generalize hAe : va_A [zO sA 6 [vI wi, vI ro, vR s2, vR s3, vI dr, vI dt, vR s6, vI pe, vR s8, vI gu, vI sh, vR s11, vI wo, vR s13, vI dn, vI mi, vI fl, vI tk, vI go], zI s13 (cy 0) 40 kf] s.heap.size = A at hD hT ⊢
  have hA : ∀ q : Nat, s.heap.size ≤ q → A q := fun q h => by rw [← hAe]; exact Or.inr h
  have hS : va_S A s.heap s.heap [] := va_S.rf
  have hl0 := lv_entry ([vR sA, vI n]) (n := 4) (Nat.le_of_ble_eq_true rfl)
  rw [lg_entry_eq]
  generalize (lg_sl ([vR sA, vI n]) ++ List.replicate (4 - (lg_sl ([vR sA, vI n])).length) Slot.unset).toArray = ls at hl0 ⊢
  have hlv : lv_has ls 4 [(0, vR sA), (1, vI n)] := hl0
  have lf56 := hts (.fieldLink RX6 56 "KerbSplash$Street" "works" "I") (List.mem_of_getElem? (i := 1) rfl)
  have hi6 : ∀ w ∈ wsX60, w ∈ vs_s_coinOf := fun w h => List.mem_cons_of_mem _ (List.mem_append_right _ (List.mem_append_left _ h))
  have lf25 := hts (.fieldLink RX6 25 "KerbSplash$Street" "work" "[I") (List.mem_of_getElem? (i := 2) rfl)
  refine lv_iconst (v := iI 0) hx hb dX6_coinOf_0 (by decide) ?_
  refine lv_istore_n (lv' := [(2, vI 0), (0, vR sA), (1, vI n)]) hx hb dX6_coinOf_1 rfl hlv (by decide) rfl (fun ls hlv => ?_)
  refine lv_iconst (v := iI 0) hx hb dX6_coinOf_2 (by decide) ?_
  refine lv_istore_n (lv' := [(3, vI 0), (2, vI 0), (0, vR sA), (1, vI n)]) hx hb dX6_coinOf_3 rfl hlv (by decide) rfl (fun ls hlv => ?_)
  refine (?_ : ∀ (fu : Nat) (x : Int) (v : Int) (H : Heap) (locs : List Loc) (ls : Array Slot), 8 - x < (fu : Int) → (0 ≤ x ∧ x ≤ 8) → (0 ≤ v ∧ v ≤ 792) → (x ≤ wo) → (v ≤ 99 * x) → va_P D vwCl [zO sA 6 [vI wi, vI ro, vR s2, vR s3, vI dr, vI dt, vR s6, vI pe, vR s8, vI gu, vI sh, vR s11, vI wo, vR s13, vI dn, vI mi, vI fl, vI tk, vI go], zI s13 (cy 0) 40 kf] H → va_D A [zO sA 6 [vI wi, vI ro, vR s2, vR s3, vI dr, vI dt, vR s6, vI pe, vR s8, vI gu, vI sh, vR s11, vI wo, vR s13, vI dn, vI mi, vI fl, vI tk, vI go], zI s13 (cy 0) 40 kf] → va_S A s.heap H locs → lv_has ls 4 [(3, vI x), (2, vI v), (0, vR sA), (1, vI n)] → W p l e _ s m _ below meth c H locs _ _ _ (F0 m 4 ls [])) (((8 - 0) + 1 : Int)).toNat 0 0 _ _ _ (by omega) (by show (0 : Int) ≤ 0 ∧ (0 : Int) ≤ 8; decide) (by show (0 : Int) ≤ 0 ∧ (0 : Int) ≤ 792; decide) (by omega) (by omega)  hP hD hS hlv
  clear hP hD hS hlv
  intro fu
  induction fu with
  | zero => intro x v H locs ls hm4 hl4_0 hl4_1 hl4_2 hl4_3  hP hD hS hlv; omega
  | succ fu ih4 =>
    intro x v H locs ls hm4 hl4_0 hl4_1 hl4_2 hl4_3  hP hD hS hlv
    refine lv_iload_n hx hb dX6_coinOf_4 rfl (lv_at hlv 0 rfl) ?_
    refine lv_aload_n hx hb dX6_coinOf_5 rfl (lv_at hlv 2 rfl) ?_
    refine va_get (D := D) (ci := 6) (v := vI wo) (C := RX6) (T := TX6) (N := 19) hx hb hts hi6 hown hG.1 hP 0 rfl rfl 12 (by decide) lf56 (fun _ h9 => h9) rfl dX6_coinOf_6 ?_
    refine ir_ge (tgt := 39) hx hb dX6_coinOf_9 (by decide) (by first | exact rgw hl4_0 (by decide) (by decide) | omega) (by first | exact rgw hr_wo (by decide) (by decide) | omega) (fun c_1 => ?_) (fun c_1 => ?_)
    · refine lv_iload_n hx hb dX6_coinOf_39 rfl (lv_at hlv 1 rfl) ?_
      refine W.widen (k := 0) (n := 0) (Nat.le_of_ble_eq_true rfl) (Nat.le_of_ble_eq_true rfl) ?_
      exact W.iret (v := iI v) hx hb hr (fun t ht hW => ⟨⟨iI v, ((fun k => ([] : List Nat).getD k 0), (fun k => ([v] : List Int).getD k 0), (fun k => ([] : List (Nat → Int32)).getD k (fun _ => 0))), rfl, ⟨rfl, (by show (0 ≤ v ∧ v ≤ 792); first | exact hl4_1 | omega), hkf⟩, by rw [ht]; exact hP.sub [0, 1] rfl, hD.sub [0, 1] (by decide) rfl⟩, hS.F ht⟩) hS.2.2 dX6_coinOf_40
    · refine lv_iload_n hx hb dX6_coinOf_12 rfl (lv_at hlv 3 rfl) ?_
      refine lv_iload_n hx hb dX6_coinOf_13 rfl (lv_at hlv 0 rfl) ?_
      refine lv_ishr hx hb dX6_coinOf_14 ?_
      refine lt_z (fun z_2 ez_2 lz_2 hz_2 => ?_)
      refine lv_iconst (v := iI 1) hx hb dX6_coinOf_15 (by decide) ?_
      refine lv_iand hx hb dX6_coinOf_16 ?_
      refine lt_aE 1 (by decide) (by decide) (hi := 1) (by decide) (fun z_3 ez_3 lz_3 hz_3 => ?_)
      refine iz_eq (tgt := 33) hx hb dX6_coinOf_17 (by decide) (by omega) (fun c_4 => ?_) (fun c_4 => ?_)
      · obtain ⟨z_5, hz_5⟩ : ∃ z : Int, z = x + 1 := ⟨_, rfl⟩
        refine lv_iinc (v := iI z_5) (lv' := [(3, vI z_5), (2, vI v), (0, vR sA), (1, vI n)]) hx hb dX6_coinOf_33 hlv (k := 0) rfl (by rw [hz_5]; exact (Int32.ofInt_add _ _).symm) (by decide) rfl (fun ls hlv => ?_)
        refine lv_goto (tgt := 4) hx hb dX6_coinOf_36 (by decide) ?_
        exact ih4 z_5 v H locs ls (by omega) (by omega) (by first | exact hl4_1 | omega) (by omega) (by omega)  (hP.sub [0, 1] rfl) (hD.sub [0, 1] (by decide) rfl) hS (lv_sub hlv [0, 1, 2, 3] rfl)
      · refine lv_iload_n hx hb dX6_coinOf_20 rfl (lv_at hlv 1 rfl) ?_
        refine lv_aload_n hx hb dX6_coinOf_21 rfl (lv_at hlv 2 rfl) ?_
        refine va_get (D := D) (ci := 6) (v := vR s13) (C := RX6) (T := TX6) (N := 19) hx hb hts hi6 hown hG.1 hP 0 rfl rfl 13 (by decide) lf25 (fun _ h9 => h9) rfl dX6_coinOf_22 ?_
        refine lv_iconst (v := iI 5) hx hb dX6_coinOf_25 (by decide) ?_
        refine lv_iload_n hx hb dX6_coinOf_26 rfl (lv_at hlv 0 rfl) ?_
        refine lv_imul hx hb dX6_coinOf_27 ?_
        refine lt_e (e0 := 5 * x) (Int32.ofInt_mul _ _).symm (fun z_6 hz_6 => ?_)
        refine lv_iconst (v := iI 1) hx hb dX6_coinOf_28 (by decide) ?_
        refine lv_iadd hx hb dX6_coinOf_29 ?_
        refine lt_e (e0 := z_6 + 1) (Int32.ofInt_add _ _).symm (fun z_7 hz_7 => ?_)
        refine va_iald hx hb hG.1 hP 1 0 rfl rfl (iI_in (by omega) (by decide)) dX6_coinOf_30 ?_
        obtain ⟨z_8, ez_8, hz_8, lz_8⟩ := tab_rd hkf.1 (e := z_7) (k := x) (c := 1) (a := 0) (b := 99) (by omega) (by omega) (by decide) (by omega) rfl rfl
        refine lt_i (y := iI z_8) ez_8 ?_
        refine lv_iadd hx hb dX6_coinOf_31 ?_
        refine lt_e (e0 := v + z_8) (Int32.ofInt_add _ _).symm (fun z_9 hz_9 => ?_)
        refine lv_istore_n (lv' := [(2, vI z_9), (3, vI x), (0, vR sA), (1, vI n)]) hx hb dX6_coinOf_32 rfl hlv (by decide) rfl (fun ls hlv => ?_)
        obtain ⟨z_10, hz_10⟩ : ∃ z : Int, z = x + 1 := ⟨_, rfl⟩
        refine lv_iinc (v := iI z_10) (lv' := [(3, vI z_10), (2, vI z_9), (0, vR sA), (1, vI n)]) hx hb dX6_coinOf_33 hlv (k := 1) rfl (by rw [hz_10]; exact (Int32.ofInt_add _ _).symm) (by decide) rfl (fun ls hlv => ?_)
        refine lv_goto (tgt := 4) hx hb dX6_coinOf_36 (by decide) ?_
        exact ih4 z_10 z_9 H locs ls (by omega) (by omega) (by omega) (by omega) (by omega)  (hP.sub [0, 1] rfl) (hD.sub [0, 1] (by decide) rfl) hS (lv_sub hlv [0, 1, 2, 3] rfl)
