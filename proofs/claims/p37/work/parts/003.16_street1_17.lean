section
theorem dX6_addShelter_0 : decode cX6_addShelter 0 = .ok (.iconst 2, 1) := by decide +kernel
theorem dX6_addShelter_1 : decode cX6_addShelter 1 = .ok (.aload_n 0, 1) := by decide +kernel
theorem dX6_addShelter_10 : decode cX6_addShelter 10 = .ok (.aload_n 0, 1) := by decide +kernel
theorem dX6_addShelter_11 : decode cX6_addShelter 11 = .ok (.getfield 22, 3) := by decide +kernel
theorem dX6_addShelter_14 : decode cX6_addShelter 14 = .ok (.arraylength, 1) := by decide +kernel
theorem dX6_addShelter_15 : decode cX6_addShelter 15 = .ok (.if_icmp .le 4, 3) := by decide +kernel
theorem dX6_addShelter_18 : decode cX6_addShelter 18 = .ok (.return_, 1) := by decide +kernel
theorem dX6_addShelter_19 : decode cX6_addShelter 19 = .ok (.aload_n 0, 1) := by decide +kernel
theorem dX6_addShelter_2 : decode cX6_addShelter 2 = .ok (.getfield 53, 3) := by decide +kernel
theorem dX6_addShelter_20 : decode cX6_addShelter 20 = .ok (.getfield 22, 3) := by decide +kernel
theorem dX6_addShelter_23 : decode cX6_addShelter 23 = .ok (.iload_n 3, 1) := by decide +kernel
theorem dX6_addShelter_24 : decode cX6_addShelter 24 = .ok (.iload_n 1, 1) := by decide +kernel
theorem dX6_addShelter_25 : decode cX6_addShelter 25 = .ok (.iastore, 1) := by decide +kernel
theorem dX6_addShelter_26 : decode cX6_addShelter 26 = .ok (.aload_n 0, 1) := by decide +kernel
theorem dX6_addShelter_27 : decode cX6_addShelter 27 = .ok (.getfield 22, 3) := by decide +kernel
theorem dX6_addShelter_30 : decode cX6_addShelter 30 = .ok (.iload_n 3, 1) := by decide +kernel
theorem dX6_addShelter_31 : decode cX6_addShelter 31 = .ok (.iconst 1, 1) := by decide +kernel
theorem dX6_addShelter_32 : decode cX6_addShelter 32 = .ok (.iadd, 1) := by decide +kernel
theorem dX6_addShelter_33 : decode cX6_addShelter 33 = .ok (.iload_n 2, 1) := by decide +kernel
theorem dX6_addShelter_34 : decode cX6_addShelter 34 = .ok (.iastore, 1) := by decide +kernel
theorem dX6_addShelter_35 : decode cX6_addShelter 35 = .ok (.aload_n 0, 1) := by decide +kernel
theorem dX6_addShelter_36 : decode cX6_addShelter 36 = .ok (.dup, 1) := by decide +kernel
theorem dX6_addShelter_37 : decode cX6_addShelter 37 = .ok (.getfield 53, 3) := by decide +kernel
theorem dX6_addShelter_40 : decode cX6_addShelter 40 = .ok (.iconst 1, 1) := by decide +kernel
theorem dX6_addShelter_41 : decode cX6_addShelter 41 = .ok (.iadd, 1) := by decide +kernel
theorem dX6_addShelter_42 : decode cX6_addShelter 42 = .ok (.putfield 53, 3) := by decide +kernel
theorem dX6_addShelter_45 : decode cX6_addShelter 45 = .ok (.return_, 1) := by decide +kernel
theorem dX6_addShelter_5 : decode cX6_addShelter 5 = .ok (.imul, 1) := by decide +kernel
theorem dX6_addShelter_6 : decode cX6_addShelter 6 = .ok (.istore_n 3, 1) := by decide +kernel
theorem dX6_addShelter_7 : decode cX6_addShelter 7 = .ok (.iload_n 3, 1) := by decide +kernel
theorem dX6_addShelter_8 : decode cX6_addShelter 8 = .ok (.iconst 2, 1) := by decide +kernel
theorem dX6_addShelter_9 : decode cX6_addShelter 9 = .ok (.iadd, 1) := by decide +kernel
theorem dX6_canStep_0 : decode cX6_canStep 0 = .ok (.iconst 0, 1) := by decide +kernel
theorem dX6_canStep_1 : decode cX6_canStep 1 = .ok (.istore_n 2, 1) := by decide +kernel
theorem dX6_canStep_10 : decode cX6_canStep 10 = .ok (.aload_n 0, 1) := by decide +kernel
theorem dX6_canStep_11 : decode cX6_canStep 11 = .ok (.getfield 19, 3) := by decide +kernel
theorem dX6_canStep_14 : decode cX6_canStep 14 = .ok (.iconst 4, 1) := by decide +kernel
theorem dX6_canStep_15 : decode cX6_canStep 15 = .ok (.iload_n 2, 1) := by decide +kernel
theorem dX6_canStep_16 : decode cX6_canStep 16 = .ok (.imul, 1) := by decide +kernel
theorem dX6_canStep_17 : decode cX6_canStep 17 = .ok (.iaload, 1) := by decide +kernel
theorem dX6_canStep_18 : decode cX6_canStep 18 = .ok (.iload_n 1, 1) := by decide +kernel
theorem dX6_canStep_19 : decode cX6_canStep 19 = .ok (.iadd, 1) := by decide +kernel
theorem dX6_canStep_2 : decode cX6_canStep 2 = .ok (.iload_n 2, 1) := by decide +kernel
theorem dX6_canStep_20 : decode cX6_canStep 20 = .ok (.iconst 0, 1) := by decide +kernel
theorem dX6_canStep_21 : decode cX6_canStep 21 = .ok (.aload_n 0, 1) := by decide +kernel
theorem dX6_canStep_22 : decode cX6_canStep 22 = .ok (.getfield 28, 3) := by decide +kernel
theorem dX6_canStep_25 : decode cX6_canStep 25 = .ok (.iconst 1, 1) := by decide +kernel
theorem dX6_canStep_26 : decode cX6_canStep 26 = .ok (.isub, 1) := by decide +kernel
theorem dX6_canStep_27 : decode cX6_canStep 27 = .ok (.invokestatic 139, 3) := by decide +kernel
theorem dX6_canStep_3 : decode cX6_canStep 3 = .ok (.aload_n 0, 1) := by decide +kernel
theorem dX6_canStep_30 : decode cX6_canStep 30 = .ok (.ifCond .ne 5, 3) := by decide +kernel
theorem dX6_canStep_33 : decode cX6_canStep 33 = .ok (.iconst 0, 1) := by decide +kernel
theorem dX6_canStep_34 : decode cX6_canStep 34 = .ok (.ireturn, 1) := by decide +kernel
theorem dX6_canStep_35 : decode cX6_canStep 35 = .ok (.iinc 2 1, 3) := by decide +kernel
theorem dX6_canStep_38 : decode cX6_canStep 38 = .ok (.goto (-36), 3) := by decide +kernel
theorem dX6_canStep_4 : decode cX6_canStep 4 = .ok (.getfield 47, 3) := by decide +kernel
theorem dX6_canStep_41 : decode cX6_canStep 41 = .ok (.iconst 1, 1) := by decide +kernel
theorem dX6_canStep_42 : decode cX6_canStep 42 = .ok (.ireturn, 1) := by decide +kernel
theorem dX6_canStep_7 : decode cX6_canStep 7 = .ok (.if_icmp .ge 34, 3) := by decide +kernel
theorem dX6_coinOf_0 : decode cX6_coinOf 0 = .ok (.iconst 0, 1) := by decide +kernel
theorem dX6_coinOf_1 : decode cX6_coinOf 1 = .ok (.istore_n 2, 1) := by decide +kernel
theorem dX6_coinOf_12 : decode cX6_coinOf 12 = .ok (.iload_n 1, 1) := by decide +kernel
theorem dX6_coinOf_13 : decode cX6_coinOf 13 = .ok (.iload_n 3, 1) := by decide +kernel
theorem dX6_coinOf_14 : decode cX6_coinOf 14 = .ok (.ishr, 1) := by decide +kernel
theorem dX6_coinOf_15 : decode cX6_coinOf 15 = .ok (.iconst 1, 1) := by decide +kernel
theorem dX6_coinOf_16 : decode cX6_coinOf 16 = .ok (.iand, 1) := by decide +kernel
theorem dX6_coinOf_17 : decode cX6_coinOf 17 = .ok (.ifCond .eq 16, 3) := by decide +kernel
theorem dX6_coinOf_2 : decode cX6_coinOf 2 = .ok (.iconst 0, 1) := by decide +kernel
theorem dX6_coinOf_20 : decode cX6_coinOf 20 = .ok (.iload_n 2, 1) := by decide +kernel
theorem dX6_coinOf_21 : decode cX6_coinOf 21 = .ok (.aload_n 0, 1) := by decide +kernel
theorem dX6_coinOf_22 : decode cX6_coinOf 22 = .ok (.getfield 25, 3) := by decide +kernel
theorem dX6_coinOf_25 : decode cX6_coinOf 25 = .ok (.iconst 5, 1) := by decide +kernel
theorem dX6_coinOf_26 : decode cX6_coinOf 26 = .ok (.iload_n 3, 1) := by decide +kernel
theorem dX6_coinOf_27 : decode cX6_coinOf 27 = .ok (.imul, 1) := by decide +kernel
theorem dX6_coinOf_28 : decode cX6_coinOf 28 = .ok (.iconst 1, 1) := by decide +kernel
theorem dX6_coinOf_29 : decode cX6_coinOf 29 = .ok (.iadd, 1) := by decide +kernel
theorem dX6_coinOf_3 : decode cX6_coinOf 3 = .ok (.istore_n 3, 1) := by decide +kernel
theorem dX6_coinOf_30 : decode cX6_coinOf 30 = .ok (.iaload, 1) := by decide +kernel
theorem dX6_coinOf_31 : decode cX6_coinOf 31 = .ok (.iadd, 1) := by decide +kernel
theorem dX6_coinOf_32 : decode cX6_coinOf 32 = .ok (.istore_n 2, 1) := by decide +kernel
theorem dX6_coinOf_33 : decode cX6_coinOf 33 = .ok (.iinc 3 1, 3) := by decide +kernel
theorem dX6_coinOf_36 : decode cX6_coinOf 36 = .ok (.goto (-32), 3) := by decide +kernel
theorem dX6_coinOf_39 : decode cX6_coinOf 39 = .ok (.iload_n 2, 1) := by decide +kernel
theorem dX6_coinOf_4 : decode cX6_coinOf 4 = .ok (.iload_n 3, 1) := by decide +kernel
theorem dX6_coinOf_40 : decode cX6_coinOf 40 = .ok (.ireturn, 1) := by decide +kernel
theorem dX6_coinOf_5 : decode cX6_coinOf 5 = .ok (.aload_n 0, 1) := by decide +kernel
theorem dX6_coinOf_6 : decode cX6_coinOf 6 = .ok (.getfield 56, 3) := by decide +kernel
theorem dX6_coinOf_9 : decode cX6_coinOf 9 = .ok (.if_icmp .ge 30, 3) := by decide +kernel
theorem dX6_isSheltered_0 : decode cX6_isSheltered 0 = .ok (.iconst 0, 1) := by decide +kernel
theorem dX6_isSheltered_1 : decode cX6_isSheltered 1 = .ok (.istore_n 2, 1) := by decide +kernel
theorem dX6_isSheltered_10 : decode cX6_isSheltered 10 = .ok (.iload_n 1, 1) := by decide +kernel
theorem dX6_isSheltered_11 : decode cX6_isSheltered 11 = .ok (.aload_n 0, 1) := by decide +kernel
theorem dX6_isSheltered_12 : decode cX6_isSheltered 12 = .ok (.getfield 22, 3) := by decide +kernel
theorem dX6_isSheltered_15 : decode cX6_isSheltered 15 = .ok (.iconst 2, 1) := by decide +kernel
theorem dX6_isSheltered_16 : decode cX6_isSheltered 16 = .ok (.iload_n 2, 1) := by decide +kernel
theorem dX6_isSheltered_17 : decode cX6_isSheltered 17 = .ok (.imul, 1) := by decide +kernel
theorem dX6_isSheltered_18 : decode cX6_isSheltered 18 = .ok (.iaload, 1) := by decide +kernel
theorem dX6_isSheltered_19 : decode cX6_isSheltered 19 = .ok (.aload_n 0, 1) := by decide +kernel
theorem dX6_isSheltered_2 : decode cX6_isSheltered 2 = .ok (.iload_n 2, 1) := by decide +kernel
theorem dX6_isSheltered_20 : decode cX6_isSheltered 20 = .ok (.getfield 22, 3) := by decide +kernel
theorem dX6_isSheltered_23 : decode cX6_isSheltered 23 = .ok (.iconst 2, 1) := by decide +kernel
theorem dX6_isSheltered_24 : decode cX6_isSheltered 24 = .ok (.iload_n 2, 1) := by decide +kernel
theorem dX6_isSheltered_25 : decode cX6_isSheltered 25 = .ok (.imul, 1) := by decide +kernel
theorem dX6_isSheltered_26 : decode cX6_isSheltered 26 = .ok (.iconst 1, 1) := by decide +kernel
theorem dX6_isSheltered_27 : decode cX6_isSheltered 27 = .ok (.iadd, 1) := by decide +kernel
theorem dX6_isSheltered_28 : decode cX6_isSheltered 28 = .ok (.iaload, 1) := by decide +kernel
theorem dX6_isSheltered_29 : decode cX6_isSheltered 29 = .ok (.invokestatic 139, 3) := by decide +kernel
theorem dX6_isSheltered_3 : decode cX6_isSheltered 3 = .ok (.aload_n 0, 1) := by decide +kernel
theorem dX6_isSheltered_32 : decode cX6_isSheltered 32 = .ok (.ifCond .eq 5, 3) := by decide +kernel
theorem dX6_isSheltered_35 : decode cX6_isSheltered 35 = .ok (.iconst 1, 1) := by decide +kernel
theorem dX6_isSheltered_36 : decode cX6_isSheltered 36 = .ok (.ireturn, 1) := by decide +kernel
theorem dX6_isSheltered_37 : decode cX6_isSheltered 37 = .ok (.iinc 2 1, 3) := by decide +kernel
theorem dX6_isSheltered_4 : decode cX6_isSheltered 4 = .ok (.getfield 53, 3) := by decide +kernel
theorem dX6_isSheltered_40 : decode cX6_isSheltered 40 = .ok (.goto (-38), 3) := by decide +kernel
theorem dX6_isSheltered_43 : decode cX6_isSheltered 43 = .ok (.iconst 0, 1) := by decide +kernel
theorem dX6_isSheltered_44 : decode cX6_isSheltered 44 = .ok (.ireturn, 1) := by decide +kernel
theorem dX6_isSheltered_7 : decode cX6_isSheltered 7 = .ok (.if_icmp .ge 36, 3) := by decide +kernel
theorem dX6_peopleAt_0 : decode cX6_peopleAt 0 = .ok (.iconst 0, 1) := by decide +kernel
theorem dX6_peopleAt_1 : decode cX6_peopleAt 1 = .ok (.istore_n 2, 1) := by decide +kernel
theorem dX6_peopleAt_12 : decode cX6_peopleAt 12 = .ok (.aload_n 0, 1) := by decide +kernel
theorem dX6_peopleAt_13 : decode cX6_peopleAt 13 = .ok (.getfield 19, 3) := by decide +kernel
theorem dX6_peopleAt_16 : decode cX6_peopleAt 16 = .ok (.iconst 4, 1) := by decide +kernel
theorem dX6_peopleAt_17 : decode cX6_peopleAt 17 = .ok (.iload_n 3, 1) := by decide +kernel
theorem dX6_peopleAt_18 : decode cX6_peopleAt 18 = .ok (.imul, 1) := by decide +kernel
theorem dX6_peopleAt_19 : decode cX6_peopleAt 19 = .ok (.iaload, 1) := by decide +kernel
theorem dX6_peopleAt_2 : decode cX6_peopleAt 2 = .ok (.iconst 0, 1) := by decide +kernel
theorem dX6_peopleAt_20 : decode cX6_peopleAt 20 = .ok (.iload_n 1, 1) := by decide +kernel
theorem dX6_peopleAt_21 : decode cX6_peopleAt 21 = .ok (.if_icmp .ne 6, 3) := by decide +kernel
theorem dX6_peopleAt_24 : decode cX6_peopleAt 24 = .ok (.iinc 2 1, 3) := by decide +kernel
theorem dX6_peopleAt_27 : decode cX6_peopleAt 27 = .ok (.iinc 3 1, 3) := by decide +kernel
theorem dX6_peopleAt_3 : decode cX6_peopleAt 3 = .ok (.istore_n 3, 1) := by decide +kernel
theorem dX6_peopleAt_30 : decode cX6_peopleAt 30 = .ok (.goto (-26), 3) := by decide +kernel
theorem dX6_peopleAt_33 : decode cX6_peopleAt 33 = .ok (.aload_n 0, 1) := by decide +kernel
theorem dX6_peopleAt_34 : decode cX6_peopleAt 34 = .ok (.getfield 50, 3) := by decide +kernel
theorem dX6_peopleAt_37 : decode cX6_peopleAt 37 = .ok (.ifCond .le 22, 3) := by decide +kernel
theorem dX6_peopleAt_4 : decode cX6_peopleAt 4 = .ok (.iload_n 3, 1) := by decide +kernel
theorem dX6_peopleAt_40 : decode cX6_peopleAt 40 = .ok (.aload_n 0, 1) := by decide +kernel
theorem dX6_peopleAt_41 : decode cX6_peopleAt 41 = .ok (.getfield 19, 3) := by decide +kernel
theorem dX6_peopleAt_44 : decode cX6_peopleAt 44 = .ok (.iconst 4, 1) := by decide +kernel
theorem dX6_peopleAt_45 : decode cX6_peopleAt 45 = .ok (.aload_n 0, 1) := by decide +kernel
theorem dX6_peopleAt_46 : decode cX6_peopleAt 46 = .ok (.getfield 47, 3) := by decide +kernel
theorem dX6_peopleAt_49 : decode cX6_peopleAt 49 = .ok (.imul, 1) := by decide +kernel
theorem dX6_peopleAt_5 : decode cX6_peopleAt 5 = .ok (.aload_n 0, 1) := by decide +kernel
theorem dX6_peopleAt_50 : decode cX6_peopleAt 50 = .ok (.iaload, 1) := by decide +kernel
theorem dX6_peopleAt_51 : decode cX6_peopleAt 51 = .ok (.iload_n 1, 1) := by decide +kernel
theorem dX6_peopleAt_52 : decode cX6_peopleAt 52 = .ok (.if_icmp .ne 7, 3) := by decide +kernel
theorem dX6_peopleAt_55 : decode cX6_peopleAt 55 = .ok (.iconst 1, 1) := by decide +kernel
theorem dX6_peopleAt_56 : decode cX6_peopleAt 56 = .ok (.goto 4, 3) := by decide +kernel
theorem dX6_peopleAt_59 : decode cX6_peopleAt 59 = .ok (.iconst 0, 1) := by decide +kernel
theorem dX6_peopleAt_6 : decode cX6_peopleAt 6 = .ok (.getfield 47, 3) := by decide +kernel
theorem dX6_peopleAt_60 : decode cX6_peopleAt 60 = .ok (.istore_n 3, 1) := by decide +kernel
theorem dX6_peopleAt_61 : decode cX6_peopleAt 61 = .ok (.iload_n 3, 1) := by decide +kernel
theorem dX6_peopleAt_62 : decode cX6_peopleAt 62 = .ok (.ifCond .eq 9, 3) := by decide +kernel
theorem dX6_peopleAt_65 : decode cX6_peopleAt 65 = .ok (.iload_n 2, 1) := by decide +kernel
theorem dX6_peopleAt_66 : decode cX6_peopleAt 66 = .ok (.iconst 1, 1) := by decide +kernel
theorem dX6_peopleAt_67 : decode cX6_peopleAt 67 = .ok (.iadd, 1) := by decide +kernel
theorem dX6_peopleAt_68 : decode cX6_peopleAt 68 = .ok (.goto 4, 3) := by decide +kernel
theorem dX6_peopleAt_71 : decode cX6_peopleAt 71 = .ok (.iload_n 2, 1) := by decide +kernel
theorem dX6_peopleAt_72 : decode cX6_peopleAt 72 = .ok (.ireturn, 1) := by decide +kernel
theorem dX6_peopleAt_9 : decode cX6_peopleAt 9 = .ok (.if_icmp .ge 24, 3) := by decide +kernel
theorem dX6_putPerson_0 : decode cX6_putPerson 0 = .ok (.iconst 4, 1) := by decide +kernel
theorem dX6_putPerson_1 : decode cX6_putPerson 1 = .ok (.iload_n 1, 1) := by decide +kernel
theorem dX6_putPerson_10 : decode cX6_putPerson 10 = .ok (.getfield 19, 3) := by decide +kernel
theorem dX6_putPerson_13 : decode cX6_putPerson 13 = .ok (.arraylength, 1) := by decide +kernel
theorem dX6_putPerson_14 : decode cX6_putPerson 14 = .ok (.if_icmp .le 4, 3) := by decide +kernel
theorem dX6_putPerson_17 : decode cX6_putPerson 17 = .ok (.return_, 1) := by decide +kernel
theorem dX6_putPerson_18 : decode cX6_putPerson 18 = .ok (.aload_n 0, 1) := by decide +kernel
theorem dX6_putPerson_19 : decode cX6_putPerson 19 = .ok (.getfield 19, 3) := by decide +kernel
theorem dX6_putPerson_2 : decode cX6_putPerson 2 = .ok (.imul, 1) := by decide +kernel
theorem dX6_putPerson_22 : decode cX6_putPerson 22 = .ok (.iload 4, 2) := by decide +kernel
theorem dX6_putPerson_24 : decode cX6_putPerson 24 = .ok (.iload_n 2, 1) := by decide +kernel
theorem dX6_putPerson_25 : decode cX6_putPerson 25 = .ok (.iastore, 1) := by decide +kernel
theorem dX6_putPerson_26 : decode cX6_putPerson 26 = .ok (.aload_n 0, 1) := by decide +kernel
theorem dX6_putPerson_27 : decode cX6_putPerson 27 = .ok (.getfield 19, 3) := by decide +kernel
theorem dX6_putPerson_3 : decode cX6_putPerson 3 = .ok (.istore 4, 2) := by decide +kernel
theorem dX6_putPerson_30 : decode cX6_putPerson 30 = .ok (.iload 4, 2) := by decide +kernel
theorem dX6_putPerson_32 : decode cX6_putPerson 32 = .ok (.iconst 1, 1) := by decide +kernel
theorem dX6_putPerson_33 : decode cX6_putPerson 33 = .ok (.iadd, 1) := by decide +kernel
theorem dX6_putPerson_34 : decode cX6_putPerson 34 = .ok (.iload_n 3, 1) := by decide +kernel
theorem dX6_putPerson_35 : decode cX6_putPerson 35 = .ok (.iastore, 1) := by decide +kernel
theorem dX6_putPerson_36 : decode cX6_putPerson 36 = .ok (.aload_n 0, 1) := by decide +kernel
theorem dX6_putPerson_37 : decode cX6_putPerson 37 = .ok (.getfield 19, 3) := by decide +kernel
theorem dX6_putPerson_40 : decode cX6_putPerson 40 = .ok (.iload 4, 2) := by decide +kernel
theorem dX6_putPerson_42 : decode cX6_putPerson 42 = .ok (.iconst 2, 1) := by decide +kernel
theorem dX6_putPerson_43 : decode cX6_putPerson 43 = .ok (.iadd, 1) := by decide +kernel
theorem dX6_putPerson_44 : decode cX6_putPerson 44 = .ok (.iconst 0, 1) := by decide +kernel
theorem dX6_putPerson_45 : decode cX6_putPerson 45 = .ok (.iastore, 1) := by decide +kernel
theorem dX6_putPerson_46 : decode cX6_putPerson 46 = .ok (.aload_n 0, 1) := by decide +kernel
theorem dX6_putPerson_47 : decode cX6_putPerson 47 = .ok (.getfield 19, 3) := by decide +kernel
theorem dX6_putPerson_5 : decode cX6_putPerson 5 = .ok (.iload 4, 2) := by decide +kernel
theorem dX6_putPerson_50 : decode cX6_putPerson 50 = .ok (.iload 4, 2) := by decide +kernel
theorem dX6_putPerson_52 : decode cX6_putPerson 52 = .ok (.iconst 3, 1) := by decide +kernel
theorem dX6_putPerson_53 : decode cX6_putPerson 53 = .ok (.iadd, 1) := by decide +kernel
theorem dX6_putPerson_54 : decode cX6_putPerson 54 = .ok (.iconst 0, 1) := by decide +kernel
theorem dX6_putPerson_55 : decode cX6_putPerson 55 = .ok (.iastore, 1) := by decide +kernel
theorem dX6_putPerson_56 : decode cX6_putPerson 56 = .ok (.return_, 1) := by decide +kernel
theorem dX6_putPerson_7 : decode cX6_putPerson 7 = .ok (.iconst 4, 1) := by decide +kernel
theorem dX6_putPerson_8 : decode cX6_putPerson 8 = .ok (.iadd, 1) := by decide +kernel
theorem dX6_putPerson_9 : decode cX6_putPerson 9 = .ok (.aload_n 0, 1) := by decide +kernel
def vs_s_peopleAt : List Cond := .code yX6_peopleAt cX6_peopleAt 4 (some .int) :: (([.fieldLink RX6 47 "KerbSplash$Street" "persons" "I", .fieldLink RX6 50 "KerbSplash$Street" "guesses" "I", .fieldLink RX6 19 "KerbSplash$Street" "person" "[I"] : List Cond) ++ ((wsX60) ++ ([])))
theorem gd_s_peopleAt : vs_s_peopleAt.all goodWord = true := gd_C (by decide +kernel) (gd_A (by decide +kernel) (gd_A (by decide +kernel) rfl))
set_option maxHeartbeats 4000000 in
set_option maxRecDepth 100000 in
theorem s_peopleAt (l : Launch) (hl : l.stackTraces = false) (D : va_G) (cy : Nat → ClassId) (sa : Nat → Nat) (sA s2 s3 s6 s8 s11 s13 : Nat) (wi ro dr dt pe gu sh wo dn mi fl tk go : Int) (xl xh : Int) (pf : Nat → Int32) (n : Int) (sz : Nat) (hr_wi : 0 ≤ wi ∧ wi ≤ 16) (hr_ro : 0 ≤ ro ∧ ro ≤ 6) (hr_dr : 0 ≤ dr ∧ dr ≤ 14) (hr_dt : 0 ≤ dt ∧ dt ≤ 6) (hr_pe : 0 ≤ pe ∧ pe ≤ 8) (hr_gu : 0 ≤ gu ∧ gu ≤ 20) (hr_sh : 0 ≤ sh ∧ sh ≤ 2) (hr_wo : 0 ≤ wo ∧ wo ≤ 8) (hr_dn : (-2147483648) ≤ dn ∧ dn ≤ 2147483647) (hr_mi : 0 ≤ mi ∧ mi ≤ 600) (hr_fl : (-2147483648) ≤ fl ∧ fl ≤ 2147483647) (hr_tk : (-2147483648) ≤ tk ∧ tk ≤ 2147483647) (hr_go : (-2147483648) ≤ go ∧ go ≤ 2147483647) (hr_xl : (-2147483648) ≤ xl ∧ xl ≤ 0) (hr_xh : 15 ≤ xh ∧ xh ≤ 2147483647) (hr_n : (-2147483648) ≤ n ∧ n ≤ 2147483647) (hpf : tab_ 4 28 [xl, 0, (-2147483648), (-2147483648)] [xh, 19, 2147483647, 2147483647] pf) : mI9 l yX6_peopleAt vs_s_peopleAt ({ frames := 0, cells := 0, slots := 0, locals := 0 }) D cy sa sz [vR sA, vI n] [zO sA 6 [vI wi, vI ro, vR s2, vR s3, vI dr, vI dt, vR s6, vI pe, vR s8, vI gu, vI sh, vR s11, vI wo, vR s13, vI dn, vI mi, vI fl, vI tk, vI go], zI s8 (cy 0) 112 pf] (fun (r : Int32) (u : SV) => r = iI (u.2.1 0) ∧ (0 ≤ u.2.1 0 ∧ u.2.1 0 ≤ 9) ∧ tab_ 4 28 [xl, 0, (-2147483648), (-2147483648)] [xh, 19, 2147483647, 2147483647] pf) (fun u : SV => [zO sA 6 [vI wi, vI ro, vR s2, vR s3, vI dr, vI dt, vR s6, vI pe, vR s8, vI gu, vI sh, vR s11, vI wo, vR s13, vI dn, vI mi, vI fl, vI tk, vI go], zI s8 (cy 0) 112 pf]) 0 0 := by
  refine Met.ofW (cc := cX6_peopleAt) (maxL := 4) (ret := (some .int)) (by decide) rfl ?_
  intro p e s m args below meth c s₁ B hml hv
  obtain ⟨rfl, hsz, hP, hG, hD0, hT⟩ := hv
  have hx := B.exec
  have hb := B.bytes
  have hr := B.returns
  have hts := atoms_spec (ws := vs_s_peopleAt) B.pre
  have hown : s.vm.findClass RX6 = some m.cls := findClass_of_methodNamed B.named
  have hlocks := B.notSynchronized
  subst hsz
  have hD := hD0.self (sz := s.heap.size)
  generalize hAe : va_A [zO sA 6 [vI wi, vI ro, vR s2, vR s3, vI dr, vI dt, vR s6, vI pe, vR s8, vI gu, vI sh, vR s11, vI wo, vR s13, vI dn, vI mi, vI fl, vI tk, vI go], zI s8 (cy 0) 112 pf] s.heap.size = A at hD hT ⊢
  have hA : ∀ q : Nat, s.heap.size ≤ q → A q := fun q h => by rw [← hAe]; exact Or.inr h
  have hS : va_S A s.heap s.heap [] := va_S.rf
  have hl0 := lv_entry ([vR sA, vI n]) (n := 4) (Nat.le_of_ble_eq_true rfl)
  rw [lg_entry_eq]
  generalize (lg_sl ([vR sA, vI n]) ++ List.replicate (4 - (lg_sl ([vR sA, vI n])).length) Slot.unset).toArray = ls at hl0 ⊢
  have hlv : lv_has ls 4 [(0, vR sA), (1, vI n)] := hl0
  have lf47 := hts (.fieldLink RX6 47 "KerbSplash$Street" "persons" "I") (List.mem_of_getElem? (i := 1) rfl)
  have hi6 : ∀ w ∈ wsX60, w ∈ vs_s_peopleAt := fun w h => List.mem_cons_of_mem _ (List.mem_append_right _ (List.mem_append_left _ h))
  have lf50 := hts (.fieldLink RX6 50 "KerbSplash$Street" "guesses" "I") (List.mem_of_getElem? (i := 2) rfl)
  have lf19 := hts (.fieldLink RX6 19 "KerbSplash$Street" "person" "[I") (List.mem_of_getElem? (i := 3) rfl)
  refine lv_iconst (v := iI 0) hx hb dX6_peopleAt_0 (by decide) ?_
  refine lv_istore_n (lv' := [(2, vI 0), (0, vR sA), (1, vI n)]) hx hb dX6_peopleAt_1 rfl hlv (by decide) rfl (fun ls hlv => ?_)
  refine lv_iconst (v := iI 0) hx hb dX6_peopleAt_2 (by decide) ?_
  refine lv_istore_n (lv' := [(3, vI 0), (2, vI 0), (0, vR sA), (1, vI n)]) hx hb dX6_peopleAt_3 rfl hlv (by decide) rfl (fun ls hlv => ?_)
  refine (?_ : ∀ (fu : Nat) (x : Int) (v : Int) (H : Heap) (locs : List Loc) (ls : Array Slot), 8 - x < (fu : Int) → (0 ≤ x ∧ x ≤ 8) → (0 ≤ v ∧ v ≤ 8) → (v ≤ x) → (x ≤ pe) → va_P D vwCl [zO sA 6 [vI wi, vI ro, vR s2, vR s3, vI dr, vI dt, vR s6, vI pe, vR s8, vI gu, vI sh, vR s11, vI wo, vR s13, vI dn, vI mi, vI fl, vI tk, vI go], zI s8 (cy 0) 112 pf] H → va_D A [zO sA 6 [vI wi, vI ro, vR s2, vR s3, vI dr, vI dt, vR s6, vI pe, vR s8, vI gu, vI sh, vR s11, vI wo, vR s13, vI dn, vI mi, vI fl, vI tk, vI go], zI s8 (cy 0) 112 pf] → va_S A s.heap H locs → lv_has ls 4 [(3, vI x), (2, vI v), (0, vR sA), (1, vI n)] → W p l e _ s m _ below meth c H locs _ _ _ (F0 m 4 ls [])) (((8 - 0) + 1 : Int)).toNat 0 0 _ _ _ (by omega) (by show (0 : Int) ≤ 0 ∧ (0 : Int) ≤ 8; decide) (by show (0 : Int) ≤ 0 ∧ (0 : Int) ≤ 8; decide) (by omega) (by omega)  hP hD hS hlv
  clear hP hD hS hlv
  intro fu
  induction fu with
  | zero => intro x v H locs ls hm4 hl4_0 hl4_1 hl4_2 hl4_3  hP hD hS hlv; omega
  | succ fu ih4 =>
    intro x v H locs ls hm4 hl4_0 hl4_1 hl4_2 hl4_3  hP hD hS hlv
    refine lv_iload_n hx hb dX6_peopleAt_4 rfl (lv_at hlv 0 rfl) ?_
    refine lv_aload_n hx hb dX6_peopleAt_5 rfl (lv_at hlv 2 rfl) ?_
    refine va_get (D := D) (ci := 6) (v := vI pe) (C := RX6) (T := TX6) (N := 19) hx hb hts hi6 hown hG.1 hP 0 rfl rfl 7 (by decide) lf47 (fun _ h9 => h9) rfl dX6_peopleAt_6 ?_
    refine ir_ge (tgt := 33) hx hb dX6_peopleAt_9 (by decide) (by first | exact rgw hl4_0 (by decide) (by decide) | omega) (by first | exact rgw hr_pe (by decide) (by decide) | omega) (fun c_1 => ?_) (fun c_1 => ?_)
    · refine lv_aload_n hx hb dX6_peopleAt_33 rfl (lv_at hlv 2 rfl) ?_
      refine va_get (D := D) (ci := 6) (v := vI gu) (C := RX6) (T := TX6) (N := 19) hx hb hts hi6 hown hG.1 hP 0 rfl rfl 9 (by decide) lf50 (fun _ h9 => h9) rfl dX6_peopleAt_34 ?_
      refine iz_le (tgt := 59) hx hb dX6_peopleAt_37 (by decide) (by first | exact rgw hr_gu (by decide) (by decide) | omega) (fun c_2 => ?_) (fun c_2 => ?_)
      · refine lv_iconst (v := iI 0) hx hb dX6_peopleAt_59 (by decide) ?_
        refine lv_istore_n (lv' := [(3, vI 0), (2, vI v), (0, vR sA), (1, vI n)]) hx hb dX6_peopleAt_60 rfl hlv (by decide) rfl (fun ls hlv => ?_)
        refine lv_iload_n hx hb dX6_peopleAt_61 rfl (lv_at hlv 0 rfl) ?_
        refine iz_eq (tgt := 71) hx hb dX6_peopleAt_62 (by decide) (by show ((-2147483648) : Int) ≤ 0 ∧ (0 : Int) ≤ 2147483647; decide) (fun c_3 => ?_) (fun c_3 => by exfalso; omega)
        refine lv_iload_n hx hb dX6_peopleAt_71 rfl (lv_at hlv 1 rfl) ?_
        refine W.widen (k := 0) (n := 0) (Nat.le_of_ble_eq_true rfl) (Nat.le_of_ble_eq_true rfl) ?_
        exact W.iret (v := iI v) hx hb hr (fun t ht hW => ⟨⟨iI v, ((fun k => ([] : List Nat).getD k 0), (fun k => ([v] : List Int).getD k 0), (fun k => ([] : List (Nat → Int32)).getD k (fun _ => 0))), rfl, ⟨rfl, (by show (0 ≤ v ∧ v ≤ 9); first | exact rgw hl4_1 (by decide) (by decide) | omega), hpf⟩, at9 ht hP hD [0, 1] (by decide +kernel) rfl⟩, hS.F ht⟩) hS.2.2 dX6_peopleAt_72
      · refine lv_aload_n hx hb dX6_peopleAt_40 rfl (lv_at hlv 2 rfl) ?_
        refine va_get (D := D) (ci := 6) (v := vR s8) (C := RX6) (T := TX6) (N := 19) hx hb hts hi6 hown hG.1 hP 0 rfl rfl 8 (by decide) lf19 (fun _ h9 => h9) rfl dX6_peopleAt_41 ?_
        refine lv_iconst (v := iI 4) hx hb dX6_peopleAt_44 (by decide) ?_
        refine lv_aload_n hx hb dX6_peopleAt_45 rfl (lv_at hlv 2 rfl) ?_
        refine va_get (D := D) (ci := 6) (v := vI pe) (C := RX6) (T := TX6) (N := 19) hx hb hts hi6 hown hG.1 hP 0 rfl rfl 7 (by decide) lf47 (fun _ h9 => h9) rfl dX6_peopleAt_46 ?_
        refine lv_imul hx hb dX6_peopleAt_49 ?_
        refine lt_e (e0 := 4 * pe) (Int32.ofInt_mul _ _).symm (fun z_4 hz_4 => ?_)
        refine va_iald hx hb hG.1 hP 1 0 rfl rfl (iI_in (by omega) (by decide)) dX6_peopleAt_50 ?_
        obtain ⟨z_5, ez_5, hz_5, lz_5⟩ := tab_rd hpf (e := z_4) (k := pe) (c := 0) (a := xl) (b := xh) (by omega) (by omega) (by decide) (by omega) rfl rfl
        refine lt_i (y := iI z_5) ez_5 ?_
        refine lv_iload_n hx hb dX6_peopleAt_51 rfl (lv_at hlv 3 rfl) ?_
        refine ir_ne (tgt := 59) hx hb dX6_peopleAt_52 (by decide) (by first | exact hz_5 | omega) (by first | exact hr_n | omega) (fun c_6 => ?_) (fun c_6 => ?_)
        · refine lv_iconst (v := iI 0) hx hb dX6_peopleAt_59 (by decide) ?_
          refine lv_istore_n (lv' := [(3, vI 0), (2, vI v), (0, vR sA), (1, vI n)]) hx hb dX6_peopleAt_60 rfl hlv (by decide) rfl (fun ls hlv => ?_)
          refine lv_iload_n hx hb dX6_peopleAt_61 rfl (lv_at hlv 0 rfl) ?_
          refine iz_eq (tgt := 71) hx hb dX6_peopleAt_62 (by decide) (by show ((-2147483648) : Int) ≤ 0 ∧ (0 : Int) ≤ 2147483647; decide) (fun c_7 => ?_) (fun c_7 => by exfalso; omega)
          refine lv_iload_n hx hb dX6_peopleAt_71 rfl (lv_at hlv 1 rfl) ?_
          refine W.widen (k := 0) (n := 0) (Nat.le_of_ble_eq_true rfl) (Nat.le_of_ble_eq_true rfl) ?_
          exact W.iret (v := iI v) hx hb hr (fun t ht hW => ⟨⟨iI v, ((fun k => ([] : List Nat).getD k 0), (fun k => ([v] : List Int).getD k 0), (fun k => ([] : List (Nat → Int32)).getD k (fun _ => 0))), rfl, ⟨rfl, (by show (0 ≤ v ∧ v ≤ 9); first | exact rgw hl4_1 (by decide) (by decide) | omega), hpf⟩, at9 ht hP hD [0, 1] (by decide +kernel) rfl⟩, hS.F ht⟩) hS.2.2 dX6_peopleAt_72
        · refine lv_iconst (v := iI 1) hx hb dX6_peopleAt_55 (by decide) ?_
          refine lv_goto (tgt := 60) hx hb dX6_peopleAt_56 (by decide) ?_
          refine lv_istore_n (lv' := [(3, vI 1), (2, vI v), (0, vR sA), (1, vI n)]) hx hb dX6_peopleAt_60 rfl hlv (by decide) rfl (fun ls hlv => ?_)
          refine lv_iload_n hx hb dX6_peopleAt_61 rfl (lv_at hlv 0 rfl) ?_
          refine iz_eq (tgt := 71) hx hb dX6_peopleAt_62 (by decide) (by show ((-2147483648) : Int) ≤ 1 ∧ (1 : Int) ≤ 2147483647; decide) (fun c_8 => by exfalso; omega) (fun c_8 => ?_)
          refine lv_iload_n hx hb dX6_peopleAt_65 rfl (lv_at hlv 1 rfl) ?_
          refine lv_iconst (v := iI 1) hx hb dX6_peopleAt_66 (by decide) ?_
          refine lv_iadd hx hb dX6_peopleAt_67 ?_
          refine lt_e (e0 := v + 1) (Int32.ofInt_add _ _).symm (fun z_9 hz_9 => ?_)
          refine lv_goto (tgt := 72) hx hb dX6_peopleAt_68 (by decide) ?_
          refine W.widen (k := 0) (n := 0) (Nat.le_of_ble_eq_true rfl) (Nat.le_of_ble_eq_true rfl) ?_
          exact W.iret (v := iI z_9) hx hb hr (fun t ht hW => ⟨⟨iI z_9, ((fun k => ([] : List Nat).getD k 0), (fun k => ([z_9] : List Int).getD k 0), (fun k => ([] : List (Nat → Int32)).getD k (fun _ => 0))), rfl, ⟨rfl, (by show (0 ≤ z_9 ∧ z_9 ≤ 9); omega), hpf⟩, at9 ht hP hD [0, 1] (by decide +kernel) rfl⟩, hS.F ht⟩) hS.2.2 dX6_peopleAt_72
    · refine lv_aload_n hx hb dX6_peopleAt_12 rfl (lv_at hlv 2 rfl) ?_
      refine va_get (D := D) (ci := 6) (v := vR s8) (C := RX6) (T := TX6) (N := 19) hx hb hts hi6 hown hG.1 hP 0 rfl rfl 8 (by decide) lf19 (fun _ h9 => h9) rfl dX6_peopleAt_13 ?_
      refine lv_iconst (v := iI 4) hx hb dX6_peopleAt_16 (by decide) ?_
      refine lv_iload_n hx hb dX6_peopleAt_17 rfl (lv_at hlv 0 rfl) ?_
      refine lv_imul hx hb dX6_peopleAt_18 ?_
      refine lt_e (e0 := 4 * x) (Int32.ofInt_mul _ _).symm (fun z_10 hz_10 => ?_)
      refine va_iald hx hb hG.1 hP 1 0 rfl rfl (iI_in (by omega) (by decide)) dX6_peopleAt_19 ?_
      obtain ⟨z_11, ez_11, hz_11, lz_11⟩ := tab_rd hpf (e := z_10) (k := x) (c := 0) (a := xl) (b := xh) (by omega) (by omega) (by decide) (by omega) rfl rfl
      refine lt_i (y := iI z_11) ez_11 ?_
      refine lv_iload_n hx hb dX6_peopleAt_20 rfl (lv_at hlv 3 rfl) ?_
      refine ir_ne (tgt := 27) hx hb dX6_peopleAt_21 (by decide) (by first | exact hz_11 | omega) (by first | exact hr_n | omega) (fun c_12 => ?_) (fun c_12 => ?_)
      · obtain ⟨z_13, hz_13⟩ : ∃ z : Int, z = x + 1 := ⟨_, rfl⟩
        refine lv_iinc (v := iI z_13) (lv' := [(3, vI z_13), (2, vI v), (0, vR sA), (1, vI n)]) hx hb dX6_peopleAt_27 hlv (k := 0) rfl (by rw [hz_13]; exact (Int32.ofInt_add _ _).symm) (by decide) rfl (fun ls hlv => ?_)
        refine lv_goto (tgt := 4) hx hb dX6_peopleAt_30 (by decide) ?_
        exact ih4 z_13 v H locs ls (by omega) (by omega) (by first | exact hl4_1 | omega) (by omega) (by omega)  (hP.sub [0, 1] rfl) (hD.sub [0, 1] (by decide) rfl) hS (lv_sub hlv [0, 1, 2, 3] rfl)
      · obtain ⟨z_14, hz_14⟩ : ∃ z : Int, z = v + 1 := ⟨_, rfl⟩
        refine lv_iinc (v := iI z_14) (lv' := [(2, vI z_14), (3, vI x), (0, vR sA), (1, vI n)]) hx hb dX6_peopleAt_24 hlv (k := 1) rfl (by rw [hz_14]; exact (Int32.ofInt_add _ _).symm) (by decide) rfl (fun ls hlv => ?_)
        obtain ⟨z_15, hz_15⟩ : ∃ z : Int, z = x + 1 := ⟨_, rfl⟩
        refine lv_iinc (v := iI z_15) (lv' := [(3, vI z_15), (2, vI z_14), (0, vR sA), (1, vI n)]) hx hb dX6_peopleAt_27 hlv (k := 1) rfl (by rw [hz_15]; exact (Int32.ofInt_add _ _).symm) (by decide) rfl (fun ls hlv => ?_)
        refine lv_goto (tgt := 4) hx hb dX6_peopleAt_30 (by decide) ?_
        exact ih4 z_15 z_14 H locs ls (by omega) (by omega) (by omega) (by omega) (by omega)  (hP.sub [0, 1] rfl) (hD.sub [0, 1] (by decide) rfl) hS (lv_sub hlv [0, 1, 2, 3] rfl)
def vs_s_isSheltered : List Cond := .code yX6_isSheltered cX6_isSheltered 3 (some .boolean) :: (([.fieldLink RX6 53 "KerbSplash$Street" "shelters" "I", .fieldLink RX6 22 "KerbSplash$Street" "shelter" "[I", .initialized RX11, .static yX11_isWithin] : List Cond) ++ ((wsX60) ++ ((vs_s_within) ++ ([]))))
theorem gd_s_isSheltered : vs_s_isSheltered.all goodWord = true := gd_C (by decide +kernel) (gd_A (by decide +kernel) (gd_A (by decide +kernel) (gd_A gd_s_within rfl)))
set_option maxHeartbeats 4000000 in
set_option maxRecDepth 100000 in
theorem s_isSheltered (l : Launch) (hl : l.stackTraces = false) (D : va_G) (cy : Nat → ClassId) (sa : Nat → Nat) (sA s2 s3 s6 s8 s11 s13 : Nat) (wi ro dr dt pe gu sh wo dn mi fl tk go : Int) (sf : Nat → Int32) (n : Int) (sz : Nat) (hr_wi : 0 ≤ wi ∧ wi ≤ 16) (hr_ro : 0 ≤ ro ∧ ro ≤ 6) (hr_dr : 0 ≤ dr ∧ dr ≤ 14) (hr_dt : 0 ≤ dt ∧ dt ≤ 6) (hr_pe : 0 ≤ pe ∧ pe ≤ 8) (hr_gu : 0 ≤ gu ∧ gu ≤ 20) (hr_sh : 0 ≤ sh ∧ sh ≤ 2) (hr_wo : 0 ≤ wo ∧ wo ≤ 8) (hr_dn : (-2147483648) ≤ dn ∧ dn ≤ 2147483647) (hr_mi : 0 ≤ mi ∧ mi ≤ 600) (hr_fl : (-2147483648) ≤ fl ∧ fl ≤ 2147483647) (hr_tk : (-2147483648) ≤ tk ∧ tk ≤ 2147483647) (hr_go : (-2147483648) ≤ go ∧ go ≤ 2147483647) (hr_n : (-2147483648) ≤ n ∧ n ≤ 2147483647) : mI9 l yX6_isSheltered vs_s_isSheltered ({ frames := 1, cells := 0, slots := 0, locals := 22 }) D cy sa sz [vR sA, vI n] [zO sA 6 [vI wi, vI ro, vR s2, vR s3, vI dr, vI dt, vR s6, vI pe, vR s8, vI gu, vI sh, vR s11, vI wo, vR s13, vI dn, vI mi, vI fl, vI tk, vI go], zI s11 (cy 0) 4 sf] (fun (r : Int32) (u : SV) => r = iI (u.2.1 0) ∧ (0 ≤ u.2.1 0 ∧ u.2.1 0 ≤ 1)) (fun u : SV => [zO sA 6 [vI wi, vI ro, vR s2, vR s3, vI dr, vI dt, vR s6, vI pe, vR s8, vI gu, vI sh, vR s11, vI wo, vR s13, vI dn, vI mi, vI fl, vI tk, vI go], zI s11 (cy 0) 4 sf]) 0 0 := by
  refine Met.ofW (cc := cX6_isSheltered) (maxL := 3) (ret := (some .boolean)) (by decide) rfl ?_
  intro p e s m args below meth c s₁ B hml hv
  obtain ⟨rfl, hsz, hP, hG, hD0, hT⟩ := hv
  have hx := B.exec
  have hb := B.bytes
  have hr := B.returns
  have hts := atoms_spec (ws := vs_s_isSheltered) B.pre
  have hown : s.vm.findClass RX6 = some m.cls := findClass_of_methodNamed B.named
  have hlocks := B.notSynchronized
  subst hsz
  have hD := hD0.self (sz := s.heap.size)
  generalize hAe : va_A [zO sA 6 [vI wi, vI ro, vR s2, vR s3, vI dr, vI dt, vR s6, vI pe, vR s8, vI gu, vI sh, vR s11, vI wo, vR s13, vI dn, vI mi, vI fl, vI tk, vI go], zI s11 (cy 0) 4 sf] s.heap.size = A at hD hT ⊢
  have hA : ∀ q : Nat, s.heap.size ≤ q → A q := fun q h => by rw [← hAe]; exact Or.inr h
  have hS : va_S A s.heap s.heap [] := va_S.rf
  have hl0 := lv_entry ([vR sA, vI n]) (n := 3) (Nat.le_of_ble_eq_true rfl)
  rw [lg_entry_eq]
  generalize (lg_sl ([vR sA, vI n]) ++ List.replicate (3 - (lg_sl ([vR sA, vI n])).length) Slot.unset).toArray = ls at hl0 ⊢
  have hlv : lv_has ls 3 [(0, vR sA), (1, vI n)] := hl0
  have lf53 := hts (.fieldLink RX6 53 "KerbSplash$Street" "shelters" "I") (List.mem_of_getElem? (i := 1) rfl)
  have hi6 : ∀ w ∈ wsX60, w ∈ vs_s_isSheltered := fun w h => List.mem_cons_of_mem _ (List.mem_append_right _ (List.mem_append_left _ h))
  have lf22 := hts (.fieldLink RX6 22 "KerbSplash$Street" "shelter" "[I") (List.mem_of_getElem? (i := 2) rfl)
  have gg_1 : GoodIn vs_s_isSheltered (vs_s_within) := goodIn_sub (fun w h => List.mem_cons_of_mem _ (List.mem_append_right _ (List.mem_append_right _ (List.mem_append_left _ h)))) gd_s_within
  have ini_RX11 := hts (.initialized RX11) (List.mem_of_getElem? (i := 3) rfl)
  have st_X11_isWithin := hts (.static yX11_isWithin) (List.mem_of_getElem? (i := 4) rfl)
  refine lv_iconst (v := iI 0) hx hb dX6_isSheltered_0 (by decide) ?_
  refine lv_istore_n (lv' := [(2, vI 0), (0, vR sA), (1, vI n)]) hx hb dX6_isSheltered_1 rfl hlv (by decide) rfl (fun ls hlv => ?_)
  refine (?_ : ∀ (fu : Nat) (x : Int) (H : Heap) (locs : List Loc) (ls : Array Slot), 2 - x < (fu : Int) → (0 ≤ x ∧ x ≤ 2) → va_P D vwCl [zO sA 6 [vI wi, vI ro, vR s2, vR s3, vI dr, vI dt, vR s6, vI pe, vR s8, vI gu, vI sh, vR s11, vI wo, vR s13, vI dn, vI mi, vI fl, vI tk, vI go], zI s11 (cy 0) 4 sf] H → va_D A [zO sA 6 [vI wi, vI ro, vR s2, vR s3, vI dr, vI dt, vR s6, vI pe, vR s8, vI gu, vI sh, vR s11, vI wo, vR s13, vI dn, vI mi, vI fl, vI tk, vI go], zI s11 (cy 0) 4 sf] → va_S A s.heap H locs → lv_has ls 3 [(2, vI x), (0, vR sA), (1, vI n)] → W p l e _ s m _ below meth c H locs _ _ _ (F0 m 2 ls [])) (((2 - 0) + 1 : Int)).toNat 0 _ _ _ (by omega) (by show (0 : Int) ≤ 0 ∧ (0 : Int) ≤ 2; decide)  hP hD hS hlv
  clear hP hD hS hlv
  intro fu
  induction fu with
  | zero => intro x H locs ls hm2 hl2_0  hP hD hS hlv; omega
  | succ fu ih2 =>
    intro x H locs ls hm2 hl2_0  hP hD hS hlv
    refine lv_iload_n hx hb dX6_isSheltered_2 rfl (lv_at hlv 0 rfl) ?_
    refine lv_aload_n hx hb dX6_isSheltered_3 rfl (lv_at hlv 1 rfl) ?_
    refine va_get (D := D) (ci := 6) (v := vI sh) (C := RX6) (T := TX6) (N := 19) hx hb hts hi6 hown hG.1 hP 0 rfl rfl 10 (by decide) lf53 (fun _ h9 => h9) rfl dX6_isSheltered_4 ?_
    refine ir_ge (tgt := 43) hx hb dX6_isSheltered_7 (by decide) (by first | exact rgw hl2_0 (by decide) (by decide) | omega) (by first | exact rgw hr_sh (by decide) (by decide) | omega) (fun c_1 => ?_) (fun c_1 => ?_)
    · refine lv_iconst (v := iI 0) hx hb dX6_isSheltered_43 (by decide) ?_
      refine W.widen (k := 0) (n := 0) (Nat.le_of_ble_eq_true rfl) (Nat.le_of_ble_eq_true rfl) ?_
      exact W.zret (v := iI 0) hx hb hr (by first | rfl | decide) (fun t ht hW => ⟨⟨iI 0, ((fun k => ([] : List Nat).getD k 0), (fun k => ([0] : List Int).getD k 0), (fun k => ([] : List (Nat → Int32)).getD k (fun _ => 0))), rfl, ⟨rfl, (by show (0 ≤ 0 ∧ 0 ≤ 1); show (0 : Int) ≤ 0 ∧ (0 : Int) ≤ 1; decide)⟩, at9 ht hP hD [0, 1] (by decide +kernel) rfl⟩, hS.F ht⟩) hS.2.2 dX6_isSheltered_44
    · refine lv_iload_n hx hb dX6_isSheltered_10 rfl (lv_at hlv 2 rfl) ?_
      refine lv_aload_n hx hb dX6_isSheltered_11 rfl (lv_at hlv 1 rfl) ?_
      refine va_get (D := D) (ci := 6) (v := vR s11) (C := RX6) (T := TX6) (N := 19) hx hb hts hi6 hown hG.1 hP 0 rfl rfl 11 (by decide) lf22 (fun _ h9 => h9) rfl dX6_isSheltered_12 ?_
      refine lv_iconst (v := iI 2) hx hb dX6_isSheltered_15 (by decide) ?_
      refine lv_iload_n hx hb dX6_isSheltered_16 rfl (lv_at hlv 0 rfl) ?_
      refine lv_imul hx hb dX6_isSheltered_17 ?_
      refine lt_e (e0 := 2 * x) (Int32.ofInt_mul _ _).symm (fun z_2 hz_2 => ?_)
      refine va_iald hx hb hG.1 hP 1 0 rfl rfl (iI_in (by omega) (by decide)) dX6_isSheltered_18 ?_
      refine lt_z (fun z_3 ez_3 lz_3 hz_3 => ?_)
      refine lv_aload_n hx hb dX6_isSheltered_19 rfl (lv_at hlv 1 rfl) ?_
      refine va_get (D := D) (ci := 6) (v := vR s11) (C := RX6) (T := TX6) (N := 19) hx hb hts hi6 hown hG.1 hP 0 rfl rfl 11 (by decide) lf22 (fun _ h9 => h9) rfl dX6_isSheltered_20 ?_
      refine lv_iconst (v := iI 2) hx hb dX6_isSheltered_23 (by decide) ?_
      refine lv_iload_n hx hb dX6_isSheltered_24 rfl (lv_at hlv 0 rfl) ?_
      refine lv_imul hx hb dX6_isSheltered_25 ?_
      refine lt_e (e0 := 2 * x) (Int32.ofInt_mul _ _).symm (fun z_4 hz_4 => ?_)
      refine lv_iconst (v := iI 1) hx hb dX6_isSheltered_26 (by decide) ?_
      refine lv_iadd hx hb dX6_isSheltered_27 ?_
      refine lt_e (e0 := z_4 + 1) (Int32.ofInt_add _ _).symm (fun z_5 hz_5 => ?_)
      refine va_iald hx hb hG.1 hP 1 0 rfl rfl (iI_in (by omega) (by decide)) dX6_isSheltered_28 ?_
      refine lt_z (fun z_6 ez_6 lz_6 hz_6 => ?_)
      refine cjr_i [true, true] (fun pre9 => (va_runSN (host := "KerbSplash") (As := [vI n, vI z_3, vI z_6]) (rest := []) ⟨hx, hb, hml, hown, hts⟩ (s_within l hl D cy sa n z_3 z_6 H.size (by first | exact hr_n | omega) (by omega) (by omega)) ⟨va_cnB 3 hts gg_1 rfl rfl rfl (nM_Street_139 hG.2.1) ini_RX11 (by decide +kernel) ⟨Nat.le_of_ble_eq_true rfl, Nat.le_of_ble_eq_true rfl⟩, st_X11_isWithin, trivial⟩ ⟨pcW.blind, pre9⟩ rfl rfl hlv.1 rfl (lv_room (Nat.le_of_ble_eq_true rfl)) dX6_isSheltered_29 ⟨Nat.le_of_ble_eq_true rfl, Nat.le_of_ble_eq_true rfl⟩)) hP hD hS hA hG hT [] rfl (by decide +kernel) (fun r1 u1 H locs hw1 hq9 hS => ?_)
      obtain ⟨rfl, hq1_1, hq1_2, hq1_3⟩ := hw1
      obtain ⟨hP, hD⟩ := pd9 [zO sA 6 [vI wi, vI ro, vR s2, vR s3, vI dr, vI dt, vR s6, vI pe, vR s8, vI gu, vI sh, vR s11, vI wo, vR s13, vI dn, vI mi, vI fl, vI tk, vI go], zI s11 (cy 0) 4 sf] hq9
      refine iz_eq (tgt := 37) hx hb dX6_isSheltered_32 (by decide) (by first | exact rgw hq1_1 (by decide) (by decide) | omega) (fun c_7 => ?_) (fun c_7 => ?_)
      · obtain ⟨z_8, hz_8⟩ : ∃ z : Int, z = x + 1 := ⟨_, rfl⟩
        refine lv_iinc (v := iI z_8) (lv' := [(2, vI z_8), (0, vR sA), (1, vI n)]) hx hb dX6_isSheltered_37 hlv (k := 0) rfl (by rw [hz_8]; exact (Int32.ofInt_add _ _).symm) (by decide) rfl (fun ls hlv => ?_)
        refine lv_goto (tgt := 2) hx hb dX6_isSheltered_40 (by decide) ?_
        exact ih2 z_8 H locs ls (by omega) (by omega)  (hP.sub [0, 1] rfl) (hD.sub [0, 1] (by decide) rfl) hS (lv_sub hlv [0, 1, 2] rfl)
      · refine lv_iconst (v := iI 1) hx hb dX6_isSheltered_35 (by decide) ?_
        refine W.widen (k := 0) (n := 0) (Nat.le_of_ble_eq_true rfl) (Nat.le_of_ble_eq_true rfl) ?_
        exact W.zret (v := iI 1) hx hb hr (by first | rfl | decide) (fun t ht hW => ⟨⟨iI 1, ((fun k => ([] : List Nat).getD k 0), (fun k => ([1] : List Int).getD k 0), (fun k => ([] : List (Nat → Int32)).getD k (fun _ => 0))), rfl, ⟨rfl, (by show (0 ≤ 1 ∧ 1 ≤ 1); show (0 : Int) ≤ 1 ∧ (1 : Int) ≤ 1; decide)⟩, at9 ht hP hD [0, 1] (by decide +kernel) rfl⟩, hS.F ht⟩) hS.2.2 dX6_isSheltered_36
def vs_s_canStep : List Cond := .code yX6_canStep cX6_canStep 3 (some .boolean) :: (([.fieldLink RX6 47 "KerbSplash$Street" "persons" "I", .fieldLink RX6 19 "KerbSplash$Street" "person" "[I", .fieldLink RX6 28 "KerbSplash$Street" "wide" "I", .initialized RX11, .static yX11_isWithin] : List Cond) ++ ((wsX60) ++ ((vs_s_within) ++ ([]))))
theorem gd_s_canStep : vs_s_canStep.all goodWord = true := gd_C (by decide +kernel) (gd_A (by decide +kernel) (gd_A (by decide +kernel) (gd_A gd_s_within rfl)))
set_option maxHeartbeats 4000000 in
set_option maxRecDepth 100000 in
theorem s_canStep (l : Launch) (hl : l.stackTraces = false) (D : va_G) (cy : Nat → ClassId) (sa : Nat → Nat) (sA s2 s3 s6 s8 s11 s13 : Nat) (wi ro dr dt pe gu sh wo dn mi fl tk go : Int) (xl xh : Int) (pf : Nat → Int32) (n : Int) (sz : Nat) (hr_wi : 0 ≤ wi ∧ wi ≤ 16) (hr_ro : 0 ≤ ro ∧ ro ≤ 6) (hr_dr : 0 ≤ dr ∧ dr ≤ 14) (hr_dt : 0 ≤ dt ∧ dt ≤ 6) (hr_pe : 0 ≤ pe ∧ pe ≤ 8) (hr_gu : 0 ≤ gu ∧ gu ≤ 20) (hr_sh : 0 ≤ sh ∧ sh ≤ 2) (hr_wo : 0 ≤ wo ∧ wo ≤ 8) (hr_dn : (-2147483648) ≤ dn ∧ dn ≤ 2147483647) (hr_mi : 0 ≤ mi ∧ mi ≤ 600) (hr_fl : (-2147483648) ≤ fl ∧ fl ≤ 2147483647) (hr_tk : (-2147483648) ≤ tk ∧ tk ≤ 2147483647) (hr_go : (-2147483648) ≤ go ∧ go ≤ 2147483647) (hr_xl : (-2147483648) ≤ xl ∧ xl ≤ 0) (hr_xh : 15 ≤ xh ∧ xh ≤ 2147483647) (hr_n : (-15) ≤ n ∧ n ≤ 15) (hpf : tab_ 4 28 [xl, 0, (-2147483648), (-2147483648)] [xh, 19, 2147483647, 2147483647] pf) : mI9 l yX6_canStep vs_s_canStep ({ frames := 1, cells := 0, slots := 0, locals := 22 }) D cy sa sz [vR sA, vI n] [zO sA 6 [vI wi, vI ro, vR s2, vR s3, vI dr, vI dt, vR s6, vI pe, vR s8, vI gu, vI sh, vR s11, vI wo, vR s13, vI dn, vI mi, vI fl, vI tk, vI go], zI s8 (cy 0) 112 pf] (fun (r : Int32) (u : SV) => r = iI (u.2.1 0) ∧ (0 ≤ u.2.1 0 ∧ u.2.1 0 ≤ 1) ∧ tab_ 4 28 [xl, 0, (-2147483648), (-2147483648)] [xh, 19, 2147483647, 2147483647] pf) (fun u : SV => [zO sA 6 [vI wi, vI ro, vR s2, vR s3, vI dr, vI dt, vR s6, vI pe, vR s8, vI gu, vI sh, vR s11, vI wo, vR s13, vI dn, vI mi, vI fl, vI tk, vI go], zI s8 (cy 0) 112 pf]) 0 0 := by
  refine Met.ofW (cc := cX6_canStep) (maxL := 3) (ret := (some .boolean)) (by decide) rfl ?_
  intro p e s m args below meth c s₁ B hml hv
  obtain ⟨rfl, hsz, hP, hG, hD0, hT⟩ := hv
  have hx := B.exec
  have hb := B.bytes
  have hr := B.returns
  have hts := atoms_spec (ws := vs_s_canStep) B.pre
  have hown : s.vm.findClass RX6 = some m.cls := findClass_of_methodNamed B.named
  have hlocks := B.notSynchronized
  subst hsz
  have hD := hD0.self (sz := s.heap.size)
  generalize hAe : va_A [zO sA 6 [vI wi, vI ro, vR s2, vR s3, vI dr, vI dt, vR s6, vI pe, vR s8, vI gu, vI sh, vR s11, vI wo, vR s13, vI dn, vI mi, vI fl, vI tk, vI go], zI s8 (cy 0) 112 pf] s.heap.size = A at hD hT ⊢
  have hA : ∀ q : Nat, s.heap.size ≤ q → A q := fun q h => by rw [← hAe]; exact Or.inr h
  have hS : va_S A s.heap s.heap [] := va_S.rf
  have hl0 := lv_entry ([vR sA, vI n]) (n := 3) (Nat.le_of_ble_eq_true rfl)
  rw [lg_entry_eq]
  generalize (lg_sl ([vR sA, vI n]) ++ List.replicate (3 - (lg_sl ([vR sA, vI n])).length) Slot.unset).toArray = ls at hl0 ⊢
  have hlv : lv_has ls 3 [(0, vR sA), (1, vI n)] := hl0
  have lf47 := hts (.fieldLink RX6 47 "KerbSplash$Street" "persons" "I") (List.mem_of_getElem? (i := 1) rfl)
  have hi6 : ∀ w ∈ wsX60, w ∈ vs_s_canStep := fun w h => List.mem_cons_of_mem _ (List.mem_append_right _ (List.mem_append_left _ h))
  have lf19 := hts (.fieldLink RX6 19 "KerbSplash$Street" "person" "[I") (List.mem_of_getElem? (i := 2) rfl)
  have lf28 := hts (.fieldLink RX6 28 "KerbSplash$Street" "wide" "I") (List.mem_of_getElem? (i := 3) rfl)
  have gg_1 : GoodIn vs_s_canStep (vs_s_within) := goodIn_sub (fun w h => List.mem_cons_of_mem _ (List.mem_append_right _ (List.mem_append_right _ (List.mem_append_left _ h)))) gd_s_within
  have ini_RX11 := hts (.initialized RX11) (List.mem_of_getElem? (i := 4) rfl)
  have st_X11_isWithin := hts (.static yX11_isWithin) (List.mem_of_getElem? (i := 5) rfl)
  refine lv_iconst (v := iI 0) hx hb dX6_canStep_0 (by decide) ?_
  refine lv_istore_n (lv' := [(2, vI 0), (0, vR sA), (1, vI n)]) hx hb dX6_canStep_1 rfl hlv (by decide) rfl (fun ls hlv => ?_)
  refine (?_ : ∀ (fu : Nat) (x : Int) (H : Heap) (locs : List Loc) (ls : Array Slot), 8 - x < (fu : Int) → (0 ≤ x ∧ x ≤ 8) → (x ≤ pe) → va_P D vwCl [zO sA 6 [vI wi, vI ro, vR s2, vR s3, vI dr, vI dt, vR s6, vI pe, vR s8, vI gu, vI sh, vR s11, vI wo, vR s13, vI dn, vI mi, vI fl, vI tk, vI go], zI s8 (cy 0) 112 pf] H → va_D A [zO sA 6 [vI wi, vI ro, vR s2, vR s3, vI dr, vI dt, vR s6, vI pe, vR s8, vI gu, vI sh, vR s11, vI wo, vR s13, vI dn, vI mi, vI fl, vI tk, vI go], zI s8 (cy 0) 112 pf] → va_S A s.heap H locs → lv_has ls 3 [(2, vI x), (0, vR sA), (1, vI n)] → W p l e _ s m _ below meth c H locs _ _ _ (F0 m 2 ls [])) (((8 - 0) + 1 : Int)).toNat 0 _ _ _ (by omega) (by show (0 : Int) ≤ 0 ∧ (0 : Int) ≤ 8; decide) (by omega)  hP hD hS hlv
  clear hP hD hS hlv
  intro fu
  induction fu with
  | zero => intro x H locs ls hm2 hl2_0 hl2_1  hP hD hS hlv; omega
  | succ fu ih2 =>
    intro x H locs ls hm2 hl2_0 hl2_1  hP hD hS hlv
    refine lv_iload_n hx hb dX6_canStep_2 rfl (lv_at hlv 0 rfl) ?_
    refine lv_aload_n hx hb dX6_canStep_3 rfl (lv_at hlv 1 rfl) ?_
    refine va_get (D := D) (ci := 6) (v := vI pe) (C := RX6) (T := TX6) (N := 19) hx hb hts hi6 hown hG.1 hP 0 rfl rfl 7 (by decide) lf47 (fun _ h9 => h9) rfl dX6_canStep_4 ?_
    refine ir_ge (tgt := 41) hx hb dX6_canStep_7 (by decide) (by first | exact rgw hl2_0 (by decide) (by decide) | omega) (by first | exact rgw hr_pe (by decide) (by decide) | omega) (fun c_1 => ?_) (fun c_1 => ?_)
    · refine lv_iconst (v := iI 1) hx hb dX6_canStep_41 (by decide) ?_
      refine W.widen (k := 0) (n := 0) (Nat.le_of_ble_eq_true rfl) (Nat.le_of_ble_eq_true rfl) ?_
      exact W.zret (v := iI 1) hx hb hr (by first | rfl | decide) (fun t ht hW => ⟨⟨iI 1, ((fun k => ([] : List Nat).getD k 0), (fun k => ([1] : List Int).getD k 0), (fun k => ([] : List (Nat → Int32)).getD k (fun _ => 0))), rfl, ⟨rfl, (by show (0 ≤ 1 ∧ 1 ≤ 1); show (0 : Int) ≤ 1 ∧ (1 : Int) ≤ 1; decide), hpf⟩, at9 ht hP hD [0, 1] (by decide +kernel) rfl⟩, hS.F ht⟩) hS.2.2 dX6_canStep_42
    · refine lv_aload_n hx hb dX6_canStep_10 rfl (lv_at hlv 1 rfl) ?_
      refine va_get (D := D) (ci := 6) (v := vR s8) (C := RX6) (T := TX6) (N := 19) hx hb hts hi6 hown hG.1 hP 0 rfl rfl 8 (by decide) lf19 (fun _ h9 => h9) rfl dX6_canStep_11 ?_
      refine lv_iconst (v := iI 4) hx hb dX6_canStep_14 (by decide) ?_
      refine lv_iload_n hx hb dX6_canStep_15 rfl (lv_at hlv 0 rfl) ?_
      refine lv_imul hx hb dX6_canStep_16 ?_
      refine lt_e (e0 := 4 * x) (Int32.ofInt_mul _ _).symm (fun z_2 hz_2 => ?_)
      refine va_iald hx hb hG.1 hP 1 0 rfl rfl (iI_in (by omega) (by decide)) dX6_canStep_17 ?_
      obtain ⟨z_3, ez_3, hz_3, lz_3⟩ := tab_rd hpf (e := z_2) (k := x) (c := 0) (a := xl) (b := xh) (by omega) (by omega) (by decide) (by omega) rfl rfl
      refine lt_i (y := iI z_3) ez_3 ?_
      refine lv_iload_n hx hb dX6_canStep_18 rfl (lv_at hlv 2 rfl) ?_
      refine lv_iadd hx hb dX6_canStep_19 ?_
      refine lt_z (fun z_4 ez_4 lz_4 hz_4 => ?_)
      refine lv_iconst (v := iI 0) hx hb dX6_canStep_20 (by decide) ?_
      refine lv_aload_n hx hb dX6_canStep_21 rfl (lv_at hlv 1 rfl) ?_
      refine va_get (D := D) (ci := 6) (v := vI wi) (C := RX6) (T := TX6) (N := 19) hx hb hts hi6 hown hG.1 hP 0 rfl rfl 0 (by decide) lf28 (fun _ h9 => h9) rfl dX6_canStep_22 ?_
      refine lv_iconst (v := iI 1) hx hb dX6_canStep_25 (by decide) ?_
      refine lv_isub hx hb dX6_canStep_26 ?_
      refine lt_e (e0 := wi - 1) (Int32.ofInt_sub _ _).symm (fun z_5 hz_5 => ?_)
      refine cjr_i [true, true] (fun pre9 => (va_runSN (host := "KerbSplash") (As := [vI z_4, vI 0, vI z_5]) (rest := []) ⟨hx, hb, hml, hown, hts⟩ (s_within l hl D cy sa z_4 0 z_5 H.size (by omega) (by show ((-2147483648) : Int) ≤ 0 ∧ (0 : Int) ≤ 2147483647; decide) (by omega)) ⟨va_cnB 3 hts gg_1 rfl rfl rfl (nM_Street_139 hG.2.1) ini_RX11 (by decide +kernel) ⟨Nat.le_of_ble_eq_true rfl, Nat.le_of_ble_eq_true rfl⟩, st_X11_isWithin, trivial⟩ ⟨pcW.blind, pre9⟩ rfl rfl hlv.1 rfl (lv_room (Nat.le_of_ble_eq_true rfl)) dX6_canStep_27 ⟨Nat.le_of_ble_eq_true rfl, Nat.le_of_ble_eq_true rfl⟩)) hP hD hS hA hG hT [] rfl (by decide +kernel) (fun r1 u1 H locs hw1 hq9 hS => ?_)
      obtain ⟨rfl, hq1_1, hq1_2, hq1_3⟩ := hw1
      obtain ⟨hP, hD⟩ := pd9 [zO sA 6 [vI wi, vI ro, vR s2, vR s3, vI dr, vI dt, vR s6, vI pe, vR s8, vI gu, vI sh, vR s11, vI wo, vR s13, vI dn, vI mi, vI fl, vI tk, vI go], zI s8 (cy 0) 112 pf] hq9
      refine iz_ne (tgt := 35) hx hb dX6_canStep_30 (by decide) (by first | exact rgw hq1_1 (by decide) (by decide) | omega) (fun c_6 => ?_) (fun c_6 => ?_)
      · obtain ⟨z_7, hz_7⟩ : ∃ z : Int, z = x + 1 := ⟨_, rfl⟩
        refine lv_iinc (v := iI z_7) (lv' := [(2, vI z_7), (0, vR sA), (1, vI n)]) hx hb dX6_canStep_35 hlv (k := 0) rfl (by rw [hz_7]; exact (Int32.ofInt_add _ _).symm) (by decide) rfl (fun ls hlv => ?_)
        refine lv_goto (tgt := 2) hx hb dX6_canStep_38 (by decide) ?_
        exact ih2 z_7 H locs ls (by omega) (by omega) (by omega)  (hP.sub [0, 1] rfl) (hD.sub [0, 1] (by decide) rfl) hS (lv_sub hlv [0, 1, 2] rfl)
      · refine lv_iconst (v := iI 0) hx hb dX6_canStep_33 (by decide) ?_
        refine W.widen (k := 0) (n := 0) (Nat.le_of_ble_eq_true rfl) (Nat.le_of_ble_eq_true rfl) ?_
        exact W.zret (v := iI 0) hx hb hr (by first | rfl | decide) (fun t ht hW => ⟨⟨iI 0, ((fun k => ([] : List Nat).getD k 0), (fun k => ([0] : List Int).getD k 0), (fun k => ([] : List (Nat → Int32)).getD k (fun _ => 0))), rfl, ⟨rfl, (by show (0 ≤ 0 ∧ 0 ≤ 1); show (0 : Int) ≤ 0 ∧ (0 : Int) ≤ 1; decide), hpf⟩, at9 ht hP hD [0, 1] (by decide +kernel) rfl⟩, hS.F ht⟩) hS.2.2 dX6_canStep_34
def vs_s_putPerson : List Cond := .code yX6_putPerson cX6_putPerson 5 none :: (([.fieldLink RX6 19 "KerbSplash$Street" "person" "[I"] : List Cond) ++ ((wsX60) ++ ([])))
theorem gd_s_putPerson : vs_s_putPerson.all goodWord = true := gd_C (by decide +kernel) (gd_A (by decide +kernel) (gd_A (by decide +kernel) rfl))
set_option maxHeartbeats 4000000 in
set_option maxRecDepth 100000 in
theorem s_putPerson (l : Launch) (hl : l.stackTraces = false) (D : va_G) (cy : Nat → ClassId) (sa : Nat → Nat) (sA s2 s3 s6 s8 s11 s13 : Nat) (wi ro dr dt pe gu sh wo dn mi fl tk go : Int) (xl xh : Int) (pf : Nat → Int32) (k x f : Int) (sz : Nat) (hr_wi : 0 ≤ wi ∧ wi ≤ 16) (hr_ro : 0 ≤ ro ∧ ro ≤ 6) (hr_dr : 0 ≤ dr ∧ dr ≤ 14) (hr_dt : 0 ≤ dt ∧ dt ≤ 6) (hr_pe : 0 ≤ pe ∧ pe ≤ 8) (hr_gu : 0 ≤ gu ∧ gu ≤ 20) (hr_sh : 0 ≤ sh ∧ sh ≤ 2) (hr_wo : 0 ≤ wo ∧ wo ≤ 8) (hr_dn : (-2147483648) ≤ dn ∧ dn ≤ 2147483647) (hr_mi : 0 ≤ mi ∧ mi ≤ 600) (hr_fl : (-2147483648) ≤ fl ∧ fl ≤ 2147483647) (hr_tk : (-2147483648) ≤ tk ∧ tk ≤ 2147483647) (hr_go : (-2147483648) ≤ go ∧ go ≤ 2147483647) (hr_xl : (-2147483648) ≤ xl ∧ xl ≤ 0) (hr_xh : 15 ≤ xh ∧ xh ≤ 2147483647) (hr_k : 0 ≤ k ∧ k ≤ 28) (hr_x : 0 ≤ x ∧ x ≤ 15) (hr_f : 0 ≤ f ∧ f ≤ 19) (hpf : tab_ 4 28 [xl, 0, (-2147483648), (-2147483648)] [xh, 19, 2147483647, 2147483647] pf) : mV9 l yX6_putPerson vs_s_putPerson ({ frames := 0, cells := 0, slots := 0, locals := 0 }) D cy sa sz [vR sA, vI k, vI x, vI f] [zO sA 6 [vI wi, vI ro, vR s2, vR s3, vI dr, vI dt, vR s6, vI pe, vR s8, vI gu, vI sh, vR s11, vI wo, vR s13, vI dn, vI mi, vI fl, vI tk, vI go], zI s8 (cy 0) 112 pf] (fun u : SV => tab_ 4 28 [xl, 0, (-2147483648), (-2147483648)] [xh, 19, 2147483647, 2147483647] (u.2.2 0)) (fun u : SV => [zO sA 6 [vI wi, vI ro, vR s2, vR s3, vI dr, vI dt, vR s6, vI pe, vR s8, vI gu, vI sh, vR s11, vI wo, vR s13, vI dn, vI mi, vI fl, vI tk, vI go], zI s8 (cy 0) 112 (u.2.2 0)]) 0 0 := by
  refine Met.ofW (cc := cX6_putPerson) (maxL := 5) (ret := none) (by decide) rfl ?_
  intro p e s m args below meth c s₁ B hml hv
  obtain ⟨rfl, hsz, hP, hG, hD0, hT⟩ := hv
  have hx := B.exec
  have hb := B.bytes
  have hr := B.returns
  have hts := atoms_spec (ws := vs_s_putPerson) B.pre
  have hown : s.vm.findClass RX6 = some m.cls := findClass_of_methodNamed B.named
  have hlocks := B.notSynchronized
  subst hsz
  have hD := hD0.self (sz := s.heap.size)
  generalize hAe : va_A [zO sA 6 [vI wi, vI ro, vR s2, vR s3, vI dr, vI dt, vR s6, vI pe, vR s8, vI gu, vI sh, vR s11, vI wo, vR s13, vI dn, vI mi, vI fl, vI tk, vI go], zI s8 (cy 0) 112 pf] s.heap.size = A at hD hT ⊢
  have hA : ∀ q : Nat, s.heap.size ≤ q → A q := fun q h => by rw [← hAe]; exact Or.inr h
  have hS : va_S A s.heap s.heap [] := va_S.rf
  have hl0 := lv_entry ([vR sA, vI k, vI x, vI f]) (n := 5) (Nat.le_of_ble_eq_true rfl)
  rw [lg_entry_eq]
  generalize (lg_sl ([vR sA, vI k, vI x, vI f]) ++ List.replicate (5 - (lg_sl ([vR sA, vI k, vI x, vI f])).length) Slot.unset).toArray = ls at hl0 ⊢
  have hlv : lv_has ls 5 [(0, vR sA), (1, vI k), (2, vI x), (3, vI f)] := hl0
  have lf19 := hts (.fieldLink RX6 19 "KerbSplash$Street" "person" "[I") (List.mem_of_getElem? (i := 1) rfl)
  have hi6 : ∀ w ∈ wsX60, w ∈ vs_s_putPerson := fun w h => List.mem_cons_of_mem _ (List.mem_append_right _ (List.mem_append_left _ h))
  refine lv_iconst (v := iI 4) hx hb dX6_putPerson_0 (by decide) ?_
  refine lv_iload_n hx hb dX6_putPerson_1 rfl (lv_at hlv 1 rfl) ?_
  refine lv_imul hx hb dX6_putPerson_2 ?_
  refine lt_e (e0 := 4 * k) (Int32.ofInt_mul _ _).symm (fun z_1 hz_1 => ?_)
  refine lv_istore (lv' := [(4, vI z_1), (0, vR sA), (1, vI k), (2, vI x), (3, vI f)]) hx hb dX6_putPerson_3 hlv (by decide) rfl (fun ls hlv => ?_)
  refine lv_iload hx hb dX6_putPerson_5 (lv_at hlv 0 rfl) ?_
  refine lv_iconst (v := iI 4) hx hb dX6_putPerson_7 (by decide) ?_
  refine lv_iadd hx hb dX6_putPerson_8 ?_
  refine lt_e (e0 := z_1 + 4) (Int32.ofInt_add _ _).symm (fun z_2 hz_2 => ?_)
  refine lv_aload_n hx hb dX6_putPerson_9 rfl (lv_at hlv 1 rfl) ?_
  refine va_get (D := D) (ci := 6) (v := vR s8) (C := RX6) (T := TX6) (N := 19) hx hb hts hi6 hown hG.1 hP 0 rfl rfl 8 (by decide) lf19 (fun _ h9 => h9) rfl dX6_putPerson_10 ?_
  refine va_alen (v := iI 112) hx hb hG.1 hP 1 0 rfl rfl (iI_nI _) dX6_putPerson_13 ?_
  refine ir_le (tgt := 18) hx hb dX6_putPerson_14 (by decide) (by omega) (by show ((-2147483648) : Int) ≤ 112 ∧ (112 : Int) ≤ 2147483647; decide) (fun c_3 => ?_) (fun c_3 => ?_)
  · refine lv_aload_n hx hb dX6_putPerson_18 rfl (lv_at hlv 1 rfl) ?_
    refine va_get (D := D) (ci := 6) (v := vR s8) (C := RX6) (T := TX6) (N := 19) hx hb hts hi6 hown hG.1 hP 0 rfl rfl 8 (by decide) lf19 (fun _ h9 => h9) rfl dX6_putPerson_19 ?_
    refine lv_iload hx hb dX6_putPerson_22 (lv_at hlv 0 rfl) ?_
    refine lv_iload_n hx hb dX6_putPerson_24 rfl (lv_at hlv 3 rfl) ?_
    refine va_iast hx hb hG.1 hP hD hS 1 0 rfl rfl (iI_in (by omega) (by decide)) dX6_putPerson_25 (fun H locs hP hD hS => ?_)
    obtain ⟨f_4, hf_4, hP, hD⟩ := pe9i (fun f_4 => tab_ 4 28 [xl, 0, (-2147483648), (-2147483648)] [xh, 19, 2147483647, 2147483647] f_4) (fun f_4 => [zO sA 6 [vI wi, vI ro, vR s2, vR s3, vI dr, vI dt, vR s6, vI pe, vR s8, vI gu, vI sh, vR s11, vI wo, vR s13, vI dn, vI mi, vI fl, vI tk, vI go], zI s8 (cy 0) 112 f_4]) (tab_wr hpf (e := z_1) (k := k) (c := 0) (a := xl) (b := xh) (by omega) (by omega) (by decide) (by omega) rfl rfl (by omega)) hP hD
    refine lv_aload_n hx hb dX6_putPerson_26 rfl (lv_at hlv 1 rfl) ?_
    refine va_get (D := D) (ci := 6) (v := vR s8) (C := RX6) (T := TX6) (N := 19) hx hb hts hi6 hown hG.1 hP 0 rfl rfl 8 (by decide) lf19 (fun _ h9 => h9) rfl dX6_putPerson_27 ?_
    refine lv_iload hx hb dX6_putPerson_30 (lv_at hlv 0 rfl) ?_
    refine lv_iconst (v := iI 1) hx hb dX6_putPerson_32 (by decide) ?_
    refine lv_iadd hx hb dX6_putPerson_33 ?_
    refine lt_e (e0 := z_1 + 1) (Int32.ofInt_add _ _).symm (fun z_5 hz_5 => ?_)
    refine lv_iload_n hx hb dX6_putPerson_34 rfl (lv_at hlv 4 rfl) ?_
    refine va_iast hx hb hG.1 hP hD hS 1 0 rfl rfl (iI_in (by omega) (by decide)) dX6_putPerson_35 (fun H locs hP hD hS => ?_)
    obtain ⟨f_6, hf_6, hP, hD⟩ := pe9i (fun f_6 => tab_ 4 28 [xl, 0, (-2147483648), (-2147483648)] [xh, 19, 2147483647, 2147483647] f_6) (fun f_6 => [zO sA 6 [vI wi, vI ro, vR s2, vR s3, vI dr, vI dt, vR s6, vI pe, vR s8, vI gu, vI sh, vR s11, vI wo, vR s13, vI dn, vI mi, vI fl, vI tk, vI go], zI s8 (cy 0) 112 f_6]) (tab_wr hf_4 (e := z_5) (k := k) (c := 1) (a := 0) (b := 19) (by omega) (by omega) (by decide) (by omega) rfl rfl (by omega)) hP hD
    refine lv_aload_n hx hb dX6_putPerson_36 rfl (lv_at hlv 1 rfl) ?_
    refine va_get (D := D) (ci := 6) (v := vR s8) (C := RX6) (T := TX6) (N := 19) hx hb hts hi6 hown hG.1 hP 0 rfl rfl 8 (by decide) lf19 (fun _ h9 => h9) rfl dX6_putPerson_37 ?_
    refine lv_iload hx hb dX6_putPerson_40 (lv_at hlv 0 rfl) ?_
    refine lv_iconst (v := iI 2) hx hb dX6_putPerson_42 (by decide) ?_
    refine lv_iadd hx hb dX6_putPerson_43 ?_
    refine lt_e (e0 := z_1 + 2) (Int32.ofInt_add _ _).symm (fun z_7 hz_7 => ?_)
    refine lv_iconst (v := iI 0) hx hb dX6_putPerson_44 (by decide) ?_
    refine va_iast hx hb hG.1 hP hD hS 1 0 rfl rfl (iI_in (by omega) (by decide)) dX6_putPerson_45 (fun H locs hP hD hS => ?_)
    obtain ⟨f_8, hf_8, hP, hD⟩ := pe9i (fun f_8 => tab_ 4 28 [xl, 0, (-2147483648), (-2147483648)] [xh, 19, 2147483647, 2147483647] f_8) (fun f_8 => [zO sA 6 [vI wi, vI ro, vR s2, vR s3, vI dr, vI dt, vR s6, vI pe, vR s8, vI gu, vI sh, vR s11, vI wo, vR s13, vI dn, vI mi, vI fl, vI tk, vI go], zI s8 (cy 0) 112 f_8]) (tab_wr hf_6 (e := z_7) (k := k) (c := 2) (a := (-2147483648)) (b := 2147483647) (by omega) (by omega) (by decide) (by omega) rfl rfl (by omega)) hP hD
    refine lv_aload_n hx hb dX6_putPerson_46 rfl (lv_at hlv 1 rfl) ?_
    refine va_get (D := D) (ci := 6) (v := vR s8) (C := RX6) (T := TX6) (N := 19) hx hb hts hi6 hown hG.1 hP 0 rfl rfl 8 (by decide) lf19 (fun _ h9 => h9) rfl dX6_putPerson_47 ?_
    refine lv_iload hx hb dX6_putPerson_50 (lv_at hlv 0 rfl) ?_
    refine lv_iconst (v := iI 3) hx hb dX6_putPerson_52 (by decide) ?_
    refine lv_iadd hx hb dX6_putPerson_53 ?_
    refine lt_e (e0 := z_1 + 3) (Int32.ofInt_add _ _).symm (fun z_9 hz_9 => ?_)
    refine lv_iconst (v := iI 0) hx hb dX6_putPerson_54 (by decide) ?_
    refine va_iast hx hb hG.1 hP hD hS 1 0 rfl rfl (iI_in (by omega) (by decide)) dX6_putPerson_55 (fun H locs hP hD hS => ?_)
    obtain ⟨f_10, hf_10, hP, hD⟩ := pe9i (fun f_10 => tab_ 4 28 [xl, 0, (-2147483648), (-2147483648)] [xh, 19, 2147483647, 2147483647] f_10) (fun f_10 => [zO sA 6 [vI wi, vI ro, vR s2, vR s3, vI dr, vI dt, vR s6, vI pe, vR s8, vI gu, vI sh, vR s11, vI wo, vR s13, vI dn, vI mi, vI fl, vI tk, vI go], zI s8 (cy 0) 112 f_10]) (tab_wr hf_8 (e := z_9) (k := k) (c := 3) (a := (-2147483648)) (b := 2147483647) (by omega) (by omega) (by decide) (by omega) rfl rfl (by omega)) hP hD
    refine W.widen (k := 0) (n := 0) (Nat.le_of_ble_eq_true rfl) (Nat.le_of_ble_eq_true rfl) ?_
    exact W.vret hx hb hr (fun t ht hW => ⟨⟨((fun k => ([] : List Nat).getD k 0), (fun k => ([] : List Int).getD k 0), (fun k => ([f_10] : List (Nat → Int32)).getD k (fun _ => 0))), rfl, hf_10, at9 ht hP hD [0, 1] (by decide +kernel) rfl⟩, hS.F ht⟩) hS.2.2 dX6_putPerson_56
  · refine W.widen (k := 0) (n := 0) (Nat.le_of_ble_eq_true rfl) (Nat.le_of_ble_eq_true rfl) ?_
    exact W.vret hx hb hr (fun t ht hW => ⟨⟨((fun k => ([] : List Nat).getD k 0), (fun k => ([] : List Int).getD k 0), (fun k => ([pf] : List (Nat → Int32)).getD k (fun _ => 0))), rfl, hpf, at9 ht hP hD [0, 1] (by decide +kernel) rfl⟩, hS.F ht⟩) hS.2.2 dX6_putPerson_17
def vs_s_coinOf : List Cond := .code yX6_coinOf cX6_coinOf 4 (some .int) :: (([.fieldLink RX6 56 "KerbSplash$Street" "works" "I", .fieldLink RX6 25 "KerbSplash$Street" "work" "[I"] : List Cond) ++ ((wsX60) ++ ([])))
theorem gd_s_coinOf : vs_s_coinOf.all goodWord = true := gd_C (by decide +kernel) (gd_A (by decide +kernel) (gd_A (by decide +kernel) rfl))
set_option maxHeartbeats 4000000 in
set_option maxRecDepth 100000 in
theorem s_coinOf (l : Launch) (hl : l.stackTraces = false) (D : va_G) (cy : Nat → ClassId) (sa : Nat → Nat) (sA s2 s3 s6 s8 s11 s13 : Nat) (wi ro dr dt pe gu sh wo dn mi fl tk go : Int) (kf : Nat → Int32) (n : Int) (sz : Nat) (hr_wi : 0 ≤ wi ∧ wi ≤ 16) (hr_ro : 0 ≤ ro ∧ ro ≤ 6) (hr_dr : 0 ≤ dr ∧ dr ≤ 14) (hr_dt : 0 ≤ dt ∧ dt ≤ 6) (hr_pe : 0 ≤ pe ∧ pe ≤ 8) (hr_gu : 0 ≤ gu ∧ gu ≤ 20) (hr_sh : 0 ≤ sh ∧ sh ≤ 2) (hr_wo : 0 ≤ wo ∧ wo ≤ 8) (hr_dn : (-2147483648) ≤ dn ∧ dn ≤ 2147483647) (hr_mi : 0 ≤ mi ∧ mi ≤ 600) (hr_fl : (-2147483648) ≤ fl ∧ fl ≤ 2147483647) (hr_tk : (-2147483648) ≤ tk ∧ tk ≤ 2147483647) (hr_go : (-2147483648) ≤ go ∧ go ≤ 2147483647) (hr_n : (-2147483648) ≤ n ∧ n ≤ 2147483647) (hkf : tw_ kf) : mI9 l yX6_coinOf vs_s_coinOf ({ frames := 0, cells := 0, slots := 0, locals := 0 }) D cy sa sz [vR sA, vI n] [zO sA 6 [vI wi, vI ro, vR s2, vR s3, vI dr, vI dt, vR s6, vI pe, vR s8, vI gu, vI sh, vR s11, vI wo, vR s13, vI dn, vI mi, vI fl, vI tk, vI go], zI s13 (cy 0) 40 kf] (fun (r : Int32) (u : SV) => r = iI (u.2.1 0) ∧ (0 ≤ u.2.1 0 ∧ u.2.1 0 ≤ 792) ∧ tw_ kf) (fun u : SV => [zO sA 6 [vI wi, vI ro, vR s2, vR s3, vI dr, vI dt, vR s6, vI pe, vR s8, vI gu, vI sh, vR s11, vI wo, vR s13, vI dn, vI mi, vI fl, vI tk, vI go], zI s13 (cy 0) 40 kf]) 0 0 := by
  refine Met.ofW (cc := cX6_coinOf) (maxL := 4) (ret := (some .int)) (by decide) rfl ?_
  intro p e s m args below meth c s₁ B hml hv
  obtain ⟨rfl, hsz, hP, hG, hD0, hT⟩ := hv
  have hx := B.exec
  have hb := B.bytes
  have hr := B.returns
  have hts := atoms_spec (ws := vs_s_coinOf) B.pre
  have hown : s.vm.findClass RX6 = some m.cls := findClass_of_methodNamed B.named
  have hlocks := B.notSynchronized
  subst hsz
  have hD := hD0.self (sz := s.heap.size)
  generalize hAe : va_A [zO sA 6 [vI wi, vI ro, vR s2, vR s3, vI dr, vI dt, vR s6, vI pe, vR s8, vI gu, vI sh, vR s11, vI wo, vR s13, vI dn, vI mi, vI fl, vI tk, vI go], zI s13 (cy 0) 40 kf] s.heap.size = A at hD hT ⊢
  have hA : ∀ q : Nat, s.heap.size ≤ q → A q := fun q h => by rw [← hAe]; exact Or.inr h
  have hS : va_S A s.heap s.heap [] := va_S.rf
  have hl0 := lv_entry ([vR sA, vI n]) (n := 4) (Nat.le_of_ble_eq_true rfl)
  rw [lg_entry_eq]
  generalize (lg_sl ([vR sA, vI n]) ++ List.replicate (4 - (lg_sl ([vR sA, vI n])).length) Slot.unset).toArray = ls at hl0 ⊢
  have hlv : lv_has ls 4 [(0, vR sA), (1, vI n)] := hl0
  have lf56 := hts (.fieldLink RX6 56 "KerbSplash$Street" "works" "I") (List.mem_of_getElem? (i := 1) rfl)
  have hi6 : ∀ w ∈ wsX60, w ∈ vs_s_coinOf := fun w h => List.mem_cons_of_mem _ (List.mem_append_right _ (List.mem_append_left _ h))
  have lf25 := hts (.fieldLink RX6 25 "KerbSplash$Street" "work" "[I") (List.mem_of_getElem? (i := 2) rfl)
  refine lv_iconst (v := iI 0) hx hb dX6_coinOf_0 (by decide) ?_
  refine lv_istore_n (lv' := [(2, vI 0), (0, vR sA), (1, vI n)]) hx hb dX6_coinOf_1 rfl hlv (by decide) rfl (fun ls hlv => ?_)
  refine lv_iconst (v := iI 0) hx hb dX6_coinOf_2 (by decide) ?_
  refine lv_istore_n (lv' := [(3, vI 0), (2, vI 0), (0, vR sA), (1, vI n)]) hx hb dX6_coinOf_3 rfl hlv (by decide) rfl (fun ls hlv => ?_)
  refine (?_ : ∀ (fu : Nat) (x : Int) (v : Int) (H : Heap) (locs : List Loc) (ls : Array Slot), 8 - x < (fu : Int) → (0 ≤ x ∧ x ≤ 8) → (0 ≤ v ∧ v ≤ 792) → (x ≤ wo) → (v ≤ 99 * x) → va_P D vwCl [zO sA 6 [vI wi, vI ro, vR s2, vR s3, vI dr, vI dt, vR s6, vI pe, vR s8, vI gu, vI sh, vR s11, vI wo, vR s13, vI dn, vI mi, vI fl, vI tk, vI go], zI s13 (cy 0) 40 kf] H → va_D A [zO sA 6 [vI wi, vI ro, vR s2, vR s3, vI dr, vI dt, vR s6, vI pe, vR s8, vI gu, vI sh, vR s11, vI wo, vR s13, vI dn, vI mi, vI fl, vI tk, vI go], zI s13 (cy 0) 40 kf] → va_S A s.heap H locs → lv_has ls 4 [(3, vI x), (2, vI v), (0, vR sA), (1, vI n)] → W p l e _ s m _ below meth c H locs _ _ _ (F0 m 4 ls [])) (((8 - 0) + 1 : Int)).toNat 0 0 _ _ _ (by omega) (by show (0 : Int) ≤ 0 ∧ (0 : Int) ≤ 8; decide) (by show (0 : Int) ≤ 0 ∧ (0 : Int) ≤ 792; decide) (by omega) (by omega)  hP hD hS hlv
  clear hP hD hS hlv
  intro fu
  induction fu with
  | zero => intro x v H locs ls hm4 hl4_0 hl4_1 hl4_2 hl4_3  hP hD hS hlv; omega
  | succ fu ih4 =>
    intro x v H locs ls hm4 hl4_0 hl4_1 hl4_2 hl4_3  hP hD hS hlv
    refine lv_iload_n hx hb dX6_coinOf_4 rfl (lv_at hlv 0 rfl) ?_
    refine lv_aload_n hx hb dX6_coinOf_5 rfl (lv_at hlv 2 rfl) ?_
    refine va_get (D := D) (ci := 6) (v := vI wo) (C := RX6) (T := TX6) (N := 19) hx hb hts hi6 hown hG.1 hP 0 rfl rfl 12 (by decide) lf56 (fun _ h9 => h9) rfl dX6_coinOf_6 ?_
    refine ir_ge (tgt := 39) hx hb dX6_coinOf_9 (by decide) (by first | exact rgw hl4_0 (by decide) (by decide) | omega) (by first | exact rgw hr_wo (by decide) (by decide) | omega) (fun c_1 => ?_) (fun c_1 => ?_)
    · refine lv_iload_n hx hb dX6_coinOf_39 rfl (lv_at hlv 1 rfl) ?_
      refine W.widen (k := 0) (n := 0) (Nat.le_of_ble_eq_true rfl) (Nat.le_of_ble_eq_true rfl) ?_
      exact W.iret (v := iI v) hx hb hr (fun t ht hW => ⟨⟨iI v, ((fun k => ([] : List Nat).getD k 0), (fun k => ([v] : List Int).getD k 0), (fun k => ([] : List (Nat → Int32)).getD k (fun _ => 0))), rfl, ⟨rfl, (by show (0 ≤ v ∧ v ≤ 792); first | exact hl4_1 | omega), hkf⟩, at9 ht hP hD [0, 1] (by decide +kernel) rfl⟩, hS.F ht⟩) hS.2.2 dX6_coinOf_40
    · refine lv_iload_n hx hb dX6_coinOf_12 rfl (lv_at hlv 3 rfl) ?_
      refine lv_iload_n hx hb dX6_coinOf_13 rfl (lv_at hlv 0 rfl) ?_
      refine lv_ishr hx hb dX6_coinOf_14 ?_
      refine lt_z (fun z_2 ez_2 lz_2 hz_2 => ?_)
      refine lv_iconst (v := iI 1) hx hb dX6_coinOf_15 (by decide) ?_
      refine lv_iand hx hb dX6_coinOf_16 ?_
      refine lt_aE 1 (by decide) (by decide) (hi := 1) (by decide) (fun z_3 ez_3 lz_3 hz_3 => ?_)
      refine iz_eq (tgt := 33) hx hb dX6_coinOf_17 (by decide) (by omega) (fun c_4 => ?_) (fun c_4 => ?_)
      · obtain ⟨z_5, hz_5⟩ : ∃ z : Int, z = x + 1 := ⟨_, rfl⟩
        refine lv_iinc (v := iI z_5) (lv' := [(3, vI z_5), (2, vI v), (0, vR sA), (1, vI n)]) hx hb dX6_coinOf_33 hlv (k := 0) rfl (by rw [hz_5]; exact (Int32.ofInt_add _ _).symm) (by decide) rfl (fun ls hlv => ?_)
        refine lv_goto (tgt := 4) hx hb dX6_coinOf_36 (by decide) ?_
        exact ih4 z_5 v H locs ls (by omega) (by omega) (by first | exact hl4_1 | omega) (by omega) (by omega)  (hP.sub [0, 1] rfl) (hD.sub [0, 1] (by decide) rfl) hS (lv_sub hlv [0, 1, 2, 3] rfl)
      · refine lv_iload_n hx hb dX6_coinOf_20 rfl (lv_at hlv 1 rfl) ?_
        refine lv_aload_n hx hb dX6_coinOf_21 rfl (lv_at hlv 2 rfl) ?_
        refine va_get (D := D) (ci := 6) (v := vR s13) (C := RX6) (T := TX6) (N := 19) hx hb hts hi6 hown hG.1 hP 0 rfl rfl 13 (by decide) lf25 (fun _ h9 => h9) rfl dX6_coinOf_22 ?_
        refine lv_iconst (v := iI 5) hx hb dX6_coinOf_25 (by decide) ?_
        refine lv_iload_n hx hb dX6_coinOf_26 rfl (lv_at hlv 0 rfl) ?_
        refine lv_imul hx hb dX6_coinOf_27 ?_
        refine lt_e (e0 := 5 * x) (Int32.ofInt_mul _ _).symm (fun z_6 hz_6 => ?_)
        refine lv_iconst (v := iI 1) hx hb dX6_coinOf_28 (by decide) ?_
        refine lv_iadd hx hb dX6_coinOf_29 ?_
        refine lt_e (e0 := z_6 + 1) (Int32.ofInt_add _ _).symm (fun z_7 hz_7 => ?_)
        refine va_iald hx hb hG.1 hP 1 0 rfl rfl (iI_in (by omega) (by decide)) dX6_coinOf_30 ?_
        obtain ⟨z_8, ez_8, hz_8, lz_8⟩ := tab_rd hkf.1 (e := z_7) (k := x) (c := 1) (a := 0) (b := 99) (by omega) (by omega) (by decide) (by omega) rfl rfl
        refine lt_i (y := iI z_8) ez_8 ?_
        refine lv_iadd hx hb dX6_coinOf_31 ?_
        refine lt_e (e0 := v + z_8) (Int32.ofInt_add _ _).symm (fun z_9 hz_9 => ?_)
        refine lv_istore_n (lv' := [(2, vI z_9), (3, vI x), (0, vR sA), (1, vI n)]) hx hb dX6_coinOf_32 rfl hlv (by decide) rfl (fun ls hlv => ?_)
        obtain ⟨z_10, hz_10⟩ : ∃ z : Int, z = x + 1 := ⟨_, rfl⟩
        refine lv_iinc (v := iI z_10) (lv' := [(3, vI z_10), (2, vI z_9), (0, vR sA), (1, vI n)]) hx hb dX6_coinOf_33 hlv (k := 1) rfl (by rw [hz_10]; exact (Int32.ofInt_add _ _).symm) (by decide) rfl (fun ls hlv => ?_)
        refine lv_goto (tgt := 4) hx hb dX6_coinOf_36 (by decide) ?_
        exact ih4 z_10 z_9 H locs ls (by omega) (by omega) (by omega) (by omega) (by omega)  (hP.sub [0, 1] rfl) (hD.sub [0, 1] (by decide) rfl) hS (lv_sub hlv [0, 1, 2, 3] rfl)
end
section
theorem dX6_runFrom_0 : decode cX6_runFrom 0 = .ok (.aload_n 0, 1) := by decide +kernel
theorem dX6_runFrom_1 : decode cX6_runFrom 1 = .ok (.getfield 9, 3) := by decide +kernel
theorem dX6_runFrom_10 : decode cX6_runFrom 10 = .ok (.iload_n 3, 1) := by decide +kernel
theorem dX6_runFrom_102 : decode cX6_runFrom 102 = .ok (.iload_n 3, 1) := by decide +kernel
theorem dX6_runFrom_103 : decode cX6_runFrom 103 = .ok (.iconst 1, 1) := by decide +kernel
theorem dX6_runFrom_104 : decode cX6_runFrom 104 = .ok (.iadd, 1) := by decide +kernel
theorem dX6_runFrom_105 : decode cX6_runFrom 105 = .ok (.istore 6, 2) := by decide +kernel
theorem dX6_runFrom_107 : decode cX6_runFrom 107 = .ok (.aload_n 0, 1) := by decide +kernel
theorem dX6_runFrom_108 : decode cX6_runFrom 108 = .ok (.getfield 9, 3) := by decide +kernel
theorem dX6_runFrom_11 : decode cX6_runFrom 11 = .ok (.iaload, 1) := by decide +kernel
theorem dX6_runFrom_111 : decode cX6_runFrom 111 = .ok (.iload 6, 2) := by decide +kernel
theorem dX6_runFrom_113 : decode cX6_runFrom 113 = .ok (.iaload, 1) := by decide +kernel
theorem dX6_runFrom_114 : decode cX6_runFrom 114 = .ok (.aload_n 0, 1) := by decide +kernel
theorem dX6_runFrom_115 : decode cX6_runFrom 115 = .ok (.getfield 13, 3) := by decide +kernel
theorem dX6_runFrom_118 : decode cX6_runFrom 118 = .ok (.iload 6, 2) := by decide +kernel
theorem dX6_runFrom_12 : decode cX6_runFrom 12 = .ok (.iadd, 1) := by decide +kernel
theorem dX6_runFrom_120 : decode cX6_runFrom 120 = .ok (.iaload, 1) := by decide +kernel
theorem dX6_runFrom_121 : decode cX6_runFrom 121 = .ok (.iadd, 1) := by decide +kernel
theorem dX6_runFrom_122 : decode cX6_runFrom 122 = .ok (.istore 5, 2) := by decide +kernel
theorem dX6_runFrom_124 : decode cX6_runFrom 124 = .ok (.iload_n 2, 1) := by decide +kernel
theorem dX6_runFrom_125 : decode cX6_runFrom 125 = .ok (.ifCond .le 56, 3) := by decide +kernel
theorem dX6_runFrom_128 : decode cX6_runFrom 128 = .ok (.aload_n 0, 1) := by decide +kernel
theorem dX6_runFrom_129 : decode cX6_runFrom 129 = .ok (.getfield 9, 3) := by decide +kernel
theorem dX6_runFrom_13 : decode cX6_runFrom 13 = .ok (.istore 4, 2) := by decide +kernel
theorem dX6_runFrom_132 : decode cX6_runFrom 132 = .ok (.iload_n 3, 1) := by decide +kernel
theorem dX6_runFrom_133 : decode cX6_runFrom 133 = .ok (.aload_n 0, 1) := by decide +kernel
theorem dX6_runFrom_134 : decode cX6_runFrom 134 = .ok (.getfield 28, 3) := by decide +kernel
theorem dX6_runFrom_137 : decode cX6_runFrom 137 = .ok (.isub, 1) := by decide +kernel
theorem dX6_runFrom_138 : decode cX6_runFrom 138 = .ok (.iaload, 1) := by decide +kernel
theorem dX6_runFrom_139 : decode cX6_runFrom 139 = .ok (.aload_n 0, 1) := by decide +kernel
theorem dX6_runFrom_140 : decode cX6_runFrom 140 = .ok (.getfield 13, 3) := by decide +kernel
theorem dX6_runFrom_143 : decode cX6_runFrom 143 = .ok (.iload_n 3, 1) := by decide +kernel
theorem dX6_runFrom_144 : decode cX6_runFrom 144 = .ok (.aload_n 0, 1) := by decide +kernel
theorem dX6_runFrom_145 : decode cX6_runFrom 145 = .ok (.getfield 28, 3) := by decide +kernel
theorem dX6_runFrom_148 : decode cX6_runFrom 148 = .ok (.isub, 1) := by decide +kernel
theorem dX6_runFrom_149 : decode cX6_runFrom 149 = .ok (.iaload, 1) := by decide +kernel
theorem dX6_runFrom_15 : decode cX6_runFrom 15 = .ok (.iload 4, 2) := by decide +kernel
theorem dX6_runFrom_150 : decode cX6_runFrom 150 = .ok (.iadd, 1) := by decide +kernel
theorem dX6_runFrom_151 : decode cX6_runFrom 151 = .ok (.iload 5, 2) := by decide +kernel
theorem dX6_runFrom_153 : decode cX6_runFrom 153 = .ok (.if_icmp .ge 28, 3) := by decide +kernel
theorem dX6_runFrom_156 : decode cX6_runFrom 156 = .ok (.iload_n 3, 1) := by decide +kernel
theorem dX6_runFrom_157 : decode cX6_runFrom 157 = .ok (.aload_n 0, 1) := by decide +kernel
theorem dX6_runFrom_158 : decode cX6_runFrom 158 = .ok (.getfield 28, 3) := by decide +kernel
theorem dX6_runFrom_161 : decode cX6_runFrom 161 = .ok (.isub, 1) := by decide +kernel
theorem dX6_runFrom_162 : decode cX6_runFrom 162 = .ok (.istore 6, 2) := by decide +kernel
theorem dX6_runFrom_164 : decode cX6_runFrom 164 = .ok (.aload_n 0, 1) := by decide +kernel
theorem dX6_runFrom_165 : decode cX6_runFrom 165 = .ok (.getfield 9, 3) := by decide +kernel
theorem dX6_runFrom_168 : decode cX6_runFrom 168 = .ok (.iload 6, 2) := by decide +kernel
theorem dX6_runFrom_17 : decode cX6_runFrom 17 = .ok (.istore 5, 2) := by decide +kernel
theorem dX6_runFrom_170 : decode cX6_runFrom 170 = .ok (.iaload, 1) := by decide +kernel
theorem dX6_runFrom_171 : decode cX6_runFrom 171 = .ok (.aload_n 0, 1) := by decide +kernel
theorem dX6_runFrom_172 : decode cX6_runFrom 172 = .ok (.getfield 13, 3) := by decide +kernel
theorem dX6_runFrom_175 : decode cX6_runFrom 175 = .ok (.iload 6, 2) := by decide +kernel
theorem dX6_runFrom_177 : decode cX6_runFrom 177 = .ok (.iaload, 1) := by decide +kernel
theorem dX6_runFrom_178 : decode cX6_runFrom 178 = .ok (.iadd, 1) := by decide +kernel
theorem dX6_runFrom_179 : decode cX6_runFrom 179 = .ok (.istore 5, 2) := by decide +kernel
theorem dX6_runFrom_181 : decode cX6_runFrom 181 = .ok (.iload_n 2, 1) := by decide +kernel
theorem dX6_runFrom_182 : decode cX6_runFrom 182 = .ok (.iconst 1, 1) := by decide +kernel
theorem dX6_runFrom_183 : decode cX6_runFrom 183 = .ok (.iadd, 1) := by decide +kernel
theorem dX6_runFrom_184 : decode cX6_runFrom 184 = .ok (.aload_n 0, 1) := by decide +kernel
theorem dX6_runFrom_185 : decode cX6_runFrom 185 = .ok (.getfield 32, 3) := by decide +kernel
theorem dX6_runFrom_188 : decode cX6_runFrom 188 = .ok (.if_icmp .ge 56, 3) := by decide +kernel
theorem dX6_runFrom_19 : decode cX6_runFrom 19 = .ok (.iload_n 3, 1) := by decide +kernel
theorem dX6_runFrom_191 : decode cX6_runFrom 191 = .ok (.aload_n 0, 1) := by decide +kernel
theorem dX6_runFrom_192 : decode cX6_runFrom 192 = .ok (.getfield 9, 3) := by decide +kernel
theorem dX6_runFrom_195 : decode cX6_runFrom 195 = .ok (.iload_n 3, 1) := by decide +kernel
theorem dX6_runFrom_196 : decode cX6_runFrom 196 = .ok (.aload_n 0, 1) := by decide +kernel
theorem dX6_runFrom_197 : decode cX6_runFrom 197 = .ok (.getfield 28, 3) := by decide +kernel
theorem dX6_runFrom_20 : decode cX6_runFrom 20 = .ok (.istore 6, 2) := by decide +kernel
theorem dX6_runFrom_200 : decode cX6_runFrom 200 = .ok (.iadd, 1) := by decide +kernel
theorem dX6_runFrom_201 : decode cX6_runFrom 201 = .ok (.iaload, 1) := by decide +kernel
theorem dX6_runFrom_202 : decode cX6_runFrom 202 = .ok (.aload_n 0, 1) := by decide +kernel
theorem dX6_runFrom_203 : decode cX6_runFrom 203 = .ok (.getfield 13, 3) := by decide +kernel
theorem dX6_runFrom_206 : decode cX6_runFrom 206 = .ok (.iload_n 3, 1) := by decide +kernel
theorem dX6_runFrom_207 : decode cX6_runFrom 207 = .ok (.aload_n 0, 1) := by decide +kernel
theorem dX6_runFrom_208 : decode cX6_runFrom 208 = .ok (.getfield 28, 3) := by decide +kernel
theorem dX6_runFrom_211 : decode cX6_runFrom 211 = .ok (.iadd, 1) := by decide +kernel
theorem dX6_runFrom_212 : decode cX6_runFrom 212 = .ok (.iaload, 1) := by decide +kernel
theorem dX6_runFrom_213 : decode cX6_runFrom 213 = .ok (.iadd, 1) := by decide +kernel
theorem dX6_runFrom_214 : decode cX6_runFrom 214 = .ok (.iload 5, 2) := by decide +kernel
theorem dX6_runFrom_216 : decode cX6_runFrom 216 = .ok (.if_icmp .ge 28, 3) := by decide +kernel
theorem dX6_runFrom_219 : decode cX6_runFrom 219 = .ok (.iload_n 3, 1) := by decide +kernel
theorem dX6_runFrom_22 : decode cX6_runFrom 22 = .ok (.iload_n 1, 1) := by decide +kernel
theorem dX6_runFrom_220 : decode cX6_runFrom 220 = .ok (.aload_n 0, 1) := by decide +kernel
theorem dX6_runFrom_221 : decode cX6_runFrom 221 = .ok (.getfield 28, 3) := by decide +kernel
theorem dX6_runFrom_224 : decode cX6_runFrom 224 = .ok (.iadd, 1) := by decide +kernel
theorem dX6_runFrom_225 : decode cX6_runFrom 225 = .ok (.istore 6, 2) := by decide +kernel
theorem dX6_runFrom_227 : decode cX6_runFrom 227 = .ok (.aload_n 0, 1) := by decide +kernel
theorem dX6_runFrom_228 : decode cX6_runFrom 228 = .ok (.getfield 9, 3) := by decide +kernel
theorem dX6_runFrom_23 : decode cX6_runFrom 23 = .ok (.ifCond .le 47, 3) := by decide +kernel
theorem dX6_runFrom_231 : decode cX6_runFrom 231 = .ok (.iload 6, 2) := by decide +kernel
theorem dX6_runFrom_233 : decode cX6_runFrom 233 = .ok (.iaload, 1) := by decide +kernel
theorem dX6_runFrom_234 : decode cX6_runFrom 234 = .ok (.aload_n 0, 1) := by decide +kernel
theorem dX6_runFrom_235 : decode cX6_runFrom 235 = .ok (.getfield 13, 3) := by decide +kernel
theorem dX6_runFrom_238 : decode cX6_runFrom 238 = .ok (.iload 6, 2) := by decide +kernel
theorem dX6_runFrom_240 : decode cX6_runFrom 240 = .ok (.iaload, 1) := by decide +kernel
theorem dX6_runFrom_241 : decode cX6_runFrom 241 = .ok (.iadd, 1) := by decide +kernel
theorem dX6_runFrom_242 : decode cX6_runFrom 242 = .ok (.istore 5, 2) := by decide +kernel
theorem dX6_runFrom_244 : decode cX6_runFrom 244 = .ok (.iload 4, 2) := by decide +kernel
theorem dX6_runFrom_246 : decode cX6_runFrom 246 = .ok (.iload 5, 2) := by decide +kernel
theorem dX6_runFrom_248 : decode cX6_runFrom 248 = .ok (.isub, 1) := by decide +kernel
theorem dX6_runFrom_249 : decode cX6_runFrom 249 = .ok (.iconst 2, 1) := by decide +kernel
theorem dX6_runFrom_250 : decode cX6_runFrom 250 = .ok (.idiv, 1) := by decide +kernel
theorem dX6_runFrom_251 : decode cX6_runFrom 251 = .ok (.istore 7, 2) := by decide +kernel
theorem dX6_runFrom_253 : decode cX6_runFrom 253 = .ok (.iload 7, 2) := by decide +kernel
theorem dX6_runFrom_255 : decode cX6_runFrom 255 = .ok (.aload_n 0, 1) := by decide +kernel
theorem dX6_runFrom_256 : decode cX6_runFrom 256 = .ok (.getfield 13, 3) := by decide +kernel
theorem dX6_runFrom_259 : decode cX6_runFrom 259 = .ok (.iload_n 3, 1) := by decide +kernel
theorem dX6_runFrom_26 : decode cX6_runFrom 26 = .ok (.aload_n 0, 1) := by decide +kernel
theorem dX6_runFrom_260 : decode cX6_runFrom 260 = .ok (.iaload, 1) := by decide +kernel
theorem dX6_runFrom_261 : decode cX6_runFrom 261 = .ok (.if_icmp .ge 8, 3) := by decide +kernel
theorem dX6_runFrom_264 : decode cX6_runFrom 264 = .ok (.iload 7, 2) := by decide +kernel
theorem dX6_runFrom_266 : decode cX6_runFrom 266 = .ok (.goto 9, 3) := by decide +kernel
theorem dX6_runFrom_269 : decode cX6_runFrom 269 = .ok (.aload_n 0, 1) := by decide +kernel
theorem dX6_runFrom_27 : decode cX6_runFrom 27 = .ok (.getfield 9, 3) := by decide +kernel
theorem dX6_runFrom_270 : decode cX6_runFrom 270 = .ok (.getfield 13, 3) := by decide +kernel
theorem dX6_runFrom_273 : decode cX6_runFrom 273 = .ok (.iload_n 3, 1) := by decide +kernel
theorem dX6_runFrom_274 : decode cX6_runFrom 274 = .ok (.iaload, 1) := by decide +kernel
theorem dX6_runFrom_275 : decode cX6_runFrom 275 = .ok (.istore 8, 2) := by decide +kernel
theorem dX6_runFrom_277 : decode cX6_runFrom 277 = .ok (.aload_n 0, 1) := by decide +kernel
theorem dX6_runFrom_278 : decode cX6_runFrom 278 = .ok (.getfield 13, 3) := by decide +kernel
theorem dX6_runFrom_281 : decode cX6_runFrom 281 = .ok (.iload_n 3, 1) := by decide +kernel
theorem dX6_runFrom_282 : decode cX6_runFrom 282 = .ok (.dup2, 1) := by decide +kernel
theorem dX6_runFrom_283 : decode cX6_runFrom 283 = .ok (.iaload, 1) := by decide +kernel
theorem dX6_runFrom_284 : decode cX6_runFrom 284 = .ok (.iload 8, 2) := by decide +kernel
theorem dX6_runFrom_286 : decode cX6_runFrom 286 = .ok (.isub, 1) := by decide +kernel
theorem dX6_runFrom_287 : decode cX6_runFrom 287 = .ok (.iastore, 1) := by decide +kernel
theorem dX6_runFrom_288 : decode cX6_runFrom 288 = .ok (.aload_n 0, 1) := by decide +kernel
theorem dX6_runFrom_289 : decode cX6_runFrom 289 = .ok (.getfield 13, 3) := by decide +kernel
theorem dX6_runFrom_292 : decode cX6_runFrom 292 = .ok (.iload 6, 2) := by decide +kernel
theorem dX6_runFrom_294 : decode cX6_runFrom 294 = .ok (.dup2, 1) := by decide +kernel
theorem dX6_runFrom_295 : decode cX6_runFrom 295 = .ok (.iaload, 1) := by decide +kernel
theorem dX6_runFrom_296 : decode cX6_runFrom 296 = .ok (.iload 8, 2) := by decide +kernel
theorem dX6_runFrom_298 : decode cX6_runFrom 298 = .ok (.iadd, 1) := by decide +kernel
theorem dX6_runFrom_299 : decode cX6_runFrom 299 = .ok (.iastore, 1) := by decide +kernel
theorem dX6_runFrom_30 : decode cX6_runFrom 30 = .ok (.iload_n 3, 1) := by decide +kernel
theorem dX6_runFrom_300 : decode cX6_runFrom 300 = .ok (.iload 8, 2) := by decide +kernel
theorem dX6_runFrom_302 : decode cX6_runFrom 302 = .ok (.ifCond .le 7, 3) := by decide +kernel
theorem dX6_runFrom_305 : decode cX6_runFrom 305 = .ok (.iconst 1, 1) := by decide +kernel
theorem dX6_runFrom_306 : decode cX6_runFrom 306 = .ok (.goto 4, 3) := by decide +kernel
theorem dX6_runFrom_309 : decode cX6_runFrom 309 = .ok (.iconst 0, 1) := by decide +kernel
theorem dX6_runFrom_31 : decode cX6_runFrom 31 = .ok (.iconst 1, 1) := by decide +kernel
theorem dX6_runFrom_310 : decode cX6_runFrom 310 = .ok (.ireturn, 1) := by decide +kernel
theorem dX6_runFrom_32 : decode cX6_runFrom 32 = .ok (.isub, 1) := by decide +kernel
theorem dX6_runFrom_33 : decode cX6_runFrom 33 = .ok (.iaload, 1) := by decide +kernel
theorem dX6_runFrom_34 : decode cX6_runFrom 34 = .ok (.aload_n 0, 1) := by decide +kernel
theorem dX6_runFrom_35 : decode cX6_runFrom 35 = .ok (.getfield 13, 3) := by decide +kernel
theorem dX6_runFrom_38 : decode cX6_runFrom 38 = .ok (.iload_n 3, 1) := by decide +kernel
theorem dX6_runFrom_39 : decode cX6_runFrom 39 = .ok (.iconst 1, 1) := by decide +kernel
theorem dX6_runFrom_4 : decode cX6_runFrom 4 = .ok (.iload_n 3, 1) := by decide +kernel
theorem dX6_runFrom_40 : decode cX6_runFrom 40 = .ok (.isub, 1) := by decide +kernel
theorem dX6_runFrom_41 : decode cX6_runFrom 41 = .ok (.iaload, 1) := by decide +kernel
theorem dX6_runFrom_42 : decode cX6_runFrom 42 = .ok (.iadd, 1) := by decide +kernel
theorem dX6_runFrom_43 : decode cX6_runFrom 43 = .ok (.iload 5, 2) := by decide +kernel
theorem dX6_runFrom_45 : decode cX6_runFrom 45 = .ok (.if_icmp .ge 25, 3) := by decide +kernel
theorem dX6_runFrom_48 : decode cX6_runFrom 48 = .ok (.iload_n 3, 1) := by decide +kernel
theorem dX6_runFrom_49 : decode cX6_runFrom 49 = .ok (.iconst 1, 1) := by decide +kernel
theorem dX6_runFrom_5 : decode cX6_runFrom 5 = .ok (.iaload, 1) := by decide +kernel
theorem dX6_runFrom_50 : decode cX6_runFrom 50 = .ok (.isub, 1) := by decide +kernel
theorem dX6_runFrom_51 : decode cX6_runFrom 51 = .ok (.istore 6, 2) := by decide +kernel
theorem dX6_runFrom_53 : decode cX6_runFrom 53 = .ok (.aload_n 0, 1) := by decide +kernel
theorem dX6_runFrom_54 : decode cX6_runFrom 54 = .ok (.getfield 9, 3) := by decide +kernel
theorem dX6_runFrom_57 : decode cX6_runFrom 57 = .ok (.iload 6, 2) := by decide +kernel
theorem dX6_runFrom_59 : decode cX6_runFrom 59 = .ok (.iaload, 1) := by decide +kernel
theorem dX6_runFrom_6 : decode cX6_runFrom 6 = .ok (.aload_n 0, 1) := by decide +kernel
theorem dX6_runFrom_60 : decode cX6_runFrom 60 = .ok (.aload_n 0, 1) := by decide +kernel
theorem dX6_runFrom_61 : decode cX6_runFrom 61 = .ok (.getfield 13, 3) := by decide +kernel
theorem dX6_runFrom_64 : decode cX6_runFrom 64 = .ok (.iload 6, 2) := by decide +kernel
theorem dX6_runFrom_66 : decode cX6_runFrom 66 = .ok (.iaload, 1) := by decide +kernel
theorem dX6_runFrom_67 : decode cX6_runFrom 67 = .ok (.iadd, 1) := by decide +kernel
theorem dX6_runFrom_68 : decode cX6_runFrom 68 = .ok (.istore 5, 2) := by decide +kernel
theorem dX6_runFrom_7 : decode cX6_runFrom 7 = .ok (.getfield 13, 3) := by decide +kernel
theorem dX6_runFrom_70 : decode cX6_runFrom 70 = .ok (.iload_n 1, 1) := by decide +kernel
theorem dX6_runFrom_71 : decode cX6_runFrom 71 = .ok (.iconst 1, 1) := by decide +kernel
theorem dX6_runFrom_72 : decode cX6_runFrom 72 = .ok (.iadd, 1) := by decide +kernel
theorem dX6_runFrom_73 : decode cX6_runFrom 73 = .ok (.aload_n 0, 1) := by decide +kernel
theorem dX6_runFrom_74 : decode cX6_runFrom 74 = .ok (.getfield 28, 3) := by decide +kernel
theorem dX6_runFrom_77 : decode cX6_runFrom 77 = .ok (.if_icmp .ge 47, 3) := by decide +kernel
theorem dX6_runFrom_80 : decode cX6_runFrom 80 = .ok (.aload_n 0, 1) := by decide +kernel
theorem dX6_runFrom_81 : decode cX6_runFrom 81 = .ok (.getfield 9, 3) := by decide +kernel
theorem dX6_runFrom_84 : decode cX6_runFrom 84 = .ok (.iload_n 3, 1) := by decide +kernel
theorem dX6_runFrom_85 : decode cX6_runFrom 85 = .ok (.iconst 1, 1) := by decide +kernel
theorem dX6_runFrom_86 : decode cX6_runFrom 86 = .ok (.iadd, 1) := by decide +kernel
theorem dX6_runFrom_87 : decode cX6_runFrom 87 = .ok (.iaload, 1) := by decide +kernel
theorem dX6_runFrom_88 : decode cX6_runFrom 88 = .ok (.aload_n 0, 1) := by decide +kernel
theorem dX6_runFrom_89 : decode cX6_runFrom 89 = .ok (.getfield 13, 3) := by decide +kernel
theorem dX6_runFrom_92 : decode cX6_runFrom 92 = .ok (.iload_n 3, 1) := by decide +kernel
theorem dX6_runFrom_93 : decode cX6_runFrom 93 = .ok (.iconst 1, 1) := by decide +kernel
theorem dX6_runFrom_94 : decode cX6_runFrom 94 = .ok (.iadd, 1) := by decide +kernel
theorem dX6_runFrom_95 : decode cX6_runFrom 95 = .ok (.iaload, 1) := by decide +kernel
theorem dX6_runFrom_96 : decode cX6_runFrom 96 = .ok (.iadd, 1) := by decide +kernel
theorem dX6_runFrom_97 : decode cX6_runFrom 97 = .ok (.iload 5, 2) := by decide +kernel
theorem dX6_runFrom_99 : decode cX6_runFrom 99 = .ok (.if_icmp .ge 25, 3) := by decide +kernel
def vs_s_runFrom : List Cond := .code yX6_runFrom cX6_runFrom 9 (some .boolean) :: (([.fieldLink RX6 9 "KerbSplash$Street" "height" "[I", .fieldLink RX6 13 "KerbSplash$Street" "water" "[I", .fieldLink RX6 32 "KerbSplash$Street" "rows" "I", .fieldLink RX6 28 "KerbSplash$Street" "wide" "I"] : List Cond) ++ ((wsX60) ++ ([])))
theorem gd_s_runFrom : vs_s_runFrom.all goodWord = true := gd_C (by decide +kernel) (gd_A (by decide +kernel) (gd_A (by decide +kernel) rfl))
set_option maxHeartbeats 4000000 in
set_option maxRecDepth 100000 in
theorem s_runFrom (l : Launch) (hl : l.stackTraces = false) (D : va_G) (cy : Nat → ClassId) (sa : Nat → Nat) (sA s2 s3 s6 s8 s11 s13 : Nat) (wi ro dr dt pe gu sh wo dn mi fl tk go : Int) (hf wf : Nat → Int32) (x y n : Int) (sz : Nat) (hr_wi : 0 ≤ wi ∧ wi ≤ 16) (hr_ro : 0 ≤ ro ∧ ro ≤ 6) (hr_dr : 0 ≤ dr ∧ dr ≤ 14) (hr_dt : 0 ≤ dt ∧ dt ≤ 6) (hr_pe : 0 ≤ pe ∧ pe ≤ 8) (hr_gu : 0 ≤ gu ∧ gu ≤ 20) (hr_sh : 0 ≤ sh ∧ sh ≤ 2) (hr_wo : 0 ≤ wo ∧ wo ≤ 8) (hr_dn : (-2147483648) ≤ dn ∧ dn ≤ 2147483647) (hr_mi : 0 ≤ mi ∧ mi ≤ 600) (hr_fl : (-2147483648) ≤ fl ∧ fl ≤ 2147483647) (hr_tk : (-2147483648) ≤ tk ∧ tk ≤ 2147483647) (hr_go : (-2147483648) ≤ go ∧ go ≤ 2147483647) (hr_x : 0 ≤ x ∧ x ≤ 15) (hr_y : 0 ≤ y ∧ y ≤ 5) (hr_n : 0 ≤ n ∧ n ≤ 95) (hp0 : 0 ≤ n - x ∧ n - x ≤ 80) (hp1 : 0 < y → wi ≤ n - x) (hp2 : y + 1 < ro → n - x + wi ≤ 80) (hhf : inv_ 96 0 99 hf) : mI9 l yX6_runFrom vs_s_runFrom ({ frames := 0, cells := 0, slots := 0, locals := 0 }) D cy sa sz [vR sA, vI x, vI y, vI n] [zO sA 6 [vI wi, vI ro, vR s2, vR s3, vI dr, vI dt, vR s6, vI pe, vR s8, vI gu, vI sh, vR s11, vI wo, vR s13, vI dn, vI mi, vI fl, vI tk, vI go], zI s2 (cy 0) 96 hf, zI s3 (cy 0) 96 wf] (fun (r : Int32) (u : SV) => r = iI (u.2.1 0) ∧ (0 ≤ u.2.1 0 ∧ u.2.1 0 ≤ 1) ∧ inv_ 96 0 99 hf) (fun u : SV => [zO sA 6 [vI wi, vI ro, vR s2, vR s3, vI dr, vI dt, vR s6, vI pe, vR s8, vI gu, vI sh, vR s11, vI wo, vR s13, vI dn, vI mi, vI fl, vI tk, vI go], zI s2 (cy 0) 96 hf, zI s3 (cy 0) 96 (u.2.2 0)]) 0 0 := by
  refine Met.ofW (cc := cX6_runFrom) (maxL := 9) (ret := (some .boolean)) (by decide) rfl ?_
  intro p e s m args below meth c s₁ B hml hv
  obtain ⟨rfl, hsz, hP, hG, hD0, hT⟩ := hv
  have hx := B.exec
  have hb := B.bytes
  have hr := B.returns
  have hts := atoms_spec (ws := vs_s_runFrom) B.pre
  have hown : s.vm.findClass RX6 = some m.cls := findClass_of_methodNamed B.named
  have hlocks := B.notSynchronized
  subst hsz
  have hD := hD0.self (sz := s.heap.size)
  generalize hAe : va_A [zO sA 6 [vI wi, vI ro, vR s2, vR s3, vI dr, vI dt, vR s6, vI pe, vR s8, vI gu, vI sh, vR s11, vI wo, vR s13, vI dn, vI mi, vI fl, vI tk, vI go], zI s2 (cy 0) 96 hf, zI s3 (cy 0) 96 wf] s.heap.size = A at hD hT ⊢
  have hA : ∀ q : Nat, s.heap.size ≤ q → A q := fun q h => by rw [← hAe]; exact Or.inr h
  have hS : va_S A s.heap s.heap [] := va_S.rf
  have hl0 := lv_entry ([vR sA, vI x, vI y, vI n]) (n := 9) (Nat.le_of_ble_eq_true rfl)
  rw [lg_entry_eq]
  generalize (lg_sl ([vR sA, vI x, vI y, vI n]) ++ List.replicate (9 - (lg_sl ([vR sA, vI x, vI y, vI n])).length) Slot.unset).toArray = ls at hl0 ⊢
  have hlv : lv_has ls 9 [(0, vR sA), (1, vI x), (2, vI y), (3, vI n)] := hl0
  have lf9 := hts (.fieldLink RX6 9 "KerbSplash$Street" "height" "[I") (List.mem_of_getElem? (i := 1) rfl)
  have hi6 : ∀ w ∈ wsX60, w ∈ vs_s_runFrom := fun w h => List.mem_cons_of_mem _ (List.mem_append_right _ (List.mem_append_left _ h))
  have lf13 := hts (.fieldLink RX6 13 "KerbSplash$Street" "water" "[I") (List.mem_of_getElem? (i := 2) rfl)
  have lf32 := hts (.fieldLink RX6 32 "KerbSplash$Street" "rows" "I") (List.mem_of_getElem? (i := 3) rfl)
  have lf28 := hts (.fieldLink RX6 28 "KerbSplash$Street" "wide" "I") (List.mem_of_getElem? (i := 4) rfl)
  refine lv_aload_n hx hb dX6_runFrom_0 rfl (lv_at hlv 0 rfl) ?_
  refine va_get (D := D) (ci := 6) (v := vR s2) (C := RX6) (T := TX6) (N := 19) hx hb hts hi6 hown hG.1 hP 0 rfl rfl 2 (by decide) lf9 (fun _ h9 => h9) rfl dX6_runFrom_1 ?_
  refine lv_iload_n hx hb dX6_runFrom_4 rfl (lv_at hlv 3 rfl) ?_
  refine va_iald hx hb hG.1 hP 1 0 rfl rfl (iI_in (by omega) (by decide)) dX6_runFrom_5 ?_
  obtain ⟨z_1, ez_1, hz_1, lz_1⟩ := inv_rd hhf (e := n) (by omega) (by decide)
  refine lt_i (y := iI z_1) ez_1 ?_
  refine lv_aload_n hx hb dX6_runFrom_6 rfl (lv_at hlv 0 rfl) ?_
  refine va_get (D := D) (ci := 6) (v := vR s3) (C := RX6) (T := TX6) (N := 19) hx hb hts hi6 hown hG.1 hP 0 rfl rfl 3 (by decide) lf13 (fun _ h9 => h9) rfl dX6_runFrom_7 ?_
  refine lv_iload_n hx hb dX6_runFrom_10 rfl (lv_at hlv 3 rfl) ?_
  refine va_iald hx hb hG.1 hP 2 0 rfl rfl (iI_in (by omega) (by decide)) dX6_runFrom_11 ?_
  refine lt_z (fun z_2 ez_2 lz_2 hz_2 => ?_)
  refine lv_iadd hx hb dX6_runFrom_12 ?_
  refine lt_z (fun z_3 ez_3 lz_3 hz_3 => ?_)
  refine lv_istore (lv' := [(4, vI z_3), (0, vR sA), (1, vI x), (2, vI y), (3, vI n)]) hx hb dX6_runFrom_13 hlv (by decide) rfl (fun ls hlv => ?_)
  refine lv_iload hx hb dX6_runFrom_15 (lv_at hlv 0 rfl) ?_
  refine lv_istore (lv' := [(5, vI z_3), (4, vI z_3), (0, vR sA), (1, vI x), (2, vI y), (3, vI n)]) hx hb dX6_runFrom_17 hlv (by decide) rfl (fun ls hlv => ?_)
  refine lv_iload_n hx hb dX6_runFrom_19 rfl (lv_at hlv 5 rfl) ?_
  refine lv_istore (lv' := [(6, vI n), (5, vI z_3), (4, vI z_3), (0, vR sA), (1, vI x), (2, vI y), (3, vI n)]) hx hb dX6_runFrom_20 hlv (by decide) rfl (fun ls hlv => ?_)
  refine jn (α := Int × Int) (fun a H locs g => ∃ ls : Array Slot, g = F0 m 70 ls [] ∧ ((-2147483648) ≤ (a.1) ∧ (a.1) ≤ 2147483647) ∧ (0 ≤ (a.2) ∧ (a.2) ≤ 95) ∧ va_P D vwCl [zO sA 6 [vI wi, vI ro, vR s2, vR s3, vI dr, vI dt, vR s6, vI pe, vR s8, vI gu, vI sh, vR s11, vI wo, vR s13, vI dn, vI mi, vI fl, vI tk, vI go], zI s2 (cy 0) 96 hf, zI s3 (cy 0) 96 wf] H ∧ va_D A [zO sA 6 [vI wi, vI ro, vR s2, vR s3, vI dr, vI dt, vR s6, vI pe, vR s8, vI gu, vI sh, vR s11, vI wo, vR s13, vI dn, vI mi, vI fl, vI tk, vI go], zI s2 (cy 0) 96 hf, zI s3 (cy 0) 96 wf] ∧ va_S A s.heap H locs ∧ lv_has ls 9 [(6, vI (a.2)), (5, vI (a.1)), (4, vI z_3), (0, vR sA), (1, vI x), (2, vI y), (3, vI n)]) (fun a H locs g hj => ?_) (fun jn70 => ?_)
  · obtain ⟨ls, rfl, hj70_0, hj70_1, hP, hD, hS, hlv⟩ := hj
    obtain ⟨le1, to1⟩ := a
    have hj70_0 : ((-2147483648) ≤ le1 ∧ le1 ≤ 2147483647) := hj70_0
    have hj70_1 : (0 ≤ to1 ∧ to1 ≤ 95) := hj70_1
    have hP : va_P D vwCl [zO sA 6 [vI wi, vI ro, vR s2, vR s3, vI dr, vI dt, vR s6, vI pe, vR s8, vI gu, vI sh, vR s11, vI wo, vR s13, vI dn, vI mi, vI fl, vI tk, vI go], zI s2 (cy 0) 96 hf, zI s3 (cy 0) 96 wf] H := hP
    have hD : va_D A [zO sA 6 [vI wi, vI ro, vR s2, vR s3, vI dr, vI dt, vR s6, vI pe, vR s8, vI gu, vI sh, vR s11, vI wo, vR s13, vI dn, vI mi, vI fl, vI tk, vI go], zI s2 (cy 0) 96 hf, zI s3 (cy 0) 96 wf] := hD
    have hlv : lv_has ls 9 [(6, vI to1), (5, vI le1), (4, vI z_3), (0, vR sA), (1, vI x), (2, vI y), (3, vI n)] := hlv
    refine jn (α := Int × Int) (fun a H locs g => ∃ ls : Array Slot, g = F0 m 124 ls [] ∧ ((-2147483648) ≤ (a.1) ∧ (a.1) ≤ 2147483647) ∧ (0 ≤ (a.2) ∧ (a.2) ≤ 95) ∧ va_P D vwCl [zO sA 6 [vI wi, vI ro, vR s2, vR s3, vI dr, vI dt, vR s6, vI pe, vR s8, vI gu, vI sh, vR s11, vI wo, vR s13, vI dn, vI mi, vI fl, vI tk, vI go], zI s2 (cy 0) 96 hf, zI s3 (cy 0) 96 wf] H ∧ va_D A [zO sA 6 [vI wi, vI ro, vR s2, vR s3, vI dr, vI dt, vR s6, vI pe, vR s8, vI gu, vI sh, vR s11, vI wo, vR s13, vI dn, vI mi, vI fl, vI tk, vI go], zI s2 (cy 0) 96 hf, zI s3 (cy 0) 96 wf] ∧ va_S A s.heap H locs ∧ lv_has ls 9 [(6, vI (a.2)), (5, vI (a.1)), (4, vI z_3), (0, vR sA), (1, vI x), (2, vI y), (3, vI n)]) (fun a H locs g hj => ?_) (fun jn124 => ?_)
    · obtain ⟨ls, rfl, hj124_0, hj124_1, hP, hD, hS, hlv⟩ := hj
      obtain ⟨le2, to2⟩ := a
      have hj124_0 : ((-2147483648) ≤ le2 ∧ le2 ≤ 2147483647) := hj124_0
      have hj124_1 : (0 ≤ to2 ∧ to2 ≤ 95) := hj124_1
      have hP : va_P D vwCl [zO sA 6 [vI wi, vI ro, vR s2, vR s3, vI dr, vI dt, vR s6, vI pe, vR s8, vI gu, vI sh, vR s11, vI wo, vR s13, vI dn, vI mi, vI fl, vI tk, vI go], zI s2 (cy 0) 96 hf, zI s3 (cy 0) 96 wf] H := hP
      have hD : va_D A [zO sA 6 [vI wi, vI ro, vR s2, vR s3, vI dr, vI dt, vR s6, vI pe, vR s8, vI gu, vI sh, vR s11, vI wo, vR s13, vI dn, vI mi, vI fl, vI tk, vI go], zI s2 (cy 0) 96 hf, zI s3 (cy 0) 96 wf] := hD
      have hlv : lv_has ls 9 [(6, vI to2), (5, vI le2), (4, vI z_3), (0, vR sA), (1, vI x), (2, vI y), (3, vI n)] := hlv
      refine jn (α := Int × Int) (fun a H locs g => ∃ ls : Array Slot, g = F0 m 181 ls [] ∧ ((-2147483648) ≤ (a.1) ∧ (a.1) ≤ 2147483647) ∧ (0 ≤ (a.2) ∧ (a.2) ≤ 95) ∧ va_P D vwCl [zO sA 6 [vI wi, vI ro, vR s2, vR s3, vI dr, vI dt, vR s6, vI pe, vR s8, vI gu, vI sh, vR s11, vI wo, vR s13, vI dn, vI mi, vI fl, vI tk, vI go], zI s2 (cy 0) 96 hf, zI s3 (cy 0) 96 wf] H ∧ va_D A [zO sA 6 [vI wi, vI ro, vR s2, vR s3, vI dr, vI dt, vR s6, vI pe, vR s8, vI gu, vI sh, vR s11, vI wo, vR s13, vI dn, vI mi, vI fl, vI tk, vI go], zI s2 (cy 0) 96 hf, zI s3 (cy 0) 96 wf] ∧ va_S A s.heap H locs ∧ lv_has ls 9 [(6, vI (a.2)), (5, vI (a.1)), (4, vI z_3), (0, vR sA), (1, vI x), (2, vI y), (3, vI n)]) (fun a H locs g hj => ?_) (fun jn181 => ?_)
      · obtain ⟨ls, rfl, hj181_0, hj181_1, hP, hD, hS, hlv⟩ := hj
        obtain ⟨le3, to3⟩ := a
        have hj181_0 : ((-2147483648) ≤ le3 ∧ le3 ≤ 2147483647) := hj181_0
        have hj181_1 : (0 ≤ to3 ∧ to3 ≤ 95) := hj181_1
        have hP : va_P D vwCl [zO sA 6 [vI wi, vI ro, vR s2, vR s3, vI dr, vI dt, vR s6, vI pe, vR s8, vI gu, vI sh, vR s11, vI wo, vR s13, vI dn, vI mi, vI fl, vI tk, vI go], zI s2 (cy 0) 96 hf, zI s3 (cy 0) 96 wf] H := hP
        have hD : va_D A [zO sA 6 [vI wi, vI ro, vR s2, vR s3, vI dr, vI dt, vR s6, vI pe, vR s8, vI gu, vI sh, vR s11, vI wo, vR s13, vI dn, vI mi, vI fl, vI tk, vI go], zI s2 (cy 0) 96 hf, zI s3 (cy 0) 96 wf] := hD
        have hlv : lv_has ls 9 [(6, vI to3), (5, vI le3), (4, vI z_3), (0, vR sA), (1, vI x), (2, vI y), (3, vI n)] := hlv
        refine jn (α := Int × Int) (fun a H locs g => ∃ ls : Array Slot, g = F0 m 244 ls [] ∧ ((-2147483648) ≤ (a.1) ∧ (a.1) ≤ 2147483647) ∧ (0 ≤ (a.2) ∧ (a.2) ≤ 95) ∧ va_P D vwCl [zO sA 6 [vI wi, vI ro, vR s2, vR s3, vI dr, vI dt, vR s6, vI pe, vR s8, vI gu, vI sh, vR s11, vI wo, vR s13, vI dn, vI mi, vI fl, vI tk, vI go], zI s2 (cy 0) 96 hf, zI s3 (cy 0) 96 wf] H ∧ va_D A [zO sA 6 [vI wi, vI ro, vR s2, vR s3, vI dr, vI dt, vR s6, vI pe, vR s8, vI gu, vI sh, vR s11, vI wo, vR s13, vI dn, vI mi, vI fl, vI tk, vI go], zI s2 (cy 0) 96 hf, zI s3 (cy 0) 96 wf] ∧ va_S A s.heap H locs ∧ lv_has ls 9 [(6, vI (a.2)), (5, vI (a.1)), (4, vI z_3), (0, vR sA), (1, vI x), (2, vI y), (3, vI n)]) (fun a H locs g hj => ?_) (fun jn244 => ?_)
        · obtain ⟨ls, rfl, hj244_0, hj244_1, hP, hD, hS, hlv⟩ := hj
          obtain ⟨le4, to4⟩ := a
          have hj244_0 : ((-2147483648) ≤ le4 ∧ le4 ≤ 2147483647) := hj244_0
          have hj244_1 : (0 ≤ to4 ∧ to4 ≤ 95) := hj244_1
          have hP : va_P D vwCl [zO sA 6 [vI wi, vI ro, vR s2, vR s3, vI dr, vI dt, vR s6, vI pe, vR s8, vI gu, vI sh, vR s11, vI wo, vR s13, vI dn, vI mi, vI fl, vI tk, vI go], zI s2 (cy 0) 96 hf, zI s3 (cy 0) 96 wf] H := hP
          have hD : va_D A [zO sA 6 [vI wi, vI ro, vR s2, vR s3, vI dr, vI dt, vR s6, vI pe, vR s8, vI gu, vI sh, vR s11, vI wo, vR s13, vI dn, vI mi, vI fl, vI tk, vI go], zI s2 (cy 0) 96 hf, zI s3 (cy 0) 96 wf] := hD
          have hlv : lv_has ls 9 [(6, vI to4), (5, vI le4), (4, vI z_3), (0, vR sA), (1, vI x), (2, vI y), (3, vI n)] := hlv
          refine lv_iload hx hb dX6_runFrom_244 (lv_at hlv 2 rfl) ?_
          refine lv_iload hx hb dX6_runFrom_246 (lv_at hlv 1 rfl) ?_
          refine lv_isub hx hb dX6_runFrom_248 ?_
          refine lt_z (fun z_4 ez_4 lz_4 hz_4 => ?_)
          refine lv_iconst (v := iI 2) hx hb dX6_runFrom_249 (by decide) ?_
          refine lv_idiv hx hb dX6_runFrom_250 (fun q => absurd ((iI_eq (a := 2) (b := 0) (by omega) (by omega)).mp q) (by omega)) ?_
          refine lt_z (fun z_5 ez_5 lz_5 hz_5 => ?_)
          refine lv_istore (lv' := [(7, vI z_5), (6, vI to4), (5, vI le4), (4, vI z_3), (0, vR sA), (1, vI x), (2, vI y), (3, vI n)]) hx hb dX6_runFrom_251 hlv (by decide) rfl (fun ls hlv => ?_)
          refine lv_iload hx hb dX6_runFrom_253 (lv_at hlv 0 rfl) ?_
          refine lv_aload_n hx hb dX6_runFrom_255 rfl (lv_at hlv 4 rfl) ?_
          refine va_get (D := D) (ci := 6) (v := vR s3) (C := RX6) (T := TX6) (N := 19) hx hb hts hi6 hown hG.1 hP 0 rfl rfl 3 (by decide) lf13 (fun _ h9 => h9) rfl dX6_runFrom_256 ?_
          refine lv_iload_n hx hb dX6_runFrom_259 rfl (lv_at hlv 7 rfl) ?_
          refine va_iald hx hb hG.1 hP 2 0 rfl rfl (iI_in (by omega) (by decide)) dX6_runFrom_260 ?_
          refine lt_i (y := iI z_2) ez_2 ?_
          refine ir_ge (tgt := 269) hx hb dX6_runFrom_261 (by decide) (by omega) (by omega) (fun c_6 => ?_) (fun c_6 => ?_)
          · refine lv_aload_n hx hb dX6_runFrom_269 rfl (lv_at hlv 4 rfl) ?_
            refine va_get (D := D) (ci := 6) (v := vR s3) (C := RX6) (T := TX6) (N := 19) hx hb hts hi6 hown hG.1 hP 0 rfl rfl 3 (by decide) lf13 (fun _ h9 => h9) rfl dX6_runFrom_270 ?_
            refine lv_iload_n hx hb dX6_runFrom_273 rfl (lv_at hlv 7 rfl) ?_
            refine va_iald hx hb hG.1 hP 2 0 rfl rfl (iI_in (by omega) (by decide)) dX6_runFrom_274 ?_
            refine lt_i (y := iI z_2) ez_2 ?_
            refine lv_istore (lv' := [(8, vI z_2), (7, vI z_5), (6, vI to4), (5, vI le4), (4, vI z_3), (0, vR sA), (1, vI x), (2, vI y), (3, vI n)]) hx hb dX6_runFrom_275 hlv (by decide) rfl (fun ls hlv => ?_)
            refine lv_aload_n hx hb dX6_runFrom_277 rfl (lv_at hlv 5 rfl) ?_
            refine va_get (D := D) (ci := 6) (v := vR s3) (C := RX6) (T := TX6) (N := 19) hx hb hts hi6 hown hG.1 hP 0 rfl rfl 3 (by decide) lf13 (fun _ h9 => h9) rfl dX6_runFrom_278 ?_
            refine lv_iload_n hx hb dX6_runFrom_281 rfl (lv_at hlv 8 rfl) ?_
            refine lv_dup2_11 hx hb dX6_runFrom_282 rfl rfl ?_
            refine va_iald hx hb hG.1 hP 2 0 rfl rfl (iI_in (by omega) (by decide)) dX6_runFrom_283 ?_
            refine lt_i (y := iI z_2) ez_2 ?_
            refine lv_iload hx hb dX6_runFrom_284 (lv_at hlv 0 rfl) ?_
            refine lv_isub hx hb dX6_runFrom_286 ?_
            refine lt_z (fun z_7 ez_7 lz_7 hz_7 => ?_)
            refine va_iast hx hb hG.1 hP hD hS 2 0 rfl rfl (iI_in (by omega) (by decide)) dX6_runFrom_287 (fun H locs hP hD hS => ?_)
            obtain ⟨f_8, hP, hD⟩ := pe9 (fun f_8 => [zO sA 6 [vI wi, vI ro, vR s2, vR s3, vI dr, vI dt, vR s6, vI pe, vR s8, vI gu, vI sh, vR s11, vI wo, vR s13, vI dn, vI mi, vI fl, vI tk, vI go], zI s2 (cy 0) 96 hf, zI s3 (cy 0) 96 f_8]) _ hP hD
            refine lv_aload_n hx hb dX6_runFrom_288 rfl (lv_at hlv 5 rfl) ?_
            refine va_get (D := D) (ci := 6) (v := vR s3) (C := RX6) (T := TX6) (N := 19) hx hb hts hi6 hown hG.1 hP 0 rfl rfl 3 (by decide) lf13 (fun _ h9 => h9) rfl dX6_runFrom_289 ?_
            refine lv_iload hx hb dX6_runFrom_292 (lv_at hlv 2 rfl) ?_
            refine lv_dup2_11 hx hb dX6_runFrom_294 rfl rfl ?_
            refine va_iald hx hb hG.1 hP 2 0 rfl rfl (iI_in (by omega) (by decide)) dX6_runFrom_295 ?_
            refine lt_z (fun z_9 ez_9 lz_9 hz_9 => ?_)
            refine lv_iload hx hb dX6_runFrom_296 (lv_at hlv 0 rfl) ?_
            refine lv_iadd hx hb dX6_runFrom_298 ?_
            refine lt_z (fun z_10 ez_10 lz_10 hz_10 => ?_)
            refine va_iast hx hb hG.1 hP hD hS 2 0 rfl rfl (iI_in (by omega) (by decide)) dX6_runFrom_299 (fun H locs hP hD hS => ?_)
            obtain ⟨f_11, hP, hD⟩ := pe9 (fun f_11 => [zO sA 6 [vI wi, vI ro, vR s2, vR s3, vI dr, vI dt, vR s6, vI pe, vR s8, vI gu, vI sh, vR s11, vI wo, vR s13, vI dn, vI mi, vI fl, vI tk, vI go], zI s2 (cy 0) 96 hf, zI s3 (cy 0) 96 f_11]) _ hP hD
            refine lv_iload hx hb dX6_runFrom_300 (lv_at hlv 0 rfl) ?_
            refine iz_le (tgt := 309) hx hb dX6_runFrom_302 (by decide) (by omega) (fun c_12 => ?_) (fun c_12 => ?_)
            · refine lv_iconst (v := iI 0) hx hb dX6_runFrom_309 (by decide) ?_
              refine W.widen (k := 0) (n := 0) (Nat.le_of_ble_eq_true rfl) (Nat.le_of_ble_eq_true rfl) ?_
              exact W.zret (v := iI 0) hx hb hr (by first | rfl | decide) (fun t ht hW => ⟨⟨iI 0, ((fun k => ([] : List Nat).getD k 0), (fun k => ([0] : List Int).getD k 0), (fun k => ([f_11] : List (Nat → Int32)).getD k (fun _ => 0))), rfl, ⟨rfl, (by show (0 ≤ 0 ∧ 0 ≤ 1); show (0 : Int) ≤ 0 ∧ (0 : Int) ≤ 1; decide), hhf⟩, at9 ht hP hD [0, 1, 2] (by decide +kernel) rfl⟩, hS.F ht⟩) hS.2.2 dX6_runFrom_310
            · refine lv_iconst (v := iI 1) hx hb dX6_runFrom_305 (by decide) ?_
              refine lv_goto (tgt := 310) hx hb dX6_runFrom_306 (by decide) ?_
              refine W.widen (k := 0) (n := 0) (Nat.le_of_ble_eq_true rfl) (Nat.le_of_ble_eq_true rfl) ?_
              exact W.zret (v := iI 1) hx hb hr (by first | rfl | decide) (fun t ht hW => ⟨⟨iI 1, ((fun k => ([] : List Nat).getD k 0), (fun k => ([1] : List Int).getD k 0), (fun k => ([f_11] : List (Nat → Int32)).getD k (fun _ => 0))), rfl, ⟨rfl, (by show (0 ≤ 1 ∧ 1 ≤ 1); show (0 : Int) ≤ 1 ∧ (1 : Int) ≤ 1; decide), hhf⟩, at9 ht hP hD [0, 1, 2] (by decide +kernel) rfl⟩, hS.F ht⟩) hS.2.2 dX6_runFrom_310
          · refine lv_iload hx hb dX6_runFrom_264 (lv_at hlv 0 rfl) ?_
            refine lv_goto (tgt := 275) hx hb dX6_runFrom_266 (by decide) ?_
            refine lv_istore (lv' := [(8, vI z_5), (7, vI z_5), (6, vI to4), (5, vI le4), (4, vI z_3), (0, vR sA), (1, vI x), (2, vI y), (3, vI n)]) hx hb dX6_runFrom_275 hlv (by decide) rfl (fun ls hlv => ?_)
            refine lv_aload_n hx hb dX6_runFrom_277 rfl (lv_at hlv 5 rfl) ?_
            refine va_get (D := D) (ci := 6) (v := vR s3) (C := RX6) (T := TX6) (N := 19) hx hb hts hi6 hown hG.1 hP 0 rfl rfl 3 (by decide) lf13 (fun _ h9 => h9) rfl dX6_runFrom_278 ?_
            refine lv_iload_n hx hb dX6_runFrom_281 rfl (lv_at hlv 8 rfl) ?_
            refine lv_dup2_11 hx hb dX6_runFrom_282 rfl rfl ?_
            refine va_iald hx hb hG.1 hP 2 0 rfl rfl (iI_in (by omega) (by decide)) dX6_runFrom_283 ?_
            refine lt_i (y := iI z_2) ez_2 ?_
            refine lv_iload hx hb dX6_runFrom_284 (lv_at hlv 0 rfl) ?_
            refine lv_isub hx hb dX6_runFrom_286 ?_
            refine lt_z (fun z_13 ez_13 lz_13 hz_13 => ?_)
            refine va_iast hx hb hG.1 hP hD hS 2 0 rfl rfl (iI_in (by omega) (by decide)) dX6_runFrom_287 (fun H locs hP hD hS => ?_)
            obtain ⟨f_14, hP, hD⟩ := pe9 (fun f_14 => [zO sA 6 [vI wi, vI ro, vR s2, vR s3, vI dr, vI dt, vR s6, vI pe, vR s8, vI gu, vI sh, vR s11, vI wo, vR s13, vI dn, vI mi, vI fl, vI tk, vI go], zI s2 (cy 0) 96 hf, zI s3 (cy 0) 96 f_14]) _ hP hD
            refine lv_aload_n hx hb dX6_runFrom_288 rfl (lv_at hlv 5 rfl) ?_
            refine va_get (D := D) (ci := 6) (v := vR s3) (C := RX6) (T := TX6) (N := 19) hx hb hts hi6 hown hG.1 hP 0 rfl rfl 3 (by decide) lf13 (fun _ h9 => h9) rfl dX6_runFrom_289 ?_
            refine lv_iload hx hb dX6_runFrom_292 (lv_at hlv 2 rfl) ?_
            refine lv_dup2_11 hx hb dX6_runFrom_294 rfl rfl ?_
            refine va_iald hx hb hG.1 hP 2 0 rfl rfl (iI_in (by omega) (by decide)) dX6_runFrom_295 ?_
            refine lt_z (fun z_15 ez_15 lz_15 hz_15 => ?_)
            refine lv_iload hx hb dX6_runFrom_296 (lv_at hlv 0 rfl) ?_
            refine lv_iadd hx hb dX6_runFrom_298 ?_
            refine lt_z (fun z_16 ez_16 lz_16 hz_16 => ?_)
            refine va_iast hx hb hG.1 hP hD hS 2 0 rfl rfl (iI_in (by omega) (by decide)) dX6_runFrom_299 (fun H locs hP hD hS => ?_)
            obtain ⟨f_17, hP, hD⟩ := pe9 (fun f_17 => [zO sA 6 [vI wi, vI ro, vR s2, vR s3, vI dr, vI dt, vR s6, vI pe, vR s8, vI gu, vI sh, vR s11, vI wo, vR s13, vI dn, vI mi, vI fl, vI tk, vI go], zI s2 (cy 0) 96 hf, zI s3 (cy 0) 96 f_17]) _ hP hD
            refine lv_iload hx hb dX6_runFrom_300 (lv_at hlv 0 rfl) ?_
            refine iz_le (tgt := 309) hx hb dX6_runFrom_302 (by decide) (by omega) (fun c_18 => ?_) (fun c_18 => ?_)
            · refine lv_iconst (v := iI 0) hx hb dX6_runFrom_309 (by decide) ?_
              refine W.widen (k := 0) (n := 0) (Nat.le_of_ble_eq_true rfl) (Nat.le_of_ble_eq_true rfl) ?_
              exact W.zret (v := iI 0) hx hb hr (by first | rfl | decide) (fun t ht hW => ⟨⟨iI 0, ((fun k => ([] : List Nat).getD k 0), (fun k => ([0] : List Int).getD k 0), (fun k => ([f_17] : List (Nat → Int32)).getD k (fun _ => 0))), rfl, ⟨rfl, (by show (0 ≤ 0 ∧ 0 ≤ 1); show (0 : Int) ≤ 0 ∧ (0 : Int) ≤ 1; decide), hhf⟩, at9 ht hP hD [0, 1, 2] (by decide +kernel) rfl⟩, hS.F ht⟩) hS.2.2 dX6_runFrom_310
            · refine lv_iconst (v := iI 1) hx hb dX6_runFrom_305 (by decide) ?_
              refine lv_goto (tgt := 310) hx hb dX6_runFrom_306 (by decide) ?_
              refine W.widen (k := 0) (n := 0) (Nat.le_of_ble_eq_true rfl) (Nat.le_of_ble_eq_true rfl) ?_
              exact W.zret (v := iI 1) hx hb hr (by first | rfl | decide) (fun t ht hW => ⟨⟨iI 1, ((fun k => ([] : List Nat).getD k 0), (fun k => ([1] : List Int).getD k 0), (fun k => ([f_17] : List (Nat → Int32)).getD k (fun _ => 0))), rfl, ⟨rfl, (by show (0 ≤ 1 ∧ 1 ≤ 1); show (0 : Int) ≤ 1 ∧ (1 : Int) ≤ 1; decide), hhf⟩, at9 ht hP hD [0, 1, 2] (by decide +kernel) rfl⟩, hS.F ht⟩) hS.2.2 dX6_runFrom_310
        · refine lv_iload_n hx hb dX6_runFrom_181 rfl (lv_at hlv 5 rfl) ?_
          refine lv_iconst (v := iI 1) hx hb dX6_runFrom_182 (by decide) ?_
          refine lv_iadd hx hb dX6_runFrom_183 ?_
          refine lt_e (e0 := y + 1) (Int32.ofInt_add _ _).symm (fun z_19 hz_19 => ?_)
          refine lv_aload_n hx hb dX6_runFrom_184 rfl (lv_at hlv 3 rfl) ?_
          refine va_get (D := D) (ci := 6) (v := vI ro) (C := RX6) (T := TX6) (N := 19) hx hb hts hi6 hown hG.1 hP 0 rfl rfl 1 (by decide) lf32 (fun _ h9 => h9) rfl dX6_runFrom_185 ?_
          refine ir_ge (tgt := 244) hx hb dX6_runFrom_188 (by decide) (by omega) (by first | exact rgw hr_ro (by decide) (by decide) | omega) (fun c_20 => ?_) (fun c_20 => ?_)
          · exact jn244 (le3, to3) _ _ _ ⟨_, rfl, (by show (-2147483648) ≤ le3 ∧ le3 ≤ 2147483647; first | exact hj181_0 | omega), (by show (0 : Int) ≤ to3 ∧ to3 ≤ 95; first | exact hj181_1 | omega), hP.sub [0, 1, 2] rfl, hD.sub [0, 1, 2] (by decide) rfl, hS, lv_sub hlv [0, 1, 2, 3, 4, 5, 6] rfl⟩
          · refine lv_aload_n hx hb dX6_runFrom_191 rfl (lv_at hlv 3 rfl) ?_
            refine va_get (D := D) (ci := 6) (v := vR s2) (C := RX6) (T := TX6) (N := 19) hx hb hts hi6 hown hG.1 hP 0 rfl rfl 2 (by decide) lf9 (fun _ h9 => h9) rfl dX6_runFrom_192 ?_
            refine lv_iload_n hx hb dX6_runFrom_195 rfl (lv_at hlv 6 rfl) ?_
            refine lv_aload_n hx hb dX6_runFrom_196 rfl (lv_at hlv 3 rfl) ?_
            refine va_get (D := D) (ci := 6) (v := vI wi) (C := RX6) (T := TX6) (N := 19) hx hb hts hi6 hown hG.1 hP 0 rfl rfl 0 (by decide) lf28 (fun _ h9 => h9) rfl dX6_runFrom_197 ?_
            refine lv_iadd hx hb dX6_runFrom_200 ?_
            refine lt_e (e0 := n + wi) (Int32.ofInt_add _ _).symm (fun z_21 hz_21 => ?_)
            refine va_iald hx hb hG.1 hP 1 0 rfl rfl (iI_in (by omega) (by decide)) dX6_runFrom_201 ?_
            obtain ⟨z_22, ez_22, hz_22, lz_22⟩ := inv_rd hhf (e := z_21) (by omega) (by decide)
            refine lt_i (y := iI z_22) ez_22 ?_
            refine lv_aload_n hx hb dX6_runFrom_202 rfl (lv_at hlv 3 rfl) ?_
            refine va_get (D := D) (ci := 6) (v := vR s3) (C := RX6) (T := TX6) (N := 19) hx hb hts hi6 hown hG.1 hP 0 rfl rfl 3 (by decide) lf13 (fun _ h9 => h9) rfl dX6_runFrom_203 ?_
            refine lv_iload_n hx hb dX6_runFrom_206 rfl (lv_at hlv 6 rfl) ?_
            refine lv_aload_n hx hb dX6_runFrom_207 rfl (lv_at hlv 3 rfl) ?_
            refine va_get (D := D) (ci := 6) (v := vI wi) (C := RX6) (T := TX6) (N := 19) hx hb hts hi6 hown hG.1 hP 0 rfl rfl 0 (by decide) lf28 (fun _ h9 => h9) rfl dX6_runFrom_208 ?_
            refine lv_iadd hx hb dX6_runFrom_211 ?_
            refine lt_e (e0 := n + wi) (Int32.ofInt_add _ _).symm (fun z_23 hz_23 => ?_)
            refine va_iald hx hb hG.1 hP 2 0 rfl rfl (iI_in (by omega) (by decide)) dX6_runFrom_212 ?_
            refine lt_z (fun z_24 ez_24 lz_24 hz_24 => ?_)
            refine lv_iadd hx hb dX6_runFrom_213 ?_
            refine lt_z (fun z_25 ez_25 lz_25 hz_25 => ?_)
            refine lv_iload hx hb dX6_runFrom_214 (lv_at hlv 1 rfl) ?_
            refine ir_ge (tgt := 244) hx hb dX6_runFrom_216 (by decide) (by omega) (by first | exact hj181_0 | omega) (fun c_26 => ?_) (fun c_26 => ?_)
            · exact jn244 (le3, to3) _ _ _ ⟨_, rfl, (by show (-2147483648) ≤ le3 ∧ le3 ≤ 2147483647; first | exact hj181_0 | omega), (by show (0 : Int) ≤ to3 ∧ to3 ≤ 95; first | exact hj181_1 | omega), hP.sub [0, 1, 2] rfl, hD.sub [0, 1, 2] (by decide) rfl, hS, lv_sub hlv [0, 1, 2, 3, 4, 5, 6] rfl⟩
            · refine lv_iload_n hx hb dX6_runFrom_219 rfl (lv_at hlv 6 rfl) ?_
              refine lv_aload_n hx hb dX6_runFrom_220 rfl (lv_at hlv 3 rfl) ?_
              refine va_get (D := D) (ci := 6) (v := vI wi) (C := RX6) (T := TX6) (N := 19) hx hb hts hi6 hown hG.1 hP 0 rfl rfl 0 (by decide) lf28 (fun _ h9 => h9) rfl dX6_runFrom_221 ?_
              refine lv_iadd hx hb dX6_runFrom_224 ?_
              refine lt_e (e0 := n + wi) (Int32.ofInt_add _ _).symm (fun z_27 hz_27 => ?_)
              refine lv_istore (lv' := [(6, vI z_27), (5, vI le3), (4, vI z_3), (0, vR sA), (1, vI x), (2, vI y), (3, vI n)]) hx hb dX6_runFrom_225 hlv (by decide) rfl (fun ls hlv => ?_)
              refine lv_aload_n hx hb dX6_runFrom_227 rfl (lv_at hlv 3 rfl) ?_
              refine va_get (D := D) (ci := 6) (v := vR s2) (C := RX6) (T := TX6) (N := 19) hx hb hts hi6 hown hG.1 hP 0 rfl rfl 2 (by decide) lf9 (fun _ h9 => h9) rfl dX6_runFrom_228 ?_
              refine lv_iload hx hb dX6_runFrom_231 (lv_at hlv 0 rfl) ?_
              refine va_iald hx hb hG.1 hP 1 0 rfl rfl (iI_in (by omega) (by decide)) dX6_runFrom_233 ?_
              obtain ⟨z_28, ez_28, hz_28, lz_28⟩ := inv_rd hhf (e := z_27) (by omega) (by decide)
              refine lt_i (y := iI z_28) ez_28 ?_
              refine lv_aload_n hx hb dX6_runFrom_234 rfl (lv_at hlv 3 rfl) ?_
              refine va_get (D := D) (ci := 6) (v := vR s3) (C := RX6) (T := TX6) (N := 19) hx hb hts hi6 hown hG.1 hP 0 rfl rfl 3 (by decide) lf13 (fun _ h9 => h9) rfl dX6_runFrom_235 ?_
              refine lv_iload hx hb dX6_runFrom_238 (lv_at hlv 0 rfl) ?_
              refine va_iald hx hb hG.1 hP 2 0 rfl rfl (iI_in (by omega) (by decide)) dX6_runFrom_240 ?_
              refine lt_z (fun z_29 ez_29 lz_29 hz_29 => ?_)
              refine lv_iadd hx hb dX6_runFrom_241 ?_
              refine lt_z (fun z_30 ez_30 lz_30 hz_30 => ?_)
              refine lv_istore (lv' := [(5, vI z_30), (6, vI z_27), (4, vI z_3), (0, vR sA), (1, vI x), (2, vI y), (3, vI n)]) hx hb dX6_runFrom_242 hlv (by decide) rfl (fun ls hlv => ?_)
              exact jn244 (z_30, z_27) _ _ _ ⟨_, rfl, (by show (-2147483648) ≤ z_30 ∧ z_30 ≤ 2147483647; omega), (by show (0 : Int) ≤ z_27 ∧ z_27 ≤ 95; omega), hP.sub [0, 1, 2] rfl, hD.sub [0, 1, 2] (by decide) rfl, hS, lv_sub hlv [1, 0, 2, 3, 4, 5, 6] rfl⟩
      · refine lv_iload_n hx hb dX6_runFrom_124 rfl (lv_at hlv 5 rfl) ?_
        refine iz_le (tgt := 181) hx hb dX6_runFrom_125 (by decide) (by first | exact rgw hr_y (by decide) (by decide) | omega) (fun c_31 => ?_) (fun c_31 => ?_)
        · exact jn181 (le2, to2) _ _ _ ⟨_, rfl, (by show (-2147483648) ≤ le2 ∧ le2 ≤ 2147483647; first | exact hj124_0 | omega), (by show (0 : Int) ≤ to2 ∧ to2 ≤ 95; first | exact hj124_1 | omega), hP.sub [0, 1, 2] rfl, hD.sub [0, 1, 2] (by decide) rfl, hS, lv_sub hlv [0, 1, 2, 3, 4, 5, 6] rfl⟩
        · refine lv_aload_n hx hb dX6_runFrom_128 rfl (lv_at hlv 3 rfl) ?_
          refine va_get (D := D) (ci := 6) (v := vR s2) (C := RX6) (T := TX6) (N := 19) hx hb hts hi6 hown hG.1 hP 0 rfl rfl 2 (by decide) lf9 (fun _ h9 => h9) rfl dX6_runFrom_129 ?_
          refine lv_iload_n hx hb dX6_runFrom_132 rfl (lv_at hlv 6 rfl) ?_
          refine lv_aload_n hx hb dX6_runFrom_133 rfl (lv_at hlv 3 rfl) ?_
          refine va_get (D := D) (ci := 6) (v := vI wi) (C := RX6) (T := TX6) (N := 19) hx hb hts hi6 hown hG.1 hP 0 rfl rfl 0 (by decide) lf28 (fun _ h9 => h9) rfl dX6_runFrom_134 ?_
          refine lv_isub hx hb dX6_runFrom_137 ?_
          refine lt_e (e0 := n - wi) (Int32.ofInt_sub _ _).symm (fun z_32 hz_32 => ?_)
          refine va_iald hx hb hG.1 hP 1 0 rfl rfl (iI_in (by omega) (by decide)) dX6_runFrom_138 ?_
          obtain ⟨z_33, ez_33, hz_33, lz_33⟩ := inv_rd hhf (e := z_32) (by omega) (by decide)
          refine lt_i (y := iI z_33) ez_33 ?_
          refine lv_aload_n hx hb dX6_runFrom_139 rfl (lv_at hlv 3 rfl) ?_
          refine va_get (D := D) (ci := 6) (v := vR s3) (C := RX6) (T := TX6) (N := 19) hx hb hts hi6 hown hG.1 hP 0 rfl rfl 3 (by decide) lf13 (fun _ h9 => h9) rfl dX6_runFrom_140 ?_
          refine lv_iload_n hx hb dX6_runFrom_143 rfl (lv_at hlv 6 rfl) ?_
          refine lv_aload_n hx hb dX6_runFrom_144 rfl (lv_at hlv 3 rfl) ?_
          refine va_get (D := D) (ci := 6) (v := vI wi) (C := RX6) (T := TX6) (N := 19) hx hb hts hi6 hown hG.1 hP 0 rfl rfl 0 (by decide) lf28 (fun _ h9 => h9) rfl dX6_runFrom_145 ?_
          refine lv_isub hx hb dX6_runFrom_148 ?_
          refine lt_e (e0 := n - wi) (Int32.ofInt_sub _ _).symm (fun z_34 hz_34 => ?_)
          refine va_iald hx hb hG.1 hP 2 0 rfl rfl (iI_in (by omega) (by decide)) dX6_runFrom_149 ?_
          refine lt_z (fun z_35 ez_35 lz_35 hz_35 => ?_)
          refine lv_iadd hx hb dX6_runFrom_150 ?_
          refine lt_z (fun z_36 ez_36 lz_36 hz_36 => ?_)
          refine lv_iload hx hb dX6_runFrom_151 (lv_at hlv 1 rfl) ?_
          refine ir_ge (tgt := 181) hx hb dX6_runFrom_153 (by decide) (by omega) (by first | exact hj124_0 | omega) (fun c_37 => ?_) (fun c_37 => ?_)
          · exact jn181 (le2, to2) _ _ _ ⟨_, rfl, (by show (-2147483648) ≤ le2 ∧ le2 ≤ 2147483647; first | exact hj124_0 | omega), (by show (0 : Int) ≤ to2 ∧ to2 ≤ 95; first | exact hj124_1 | omega), hP.sub [0, 1, 2] rfl, hD.sub [0, 1, 2] (by decide) rfl, hS, lv_sub hlv [0, 1, 2, 3, 4, 5, 6] rfl⟩
          · refine lv_iload_n hx hb dX6_runFrom_156 rfl (lv_at hlv 6 rfl) ?_
            refine lv_aload_n hx hb dX6_runFrom_157 rfl (lv_at hlv 3 rfl) ?_
            refine va_get (D := D) (ci := 6) (v := vI wi) (C := RX6) (T := TX6) (N := 19) hx hb hts hi6 hown hG.1 hP 0 rfl rfl 0 (by decide) lf28 (fun _ h9 => h9) rfl dX6_runFrom_158 ?_
            refine lv_isub hx hb dX6_runFrom_161 ?_
            refine lt_e (e0 := n - wi) (Int32.ofInt_sub _ _).symm (fun z_38 hz_38 => ?_)
            refine lv_istore (lv' := [(6, vI z_38), (5, vI le2), (4, vI z_3), (0, vR sA), (1, vI x), (2, vI y), (3, vI n)]) hx hb dX6_runFrom_162 hlv (by decide) rfl (fun ls hlv => ?_)
            refine lv_aload_n hx hb dX6_runFrom_164 rfl (lv_at hlv 3 rfl) ?_
            refine va_get (D := D) (ci := 6) (v := vR s2) (C := RX6) (T := TX6) (N := 19) hx hb hts hi6 hown hG.1 hP 0 rfl rfl 2 (by decide) lf9 (fun _ h9 => h9) rfl dX6_runFrom_165 ?_
            refine lv_iload hx hb dX6_runFrom_168 (lv_at hlv 0 rfl) ?_
            refine va_iald hx hb hG.1 hP 1 0 rfl rfl (iI_in (by omega) (by decide)) dX6_runFrom_170 ?_
            obtain ⟨z_39, ez_39, hz_39, lz_39⟩ := inv_rd hhf (e := z_38) (by omega) (by decide)
            refine lt_i (y := iI z_39) ez_39 ?_
            refine lv_aload_n hx hb dX6_runFrom_171 rfl (lv_at hlv 3 rfl) ?_
            refine va_get (D := D) (ci := 6) (v := vR s3) (C := RX6) (T := TX6) (N := 19) hx hb hts hi6 hown hG.1 hP 0 rfl rfl 3 (by decide) lf13 (fun _ h9 => h9) rfl dX6_runFrom_172 ?_
            refine lv_iload hx hb dX6_runFrom_175 (lv_at hlv 0 rfl) ?_
            refine va_iald hx hb hG.1 hP 2 0 rfl rfl (iI_in (by omega) (by decide)) dX6_runFrom_177 ?_
            refine lt_z (fun z_40 ez_40 lz_40 hz_40 => ?_)
            refine lv_iadd hx hb dX6_runFrom_178 ?_
            refine lt_z (fun z_41 ez_41 lz_41 hz_41 => ?_)
            refine lv_istore (lv' := [(5, vI z_41), (6, vI z_38), (4, vI z_3), (0, vR sA), (1, vI x), (2, vI y), (3, vI n)]) hx hb dX6_runFrom_179 hlv (by decide) rfl (fun ls hlv => ?_)
            exact jn181 (z_41, z_38) _ _ _ ⟨_, rfl, (by show (-2147483648) ≤ z_41 ∧ z_41 ≤ 2147483647; omega), (by show (0 : Int) ≤ z_38 ∧ z_38 ≤ 95; omega), hP.sub [0, 1, 2] rfl, hD.sub [0, 1, 2] (by decide) rfl, hS, lv_sub hlv [1, 0, 2, 3, 4, 5, 6] rfl⟩
    · refine lv_iload_n hx hb dX6_runFrom_70 rfl (lv_at hlv 4 rfl) ?_
      refine lv_iconst (v := iI 1) hx hb dX6_runFrom_71 (by decide) ?_
      refine lv_iadd hx hb dX6_runFrom_72 ?_
      refine lt_e (e0 := x + 1) (Int32.ofInt_add _ _).symm (fun z_42 hz_42 => ?_)
      refine lv_aload_n hx hb dX6_runFrom_73 rfl (lv_at hlv 3 rfl) ?_
      refine va_get (D := D) (ci := 6) (v := vI wi) (C := RX6) (T := TX6) (N := 19) hx hb hts hi6 hown hG.1 hP 0 rfl rfl 0 (by decide) lf28 (fun _ h9 => h9) rfl dX6_runFrom_74 ?_
      refine ir_ge (tgt := 124) hx hb dX6_runFrom_77 (by decide) (by omega) (by first | exact rgw hr_wi (by decide) (by decide) | omega) (fun c_43 => ?_) (fun c_43 => ?_)
      · exact jn124 (le1, to1) _ _ _ ⟨_, rfl, (by show (-2147483648) ≤ le1 ∧ le1 ≤ 2147483647; first | exact hj70_0 | omega), (by show (0 : Int) ≤ to1 ∧ to1 ≤ 95; first | exact hj70_1 | omega), hP.sub [0, 1, 2] rfl, hD.sub [0, 1, 2] (by decide) rfl, hS, lv_sub hlv [0, 1, 2, 3, 4, 5, 6] rfl⟩
      · refine lv_aload_n hx hb dX6_runFrom_80 rfl (lv_at hlv 3 rfl) ?_
        refine va_get (D := D) (ci := 6) (v := vR s2) (C := RX6) (T := TX6) (N := 19) hx hb hts hi6 hown hG.1 hP 0 rfl rfl 2 (by decide) lf9 (fun _ h9 => h9) rfl dX6_runFrom_81 ?_
        refine lv_iload_n hx hb dX6_runFrom_84 rfl (lv_at hlv 6 rfl) ?_
        refine lv_iconst (v := iI 1) hx hb dX6_runFrom_85 (by decide) ?_
        refine lv_iadd hx hb dX6_runFrom_86 ?_
        refine lt_e (e0 := n + 1) (Int32.ofInt_add _ _).symm (fun z_44 hz_44 => ?_)
        refine va_iald hx hb hG.1 hP 1 0 rfl rfl (iI_in (by omega) (by decide)) dX6_runFrom_87 ?_
        obtain ⟨z_45, ez_45, hz_45, lz_45⟩ := inv_rd hhf (e := z_44) (by omega) (by decide)
        refine lt_i (y := iI z_45) ez_45 ?_
        refine lv_aload_n hx hb dX6_runFrom_88 rfl (lv_at hlv 3 rfl) ?_
        refine va_get (D := D) (ci := 6) (v := vR s3) (C := RX6) (T := TX6) (N := 19) hx hb hts hi6 hown hG.1 hP 0 rfl rfl 3 (by decide) lf13 (fun _ h9 => h9) rfl dX6_runFrom_89 ?_
        refine lv_iload_n hx hb dX6_runFrom_92 rfl (lv_at hlv 6 rfl) ?_
        refine lv_iconst (v := iI 1) hx hb dX6_runFrom_93 (by decide) ?_
        refine lv_iadd hx hb dX6_runFrom_94 ?_
        refine lt_e (e0 := n + 1) (Int32.ofInt_add _ _).symm (fun z_46 hz_46 => ?_)
        refine va_iald hx hb hG.1 hP 2 0 rfl rfl (iI_in (by omega) (by decide)) dX6_runFrom_95 ?_
        refine lt_z (fun z_47 ez_47 lz_47 hz_47 => ?_)
        refine lv_iadd hx hb dX6_runFrom_96 ?_
        refine lt_z (fun z_48 ez_48 lz_48 hz_48 => ?_)
        refine lv_iload hx hb dX6_runFrom_97 (lv_at hlv 1 rfl) ?_
        refine ir_ge (tgt := 124) hx hb dX6_runFrom_99 (by decide) (by omega) (by first | exact hj70_0 | omega) (fun c_49 => ?_) (fun c_49 => ?_)
        · exact jn124 (le1, to1) _ _ _ ⟨_, rfl, (by show (-2147483648) ≤ le1 ∧ le1 ≤ 2147483647; first | exact hj70_0 | omega), (by show (0 : Int) ≤ to1 ∧ to1 ≤ 95; first | exact hj70_1 | omega), hP.sub [0, 1, 2] rfl, hD.sub [0, 1, 2] (by decide) rfl, hS, lv_sub hlv [0, 1, 2, 3, 4, 5, 6] rfl⟩
        · refine lv_iload_n hx hb dX6_runFrom_102 rfl (lv_at hlv 6 rfl) ?_
          refine lv_iconst (v := iI 1) hx hb dX6_runFrom_103 (by decide) ?_
          refine lv_iadd hx hb dX6_runFrom_104 ?_
          refine lt_e (e0 := n + 1) (Int32.ofInt_add _ _).symm (fun z_50 hz_50 => ?_)
          refine lv_istore (lv' := [(6, vI z_50), (5, vI le1), (4, vI z_3), (0, vR sA), (1, vI x), (2, vI y), (3, vI n)]) hx hb dX6_runFrom_105 hlv (by decide) rfl (fun ls hlv => ?_)
          refine lv_aload_n hx hb dX6_runFrom_107 rfl (lv_at hlv 3 rfl) ?_
          refine va_get (D := D) (ci := 6) (v := vR s2) (C := RX6) (T := TX6) (N := 19) hx hb hts hi6 hown hG.1 hP 0 rfl rfl 2 (by decide) lf9 (fun _ h9 => h9) rfl dX6_runFrom_108 ?_
          refine lv_iload hx hb dX6_runFrom_111 (lv_at hlv 0 rfl) ?_
          refine va_iald hx hb hG.1 hP 1 0 rfl rfl (iI_in (by omega) (by decide)) dX6_runFrom_113 ?_
          obtain ⟨z_51, ez_51, hz_51, lz_51⟩ := inv_rd hhf (e := z_50) (by omega) (by decide)
          refine lt_i (y := iI z_51) ez_51 ?_
          refine lv_aload_n hx hb dX6_runFrom_114 rfl (lv_at hlv 3 rfl) ?_
          refine va_get (D := D) (ci := 6) (v := vR s3) (C := RX6) (T := TX6) (N := 19) hx hb hts hi6 hown hG.1 hP 0 rfl rfl 3 (by decide) lf13 (fun _ h9 => h9) rfl dX6_runFrom_115 ?_
          refine lv_iload hx hb dX6_runFrom_118 (lv_at hlv 0 rfl) ?_
          refine va_iald hx hb hG.1 hP 2 0 rfl rfl (iI_in (by omega) (by decide)) dX6_runFrom_120 ?_
          refine lt_z (fun z_52 ez_52 lz_52 hz_52 => ?_)
          refine lv_iadd hx hb dX6_runFrom_121 ?_
          refine lt_z (fun z_53 ez_53 lz_53 hz_53 => ?_)
          refine lv_istore (lv' := [(5, vI z_53), (6, vI z_50), (4, vI z_3), (0, vR sA), (1, vI x), (2, vI y), (3, vI n)]) hx hb dX6_runFrom_122 hlv (by decide) rfl (fun ls hlv => ?_)
          exact jn124 (z_53, z_50) _ _ _ ⟨_, rfl, (by show (-2147483648) ≤ z_53 ∧ z_53 ≤ 2147483647; omega), (by show (0 : Int) ≤ z_50 ∧ z_50 ≤ 95; omega), hP.sub [0, 1, 2] rfl, hD.sub [0, 1, 2] (by decide) rfl, hS, lv_sub hlv [1, 0, 2, 3, 4, 5, 6] rfl⟩
  · refine lv_iload_n hx hb dX6_runFrom_22 rfl (lv_at hlv 4 rfl) ?_
    refine iz_le (tgt := 70) hx hb dX6_runFrom_23 (by decide) (by first | exact rgw hr_x (by decide) (by decide) | omega) (fun c_54 => ?_) (fun c_54 => ?_)
    · exact jn70 (z_3, n) _ _ _ ⟨_, rfl, (by show (-2147483648) ≤ z_3 ∧ z_3 ≤ 2147483647; omega), (by show (0 : Int) ≤ n ∧ n ≤ 95; first | exact hr_n | omega), hP.sub [0, 1, 2] rfl, hD.sub [0, 1, 2] (by decide) rfl, hS, lv_sub hlv [0, 1, 2, 3, 4, 5, 6] rfl⟩
    · refine lv_aload_n hx hb dX6_runFrom_26 rfl (lv_at hlv 3 rfl) ?_
      refine va_get (D := D) (ci := 6) (v := vR s2) (C := RX6) (T := TX6) (N := 19) hx hb hts hi6 hown hG.1 hP 0 rfl rfl 2 (by decide) lf9 (fun _ h9 => h9) rfl dX6_runFrom_27 ?_
      refine lv_iload_n hx hb dX6_runFrom_30 rfl (lv_at hlv 6 rfl) ?_
      refine lv_iconst (v := iI 1) hx hb dX6_runFrom_31 (by decide) ?_
      refine lv_isub hx hb dX6_runFrom_32 ?_
      refine lt_e (e0 := n - 1) (Int32.ofInt_sub _ _).symm (fun z_55 hz_55 => ?_)
      refine va_iald hx hb hG.1 hP 1 0 rfl rfl (iI_in (by omega) (by decide)) dX6_runFrom_33 ?_
      obtain ⟨z_56, ez_56, hz_56, lz_56⟩ := inv_rd hhf (e := z_55) (by omega) (by decide)
      refine lt_i (y := iI z_56) ez_56 ?_
      refine lv_aload_n hx hb dX6_runFrom_34 rfl (lv_at hlv 3 rfl) ?_
      refine va_get (D := D) (ci := 6) (v := vR s3) (C := RX6) (T := TX6) (N := 19) hx hb hts hi6 hown hG.1 hP 0 rfl rfl 3 (by decide) lf13 (fun _ h9 => h9) rfl dX6_runFrom_35 ?_
      refine lv_iload_n hx hb dX6_runFrom_38 rfl (lv_at hlv 6 rfl) ?_
      refine lv_iconst (v := iI 1) hx hb dX6_runFrom_39 (by decide) ?_
      refine lv_isub hx hb dX6_runFrom_40 ?_
      refine lt_e (e0 := n - 1) (Int32.ofInt_sub _ _).symm (fun z_57 hz_57 => ?_)
      refine va_iald hx hb hG.1 hP 2 0 rfl rfl (iI_in (by omega) (by decide)) dX6_runFrom_41 ?_
      refine lt_z (fun z_58 ez_58 lz_58 hz_58 => ?_)
      refine lv_iadd hx hb dX6_runFrom_42 ?_
      refine lt_z (fun z_59 ez_59 lz_59 hz_59 => ?_)
      refine lv_iload hx hb dX6_runFrom_43 (lv_at hlv 1 rfl) ?_
      refine ir_ge (tgt := 70) hx hb dX6_runFrom_45 (by decide) (by omega) (by omega) (fun c_60 => ?_) (fun c_60 => ?_)
      · exact jn70 (z_3, n) _ _ _ ⟨_, rfl, (by show (-2147483648) ≤ z_3 ∧ z_3 ≤ 2147483647; omega), (by show (0 : Int) ≤ n ∧ n ≤ 95; first | exact hr_n | omega), hP.sub [0, 1, 2] rfl, hD.sub [0, 1, 2] (by decide) rfl, hS, lv_sub hlv [0, 1, 2, 3, 4, 5, 6] rfl⟩
      · refine lv_iload_n hx hb dX6_runFrom_48 rfl (lv_at hlv 6 rfl) ?_
        refine lv_iconst (v := iI 1) hx hb dX6_runFrom_49 (by decide) ?_
        refine lv_isub hx hb dX6_runFrom_50 ?_
        refine lt_e (e0 := n - 1) (Int32.ofInt_sub _ _).symm (fun z_61 hz_61 => ?_)
        refine lv_istore (lv' := [(6, vI z_61), (5, vI z_3), (4, vI z_3), (0, vR sA), (1, vI x), (2, vI y), (3, vI n)]) hx hb dX6_runFrom_51 hlv (by decide) rfl (fun ls hlv => ?_)
        refine lv_aload_n hx hb dX6_runFrom_53 rfl (lv_at hlv 3 rfl) ?_
        refine va_get (D := D) (ci := 6) (v := vR s2) (C := RX6) (T := TX6) (N := 19) hx hb hts hi6 hown hG.1 hP 0 rfl rfl 2 (by decide) lf9 (fun _ h9 => h9) rfl dX6_runFrom_54 ?_
        refine lv_iload hx hb dX6_runFrom_57 (lv_at hlv 0 rfl) ?_
        refine va_iald hx hb hG.1 hP 1 0 rfl rfl (iI_in (by omega) (by decide)) dX6_runFrom_59 ?_
        obtain ⟨z_62, ez_62, hz_62, lz_62⟩ := inv_rd hhf (e := z_61) (by omega) (by decide)
        refine lt_i (y := iI z_62) ez_62 ?_
        refine lv_aload_n hx hb dX6_runFrom_60 rfl (lv_at hlv 3 rfl) ?_
        refine va_get (D := D) (ci := 6) (v := vR s3) (C := RX6) (T := TX6) (N := 19) hx hb hts hi6 hown hG.1 hP 0 rfl rfl 3 (by decide) lf13 (fun _ h9 => h9) rfl dX6_runFrom_61 ?_
        refine lv_iload hx hb dX6_runFrom_64 (lv_at hlv 0 rfl) ?_
        refine va_iald hx hb hG.1 hP 2 0 rfl rfl (iI_in (by omega) (by decide)) dX6_runFrom_66 ?_
        refine lt_z (fun z_63 ez_63 lz_63 hz_63 => ?_)
        refine lv_iadd hx hb dX6_runFrom_67 ?_
        refine lt_z (fun z_64 ez_64 lz_64 hz_64 => ?_)
        refine lv_istore (lv' := [(5, vI z_64), (6, vI z_61), (4, vI z_3), (0, vR sA), (1, vI x), (2, vI y), (3, vI n)]) hx hb dX6_runFrom_68 hlv (by decide) rfl (fun ls hlv => ?_)
        exact jn70 (z_64, z_61) _ _ _ ⟨_, rfl, (by show (-2147483648) ≤ z_64 ∧ z_64 ≤ 2147483647; omega), (by show (0 : Int) ≤ z_61 ∧ z_61 ≤ 95; omega), hP.sub [0, 1, 2] rfl, hD.sub [0, 1, 2] (by decide) rfl, hS, lv_sub hlv [1, 0, 2, 3, 4, 5, 6] rfl⟩
end
