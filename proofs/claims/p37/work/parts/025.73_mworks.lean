theorem dX12_cell_0 : decode cX12_cell 0 = .ok (.aload_n 0, 1) := by decide +kernel
theorem dX12_cell_1 : decode cX12_cell 1 = .ok (.iconst 0, 1) := by decide +kernel
theorem dX12_cell_12 : decode cX12_cell 12 = .ok (.ifCond .eq 18, 3) := by decide +kernel
theorem dX12_cell_15 : decode cX12_cell 15 = .ok (.aload_n 0, 1) := by decide +kernel
theorem dX12_cell_16 : decode cX12_cell 16 = .ok (.iload_n 3, 1) := by decide +kernel
theorem dX12_cell_17 : decode cX12_cell 17 = .ok (.iconst 0, 1) := by decide +kernel
theorem dX12_cell_18 : decode cX12_cell 18 = .ok (.iconst 2, 1) := by decide +kernel
theorem dX12_cell_19 : decode cX12_cell 19 = .ok (.invokestatic 279, 3) := by decide +kernel
theorem dX12_cell_2 : decode cX12_cell 2 = .ok (.putfield 1, 3) := by decide +kernel
theorem dX12_cell_22 : decode cX12_cell 22 = .ok (.iconst 2, 1) := by decide +kernel
theorem dX12_cell_23 : decode cX12_cell 23 = .ok (.iconst 2, 1) := by decide +kernel
theorem dX12_cell_24 : decode cX12_cell 24 = .ok (.invokevirtual 175, 3) := by decide +kernel
theorem dX12_cell_27 : decode cX12_cell 27 = .ok (.ifCond .ne 5, 3) := by decide +kernel
theorem dX12_cell_30 : decode cX12_cell 30 = .ok (.iconst 0, 1) := by decide +kernel
theorem dX12_cell_31 : decode cX12_cell 31 = .ok (.ireturn, 1) := by decide +kernel
theorem dX12_cell_32 : decode cX12_cell 32 = .ok (.iload_n 1, 1) := by decide +kernel
theorem dX12_cell_33 : decode cX12_cell 33 = .ok (.iload_n 2, 1) := by decide +kernel
theorem dX12_cell_34 : decode cX12_cell 34 = .ok (.invokestatic 289, 3) := by decide +kernel
theorem dX12_cell_37 : decode cX12_cell 37 = .ok (.istore 4, 2) := by decide +kernel
theorem dX12_cell_39 : decode cX12_cell 39 = .ok (.iload_n 3, 1) := by decide +kernel
theorem dX12_cell_40 : decode cX12_cell 40 = .ok (.ifCond .ne 15, 3) := by decide +kernel
theorem dX12_cell_43 : decode cX12_cell 43 = .ok (.aload_n 0, 1) := by decide +kernel
theorem dX12_cell_44 : decode cX12_cell 44 = .ok (.getfield 29, 3) := by decide +kernel
theorem dX12_cell_47 : decode cX12_cell 47 = .ok (.iconst 0, 1) := by decide +kernel
theorem dX12_cell_48 : decode cX12_cell 48 = .ok (.iload 4, 2) := by decide +kernel
theorem dX12_cell_5 : decode cX12_cell 5 = .ok (.aload_n 0, 1) := by decide +kernel
theorem dX12_cell_50 : decode cX12_cell 50 = .ok (.iadd, 1) := by decide +kernel
theorem dX12_cell_51 : decode cX12_cell 51 = .ok (.iaload, 1) := by decide +kernel
theorem dX12_cell_52 : decode cX12_cell 52 = .ok (.goto 27, 3) := by decide +kernel
theorem dX12_cell_55 : decode cX12_cell 55 = .ok (.iload_n 3, 1) := by decide +kernel
theorem dX12_cell_56 : decode cX12_cell 56 = .ok (.iconst 1, 1) := by decide +kernel
theorem dX12_cell_57 : decode cX12_cell 57 = .ok (.if_icmp .ne 16, 3) := by decide +kernel
theorem dX12_cell_6 : decode cX12_cell 6 = .ok (.iload_n 1, 1) := by decide +kernel
theorem dX12_cell_60 : decode cX12_cell 60 = .ok (.aload_n 0, 1) := by decide +kernel
theorem dX12_cell_61 : decode cX12_cell 61 = .ok (.getfield 29, 3) := by decide +kernel
theorem dX12_cell_64 : decode cX12_cell 64 = .ok (.bipush 96, 2) := by decide +kernel
theorem dX12_cell_66 : decode cX12_cell 66 = .ok (.iload 4, 2) := by decide +kernel
theorem dX12_cell_68 : decode cX12_cell 68 = .ok (.iadd, 1) := by decide +kernel
theorem dX12_cell_69 : decode cX12_cell 69 = .ok (.iaload, 1) := by decide +kernel
theorem dX12_cell_7 : decode cX12_cell 7 = .ok (.iload_n 2, 1) := by decide +kernel
theorem dX12_cell_70 : decode cX12_cell 70 = .ok (.goto 9, 3) := by decide +kernel
theorem dX12_cell_73 : decode cX12_cell 73 = .ok (.aload_n 0, 1) := by decide +kernel
theorem dX12_cell_74 : decode cX12_cell 74 = .ok (.iload 4, 2) := by decide +kernel
theorem dX12_cell_76 : decode cX12_cell 76 = .ok (.invokevirtual 291, 3) := by decide +kernel
theorem dX12_cell_79 : decode cX12_cell 79 = .ok (.ireturn, 1) := by decide +kernel
theorem dX12_cell_8 : decode cX12_cell 8 = .ok (.iconst 1, 1) := by decide +kernel
theorem dX12_cell_9 : decode cX12_cell 9 = .ok (.invokevirtual 286, 3) := by decide +kernel
theorem dX12_does_0 : decode cX12_does 0 = .ok (.aload_n 0, 1) := by decide +kernel
theorem dX12_does_1 : decode cX12_does 1 = .ok (.iconst 0, 1) := by decide +kernel
theorem dX12_does_10 : decode cX12_does 10 = .ok (.ifCond .eq 17, 3) := by decide +kernel
theorem dX12_does_13 : decode cX12_does 13 = .ok (.aload_n 0, 1) := by decide +kernel
theorem dX12_does_14 : decode cX12_does 14 = .ok (.getfield 29, 3) := by decide +kernel
theorem dX12_does_17 : decode cX12_does 17 = .ok (.sipush 198, 3) := by decide +kernel
theorem dX12_does_2 : decode cX12_does 2 = .ok (.putfield 1, 3) := by decide +kernel
theorem dX12_does_20 : decode cX12_does 20 = .ok (.iload_n 1, 1) := by decide +kernel
theorem dX12_does_21 : decode cX12_does 21 = .ok (.iadd, 1) := by decide +kernel
theorem dX12_does_22 : decode cX12_does 22 = .ok (.iaload, 1) := by decide +kernel
theorem dX12_does_23 : decode cX12_does 23 = .ok (.iconst 1, 1) := by decide +kernel
theorem dX12_does_24 : decode cX12_does 24 = .ok (.if_icmp .ne 5, 3) := by decide +kernel
theorem dX12_does_27 : decode cX12_does 27 = .ok (.iconst 0, 1) := by decide +kernel
theorem dX12_does_28 : decode cX12_does 28 = .ok (.ireturn, 1) := by decide +kernel
theorem dX12_does_29 : decode cX12_does 29 = .ok (.aload_n 0, 1) := by decide +kernel
theorem dX12_does_30 : decode cX12_does 30 = .ok (.iload_n 1, 1) := by decide +kernel
theorem dX12_does_31 : decode cX12_does 31 = .ok (.invokevirtual 303, 3) := by decide +kernel
theorem dX12_does_34 : decode cX12_does 34 = .ok (.iconst 1, 1) := by decide +kernel
theorem dX12_does_35 : decode cX12_does 35 = .ok (.ireturn, 1) := by decide +kernel
theorem dX12_does_5 : decode cX12_does 5 = .ok (.aload_n 0, 1) := by decide +kernel
theorem dX12_does_6 : decode cX12_does 6 = .ok (.iload_n 1, 1) := by decide +kernel
theorem dX12_does_7 : decode cX12_does 7 = .ok (.invokevirtual 300, 3) := by decide +kernel
theorem dX12_drain_0 : decode cX12_drain 0 = .ok (.aload_n 0, 1) := by decide +kernel
theorem dX12_drain_1 : decode cX12_drain 1 = .ok (.iconst 0, 1) := by decide +kernel
theorem dX12_drain_12 : decode cX12_drain 12 = .ok (.iconst 1, 1) := by decide +kernel
theorem dX12_drain_13 : decode cX12_drain 13 = .ok (.isub, 1) := by decide +kernel
theorem dX12_drain_14 : decode cX12_drain 14 = .ok (.invokestatic 279, 3) := by decide +kernel
theorem dX12_drain_17 : decode cX12_drain 17 = .ok (.iconst 1, 1) := by decide +kernel
theorem dX12_drain_18 : decode cX12_drain 18 = .ok (.iconst 1, 1) := by decide +kernel
theorem dX12_drain_19 : decode cX12_drain 19 = .ok (.invokevirtual 175, 3) := by decide +kernel
theorem dX12_drain_2 : decode cX12_drain 2 = .ok (.putfield 1, 3) := by decide +kernel
theorem dX12_drain_22 : decode cX12_drain 22 = .ok (.ifCond .eq 18, 3) := by decide +kernel
theorem dX12_drain_25 : decode cX12_drain 25 = .ok (.aload_n 0, 1) := by decide +kernel
theorem dX12_drain_26 : decode cX12_drain 26 = .ok (.iload_n 2, 1) := by decide +kernel
theorem dX12_drain_27 : decode cX12_drain 27 = .ok (.iconst 0, 1) := by decide +kernel
theorem dX12_drain_28 : decode cX12_drain 28 = .ok (.iconst 3, 1) := by decide +kernel
theorem dX12_drain_29 : decode cX12_drain 29 = .ok (.invokestatic 279, 3) := by decide +kernel
theorem dX12_drain_32 : decode cX12_drain 32 = .ok (.iconst 2, 1) := by decide +kernel
theorem dX12_drain_33 : decode cX12_drain 33 = .ok (.iconst 2, 1) := by decide +kernel
theorem dX12_drain_34 : decode cX12_drain 34 = .ok (.invokevirtual 175, 3) := by decide +kernel
theorem dX12_drain_37 : decode cX12_drain 37 = .ok (.ifCond .ne 5, 3) := by decide +kernel
theorem dX12_drain_40 : decode cX12_drain 40 = .ok (.iconst 0, 1) := by decide +kernel
theorem dX12_drain_41 : decode cX12_drain 41 = .ok (.ireturn, 1) := by decide +kernel
theorem dX12_drain_42 : decode cX12_drain 42 = .ok (.iload_n 2, 1) := by decide +kernel
theorem dX12_drain_43 : decode cX12_drain 43 = .ok (.iconst 3, 1) := by decide +kernel
theorem dX12_drain_44 : decode cX12_drain 44 = .ok (.if_icmp .ne 11, 3) := by decide +kernel
theorem dX12_drain_47 : decode cX12_drain 47 = .ok (.aload_n 0, 1) := by decide +kernel
theorem dX12_drain_48 : decode cX12_drain 48 = .ok (.iload_n 1, 1) := by decide +kernel
theorem dX12_drain_49 : decode cX12_drain 49 = .ok (.invokevirtual 294, 3) := by decide +kernel
theorem dX12_drain_5 : decode cX12_drain 5 = .ok (.aload_n 0, 1) := by decide +kernel
theorem dX12_drain_52 : decode cX12_drain 52 = .ok (.goto 9, 3) := by decide +kernel
theorem dX12_drain_55 : decode cX12_drain 55 = .ok (.aload_n 0, 1) := by decide +kernel
theorem dX12_drain_56 : decode cX12_drain 56 = .ok (.iload_n 1, 1) := by decide +kernel
theorem dX12_drain_57 : decode cX12_drain 57 = .ok (.iload_n 2, 1) := by decide +kernel
theorem dX12_drain_58 : decode cX12_drain 58 = .ok (.invokevirtual 297, 3) := by decide +kernel
theorem dX12_drain_6 : decode cX12_drain 6 = .ok (.iload_n 1, 1) := by decide +kernel
theorem dX12_drain_61 : decode cX12_drain 61 = .ok (.ireturn, 1) := by decide +kernel
theorem dX12_drain_7 : decode cX12_drain 7 = .ok (.iconst 0, 1) := by decide +kernel
theorem dX12_drain_8 : decode cX12_drain 8 = .ok (.aload_n 0, 1) := by decide +kernel
theorem dX12_drain_9 : decode cX12_drain 9 = .ok (.invokevirtual 283, 3) := by decide +kernel
theorem dX12_leaves_0 : decode cX12_leaves 0 = .ok (.aload_n 0, 1) := by decide +kernel
theorem dX12_leaves_1 : decode cX12_leaves 1 = .ok (.iconst 0, 1) := by decide +kernel
theorem dX12_leaves_12 : decode cX12_leaves 12 = .ok (.iconst 1, 1) := by decide +kernel
theorem dX12_leaves_13 : decode cX12_leaves 13 = .ok (.isub, 1) := by decide +kernel
theorem dX12_leaves_14 : decode cX12_leaves 14 = .ok (.invokestatic 279, 3) := by decide +kernel
theorem dX12_leaves_17 : decode cX12_leaves 17 = .ok (.iconst 1, 1) := by decide +kernel
theorem dX12_leaves_18 : decode cX12_leaves 18 = .ok (.iconst 1, 1) := by decide +kernel
theorem dX12_leaves_19 : decode cX12_leaves 19 = .ok (.invokevirtual 175, 3) := by decide +kernel
theorem dX12_leaves_2 : decode cX12_leaves 2 = .ok (.putfield 1, 3) := by decide +kernel
theorem dX12_leaves_22 : decode cX12_leaves 22 = .ok (.ifCond .eq 37, 3) := by decide +kernel
theorem dX12_leaves_25 : decode cX12_leaves 25 = .ok (.aload_n 0, 1) := by decide +kernel
theorem dX12_leaves_26 : decode cX12_leaves 26 = .ok (.iload_n 1, 1) := by decide +kernel
theorem dX12_leaves_27 : decode cX12_leaves 27 = .ok (.aload_n 0, 1) := by decide +kernel
theorem dX12_leaves_28 : decode cX12_leaves 28 = .ok (.getfield 23, 3) := by decide +kernel
theorem dX12_leaves_31 : decode cX12_leaves 31 = .ok (.iconst 2, 1) := by decide +kernel
theorem dX12_leaves_32 : decode cX12_leaves 32 = .ok (.iaload, 1) := by decide +kernel
theorem dX12_leaves_33 : decode cX12_leaves 33 = .ok (.if_icmp .ge 17, 3) := by decide +kernel
theorem dX12_leaves_36 : decode cX12_leaves 36 = .ok (.iload_n 2, 1) := by decide +kernel
theorem dX12_leaves_37 : decode cX12_leaves 37 = .ok (.iconst 0, 1) := by decide +kernel
theorem dX12_leaves_38 : decode cX12_leaves 38 = .ok (.bipush 16, 2) := by decide +kernel
theorem dX12_leaves_40 : decode cX12_leaves 40 = .ok (.invokestatic 279, 3) := by decide +kernel
theorem dX12_leaves_43 : decode cX12_leaves 43 = .ok (.ifCond .eq 7, 3) := by decide +kernel
theorem dX12_leaves_46 : decode cX12_leaves 46 = .ok (.iconst 1, 1) := by decide +kernel
theorem dX12_leaves_47 : decode cX12_leaves 47 = .ok (.goto 4, 3) := by decide +kernel
theorem dX12_leaves_5 : decode cX12_leaves 5 = .ok (.aload_n 0, 1) := by decide +kernel
theorem dX12_leaves_50 : decode cX12_leaves 50 = .ok (.iconst 0, 1) := by decide +kernel
theorem dX12_leaves_51 : decode cX12_leaves 51 = .ok (.iconst 2, 1) := by decide +kernel
theorem dX12_leaves_52 : decode cX12_leaves 52 = .ok (.iconst 2, 1) := by decide +kernel
theorem dX12_leaves_53 : decode cX12_leaves 53 = .ok (.invokevirtual 175, 3) := by decide +kernel
theorem dX12_leaves_56 : decode cX12_leaves 56 = .ok (.ifCond .ne 5, 3) := by decide +kernel
theorem dX12_leaves_59 : decode cX12_leaves 59 = .ok (.iconst 0, 1) := by decide +kernel
theorem dX12_leaves_6 : decode cX12_leaves 6 = .ok (.iload_n 1, 1) := by decide +kernel
theorem dX12_leaves_60 : decode cX12_leaves 60 = .ok (.ireturn, 1) := by decide +kernel
theorem dX12_leaves_61 : decode cX12_leaves 61 = .ok (.aload_n 0, 1) := by decide +kernel
theorem dX12_leaves_62 : decode cX12_leaves 62 = .ok (.getfield 29, 3) := by decide +kernel
theorem dX12_leaves_65 : decode cX12_leaves 65 = .ok (.sipush 192, 3) := by decide +kernel
theorem dX12_leaves_68 : decode cX12_leaves 68 = .ok (.iload_n 1, 1) := by decide +kernel
theorem dX12_leaves_69 : decode cX12_leaves 69 = .ok (.iadd, 1) := by decide +kernel
theorem dX12_leaves_7 : decode cX12_leaves 7 = .ok (.iconst 0, 1) := by decide +kernel
theorem dX12_leaves_70 : decode cX12_leaves 70 = .ok (.iaload, 1) := by decide +kernel
theorem dX12_leaves_71 : decode cX12_leaves 71 = .ok (.istore_n 3, 1) := by decide +kernel
theorem dX12_leaves_72 : decode cX12_leaves 72 = .ok (.aload_n 0, 1) := by decide +kernel
theorem dX12_leaves_73 : decode cX12_leaves 73 = .ok (.getfield 29, 3) := by decide +kernel
theorem dX12_leaves_76 : decode cX12_leaves 76 = .ok (.sipush 192, 3) := by decide +kernel
theorem dX12_leaves_79 : decode cX12_leaves 79 = .ok (.iload_n 1, 1) := by decide +kernel
theorem dX12_leaves_8 : decode cX12_leaves 8 = .ok (.aload_n 0, 1) := by decide +kernel
theorem dX12_leaves_80 : decode cX12_leaves 80 = .ok (.iadd, 1) := by decide +kernel
theorem dX12_leaves_81 : decode cX12_leaves 81 = .ok (.iload_n 2, 1) := by decide +kernel
theorem dX12_leaves_82 : decode cX12_leaves 82 = .ok (.iastore, 1) := by decide +kernel
theorem dX12_leaves_83 : decode cX12_leaves 83 = .ok (.iload_n 3, 1) := by decide +kernel
theorem dX12_leaves_84 : decode cX12_leaves 84 = .ok (.ireturn, 1) := by decide +kernel
theorem dX12_leaves_9 : decode cX12_leaves 9 = .ok (.invokevirtual 283, 3) := by decide +kernel
theorem dX12_person_0 : decode cX12_person 0 = .ok (.aload_n 0, 1) := by decide +kernel
theorem dX12_person_1 : decode cX12_person 1 = .ok (.iconst 0, 1) := by decide +kernel
theorem dX12_person_12 : decode cX12_person 12 = .ok (.iconst 3, 1) := by decide +kernel
theorem dX12_person_13 : decode cX12_person 13 = .ok (.iaload, 1) := by decide +kernel
theorem dX12_person_14 : decode cX12_person 14 = .ok (.iconst 1, 1) := by decide +kernel
theorem dX12_person_15 : decode cX12_person 15 = .ok (.isub, 1) := by decide +kernel
theorem dX12_person_16 : decode cX12_person 16 = .ok (.invokestatic 279, 3) := by decide +kernel
theorem dX12_person_19 : decode cX12_person 19 = .ok (.iconst 1, 1) := by decide +kernel
theorem dX12_person_2 : decode cX12_person 2 = .ok (.putfield 1, 3) := by decide +kernel
theorem dX12_person_20 : decode cX12_person 20 = .ok (.iconst 1, 1) := by decide +kernel
theorem dX12_person_21 : decode cX12_person 21 = .ok (.invokevirtual 175, 3) := by decide +kernel
theorem dX12_person_24 : decode cX12_person 24 = .ok (.ifCond .eq 18, 3) := by decide +kernel
theorem dX12_person_27 : decode cX12_person 27 = .ok (.aload_n 0, 1) := by decide +kernel
theorem dX12_person_28 : decode cX12_person 28 = .ok (.iload_n 2, 1) := by decide +kernel
theorem dX12_person_29 : decode cX12_person 29 = .ok (.iconst 0, 1) := by decide +kernel
theorem dX12_person_30 : decode cX12_person 30 = .ok (.iconst 3, 1) := by decide +kernel
theorem dX12_person_31 : decode cX12_person 31 = .ok (.invokestatic 279, 3) := by decide +kernel
theorem dX12_person_34 : decode cX12_person 34 = .ok (.iconst 2, 1) := by decide +kernel
theorem dX12_person_35 : decode cX12_person 35 = .ok (.iconst 2, 1) := by decide +kernel
theorem dX12_person_36 : decode cX12_person 36 = .ok (.invokevirtual 175, 3) := by decide +kernel
theorem dX12_person_39 : decode cX12_person 39 = .ok (.ifCond .ne 5, 3) := by decide +kernel
theorem dX12_person_42 : decode cX12_person 42 = .ok (.iconst 0, 1) := by decide +kernel
theorem dX12_person_43 : decode cX12_person 43 = .ok (.ireturn, 1) := by decide +kernel
theorem dX12_person_44 : decode cX12_person 44 = .ok (.aload_n 0, 1) := by decide +kernel
theorem dX12_person_45 : decode cX12_person 45 = .ok (.getfield 29, 3) := by decide +kernel
theorem dX12_person_48 : decode cX12_person 48 = .ok (.iload_n 2, 1) := by decide +kernel
theorem dX12_person_49 : decode cX12_person 49 = .ok (.ifCond .ne 9, 3) := by decide +kernel
theorem dX12_person_5 : decode cX12_person 5 = .ok (.aload_n 0, 1) := by decide +kernel
theorem dX12_person_52 : decode cX12_person 52 = .ok (.sipush 216, 3) := by decide +kernel
theorem dX12_person_55 : decode cX12_person 55 = .ok (.goto 28, 3) := by decide +kernel
theorem dX12_person_58 : decode cX12_person 58 = .ok (.iload_n 2, 1) := by decide +kernel
theorem dX12_person_59 : decode cX12_person 59 = .ok (.iconst 1, 1) := by decide +kernel
theorem dX12_person_6 : decode cX12_person 6 = .ok (.iload_n 1, 1) := by decide +kernel
theorem dX12_person_60 : decode cX12_person 60 = .ok (.if_icmp .ne 9, 3) := by decide +kernel
theorem dX12_person_63 : decode cX12_person 63 = .ok (.sipush 225, 3) := by decide +kernel
theorem dX12_person_66 : decode cX12_person 66 = .ok (.goto 17, 3) := by decide +kernel
theorem dX12_person_69 : decode cX12_person 69 = .ok (.iload_n 2, 1) := by decide +kernel
theorem dX12_person_7 : decode cX12_person 7 = .ok (.iconst 0, 1) := by decide +kernel
theorem dX12_person_70 : decode cX12_person 70 = .ok (.iconst 2, 1) := by decide +kernel
theorem dX12_person_71 : decode cX12_person 71 = .ok (.if_icmp .ne 9, 3) := by decide +kernel
theorem dX12_person_74 : decode cX12_person 74 = .ok (.sipush 234, 3) := by decide +kernel
theorem dX12_person_77 : decode cX12_person 77 = .ok (.goto 6, 3) := by decide +kernel
theorem dX12_person_8 : decode cX12_person 8 = .ok (.aload_n 0, 1) := by decide +kernel
theorem dX12_person_80 : decode cX12_person 80 = .ok (.sipush 243, 3) := by decide +kernel
theorem dX12_person_83 : decode cX12_person 83 = .ok (.iload_n 1, 1) := by decide +kernel
theorem dX12_person_84 : decode cX12_person 84 = .ok (.iadd, 1) := by decide +kernel
theorem dX12_person_85 : decode cX12_person 85 = .ok (.iaload, 1) := by decide +kernel
theorem dX12_person_86 : decode cX12_person 86 = .ok (.ireturn, 1) := by decide +kernel
theorem dX12_person_9 : decode cX12_person 9 = .ok (.getfield 23, 3) := by decide +kernel
theorem dX12_told_0 : decode cX12_told 0 = .ok (.aload_n 0, 1) := by decide +kernel
theorem dX12_told_1 : decode cX12_told 1 = .ok (.iconst 0, 1) := by decide +kernel
theorem dX12_told_10 : decode cX12_told 10 = .ok (.invokestatic 279, 3) := by decide +kernel
theorem dX12_told_13 : decode cX12_told 13 = .ok (.iconst 1, 1) := by decide +kernel
theorem dX12_told_14 : decode cX12_told 14 = .ok (.iconst 2, 1) := by decide +kernel
theorem dX12_told_15 : decode cX12_told 15 = .ok (.invokevirtual 175, 3) := by decide +kernel
theorem dX12_told_18 : decode cX12_told 18 = .ok (.ifCond .ne 5, 3) := by decide +kernel
theorem dX12_told_2 : decode cX12_told 2 = .ok (.putfield 1, 3) := by decide +kernel
theorem dX12_told_21 : decode cX12_told 21 = .ok (.iconst 0, 1) := by decide +kernel
theorem dX12_told_22 : decode cX12_told 22 = .ok (.ireturn, 1) := by decide +kernel
theorem dX12_told_23 : decode cX12_told 23 = .ok (.iload_n 1, 1) := by decide +kernel
theorem dX12_told_24 : decode cX12_told 24 = .ok (.iconst 2, 1) := by decide +kernel
theorem dX12_told_25 : decode cX12_told 25 = .ok (.if_icmp .ne 10, 3) := by decide +kernel
theorem dX12_told_28 : decode cX12_told 28 = .ok (.aload_n 0, 1) := by decide +kernel
theorem dX12_told_29 : decode cX12_told 29 = .ok (.invokevirtual 283, 3) := by decide +kernel
theorem dX12_told_32 : decode cX12_told 32 = .ok (.goto 52, 3) := by decide +kernel
theorem dX12_told_35 : decode cX12_told 35 = .ok (.iload_n 1, 1) := by decide +kernel
theorem dX12_told_36 : decode cX12_told 36 = .ok (.bipush 6, 2) := by decide +kernel
theorem dX12_told_38 : decode cX12_told 38 = .ok (.if_icmp .ge 12, 3) := by decide +kernel
theorem dX12_told_41 : decode cX12_told 41 = .ok (.aload_n 0, 1) := by decide +kernel
theorem dX12_told_42 : decode cX12_told 42 = .ok (.getfield 23, 3) := by decide +kernel
theorem dX12_told_45 : decode cX12_told 45 = .ok (.iload_n 1, 1) := by decide +kernel
theorem dX12_told_46 : decode cX12_told 46 = .ok (.iaload, 1) := by decide +kernel
theorem dX12_told_47 : decode cX12_told 47 = .ok (.goto 37, 3) := by decide +kernel
theorem dX12_told_5 : decode cX12_told 5 = .ok (.aload_n 0, 1) := by decide +kernel
theorem dX12_told_50 : decode cX12_told 50 = .ok (.iload_n 1, 1) := by decide +kernel
theorem dX12_told_51 : decode cX12_told 51 = .ok (.bipush 6, 2) := by decide +kernel
theorem dX12_told_53 : decode cX12_told 53 = .ok (.if_icmp .ne 10, 3) := by decide +kernel
theorem dX12_told_56 : decode cX12_told 56 = .ok (.aload_n 0, 1) := by decide +kernel
theorem dX12_told_57 : decode cX12_told 57 = .ok (.getfield 204, 3) := by decide +kernel
theorem dX12_told_6 : decode cX12_told 6 = .ok (.iload_n 1, 1) := by decide +kernel
theorem dX12_told_60 : decode cX12_told 60 = .ok (.goto 24, 3) := by decide +kernel
theorem dX12_told_63 : decode cX12_told 63 = .ok (.iload_n 1, 1) := by decide +kernel
theorem dX12_told_64 : decode cX12_told 64 = .ok (.bipush 7, 2) := by decide +kernel
theorem dX12_told_66 : decode cX12_told 66 = .ok (.if_icmp .ne 10, 3) := by decide +kernel
theorem dX12_told_69 : decode cX12_told 69 = .ok (.aload_n 0, 1) := by decide +kernel
theorem dX12_told_7 : decode cX12_told 7 = .ok (.iconst 0, 1) := by decide +kernel
theorem dX12_told_70 : decode cX12_told 70 = .ok (.getfield 209, 3) := by decide +kernel
theorem dX12_told_73 : decode cX12_told 73 = .ok (.goto 11, 3) := by decide +kernel
theorem dX12_told_76 : decode cX12_told 76 = .ok (.aload_n 0, 1) := by decide +kernel
theorem dX12_told_77 : decode cX12_told 77 = .ok (.getfield 29, 3) := by decide +kernel
theorem dX12_told_8 : decode cX12_told 8 = .ok (.bipush 8, 2) := by decide +kernel
theorem dX12_told_80 : decode cX12_told 80 = .ok (.sipush 388, 3) := by decide +kernel
theorem dX12_told_83 : decode cX12_told 83 = .ok (.iaload, 1) := by decide +kernel
theorem dX12_told_84 : decode cX12_told 84 = .ok (.ireturn, 1) := by decide +kernel
theorem dX12_work_0 : decode cX12_work 0 = .ok (.aload_n 0, 1) := by decide +kernel
theorem dX12_work_1 : decode cX12_work 1 = .ok (.iconst 0, 1) := by decide +kernel
theorem dX12_work_10 : decode cX12_work 10 = .ok (.ifCond .eq 18, 3) := by decide +kernel
theorem dX12_work_13 : decode cX12_work 13 = .ok (.aload_n 0, 1) := by decide +kernel
theorem dX12_work_14 : decode cX12_work 14 = .ok (.iload_n 2, 1) := by decide +kernel
theorem dX12_work_15 : decode cX12_work 15 = .ok (.iconst 0, 1) := by decide +kernel
theorem dX12_work_16 : decode cX12_work 16 = .ok (.iconst 1, 1) := by decide +kernel
theorem dX12_work_17 : decode cX12_work 17 = .ok (.invokestatic 279, 3) := by decide +kernel
theorem dX12_work_2 : decode cX12_work 2 = .ok (.putfield 1, 3) := by decide +kernel
theorem dX12_work_20 : decode cX12_work 20 = .ok (.iconst 2, 1) := by decide +kernel
theorem dX12_work_21 : decode cX12_work 21 = .ok (.iconst 2, 1) := by decide +kernel
theorem dX12_work_22 : decode cX12_work 22 = .ok (.invokevirtual 175, 3) := by decide +kernel
theorem dX12_work_25 : decode cX12_work 25 = .ok (.ifCond .ne 5, 3) := by decide +kernel
theorem dX12_work_28 : decode cX12_work 28 = .ok (.iconst 0, 1) := by decide +kernel
theorem dX12_work_29 : decode cX12_work 29 = .ok (.ireturn, 1) := by decide +kernel
theorem dX12_work_30 : decode cX12_work 30 = .ok (.iload_n 2, 1) := by decide +kernel
theorem dX12_work_31 : decode cX12_work 31 = .ok (.ifCond .ne 17, 3) := by decide +kernel
theorem dX12_work_34 : decode cX12_work 34 = .ok (.aload_n 0, 1) := by decide +kernel
theorem dX12_work_35 : decode cX12_work 35 = .ok (.getfield 23, 3) := by decide +kernel
theorem dX12_work_38 : decode cX12_work 38 = .ok (.bipush 28, 2) := by decide +kernel
theorem dX12_work_40 : decode cX12_work 40 = .ok (.iconst 5, 1) := by decide +kernel
theorem dX12_work_41 : decode cX12_work 41 = .ok (.iload_n 1, 1) := by decide +kernel
theorem dX12_work_42 : decode cX12_work 42 = .ok (.imul, 1) := by decide +kernel
theorem dX12_work_43 : decode cX12_work 43 = .ok (.iadd, 1) := by decide +kernel
theorem dX12_work_44 : decode cX12_work 44 = .ok (.iaload, 1) := by decide +kernel
theorem dX12_work_45 : decode cX12_work 45 = .ok (.goto 16, 3) := by decide +kernel
theorem dX12_work_48 : decode cX12_work 48 = .ok (.aload_n 0, 1) := by decide +kernel
theorem dX12_work_49 : decode cX12_work 49 = .ok (.getfield 23, 3) := by decide +kernel
theorem dX12_work_5 : decode cX12_work 5 = .ok (.aload_n 0, 1) := by decide +kernel
theorem dX12_work_52 : decode cX12_work 52 = .ok (.bipush 28, 2) := by decide +kernel
theorem dX12_work_54 : decode cX12_work 54 = .ok (.iconst 5, 1) := by decide +kernel
theorem dX12_work_55 : decode cX12_work 55 = .ok (.iload_n 1, 1) := by decide +kernel
theorem dX12_work_56 : decode cX12_work 56 = .ok (.imul, 1) := by decide +kernel
theorem dX12_work_57 : decode cX12_work 57 = .ok (.iadd, 1) := by decide +kernel
theorem dX12_work_58 : decode cX12_work 58 = .ok (.iconst 4, 1) := by decide +kernel
theorem dX12_work_59 : decode cX12_work 59 = .ok (.iadd, 1) := by decide +kernel
theorem dX12_work_6 : decode cX12_work 6 = .ok (.iload_n 1, 1) := by decide +kernel
theorem dX12_work_60 : decode cX12_work 60 = .ok (.iaload, 1) := by decide +kernel
theorem dX12_work_61 : decode cX12_work 61 = .ok (.ireturn, 1) := by decide +kernel
theorem dX12_work_7 : decode cX12_work 7 = .ok (.invokevirtual 300, 3) := by decide +kernel
theorem dX12_works_0 : decode cX12_works 0 = .ok (.bipush 28, 2) := by decide +kernel
theorem dX12_works_100 : decode cX12_works 100 = .ok (.aload_n 0, 1) := by decide +kernel
theorem dX12_works_101 : decode cX12_works 101 = .ok (.getfield 23, 3) := by decide +kernel
theorem dX12_works_104 : decode cX12_works 104 = .ok (.iload_n 2, 1) := by decide +kernel
theorem dX12_works_105 : decode cX12_works 105 = .ok (.iconst 2, 1) := by decide +kernel
theorem dX12_works_106 : decode cX12_works 106 = .ok (.iadd, 1) := by decide +kernel
theorem dX12_works_107 : decode cX12_works 107 = .ok (.iaload, 1) := by decide +kernel
theorem dX12_works_108 : decode cX12_works 108 = .ok (.invokestatic 289, 3) := by decide +kernel
theorem dX12_works_11 : decode cX12_works 11 = .ok (.sipush 198, 3) := by decide +kernel
theorem dX12_works_111 : decode cX12_works 111 = .ok (.iadd, 1) := by decide +kernel
theorem dX12_works_112 : decode cX12_works 112 = .ok (.istore_n 3, 1) := by decide +kernel
theorem dX12_works_113 : decode cX12_works 113 = .ok (.aload_n 0, 1) := by decide +kernel
theorem dX12_works_114 : decode cX12_works 114 = .ok (.getfield 23, 3) := by decide +kernel
theorem dX12_works_117 : decode cX12_works 117 = .ok (.iload_n 2, 1) := by decide +kernel
theorem dX12_works_118 : decode cX12_works 118 = .ok (.iaload, 1) := by decide +kernel
theorem dX12_works_119 : decode cX12_works 119 = .ok (.iconst 1, 1) := by decide +kernel
theorem dX12_works_120 : decode cX12_works 120 = .ok (.if_icmp .ne 21, 3) := by decide +kernel
theorem dX12_works_123 : decode cX12_works 123 = .ok (.aload_n 0, 1) := by decide +kernel
theorem dX12_works_124 : decode cX12_works 124 = .ok (.getfield 29, 3) := by decide +kernel
theorem dX12_works_127 : decode cX12_works 127 = .ok (.iload_n 3, 1) := by decide +kernel
theorem dX12_works_128 : decode cX12_works 128 = .ok (.iaload, 1) := by decide +kernel
theorem dX12_works_129 : decode cX12_works 129 = .ok (.aload_n 0, 1) := by decide +kernel
theorem dX12_works_130 : decode cX12_works 130 = .ok (.getfield 23, 3) := by decide +kernel
theorem dX12_works_133 : decode cX12_works 133 = .ok (.iload_n 2, 1) := by decide +kernel
theorem dX12_works_134 : decode cX12_works 134 = .ok (.iconst 3, 1) := by decide +kernel
theorem dX12_works_135 : decode cX12_works 135 = .ok (.iadd, 1) := by decide +kernel
theorem dX12_works_136 : decode cX12_works 136 = .ok (.iaload, 1) := by decide +kernel
theorem dX12_works_137 : decode cX12_works 137 = .ok (.iadd, 1) := by decide +kernel
theorem dX12_works_138 : decode cX12_works 138 = .ok (.goto 18, 3) := by decide +kernel
theorem dX12_works_14 : decode cX12_works 14 = .ok (.iload_n 1, 1) := by decide +kernel
theorem dX12_works_141 : decode cX12_works 141 = .ok (.aload_n 0, 1) := by decide +kernel
theorem dX12_works_142 : decode cX12_works 142 = .ok (.getfield 29, 3) := by decide +kernel
theorem dX12_works_145 : decode cX12_works 145 = .ok (.iload_n 3, 1) := by decide +kernel
theorem dX12_works_146 : decode cX12_works 146 = .ok (.iaload, 1) := by decide +kernel
theorem dX12_works_147 : decode cX12_works 147 = .ok (.aload_n 0, 1) := by decide +kernel
theorem dX12_works_148 : decode cX12_works 148 = .ok (.getfield 23, 3) := by decide +kernel
theorem dX12_works_15 : decode cX12_works 15 = .ok (.iadd, 1) := by decide +kernel
theorem dX12_works_151 : decode cX12_works 151 = .ok (.iload_n 2, 1) := by decide +kernel
theorem dX12_works_152 : decode cX12_works 152 = .ok (.iconst 3, 1) := by decide +kernel
theorem dX12_works_153 : decode cX12_works 153 = .ok (.iadd, 1) := by decide +kernel
theorem dX12_works_154 : decode cX12_works 154 = .ok (.iaload, 1) := by decide +kernel
theorem dX12_works_155 : decode cX12_works 155 = .ok (.isub, 1) := by decide +kernel
theorem dX12_works_156 : decode cX12_works 156 = .ok (.istore 4, 2) := by decide +kernel
theorem dX12_works_158 : decode cX12_works 158 = .ok (.aload_n 0, 1) := by decide +kernel
theorem dX12_works_159 : decode cX12_works 159 = .ok (.getfield 29, 3) := by decide +kernel
theorem dX12_works_16 : decode cX12_works 16 = .ok (.iconst 1, 1) := by decide +kernel
theorem dX12_works_162 : decode cX12_works 162 = .ok (.iload_n 3, 1) := by decide +kernel
theorem dX12_works_163 : decode cX12_works 163 = .ok (.iload 4, 2) := by decide +kernel
theorem dX12_works_165 : decode cX12_works 165 = .ok (.ifCond .ge 7, 3) := by decide +kernel
theorem dX12_works_168 : decode cX12_works 168 = .ok (.iconst 0, 1) := by decide +kernel
theorem dX12_works_169 : decode cX12_works 169 = .ok (.goto 17, 3) := by decide +kernel
theorem dX12_works_17 : decode cX12_works 17 = .ok (.iastore, 1) := by decide +kernel
theorem dX12_works_172 : decode cX12_works 172 = .ok (.iload 4, 2) := by decide +kernel
theorem dX12_works_174 : decode cX12_works 174 = .ok (.bipush 99, 2) := by decide +kernel
theorem dX12_works_176 : decode cX12_works 176 = .ok (.if_icmp .le 8, 3) := by decide +kernel
theorem dX12_works_179 : decode cX12_works 179 = .ok (.bipush 99, 2) := by decide +kernel
theorem dX12_works_18 : decode cX12_works 18 = .ok (.aload_n 0, 1) := by decide +kernel
theorem dX12_works_181 : decode cX12_works 181 = .ok (.goto 5, 3) := by decide +kernel
theorem dX12_works_184 : decode cX12_works 184 = .ok (.iload 4, 2) := by decide +kernel
theorem dX12_works_186 : decode cX12_works 186 = .ok (.iastore, 1) := by decide +kernel
theorem dX12_works_187 : decode cX12_works 187 = .ok (.return_, 1) := by decide +kernel
theorem dX12_works_19 : decode cX12_works 19 = .ok (.getfield 23, 3) := by decide +kernel
theorem dX12_works_2 : decode cX12_works 2 = .ok (.iconst 5, 1) := by decide +kernel
theorem dX12_works_22 : decode cX12_works 22 = .ok (.iload_n 2, 1) := by decide +kernel
theorem dX12_works_23 : decode cX12_works 23 = .ok (.iaload, 1) := by decide +kernel
theorem dX12_works_24 : decode cX12_works 24 = .ok (.ifCond .ne 24, 3) := by decide +kernel
theorem dX12_works_27 : decode cX12_works 27 = .ok (.aload_n 0, 1) := by decide +kernel
theorem dX12_works_28 : decode cX12_works 28 = .ok (.getfield 29, 3) := by decide +kernel
theorem dX12_works_3 : decode cX12_works 3 = .ok (.iload_n 1, 1) := by decide +kernel
theorem dX12_works_31 : decode cX12_works 31 = .ok (.sipush 192, 3) := by decide +kernel
theorem dX12_works_34 : decode cX12_works 34 = .ok (.aload_n 0, 1) := by decide +kernel
theorem dX12_works_35 : decode cX12_works 35 = .ok (.getfield 23, 3) := by decide +kernel
theorem dX12_works_38 : decode cX12_works 38 = .ok (.iload_n 2, 1) := by decide +kernel
theorem dX12_works_39 : decode cX12_works 39 = .ok (.iconst 1, 1) := by decide +kernel
theorem dX12_works_4 : decode cX12_works 4 = .ok (.imul, 1) := by decide +kernel
theorem dX12_works_40 : decode cX12_works 40 = .ok (.iadd, 1) := by decide +kernel
theorem dX12_works_41 : decode cX12_works 41 = .ok (.iaload, 1) := by decide +kernel
theorem dX12_works_42 : decode cX12_works 42 = .ok (.iadd, 1) := by decide +kernel
theorem dX12_works_43 : decode cX12_works 43 = .ok (.iconst 0, 1) := by decide +kernel
theorem dX12_works_44 : decode cX12_works 44 = .ok (.iastore, 1) := by decide +kernel
theorem dX12_works_45 : decode cX12_works 45 = .ok (.goto 142, 3) := by decide +kernel
theorem dX12_works_48 : decode cX12_works 48 = .ok (.aload_n 0, 1) := by decide +kernel
theorem dX12_works_49 : decode cX12_works 49 = .ok (.getfield 23, 3) := by decide +kernel
theorem dX12_works_5 : decode cX12_works 5 = .ok (.iadd, 1) := by decide +kernel
theorem dX12_works_52 : decode cX12_works 52 = .ok (.iload_n 2, 1) := by decide +kernel
theorem dX12_works_53 : decode cX12_works 53 = .ok (.iaload, 1) := by decide +kernel
theorem dX12_works_54 : decode cX12_works 54 = .ok (.iconst 3, 1) := by decide +kernel
theorem dX12_works_55 : decode cX12_works 55 = .ok (.if_icmp .ne 36, 3) := by decide +kernel
theorem dX12_works_58 : decode cX12_works 58 = .ok (.aload_n 0, 1) := by decide +kernel
theorem dX12_works_59 : decode cX12_works 59 = .ok (.getfield 29, 3) := by decide +kernel
theorem dX12_works_6 : decode cX12_works 6 = .ok (.istore_n 2, 1) := by decide +kernel
theorem dX12_works_62 : decode cX12_works 62 = .ok (.sipush 207, 3) := by decide +kernel
theorem dX12_works_65 : decode cX12_works 65 = .ok (.aload_n 0, 1) := by decide +kernel
theorem dX12_works_66 : decode cX12_works 66 = .ok (.getfield 29, 3) := by decide +kernel
theorem dX12_works_69 : decode cX12_works 69 = .ok (.sipush 206, 3) := by decide +kernel
theorem dX12_works_7 : decode cX12_works 7 = .ok (.aload_n 0, 1) := by decide +kernel
theorem dX12_works_72 : decode cX12_works 72 = .ok (.iaload, 1) := by decide +kernel
theorem dX12_works_73 : decode cX12_works 73 = .ok (.iadd, 1) := by decide +kernel
theorem dX12_works_74 : decode cX12_works 74 = .ok (.iload_n 1, 1) := by decide +kernel
theorem dX12_works_75 : decode cX12_works 75 = .ok (.iastore, 1) := by decide +kernel
theorem dX12_works_76 : decode cX12_works 76 = .ok (.aload_n 0, 1) := by decide +kernel
theorem dX12_works_77 : decode cX12_works 77 = .ok (.getfield 29, 3) := by decide +kernel
theorem dX12_works_8 : decode cX12_works 8 = .ok (.getfield 29, 3) := by decide +kernel
theorem dX12_works_80 : decode cX12_works 80 = .ok (.sipush 206, 3) := by decide +kernel
theorem dX12_works_83 : decode cX12_works 83 = .ok (.dup2, 1) := by decide +kernel
theorem dX12_works_84 : decode cX12_works 84 = .ok (.iaload, 1) := by decide +kernel
theorem dX12_works_85 : decode cX12_works 85 = .ok (.iconst 1, 1) := by decide +kernel
theorem dX12_works_86 : decode cX12_works 86 = .ok (.iadd, 1) := by decide +kernel
theorem dX12_works_87 : decode cX12_works 87 = .ok (.iastore, 1) := by decide +kernel
theorem dX12_works_88 : decode cX12_works 88 = .ok (.goto 99, 3) := by decide +kernel
theorem dX12_works_91 : decode cX12_works 91 = .ok (.iconst 0, 1) := by decide +kernel
theorem dX12_works_92 : decode cX12_works 92 = .ok (.aload_n 0, 1) := by decide +kernel
theorem dX12_works_93 : decode cX12_works 93 = .ok (.getfield 23, 3) := by decide +kernel
theorem dX12_works_96 : decode cX12_works 96 = .ok (.iload_n 2, 1) := by decide +kernel
theorem dX12_works_97 : decode cX12_works 97 = .ok (.iconst 1, 1) := by decide +kernel
theorem dX12_works_98 : decode cX12_works 98 = .ok (.iadd, 1) := by decide +kernel
theorem dX12_works_99 : decode cX12_works 99 = .ok (.iaload, 1) := by decide +kernel
def vs_m_told : List Cond := .code yX12_told cX12_told 2 (some .int) :: (([.fieldLink RX12 1 "KerbSplashModel" "thrown" "I", .fieldLink RX12 29 "KerbSplashModel" "s" "[I", .fieldLink RX12 209 "KerbSplashModel" "laws" "I", .fieldLink RX12 204 "KerbSplashModel" "rains" "I", .fieldLink RX12 23 "KerbSplashModel" "b" "[I"] : List Cond) ++ ((wsX120) ++ ((va_wsS RX12 279 yX12_within vs_m_within) ++ ((wsV RX12 175 RX12 yX12_may vs_m_may) ++ ((wsV RX12 283 RX12 yX12_drains vs_m_drains) ++ ([]))))))
set_option maxHeartbeats 4000000 in
set_option maxRecDepth 100000 in
theorem m_told (l : Launch) (hl : l.stackTraces = false) (D : va_G) (cy : Nat → ClassId) (sa : Nat → Nat) (mm m1 m9 m10 m11 m12 m13 m14 m15 m19 m20 m21 m23 m24 m25 m26 m27 m28 m33 m35 : Nat) (th tp sz_ ap bad bk opn fp im nr nl sp_ wtc wcl ir ip shu sfa swr : Int) (f1 f10 f12 : Nat → Int32) (n : Int) (sz : Nat) (hr_th : (-2147483648) ≤ th ∧ th ≤ 2147483647) (hr_tp : 0 ≤ tp ∧ tp ≤ 600) (hr_sz_ : 0 ≤ sz_ ∧ sz_ ≤ 600) (hr_ap : 0 ≤ ap ∧ ap ≤ 602) (hr_bad : (-1) ≤ bad ∧ bad ≤ 602) (hr_bk : 0 ≤ bk ∧ bk ≤ 4) (hr_opn : 0 ≤ opn ∧ opn ≤ 7) (hr_fp : (-2147483648) ≤ fp ∧ fp ≤ 2147483647) (hr_im : 0 ≤ im ∧ im ≤ 3) (hr_nr : 0 ≤ nr ∧ nr ≤ 4) (hr_nl : 0 ≤ nl ∧ nl ≤ 4) (hr_sp_ : 0 ≤ sp_ ∧ sp_ ≤ 602) (hr_wtc : (-2147483648) ≤ wtc ∧ wtc ≤ 2147483647) (hr_wcl : 0 ≤ wcl ∧ wcl ≤ 95) (hr_ir : 0 ≤ ir ∧ ir ≤ 5) (hr_ip : (-2147483648) ≤ ip ∧ ip ≤ 2147483647) (hr_shu : (-2147483648) ≤ shu ∧ shu ≤ 2147483647) (hr_sfa : (-2147483648) ≤ sfa ∧ sfa ≤ 2147483647) (hr_swr : (-2147483648) ≤ swr ∧ swr ≤ 2147483647) (hr_n : (-2147483648) ≤ n ∧ n ≤ 2147483647) (hf10 : BI f10) (hf12 : SI 8 f12) : mI9 l yX12_told vs_m_told ({ frames := 1, cells := 0, slots := 0, locals := 23 }) D cy sa sz [vR mm, vI n] [zO mm 12 [vI th, vR m1, vI tp, vI sz_, vI ap, vI bad, vI bk, vI opn, vI fp, vR m9, vR m10, vR m11, vR m12, vR m13, vR m14, vR m15, vI im, vI nr, vI nl, vR m19, vR m20, vR m21, vI sp_, vR m23, vR m24, vR m25, vR m26, vR m27, vR m28, vI wtc, vI wcl, vI ir, vI ip, vR m33, vI shu, vR m35, vI sfa, vI swr], zI m1 (cy 0) 4 f1, zI m10 (cy 0) 68 f10, zI m12 (cy 0) 389 f12] (fun (r : Int32) (u : SV) => r = iI (u.2.1 0) ∧ ((-2147483648) ≤ u.2.1 1 ∧ u.2.1 1 ≤ 2147483647) ∧ ((-2147483648) ≤ u.2.1 0 ∧ u.2.1 0 ≤ 2147483647) ∧ BI f10 ∧ SI 8 f12) (fun u : SV => [zO mm 12 [vI (u.2.1 1), vR m1, vI tp, vI sz_, vI ap, vI bad, vI bk, vI opn, vI fp, vR m9, vR m10, vR m11, vR m12, vR m13, vR m14, vR m15, vI im, vI nr, vI nl, vR m19, vR m20, vR m21, vI sp_, vR m23, vR m24, vR m25, vR m26, vR m27, vR m28, vI wtc, vI wcl, vI ir, vI ip, vR m33, vI shu, vR m35, vI sfa, vI swr], zI m1 (cy 0) 4 (u.2.2 0), zI m10 (cy 0) 68 f10, zI m12 (cy 0) 389 f12]) 0 0 := by
  refine Met.ofW (cc := cX12_told) (maxL := 2) (ret := (some .int)) (by decide) rfl ?_
  intro p e s m args below meth c s₁ B hml hv
  obtain ⟨rfl, hsz, hP, hG, hD0, hT⟩ := hv
  have hx := B.exec
  have hb := B.bytes
  have hr := B.returns
  have hts := atoms_spec (ws := vs_m_told) B.pre
  have hown : s.vm.findClass RX12 = some m.cls := findClass_of_methodNamed B.named
  have hlocks := B.notSynchronized
  subst hsz
  have hD := hD0.self (sz := s.heap.size)
  generalize hAe : va_A [zO mm 12 [vI th, vR m1, vI tp, vI sz_, vI ap, vI bad, vI bk, vI opn, vI fp, vR m9, vR m10, vR m11, vR m12, vR m13, vR m14, vR m15, vI im, vI nr, vI nl, vR m19, vR m20, vR m21, vI sp_, vR m23, vR m24, vR m25, vR m26, vR m27, vR m28, vI wtc, vI wcl, vI ir, vI ip, vR m33, vI shu, vR m35, vI sfa, vI swr], zI m1 (cy 0) 4 f1, zI m10 (cy 0) 68 f10, zI m12 (cy 0) 389 f12] s.heap.size = A at hD hT ⊢
  have hA : ∀ q : Nat, s.heap.size ≤ q → A q := fun q h => by rw [← hAe]; exact Or.inr h
  have hS : va_S A s.heap s.heap [] := va_S.rf
  have hl0 := lv_entry ([vR mm, vI n]) (n := 2) (Nat.le_of_ble_eq_true rfl)
  rw [lg_entry_eq]
  generalize (lg_sl ([vR mm, vI n]) ++ List.replicate (2 - (lg_sl ([vR mm, vI n])).length) Slot.unset).toArray = ls at hl0 ⊢
  have hlv : lv_has ls 2 [(0, vR mm), (1, vI n)] := hl0
  have lf1 := hts (.fieldLink RX12 1 "KerbSplashModel" "thrown" "I") (List.mem_of_getElem? (i := 1) rfl)
  have hi12 : ∀ w ∈ wsX120, w ∈ vs_m_told := fun w h => List.mem_cons_of_mem _ (List.mem_append_right _ (List.mem_append_left _ h))
  have gg_1 : GoodIn vs_m_told (va_wsS RX12 279 yX12_within vs_m_within) := goodIn_sub (fun w h => List.mem_cons_of_mem _ (List.mem_append_right _ (List.mem_append_right _ (List.mem_append_left _ h)))) (gd_S gd_m_within (by decide +kernel))
  have gg_2 : GoodIn vs_m_told (wsV RX12 175 RX12 yX12_may vs_m_may) := goodIn_sub (fun w h => List.mem_cons_of_mem _ (List.mem_append_right _ (List.mem_append_right _ (List.mem_append_right _ (List.mem_append_left _ h))))) (gd_V gd_m_may (by decide +kernel))
  have lf29 := hts (.fieldLink RX12 29 "KerbSplashModel" "s" "[I") (List.mem_of_getElem? (i := 2) rfl)
  have lf209 := hts (.fieldLink RX12 209 "KerbSplashModel" "laws" "I") (List.mem_of_getElem? (i := 3) rfl)
  have lf204 := hts (.fieldLink RX12 204 "KerbSplashModel" "rains" "I") (List.mem_of_getElem? (i := 4) rfl)
  have lf23 := hts (.fieldLink RX12 23 "KerbSplashModel" "b" "[I") (List.mem_of_getElem? (i := 5) rfl)
  have gg_3 : GoodIn vs_m_told (wsV RX12 283 RX12 yX12_drains vs_m_drains) := goodIn_sub (fun w h => List.mem_cons_of_mem _ (List.mem_append_right _ (List.mem_append_right _ (List.mem_append_right _ (List.mem_append_right _ (List.mem_append_left _ h)))))) (gd_V gd_m_drains (by decide +kernel))
  refine lv_aload_n hx hb dX12_told_0 rfl (lv_at hlv 0 rfl) ?_
  refine lv_iconst (v := iI 0) hx hb dX12_told_1 (by decide) ?_
  refine va_put (D := D) (ci := 12) (v := vI 0) (ty := .int) (C := RX12) (T := TX12) (N := 38) hx hb hts hi12 tyX12 tyX12_ok nmX12 hown hG.1 hP hD hS 0 rfl rfl 0 (by decide) lf1 (fun _ h9 => h9) rfl (by decide +kernel) rfl rfl (Nat.le_of_ble_eq_true rfl) dX12_told_2 (fun H locs hP hD hS => ?_)
  obtain ⟨hP, hD⟩ := pw9 [zO mm 12 [vI 0, vR m1, vI tp, vI sz_, vI ap, vI bad, vI bk, vI opn, vI fp, vR m9, vR m10, vR m11, vR m12, vR m13, vR m14, vR m15, vI im, vI nr, vI nl, vR m19, vR m20, vR m21, vI sp_, vR m23, vR m24, vR m25, vR m26, vR m27, vR m28, vI wtc, vI wcl, vI ir, vI ip, vR m33, vI shu, vR m35, vI sfa, vI swr], zI m1 (cy 0) 4 f1, zI m10 (cy 0) 68 f10, zI m12 (cy 0) 389 f12] hP hD
  refine lv_aload_n hx hb dX12_told_5 rfl (lv_at hlv 0 rfl) ?_
  refine lv_iload_n hx hb dX12_told_6 rfl (lv_at hlv 1 rfl) ?_
  refine lv_iconst (v := iI 0) hx hb dX12_told_7 (by decide) ?_
  refine lv_bipush (v := iI 8) hx hb dX12_told_8 (by decide) ?_
  refine cjr_i [true, true, true, true] (fun pre9 => (va_runS (As := [vI n, vI 0, vI 8]) (rest := [vR mm]) ⟨hx, hb, hml, hown, hts⟩ (m_within l hl D cy sa n 0 8 H.size (by first | exact hr_n | omega) (by show ((-2147483648) : Int) ≤ 0 ∧ (0 : Int) ≤ 2147483647; decide) (by show ((-2147483648) : Int) ≤ 8 ∧ (8 : Int) ≤ 2147483647; decide)) (va_cwS 3 hts gg_1 rfl rfl rfl (by decide +kernel) ⟨Nat.le_of_ble_eq_true rfl, Nat.le_of_ble_eq_true rfl⟩) ⟨pcW.blind, pre9⟩ rfl rfl hlv.1 rfl (lv_room (Nat.le_of_ble_eq_true rfl)) dX12_told_10 ⟨Nat.le_of_ble_eq_true rfl, Nat.le_of_ble_eq_true rfl⟩)) hP hD hS hA hG hT [] rfl (by decide +kernel) (fun r1 u1 H locs hw1 hq9 hS => ?_)
  obtain ⟨rfl, hq1_1, hq1_2, hq1_3⟩ := hw1
  obtain ⟨hP, hD⟩ := pd9 [zO mm 12 [vI 0, vR m1, vI tp, vI sz_, vI ap, vI bad, vI bk, vI opn, vI fp, vR m9, vR m10, vR m11, vR m12, vR m13, vR m14, vR m15, vI im, vI nr, vI nl, vR m19, vR m20, vR m21, vI sp_, vR m23, vR m24, vR m25, vR m26, vR m27, vR m28, vI wtc, vI wcl, vI ir, vI ip, vR m33, vI shu, vR m35, vI sfa, vI swr], zI m1 (cy 0) 4 f1, zI m10 (cy 0) 68 f10, zI m12 (cy 0) 389 f12] hq9
  refine lv_iconst (v := iI 1) hx hb dX12_told_13 (by decide) ?_
  refine lv_iconst (v := iI 2) hx hb dX12_told_14 (by decide) ?_
  refine cjr_i [false, false, true, true] (fun pre9 => (va_runV (As := [vI (u1.2.1 0), vI 1, vI 2]) (rest := []) ⟨hx, hb, hml, hown, hts⟩ (m_may l hl D cy sa mm m1 m9 m10 m11 m12 m13 m14 m15 m19 m20 m21 m23 m24 m25 m26 m27 m28 m33 m35 0 tp sz_ ap bad bk opn fp im nr nl sp_ wtc wcl ir ip shu sfa swr f1 (u1.2.1 0) 1 2 H.size (by show ((-2147483648) : Int) ≤ 0 ∧ (0 : Int) ≤ 2147483647; decide) (by first | exact hr_tp | omega) (by first | exact hr_sz_ | omega) (by first | exact hr_ap | omega) (by first | exact hr_bad | omega) (by first | exact hr_bk | omega) (by first | exact hr_opn | omega) (by first | exact hr_fp | omega) (by first | exact hr_im | omega) (by first | exact hr_nr | omega) (by first | exact hr_nl | omega) (by first | exact hr_sp_ | omega) (by first | exact hr_wtc | omega) (by first | exact hr_wcl | omega) (by first | exact hr_ir | omega) (by first | exact hr_ip | omega) (by first | exact hr_shu | omega) (by first | exact hr_sfa | omega) (by first | exact hr_swr | omega) (by first | exact hq1_1 | omega) (by show (1 : Int) ≤ 1 ∧ (1 : Int) ≤ 4; decide) (by show (0 : Int) ≤ 2 ∧ (2 : Int) ≤ 3; decide)) (cwV 3 hts gg_2 rfl rfl rfl (by decide +kernel) ⟨Nat.le_of_ble_eq_true rfl, Nat.le_of_ble_eq_true rfl⟩) ⟨pcW.blind, (va_recv hG.1 hP (ci := 12) (q0 := 0) rfl rfl), pre9⟩ rfl rfl hlv.1 rfl (lv_room (Nat.le_of_ble_eq_true rfl)) dX12_told_15 ⟨Nat.le_of_ble_eq_true rfl, Nat.le_of_ble_eq_true rfl⟩)) hP hD hS hA hG hT [0, 1] rfl (by decide +kernel) (fun r2 u2 H locs hw2 hq9 hS => ?_)
  obtain ⟨rfl, hq2_1, hq2_2, hq2_3, hq2_4⟩ := hw2
  obtain ⟨hP, hD⟩ := pd9 [zI m10 (cy 0) 68 f10, zI m12 (cy 0) 389 f12, zO mm 12 [vI (u2.2.1 1), vR m1, vI tp, vI sz_, vI ap, vI bad, vI bk, vI opn, vI fp, vR m9, vR m10, vR m11, vR m12, vR m13, vR m14, vR m15, vI im, vI nr, vI nl, vR m19, vR m20, vR m21, vI sp_, vR m23, vR m24, vR m25, vR m26, vR m27, vR m28, vI wtc, vI wcl, vI ir, vI ip, vR m33, vI shu, vR m35, vI sfa, vI swr], zI m1 (cy 0) 4 (u2.2.2 0)] hq9
  refine iz_ne (tgt := 23) hx hb dX12_told_18 (by decide) (by first | exact rgw hq2_2 (by decide) (by decide) | omega) (fun c_1 => ?_) (fun c_1 => ?_)
  · refine lv_iload_n hx hb dX12_told_23 rfl (lv_at hlv 1 rfl) ?_
    refine lv_iconst (v := iI 2) hx hb dX12_told_24 (by decide) ?_
    refine ir_ne (tgt := 35) hx hb dX12_told_25 (by decide) (by first | exact hr_n | omega) (by show ((-2147483648) : Int) ≤ 2 ∧ (2 : Int) ≤ 2147483647; decide) (fun c_2 => ?_) (fun c_2 => ?_)
    · refine lv_iload_n hx hb dX12_told_35 rfl (lv_at hlv 1 rfl) ?_
      refine lv_bipush (v := iI 6) hx hb dX12_told_36 (by decide) ?_
      refine ir_ge (tgt := 50) hx hb dX12_told_38 (by decide) (by first | exact hr_n | omega) (by show ((-2147483648) : Int) ≤ 6 ∧ (6 : Int) ≤ 2147483647; decide) (fun c_3 => ?_) (fun c_3 => ?_)
      · refine lv_iload_n hx hb dX12_told_50 rfl (lv_at hlv 1 rfl) ?_
        refine lv_bipush (v := iI 6) hx hb dX12_told_51 (by decide) ?_
        refine ir_ne (tgt := 63) hx hb dX12_told_53 (by decide) (by first | exact hr_n | omega) (by show ((-2147483648) : Int) ≤ 6 ∧ (6 : Int) ≤ 2147483647; decide) (fun c_4 => ?_) (fun c_4 => ?_)
        · refine lv_iload_n hx hb dX12_told_63 rfl (lv_at hlv 1 rfl) ?_
          refine lv_bipush (v := iI 7) hx hb dX12_told_64 (by decide) ?_
          refine ir_ne (tgt := 76) hx hb dX12_told_66 (by decide) (by first | exact hr_n | omega) (by show ((-2147483648) : Int) ≤ 7 ∧ (7 : Int) ≤ 2147483647; decide) (fun c_5 => ?_) (fun c_5 => ?_)
          · refine lv_aload_n hx hb dX12_told_76 rfl (lv_at hlv 0 rfl) ?_
            refine va_get (D := D) (ci := 12) (v := vR m12) (C := RX12) (T := TX12) (N := 38) hx hb hts hi12 hown hG.1 hP 2 rfl rfl 12 (by decide) lf29 (fun _ h9 => h9) rfl dX12_told_77 ?_
            refine lv_sipush (v := iI 388) hx hb dX12_told_80 (by decide) ?_
            refine va_iald hx hb hG.1 hP 1 0 rfl rfl (iI_in (by omega) (by decide)) dX12_told_83 ?_
            refine lt_nz (i := 388) (by omega) (fun z_6 hz_6 lz_6 uz_6 => ?_)
            have hz_6 : z_6 = nz f12 388 := hz_6
            have hbz_6_6 := hf12.2.2.2.2.2.2
            refine W.widen (k := 0) (n := 0) (Nat.le_of_ble_eq_true rfl) (Nat.le_of_ble_eq_true rfl) ?_
            exact W.iret (v := iI z_6) hx hb hr (fun t ht hW => ⟨⟨iI z_6, ((fun k => ([] : List Nat).getD k 0), (fun k => ([z_6, (u2.2.1 1)] : List Int).getD k 0), (fun k => ([(u2.2.2 0)] : List (Nat → Int32)).getD k (fun _ => 0))), rfl, ⟨rfl, (by show ((-2147483648) ≤ (u2.2.1 1) ∧ (u2.2.1 1) ≤ 2147483647); first | exact hq2_1 | omega), (by show ((-2147483648) ≤ z_6 ∧ z_6 ≤ 2147483647); omega), hf10, hf12⟩, at9 ht hP hD [2, 3, 0, 1] (by decide +kernel) rfl⟩, hS.F ht⟩) hS.2.2 dX12_told_84
          · refine lv_aload_n hx hb dX12_told_69 rfl (lv_at hlv 0 rfl) ?_
            refine va_get (D := D) (ci := 12) (v := vI nl) (C := RX12) (T := TX12) (N := 38) hx hb hts hi12 hown hG.1 hP 2 rfl rfl 18 (by decide) lf209 (fun _ h9 => h9) rfl dX12_told_70 ?_
            refine lv_goto (tgt := 84) hx hb dX12_told_73 (by decide) ?_
            refine W.widen (k := 0) (n := 0) (Nat.le_of_ble_eq_true rfl) (Nat.le_of_ble_eq_true rfl) ?_
            exact W.iret (v := iI nl) hx hb hr (fun t ht hW => ⟨⟨iI nl, ((fun k => ([] : List Nat).getD k 0), (fun k => ([nl, (u2.2.1 1)] : List Int).getD k 0), (fun k => ([(u2.2.2 0)] : List (Nat → Int32)).getD k (fun _ => 0))), rfl, ⟨rfl, (by show ((-2147483648) ≤ (u2.2.1 1) ∧ (u2.2.1 1) ≤ 2147483647); first | exact hq2_1 | omega), (by show ((-2147483648) ≤ nl ∧ nl ≤ 2147483647); first | exact rgw hr_nl (by decide) (by decide) | omega), hf10, hf12⟩, at9 ht hP hD [2, 3, 0, 1] (by decide +kernel) rfl⟩, hS.F ht⟩) hS.2.2 dX12_told_84
        · refine lv_aload_n hx hb dX12_told_56 rfl (lv_at hlv 0 rfl) ?_
          refine va_get (D := D) (ci := 12) (v := vI nr) (C := RX12) (T := TX12) (N := 38) hx hb hts hi12 hown hG.1 hP 2 rfl rfl 17 (by decide) lf204 (fun _ h9 => h9) rfl dX12_told_57 ?_
          refine lv_goto (tgt := 84) hx hb dX12_told_60 (by decide) ?_
          refine W.widen (k := 0) (n := 0) (Nat.le_of_ble_eq_true rfl) (Nat.le_of_ble_eq_true rfl) ?_
          exact W.iret (v := iI nr) hx hb hr (fun t ht hW => ⟨⟨iI nr, ((fun k => ([] : List Nat).getD k 0), (fun k => ([nr, (u2.2.1 1)] : List Int).getD k 0), (fun k => ([(u2.2.2 0)] : List (Nat → Int32)).getD k (fun _ => 0))), rfl, ⟨rfl, (by show ((-2147483648) ≤ (u2.2.1 1) ∧ (u2.2.1 1) ≤ 2147483647); first | exact hq2_1 | omega), (by show ((-2147483648) ≤ nr ∧ nr ≤ 2147483647); first | exact rgw hr_nr (by decide) (by decide) | omega), hf10, hf12⟩, at9 ht hP hD [2, 3, 0, 1] (by decide +kernel) rfl⟩, hS.F ht⟩) hS.2.2 dX12_told_84
      · refine lv_aload_n hx hb dX12_told_41 rfl (lv_at hlv 0 rfl) ?_
        refine va_get (D := D) (ci := 12) (v := vR m10) (C := RX12) (T := TX12) (N := 38) hx hb hts hi12 hown hG.1 hP 2 rfl rfl 10 (by decide) lf23 (fun _ h9 => h9) rfl dX12_told_42 ?_
        refine lv_iload_n hx hb dX12_told_45 rfl (lv_at hlv 1 rfl) ?_
        refine va_iald hx hb hG.1 hP 0 0 rfl rfl (iI_in (by omega) (by decide)) dX12_told_46 ?_
        refine lt_nz (i := n) (by omega) (fun z_7 hz_7 lz_7 uz_7 => ?_)
        refine lv_goto (tgt := 84) hx hb dX12_told_47 (by decide) ?_
        refine W.widen (k := 0) (n := 0) (Nat.le_of_ble_eq_true rfl) (Nat.le_of_ble_eq_true rfl) ?_
        exact W.iret (v := iI z_7) hx hb hr (fun t ht hW => ⟨⟨iI z_7, ((fun k => ([] : List Nat).getD k 0), (fun k => ([z_7, (u2.2.1 1)] : List Int).getD k 0), (fun k => ([(u2.2.2 0)] : List (Nat → Int32)).getD k (fun _ => 0))), rfl, ⟨rfl, (by show ((-2147483648) ≤ (u2.2.1 1) ∧ (u2.2.1 1) ≤ 2147483647); first | exact hq2_1 | omega), (by show ((-2147483648) ≤ z_7 ∧ z_7 ≤ 2147483647); omega), hf10, hf12⟩, at9 ht hP hD [2, 3, 0, 1] (by decide +kernel) rfl⟩, hS.F ht⟩) hS.2.2 dX12_told_84
    · refine lv_aload_n hx hb dX12_told_28 rfl (lv_at hlv 0 rfl) ?_
      refine cjr_i [false, false, false, true] (fun pre9 => (va_runV (As := []) (rest := []) ⟨hx, hb, hml, hown, hts⟩ (m_drains l hl D cy sa mm m1 m9 m10 m11 m12 m13 m14 m15 m19 m20 m21 m23 m24 m25 m26 m27 m28 m33 m35 (u2.2.1 1) tp sz_ ap bad bk opn fp im nr nl sp_ wtc wcl ir ip shu sfa swr f10 f12 8 H.size (by first | exact hq2_1 | omega) (by first | exact hr_tp | omega) (by first | exact hr_sz_ | omega) (by first | exact hr_ap | omega) (by first | exact hr_bad | omega) (by first | exact hr_bk | omega) (by first | exact hr_opn | omega) (by first | exact hr_fp | omega) (by first | exact hr_im | omega) (by first | exact hr_nr | omega) (by first | exact hr_nl | omega) (by first | exact hr_sp_ | omega) (by first | exact hr_wtc | omega) (by first | exact hr_wcl | omega) (by first | exact hr_ir | omega) (by first | exact hr_ip | omega) (by first | exact hr_shu | omega) (by first | exact hr_sfa | omega) (by first | exact hr_swr | omega) (by show (8 : Int) ≤ 8 ∧ (8 : Int) ≤ 9; decide) hf10 hf12) (cwV 0 hts gg_3 rfl rfl rfl (by decide +kernel) ⟨Nat.le_of_ble_eq_true rfl, Nat.le_of_ble_eq_true rfl⟩) ⟨pcW.blind, (va_recv hG.1 hP (ci := 12) (q0 := 2) rfl rfl), pre9⟩ rfl rfl hlv.1 rfl (lv_room (Nat.le_of_ble_eq_true rfl)) dX12_told_29 ⟨Nat.le_of_ble_eq_true rfl, Nat.le_of_ble_eq_true rfl⟩)) hP hD hS hA hG hT [2, 0, 1] rfl (by decide +kernel) (fun r3 u3 H locs hw3 hq9 hS => ?_)
      obtain ⟨rfl, hq3_1, hq3_2, hq3_3, hq3_4⟩ := hw3
      obtain ⟨hP, hD⟩ := pd9 [zI m1 (cy 0) 4 (u2.2.2 0), zO mm 12 [vI (u2.2.1 1), vR m1, vI tp, vI sz_, vI ap, vI bad, vI bk, vI opn, vI fp, vR m9, vR m10, vR m11, vR m12, vR m13, vR m14, vR m15, vI im, vI nr, vI nl, vR m19, vR m20, vR m21, vI sp_, vR m23, vR m24, vR m25, vR m26, vR m27, vR m28, vI wtc, vI wcl, vI ir, vI ip, vR m33, vI shu, vR m35, vI sfa, vI swr], zI m10 (cy 0) 68 f10, zI m12 (cy 0) 389 f12] hq9
      refine lv_goto (tgt := 84) hx hb dX12_told_32 (by decide) ?_
      refine W.widen (k := 0) (n := 0) (Nat.le_of_ble_eq_true rfl) (Nat.le_of_ble_eq_true rfl) ?_
      exact W.iret (v := iI (u3.2.1 0)) hx hb hr (fun t ht hW => ⟨⟨iI (u3.2.1 0), ((fun k => ([] : List Nat).getD k 0), (fun k => ([(u3.2.1 0), (u2.2.1 1)] : List Int).getD k 0), (fun k => ([(u2.2.2 0)] : List (Nat → Int32)).getD k (fun _ => 0))), rfl, ⟨rfl, (by show ((-2147483648) ≤ (u2.2.1 1) ∧ (u2.2.1 1) ≤ 2147483647); first | exact hq2_1 | omega), (by show ((-2147483648) ≤ (u3.2.1 0) ∧ (u3.2.1 0) ≤ 2147483647); first | exact rgw hq3_1 (by decide) (by decide) | omega), hq3_3, hq3_4⟩, at9 ht hP hD [1, 0, 2, 3] (by decide +kernel) rfl⟩, hS.F ht⟩) hS.2.2 dX12_told_84
  · refine lv_iconst (v := iI 0) hx hb dX12_told_21 (by decide) ?_
    refine W.widen (k := 0) (n := 0) (Nat.le_of_ble_eq_true rfl) (Nat.le_of_ble_eq_true rfl) ?_
    exact W.iret (v := iI 0) hx hb hr (fun t ht hW => ⟨⟨iI 0, ((fun k => ([] : List Nat).getD k 0), (fun k => ([0, (u2.2.1 1)] : List Int).getD k 0), (fun k => ([(u2.2.2 0)] : List (Nat → Int32)).getD k (fun _ => 0))), rfl, ⟨rfl, (by show ((-2147483648) ≤ (u2.2.1 1) ∧ (u2.2.1 1) ≤ 2147483647); first | exact hq2_1 | omega), (by show ((-2147483648) ≤ 0 ∧ 0 ≤ 2147483647); show ((-2147483648) : Int) ≤ 0 ∧ (0 : Int) ≤ 2147483647; decide), hf10, hf12⟩, at9 ht hP hD [2, 3, 0, 1] (by decide +kernel) rfl⟩, hS.F ht⟩) hS.2.2 dX12_told_22
def vs_m_cell : List Cond := .code yX12_cell cX12_cell 5 (some .int) :: (([.fieldLink RX12 1 "KerbSplashModel" "thrown" "I", .fieldLink RX12 29 "KerbSplashModel" "s" "[I"] : List Cond) ++ ((wsX120) ++ ((wsV RX12 286 RX12 yX12_isCell vs_m_isCell) ++ ((va_wsS RX12 279 yX12_within vs_m_within) ++ ((wsV RX12 175 RX12 yX12_may vs_m_may) ++ ((va_wsS RX12 289 yX12_at vs_m_at) ++ ((wsV RX12 291 RX12 yX12_surface vs_m_surface) ++ ([]))))))))
set_option maxHeartbeats 4000000 in
set_option maxRecDepth 100000 in
theorem m_cell (l : Launch) (hl : l.stackTraces = false) (D : va_G) (cy : Nat → ClassId) (sa : Nat → Nat) (mm m1 m9 m10 m11 m12 m13 m14 m15 m19 m20 m21 m23 m24 m25 m26 m27 m28 m33 m35 : Nat) (th tp sz_ ap bad bk opn fp im nr nl sp_ wtc wcl ir ip shu sfa swr : Int) (f1 f10 f12 : Nat → Int32) (x y n : Int) (sz : Nat) (hr_th : (-2147483648) ≤ th ∧ th ≤ 2147483647) (hr_tp : 0 ≤ tp ∧ tp ≤ 600) (hr_sz_ : 0 ≤ sz_ ∧ sz_ ≤ 600) (hr_ap : 0 ≤ ap ∧ ap ≤ 602) (hr_bad : (-1) ≤ bad ∧ bad ≤ 602) (hr_bk : 0 ≤ bk ∧ bk ≤ 4) (hr_opn : 0 ≤ opn ∧ opn ≤ 7) (hr_fp : (-2147483648) ≤ fp ∧ fp ≤ 2147483647) (hr_im : 0 ≤ im ∧ im ≤ 3) (hr_nr : 0 ≤ nr ∧ nr ≤ 4) (hr_nl : 0 ≤ nl ∧ nl ≤ 4) (hr_sp_ : 0 ≤ sp_ ∧ sp_ ≤ 602) (hr_wtc : (-2147483648) ≤ wtc ∧ wtc ≤ 2147483647) (hr_wcl : 0 ≤ wcl ∧ wcl ≤ 95) (hr_ir : 0 ≤ ir ∧ ir ≤ 5) (hr_ip : (-2147483648) ≤ ip ∧ ip ≤ 2147483647) (hr_shu : (-2147483648) ≤ shu ∧ shu ≤ 2147483647) (hr_sfa : (-2147483648) ≤ sfa ∧ sfa ≤ 2147483647) (hr_swr : (-2147483648) ≤ swr ∧ swr ≤ 2147483647) (hr_x : (-2147483648) ≤ x ∧ x ≤ 2147483647) (hr_y : (-2147483648) ≤ y ∧ y ≤ 2147483647) (hr_n : (-2147483648) ≤ n ∧ n ≤ 2147483647) (hf10 : BI f10) (hf12 : SI 8 f12) : mI9 l yX12_cell vs_m_cell ({ frames := 2, cells := 0, slots := 0, locals := 46 }) D cy sa sz [vR mm, vI x, vI y, vI n] [zO mm 12 [vI th, vR m1, vI tp, vI sz_, vI ap, vI bad, vI bk, vI opn, vI fp, vR m9, vR m10, vR m11, vR m12, vR m13, vR m14, vR m15, vI im, vI nr, vI nl, vR m19, vR m20, vR m21, vI sp_, vR m23, vR m24, vR m25, vR m26, vR m27, vR m28, vI wtc, vI wcl, vI ir, vI ip, vR m33, vI shu, vR m35, vI sfa, vI swr], zI m1 (cy 0) 4 f1, zI m10 (cy 0) 68 f10, zI m12 (cy 0) 389 f12] (fun (r : Int32) (u : SV) => r = iI (u.2.1 0) ∧ ((-2147483648) ≤ u.2.1 1 ∧ u.2.1 1 ≤ 2147483647) ∧ ((-2147483648) ≤ u.2.1 0 ∧ u.2.1 0 ≤ 2147483647) ∧ BI f10 ∧ SI 8 f12) (fun u : SV => [zO mm 12 [vI (u.2.1 1), vR m1, vI tp, vI sz_, vI ap, vI bad, vI bk, vI opn, vI fp, vR m9, vR m10, vR m11, vR m12, vR m13, vR m14, vR m15, vI im, vI nr, vI nl, vR m19, vR m20, vR m21, vI sp_, vR m23, vR m24, vR m25, vR m26, vR m27, vR m28, vI wtc, vI wcl, vI ir, vI ip, vR m33, vI shu, vR m35, vI sfa, vI swr], zI m1 (cy 0) 4 (u.2.2 0), zI m10 (cy 0) 68 f10, zI m12 (cy 0) 389 f12]) 0 0 := by
  refine Met.ofW (cc := cX12_cell) (maxL := 5) (ret := (some .int)) (by decide) rfl ?_
  intro p e s m args below meth c s₁ B hml hv
  obtain ⟨rfl, hsz, hP, hG, hD0, hT⟩ := hv
  have hx := B.exec
  have hb := B.bytes
  have hr := B.returns
  have hts := atoms_spec (ws := vs_m_cell) B.pre
  have hown : s.vm.findClass RX12 = some m.cls := findClass_of_methodNamed B.named
  have hlocks := B.notSynchronized
  subst hsz
  have hD := hD0.self (sz := s.heap.size)
  generalize hAe : va_A [zO mm 12 [vI th, vR m1, vI tp, vI sz_, vI ap, vI bad, vI bk, vI opn, vI fp, vR m9, vR m10, vR m11, vR m12, vR m13, vR m14, vR m15, vI im, vI nr, vI nl, vR m19, vR m20, vR m21, vI sp_, vR m23, vR m24, vR m25, vR m26, vR m27, vR m28, vI wtc, vI wcl, vI ir, vI ip, vR m33, vI shu, vR m35, vI sfa, vI swr], zI m1 (cy 0) 4 f1, zI m10 (cy 0) 68 f10, zI m12 (cy 0) 389 f12] s.heap.size = A at hD hT ⊢
  have hA : ∀ q : Nat, s.heap.size ≤ q → A q := fun q h => by rw [← hAe]; exact Or.inr h
  have hS : va_S A s.heap s.heap [] := va_S.rf
  have hl0 := lv_entry ([vR mm, vI x, vI y, vI n]) (n := 5) (Nat.le_of_ble_eq_true rfl)
  rw [lg_entry_eq]
  generalize (lg_sl ([vR mm, vI x, vI y, vI n]) ++ List.replicate (5 - (lg_sl ([vR mm, vI x, vI y, vI n])).length) Slot.unset).toArray = ls at hl0 ⊢
  have hlv : lv_has ls 5 [(0, vR mm), (1, vI x), (2, vI y), (3, vI n)] := hl0
  have lf1 := hts (.fieldLink RX12 1 "KerbSplashModel" "thrown" "I") (List.mem_of_getElem? (i := 1) rfl)
  have hi12 : ∀ w ∈ wsX120, w ∈ vs_m_cell := fun w h => List.mem_cons_of_mem _ (List.mem_append_right _ (List.mem_append_left _ h))
  have gg_1 : GoodIn vs_m_cell (wsV RX12 286 RX12 yX12_isCell vs_m_isCell) := goodIn_sub (fun w h => List.mem_cons_of_mem _ (List.mem_append_right _ (List.mem_append_right _ (List.mem_append_left _ h)))) (gd_V gd_m_isCell (by decide +kernel))
  have gg_2 : GoodIn vs_m_cell (va_wsS RX12 279 yX12_within vs_m_within) := goodIn_sub (fun w h => List.mem_cons_of_mem _ (List.mem_append_right _ (List.mem_append_right _ (List.mem_append_right _ (List.mem_append_left _ h))))) (gd_S gd_m_within (by decide +kernel))
  have gg_3 : GoodIn vs_m_cell (wsV RX12 175 RX12 yX12_may vs_m_may) := goodIn_sub (fun w h => List.mem_cons_of_mem _ (List.mem_append_right _ (List.mem_append_right _ (List.mem_append_right _ (List.mem_append_right _ (List.mem_append_left _ h)))))) (gd_V gd_m_may (by decide +kernel))
  have gg_4 : GoodIn vs_m_cell (va_wsS RX12 289 yX12_at vs_m_at) := goodIn_sub (fun w h => List.mem_cons_of_mem _ (List.mem_append_right _ (List.mem_append_right _ (List.mem_append_right _ (List.mem_append_right _ (List.mem_append_right _ (List.mem_append_left _ h))))))) (gd_S gd_m_at (by decide +kernel))
  have gg_5 : GoodIn vs_m_cell (wsV RX12 291 RX12 yX12_surface vs_m_surface) := goodIn_sub (fun w h => List.mem_cons_of_mem _ (List.mem_append_right _ (List.mem_append_right _ (List.mem_append_right _ (List.mem_append_right _ (List.mem_append_right _ (List.mem_append_right _ (List.mem_append_left _ h)))))))) (gd_V gd_m_surface (by decide +kernel))
  have lf29 := hts (.fieldLink RX12 29 "KerbSplashModel" "s" "[I") (List.mem_of_getElem? (i := 2) rfl)
  refine lv_aload_n hx hb dX12_cell_0 rfl (lv_at hlv 0 rfl) ?_
  refine lv_iconst (v := iI 0) hx hb dX12_cell_1 (by decide) ?_
  refine va_put (D := D) (ci := 12) (v := vI 0) (ty := .int) (C := RX12) (T := TX12) (N := 38) hx hb hts hi12 tyX12 tyX12_ok nmX12 hown hG.1 hP hD hS 0 rfl rfl 0 (by decide) lf1 (fun _ h9 => h9) rfl (by decide +kernel) rfl rfl (Nat.le_of_ble_eq_true rfl) dX12_cell_2 (fun H locs hP hD hS => ?_)
  obtain ⟨hP, hD⟩ := pw9 [zO mm 12 [vI 0, vR m1, vI tp, vI sz_, vI ap, vI bad, vI bk, vI opn, vI fp, vR m9, vR m10, vR m11, vR m12, vR m13, vR m14, vR m15, vI im, vI nr, vI nl, vR m19, vR m20, vR m21, vI sp_, vR m23, vR m24, vR m25, vR m26, vR m27, vR m28, vI wtc, vI wcl, vI ir, vI ip, vR m33, vI shu, vR m35, vI sfa, vI swr], zI m1 (cy 0) 4 f1, zI m10 (cy 0) 68 f10, zI m12 (cy 0) 389 f12] hP hD
  refine lv_aload_n hx hb dX12_cell_5 rfl (lv_at hlv 0 rfl) ?_
  refine lv_iload_n hx hb dX12_cell_6 rfl (lv_at hlv 1 rfl) ?_
  refine lv_iload_n hx hb dX12_cell_7 rfl (lv_at hlv 2 rfl) ?_
  refine lv_iconst (v := iI 1) hx hb dX12_cell_8 (by decide) ?_
  refine cjr_i [false, false, false, true] (fun pre9 => (va_runV (As := [vI x, vI y, vI 1]) (rest := []) ⟨hx, hb, hml, hown, hts⟩ (m_isCell l hl D cy sa mm m1 m9 m10 m11 m12 m13 m14 m15 m19 m20 m21 m23 m24 m25 m26 m27 m28 m33 m35 0 tp sz_ ap bad bk opn fp im nr nl sp_ wtc wcl ir ip shu sfa swr f1 f10 x y 1 H.size (by show ((-2147483648) : Int) ≤ 0 ∧ (0 : Int) ≤ 2147483647; decide) (by first | exact hr_tp | omega) (by first | exact hr_sz_ | omega) (by first | exact hr_ap | omega) (by first | exact hr_bad | omega) (by first | exact hr_bk | omega) (by first | exact hr_opn | omega) (by first | exact hr_fp | omega) (by first | exact hr_im | omega) (by first | exact hr_nr | omega) (by first | exact hr_nl | omega) (by first | exact hr_sp_ | omega) (by first | exact hr_wtc | omega) (by first | exact hr_wcl | omega) (by first | exact hr_ir | omega) (by first | exact hr_ip | omega) (by first | exact hr_shu | omega) (by first | exact hr_sfa | omega) (by first | exact hr_swr | omega) (by first | exact hr_x | omega) (by first | exact hr_y | omega) (by show (1 : Int) ≤ 1 ∧ (1 : Int) ≤ 4; decide) hf10) (cwV 3 hts gg_1 rfl rfl rfl (by decide +kernel) ⟨Nat.le_of_ble_eq_true rfl, Nat.le_of_ble_eq_true rfl⟩) ⟨pcW.blind, (va_recv hG.1 hP (ci := 12) (q0 := 0) rfl rfl), pre9⟩ rfl rfl hlv.1 rfl (lv_room (Nat.le_of_ble_eq_true rfl)) dX12_cell_9 ⟨Nat.le_of_ble_eq_true rfl, Nat.le_of_ble_eq_true rfl⟩)) hP hD hS hA hG hT [0, 1, 2] rfl (by decide +kernel) (fun r1 u1 H locs hw1 hq9 hS => ?_)
  obtain ⟨rfl, hq1_1, hq1_2, hq1_3, hq1_4⟩ := hw1
  obtain ⟨hP, hD⟩ := pd9 [zI m12 (cy 0) 389 f12, zO mm 12 [vI (u1.2.1 1), vR m1, vI tp, vI sz_, vI ap, vI bad, vI bk, vI opn, vI fp, vR m9, vR m10, vR m11, vR m12, vR m13, vR m14, vR m15, vI im, vI nr, vI nl, vR m19, vR m20, vR m21, vI sp_, vR m23, vR m24, vR m25, vR m26, vR m27, vR m28, vI wtc, vI wcl, vI ir, vI ip, vR m33, vI shu, vR m35, vI sfa, vI swr], zI m1 (cy 0) 4 (u1.2.2 0), zI m10 (cy 0) 68 f10] hq9
  refine iz_eq (tgt := 30) hx hb dX12_cell_12 (by decide) (by first | exact rgw hq1_2 (by decide) (by decide) | omega) (fun c_1 => ?_) (fun c_1 => ?_)
  · refine lv_iconst (v := iI 0) hx hb dX12_cell_30 (by decide) ?_
    refine W.widen (k := 0) (n := 0) (Nat.le_of_ble_eq_true rfl) (Nat.le_of_ble_eq_true rfl) ?_
    exact W.iret (v := iI 0) hx hb hr (fun t ht hW => ⟨⟨iI 0, ((fun k => ([] : List Nat).getD k 0), (fun k => ([0, (u1.2.1 1)] : List Int).getD k 0), (fun k => ([(u1.2.2 0)] : List (Nat → Int32)).getD k (fun _ => 0))), rfl, ⟨rfl, (by show ((-2147483648) ≤ (u1.2.1 1) ∧ (u1.2.1 1) ≤ 2147483647); first | exact hq1_1 | omega), (by show ((-2147483648) ≤ 0 ∧ 0 ≤ 2147483647); show ((-2147483648) : Int) ≤ 0 ∧ (0 : Int) ≤ 2147483647; decide), hq1_4, hf12⟩, at9 ht hP hD [1, 2, 3, 0] (by decide +kernel) rfl⟩, hS.F ht⟩) hS.2.2 dX12_cell_31
  · refine lv_aload_n hx hb dX12_cell_15 rfl (lv_at hlv 0 rfl) ?_
    refine lv_iload_n hx hb dX12_cell_16 rfl (lv_at hlv 3 rfl) ?_
    refine lv_iconst (v := iI 0) hx hb dX12_cell_17 (by decide) ?_
    refine lv_iconst (v := iI 2) hx hb dX12_cell_18 (by decide) ?_
    refine cjr_i [true, true, true, true] (fun pre9 => (va_runS (As := [vI n, vI 0, vI 2]) (rest := [vR mm]) ⟨hx, hb, hml, hown, hts⟩ (m_within l hl D cy sa n 0 2 H.size (by first | exact hr_n | omega) (by show ((-2147483648) : Int) ≤ 0 ∧ (0 : Int) ≤ 2147483647; decide) (by show ((-2147483648) : Int) ≤ 2 ∧ (2 : Int) ≤ 2147483647; decide)) (va_cwS 3 hts gg_2 rfl rfl rfl (by decide +kernel) ⟨Nat.le_of_ble_eq_true rfl, Nat.le_of_ble_eq_true rfl⟩) ⟨pcW.blind, pre9⟩ rfl rfl hlv.1 rfl (lv_room (Nat.le_of_ble_eq_true rfl)) dX12_cell_19 ⟨Nat.le_of_ble_eq_true rfl, Nat.le_of_ble_eq_true rfl⟩)) hP hD hS hA hG hT [] rfl (by decide +kernel) (fun r2 u2 H locs hw2 hq9 hS => ?_)
    obtain ⟨rfl, hq2_1, hq2_2, hq2_3⟩ := hw2
    obtain ⟨hP, hD⟩ := pd9 [zI m12 (cy 0) 389 f12, zO mm 12 [vI (u1.2.1 1), vR m1, vI tp, vI sz_, vI ap, vI bad, vI bk, vI opn, vI fp, vR m9, vR m10, vR m11, vR m12, vR m13, vR m14, vR m15, vI im, vI nr, vI nl, vR m19, vR m20, vR m21, vI sp_, vR m23, vR m24, vR m25, vR m26, vR m27, vR m28, vI wtc, vI wcl, vI ir, vI ip, vR m33, vI shu, vR m35, vI sfa, vI swr], zI m1 (cy 0) 4 (u1.2.2 0), zI m10 (cy 0) 68 f10] hq9
    refine lv_iconst (v := iI 2) hx hb dX12_cell_22 (by decide) ?_
    refine lv_iconst (v := iI 2) hx hb dX12_cell_23 (by decide) ?_
    refine cjr_i [true, false, false, true] (fun pre9 => (va_runV (As := [vI (u2.2.1 0), vI 2, vI 2]) (rest := []) ⟨hx, hb, hml, hown, hts⟩ (m_may l hl D cy sa mm m1 m9 m10 m11 m12 m13 m14 m15 m19 m20 m21 m23 m24 m25 m26 m27 m28 m33 m35 (u1.2.1 1) tp sz_ ap bad bk opn fp im nr nl sp_ wtc wcl ir ip shu sfa swr (u1.2.2 0) (u2.2.1 0) 2 2 H.size (by first | exact hq1_1 | omega) (by first | exact hr_tp | omega) (by first | exact hr_sz_ | omega) (by first | exact hr_ap | omega) (by first | exact hr_bad | omega) (by first | exact hr_bk | omega) (by first | exact hr_opn | omega) (by first | exact hr_fp | omega) (by first | exact hr_im | omega) (by first | exact hr_nr | omega) (by first | exact hr_nl | omega) (by first | exact hr_sp_ | omega) (by first | exact hr_wtc | omega) (by first | exact hr_wcl | omega) (by first | exact hr_ir | omega) (by first | exact hr_ip | omega) (by first | exact hr_shu | omega) (by first | exact hr_sfa | omega) (by first | exact hr_swr | omega) (by first | exact hq2_1 | omega) (by show (1 : Int) ≤ 2 ∧ (2 : Int) ≤ 4; decide) (by show (0 : Int) ≤ 2 ∧ (2 : Int) ≤ 3; decide)) (cwV 3 hts gg_3 rfl rfl rfl (by decide +kernel) ⟨Nat.le_of_ble_eq_true rfl, Nat.le_of_ble_eq_true rfl⟩) ⟨pcW.blind, (va_recv hG.1 hP (ci := 12) (q0 := 1) rfl rfl), pre9⟩ rfl rfl hlv.1 rfl (lv_room (Nat.le_of_ble_eq_true rfl)) dX12_cell_24 ⟨Nat.le_of_ble_eq_true rfl, Nat.le_of_ble_eq_true rfl⟩)) hP hD hS hA hG hT [1, 2] rfl (by decide +kernel) (fun r3 u3 H locs hw3 hq9 hS => ?_)
    obtain ⟨rfl, hq3_1, hq3_2, hq3_3, hq3_4⟩ := hw3
    obtain ⟨hP, hD⟩ := pd9 [zI m12 (cy 0) 389 f12, zI m10 (cy 0) 68 f10, zO mm 12 [vI (u3.2.1 1), vR m1, vI tp, vI sz_, vI ap, vI bad, vI bk, vI opn, vI fp, vR m9, vR m10, vR m11, vR m12, vR m13, vR m14, vR m15, vI im, vI nr, vI nl, vR m19, vR m20, vR m21, vI sp_, vR m23, vR m24, vR m25, vR m26, vR m27, vR m28, vI wtc, vI wcl, vI ir, vI ip, vR m33, vI shu, vR m35, vI sfa, vI swr], zI m1 (cy 0) 4 (u3.2.2 0)] hq9
    refine iz_ne (tgt := 32) hx hb dX12_cell_27 (by decide) (by first | exact rgw hq3_2 (by decide) (by decide) | omega) (fun c_2 => ?_) (fun c_2 => ?_)
    · refine lv_iload_n hx hb dX12_cell_32 rfl (lv_at hlv 1 rfl) ?_
      refine lv_iload_n hx hb dX12_cell_33 rfl (lv_at hlv 2 rfl) ?_
      refine cjr_i [true, true, true, true] (fun pre9 => (va_runS (As := [vI x, vI y]) (rest := []) ⟨hx, hb, hml, hown, hts⟩ (m_at l hl D cy sa x y H.size (by omega) (by omega)) (va_cwS 2 hts gg_4 rfl rfl rfl (by decide +kernel) ⟨Nat.le_of_ble_eq_true rfl, Nat.le_of_ble_eq_true rfl⟩) ⟨pcW.blind, pre9⟩ rfl rfl hlv.1 rfl (lv_room (Nat.le_of_ble_eq_true rfl)) dX12_cell_34 ⟨Nat.le_of_ble_eq_true rfl, Nat.le_of_ble_eq_true rfl⟩)) hP hD hS hA hG hT [] rfl (by decide +kernel) (fun r4 u4 H locs hw4 hq9 hS => ?_)
      obtain ⟨rfl, hq4_1, hq4_2⟩ := hw4
      obtain ⟨hP, hD⟩ := pd9 [zI m12 (cy 0) 389 f12, zI m10 (cy 0) 68 f10, zO mm 12 [vI (u3.2.1 1), vR m1, vI tp, vI sz_, vI ap, vI bad, vI bk, vI opn, vI fp, vR m9, vR m10, vR m11, vR m12, vR m13, vR m14, vR m15, vI im, vI nr, vI nl, vR m19, vR m20, vR m21, vI sp_, vR m23, vR m24, vR m25, vR m26, vR m27, vR m28, vI wtc, vI wcl, vI ir, vI ip, vR m33, vI shu, vR m35, vI sfa, vI swr], zI m1 (cy 0) 4 (u3.2.2 0)] hq9
      refine lv_istore (lv' := [(4, vI (u4.2.1 0)), (0, vR mm), (1, vI x), (2, vI y), (3, vI n)]) hx hb dX12_cell_37 hlv (by decide) rfl (fun ls hlv => ?_)
      refine lv_iload_n hx hb dX12_cell_39 rfl (lv_at hlv 4 rfl) ?_
      refine iz_ne (tgt := 55) hx hb dX12_cell_40 (by decide) (by first | exact hr_n | omega) (fun c_3 => ?_) (fun c_3 => ?_)
      · refine lv_iload_n hx hb dX12_cell_55 rfl (lv_at hlv 4 rfl) ?_
        refine lv_iconst (v := iI 1) hx hb dX12_cell_56 (by decide) ?_
        refine ir_ne (tgt := 73) hx hb dX12_cell_57 (by decide) (by first | exact hr_n | omega) (by show ((-2147483648) : Int) ≤ 1 ∧ (1 : Int) ≤ 2147483647; decide) (fun c_4 => ?_) (fun c_4 => ?_)
        · refine lv_aload_n hx hb dX12_cell_73 rfl (lv_at hlv 1 rfl) ?_
          refine lv_iload hx hb dX12_cell_74 (lv_at hlv 0 rfl) ?_
          refine cjr_i [false, true, false, true] (fun pre9 => (va_runV (As := [vI (u4.2.1 0)]) (rest := []) ⟨hx, hb, hml, hown, hts⟩ (m_surface l hl D cy sa mm m1 m9 m10 m11 m12 m13 m14 m15 m19 m20 m21 m23 m24 m25 m26 m27 m28 m33 m35 (u3.2.1 1) tp sz_ ap bad bk opn fp im nr nl sp_ wtc wcl ir ip shu sfa swr f12 (u4.2.1 0) 8 H.size (by first | exact hq3_1 | omega) (by first | exact hr_tp | omega) (by first | exact hr_sz_ | omega) (by first | exact hr_ap | omega) (by first | exact hr_bad | omega) (by first | exact hr_bk | omega) (by first | exact hr_opn | omega) (by first | exact hr_fp | omega) (by first | exact hr_im | omega) (by first | exact hr_nr | omega) (by first | exact hr_nl | omega) (by first | exact hr_sp_ | omega) (by first | exact hr_wtc | omega) (by first | exact hr_wcl | omega) (by first | exact hr_ir | omega) (by first | exact hr_ip | omega) (by first | exact hr_shu | omega) (by first | exact hr_sfa | omega) (by first | exact hr_swr | omega) (by first | exact hq4_1 | omega) (by show (8 : Int) ≤ 8 ∧ (8 : Int) ≤ 9; decide) hf12) (cwV 1 hts gg_5 rfl rfl rfl (by decide +kernel) ⟨Nat.le_of_ble_eq_true rfl, Nat.le_of_ble_eq_true rfl⟩) ⟨pcW.blind, (va_recv hG.1 hP (ci := 12) (q0 := 2) rfl rfl), pre9⟩ rfl rfl hlv.1 rfl (lv_room (Nat.le_of_ble_eq_true rfl)) dX12_cell_76 ⟨Nat.le_of_ble_eq_true rfl, Nat.le_of_ble_eq_true rfl⟩)) hP hD hS hA hG hT [2, 0] rfl (by decide +kernel) (fun r5 u5 H locs hw5 hq9 hS => ?_)
          obtain ⟨rfl, hq5_1, hq5_2⟩ := hw5
          obtain ⟨hP, hD⟩ := pd9 [zI m10 (cy 0) 68 f10, zI m1 (cy 0) 4 (u3.2.2 0), zO mm 12 [vI (u3.2.1 1), vR m1, vI tp, vI sz_, vI ap, vI bad, vI bk, vI opn, vI fp, vR m9, vR m10, vR m11, vR m12, vR m13, vR m14, vR m15, vI im, vI nr, vI nl, vR m19, vR m20, vR m21, vI sp_, vR m23, vR m24, vR m25, vR m26, vR m27, vR m28, vI wtc, vI wcl, vI ir, vI ip, vR m33, vI shu, vR m35, vI sfa, vI swr], zI m12 (cy 0) 389 f12] hq9
          refine W.widen (k := 0) (n := 0) (Nat.le_of_ble_eq_true rfl) (Nat.le_of_ble_eq_true rfl) ?_
          exact W.iret (v := iI (u5.2.1 0)) hx hb hr (fun t ht hW => ⟨⟨iI (u5.2.1 0), ((fun k => ([] : List Nat).getD k 0), (fun k => ([(u5.2.1 0), (u3.2.1 1)] : List Int).getD k 0), (fun k => ([(u3.2.2 0)] : List (Nat → Int32)).getD k (fun _ => 0))), rfl, ⟨rfl, (by show ((-2147483648) ≤ (u3.2.1 1) ∧ (u3.2.1 1) ≤ 2147483647); first | exact hq3_1 | omega), (by show ((-2147483648) ≤ (u5.2.1 0) ∧ (u5.2.1 0) ≤ 2147483647); first | exact hq5_1 | omega), hq1_4, hq5_2⟩, at9 ht hP hD [2, 1, 0, 3] (by decide +kernel) rfl⟩, hS.F ht⟩) hS.2.2 dX12_cell_79
        · refine lv_aload_n hx hb dX12_cell_60 rfl (lv_at hlv 1 rfl) ?_
          refine va_get (D := D) (ci := 12) (v := vR m12) (C := RX12) (T := TX12) (N := 38) hx hb hts hi12 hown hG.1 hP 2 rfl rfl 12 (by decide) lf29 (fun _ h9 => h9) rfl dX12_cell_61 ?_
          refine lv_bipush (v := iI 96) hx hb dX12_cell_64 (by decide) ?_
          refine lv_iload hx hb dX12_cell_66 (lv_at hlv 0 rfl) ?_
          refine lv_iadd hx hb dX12_cell_68 ?_
          refine lt_e (e0 := 96 + (u4.2.1 0)) (Int32.ofInt_add _ _).symm (fun z_5 hz_5 => ?_)
          refine va_iald hx hb hG.1 hP 0 0 rfl rfl (iI_in (by omega) (by decide)) dX12_cell_69 ?_
          refine lt_nz (i := z_5) (by omega) (fun z_6 hz_6 lz_6 uz_6 => ?_)
          refine lv_goto (tgt := 79) hx hb dX12_cell_70 (by decide) ?_
          refine W.widen (k := 0) (n := 0) (Nat.le_of_ble_eq_true rfl) (Nat.le_of_ble_eq_true rfl) ?_
          exact W.iret (v := iI z_6) hx hb hr (fun t ht hW => ⟨⟨iI z_6, ((fun k => ([] : List Nat).getD k 0), (fun k => ([z_6, (u3.2.1 1)] : List Int).getD k 0), (fun k => ([(u3.2.2 0)] : List (Nat → Int32)).getD k (fun _ => 0))), rfl, ⟨rfl, (by show ((-2147483648) ≤ (u3.2.1 1) ∧ (u3.2.1 1) ≤ 2147483647); first | exact hq3_1 | omega), (by show ((-2147483648) ≤ z_6 ∧ z_6 ≤ 2147483647); omega), hq1_4, hf12⟩, at9 ht hP hD [2, 3, 1, 0] (by decide +kernel) rfl⟩, hS.F ht⟩) hS.2.2 dX12_cell_79
      · refine lv_aload_n hx hb dX12_cell_43 rfl (lv_at hlv 1 rfl) ?_
        refine va_get (D := D) (ci := 12) (v := vR m12) (C := RX12) (T := TX12) (N := 38) hx hb hts hi12 hown hG.1 hP 2 rfl rfl 12 (by decide) lf29 (fun _ h9 => h9) rfl dX12_cell_44 ?_
        refine lv_iconst (v := iI 0) hx hb dX12_cell_47 (by decide) ?_
        refine lv_iload hx hb dX12_cell_48 (lv_at hlv 0 rfl) ?_
        refine lv_iadd hx hb dX12_cell_50 ?_
        refine lt_e (e0 := 0 + (u4.2.1 0)) (Int32.ofInt_add _ _).symm (fun z_7 hz_7 => ?_)
        refine va_iald hx hb hG.1 hP 0 0 rfl rfl (iI_in (by omega) (by decide)) dX12_cell_51 ?_
        refine lt_nz (i := z_7) (by omega) (fun z_8 hz_8 lz_8 uz_8 => ?_)
        refine lv_goto (tgt := 79) hx hb dX12_cell_52 (by decide) ?_
        refine W.widen (k := 0) (n := 0) (Nat.le_of_ble_eq_true rfl) (Nat.le_of_ble_eq_true rfl) ?_
        exact W.iret (v := iI z_8) hx hb hr (fun t ht hW => ⟨⟨iI z_8, ((fun k => ([] : List Nat).getD k 0), (fun k => ([z_8, (u3.2.1 1)] : List Int).getD k 0), (fun k => ([(u3.2.2 0)] : List (Nat → Int32)).getD k (fun _ => 0))), rfl, ⟨rfl, (by show ((-2147483648) ≤ (u3.2.1 1) ∧ (u3.2.1 1) ≤ 2147483647); first | exact hq3_1 | omega), (by show ((-2147483648) ≤ z_8 ∧ z_8 ≤ 2147483647); omega), hq1_4, hf12⟩, at9 ht hP hD [2, 3, 1, 0] (by decide +kernel) rfl⟩, hS.F ht⟩) hS.2.2 dX12_cell_79
    · refine lv_iconst (v := iI 0) hx hb dX12_cell_30 (by decide) ?_
      refine W.widen (k := 0) (n := 0) (Nat.le_of_ble_eq_true rfl) (Nat.le_of_ble_eq_true rfl) ?_
      exact W.iret (v := iI 0) hx hb hr (fun t ht hW => ⟨⟨iI 0, ((fun k => ([] : List Nat).getD k 0), (fun k => ([0, (u3.2.1 1)] : List Int).getD k 0), (fun k => ([(u3.2.2 0)] : List (Nat → Int32)).getD k (fun _ => 0))), rfl, ⟨rfl, (by show ((-2147483648) ≤ (u3.2.1 1) ∧ (u3.2.1 1) ≤ 2147483647); first | exact hq3_1 | omega), (by show ((-2147483648) ≤ 0 ∧ 0 ≤ 2147483647); show ((-2147483648) : Int) ≤ 0 ∧ (0 : Int) ≤ 2147483647; decide), hq1_4, hf12⟩, at9 ht hP hD [2, 3, 1, 0] (by decide +kernel) rfl⟩, hS.F ht⟩) hS.2.2 dX12_cell_31
def vs_m_drain : List Cond := .code yX12_drain cX12_drain 3 (some .int) :: (([.fieldLink RX12 1 "KerbSplashModel" "thrown" "I"] : List Cond) ++ ((wsX120) ++ ((wsV RX12 283 RX12 yX12_drains vs_m_drains) ++ ((va_wsS RX12 279 yX12_within vs_m_within) ++ ((wsV RX12 175 RX12 yX12_may vs_m_may) ++ ((wsV RX12 297 RX12 yX12_drainTold vs_m_drainToldw) ++ ((wsV RX12 294 RX12 yX12_leavesOf vs_m_leavesOf) ++ ([]))))))))
set_option maxHeartbeats 4000000 in
set_option maxRecDepth 100000 in
theorem m_drain (l : Launch) (hl : l.stackTraces = false) (D : va_G) (cy : Nat → ClassId) (sa : Nat → Nat) (mm m1 m9 m10 m11 m12 m13 m14 m15 m19 m20 m21 m23 m24 m25 m26 m27 m28 m33 m35 : Nat) (th tp sz_ ap bad bk opn fp im nr nl sp_ wtc wcl ir ip shu sfa swr : Int) (f1 f10 f12 : Nat → Int32) (n k : Int) (sz : Nat) (hr_th : (-2147483648) ≤ th ∧ th ≤ 2147483647) (hr_tp : 0 ≤ tp ∧ tp ≤ 600) (hr_sz_ : 0 ≤ sz_ ∧ sz_ ≤ 600) (hr_ap : 0 ≤ ap ∧ ap ≤ 602) (hr_bad : (-1) ≤ bad ∧ bad ≤ 602) (hr_bk : 0 ≤ bk ∧ bk ≤ 4) (hr_opn : 0 ≤ opn ∧ opn ≤ 7) (hr_fp : (-2147483648) ≤ fp ∧ fp ≤ 2147483647) (hr_im : 0 ≤ im ∧ im ≤ 3) (hr_nr : 0 ≤ nr ∧ nr ≤ 4) (hr_nl : 0 ≤ nl ∧ nl ≤ 4) (hr_sp_ : 0 ≤ sp_ ∧ sp_ ≤ 602) (hr_wtc : (-2147483648) ≤ wtc ∧ wtc ≤ 2147483647) (hr_wcl : 0 ≤ wcl ∧ wcl ≤ 95) (hr_ir : 0 ≤ ir ∧ ir ≤ 5) (hr_ip : (-2147483648) ≤ ip ∧ ip ≤ 2147483647) (hr_shu : (-2147483648) ≤ shu ∧ shu ≤ 2147483647) (hr_sfa : (-2147483648) ≤ sfa ∧ sfa ≤ 2147483647) (hr_swr : (-2147483648) ≤ swr ∧ swr ≤ 2147483647) (hr_n : (-2147483648) ≤ n ∧ n ≤ 2147483647) (hr_k : (-2147483648) ≤ k ∧ k ≤ 2147483647) (hf10 : BI f10) (hf12 : SI 8 f12) : mI9 l yX12_drain vs_m_drain ({ frames := 1, cells := 0, slots := 0, locals := 23 }) D cy sa sz [vR mm, vI n, vI k] [zO mm 12 [vI th, vR m1, vI tp, vI sz_, vI ap, vI bad, vI bk, vI opn, vI fp, vR m9, vR m10, vR m11, vR m12, vR m13, vR m14, vR m15, vI im, vI nr, vI nl, vR m19, vR m20, vR m21, vI sp_, vR m23, vR m24, vR m25, vR m26, vR m27, vR m28, vI wtc, vI wcl, vI ir, vI ip, vR m33, vI shu, vR m35, vI sfa, vI swr], zI m1 (cy 0) 4 f1, zI m10 (cy 0) 68 f10, zI m12 (cy 0) 389 f12] (fun (r : Int32) (u : SV) => r = iI (u.2.1 0) ∧ ((-2147483648) ≤ u.2.1 1 ∧ u.2.1 1 ≤ 2147483647) ∧ ((-2147483648) ≤ u.2.1 0 ∧ u.2.1 0 ≤ 2147483647) ∧ BI f10 ∧ SI 8 f12) (fun u : SV => [zO mm 12 [vI (u.2.1 1), vR m1, vI tp, vI sz_, vI ap, vI bad, vI bk, vI opn, vI fp, vR m9, vR m10, vR m11, vR m12, vR m13, vR m14, vR m15, vI im, vI nr, vI nl, vR m19, vR m20, vR m21, vI sp_, vR m23, vR m24, vR m25, vR m26, vR m27, vR m28, vI wtc, vI wcl, vI ir, vI ip, vR m33, vI shu, vR m35, vI sfa, vI swr], zI m1 (cy 0) 4 (u.2.2 0), zI m10 (cy 0) 68 f10, zI m12 (cy 0) 389 f12]) 0 0 := by
  refine Met.ofW (cc := cX12_drain) (maxL := 3) (ret := (some .int)) (by decide) rfl ?_
  intro p e s m args below meth c s₁ B hml hv
  obtain ⟨rfl, hsz, hP, hG, hD0, hT⟩ := hv
  have hx := B.exec
  have hb := B.bytes
  have hr := B.returns
  have hts := atoms_spec (ws := vs_m_drain) B.pre
  have hown : s.vm.findClass RX12 = some m.cls := findClass_of_methodNamed B.named
  have hlocks := B.notSynchronized
  subst hsz
  have hD := hD0.self (sz := s.heap.size)
  generalize hAe : va_A [zO mm 12 [vI th, vR m1, vI tp, vI sz_, vI ap, vI bad, vI bk, vI opn, vI fp, vR m9, vR m10, vR m11, vR m12, vR m13, vR m14, vR m15, vI im, vI nr, vI nl, vR m19, vR m20, vR m21, vI sp_, vR m23, vR m24, vR m25, vR m26, vR m27, vR m28, vI wtc, vI wcl, vI ir, vI ip, vR m33, vI shu, vR m35, vI sfa, vI swr], zI m1 (cy 0) 4 f1, zI m10 (cy 0) 68 f10, zI m12 (cy 0) 389 f12] s.heap.size = A at hD hT ⊢
  have hA : ∀ q : Nat, s.heap.size ≤ q → A q := fun q h => by rw [← hAe]; exact Or.inr h
  have hS : va_S A s.heap s.heap [] := va_S.rf
  have hl0 := lv_entry ([vR mm, vI n, vI k]) (n := 3) (Nat.le_of_ble_eq_true rfl)
  rw [lg_entry_eq]
  generalize (lg_sl ([vR mm, vI n, vI k]) ++ List.replicate (3 - (lg_sl ([vR mm, vI n, vI k])).length) Slot.unset).toArray = ls at hl0 ⊢
  have hlv : lv_has ls 3 [(0, vR mm), (1, vI n), (2, vI k)] := hl0
  have lf1 := hts (.fieldLink RX12 1 "KerbSplashModel" "thrown" "I") (List.mem_of_getElem? (i := 1) rfl)
  have hi12 : ∀ w ∈ wsX120, w ∈ vs_m_drain := fun w h => List.mem_cons_of_mem _ (List.mem_append_right _ (List.mem_append_left _ h))
  have gg_1 : GoodIn vs_m_drain (wsV RX12 283 RX12 yX12_drains vs_m_drains) := goodIn_sub (fun w h => List.mem_cons_of_mem _ (List.mem_append_right _ (List.mem_append_right _ (List.mem_append_left _ h)))) (gd_V gd_m_drains (by decide +kernel))
  have gg_2 : GoodIn vs_m_drain (va_wsS RX12 279 yX12_within vs_m_within) := goodIn_sub (fun w h => List.mem_cons_of_mem _ (List.mem_append_right _ (List.mem_append_right _ (List.mem_append_right _ (List.mem_append_left _ h))))) (gd_S gd_m_within (by decide +kernel))
  have gg_3 : GoodIn vs_m_drain (wsV RX12 175 RX12 yX12_may vs_m_may) := goodIn_sub (fun w h => List.mem_cons_of_mem _ (List.mem_append_right _ (List.mem_append_right _ (List.mem_append_right _ (List.mem_append_right _ (List.mem_append_left _ h)))))) (gd_V gd_m_may (by decide +kernel))
  have gg_4 : GoodIn vs_m_drain (wsV RX12 297 RX12 yX12_drainTold vs_m_drainToldw) := goodIn_sub (fun w h => List.mem_cons_of_mem _ (List.mem_append_right _ (List.mem_append_right _ (List.mem_append_right _ (List.mem_append_right _ (List.mem_append_right _ (List.mem_append_left _ h))))))) (gd_V gd_m_drainToldw (by decide +kernel))
  have gg_5 : GoodIn vs_m_drain (wsV RX12 294 RX12 yX12_leavesOf vs_m_leavesOf) := goodIn_sub (fun w h => List.mem_cons_of_mem _ (List.mem_append_right _ (List.mem_append_right _ (List.mem_append_right _ (List.mem_append_right _ (List.mem_append_right _ (List.mem_append_right _ (List.mem_append_left _ h)))))))) (gd_V gd_m_leavesOf (by decide +kernel))
  refine lv_aload_n hx hb dX12_drain_0 rfl (lv_at hlv 0 rfl) ?_
  refine lv_iconst (v := iI 0) hx hb dX12_drain_1 (by decide) ?_
  refine va_put (D := D) (ci := 12) (v := vI 0) (ty := .int) (C := RX12) (T := TX12) (N := 38) hx hb hts hi12 tyX12 tyX12_ok nmX12 hown hG.1 hP hD hS 0 rfl rfl 0 (by decide) lf1 (fun _ h9 => h9) rfl (by decide +kernel) rfl rfl (Nat.le_of_ble_eq_true rfl) dX12_drain_2 (fun H locs hP hD hS => ?_)
  obtain ⟨hP, hD⟩ := pw9 [zO mm 12 [vI 0, vR m1, vI tp, vI sz_, vI ap, vI bad, vI bk, vI opn, vI fp, vR m9, vR m10, vR m11, vR m12, vR m13, vR m14, vR m15, vI im, vI nr, vI nl, vR m19, vR m20, vR m21, vI sp_, vR m23, vR m24, vR m25, vR m26, vR m27, vR m28, vI wtc, vI wcl, vI ir, vI ip, vR m33, vI shu, vR m35, vI sfa, vI swr], zI m1 (cy 0) 4 f1, zI m10 (cy 0) 68 f10, zI m12 (cy 0) 389 f12] hP hD
  refine lv_aload_n hx hb dX12_drain_5 rfl (lv_at hlv 0 rfl) ?_
  refine lv_iload_n hx hb dX12_drain_6 rfl (lv_at hlv 1 rfl) ?_
  refine lv_iconst (v := iI 0) hx hb dX12_drain_7 (by decide) ?_
  refine lv_aload_n hx hb dX12_drain_8 rfl (lv_at hlv 0 rfl) ?_
  refine cjr_i [false, true, false, false] (fun pre9 => (va_runV (As := []) (rest := [vI 0, vI n, vR mm]) ⟨hx, hb, hml, hown, hts⟩ (m_drains l hl D cy sa mm m1 m9 m10 m11 m12 m13 m14 m15 m19 m20 m21 m23 m24 m25 m26 m27 m28 m33 m35 0 tp sz_ ap bad bk opn fp im nr nl sp_ wtc wcl ir ip shu sfa swr f10 f12 8 H.size (by show ((-2147483648) : Int) ≤ 0 ∧ (0 : Int) ≤ 2147483647; decide) (by first | exact hr_tp | omega) (by first | exact hr_sz_ | omega) (by first | exact hr_ap | omega) (by first | exact hr_bad | omega) (by first | exact hr_bk | omega) (by first | exact hr_opn | omega) (by first | exact hr_fp | omega) (by first | exact hr_im | omega) (by first | exact hr_nr | omega) (by first | exact hr_nl | omega) (by first | exact hr_sp_ | omega) (by first | exact hr_wtc | omega) (by first | exact hr_wcl | omega) (by first | exact hr_ir | omega) (by first | exact hr_ip | omega) (by first | exact hr_shu | omega) (by first | exact hr_sfa | omega) (by first | exact hr_swr | omega) (by show (8 : Int) ≤ 8 ∧ (8 : Int) ≤ 9; decide) hf10 hf12) (cwV 0 hts gg_1 rfl rfl rfl (by decide +kernel) ⟨Nat.le_of_ble_eq_true rfl, Nat.le_of_ble_eq_true rfl⟩) ⟨pcW.blind, (va_recv hG.1 hP (ci := 12) (q0 := 0) rfl rfl), pre9⟩ rfl rfl hlv.1 rfl (lv_room (Nat.le_of_ble_eq_true rfl)) dX12_drain_9 ⟨Nat.le_of_ble_eq_true rfl, Nat.le_of_ble_eq_true rfl⟩)) hP hD hS hA hG hT [0, 2, 3] rfl (by decide +kernel) (fun r1 u1 H locs hw1 hq9 hS => ?_)
  obtain ⟨rfl, hq1_1, hq1_2, hq1_3, hq1_4⟩ := hw1
  obtain ⟨hP, hD⟩ := pd9 [zI m1 (cy 0) 4 f1, zO mm 12 [vI 0, vR m1, vI tp, vI sz_, vI ap, vI bad, vI bk, vI opn, vI fp, vR m9, vR m10, vR m11, vR m12, vR m13, vR m14, vR m15, vI im, vI nr, vI nl, vR m19, vR m20, vR m21, vI sp_, vR m23, vR m24, vR m25, vR m26, vR m27, vR m28, vI wtc, vI wcl, vI ir, vI ip, vR m33, vI shu, vR m35, vI sfa, vI swr], zI m10 (cy 0) 68 f10, zI m12 (cy 0) 389 f12] hq9
  refine lv_iconst (v := iI 1) hx hb dX12_drain_12 (by decide) ?_
  refine lv_isub hx hb dX12_drain_13 ?_
  refine lt_e (e0 := (u1.2.1 0) - 1) (Int32.ofInt_sub _ _).symm (fun z_1 hz_1 => ?_)
  refine cjr_i [true, true, true, true] (fun pre9 => (va_runS (As := [vI n, vI 0, vI z_1]) (rest := [vR mm]) ⟨hx, hb, hml, hown, hts⟩ (m_within l hl D cy sa n 0 z_1 H.size (by first | exact hr_n | omega) (by show ((-2147483648) : Int) ≤ 0 ∧ (0 : Int) ≤ 2147483647; decide) (by omega)) (va_cwS 3 hts gg_2 rfl rfl rfl (by decide +kernel) ⟨Nat.le_of_ble_eq_true rfl, Nat.le_of_ble_eq_true rfl⟩) ⟨pcW.blind, pre9⟩ rfl rfl hlv.1 rfl (lv_room (Nat.le_of_ble_eq_true rfl)) dX12_drain_14 ⟨Nat.le_of_ble_eq_true rfl, Nat.le_of_ble_eq_true rfl⟩)) hP hD hS hA hG hT [] rfl (by decide +kernel) (fun r2 u2 H locs hw2 hq9 hS => ?_)
  obtain ⟨rfl, hq2_1, hq2_2, hq2_3⟩ := hw2
  obtain ⟨hP, hD⟩ := pd9 [zI m1 (cy 0) 4 f1, zO mm 12 [vI 0, vR m1, vI tp, vI sz_, vI ap, vI bad, vI bk, vI opn, vI fp, vR m9, vR m10, vR m11, vR m12, vR m13, vR m14, vR m15, vI im, vI nr, vI nl, vR m19, vR m20, vR m21, vI sp_, vR m23, vR m24, vR m25, vR m26, vR m27, vR m28, vI wtc, vI wcl, vI ir, vI ip, vR m33, vI shu, vR m35, vI sfa, vI swr], zI m10 (cy 0) 68 f10, zI m12 (cy 0) 389 f12] hq9
  refine lv_iconst (v := iI 1) hx hb dX12_drain_17 (by decide) ?_
  refine lv_iconst (v := iI 1) hx hb dX12_drain_18 (by decide) ?_
  refine cjr_i [false, false, true, true] (fun pre9 => (va_runV (As := [vI (u2.2.1 0), vI 1, vI 1]) (rest := []) ⟨hx, hb, hml, hown, hts⟩ (m_may l hl D cy sa mm m1 m9 m10 m11 m12 m13 m14 m15 m19 m20 m21 m23 m24 m25 m26 m27 m28 m33 m35 0 tp sz_ ap bad bk opn fp im nr nl sp_ wtc wcl ir ip shu sfa swr f1 (u2.2.1 0) 1 1 H.size (by show ((-2147483648) : Int) ≤ 0 ∧ (0 : Int) ≤ 2147483647; decide) (by first | exact hr_tp | omega) (by first | exact hr_sz_ | omega) (by first | exact hr_ap | omega) (by first | exact hr_bad | omega) (by first | exact hr_bk | omega) (by first | exact hr_opn | omega) (by first | exact hr_fp | omega) (by first | exact hr_im | omega) (by first | exact hr_nr | omega) (by first | exact hr_nl | omega) (by first | exact hr_sp_ | omega) (by first | exact hr_wtc | omega) (by first | exact hr_wcl | omega) (by first | exact hr_ir | omega) (by first | exact hr_ip | omega) (by first | exact hr_shu | omega) (by first | exact hr_sfa | omega) (by first | exact hr_swr | omega) (by first | exact hq2_1 | omega) (by show (1 : Int) ≤ 1 ∧ (1 : Int) ≤ 4; decide) (by show (0 : Int) ≤ 1 ∧ (1 : Int) ≤ 3; decide)) (cwV 3 hts gg_3 rfl rfl rfl (by decide +kernel) ⟨Nat.le_of_ble_eq_true rfl, Nat.le_of_ble_eq_true rfl⟩) ⟨pcW.blind, (va_recv hG.1 hP (ci := 12) (q0 := 1) rfl rfl), pre9⟩ rfl rfl hlv.1 rfl (lv_room (Nat.le_of_ble_eq_true rfl)) dX12_drain_19 ⟨Nat.le_of_ble_eq_true rfl, Nat.le_of_ble_eq_true rfl⟩)) hP hD hS hA hG hT [1, 0] rfl (by decide +kernel) (fun r3 u3 H locs hw3 hq9 hS => ?_)
  obtain ⟨rfl, hq3_1, hq3_2, hq3_3, hq3_4⟩ := hw3
  obtain ⟨hP, hD⟩ := pd9 [zI m10 (cy 0) 68 f10, zI m12 (cy 0) 389 f12, zO mm 12 [vI (u3.2.1 1), vR m1, vI tp, vI sz_, vI ap, vI bad, vI bk, vI opn, vI fp, vR m9, vR m10, vR m11, vR m12, vR m13, vR m14, vR m15, vI im, vI nr, vI nl, vR m19, vR m20, vR m21, vI sp_, vR m23, vR m24, vR m25, vR m26, vR m27, vR m28, vI wtc, vI wcl, vI ir, vI ip, vR m33, vI shu, vR m35, vI sfa, vI swr], zI m1 (cy 0) 4 (u3.2.2 0)] hq9
  refine iz_eq (tgt := 40) hx hb dX12_drain_22 (by decide) (by first | exact rgw hq3_2 (by decide) (by decide) | omega) (fun c_2 => ?_) (fun c_2 => ?_)
  · refine lv_iconst (v := iI 0) hx hb dX12_drain_40 (by decide) ?_
    refine W.widen (k := 0) (n := 0) (Nat.le_of_ble_eq_true rfl) (Nat.le_of_ble_eq_true rfl) ?_
    exact W.iret (v := iI 0) hx hb hr (fun t ht hW => ⟨⟨iI 0, ((fun k => ([] : List Nat).getD k 0), (fun k => ([0, (u3.2.1 1)] : List Int).getD k 0), (fun k => ([(u3.2.2 0)] : List (Nat → Int32)).getD k (fun _ => 0))), rfl, ⟨rfl, (by show ((-2147483648) ≤ (u3.2.1 1) ∧ (u3.2.1 1) ≤ 2147483647); first | exact hq3_1 | omega), (by show ((-2147483648) ≤ 0 ∧ 0 ≤ 2147483647); show ((-2147483648) : Int) ≤ 0 ∧ (0 : Int) ≤ 2147483647; decide), hq1_3, hq1_4⟩, at9 ht hP hD [2, 3, 0, 1] (by decide +kernel) rfl⟩, hS.F ht⟩) hS.2.2 dX12_drain_41
  · refine lv_aload_n hx hb dX12_drain_25 rfl (lv_at hlv 0 rfl) ?_
    refine lv_iload_n hx hb dX12_drain_26 rfl (lv_at hlv 2 rfl) ?_
    refine lv_iconst (v := iI 0) hx hb dX12_drain_27 (by decide) ?_
    refine lv_iconst (v := iI 3) hx hb dX12_drain_28 (by decide) ?_
    refine cjr_i [true, true, true, true] (fun pre9 => (va_runS (As := [vI k, vI 0, vI 3]) (rest := [vR mm]) ⟨hx, hb, hml, hown, hts⟩ (m_within l hl D cy sa k 0 3 H.size (by first | exact hr_k | omega) (by show ((-2147483648) : Int) ≤ 0 ∧ (0 : Int) ≤ 2147483647; decide) (by show ((-2147483648) : Int) ≤ 3 ∧ (3 : Int) ≤ 2147483647; decide)) (va_cwS 3 hts gg_2 rfl rfl rfl (by decide +kernel) ⟨Nat.le_of_ble_eq_true rfl, Nat.le_of_ble_eq_true rfl⟩) ⟨pcW.blind, pre9⟩ rfl rfl hlv.1 rfl (lv_room (Nat.le_of_ble_eq_true rfl)) dX12_drain_29 ⟨Nat.le_of_ble_eq_true rfl, Nat.le_of_ble_eq_true rfl⟩)) hP hD hS hA hG hT [] rfl (by decide +kernel) (fun r4 u4 H locs hw4 hq9 hS => ?_)
    obtain ⟨rfl, hq4_1, hq4_2, hq4_3⟩ := hw4
    obtain ⟨hP, hD⟩ := pd9 [zI m10 (cy 0) 68 f10, zI m12 (cy 0) 389 f12, zO mm 12 [vI (u3.2.1 1), vR m1, vI tp, vI sz_, vI ap, vI bad, vI bk, vI opn, vI fp, vR m9, vR m10, vR m11, vR m12, vR m13, vR m14, vR m15, vI im, vI nr, vI nl, vR m19, vR m20, vR m21, vI sp_, vR m23, vR m24, vR m25, vR m26, vR m27, vR m28, vI wtc, vI wcl, vI ir, vI ip, vR m33, vI shu, vR m35, vI sfa, vI swr], zI m1 (cy 0) 4 (u3.2.2 0)] hq9
    refine lv_iconst (v := iI 2) hx hb dX12_drain_32 (by decide) ?_
    refine lv_iconst (v := iI 2) hx hb dX12_drain_33 (by decide) ?_
    refine cjr_i [true, true, false, false] (fun pre9 => (va_runV (As := [vI (u4.2.1 0), vI 2, vI 2]) (rest := []) ⟨hx, hb, hml, hown, hts⟩ (m_may l hl D cy sa mm m1 m9 m10 m11 m12 m13 m14 m15 m19 m20 m21 m23 m24 m25 m26 m27 m28 m33 m35 (u3.2.1 1) tp sz_ ap bad bk opn fp im nr nl sp_ wtc wcl ir ip shu sfa swr (u3.2.2 0) (u4.2.1 0) 2 2 H.size (by first | exact hq3_1 | omega) (by first | exact hr_tp | omega) (by first | exact hr_sz_ | omega) (by first | exact hr_ap | omega) (by first | exact hr_bad | omega) (by first | exact hr_bk | omega) (by first | exact hr_opn | omega) (by first | exact hr_fp | omega) (by first | exact hr_im | omega) (by first | exact hr_nr | omega) (by first | exact hr_nl | omega) (by first | exact hr_sp_ | omega) (by first | exact hr_wtc | omega) (by first | exact hr_wcl | omega) (by first | exact hr_ir | omega) (by first | exact hr_ip | omega) (by first | exact hr_shu | omega) (by first | exact hr_sfa | omega) (by first | exact hr_swr | omega) (by first | exact hq4_1 | omega) (by show (1 : Int) ≤ 2 ∧ (2 : Int) ≤ 4; decide) (by show (0 : Int) ≤ 2 ∧ (2 : Int) ≤ 3; decide)) (cwV 3 hts gg_3 rfl rfl rfl (by decide +kernel) ⟨Nat.le_of_ble_eq_true rfl, Nat.le_of_ble_eq_true rfl⟩) ⟨pcW.blind, (va_recv hG.1 hP (ci := 12) (q0 := 2) rfl rfl), pre9⟩ rfl rfl hlv.1 rfl (lv_room (Nat.le_of_ble_eq_true rfl)) dX12_drain_34 ⟨Nat.le_of_ble_eq_true rfl, Nat.le_of_ble_eq_true rfl⟩)) hP hD hS hA hG hT [2, 3] rfl (by decide +kernel) (fun r5 u5 H locs hw5 hq9 hS => ?_)
    obtain ⟨rfl, hq5_1, hq5_2, hq5_3, hq5_4⟩ := hw5
    obtain ⟨hP, hD⟩ := pd9 [zI m10 (cy 0) 68 f10, zI m12 (cy 0) 389 f12, zO mm 12 [vI (u5.2.1 1), vR m1, vI tp, vI sz_, vI ap, vI bad, vI bk, vI opn, vI fp, vR m9, vR m10, vR m11, vR m12, vR m13, vR m14, vR m15, vI im, vI nr, vI nl, vR m19, vR m20, vR m21, vI sp_, vR m23, vR m24, vR m25, vR m26, vR m27, vR m28, vI wtc, vI wcl, vI ir, vI ip, vR m33, vI shu, vR m35, vI sfa, vI swr], zI m1 (cy 0) 4 (u5.2.2 0)] hq9
    refine iz_ne (tgt := 42) hx hb dX12_drain_37 (by decide) (by first | exact rgw hq5_2 (by decide) (by decide) | omega) (fun c_3 => ?_) (fun c_3 => ?_)
    · refine lv_iload_n hx hb dX12_drain_42 rfl (lv_at hlv 2 rfl) ?_
      refine lv_iconst (v := iI 3) hx hb dX12_drain_43 (by decide) ?_
      refine ir_ne (tgt := 55) hx hb dX12_drain_44 (by decide) (by first | exact hr_k | omega) (by show ((-2147483648) : Int) ≤ 3 ∧ (3 : Int) ≤ 2147483647; decide) (fun c_4 => ?_) (fun c_4 => ?_)
      · refine lv_aload_n hx hb dX12_drain_55 rfl (lv_at hlv 0 rfl) ?_
        refine lv_iload_n hx hb dX12_drain_56 rfl (lv_at hlv 1 rfl) ?_
        refine lv_iload_n hx hb dX12_drain_57 rfl (lv_at hlv 2 rfl) ?_
        refine cjr_i [false, false, false, true] (fun pre9 => (va_runV (As := [vI n, vI k]) (rest := []) ⟨hx, hb, hml, hown, hts⟩ (m_drainToldw l hl D cy sa mm m1 m9 m10 m11 m12 m13 m14 m15 m19 m20 m21 m23 m24 m25 m26 m27 m28 m33 m35 (u5.2.1 1) tp sz_ ap bad bk opn fp im nr nl sp_ wtc wcl ir ip shu sfa swr f10 f12 n k 8 H.size (by first | exact hq5_1 | omega) (by first | exact hr_tp | omega) (by first | exact hr_sz_ | omega) (by first | exact hr_ap | omega) (by first | exact hr_bad | omega) (by first | exact hr_bk | omega) (by first | exact hr_opn | omega) (by first | exact hr_fp | omega) (by first | exact hr_im | omega) (by first | exact hr_nr | omega) (by first | exact hr_nl | omega) (by first | exact hr_sp_ | omega) (by first | exact hr_wtc | omega) (by first | exact hr_wcl | omega) (by first | exact hr_ir | omega) (by first | exact hr_ip | omega) (by first | exact hr_shu | omega) (by first | exact hr_sfa | omega) (by first | exact hr_swr | omega) (by omega) (by omega) (by show (8 : Int) ≤ 8 ∧ (8 : Int) ≤ 9; decide) (by omega) hq1_3 hq1_4) (cwV 2 hts gg_4 rfl rfl rfl (by decide +kernel) ⟨Nat.le_of_ble_eq_true rfl, Nat.le_of_ble_eq_true rfl⟩) ⟨pcW.blind, (va_recv hG.1 hP (ci := 12) (q0 := 2) rfl rfl), pre9⟩ rfl rfl hlv.1 rfl (lv_room (Nat.le_of_ble_eq_true rfl)) dX12_drain_58 ⟨Nat.le_of_ble_eq_true rfl, Nat.le_of_ble_eq_true rfl⟩)) hP hD hS hA hG hT [2, 0, 1] rfl (by decide +kernel) (fun r6 u6 H locs hw6 hq9 hS => ?_)
        obtain ⟨rfl, hq6_1, hq6_2, hq6_3⟩ := hw6
        obtain ⟨hP, hD⟩ := pd9 [zI m1 (cy 0) 4 (u5.2.2 0), zO mm 12 [vI (u5.2.1 1), vR m1, vI tp, vI sz_, vI ap, vI bad, vI bk, vI opn, vI fp, vR m9, vR m10, vR m11, vR m12, vR m13, vR m14, vR m15, vI im, vI nr, vI nl, vR m19, vR m20, vR m21, vI sp_, vR m23, vR m24, vR m25, vR m26, vR m27, vR m28, vI wtc, vI wcl, vI ir, vI ip, vR m33, vI shu, vR m35, vI sfa, vI swr], zI m10 (cy 0) 68 f10, zI m12 (cy 0) 389 f12] hq9
        refine W.widen (k := 0) (n := 0) (Nat.le_of_ble_eq_true rfl) (Nat.le_of_ble_eq_true rfl) ?_
        exact W.iret (v := iI (u6.2.1 0)) hx hb hr (fun t ht hW => ⟨⟨iI (u6.2.1 0), ((fun k => ([] : List Nat).getD k 0), (fun k => ([(u6.2.1 0), (u5.2.1 1)] : List Int).getD k 0), (fun k => ([(u5.2.2 0)] : List (Nat → Int32)).getD k (fun _ => 0))), rfl, ⟨rfl, (by show ((-2147483648) ≤ (u5.2.1 1) ∧ (u5.2.1 1) ≤ 2147483647); first | exact hq5_1 | omega), (by show ((-2147483648) ≤ (u6.2.1 0) ∧ (u6.2.1 0) ≤ 2147483647); first | exact hq6_1 | omega), hq6_2, hq6_3⟩, at9 ht hP hD [1, 0, 2, 3] (by decide +kernel) rfl⟩, hS.F ht⟩) hS.2.2 dX12_drain_61
      · refine lv_aload_n hx hb dX12_drain_47 rfl (lv_at hlv 0 rfl) ?_
        refine lv_iload_n hx hb dX12_drain_48 rfl (lv_at hlv 1 rfl) ?_
        refine cjr_i [false, false, false, true] (fun pre9 => (va_runV (As := [vI n]) (rest := []) ⟨hx, hb, hml, hown, hts⟩ (m_leavesOf l hl D cy sa mm m1 m9 m10 m11 m12 m13 m14 m15 m19 m20 m21 m23 m24 m25 m26 m27 m28 m33 m35 (u5.2.1 1) tp sz_ ap bad bk opn fp im nr nl sp_ wtc wcl ir ip shu sfa swr f10 f12 n 8 H.size (by first | exact hq5_1 | omega) (by first | exact hr_tp | omega) (by first | exact hr_sz_ | omega) (by first | exact hr_ap | omega) (by first | exact hr_bad | omega) (by first | exact hr_bk | omega) (by first | exact hr_opn | omega) (by first | exact hr_fp | omega) (by first | exact hr_im | omega) (by first | exact hr_nr | omega) (by first | exact hr_nl | omega) (by first | exact hr_sp_ | omega) (by first | exact hr_wtc | omega) (by first | exact hr_wcl | omega) (by first | exact hr_ir | omega) (by first | exact hr_ip | omega) (by first | exact hr_shu | omega) (by first | exact hr_sfa | omega) (by first | exact hr_swr | omega) (by omega) (by show (8 : Int) ≤ 8 ∧ (8 : Int) ≤ 9; decide) hq1_3 hq1_4) (cwV 1 hts gg_5 rfl rfl rfl (by decide +kernel) ⟨Nat.le_of_ble_eq_true rfl, Nat.le_of_ble_eq_true rfl⟩) ⟨pcW.blind, (va_recv hG.1 hP (ci := 12) (q0 := 2) rfl rfl), pre9⟩ rfl rfl hlv.1 rfl (lv_room (Nat.le_of_ble_eq_true rfl)) dX12_drain_49 ⟨Nat.le_of_ble_eq_true rfl, Nat.le_of_ble_eq_true rfl⟩)) hP hD hS hA hG hT [2, 0, 1] rfl (by decide +kernel) (fun r7 u7 H locs hw7 hq9 hS => ?_)
        obtain ⟨rfl, hq7_1, hq7_2, hq7_3⟩ := hw7
        obtain ⟨hP, hD⟩ := pd9 [zI m1 (cy 0) 4 (u5.2.2 0), zO mm 12 [vI (u5.2.1 1), vR m1, vI tp, vI sz_, vI ap, vI bad, vI bk, vI opn, vI fp, vR m9, vR m10, vR m11, vR m12, vR m13, vR m14, vR m15, vI im, vI nr, vI nl, vR m19, vR m20, vR m21, vI sp_, vR m23, vR m24, vR m25, vR m26, vR m27, vR m28, vI wtc, vI wcl, vI ir, vI ip, vR m33, vI shu, vR m35, vI sfa, vI swr], zI m10 (cy 0) 68 f10, zI m12 (cy 0) 389 f12] hq9
        refine lv_goto (tgt := 61) hx hb dX12_drain_52 (by decide) ?_
        refine W.widen (k := 0) (n := 0) (Nat.le_of_ble_eq_true rfl) (Nat.le_of_ble_eq_true rfl) ?_
        exact W.iret (v := iI (u7.2.1 0)) hx hb hr (fun t ht hW => ⟨⟨iI (u7.2.1 0), ((fun k => ([] : List Nat).getD k 0), (fun k => ([(u7.2.1 0), (u5.2.1 1)] : List Int).getD k 0), (fun k => ([(u5.2.2 0)] : List (Nat → Int32)).getD k (fun _ => 0))), rfl, ⟨rfl, (by show ((-2147483648) ≤ (u5.2.1 1) ∧ (u5.2.1 1) ≤ 2147483647); first | exact hq5_1 | omega), (by show ((-2147483648) ≤ (u7.2.1 0) ∧ (u7.2.1 0) ≤ 2147483647); first | exact hq7_1 | omega), hq7_2, hq7_3⟩, at9 ht hP hD [1, 0, 2, 3] (by decide +kernel) rfl⟩, hS.F ht⟩) hS.2.2 dX12_drain_61
    · refine lv_iconst (v := iI 0) hx hb dX12_drain_40 (by decide) ?_
      refine W.widen (k := 0) (n := 0) (Nat.le_of_ble_eq_true rfl) (Nat.le_of_ble_eq_true rfl) ?_
      exact W.iret (v := iI 0) hx hb hr (fun t ht hW => ⟨⟨iI 0, ((fun k => ([] : List Nat).getD k 0), (fun k => ([0, (u5.2.1 1)] : List Int).getD k 0), (fun k => ([(u5.2.2 0)] : List (Nat → Int32)).getD k (fun _ => 0))), rfl, ⟨rfl, (by show ((-2147483648) ≤ (u5.2.1 1) ∧ (u5.2.1 1) ≤ 2147483647); first | exact hq5_1 | omega), (by show ((-2147483648) ≤ 0 ∧ 0 ≤ 2147483647); show ((-2147483648) : Int) ≤ 0 ∧ (0 : Int) ≤ 2147483647; decide), hq1_3, hq1_4⟩, at9 ht hP hD [2, 3, 0, 1] (by decide +kernel) rfl⟩, hS.F ht⟩) hS.2.2 dX12_drain_41
def vs_m_leaves : List Cond := .code yX12_leaves cX12_leaves 4 (some .int) :: (([.fieldLink RX12 1 "KerbSplashModel" "thrown" "I", .fieldLink RX12 23 "KerbSplashModel" "b" "[I", .fieldLink RX12 29 "KerbSplashModel" "s" "[I"] : List Cond) ++ ((wsX120) ++ ((wsV RX12 283 RX12 yX12_drains vs_m_drains) ++ ((va_wsS RX12 279 yX12_within vs_m_within) ++ ((wsV RX12 175 RX12 yX12_may vs_m_may) ++ ([]))))))
set_option maxHeartbeats 4000000 in
set_option maxRecDepth 100000 in
theorem m_leaves (l : Launch) (hl : l.stackTraces = false) (D : va_G) (cy : Nat → ClassId) (sa : Nat → Nat) (mm m1 m9 m10 m11 m12 m13 m14 m15 m19 m20 m21 m23 m24 m25 m26 m27 m28 m33 m35 : Nat) (th tp sz_ ap bad bk opn fp im nr nl sp_ wtc wcl ir ip shu sfa swr : Int) (f1 f10 f12 : Nat → Int32) (n k : Int) (qs : Nat → Int) (sz : Nat) (hr_th : (-2147483648) ≤ th ∧ th ≤ 2147483647) (hr_tp : 0 ≤ tp ∧ tp ≤ 600) (hr_sz_ : 0 ≤ sz_ ∧ sz_ ≤ 600) (hr_ap : 0 ≤ ap ∧ ap ≤ 602) (hr_bad : (-1) ≤ bad ∧ bad ≤ 602) (hr_bk : 0 ≤ bk ∧ bk ≤ 4) (hr_opn : 0 ≤ opn ∧ opn ≤ 7) (hr_fp : (-2147483648) ≤ fp ∧ fp ≤ 2147483647) (hr_im : 0 ≤ im ∧ im ≤ 3) (hr_nr : 0 ≤ nr ∧ nr ≤ 4) (hr_nl : 0 ≤ nl ∧ nl ≤ 4) (hr_sp_ : 0 ≤ sp_ ∧ sp_ ≤ 602) (hr_wtc : (-2147483648) ≤ wtc ∧ wtc ≤ 2147483647) (hr_wcl : 0 ≤ wcl ∧ wcl ≤ 95) (hr_ir : 0 ≤ ir ∧ ir ≤ 5) (hr_ip : (-2147483648) ≤ ip ∧ ip ≤ 2147483647) (hr_shu : (-2147483648) ≤ shu ∧ shu ≤ 2147483647) (hr_sfa : (-2147483648) ≤ sfa ∧ sfa ≤ 2147483647) (hr_swr : (-2147483648) ≤ swr ∧ swr ≤ 2147483647) (hr_n : (-2147483648) ≤ n ∧ n ≤ 2147483647) (hr_k : (-2147483648) ≤ k ∧ k ≤ 2147483647) (hf10 : BI f10) (hf12 : SQ qs 8 f12) : mI9 l yX12_leaves vs_m_leaves ({ frames := 1, cells := 0, slots := 0, locals := 23 }) D cy sa sz [vR mm, vI n, vI k] [zO mm 12 [vI th, vR m1, vI tp, vI sz_, vI ap, vI bad, vI bk, vI opn, vI fp, vR m9, vR m10, vR m11, vR m12, vR m13, vR m14, vR m15, vI im, vI nr, vI nl, vR m19, vR m20, vR m21, vI sp_, vR m23, vR m24, vR m25, vR m26, vR m27, vR m28, vI wtc, vI wcl, vI ir, vI ip, vR m33, vI shu, vR m35, vI sfa, vI swr], zI m1 (cy 0) 4 f1, zI m10 (cy 0) 68 f10, zI m12 (cy 0) 389 f12] (fun (r : Int32) (u : SV) => r = iI (u.2.1 0) ∧ ((-2147483648) ≤ u.2.1 1 ∧ u.2.1 1 ≤ 2147483647) ∧ ((-2147483648) ≤ u.2.1 0 ∧ u.2.1 0 ≤ 2147483647) ∧ BI f10 ∧ SQ qs 8 (u.2.2 1)) (fun u : SV => [zO mm 12 [vI (u.2.1 1), vR m1, vI tp, vI sz_, vI ap, vI bad, vI bk, vI opn, vI fp, vR m9, vR m10, vR m11, vR m12, vR m13, vR m14, vR m15, vI im, vI nr, vI nl, vR m19, vR m20, vR m21, vI sp_, vR m23, vR m24, vR m25, vR m26, vR m27, vR m28, vI wtc, vI wcl, vI ir, vI ip, vR m33, vI shu, vR m35, vI sfa, vI swr], zI m1 (cy 0) 4 (u.2.2 0), zI m10 (cy 0) 68 f10, zI m12 (cy 0) 389 (u.2.2 1)]) 0 0 := by
  refine Met.ofW (cc := cX12_leaves) (maxL := 4) (ret := (some .int)) (by decide) rfl ?_
  intro p e s m args below meth c s₁ B hml hv
  obtain ⟨rfl, hsz, hP, hG, hD0, hT⟩ := hv
  have hx := B.exec
  have hb := B.bytes
  have hr := B.returns
  have hts := atoms_spec (ws := vs_m_leaves) B.pre
  have hown : s.vm.findClass RX12 = some m.cls := findClass_of_methodNamed B.named
  have hlocks := B.notSynchronized
  subst hsz
  have hD := hD0.self (sz := s.heap.size)
  generalize hAe : va_A [zO mm 12 [vI th, vR m1, vI tp, vI sz_, vI ap, vI bad, vI bk, vI opn, vI fp, vR m9, vR m10, vR m11, vR m12, vR m13, vR m14, vR m15, vI im, vI nr, vI nl, vR m19, vR m20, vR m21, vI sp_, vR m23, vR m24, vR m25, vR m26, vR m27, vR m28, vI wtc, vI wcl, vI ir, vI ip, vR m33, vI shu, vR m35, vI sfa, vI swr], zI m1 (cy 0) 4 f1, zI m10 (cy 0) 68 f10, zI m12 (cy 0) 389 f12] s.heap.size = A at hD hT ⊢
  have hA : ∀ q : Nat, s.heap.size ≤ q → A q := fun q h => by rw [← hAe]; exact Or.inr h
  have hS : va_S A s.heap s.heap [] := va_S.rf
  have hl0 := lv_entry ([vR mm, vI n, vI k]) (n := 4) (Nat.le_of_ble_eq_true rfl)
  rw [lg_entry_eq]
  generalize (lg_sl ([vR mm, vI n, vI k]) ++ List.replicate (4 - (lg_sl ([vR mm, vI n, vI k])).length) Slot.unset).toArray = ls at hl0 ⊢
  have hlv : lv_has ls 4 [(0, vR mm), (1, vI n), (2, vI k)] := hl0
  have lf1 := hts (.fieldLink RX12 1 "KerbSplashModel" "thrown" "I") (List.mem_of_getElem? (i := 1) rfl)
  have hi12 : ∀ w ∈ wsX120, w ∈ vs_m_leaves := fun w h => List.mem_cons_of_mem _ (List.mem_append_right _ (List.mem_append_left _ h))
  have gg_1 : GoodIn vs_m_leaves (wsV RX12 283 RX12 yX12_drains vs_m_drains) := goodIn_sub (fun w h => List.mem_cons_of_mem _ (List.mem_append_right _ (List.mem_append_right _ (List.mem_append_left _ h)))) (gd_V gd_m_drains (by decide +kernel))
  have gg_2 : GoodIn vs_m_leaves (va_wsS RX12 279 yX12_within vs_m_within) := goodIn_sub (fun w h => List.mem_cons_of_mem _ (List.mem_append_right _ (List.mem_append_right _ (List.mem_append_right _ (List.mem_append_left _ h))))) (gd_S gd_m_within (by decide +kernel))
  have gg_3 : GoodIn vs_m_leaves (wsV RX12 175 RX12 yX12_may vs_m_may) := goodIn_sub (fun w h => List.mem_cons_of_mem _ (List.mem_append_right _ (List.mem_append_right _ (List.mem_append_right _ (List.mem_append_right _ (List.mem_append_left _ h)))))) (gd_V gd_m_may (by decide +kernel))
  have lf23 := hts (.fieldLink RX12 23 "KerbSplashModel" "b" "[I") (List.mem_of_getElem? (i := 2) rfl)
  have lf29 := hts (.fieldLink RX12 29 "KerbSplashModel" "s" "[I") (List.mem_of_getElem? (i := 3) rfl)
  refine lv_aload_n hx hb dX12_leaves_0 rfl (lv_at hlv 0 rfl) ?_
  refine lv_iconst (v := iI 0) hx hb dX12_leaves_1 (by decide) ?_
  refine va_put (D := D) (ci := 12) (v := vI 0) (ty := .int) (C := RX12) (T := TX12) (N := 38) hx hb hts hi12 tyX12 tyX12_ok nmX12 hown hG.1 hP hD hS 0 rfl rfl 0 (by decide) lf1 (fun _ h9 => h9) rfl (by decide +kernel) rfl rfl (Nat.le_of_ble_eq_true rfl) dX12_leaves_2 (fun H locs hP hD hS => ?_)
  obtain ⟨hP, hD⟩ := pw9 [zO mm 12 [vI 0, vR m1, vI tp, vI sz_, vI ap, vI bad, vI bk, vI opn, vI fp, vR m9, vR m10, vR m11, vR m12, vR m13, vR m14, vR m15, vI im, vI nr, vI nl, vR m19, vR m20, vR m21, vI sp_, vR m23, vR m24, vR m25, vR m26, vR m27, vR m28, vI wtc, vI wcl, vI ir, vI ip, vR m33, vI shu, vR m35, vI sfa, vI swr], zI m1 (cy 0) 4 f1, zI m10 (cy 0) 68 f10, zI m12 (cy 0) 389 f12] hP hD
  refine lv_aload_n hx hb dX12_leaves_5 rfl (lv_at hlv 0 rfl) ?_
  refine lv_iload_n hx hb dX12_leaves_6 rfl (lv_at hlv 1 rfl) ?_
  refine lv_iconst (v := iI 0) hx hb dX12_leaves_7 (by decide) ?_
  refine lv_aload_n hx hb dX12_leaves_8 rfl (lv_at hlv 0 rfl) ?_
  refine cjr_i [false, true, false, false] (fun pre9 => (va_runV (As := []) (rest := [vI 0, vI n, vR mm]) ⟨hx, hb, hml, hown, hts⟩ (m_drains l hl D cy sa mm m1 m9 m10 m11 m12 m13 m14 m15 m19 m20 m21 m23 m24 m25 m26 m27 m28 m33 m35 0 tp sz_ ap bad bk opn fp im nr nl sp_ wtc wcl ir ip shu sfa swr f10 f12 8 H.size (by show ((-2147483648) : Int) ≤ 0 ∧ (0 : Int) ≤ 2147483647; decide) (by first | exact hr_tp | omega) (by first | exact hr_sz_ | omega) (by first | exact hr_ap | omega) (by first | exact hr_bad | omega) (by first | exact hr_bk | omega) (by first | exact hr_opn | omega) (by first | exact hr_fp | omega) (by first | exact hr_im | omega) (by first | exact hr_nr | omega) (by first | exact hr_nl | omega) (by first | exact hr_sp_ | omega) (by first | exact hr_wtc | omega) (by first | exact hr_wcl | omega) (by first | exact hr_ir | omega) (by first | exact hr_ip | omega) (by first | exact hr_shu | omega) (by first | exact hr_sfa | omega) (by first | exact hr_swr | omega) (by show (8 : Int) ≤ 8 ∧ (8 : Int) ≤ 9; decide) hf10 (hf12.1)) (cwV 0 hts gg_1 rfl rfl rfl (by decide +kernel) ⟨Nat.le_of_ble_eq_true rfl, Nat.le_of_ble_eq_true rfl⟩) ⟨pcW.blind, (va_recv hG.1 hP (ci := 12) (q0 := 0) rfl rfl), pre9⟩ rfl rfl hlv.1 rfl (lv_room (Nat.le_of_ble_eq_true rfl)) dX12_leaves_9 ⟨Nat.le_of_ble_eq_true rfl, Nat.le_of_ble_eq_true rfl⟩)) hP hD hS hA hG hT [0, 2, 3] rfl (by decide +kernel) (fun r1 u1 H locs hw1 hq9 hS => ?_)
  obtain ⟨rfl, hq1_1, hq1_2, hq1_3, hq1_4⟩ := hw1
  obtain ⟨hP, hD⟩ := pd9 [zI m1 (cy 0) 4 f1, zO mm 12 [vI 0, vR m1, vI tp, vI sz_, vI ap, vI bad, vI bk, vI opn, vI fp, vR m9, vR m10, vR m11, vR m12, vR m13, vR m14, vR m15, vI im, vI nr, vI nl, vR m19, vR m20, vR m21, vI sp_, vR m23, vR m24, vR m25, vR m26, vR m27, vR m28, vI wtc, vI wcl, vI ir, vI ip, vR m33, vI shu, vR m35, vI sfa, vI swr], zI m10 (cy 0) 68 f10, zI m12 (cy 0) 389 f12] hq9
  refine lv_iconst (v := iI 1) hx hb dX12_leaves_12 (by decide) ?_
  refine lv_isub hx hb dX12_leaves_13 ?_
  refine lt_e (e0 := (u1.2.1 0) - 1) (Int32.ofInt_sub _ _).symm (fun z_1 hz_1 => ?_)
  refine cjr_i [true, true, true, true] (fun pre9 => (va_runS (As := [vI n, vI 0, vI z_1]) (rest := [vR mm]) ⟨hx, hb, hml, hown, hts⟩ (m_within l hl D cy sa n 0 z_1 H.size (by first | exact hr_n | omega) (by show ((-2147483648) : Int) ≤ 0 ∧ (0 : Int) ≤ 2147483647; decide) (by omega)) (va_cwS 3 hts gg_2 rfl rfl rfl (by decide +kernel) ⟨Nat.le_of_ble_eq_true rfl, Nat.le_of_ble_eq_true rfl⟩) ⟨pcW.blind, pre9⟩ rfl rfl hlv.1 rfl (lv_room (Nat.le_of_ble_eq_true rfl)) dX12_leaves_14 ⟨Nat.le_of_ble_eq_true rfl, Nat.le_of_ble_eq_true rfl⟩)) hP hD hS hA hG hT [] rfl (by decide +kernel) (fun r2 u2 H locs hw2 hq9 hS => ?_)
  obtain ⟨rfl, hq2_1, hq2_2, hq2_3⟩ := hw2
  obtain ⟨hP, hD⟩ := pd9 [zI m1 (cy 0) 4 f1, zO mm 12 [vI 0, vR m1, vI tp, vI sz_, vI ap, vI bad, vI bk, vI opn, vI fp, vR m9, vR m10, vR m11, vR m12, vR m13, vR m14, vR m15, vI im, vI nr, vI nl, vR m19, vR m20, vR m21, vI sp_, vR m23, vR m24, vR m25, vR m26, vR m27, vR m28, vI wtc, vI wcl, vI ir, vI ip, vR m33, vI shu, vR m35, vI sfa, vI swr], zI m10 (cy 0) 68 f10, zI m12 (cy 0) 389 f12] hq9
  refine lv_iconst (v := iI 1) hx hb dX12_leaves_17 (by decide) ?_
  refine lv_iconst (v := iI 1) hx hb dX12_leaves_18 (by decide) ?_
  refine cjr_i [false, false, true, true] (fun pre9 => (va_runV (As := [vI (u2.2.1 0), vI 1, vI 1]) (rest := []) ⟨hx, hb, hml, hown, hts⟩ (m_may l hl D cy sa mm m1 m9 m10 m11 m12 m13 m14 m15 m19 m20 m21 m23 m24 m25 m26 m27 m28 m33 m35 0 tp sz_ ap bad bk opn fp im nr nl sp_ wtc wcl ir ip shu sfa swr f1 (u2.2.1 0) 1 1 H.size (by show ((-2147483648) : Int) ≤ 0 ∧ (0 : Int) ≤ 2147483647; decide) (by first | exact hr_tp | omega) (by first | exact hr_sz_ | omega) (by first | exact hr_ap | omega) (by first | exact hr_bad | omega) (by first | exact hr_bk | omega) (by first | exact hr_opn | omega) (by first | exact hr_fp | omega) (by first | exact hr_im | omega) (by first | exact hr_nr | omega) (by first | exact hr_nl | omega) (by first | exact hr_sp_ | omega) (by first | exact hr_wtc | omega) (by first | exact hr_wcl | omega) (by first | exact hr_ir | omega) (by first | exact hr_ip | omega) (by first | exact hr_shu | omega) (by first | exact hr_sfa | omega) (by first | exact hr_swr | omega) (by first | exact hq2_1 | omega) (by show (1 : Int) ≤ 1 ∧ (1 : Int) ≤ 4; decide) (by show (0 : Int) ≤ 1 ∧ (1 : Int) ≤ 3; decide)) (cwV 3 hts gg_3 rfl rfl rfl (by decide +kernel) ⟨Nat.le_of_ble_eq_true rfl, Nat.le_of_ble_eq_true rfl⟩) ⟨pcW.blind, (va_recv hG.1 hP (ci := 12) (q0 := 1) rfl rfl), pre9⟩ rfl rfl hlv.1 rfl (lv_room (Nat.le_of_ble_eq_true rfl)) dX12_leaves_19 ⟨Nat.le_of_ble_eq_true rfl, Nat.le_of_ble_eq_true rfl⟩)) hP hD hS hA hG hT [1, 0] rfl (by decide +kernel) (fun r3 u3 H locs hw3 hq9 hS => ?_)
  obtain ⟨rfl, hq3_1, hq3_2, hq3_3, hq3_4⟩ := hw3
  obtain ⟨hP, hD⟩ := pd9 [zI m10 (cy 0) 68 f10, zI m12 (cy 0) 389 f12, zO mm 12 [vI (u3.2.1 1), vR m1, vI tp, vI sz_, vI ap, vI bad, vI bk, vI opn, vI fp, vR m9, vR m10, vR m11, vR m12, vR m13, vR m14, vR m15, vI im, vI nr, vI nl, vR m19, vR m20, vR m21, vI sp_, vR m23, vR m24, vR m25, vR m26, vR m27, vR m28, vI wtc, vI wcl, vI ir, vI ip, vR m33, vI shu, vR m35, vI sfa, vI swr], zI m1 (cy 0) 4 (u3.2.2 0)] hq9
  refine iz_eq (tgt := 59) hx hb dX12_leaves_22 (by decide) (by first | exact rgw hq3_2 (by decide) (by decide) | omega) (fun c_2 => ?_) (fun c_2 => ?_)
  · refine lv_iconst (v := iI 0) hx hb dX12_leaves_59 (by decide) ?_
    refine W.widen (k := 0) (n := 0) (Nat.le_of_ble_eq_true rfl) (Nat.le_of_ble_eq_true rfl) ?_
    exact W.iret (v := iI 0) hx hb hr (fun t ht hW => ⟨⟨iI 0, ((fun k => ([] : List Nat).getD k 0), (fun k => ([0, (u3.2.1 1)] : List Int).getD k 0), (fun k => ([(u3.2.2 0), f12] : List (Nat → Int32)).getD k (fun _ => 0))), rfl, ⟨rfl, (by show ((-2147483648) ≤ (u3.2.1 1) ∧ (u3.2.1 1) ≤ 2147483647); first | exact hq3_1 | omega), (by show ((-2147483648) ≤ 0 ∧ 0 ≤ 2147483647); show ((-2147483648) : Int) ≤ 0 ∧ (0 : Int) ≤ 2147483647; decide), hq1_3, hf12⟩, at9 ht hP hD [2, 3, 0, 1] (by decide +kernel) rfl⟩, hS.F ht⟩) hS.2.2 dX12_leaves_60
  · refine lv_aload_n hx hb dX12_leaves_25 rfl (lv_at hlv 0 rfl) ?_
    refine lv_iload_n hx hb dX12_leaves_26 rfl (lv_at hlv 1 rfl) ?_
    refine lv_aload_n hx hb dX12_leaves_27 rfl (lv_at hlv 0 rfl) ?_
    refine va_get (D := D) (ci := 12) (v := vR m10) (C := RX12) (T := TX12) (N := 38) hx hb hts hi12 hown hG.1 hP 2 rfl rfl 10 (by decide) lf23 (fun _ h9 => h9) rfl dX12_leaves_28 ?_
    refine lv_iconst (v := iI 2) hx hb dX12_leaves_31 (by decide) ?_
    refine va_iald hx hb hG.1 hP 0 0 rfl rfl (iI_in (by omega) (by decide)) dX12_leaves_32 ?_
    refine lt_nz (i := 2) (by omega) (fun z_3 hz_3 lz_3 uz_3 => ?_)
    have hz_3 : z_3 = nz f10 2 := hz_3
    have hbz_3_8 := hq1_3.1.2.2.1
    refine ir_ge (tgt := 50) hx hb dX12_leaves_33 (by decide) (by first | exact hr_n | omega) (by omega) (fun c_4 => ?_) (fun c_4 => ?_)
    · refine lv_iconst (v := iI 0) hx hb dX12_leaves_50 (by decide) ?_
      refine lv_iconst (v := iI 2) hx hb dX12_leaves_51 (by decide) ?_
      refine lv_iconst (v := iI 2) hx hb dX12_leaves_52 (by decide) ?_
      refine cjr_i [true, true, false, false] (fun pre9 => (va_runV (As := [vI 0, vI 2, vI 2]) (rest := []) ⟨hx, hb, hml, hown, hts⟩ (m_may l hl D cy sa mm m1 m9 m10 m11 m12 m13 m14 m15 m19 m20 m21 m23 m24 m25 m26 m27 m28 m33 m35 (u3.2.1 1) tp sz_ ap bad bk opn fp im nr nl sp_ wtc wcl ir ip shu sfa swr (u3.2.2 0) 0 2 2 H.size (by first | exact hq3_1 | omega) (by first | exact hr_tp | omega) (by first | exact hr_sz_ | omega) (by first | exact hr_ap | omega) (by first | exact hr_bad | omega) (by first | exact hr_bk | omega) (by first | exact hr_opn | omega) (by first | exact hr_fp | omega) (by first | exact hr_im | omega) (by first | exact hr_nr | omega) (by first | exact hr_nl | omega) (by first | exact hr_sp_ | omega) (by first | exact hr_wtc | omega) (by first | exact hr_wcl | omega) (by first | exact hr_ir | omega) (by first | exact hr_ip | omega) (by first | exact hr_shu | omega) (by first | exact hr_sfa | omega) (by first | exact hr_swr | omega) (by show (0 : Int) ≤ 0 ∧ (0 : Int) ≤ 1; decide) (by show (1 : Int) ≤ 2 ∧ (2 : Int) ≤ 4; decide) (by show (0 : Int) ≤ 2 ∧ (2 : Int) ≤ 3; decide)) (cwV 3 hts gg_3 rfl rfl rfl (by decide +kernel) ⟨Nat.le_of_ble_eq_true rfl, Nat.le_of_ble_eq_true rfl⟩) ⟨pcW.blind, (va_recv hG.1 hP (ci := 12) (q0 := 2) rfl rfl), pre9⟩ rfl rfl hlv.1 rfl (lv_room (Nat.le_of_ble_eq_true rfl)) dX12_leaves_53 ⟨Nat.le_of_ble_eq_true rfl, Nat.le_of_ble_eq_true rfl⟩)) hP hD hS hA hG hT [2, 3] rfl (by decide +kernel) (fun r4 u4 H locs hw4 hq9 hS => ?_)
      obtain ⟨rfl, hq4_1, hq4_2, hq4_3, hq4_4⟩ := hw4
      obtain ⟨hP, hD⟩ := pd9 [zI m10 (cy 0) 68 f10, zI m12 (cy 0) 389 f12, zO mm 12 [vI (u4.2.1 1), vR m1, vI tp, vI sz_, vI ap, vI bad, vI bk, vI opn, vI fp, vR m9, vR m10, vR m11, vR m12, vR m13, vR m14, vR m15, vI im, vI nr, vI nl, vR m19, vR m20, vR m21, vI sp_, vR m23, vR m24, vR m25, vR m26, vR m27, vR m28, vI wtc, vI wcl, vI ir, vI ip, vR m33, vI shu, vR m35, vI sfa, vI swr], zI m1 (cy 0) 4 (u4.2.2 0)] hq9
      refine lt_i (y := iI 0) (by rw [show (u4.2.1 0) = 0 by omega]) ?_
      refine iz_ne (tgt := 61) hx hb dX12_leaves_56 (by decide) (by show ((-2147483648) : Int) ≤ 0 ∧ (0 : Int) ≤ 2147483647; decide) (fun c_5 => by exfalso; omega) (fun c_5 => ?_)
      refine lv_iconst (v := iI 0) hx hb dX12_leaves_59 (by decide) ?_
      refine W.widen (k := 0) (n := 0) (Nat.le_of_ble_eq_true rfl) (Nat.le_of_ble_eq_true rfl) ?_
      exact W.iret (v := iI 0) hx hb hr (fun t ht hW => ⟨⟨iI 0, ((fun k => ([] : List Nat).getD k 0), (fun k => ([0, (u4.2.1 1)] : List Int).getD k 0), (fun k => ([(u4.2.2 0), f12] : List (Nat → Int32)).getD k (fun _ => 0))), rfl, ⟨rfl, (by show ((-2147483648) ≤ (u4.2.1 1) ∧ (u4.2.1 1) ≤ 2147483647); first | exact hq4_1 | omega), (by show ((-2147483648) ≤ 0 ∧ 0 ≤ 2147483647); show ((-2147483648) : Int) ≤ 0 ∧ (0 : Int) ≤ 2147483647; decide), hq1_3, hf12⟩, at9 ht hP hD [2, 3, 0, 1] (by decide +kernel) rfl⟩, hS.F ht⟩) hS.2.2 dX12_leaves_60
    · refine lv_iload_n hx hb dX12_leaves_36 rfl (lv_at hlv 2 rfl) ?_
      refine lv_iconst (v := iI 0) hx hb dX12_leaves_37 (by decide) ?_
      refine lv_bipush (v := iI 16) hx hb dX12_leaves_38 (by decide) ?_
      refine cjr_i [true, true, true, true] (fun pre9 => (va_runS (As := [vI k, vI 0, vI 16]) (rest := [vR mm]) ⟨hx, hb, hml, hown, hts⟩ (m_within l hl D cy sa k 0 16 H.size (by first | exact hr_k | omega) (by show ((-2147483648) : Int) ≤ 0 ∧ (0 : Int) ≤ 2147483647; decide) (by show ((-2147483648) : Int) ≤ 16 ∧ (16 : Int) ≤ 2147483647; decide)) (va_cwS 3 hts gg_2 rfl rfl rfl (by decide +kernel) ⟨Nat.le_of_ble_eq_true rfl, Nat.le_of_ble_eq_true rfl⟩) ⟨pcW.blind, pre9⟩ rfl rfl hlv.1 rfl (lv_room (Nat.le_of_ble_eq_true rfl)) dX12_leaves_40 ⟨Nat.le_of_ble_eq_true rfl, Nat.le_of_ble_eq_true rfl⟩)) hP hD hS hA hG hT [] rfl (by decide +kernel) (fun r5 u5 H locs hw5 hq9 hS => ?_)
      obtain ⟨rfl, hq5_1, hq5_2, hq5_3⟩ := hw5
      obtain ⟨hP, hD⟩ := pd9 [zI m10 (cy 0) 68 f10, zI m12 (cy 0) 389 f12, zO mm 12 [vI (u3.2.1 1), vR m1, vI tp, vI sz_, vI ap, vI bad, vI bk, vI opn, vI fp, vR m9, vR m10, vR m11, vR m12, vR m13, vR m14, vR m15, vI im, vI nr, vI nl, vR m19, vR m20, vR m21, vI sp_, vR m23, vR m24, vR m25, vR m26, vR m27, vR m28, vI wtc, vI wcl, vI ir, vI ip, vR m33, vI shu, vR m35, vI sfa, vI swr], zI m1 (cy 0) 4 (u3.2.2 0)] hq9
      refine iz_eq (tgt := 50) hx hb dX12_leaves_43 (by decide) (by first | exact rgw hq5_1 (by decide) (by decide) | omega) (fun c_6 => ?_) (fun c_6 => ?_)
      · refine lv_iconst (v := iI 0) hx hb dX12_leaves_50 (by decide) ?_
        refine lv_iconst (v := iI 2) hx hb dX12_leaves_51 (by decide) ?_
        refine lv_iconst (v := iI 2) hx hb dX12_leaves_52 (by decide) ?_
        refine cjr_i [true, true, false, false] (fun pre9 => (va_runV (As := [vI 0, vI 2, vI 2]) (rest := []) ⟨hx, hb, hml, hown, hts⟩ (m_may l hl D cy sa mm m1 m9 m10 m11 m12 m13 m14 m15 m19 m20 m21 m23 m24 m25 m26 m27 m28 m33 m35 (u3.2.1 1) tp sz_ ap bad bk opn fp im nr nl sp_ wtc wcl ir ip shu sfa swr (u3.2.2 0) 0 2 2 H.size (by first | exact hq3_1 | omega) (by first | exact hr_tp | omega) (by first | exact hr_sz_ | omega) (by first | exact hr_ap | omega) (by first | exact hr_bad | omega) (by first | exact hr_bk | omega) (by first | exact hr_opn | omega) (by first | exact hr_fp | omega) (by first | exact hr_im | omega) (by first | exact hr_nr | omega) (by first | exact hr_nl | omega) (by first | exact hr_sp_ | omega) (by first | exact hr_wtc | omega) (by first | exact hr_wcl | omega) (by first | exact hr_ir | omega) (by first | exact hr_ip | omega) (by first | exact hr_shu | omega) (by first | exact hr_sfa | omega) (by first | exact hr_swr | omega) (by show (0 : Int) ≤ 0 ∧ (0 : Int) ≤ 1; decide) (by show (1 : Int) ≤ 2 ∧ (2 : Int) ≤ 4; decide) (by show (0 : Int) ≤ 2 ∧ (2 : Int) ≤ 3; decide)) (cwV 3 hts gg_3 rfl rfl rfl (by decide +kernel) ⟨Nat.le_of_ble_eq_true rfl, Nat.le_of_ble_eq_true rfl⟩) ⟨pcW.blind, (va_recv hG.1 hP (ci := 12) (q0 := 2) rfl rfl), pre9⟩ rfl rfl hlv.1 rfl (lv_room (Nat.le_of_ble_eq_true rfl)) dX12_leaves_53 ⟨Nat.le_of_ble_eq_true rfl, Nat.le_of_ble_eq_true rfl⟩)) hP hD hS hA hG hT [2, 3] rfl (by decide +kernel) (fun r6 u6 H locs hw6 hq9 hS => ?_)
        obtain ⟨rfl, hq6_1, hq6_2, hq6_3, hq6_4⟩ := hw6
        obtain ⟨hP, hD⟩ := pd9 [zI m10 (cy 0) 68 f10, zI m12 (cy 0) 389 f12, zO mm 12 [vI (u6.2.1 1), vR m1, vI tp, vI sz_, vI ap, vI bad, vI bk, vI opn, vI fp, vR m9, vR m10, vR m11, vR m12, vR m13, vR m14, vR m15, vI im, vI nr, vI nl, vR m19, vR m20, vR m21, vI sp_, vR m23, vR m24, vR m25, vR m26, vR m27, vR m28, vI wtc, vI wcl, vI ir, vI ip, vR m33, vI shu, vR m35, vI sfa, vI swr], zI m1 (cy 0) 4 (u6.2.2 0)] hq9
        refine lt_i (y := iI 0) (by rw [show (u6.2.1 0) = 0 by omega]) ?_
        refine iz_ne (tgt := 61) hx hb dX12_leaves_56 (by decide) (by show ((-2147483648) : Int) ≤ 0 ∧ (0 : Int) ≤ 2147483647; decide) (fun c_7 => by exfalso; omega) (fun c_7 => ?_)
        refine lv_iconst (v := iI 0) hx hb dX12_leaves_59 (by decide) ?_
        refine W.widen (k := 0) (n := 0) (Nat.le_of_ble_eq_true rfl) (Nat.le_of_ble_eq_true rfl) ?_
        exact W.iret (v := iI 0) hx hb hr (fun t ht hW => ⟨⟨iI 0, ((fun k => ([] : List Nat).getD k 0), (fun k => ([0, (u6.2.1 1)] : List Int).getD k 0), (fun k => ([(u6.2.2 0), f12] : List (Nat → Int32)).getD k (fun _ => 0))), rfl, ⟨rfl, (by show ((-2147483648) ≤ (u6.2.1 1) ∧ (u6.2.1 1) ≤ 2147483647); first | exact hq6_1 | omega), (by show ((-2147483648) ≤ 0 ∧ 0 ≤ 2147483647); show ((-2147483648) : Int) ≤ 0 ∧ (0 : Int) ≤ 2147483647; decide), hq1_3, hf12⟩, at9 ht hP hD [2, 3, 0, 1] (by decide +kernel) rfl⟩, hS.F ht⟩) hS.2.2 dX12_leaves_60
      · refine lv_iconst (v := iI 1) hx hb dX12_leaves_46 (by decide) ?_
        refine lv_goto (tgt := 51) hx hb dX12_leaves_47 (by decide) ?_
        refine lv_iconst (v := iI 2) hx hb dX12_leaves_51 (by decide) ?_
        refine lv_iconst (v := iI 2) hx hb dX12_leaves_52 (by decide) ?_
        refine cjr_i [true, true, false, false] (fun pre9 => (va_runV (As := [vI 1, vI 2, vI 2]) (rest := []) ⟨hx, hb, hml, hown, hts⟩ (m_may l hl D cy sa mm m1 m9 m10 m11 m12 m13 m14 m15 m19 m20 m21 m23 m24 m25 m26 m27 m28 m33 m35 (u3.2.1 1) tp sz_ ap bad bk opn fp im nr nl sp_ wtc wcl ir ip shu sfa swr (u3.2.2 0) 1 2 2 H.size (by first | exact hq3_1 | omega) (by first | exact hr_tp | omega) (by first | exact hr_sz_ | omega) (by first | exact hr_ap | omega) (by first | exact hr_bad | omega) (by first | exact hr_bk | omega) (by first | exact hr_opn | omega) (by first | exact hr_fp | omega) (by first | exact hr_im | omega) (by first | exact hr_nr | omega) (by first | exact hr_nl | omega) (by first | exact hr_sp_ | omega) (by first | exact hr_wtc | omega) (by first | exact hr_wcl | omega) (by first | exact hr_ir | omega) (by first | exact hr_ip | omega) (by first | exact hr_shu | omega) (by first | exact hr_sfa | omega) (by first | exact hr_swr | omega) (by show (0 : Int) ≤ 1 ∧ (1 : Int) ≤ 1; decide) (by show (1 : Int) ≤ 2 ∧ (2 : Int) ≤ 4; decide) (by show (0 : Int) ≤ 2 ∧ (2 : Int) ≤ 3; decide)) (cwV 3 hts gg_3 rfl rfl rfl (by decide +kernel) ⟨Nat.le_of_ble_eq_true rfl, Nat.le_of_ble_eq_true rfl⟩) ⟨pcW.blind, (va_recv hG.1 hP (ci := 12) (q0 := 2) rfl rfl), pre9⟩ rfl rfl hlv.1 rfl (lv_room (Nat.le_of_ble_eq_true rfl)) dX12_leaves_53 ⟨Nat.le_of_ble_eq_true rfl, Nat.le_of_ble_eq_true rfl⟩)) hP hD hS hA hG hT [2, 3] rfl (by decide +kernel) (fun r7 u7 H locs hw7 hq9 hS => ?_)
        obtain ⟨rfl, hq7_1, hq7_2, hq7_3, hq7_4⟩ := hw7
        obtain ⟨hP, hD⟩ := pd9 [zI m10 (cy 0) 68 f10, zI m12 (cy 0) 389 f12, zO mm 12 [vI (u7.2.1 1), vR m1, vI tp, vI sz_, vI ap, vI bad, vI bk, vI opn, vI fp, vR m9, vR m10, vR m11, vR m12, vR m13, vR m14, vR m15, vI im, vI nr, vI nl, vR m19, vR m20, vR m21, vI sp_, vR m23, vR m24, vR m25, vR m26, vR m27, vR m28, vI wtc, vI wcl, vI ir, vI ip, vR m33, vI shu, vR m35, vI sfa, vI swr], zI m1 (cy 0) 4 (u7.2.2 0)] hq9
        refine iz_ne (tgt := 61) hx hb dX12_leaves_56 (by decide) (by first | exact rgw hq7_2 (by decide) (by decide) | omega) (fun c_8 => ?_) (fun c_8 => ?_)
        · refine lv_aload_n hx hb dX12_leaves_61 rfl (lv_at hlv 0 rfl) ?_
          refine va_get (D := D) (ci := 12) (v := vR m12) (C := RX12) (T := TX12) (N := 38) hx hb hts hi12 hown hG.1 hP 2 rfl rfl 12 (by decide) lf29 (fun _ h9 => h9) rfl dX12_leaves_62 ?_
          refine lv_sipush (v := iI 192) hx hb dX12_leaves_65 (by decide) ?_
          refine lv_iload_n hx hb dX12_leaves_68 rfl (lv_at hlv 1 rfl) ?_
          refine lv_iadd hx hb dX12_leaves_69 ?_
          refine lt_e (e0 := 192 + n) (Int32.ofInt_add _ _).symm (fun z_9 hz_9 => ?_)
          refine va_iald hx hb hG.1 hP 1 0 rfl rfl (iI_in (by omega) (by decide)) dX12_leaves_70 ?_
          refine lt_nz (i := z_9) (by omega) (fun z_10 hz_10 lz_10 uz_10 => ?_)
          refine lv_istore_n (lv' := [(3, vI z_10), (0, vR mm), (1, vI n), (2, vI k)]) hx hb dX12_leaves_71 rfl hlv (by decide) rfl (fun ls hlv => ?_)
          refine lv_aload_n hx hb dX12_leaves_72 rfl (lv_at hlv 1 rfl) ?_
          refine va_get (D := D) (ci := 12) (v := vR m12) (C := RX12) (T := TX12) (N := 38) hx hb hts hi12 hown hG.1 hP 2 rfl rfl 12 (by decide) lf29 (fun _ h9 => h9) rfl dX12_leaves_73 ?_
          refine lv_sipush (v := iI 192) hx hb dX12_leaves_76 (by decide) ?_
          refine lv_iload_n hx hb dX12_leaves_79 rfl (lv_at hlv 2 rfl) ?_
          refine lv_iadd hx hb dX12_leaves_80 ?_
          refine lt_e (e0 := 192 + n) (Int32.ofInt_add _ _).symm (fun z_11 hz_11 => ?_)
          refine lv_iload_n hx hb dX12_leaves_81 rfl (lv_at hlv 3 rfl) ?_
          refine va_iast hx hb hG.1 hP hD hS 1 0 rfl rfl (iI_in (by omega) (by decide)) dX12_leaves_82 (fun H locs hP hD hS => ?_)
          obtain ⟨f_12, hdf_12, hP, hD⟩ := pe9e (fun f_12 => [zI m10 (cy 0) 68 f10, zI m12 (cy 0) 389 f_12, zO mm 12 [vI (u7.2.1 1), vR m1, vI tp, vI sz_, vI ap, vI bad, vI bk, vI opn, vI fp, vR m9, vR m10, vR m11, vR m12, vR m13, vR m14, vR m15, vI im, vI nr, vI nl, vR m19, vR m20, vR m21, vI sp_, vR m23, vR m24, vR m25, vR m26, vR m27, vR m28, vI wtc, vI wcl, vI ir, vI ip, vR m33, vI shu, vR m35, vI sfa, vI swr], zI m1 (cy 0) 4 (u7.2.2 0)]) (upd f12 (iI z_11).toNatClampNeg (iI k)) hP hD
          have hif_12 : SQ qs 8 f_12 := ⟨SI.wo (hf12.1) hdf_12 (by omega) (by omega) (by omega) (by omega), (SQ.fr hf12.2 hdf_12 (by omega) (by omega))⟩
          refine lv_iload_n hx hb dX12_leaves_83 rfl (lv_at hlv 0 rfl) ?_
          refine W.widen (k := 0) (n := 0) (Nat.le_of_ble_eq_true rfl) (Nat.le_of_ble_eq_true rfl) ?_
          exact W.iret (v := iI z_10) hx hb hr (fun t ht hW => ⟨⟨iI z_10, ((fun k => ([] : List Nat).getD k 0), (fun k => ([z_10, (u7.2.1 1)] : List Int).getD k 0), (fun k => ([(u7.2.2 0), f_12] : List (Nat → Int32)).getD k (fun _ => 0))), rfl, ⟨rfl, (by show ((-2147483648) ≤ (u7.2.1 1) ∧ (u7.2.1 1) ≤ 2147483647); first | exact hq7_1 | omega), (by show ((-2147483648) ≤ z_10 ∧ z_10 ≤ 2147483647); omega), hq1_3, hif_12⟩, at9 ht hP hD [2, 3, 0, 1] (by decide +kernel) rfl⟩, hS.F ht⟩) hS.2.2 dX12_leaves_84
        · refine lv_iconst (v := iI 0) hx hb dX12_leaves_59 (by decide) ?_
          refine W.widen (k := 0) (n := 0) (Nat.le_of_ble_eq_true rfl) (Nat.le_of_ble_eq_true rfl) ?_
          exact W.iret (v := iI 0) hx hb hr (fun t ht hW => ⟨⟨iI 0, ((fun k => ([] : List Nat).getD k 0), (fun k => ([0, (u7.2.1 1)] : List Int).getD k 0), (fun k => ([(u7.2.2 0), f12] : List (Nat → Int32)).getD k (fun _ => 0))), rfl, ⟨rfl, (by show ((-2147483648) ≤ (u7.2.1 1) ∧ (u7.2.1 1) ≤ 2147483647); first | exact hq7_1 | omega), (by show ((-2147483648) ≤ 0 ∧ 0 ≤ 2147483647); show ((-2147483648) : Int) ≤ 0 ∧ (0 : Int) ≤ 2147483647; decide), hq1_3, hf12⟩, at9 ht hP hD [2, 3, 0, 1] (by decide +kernel) rfl⟩, hS.F ht⟩) hS.2.2 dX12_leaves_60
def vs_m_person : List Cond := .code yX12_person cX12_person 3 (some .int) :: (([.fieldLink RX12 1 "KerbSplashModel" "thrown" "I", .fieldLink RX12 23 "KerbSplashModel" "b" "[I", .fieldLink RX12 29 "KerbSplashModel" "s" "[I"] : List Cond) ++ ((wsX120) ++ ((va_wsS RX12 279 yX12_within vs_m_within) ++ ((wsV RX12 175 RX12 yX12_may vs_m_may) ++ ([])))))
set_option maxHeartbeats 4000000 in
set_option maxRecDepth 100000 in
theorem m_person (l : Launch) (hl : l.stackTraces = false) (D : va_G) (cy : Nat → ClassId) (sa : Nat → Nat) (mm m1 m9 m10 m11 m12 m13 m14 m15 m19 m20 m21 m23 m24 m25 m26 m27 m28 m33 m35 : Nat) (th tp sz_ ap bad bk opn fp im nr nl sp_ wtc wcl ir ip shu sfa swr : Int) (f1 f10 f12 : Nat → Int32) (n k : Int) (sz : Nat) (hr_th : (-2147483648) ≤ th ∧ th ≤ 2147483647) (hr_tp : 0 ≤ tp ∧ tp ≤ 600) (hr_sz_ : 0 ≤ sz_ ∧ sz_ ≤ 600) (hr_ap : 0 ≤ ap ∧ ap ≤ 602) (hr_bad : (-1) ≤ bad ∧ bad ≤ 602) (hr_bk : 0 ≤ bk ∧ bk ≤ 4) (hr_opn : 0 ≤ opn ∧ opn ≤ 7) (hr_fp : (-2147483648) ≤ fp ∧ fp ≤ 2147483647) (hr_im : 0 ≤ im ∧ im ≤ 3) (hr_nr : 0 ≤ nr ∧ nr ≤ 4) (hr_nl : 0 ≤ nl ∧ nl ≤ 4) (hr_sp_ : 0 ≤ sp_ ∧ sp_ ≤ 602) (hr_wtc : (-2147483648) ≤ wtc ∧ wtc ≤ 2147483647) (hr_wcl : 0 ≤ wcl ∧ wcl ≤ 95) (hr_ir : 0 ≤ ir ∧ ir ≤ 5) (hr_ip : (-2147483648) ≤ ip ∧ ip ≤ 2147483647) (hr_shu : (-2147483648) ≤ shu ∧ shu ≤ 2147483647) (hr_sfa : (-2147483648) ≤ sfa ∧ sfa ≤ 2147483647) (hr_swr : (-2147483648) ≤ swr ∧ swr ≤ 2147483647) (hr_n : (-2147483648) ≤ n ∧ n ≤ 2147483647) (hr_k : (-2147483648) ≤ k ∧ k ≤ 2147483647) (hf10 : BI f10) (hf12 : SI 8 f12) : mI9 l yX12_person vs_m_person ({ frames := 1, cells := 0, slots := 0, locals := 23 }) D cy sa sz [vR mm, vI n, vI k] [zO mm 12 [vI th, vR m1, vI tp, vI sz_, vI ap, vI bad, vI bk, vI opn, vI fp, vR m9, vR m10, vR m11, vR m12, vR m13, vR m14, vR m15, vI im, vI nr, vI nl, vR m19, vR m20, vR m21, vI sp_, vR m23, vR m24, vR m25, vR m26, vR m27, vR m28, vI wtc, vI wcl, vI ir, vI ip, vR m33, vI shu, vR m35, vI sfa, vI swr], zI m1 (cy 0) 4 f1, zI m10 (cy 0) 68 f10, zI m12 (cy 0) 389 f12] (fun (r : Int32) (u : SV) => r = iI (u.2.1 0) ∧ ((-2147483648) ≤ u.2.1 1 ∧ u.2.1 1 ≤ 2147483647) ∧ ((-2147483648) ≤ u.2.1 0 ∧ u.2.1 0 ≤ 2147483647) ∧ BI f10 ∧ SI 8 f12) (fun u : SV => [zO mm 12 [vI (u.2.1 1), vR m1, vI tp, vI sz_, vI ap, vI bad, vI bk, vI opn, vI fp, vR m9, vR m10, vR m11, vR m12, vR m13, vR m14, vR m15, vI im, vI nr, vI nl, vR m19, vR m20, vR m21, vI sp_, vR m23, vR m24, vR m25, vR m26, vR m27, vR m28, vI wtc, vI wcl, vI ir, vI ip, vR m33, vI shu, vR m35, vI sfa, vI swr], zI m1 (cy 0) 4 (u.2.2 0), zI m10 (cy 0) 68 f10, zI m12 (cy 0) 389 f12]) 0 0 := by
  refine Met.ofW (cc := cX12_person) (maxL := 3) (ret := (some .int)) (by decide) rfl ?_
  intro p e s m args below meth c s₁ B hml hv
  obtain ⟨rfl, hsz, hP, hG, hD0, hT⟩ := hv
  have hx := B.exec
  have hb := B.bytes
  have hr := B.returns
  have hts := atoms_spec (ws := vs_m_person) B.pre
  have hown : s.vm.findClass RX12 = some m.cls := findClass_of_methodNamed B.named
  have hlocks := B.notSynchronized
  subst hsz
  have hD := hD0.self (sz := s.heap.size)
  generalize hAe : va_A [zO mm 12 [vI th, vR m1, vI tp, vI sz_, vI ap, vI bad, vI bk, vI opn, vI fp, vR m9, vR m10, vR m11, vR m12, vR m13, vR m14, vR m15, vI im, vI nr, vI nl, vR m19, vR m20, vR m21, vI sp_, vR m23, vR m24, vR m25, vR m26, vR m27, vR m28, vI wtc, vI wcl, vI ir, vI ip, vR m33, vI shu, vR m35, vI sfa, vI swr], zI m1 (cy 0) 4 f1, zI m10 (cy 0) 68 f10, zI m12 (cy 0) 389 f12] s.heap.size = A at hD hT ⊢
  have hA : ∀ q : Nat, s.heap.size ≤ q → A q := fun q h => by rw [← hAe]; exact Or.inr h
  have hS : va_S A s.heap s.heap [] := va_S.rf
  have hl0 := lv_entry ([vR mm, vI n, vI k]) (n := 3) (Nat.le_of_ble_eq_true rfl)
  rw [lg_entry_eq]
  generalize (lg_sl ([vR mm, vI n, vI k]) ++ List.replicate (3 - (lg_sl ([vR mm, vI n, vI k])).length) Slot.unset).toArray = ls at hl0 ⊢
  have hlv : lv_has ls 3 [(0, vR mm), (1, vI n), (2, vI k)] := hl0
  have lf1 := hts (.fieldLink RX12 1 "KerbSplashModel" "thrown" "I") (List.mem_of_getElem? (i := 1) rfl)
  have hi12 : ∀ w ∈ wsX120, w ∈ vs_m_person := fun w h => List.mem_cons_of_mem _ (List.mem_append_right _ (List.mem_append_left _ h))
  have lf23 := hts (.fieldLink RX12 23 "KerbSplashModel" "b" "[I") (List.mem_of_getElem? (i := 2) rfl)
  have gg_1 : GoodIn vs_m_person (va_wsS RX12 279 yX12_within vs_m_within) := goodIn_sub (fun w h => List.mem_cons_of_mem _ (List.mem_append_right _ (List.mem_append_right _ (List.mem_append_left _ h)))) (gd_S gd_m_within (by decide +kernel))
  have gg_2 : GoodIn vs_m_person (wsV RX12 175 RX12 yX12_may vs_m_may) := goodIn_sub (fun w h => List.mem_cons_of_mem _ (List.mem_append_right _ (List.mem_append_right _ (List.mem_append_right _ (List.mem_append_left _ h))))) (gd_V gd_m_may (by decide +kernel))
  have lf29 := hts (.fieldLink RX12 29 "KerbSplashModel" "s" "[I") (List.mem_of_getElem? (i := 3) rfl)
  refine lv_aload_n hx hb dX12_person_0 rfl (lv_at hlv 0 rfl) ?_
  refine lv_iconst (v := iI 0) hx hb dX12_person_1 (by decide) ?_
  refine va_put (D := D) (ci := 12) (v := vI 0) (ty := .int) (C := RX12) (T := TX12) (N := 38) hx hb hts hi12 tyX12 tyX12_ok nmX12 hown hG.1 hP hD hS 0 rfl rfl 0 (by decide) lf1 (fun _ h9 => h9) rfl (by decide +kernel) rfl rfl (Nat.le_of_ble_eq_true rfl) dX12_person_2 (fun H locs hP hD hS => ?_)
  obtain ⟨hP, hD⟩ := pw9 [zO mm 12 [vI 0, vR m1, vI tp, vI sz_, vI ap, vI bad, vI bk, vI opn, vI fp, vR m9, vR m10, vR m11, vR m12, vR m13, vR m14, vR m15, vI im, vI nr, vI nl, vR m19, vR m20, vR m21, vI sp_, vR m23, vR m24, vR m25, vR m26, vR m27, vR m28, vI wtc, vI wcl, vI ir, vI ip, vR m33, vI shu, vR m35, vI sfa, vI swr], zI m1 (cy 0) 4 f1, zI m10 (cy 0) 68 f10, zI m12 (cy 0) 389 f12] hP hD
  refine lv_aload_n hx hb dX12_person_5 rfl (lv_at hlv 0 rfl) ?_
  refine lv_iload_n hx hb dX12_person_6 rfl (lv_at hlv 1 rfl) ?_
  refine lv_iconst (v := iI 0) hx hb dX12_person_7 (by decide) ?_
  refine lv_aload_n hx hb dX12_person_8 rfl (lv_at hlv 0 rfl) ?_
  refine va_get (D := D) (ci := 12) (v := vR m10) (C := RX12) (T := TX12) (N := 38) hx hb hts hi12 hown hG.1 hP 0 rfl rfl 10 (by decide) lf23 (fun _ h9 => h9) rfl dX12_person_9 ?_
  refine lv_iconst (v := iI 3) hx hb dX12_person_12 (by decide) ?_
  refine va_iald hx hb hG.1 hP 2 0 rfl rfl (iI_in (by omega) (by decide)) dX12_person_13 ?_
  refine lt_nz (i := 3) (by omega) (fun z_1 hz_1 lz_1 uz_1 => ?_)
  have hz_1 : z_1 = nz f10 3 := hz_1
  have hbz_1_13 := hf10.1.2.2.2.1
  refine lv_iconst (v := iI 1) hx hb dX12_person_14 (by decide) ?_
  refine lv_isub hx hb dX12_person_15 ?_
  refine lt_e (e0 := z_1 - 1) (Int32.ofInt_sub _ _).symm (fun z_2 hz_2 => ?_)
  refine cjr_i [true, true, true, true] (fun pre9 => (va_runS (As := [vI n, vI 0, vI z_2]) (rest := [vR mm]) ⟨hx, hb, hml, hown, hts⟩ (m_within l hl D cy sa n 0 z_2 H.size (by first | exact hr_n | omega) (by show ((-2147483648) : Int) ≤ 0 ∧ (0 : Int) ≤ 2147483647; decide) (by omega)) (va_cwS 3 hts gg_1 rfl rfl rfl (by decide +kernel) ⟨Nat.le_of_ble_eq_true rfl, Nat.le_of_ble_eq_true rfl⟩) ⟨pcW.blind, pre9⟩ rfl rfl hlv.1 rfl (lv_room (Nat.le_of_ble_eq_true rfl)) dX12_person_16 ⟨Nat.le_of_ble_eq_true rfl, Nat.le_of_ble_eq_true rfl⟩)) hP hD hS hA hG hT [] rfl (by decide +kernel) (fun r1 u1 H locs hw1 hq9 hS => ?_)
  obtain ⟨rfl, hq1_1, hq1_2, hq1_3⟩ := hw1
  obtain ⟨hP, hD⟩ := pd9 [zO mm 12 [vI 0, vR m1, vI tp, vI sz_, vI ap, vI bad, vI bk, vI opn, vI fp, vR m9, vR m10, vR m11, vR m12, vR m13, vR m14, vR m15, vI im, vI nr, vI nl, vR m19, vR m20, vR m21, vI sp_, vR m23, vR m24, vR m25, vR m26, vR m27, vR m28, vI wtc, vI wcl, vI ir, vI ip, vR m33, vI shu, vR m35, vI sfa, vI swr], zI m1 (cy 0) 4 f1, zI m10 (cy 0) 68 f10, zI m12 (cy 0) 389 f12] hq9
  refine lv_iconst (v := iI 1) hx hb dX12_person_19 (by decide) ?_
  refine lv_iconst (v := iI 1) hx hb dX12_person_20 (by decide) ?_
  refine cjr_i [false, false, true, true] (fun pre9 => (va_runV (As := [vI (u1.2.1 0), vI 1, vI 1]) (rest := []) ⟨hx, hb, hml, hown, hts⟩ (m_may l hl D cy sa mm m1 m9 m10 m11 m12 m13 m14 m15 m19 m20 m21 m23 m24 m25 m26 m27 m28 m33 m35 0 tp sz_ ap bad bk opn fp im nr nl sp_ wtc wcl ir ip shu sfa swr f1 (u1.2.1 0) 1 1 H.size (by show ((-2147483648) : Int) ≤ 0 ∧ (0 : Int) ≤ 2147483647; decide) (by first | exact hr_tp | omega) (by first | exact hr_sz_ | omega) (by first | exact hr_ap | omega) (by first | exact hr_bad | omega) (by first | exact hr_bk | omega) (by first | exact hr_opn | omega) (by first | exact hr_fp | omega) (by first | exact hr_im | omega) (by first | exact hr_nr | omega) (by first | exact hr_nl | omega) (by first | exact hr_sp_ | omega) (by first | exact hr_wtc | omega) (by first | exact hr_wcl | omega) (by first | exact hr_ir | omega) (by first | exact hr_ip | omega) (by first | exact hr_shu | omega) (by first | exact hr_sfa | omega) (by first | exact hr_swr | omega) (by first | exact hq1_1 | omega) (by show (1 : Int) ≤ 1 ∧ (1 : Int) ≤ 4; decide) (by show (0 : Int) ≤ 1 ∧ (1 : Int) ≤ 3; decide)) (cwV 3 hts gg_2 rfl rfl rfl (by decide +kernel) ⟨Nat.le_of_ble_eq_true rfl, Nat.le_of_ble_eq_true rfl⟩) ⟨pcW.blind, (va_recv hG.1 hP (ci := 12) (q0 := 0) rfl rfl), pre9⟩ rfl rfl hlv.1 rfl (lv_room (Nat.le_of_ble_eq_true rfl)) dX12_person_21 ⟨Nat.le_of_ble_eq_true rfl, Nat.le_of_ble_eq_true rfl⟩)) hP hD hS hA hG hT [0, 1] rfl (by decide +kernel) (fun r2 u2 H locs hw2 hq9 hS => ?_)
  obtain ⟨rfl, hq2_1, hq2_2, hq2_3, hq2_4⟩ := hw2
  obtain ⟨hP, hD⟩ := pd9 [zI m10 (cy 0) 68 f10, zI m12 (cy 0) 389 f12, zO mm 12 [vI (u2.2.1 1), vR m1, vI tp, vI sz_, vI ap, vI bad, vI bk, vI opn, vI fp, vR m9, vR m10, vR m11, vR m12, vR m13, vR m14, vR m15, vI im, vI nr, vI nl, vR m19, vR m20, vR m21, vI sp_, vR m23, vR m24, vR m25, vR m26, vR m27, vR m28, vI wtc, vI wcl, vI ir, vI ip, vR m33, vI shu, vR m35, vI sfa, vI swr], zI m1 (cy 0) 4 (u2.2.2 0)] hq9
  refine iz_eq (tgt := 42) hx hb dX12_person_24 (by decide) (by first | exact rgw hq2_2 (by decide) (by decide) | omega) (fun c_3 => ?_) (fun c_3 => ?_)
  · refine lv_iconst (v := iI 0) hx hb dX12_person_42 (by decide) ?_
    refine W.widen (k := 0) (n := 0) (Nat.le_of_ble_eq_true rfl) (Nat.le_of_ble_eq_true rfl) ?_
    exact W.iret (v := iI 0) hx hb hr (fun t ht hW => ⟨⟨iI 0, ((fun k => ([] : List Nat).getD k 0), (fun k => ([0, (u2.2.1 1)] : List Int).getD k 0), (fun k => ([(u2.2.2 0)] : List (Nat → Int32)).getD k (fun _ => 0))), rfl, ⟨rfl, (by show ((-2147483648) ≤ (u2.2.1 1) ∧ (u2.2.1 1) ≤ 2147483647); first | exact hq2_1 | omega), (by show ((-2147483648) ≤ 0 ∧ 0 ≤ 2147483647); show ((-2147483648) : Int) ≤ 0 ∧ (0 : Int) ≤ 2147483647; decide), hf10, hf12⟩, at9 ht hP hD [2, 3, 0, 1] (by decide +kernel) rfl⟩, hS.F ht⟩) hS.2.2 dX12_person_43
  · refine lv_aload_n hx hb dX12_person_27 rfl (lv_at hlv 0 rfl) ?_
    refine lv_iload_n hx hb dX12_person_28 rfl (lv_at hlv 2 rfl) ?_
    refine lv_iconst (v := iI 0) hx hb dX12_person_29 (by decide) ?_
    refine lv_iconst (v := iI 3) hx hb dX12_person_30 (by decide) ?_
    refine cjr_i [true, true, true, true] (fun pre9 => (va_runS (As := [vI k, vI 0, vI 3]) (rest := [vR mm]) ⟨hx, hb, hml, hown, hts⟩ (m_within l hl D cy sa k 0 3 H.size (by first | exact hr_k | omega) (by show ((-2147483648) : Int) ≤ 0 ∧ (0 : Int) ≤ 2147483647; decide) (by show ((-2147483648) : Int) ≤ 3 ∧ (3 : Int) ≤ 2147483647; decide)) (va_cwS 3 hts gg_1 rfl rfl rfl (by decide +kernel) ⟨Nat.le_of_ble_eq_true rfl, Nat.le_of_ble_eq_true rfl⟩) ⟨pcW.blind, pre9⟩ rfl rfl hlv.1 rfl (lv_room (Nat.le_of_ble_eq_true rfl)) dX12_person_31 ⟨Nat.le_of_ble_eq_true rfl, Nat.le_of_ble_eq_true rfl⟩)) hP hD hS hA hG hT [] rfl (by decide +kernel) (fun r3 u3 H locs hw3 hq9 hS => ?_)
    obtain ⟨rfl, hq3_1, hq3_2, hq3_3⟩ := hw3
    obtain ⟨hP, hD⟩ := pd9 [zI m10 (cy 0) 68 f10, zI m12 (cy 0) 389 f12, zO mm 12 [vI (u2.2.1 1), vR m1, vI tp, vI sz_, vI ap, vI bad, vI bk, vI opn, vI fp, vR m9, vR m10, vR m11, vR m12, vR m13, vR m14, vR m15, vI im, vI nr, vI nl, vR m19, vR m20, vR m21, vI sp_, vR m23, vR m24, vR m25, vR m26, vR m27, vR m28, vI wtc, vI wcl, vI ir, vI ip, vR m33, vI shu, vR m35, vI sfa, vI swr], zI m1 (cy 0) 4 (u2.2.2 0)] hq9
    refine lv_iconst (v := iI 2) hx hb dX12_person_34 (by decide) ?_
    refine lv_iconst (v := iI 2) hx hb dX12_person_35 (by decide) ?_
    refine cjr_i [true, true, false, false] (fun pre9 => (va_runV (As := [vI (u3.2.1 0), vI 2, vI 2]) (rest := []) ⟨hx, hb, hml, hown, hts⟩ (m_may l hl D cy sa mm m1 m9 m10 m11 m12 m13 m14 m15 m19 m20 m21 m23 m24 m25 m26 m27 m28 m33 m35 (u2.2.1 1) tp sz_ ap bad bk opn fp im nr nl sp_ wtc wcl ir ip shu sfa swr (u2.2.2 0) (u3.2.1 0) 2 2 H.size (by first | exact hq2_1 | omega) (by first | exact hr_tp | omega) (by first | exact hr_sz_ | omega) (by first | exact hr_ap | omega) (by first | exact hr_bad | omega) (by first | exact hr_bk | omega) (by first | exact hr_opn | omega) (by first | exact hr_fp | omega) (by first | exact hr_im | omega) (by first | exact hr_nr | omega) (by first | exact hr_nl | omega) (by first | exact hr_sp_ | omega) (by first | exact hr_wtc | omega) (by first | exact hr_wcl | omega) (by first | exact hr_ir | omega) (by first | exact hr_ip | omega) (by first | exact hr_shu | omega) (by first | exact hr_sfa | omega) (by first | exact hr_swr | omega) (by first | exact hq3_1 | omega) (by show (1 : Int) ≤ 2 ∧ (2 : Int) ≤ 4; decide) (by show (0 : Int) ≤ 2 ∧ (2 : Int) ≤ 3; decide)) (cwV 3 hts gg_2 rfl rfl rfl (by decide +kernel) ⟨Nat.le_of_ble_eq_true rfl, Nat.le_of_ble_eq_true rfl⟩) ⟨pcW.blind, (va_recv hG.1 hP (ci := 12) (q0 := 2) rfl rfl), pre9⟩ rfl rfl hlv.1 rfl (lv_room (Nat.le_of_ble_eq_true rfl)) dX12_person_36 ⟨Nat.le_of_ble_eq_true rfl, Nat.le_of_ble_eq_true rfl⟩)) hP hD hS hA hG hT [2, 3] rfl (by decide +kernel) (fun r4 u4 H locs hw4 hq9 hS => ?_)
    obtain ⟨rfl, hq4_1, hq4_2, hq4_3, hq4_4⟩ := hw4
    obtain ⟨hP, hD⟩ := pd9 [zI m10 (cy 0) 68 f10, zI m12 (cy 0) 389 f12, zO mm 12 [vI (u4.2.1 1), vR m1, vI tp, vI sz_, vI ap, vI bad, vI bk, vI opn, vI fp, vR m9, vR m10, vR m11, vR m12, vR m13, vR m14, vR m15, vI im, vI nr, vI nl, vR m19, vR m20, vR m21, vI sp_, vR m23, vR m24, vR m25, vR m26, vR m27, vR m28, vI wtc, vI wcl, vI ir, vI ip, vR m33, vI shu, vR m35, vI sfa, vI swr], zI m1 (cy 0) 4 (u4.2.2 0)] hq9
    refine iz_ne (tgt := 44) hx hb dX12_person_39 (by decide) (by first | exact rgw hq4_2 (by decide) (by decide) | omega) (fun c_4 => ?_) (fun c_4 => ?_)
    · refine lv_aload_n hx hb dX12_person_44 rfl (lv_at hlv 0 rfl) ?_
      refine va_get (D := D) (ci := 12) (v := vR m12) (C := RX12) (T := TX12) (N := 38) hx hb hts hi12 hown hG.1 hP 2 rfl rfl 12 (by decide) lf29 (fun _ h9 => h9) rfl dX12_person_45 ?_
      refine lv_iload_n hx hb dX12_person_48 rfl (lv_at hlv 2 rfl) ?_
      refine iz_ne (tgt := 58) hx hb dX12_person_49 (by decide) (by first | exact hr_k | omega) (fun c_5 => ?_) (fun c_5 => ?_)
      · refine lv_iload_n hx hb dX12_person_58 rfl (lv_at hlv 2 rfl) ?_
        refine lv_iconst (v := iI 1) hx hb dX12_person_59 (by decide) ?_
        refine ir_ne (tgt := 69) hx hb dX12_person_60 (by decide) (by first | exact hr_k | omega) (by show ((-2147483648) : Int) ≤ 1 ∧ (1 : Int) ≤ 2147483647; decide) (fun c_6 => ?_) (fun c_6 => ?_)
        · refine lv_iload_n hx hb dX12_person_69 rfl (lv_at hlv 2 rfl) ?_
          refine lv_iconst (v := iI 2) hx hb dX12_person_70 (by decide) ?_
          refine ir_ne (tgt := 80) hx hb dX12_person_71 (by decide) (by first | exact hr_k | omega) (by show ((-2147483648) : Int) ≤ 2 ∧ (2 : Int) ≤ 2147483647; decide) (fun c_7 => ?_) (fun c_7 => ?_)
          · refine lv_sipush (v := iI 243) hx hb dX12_person_80 (by decide) ?_
            refine lv_iload_n hx hb dX12_person_83 rfl (lv_at hlv 1 rfl) ?_
            refine lv_iadd hx hb dX12_person_84 ?_
            refine lt_e (e0 := 243 + n) (Int32.ofInt_add _ _).symm (fun z_8 hz_8 => ?_)
            refine va_iald hx hb hG.1 hP 1 0 rfl rfl (iI_in (by omega) (by decide)) dX12_person_85 ?_
            refine lt_nz (i := z_8) (by omega) (fun z_9 hz_9 lz_9 uz_9 => ?_)
            refine W.widen (k := 0) (n := 0) (Nat.le_of_ble_eq_true rfl) (Nat.le_of_ble_eq_true rfl) ?_
            exact W.iret (v := iI z_9) hx hb hr (fun t ht hW => ⟨⟨iI z_9, ((fun k => ([] : List Nat).getD k 0), (fun k => ([z_9, (u4.2.1 1)] : List Int).getD k 0), (fun k => ([(u4.2.2 0)] : List (Nat → Int32)).getD k (fun _ => 0))), rfl, ⟨rfl, (by show ((-2147483648) ≤ (u4.2.1 1) ∧ (u4.2.1 1) ≤ 2147483647); first | exact hq4_1 | omega), (by show ((-2147483648) ≤ z_9 ∧ z_9 ≤ 2147483647); omega), hf10, hf12⟩, at9 ht hP hD [2, 3, 0, 1] (by decide +kernel) rfl⟩, hS.F ht⟩) hS.2.2 dX12_person_86
          · refine lv_sipush (v := iI 234) hx hb dX12_person_74 (by decide) ?_
            refine lv_goto (tgt := 83) hx hb dX12_person_77 (by decide) ?_
            refine lv_iload_n hx hb dX12_person_83 rfl (lv_at hlv 1 rfl) ?_
            refine lv_iadd hx hb dX12_person_84 ?_
            refine lt_e (e0 := 234 + n) (Int32.ofInt_add _ _).symm (fun z_10 hz_10 => ?_)
            refine va_iald hx hb hG.1 hP 1 0 rfl rfl (iI_in (by omega) (by decide)) dX12_person_85 ?_
            refine lt_nz (i := z_10) (by omega) (fun z_11 hz_11 lz_11 uz_11 => ?_)
            refine W.widen (k := 0) (n := 0) (Nat.le_of_ble_eq_true rfl) (Nat.le_of_ble_eq_true rfl) ?_
            exact W.iret (v := iI z_11) hx hb hr (fun t ht hW => ⟨⟨iI z_11, ((fun k => ([] : List Nat).getD k 0), (fun k => ([z_11, (u4.2.1 1)] : List Int).getD k 0), (fun k => ([(u4.2.2 0)] : List (Nat → Int32)).getD k (fun _ => 0))), rfl, ⟨rfl, (by show ((-2147483648) ≤ (u4.2.1 1) ∧ (u4.2.1 1) ≤ 2147483647); first | exact hq4_1 | omega), (by show ((-2147483648) ≤ z_11 ∧ z_11 ≤ 2147483647); omega), hf10, hf12⟩, at9 ht hP hD [2, 3, 0, 1] (by decide +kernel) rfl⟩, hS.F ht⟩) hS.2.2 dX12_person_86
        · refine lv_sipush (v := iI 225) hx hb dX12_person_63 (by decide) ?_
          refine lv_goto (tgt := 83) hx hb dX12_person_66 (by decide) ?_
          refine lv_iload_n hx hb dX12_person_83 rfl (lv_at hlv 1 rfl) ?_
          refine lv_iadd hx hb dX12_person_84 ?_
          refine lt_e (e0 := 225 + n) (Int32.ofInt_add _ _).symm (fun z_12 hz_12 => ?_)
          refine va_iald hx hb hG.1 hP 1 0 rfl rfl (iI_in (by omega) (by decide)) dX12_person_85 ?_
          refine lt_nz (i := z_12) (by omega) (fun z_13 hz_13 lz_13 uz_13 => ?_)
          refine W.widen (k := 0) (n := 0) (Nat.le_of_ble_eq_true rfl) (Nat.le_of_ble_eq_true rfl) ?_
          exact W.iret (v := iI z_13) hx hb hr (fun t ht hW => ⟨⟨iI z_13, ((fun k => ([] : List Nat).getD k 0), (fun k => ([z_13, (u4.2.1 1)] : List Int).getD k 0), (fun k => ([(u4.2.2 0)] : List (Nat → Int32)).getD k (fun _ => 0))), rfl, ⟨rfl, (by show ((-2147483648) ≤ (u4.2.1 1) ∧ (u4.2.1 1) ≤ 2147483647); first | exact hq4_1 | omega), (by show ((-2147483648) ≤ z_13 ∧ z_13 ≤ 2147483647); omega), hf10, hf12⟩, at9 ht hP hD [2, 3, 0, 1] (by decide +kernel) rfl⟩, hS.F ht⟩) hS.2.2 dX12_person_86
      · refine lv_sipush (v := iI 216) hx hb dX12_person_52 (by decide) ?_
        refine lv_goto (tgt := 83) hx hb dX12_person_55 (by decide) ?_
        refine lv_iload_n hx hb dX12_person_83 rfl (lv_at hlv 1 rfl) ?_
        refine lv_iadd hx hb dX12_person_84 ?_
        refine lt_e (e0 := 216 + n) (Int32.ofInt_add _ _).symm (fun z_14 hz_14 => ?_)
        refine va_iald hx hb hG.1 hP 1 0 rfl rfl (iI_in (by omega) (by decide)) dX12_person_85 ?_
        refine lt_nz (i := z_14) (by omega) (fun z_15 hz_15 lz_15 uz_15 => ?_)
        refine W.widen (k := 0) (n := 0) (Nat.le_of_ble_eq_true rfl) (Nat.le_of_ble_eq_true rfl) ?_
        exact W.iret (v := iI z_15) hx hb hr (fun t ht hW => ⟨⟨iI z_15, ((fun k => ([] : List Nat).getD k 0), (fun k => ([z_15, (u4.2.1 1)] : List Int).getD k 0), (fun k => ([(u4.2.2 0)] : List (Nat → Int32)).getD k (fun _ => 0))), rfl, ⟨rfl, (by show ((-2147483648) ≤ (u4.2.1 1) ∧ (u4.2.1 1) ≤ 2147483647); first | exact hq4_1 | omega), (by show ((-2147483648) ≤ z_15 ∧ z_15 ≤ 2147483647); omega), hf10, hf12⟩, at9 ht hP hD [2, 3, 0, 1] (by decide +kernel) rfl⟩, hS.F ht⟩) hS.2.2 dX12_person_86
    · refine lv_iconst (v := iI 0) hx hb dX12_person_42 (by decide) ?_
      refine W.widen (k := 0) (n := 0) (Nat.le_of_ble_eq_true rfl) (Nat.le_of_ble_eq_true rfl) ?_
      exact W.iret (v := iI 0) hx hb hr (fun t ht hW => ⟨⟨iI 0, ((fun k => ([] : List Nat).getD k 0), (fun k => ([0, (u4.2.1 1)] : List Int).getD k 0), (fun k => ([(u4.2.2 0)] : List (Nat → Int32)).getD k (fun _ => 0))), rfl, ⟨rfl, (by show ((-2147483648) ≤ (u4.2.1 1) ∧ (u4.2.1 1) ≤ 2147483647); first | exact hq4_1 | omega), (by show ((-2147483648) ≤ 0 ∧ 0 ≤ 2147483647); show ((-2147483648) : Int) ≤ 0 ∧ (0 : Int) ≤ 2147483647; decide), hf10, hf12⟩, at9 ht hP hD [2, 3, 0, 1] (by decide +kernel) rfl⟩, hS.F ht⟩) hS.2.2 dX12_person_43
def vs_m_works : List Cond := .code yX12_works cX12_works 5 none :: (([.fieldLink RX12 29 "KerbSplashModel" "s" "[I", .fieldLink RX12 23 "KerbSplashModel" "b" "[I"] : List Cond) ++ ((wsX120) ++ ((va_wsS RX12 289 yX12_at vs_m_at) ++ ([]))))
theorem gd_m_works : vs_m_works.all goodWord = true := gd_C (by decide +kernel) (gd_A (by decide +kernel) (gd_A (by decide +kernel) (gd_A (gd_S gd_m_at (by decide +kernel)) rfl)))
set_option maxHeartbeats 4000000 in
set_option maxRecDepth 100000 in
theorem m_works (l : Launch) (hl : l.stackTraces = false) (D : va_G) (cy : Nat → ClassId) (sa : Nat → Nat) (mm m1 m9 m10 m11 m12 m13 m14 m15 m19 m20 m21 m23 m24 m25 m26 m27 m28 m33 m35 : Nat) (th tp sz_ ap bad bk opn fp im nr nl sp_ wtc wcl ir ip shu sfa swr : Int) (f10 f12 : Nat → Int32) (n : Int) (qs : Nat → Int) (sz : Nat) (hr_th : (-2147483648) ≤ th ∧ th ≤ 2147483647) (hr_tp : 0 ≤ tp ∧ tp ≤ 600) (hr_sz_ : 0 ≤ sz_ ∧ sz_ ≤ 600) (hr_ap : 0 ≤ ap ∧ ap ≤ 602) (hr_bad : (-1) ≤ bad ∧ bad ≤ 602) (hr_bk : 0 ≤ bk ∧ bk ≤ 4) (hr_opn : 0 ≤ opn ∧ opn ≤ 7) (hr_fp : (-2147483648) ≤ fp ∧ fp ≤ 2147483647) (hr_im : 0 ≤ im ∧ im ≤ 3) (hr_nr : 0 ≤ nr ∧ nr ≤ 4) (hr_nl : 0 ≤ nl ∧ nl ≤ 4) (hr_sp_ : 0 ≤ sp_ ∧ sp_ ≤ 602) (hr_wtc : (-2147483648) ≤ wtc ∧ wtc ≤ 2147483647) (hr_wcl : 0 ≤ wcl ∧ wcl ≤ 95) (hr_ir : 0 ≤ ir ∧ ir ≤ 5) (hr_ip : (-2147483648) ≤ ip ∧ ip ≤ 2147483647) (hr_shu : (-2147483648) ≤ shu ∧ shu ≤ 2147483647) (hr_sfa : (-2147483648) ≤ sfa ∧ sfa ≤ 2147483647) (hr_swr : (-2147483648) ≤ swr ∧ swr ≤ 2147483647) (hr_n : 0 ≤ n ∧ n ≤ 7) (hp0 : nz f12 (198 + n.toNat) ≠ 1) (hf10 : BI f10) (hf12 : SQ qs 8 f12) : mV9 l yX12_works vs_m_works ({ frames := 1, cells := 0, slots := 0, locals := 21 }) D cy sa sz [vR mm, vI n] [zO mm 12 [vI th, vR m1, vI tp, vI sz_, vI ap, vI bad, vI bk, vI opn, vI fp, vR m9, vR m10, vR m11, vR m12, vR m13, vR m14, vR m15, vI im, vI nr, vI nl, vR m19, vR m20, vR m21, vI sp_, vR m23, vR m24, vR m25, vR m26, vR m27, vR m28, vI wtc, vI wcl, vI ir, vI ip, vR m33, vI shu, vR m35, vI sfa, vI swr], zI m10 (cy 0) 68 f10, zI m12 (cy 0) 389 f12] (fun u : SV => (nz (u.2.2 0) 388 = nz f12 388) ∧ (∀ j : Nat, j < 8 → (j : Int) ≠ n → nz (u.2.2 0) (198 + j) = nz f12 (198 + j)) ∧ BI f10 ∧ SQ qs 8 (u.2.2 0)) (fun u : SV => [zO mm 12 [vI th, vR m1, vI tp, vI sz_, vI ap, vI bad, vI bk, vI opn, vI fp, vR m9, vR m10, vR m11, vR m12, vR m13, vR m14, vR m15, vI im, vI nr, vI nl, vR m19, vR m20, vR m21, vI sp_, vR m23, vR m24, vR m25, vR m26, vR m27, vR m28, vI wtc, vI wcl, vI ir, vI ip, vR m33, vI shu, vR m35, vI sfa, vI swr], zI m10 (cy 0) 68 f10, zI m12 (cy 0) 389 (u.2.2 0)]) 0 0 := by
  refine Met.ofW (cc := cX12_works) (maxL := 5) (ret := none) (by decide) rfl ?_
  intro p e s m args below meth c s₁ B hml hv
  obtain ⟨rfl, hsz, hP, hG, hD0, hT⟩ := hv
  have hx := B.exec
  have hb := B.bytes
  have hr := B.returns
  have hts := atoms_spec (ws := vs_m_works) B.pre
  have hown : s.vm.findClass RX12 = some m.cls := findClass_of_methodNamed B.named
  have hlocks := B.notSynchronized
  subst hsz
  have hD := hD0.self (sz := s.heap.size)
  generalize hAe : va_A [zO mm 12 [vI th, vR m1, vI tp, vI sz_, vI ap, vI bad, vI bk, vI opn, vI fp, vR m9, vR m10, vR m11, vR m12, vR m13, vR m14, vR m15, vI im, vI nr, vI nl, vR m19, vR m20, vR m21, vI sp_, vR m23, vR m24, vR m25, vR m26, vR m27, vR m28, vI wtc, vI wcl, vI ir, vI ip, vR m33, vI shu, vR m35, vI sfa, vI swr], zI m10 (cy 0) 68 f10, zI m12 (cy 0) 389 f12] s.heap.size = A at hD hT ⊢
  have hA : ∀ q : Nat, s.heap.size ≤ q → A q := fun q h => by rw [← hAe]; exact Or.inr h
  have hS : va_S A s.heap s.heap [] := va_S.rf
  have hl0 := lv_entry ([vR mm, vI n]) (n := 5) (Nat.le_of_ble_eq_true rfl)
  rw [lg_entry_eq]
  generalize (lg_sl ([vR mm, vI n]) ++ List.replicate (5 - (lg_sl ([vR mm, vI n])).length) Slot.unset).toArray = ls at hl0 ⊢
  have hlv : lv_has ls 5 [(0, vR mm), (1, vI n)] := hl0
  have lf29 := hts (.fieldLink RX12 29 "KerbSplashModel" "s" "[I") (List.mem_of_getElem? (i := 1) rfl)
  have hi12 : ∀ w ∈ wsX120, w ∈ vs_m_works := fun w h => List.mem_cons_of_mem _ (List.mem_append_right _ (List.mem_append_left _ h))
  have lf23 := hts (.fieldLink RX12 23 "KerbSplashModel" "b" "[I") (List.mem_of_getElem? (i := 2) rfl)
  have gg_1 : GoodIn vs_m_works (va_wsS RX12 289 yX12_at vs_m_at) := goodIn_sub (fun w h => List.mem_cons_of_mem _ (List.mem_append_right _ (List.mem_append_right _ (List.mem_append_left _ h)))) (gd_S gd_m_at (by decide +kernel))
  refine lv_bipush (v := iI 28) hx hb dX12_works_0 (by decide) ?_
  refine lv_iconst (v := iI 5) hx hb dX12_works_2 (by decide) ?_
  refine lv_iload_n hx hb dX12_works_3 rfl (lv_at hlv 1 rfl) ?_
  refine lv_imul hx hb dX12_works_4 ?_
  refine lt_e (e0 := 5 * n) (Int32.ofInt_mul _ _).symm (fun z_1 hz_1 => ?_)
  refine lv_iadd hx hb dX12_works_5 ?_
  refine lt_e (e0 := 28 + z_1) (Int32.ofInt_add _ _).symm (fun z_2 hz_2 => ?_)
  refine lv_istore_n (lv' := [(2, vI z_2), (0, vR mm), (1, vI n)]) hx hb dX12_works_6 rfl hlv (by decide) rfl (fun ls hlv => ?_)
  refine lv_aload_n hx hb dX12_works_7 rfl (lv_at hlv 1 rfl) ?_
  refine va_get (D := D) (ci := 12) (v := vR m12) (C := RX12) (T := TX12) (N := 38) hx hb hts hi12 hown hG.1 hP 0 rfl rfl 12 (by decide) lf29 (fun _ h9 => h9) rfl dX12_works_8 ?_
  refine lv_sipush (v := iI 198) hx hb dX12_works_11 (by decide) ?_
  refine lv_iload_n hx hb dX12_works_14 rfl (lv_at hlv 2 rfl) ?_
  refine lv_iadd hx hb dX12_works_15 ?_
  refine lt_e (e0 := 198 + n) (Int32.ofInt_add _ _).symm (fun z_3 hz_3 => ?_)
  refine lv_iconst (v := iI 1) hx hb dX12_works_16 (by decide) ?_
  refine va_iast hx hb hG.1 hP hD hS 2 0 rfl rfl (iI_in (by omega) (by decide)) dX12_works_17 (fun H locs hP hD hS => ?_)
  obtain ⟨f_4, hdf_4, hP, hD⟩ := pe9e (fun f_4 => [zO mm 12 [vI th, vR m1, vI tp, vI sz_, vI ap, vI bad, vI bk, vI opn, vI fp, vR m9, vR m10, vR m11, vR m12, vR m13, vR m14, vR m15, vI im, vI nr, vI nl, vR m19, vR m20, vR m21, vI sp_, vR m23, vR m24, vR m25, vR m26, vR m27, vR m28, vI wtc, vI wcl, vI ir, vI ip, vR m33, vI shu, vR m35, vI sfa, vI swr], zI m10 (cy 0) 68 f10, zI m12 (cy 0) 389 f_4]) (upd f12 (iI z_3).toNatClampNeg (iI 1)) hP hD
  have ⟨hif_4w, haf_4, hcf_4⟩ := SI.wd (f1 := f_4) (k := n) (hf12.1) (by omega) (by rw [show (198 : Int) + n = z_3 by omega]; exact hdf_4) (by first | assumption | (rw [show 198 + n.toNat = z_3.toNat by omega]; omega))
  have hif_4 : SQ qs 8 f_4 := ⟨hif_4w, (SQ.fr hf12.2 hdf_4 (by omega) (by omega))⟩
  have htf_4_388 : nz f_4 388 = nz f12 388 := nz_un hdf_4 (by omega) (by omega)
  refine lv_aload_n hx hb dX12_works_18 rfl (lv_at hlv 1 rfl) ?_
  refine va_get (D := D) (ci := 12) (v := vR m10) (C := RX12) (T := TX12) (N := 38) hx hb hts hi12 hown hG.1 hP 0 rfl rfl 10 (by decide) lf23 (fun _ h9 => h9) rfl dX12_works_19 ?_
  refine lv_iload_n hx hb dX12_works_22 rfl (lv_at hlv 0 rfl) ?_
  refine va_iald hx hb hG.1 hP 1 0 rfl rfl (iI_in (by omega) (by decide)) dX12_works_23 ?_
  refine lt_nz (i := z_2) (by omega) (fun z_5 hz_5 lz_5 uz_5 => ?_)
  have hbz_5_25 := (hf10.1.2.2.2.2.2.2.2 n.toNat (by omega)).2.2
  rw [show 28 + 5 * n.toNat = z_2.toNat by omega] at hbz_5_25
  refine iz_ne (tgt := 48) hx hb dX12_works_24 (by decide) (by omega) (fun c_6 => ?_) (fun c_6 => ?_)
  · refine lv_aload_n hx hb dX12_works_48 rfl (lv_at hlv 1 rfl) ?_
    refine va_get (D := D) (ci := 12) (v := vR m10) (C := RX12) (T := TX12) (N := 38) hx hb hts hi12 hown hG.1 hP 0 rfl rfl 10 (by decide) lf23 (fun _ h9 => h9) rfl dX12_works_49 ?_
    refine lv_iload_n hx hb dX12_works_52 rfl (lv_at hlv 0 rfl) ?_
    refine va_iald hx hb hG.1 hP 1 0 rfl rfl (iI_in (by omega) (by decide)) dX12_works_53 ?_
    refine lt_nz (i := z_2) (by omega) (fun z_7 hz_7 lz_7 uz_7 => ?_)
    have hbz_7_5 := (hf10.1.2.2.2.2.2.2.2 n.toNat (by omega)).2.2
    rw [show 28 + 5 * n.toNat = z_2.toNat by omega] at hbz_7_5
    refine lv_iconst (v := iI 3) hx hb dX12_works_54 (by decide) ?_
    refine ir_ne (tgt := 91) hx hb dX12_works_55 (by decide) (by omega) (by show ((-2147483648) : Int) ≤ 3 ∧ (3 : Int) ≤ 2147483647; decide) (fun c_8 => ?_) (fun c_8 => ?_)
    · refine lv_iconst (v := iI 0) hx hb dX12_works_91 (by decide) ?_
      refine lv_aload_n hx hb dX12_works_92 rfl (lv_at hlv 1 rfl) ?_
      refine va_get (D := D) (ci := 12) (v := vR m10) (C := RX12) (T := TX12) (N := 38) hx hb hts hi12 hown hG.1 hP 0 rfl rfl 10 (by decide) lf23 (fun _ h9 => h9) rfl dX12_works_93 ?_
      refine lv_iload_n hx hb dX12_works_96 rfl (lv_at hlv 0 rfl) ?_
      refine lv_iconst (v := iI 1) hx hb dX12_works_97 (by decide) ?_
      refine lv_iadd hx hb dX12_works_98 ?_
      refine lt_e (e0 := z_2 + 1) (Int32.ofInt_add _ _).symm (fun z_9 hz_9 => ?_)
      refine va_iald hx hb hG.1 hP 1 0 rfl rfl (iI_in (by omega) (by decide)) dX12_works_99 ?_
      refine lt_nz (i := z_9) (by omega) (fun z_10 hz_10 lz_10 uz_10 => ?_)
      have hbz_10_9 := (hf10.1.2.2.2.2.2.2.2 n.toNat (by omega)).1
      rw [show 29 + 5 * n.toNat = z_9.toNat by omega] at hbz_10_9
      have hbz_10_11 := (hf10.1.2.2.2.2.2.2.2 n.toNat (by omega)).2.2
      rw [show 28 + 5 * n.toNat = z_2.toNat by omega, show 29 + 5 * n.toNat = z_9.toNat by omega] at hbz_10_11
      refine lv_aload_n hx hb dX12_works_100 rfl (lv_at hlv 1 rfl) ?_
      refine va_get (D := D) (ci := 12) (v := vR m10) (C := RX12) (T := TX12) (N := 38) hx hb hts hi12 hown hG.1 hP 0 rfl rfl 10 (by decide) lf23 (fun _ h9 => h9) rfl dX12_works_101 ?_
      refine lv_iload_n hx hb dX12_works_104 rfl (lv_at hlv 0 rfl) ?_
      refine lv_iconst (v := iI 2) hx hb dX12_works_105 (by decide) ?_
      refine lv_iadd hx hb dX12_works_106 ?_
      refine lt_e (e0 := z_2 + 2) (Int32.ofInt_add _ _).symm (fun z_11 hz_11 => ?_)
      refine va_iald hx hb hG.1 hP 1 0 rfl rfl (iI_in (by omega) (by decide)) dX12_works_107 ?_
      refine lt_nz (i := z_11) (by omega) (fun z_12 hz_12 lz_12 uz_12 => ?_)
      have hbz_12_21 := (hf10.1.2.2.2.2.2.2.2 n.toNat (by omega)).2.1
      rw [show 30 + 5 * n.toNat = z_11.toNat by omega] at hbz_12_21
      refine cjr_i [true, true, true] (fun pre9 => (va_runS (As := [vI z_10, vI z_12]) (rest := [vI 0]) ⟨hx, hb, hml, hown, hts⟩ (m_at l hl D cy sa z_10 z_12 H.size (by omega) (by omega)) (va_cwS 2 hts gg_1 rfl rfl rfl (by decide +kernel) ⟨Nat.le_of_ble_eq_true rfl, Nat.le_of_ble_eq_true rfl⟩) ⟨pcW.blind, pre9⟩ rfl rfl hlv.1 rfl (lv_room (Nat.le_of_ble_eq_true rfl)) dX12_works_108 ⟨Nat.le_of_ble_eq_true rfl, Nat.le_of_ble_eq_true rfl⟩)) hP hD hS hA hG hT [] rfl (by decide +kernel) (fun r1 u1 H locs hw1 hq9 hS => ?_)
      obtain ⟨rfl, hq1_1, hq1_2⟩ := hw1
      obtain ⟨hP, hD⟩ := pd9 [zO mm 12 [vI th, vR m1, vI tp, vI sz_, vI ap, vI bad, vI bk, vI opn, vI fp, vR m9, vR m10, vR m11, vR m12, vR m13, vR m14, vR m15, vI im, vI nr, vI nl, vR m19, vR m20, vR m21, vI sp_, vR m23, vR m24, vR m25, vR m26, vR m27, vR m28, vI wtc, vI wcl, vI ir, vI ip, vR m33, vI shu, vR m35, vI sfa, vI swr], zI m10 (cy 0) 68 f10, zI m12 (cy 0) 389 f_4] hq9
      refine lv_iadd hx hb dX12_works_111 ?_
      refine lt_e (e0 := 0 + (u1.2.1 0)) (Int32.ofInt_add _ _).symm (fun z_13 hz_13 => ?_)
      refine lv_istore_n (lv' := [(3, vI z_13), (2, vI z_2), (0, vR mm), (1, vI n)]) hx hb dX12_works_112 rfl hlv (by decide) rfl (fun ls hlv => ?_)
      refine lv_aload_n hx hb dX12_works_113 rfl (lv_at hlv 2 rfl) ?_
      refine va_get (D := D) (ci := 12) (v := vR m10) (C := RX12) (T := TX12) (N := 38) hx hb hts hi12 hown hG.1 hP 0 rfl rfl 10 (by decide) lf23 (fun _ h9 => h9) rfl dX12_works_114 ?_
      refine lv_iload_n hx hb dX12_works_117 rfl (lv_at hlv 1 rfl) ?_
      refine va_iald hx hb hG.1 hP 1 0 rfl rfl (iI_in (by omega) (by decide)) dX12_works_118 ?_
      refine lt_nz (i := z_2) (by omega) (fun z_14 hz_14 lz_14 uz_14 => ?_)
      have hbz_14_34 := (hf10.1.2.2.2.2.2.2.2 n.toNat (by omega)).2.2
      rw [show 28 + 5 * n.toNat = z_2.toNat by omega] at hbz_14_34
      refine lv_iconst (v := iI 1) hx hb dX12_works_119 (by decide) ?_
      refine ir_ne (tgt := 141) hx hb dX12_works_120 (by decide) (by omega) (by show ((-2147483648) : Int) ≤ 1 ∧ (1 : Int) ≤ 2147483647; decide) (fun c_15 => ?_) (fun c_15 => ?_)
      · refine lv_aload_n hx hb dX12_works_141 rfl (lv_at hlv 2 rfl) ?_
        refine va_get (D := D) (ci := 12) (v := vR m12) (C := RX12) (T := TX12) (N := 38) hx hb hts hi12 hown hG.1 hP 0 rfl rfl 12 (by decide) lf29 (fun _ h9 => h9) rfl dX12_works_142 ?_
        refine lv_iload_n hx hb dX12_works_145 rfl (lv_at hlv 0 rfl) ?_
        refine va_iald hx hb hG.1 hP 2 0 rfl rfl (iI_in (by omega) (by decide)) dX12_works_146 ?_
        refine lt_nz (i := z_13) (by omega) (fun z_16 hz_16 lz_16 uz_16 => ?_)
        refine lv_aload_n hx hb dX12_works_147 rfl (lv_at hlv 2 rfl) ?_
        refine va_get (D := D) (ci := 12) (v := vR m10) (C := RX12) (T := TX12) (N := 38) hx hb hts hi12 hown hG.1 hP 0 rfl rfl 10 (by decide) lf23 (fun _ h9 => h9) rfl dX12_works_148 ?_
        refine lv_iload_n hx hb dX12_works_151 rfl (lv_at hlv 1 rfl) ?_
        refine lv_iconst (v := iI 3) hx hb dX12_works_152 (by decide) ?_
        refine lv_iadd hx hb dX12_works_153 ?_
        refine lt_e (e0 := z_2 + 3) (Int32.ofInt_add _ _).symm (fun z_17 hz_17 => ?_)
        refine va_iald hx hb hG.1 hP 1 0 rfl rfl (iI_in (by omega) (by decide)) dX12_works_154 ?_
        refine lt_nz (i := z_17) (by omega) (fun z_18 hz_18 lz_18 uz_18 => ?_)
        refine lv_isub hx hb dX12_works_155 ?_
        refine lt_z (fun z_19 ez_19 lz_19 hz_19 => ?_)
        refine lv_istore (lv' := [(4, vI z_19), (3, vI z_13), (2, vI z_2), (0, vR mm), (1, vI n)]) hx hb dX12_works_156 hlv (by decide) rfl (fun ls hlv => ?_)
        refine lv_aload_n hx hb dX12_works_158 rfl (lv_at hlv 3 rfl) ?_
        refine va_get (D := D) (ci := 12) (v := vR m12) (C := RX12) (T := TX12) (N := 38) hx hb hts hi12 hown hG.1 hP 0 rfl rfl 12 (by decide) lf29 (fun _ h9 => h9) rfl dX12_works_159 ?_
        refine lv_iload_n hx hb dX12_works_162 rfl (lv_at hlv 1 rfl) ?_
        refine lv_iload hx hb dX12_works_163 (lv_at hlv 0 rfl) ?_
        refine iz_ge (tgt := 172) hx hb dX12_works_165 (by decide) (by omega) (fun c_20 => ?_) (fun c_20 => ?_)
        · refine lv_iload hx hb dX12_works_172 (lv_at hlv 0 rfl) ?_
          refine lv_bipush (v := iI 99) hx hb dX12_works_174 (by decide) ?_
          refine ir_le (tgt := 184) hx hb dX12_works_176 (by decide) (by omega) (by show ((-2147483648) : Int) ≤ 99 ∧ (99 : Int) ≤ 2147483647; decide) (fun c_21 => ?_) (fun c_21 => ?_)
          · refine lv_iload hx hb dX12_works_184 (lv_at hlv 0 rfl) ?_
            refine va_iast hx hb hG.1 hP hD hS 2 0 rfl rfl (iI_in (by omega) (by decide)) dX12_works_186 (fun H locs hP hD hS => ?_)
            obtain ⟨f_22, hdf_22, hP, hD⟩ := pe9e (fun f_22 => [zO mm 12 [vI th, vR m1, vI tp, vI sz_, vI ap, vI bad, vI bk, vI opn, vI fp, vR m9, vR m10, vR m11, vR m12, vR m13, vR m14, vR m15, vI im, vI nr, vI nl, vR m19, vR m20, vR m21, vI sp_, vR m23, vR m24, vR m25, vR m26, vR m27, vR m28, vI wtc, vI wcl, vI ir, vI ip, vR m33, vI shu, vR m35, vI sfa, vI swr], zI m10 (cy 0) 68 f10, zI m12 (cy 0) 389 f_22]) (upd f_4 (iI z_13).toNatClampNeg (iI z_19)) hP hD
            have hif_22 : SQ qs 8 f_22 := ⟨SI.wo (hif_4.1) hdf_22 (by omega) (by omega) (by omega) (by omega), (SQ.fr hif_4.2 hdf_22 (by omega) (by omega))⟩
            have htf_22_388 : nz f_22 388 = nz f_4 388 := nz_un hdf_22 (by omega) (by omega)
            refine W.widen (k := 0) (n := 0) (Nat.le_of_ble_eq_true rfl) (Nat.le_of_ble_eq_true rfl) ?_
            exact W.vret hx hb hr (fun t ht hW => ⟨⟨((fun k => ([] : List Nat).getD k 0), (fun k => ([] : List Int).getD k 0), (fun k => ([f_22] : List (Nat → Int32)).getD k (fun _ => 0))), rfl, ⟨(by show (nz (f_22) 388 = nz f12 388); omega), (by show (∀ j : Nat, j < 8 → (j : Int) ≠ n → nz (f_22) (198 + j) = nz f12 (198 + j)); exact (fun j a b => by rw [nz_un hdf_22 (by omega) (by omega), nz_un hdf_4 (by omega) (by omega)])), hf10, hif_22⟩, at9 ht hP hD [0, 1, 2] (by decide +kernel) rfl⟩, hS.F ht⟩) hS.2.2 dX12_works_187
          · refine lv_bipush (v := iI 99) hx hb dX12_works_179 (by decide) ?_
            refine lv_goto (tgt := 186) hx hb dX12_works_181 (by decide) ?_
            refine va_iast hx hb hG.1 hP hD hS 2 0 rfl rfl (iI_in (by omega) (by decide)) dX12_works_186 (fun H locs hP hD hS => ?_)
            obtain ⟨f_23, hdf_23, hP, hD⟩ := pe9e (fun f_23 => [zO mm 12 [vI th, vR m1, vI tp, vI sz_, vI ap, vI bad, vI bk, vI opn, vI fp, vR m9, vR m10, vR m11, vR m12, vR m13, vR m14, vR m15, vI im, vI nr, vI nl, vR m19, vR m20, vR m21, vI sp_, vR m23, vR m24, vR m25, vR m26, vR m27, vR m28, vI wtc, vI wcl, vI ir, vI ip, vR m33, vI shu, vR m35, vI sfa, vI swr], zI m10 (cy 0) 68 f10, zI m12 (cy 0) 389 f_23]) (upd f_4 (iI z_13).toNatClampNeg (iI 99)) hP hD
            have hif_23 : SQ qs 8 f_23 := ⟨SI.wo (hif_4.1) hdf_23 (by omega) (by omega) (by omega) (by omega), (SQ.fr hif_4.2 hdf_23 (by omega) (by omega))⟩
            have htf_23_388 : nz f_23 388 = nz f_4 388 := nz_un hdf_23 (by omega) (by omega)
            refine W.widen (k := 0) (n := 0) (Nat.le_of_ble_eq_true rfl) (Nat.le_of_ble_eq_true rfl) ?_
            exact W.vret hx hb hr (fun t ht hW => ⟨⟨((fun k => ([] : List Nat).getD k 0), (fun k => ([] : List Int).getD k 0), (fun k => ([f_23] : List (Nat → Int32)).getD k (fun _ => 0))), rfl, ⟨(by show (nz (f_23) 388 = nz f12 388); omega), (by show (∀ j : Nat, j < 8 → (j : Int) ≠ n → nz (f_23) (198 + j) = nz f12 (198 + j)); exact (fun j a b => by rw [nz_un hdf_23 (by omega) (by omega), nz_un hdf_4 (by omega) (by omega)])), hf10, hif_23⟩, at9 ht hP hD [0, 1, 2] (by decide +kernel) rfl⟩, hS.F ht⟩) hS.2.2 dX12_works_187
        · refine lv_iconst (v := iI 0) hx hb dX12_works_168 (by decide) ?_
          refine lv_goto (tgt := 186) hx hb dX12_works_169 (by decide) ?_
          refine va_iast hx hb hG.1 hP hD hS 2 0 rfl rfl (iI_in (by omega) (by decide)) dX12_works_186 (fun H locs hP hD hS => ?_)
          obtain ⟨f_24, hdf_24, hP, hD⟩ := pe9e (fun f_24 => [zO mm 12 [vI th, vR m1, vI tp, vI sz_, vI ap, vI bad, vI bk, vI opn, vI fp, vR m9, vR m10, vR m11, vR m12, vR m13, vR m14, vR m15, vI im, vI nr, vI nl, vR m19, vR m20, vR m21, vI sp_, vR m23, vR m24, vR m25, vR m26, vR m27, vR m28, vI wtc, vI wcl, vI ir, vI ip, vR m33, vI shu, vR m35, vI sfa, vI swr], zI m10 (cy 0) 68 f10, zI m12 (cy 0) 389 f_24]) (upd f_4 (iI z_13).toNatClampNeg (iI 0)) hP hD
          have hif_24 : SQ qs 8 f_24 := ⟨SI.wo (hif_4.1) hdf_24 (by omega) (by omega) (by omega) (by omega), (SQ.fr hif_4.2 hdf_24 (by omega) (by omega))⟩
          have htf_24_388 : nz f_24 388 = nz f_4 388 := nz_un hdf_24 (by omega) (by omega)
          refine W.widen (k := 0) (n := 0) (Nat.le_of_ble_eq_true rfl) (Nat.le_of_ble_eq_true rfl) ?_
          exact W.vret hx hb hr (fun t ht hW => ⟨⟨((fun k => ([] : List Nat).getD k 0), (fun k => ([] : List Int).getD k 0), (fun k => ([f_24] : List (Nat → Int32)).getD k (fun _ => 0))), rfl, ⟨(by show (nz (f_24) 388 = nz f12 388); omega), (by show (∀ j : Nat, j < 8 → (j : Int) ≠ n → nz (f_24) (198 + j) = nz f12 (198 + j)); exact (fun j a b => by rw [nz_un hdf_24 (by omega) (by omega), nz_un hdf_4 (by omega) (by omega)])), hf10, hif_24⟩, at9 ht hP hD [0, 1, 2] (by decide +kernel) rfl⟩, hS.F ht⟩) hS.2.2 dX12_works_187
      · refine lv_aload_n hx hb dX12_works_123 rfl (lv_at hlv 2 rfl) ?_
        refine va_get (D := D) (ci := 12) (v := vR m12) (C := RX12) (T := TX12) (N := 38) hx hb hts hi12 hown hG.1 hP 0 rfl rfl 12 (by decide) lf29 (fun _ h9 => h9) rfl dX12_works_124 ?_
        refine lv_iload_n hx hb dX12_works_127 rfl (lv_at hlv 0 rfl) ?_
        refine va_iald hx hb hG.1 hP 2 0 rfl rfl (iI_in (by omega) (by decide)) dX12_works_128 ?_
        refine lt_nz (i := z_13) (by omega) (fun z_25 hz_25 lz_25 uz_25 => ?_)
        refine lv_aload_n hx hb dX12_works_129 rfl (lv_at hlv 2 rfl) ?_
        refine va_get (D := D) (ci := 12) (v := vR m10) (C := RX12) (T := TX12) (N := 38) hx hb hts hi12 hown hG.1 hP 0 rfl rfl 10 (by decide) lf23 (fun _ h9 => h9) rfl dX12_works_130 ?_
        refine lv_iload_n hx hb dX12_works_133 rfl (lv_at hlv 1 rfl) ?_
        refine lv_iconst (v := iI 3) hx hb dX12_works_134 (by decide) ?_
        refine lv_iadd hx hb dX12_works_135 ?_
        refine lt_e (e0 := z_2 + 3) (Int32.ofInt_add _ _).symm (fun z_26 hz_26 => ?_)
        refine va_iald hx hb hG.1 hP 1 0 rfl rfl (iI_in (by omega) (by decide)) dX12_works_136 ?_
        refine lt_nz (i := z_26) (by omega) (fun z_27 hz_27 lz_27 uz_27 => ?_)
        refine lv_iadd hx hb dX12_works_137 ?_
        refine lt_z (fun z_28 ez_28 lz_28 hz_28 => ?_)
        refine lv_goto (tgt := 156) hx hb dX12_works_138 (by decide) ?_
        refine lv_istore (lv' := [(4, vI z_28), (3, vI z_13), (2, vI z_2), (0, vR mm), (1, vI n)]) hx hb dX12_works_156 hlv (by decide) rfl (fun ls hlv => ?_)
        refine lv_aload_n hx hb dX12_works_158 rfl (lv_at hlv 3 rfl) ?_
        refine va_get (D := D) (ci := 12) (v := vR m12) (C := RX12) (T := TX12) (N := 38) hx hb hts hi12 hown hG.1 hP 0 rfl rfl 12 (by decide) lf29 (fun _ h9 => h9) rfl dX12_works_159 ?_
        refine lv_iload_n hx hb dX12_works_162 rfl (lv_at hlv 1 rfl) ?_
        refine lv_iload hx hb dX12_works_163 (lv_at hlv 0 rfl) ?_
        refine iz_ge (tgt := 172) hx hb dX12_works_165 (by decide) (by omega) (fun c_29 => ?_) (fun c_29 => ?_)
        · refine lv_iload hx hb dX12_works_172 (lv_at hlv 0 rfl) ?_
          refine lv_bipush (v := iI 99) hx hb dX12_works_174 (by decide) ?_
          refine ir_le (tgt := 184) hx hb dX12_works_176 (by decide) (by omega) (by show ((-2147483648) : Int) ≤ 99 ∧ (99 : Int) ≤ 2147483647; decide) (fun c_30 => ?_) (fun c_30 => ?_)
          · refine lv_iload hx hb dX12_works_184 (lv_at hlv 0 rfl) ?_
            refine va_iast hx hb hG.1 hP hD hS 2 0 rfl rfl (iI_in (by omega) (by decide)) dX12_works_186 (fun H locs hP hD hS => ?_)
            obtain ⟨f_31, hdf_31, hP, hD⟩ := pe9e (fun f_31 => [zO mm 12 [vI th, vR m1, vI tp, vI sz_, vI ap, vI bad, vI bk, vI opn, vI fp, vR m9, vR m10, vR m11, vR m12, vR m13, vR m14, vR m15, vI im, vI nr, vI nl, vR m19, vR m20, vR m21, vI sp_, vR m23, vR m24, vR m25, vR m26, vR m27, vR m28, vI wtc, vI wcl, vI ir, vI ip, vR m33, vI shu, vR m35, vI sfa, vI swr], zI m10 (cy 0) 68 f10, zI m12 (cy 0) 389 f_31]) (upd f_4 (iI z_13).toNatClampNeg (iI z_28)) hP hD
            have hif_31 : SQ qs 8 f_31 := ⟨SI.wo (hif_4.1) hdf_31 (by omega) (by omega) (by omega) (by omega), (SQ.fr hif_4.2 hdf_31 (by omega) (by omega))⟩
            have htf_31_388 : nz f_31 388 = nz f_4 388 := nz_un hdf_31 (by omega) (by omega)
            refine W.widen (k := 0) (n := 0) (Nat.le_of_ble_eq_true rfl) (Nat.le_of_ble_eq_true rfl) ?_
            exact W.vret hx hb hr (fun t ht hW => ⟨⟨((fun k => ([] : List Nat).getD k 0), (fun k => ([] : List Int).getD k 0), (fun k => ([f_31] : List (Nat → Int32)).getD k (fun _ => 0))), rfl, ⟨(by show (nz (f_31) 388 = nz f12 388); omega), (by show (∀ j : Nat, j < 8 → (j : Int) ≠ n → nz (f_31) (198 + j) = nz f12 (198 + j)); exact (fun j a b => by rw [nz_un hdf_31 (by omega) (by omega), nz_un hdf_4 (by omega) (by omega)])), hf10, hif_31⟩, at9 ht hP hD [0, 1, 2] (by decide +kernel) rfl⟩, hS.F ht⟩) hS.2.2 dX12_works_187
          · refine lv_bipush (v := iI 99) hx hb dX12_works_179 (by decide) ?_
            refine lv_goto (tgt := 186) hx hb dX12_works_181 (by decide) ?_
            refine va_iast hx hb hG.1 hP hD hS 2 0 rfl rfl (iI_in (by omega) (by decide)) dX12_works_186 (fun H locs hP hD hS => ?_)
            obtain ⟨f_32, hdf_32, hP, hD⟩ := pe9e (fun f_32 => [zO mm 12 [vI th, vR m1, vI tp, vI sz_, vI ap, vI bad, vI bk, vI opn, vI fp, vR m9, vR m10, vR m11, vR m12, vR m13, vR m14, vR m15, vI im, vI nr, vI nl, vR m19, vR m20, vR m21, vI sp_, vR m23, vR m24, vR m25, vR m26, vR m27, vR m28, vI wtc, vI wcl, vI ir, vI ip, vR m33, vI shu, vR m35, vI sfa, vI swr], zI m10 (cy 0) 68 f10, zI m12 (cy 0) 389 f_32]) (upd f_4 (iI z_13).toNatClampNeg (iI 99)) hP hD
            have hif_32 : SQ qs 8 f_32 := ⟨SI.wo (hif_4.1) hdf_32 (by omega) (by omega) (by omega) (by omega), (SQ.fr hif_4.2 hdf_32 (by omega) (by omega))⟩
            have htf_32_388 : nz f_32 388 = nz f_4 388 := nz_un hdf_32 (by omega) (by omega)
            refine W.widen (k := 0) (n := 0) (Nat.le_of_ble_eq_true rfl) (Nat.le_of_ble_eq_true rfl) ?_
            exact W.vret hx hb hr (fun t ht hW => ⟨⟨((fun k => ([] : List Nat).getD k 0), (fun k => ([] : List Int).getD k 0), (fun k => ([f_32] : List (Nat → Int32)).getD k (fun _ => 0))), rfl, ⟨(by show (nz (f_32) 388 = nz f12 388); omega), (by show (∀ j : Nat, j < 8 → (j : Int) ≠ n → nz (f_32) (198 + j) = nz f12 (198 + j)); exact (fun j a b => by rw [nz_un hdf_32 (by omega) (by omega), nz_un hdf_4 (by omega) (by omega)])), hf10, hif_32⟩, at9 ht hP hD [0, 1, 2] (by decide +kernel) rfl⟩, hS.F ht⟩) hS.2.2 dX12_works_187
        · refine lv_iconst (v := iI 0) hx hb dX12_works_168 (by decide) ?_
          refine lv_goto (tgt := 186) hx hb dX12_works_169 (by decide) ?_
          refine va_iast hx hb hG.1 hP hD hS 2 0 rfl rfl (iI_in (by omega) (by decide)) dX12_works_186 (fun H locs hP hD hS => ?_)
          obtain ⟨f_33, hdf_33, hP, hD⟩ := pe9e (fun f_33 => [zO mm 12 [vI th, vR m1, vI tp, vI sz_, vI ap, vI bad, vI bk, vI opn, vI fp, vR m9, vR m10, vR m11, vR m12, vR m13, vR m14, vR m15, vI im, vI nr, vI nl, vR m19, vR m20, vR m21, vI sp_, vR m23, vR m24, vR m25, vR m26, vR m27, vR m28, vI wtc, vI wcl, vI ir, vI ip, vR m33, vI shu, vR m35, vI sfa, vI swr], zI m10 (cy 0) 68 f10, zI m12 (cy 0) 389 f_33]) (upd f_4 (iI z_13).toNatClampNeg (iI 0)) hP hD
          have hif_33 : SQ qs 8 f_33 := ⟨SI.wo (hif_4.1) hdf_33 (by omega) (by omega) (by omega) (by omega), (SQ.fr hif_4.2 hdf_33 (by omega) (by omega))⟩
          have htf_33_388 : nz f_33 388 = nz f_4 388 := nz_un hdf_33 (by omega) (by omega)
          refine W.widen (k := 0) (n := 0) (Nat.le_of_ble_eq_true rfl) (Nat.le_of_ble_eq_true rfl) ?_
          exact W.vret hx hb hr (fun t ht hW => ⟨⟨((fun k => ([] : List Nat).getD k 0), (fun k => ([] : List Int).getD k 0), (fun k => ([f_33] : List (Nat → Int32)).getD k (fun _ => 0))), rfl, ⟨(by show (nz (f_33) 388 = nz f12 388); omega), (by show (∀ j : Nat, j < 8 → (j : Int) ≠ n → nz (f_33) (198 + j) = nz f12 (198 + j)); exact (fun j a b => by rw [nz_un hdf_33 (by omega) (by omega), nz_un hdf_4 (by omega) (by omega)])), hf10, hif_33⟩, at9 ht hP hD [0, 1, 2] (by decide +kernel) rfl⟩, hS.F ht⟩) hS.2.2 dX12_works_187
    · refine lv_aload_n hx hb dX12_works_58 rfl (lv_at hlv 1 rfl) ?_
      refine va_get (D := D) (ci := 12) (v := vR m12) (C := RX12) (T := TX12) (N := 38) hx hb hts hi12 hown hG.1 hP 0 rfl rfl 12 (by decide) lf29 (fun _ h9 => h9) rfl dX12_works_59 ?_
      refine lv_sipush (v := iI 207) hx hb dX12_works_62 (by decide) ?_
      refine lv_aload_n hx hb dX12_works_65 rfl (lv_at hlv 1 rfl) ?_
      refine va_get (D := D) (ci := 12) (v := vR m12) (C := RX12) (T := TX12) (N := 38) hx hb hts hi12 hown hG.1 hP 0 rfl rfl 12 (by decide) lf29 (fun _ h9 => h9) rfl dX12_works_66 ?_
      refine lv_sipush (v := iI 206) hx hb dX12_works_69 (by decide) ?_
      refine va_iald hx hb hG.1 hP 2 0 rfl rfl (iI_in (by omega) (by decide)) dX12_works_72 ?_
      refine lt_nz (i := 206) (by omega) (fun z_34 hz_34 lz_34 uz_34 => ?_)
      have hz_34 : z_34 = nz f_4 206 := hz_34
      have hbz_34_9 := (hif_4.1).1
      have hbz_34_10 := dcn_r f_4
      refine lv_iadd hx hb dX12_works_73 ?_
      refine lt_e (e0 := 207 + z_34) (Int32.ofInt_add _ _).symm (fun z_35 hz_35 => ?_)
      refine lv_iload_n hx hb dX12_works_74 rfl (lv_at hlv 2 rfl) ?_
      refine va_iast hx hb hG.1 hP hD hS 2 0 rfl rfl (iI_in (by omega) (by decide)) dX12_works_75 (fun H locs hP hD hS => ?_)
      obtain ⟨f_36, hdf_36, hP, hD⟩ := pe9e (fun f_36 => [zO mm 12 [vI th, vR m1, vI tp, vI sz_, vI ap, vI bad, vI bk, vI opn, vI fp, vR m9, vR m10, vR m11, vR m12, vR m13, vR m14, vR m15, vI im, vI nr, vI nl, vR m19, vR m20, vR m21, vI sp_, vR m23, vR m24, vR m25, vR m26, vR m27, vR m28, vI wtc, vI wcl, vI ir, vI ip, vR m33, vI shu, vR m35, vI sfa, vI swr], zI m10 (cy 0) 68 f10, zI m12 (cy 0) 389 f_36]) (upd f_4 (iI z_35).toNatClampNeg (iI n)) hP hD
      have htf_36_388 : nz f_36 388 = nz f_4 388 := nz_un hdf_36 (by omega) (by omega)
      refine lv_aload_n hx hb dX12_works_76 rfl (lv_at hlv 1 rfl) ?_
      refine va_get (D := D) (ci := 12) (v := vR m12) (C := RX12) (T := TX12) (N := 38) hx hb hts hi12 hown hG.1 hP 0 rfl rfl 12 (by decide) lf29 (fun _ h9 => h9) rfl dX12_works_77 ?_
      refine lv_sipush (v := iI 206) hx hb dX12_works_80 (by decide) ?_
      refine lv_dup2_11 hx hb dX12_works_83 rfl rfl ?_
      refine va_iald hx hb hG.1 hP 2 0 rfl rfl (iI_in (by omega) (by decide)) dX12_works_84 ?_
      refine lt_nz (i := 206) (by omega) (fun z_37 hz_37 lz_37 uz_37 => ?_)
      have hz_37 : z_37 = nz f_36 206 := hz_37
      have hbz_37_24 := (hif_4.1).1
      have hbz_37_25 := dcn_r f_36
      refine lv_iconst (v := iI 1) hx hb dX12_works_85 (by decide) ?_
      refine lv_iadd hx hb dX12_works_86 ?_
      refine lt_e (e0 := z_37 + 1) (Int32.ofInt_add _ _).symm (fun z_38 hz_38 => ?_)
      refine va_iast hx hb hG.1 hP hD hS 2 0 rfl rfl (iI_in (by omega) (by decide)) dX12_works_87 (fun H locs hP hD hS => ?_)
      obtain ⟨f_39, hdf_39, hP, hD⟩ := pe9e (fun f_39 => [zO mm 12 [vI th, vR m1, vI tp, vI sz_, vI ap, vI bad, vI bk, vI opn, vI fp, vR m9, vR m10, vR m11, vR m12, vR m13, vR m14, vR m15, vI im, vI nr, vI nl, vR m19, vR m20, vR m21, vI sp_, vR m23, vR m24, vR m25, vR m26, vR m27, vR m28, vI wtc, vI wcl, vI ir, vI ip, vR m33, vI shu, vR m35, vI sfa, vI swr], zI m10 (cy 0) 68 f10, zI m12 (cy 0) 389 f_39]) (upd f_36 (iI 206).toNatClampNeg (iI z_38)) hP hD
      have hif_39 : SQ qs 8 f_39 := ⟨SI.wb (hif_4.1) haf_4 (by omega) (by omega) (by omega) hdf_36 (by omega) hdf_39, (SQ.fr (SQ.fr hif_4.2 hdf_36 (by omega) (by omega)) hdf_39 (by omega) (by omega))⟩
      have htf_39_388 : nz f_39 388 = nz f_36 388 := nz_un hdf_39 (by omega) (by omega)
      refine lv_goto (tgt := 187) hx hb dX12_works_88 (by decide) ?_
      refine W.widen (k := 0) (n := 0) (Nat.le_of_ble_eq_true rfl) (Nat.le_of_ble_eq_true rfl) ?_
      exact W.vret hx hb hr (fun t ht hW => ⟨⟨((fun k => ([] : List Nat).getD k 0), (fun k => ([] : List Int).getD k 0), (fun k => ([f_39] : List (Nat → Int32)).getD k (fun _ => 0))), rfl, ⟨(by show (nz (f_39) 388 = nz f12 388); omega), (by show (∀ j : Nat, j < 8 → (j : Int) ≠ n → nz (f_39) (198 + j) = nz f12 (198 + j)); exact (fun j a b => by rw [nz_un hdf_39 (by omega) (by omega), nz_un hdf_36 (by omega) (by omega), nz_un hdf_4 (by omega) (by omega)])), hf10, hif_39⟩, at9 ht hP hD [0, 1, 2] (by decide +kernel) rfl⟩, hS.F ht⟩) hS.2.2 dX12_works_187
  · refine lv_aload_n hx hb dX12_works_27 rfl (lv_at hlv 1 rfl) ?_
    refine va_get (D := D) (ci := 12) (v := vR m12) (C := RX12) (T := TX12) (N := 38) hx hb hts hi12 hown hG.1 hP 0 rfl rfl 12 (by decide) lf29 (fun _ h9 => h9) rfl dX12_works_28 ?_
    refine lv_sipush (v := iI 192) hx hb dX12_works_31 (by decide) ?_
    refine lv_aload_n hx hb dX12_works_34 rfl (lv_at hlv 1 rfl) ?_
    refine va_get (D := D) (ci := 12) (v := vR m10) (C := RX12) (T := TX12) (N := 38) hx hb hts hi12 hown hG.1 hP 0 rfl rfl 10 (by decide) lf23 (fun _ h9 => h9) rfl dX12_works_35 ?_
    refine lv_iload_n hx hb dX12_works_38 rfl (lv_at hlv 0 rfl) ?_
    refine lv_iconst (v := iI 1) hx hb dX12_works_39 (by decide) ?_
    refine lv_iadd hx hb dX12_works_40 ?_
    refine lt_e (e0 := z_2 + 1) (Int32.ofInt_add _ _).symm (fun z_40 hz_40 => ?_)
    refine va_iald hx hb hG.1 hP 1 0 rfl rfl (iI_in (by omega) (by decide)) dX12_works_41 ?_
    refine lt_nz (i := z_40) (by omega) (fun z_41 hz_41 lz_41 uz_41 => ?_)
    have hbz_41_11 := (hf10.1.2.2.2.2.2.2.2 n.toNat (by omega)).1
    rw [show 29 + 5 * n.toNat = z_40.toNat by omega] at hbz_41_11
    have hbz_41_13 := (hf10.1.2.2.2.2.2.2.2 n.toNat (by omega)).2.2
    rw [show 28 + 5 * n.toNat = z_2.toNat by omega, show 29 + 5 * n.toNat = z_40.toNat by omega] at hbz_41_13
    refine lv_iadd hx hb dX12_works_42 ?_
    refine lt_e (e0 := 192 + z_41) (Int32.ofInt_add _ _).symm (fun z_42 hz_42 => ?_)
    refine lv_iconst (v := iI 0) hx hb dX12_works_43 (by decide) ?_
    refine va_iast hx hb hG.1 hP hD hS 2 0 rfl rfl (iI_in (by omega) (by decide)) dX12_works_44 (fun H locs hP hD hS => ?_)
    obtain ⟨f_43, hdf_43, hP, hD⟩ := pe9e (fun f_43 => [zO mm 12 [vI th, vR m1, vI tp, vI sz_, vI ap, vI bad, vI bk, vI opn, vI fp, vR m9, vR m10, vR m11, vR m12, vR m13, vR m14, vR m15, vI im, vI nr, vI nl, vR m19, vR m20, vR m21, vI sp_, vR m23, vR m24, vR m25, vR m26, vR m27, vR m28, vI wtc, vI wcl, vI ir, vI ip, vR m33, vI shu, vR m35, vI sfa, vI swr], zI m10 (cy 0) 68 f10, zI m12 (cy 0) 389 f_43]) (upd f_4 (iI z_42).toNatClampNeg (iI 0)) hP hD
    have hif_43 : SQ qs 8 f_43 := ⟨SI.wo (hif_4.1) hdf_43 (by omega) (by omega) (by omega) (by omega), (SQ.fr hif_4.2 hdf_43 (by omega) (by omega))⟩
    have htf_43_388 : nz f_43 388 = nz f_4 388 := nz_un hdf_43 (by omega) (by omega)
    refine lv_goto (tgt := 187) hx hb dX12_works_45 (by decide) ?_
    refine W.widen (k := 0) (n := 0) (Nat.le_of_ble_eq_true rfl) (Nat.le_of_ble_eq_true rfl) ?_
    exact W.vret hx hb hr (fun t ht hW => ⟨⟨((fun k => ([] : List Nat).getD k 0), (fun k => ([] : List Int).getD k 0), (fun k => ([f_43] : List (Nat → Int32)).getD k (fun _ => 0))), rfl, ⟨(by show (nz (f_43) 388 = nz f12 388); omega), (by show (∀ j : Nat, j < 8 → (j : Int) ≠ n → nz (f_43) (198 + j) = nz f12 (198 + j)); exact (fun j a b => by rw [nz_un hdf_43 (by omega) (by omega), nz_un hdf_4 (by omega) (by omega)])), hf10, hif_43⟩, at9 ht hP hD [0, 1, 2] (by decide +kernel) rfl⟩, hS.F ht⟩) hS.2.2 dX12_works_187
def vs_m_does : List Cond := .code yX12_does cX12_does 2 (some .int) :: (([.fieldLink RX12 1 "KerbSplashModel" "thrown" "I", .fieldLink RX12 29 "KerbSplashModel" "s" "[I"] : List Cond) ++ ((wsX120) ++ ((wsV RX12 300 RX12 yX12_isWork vs_m_isWork) ++ ((wsV RX12 303 RX12 yX12_works vs_m_works) ++ ([])))))
set_option maxHeartbeats 4000000 in
set_option maxRecDepth 100000 in
theorem m_does (l : Launch) (hl : l.stackTraces = false) (D : va_G) (cy : Nat → ClassId) (sa : Nat → Nat) (mm m1 m9 m10 m11 m12 m13 m14 m15 m19 m20 m21 m23 m24 m25 m26 m27 m28 m33 m35 : Nat) (th tp sz_ ap bad bk opn fp im nr nl sp_ wtc wcl ir ip shu sfa swr : Int) (f1 f10 f12 : Nat → Int32) (n : Int) (qs : Nat → Int) (sz : Nat) (hr_th : (-2147483648) ≤ th ∧ th ≤ 2147483647) (hr_tp : 0 ≤ tp ∧ tp ≤ 600) (hr_sz_ : 0 ≤ sz_ ∧ sz_ ≤ 600) (hr_ap : 0 ≤ ap ∧ ap ≤ 602) (hr_bad : (-1) ≤ bad ∧ bad ≤ 602) (hr_bk : 0 ≤ bk ∧ bk ≤ 4) (hr_opn : 0 ≤ opn ∧ opn ≤ 7) (hr_fp : (-2147483648) ≤ fp ∧ fp ≤ 2147483647) (hr_im : 0 ≤ im ∧ im ≤ 3) (hr_nr : 0 ≤ nr ∧ nr ≤ 4) (hr_nl : 0 ≤ nl ∧ nl ≤ 4) (hr_sp_ : 0 ≤ sp_ ∧ sp_ ≤ 602) (hr_wtc : (-2147483648) ≤ wtc ∧ wtc ≤ 2147483647) (hr_wcl : 0 ≤ wcl ∧ wcl ≤ 95) (hr_ir : 0 ≤ ir ∧ ir ≤ 5) (hr_ip : (-2147483648) ≤ ip ∧ ip ≤ 2147483647) (hr_shu : (-2147483648) ≤ shu ∧ shu ≤ 2147483647) (hr_sfa : (-2147483648) ≤ sfa ∧ sfa ≤ 2147483647) (hr_swr : (-2147483648) ≤ swr ∧ swr ≤ 2147483647) (hr_n : (-2147483648) ≤ n ∧ n ≤ 2147483647) (hf10 : BI f10) (hf12 : SQ qs 8 f12) : mI9 l yX12_does vs_m_does ({ frames := 2, cells := 0, slots := 0, locals := 45 }) D cy sa sz [vR mm, vI n] [zO mm 12 [vI th, vR m1, vI tp, vI sz_, vI ap, vI bad, vI bk, vI opn, vI fp, vR m9, vR m10, vR m11, vR m12, vR m13, vR m14, vR m15, vI im, vI nr, vI nl, vR m19, vR m20, vR m21, vI sp_, vR m23, vR m24, vR m25, vR m26, vR m27, vR m28, vI wtc, vI wcl, vI ir, vI ip, vR m33, vI shu, vR m35, vI sfa, vI swr], zI m1 (cy 0) 4 f1, zI m10 (cy 0) 68 f10, zI m12 (cy 0) 389 f12] (fun (r : Int32) (u : SV) => r = iI (u.2.1 0) ∧ ((-2147483648) ≤ u.2.1 1 ∧ u.2.1 1 ≤ 2147483647) ∧ ((-2147483648) ≤ u.2.1 0 ∧ u.2.1 0 ≤ 2147483647) ∧ BI f10 ∧ SQ qs 8 (u.2.2 1)) (fun u : SV => [zO mm 12 [vI (u.2.1 1), vR m1, vI tp, vI sz_, vI ap, vI bad, vI bk, vI opn, vI fp, vR m9, vR m10, vR m11, vR m12, vR m13, vR m14, vR m15, vI im, vI nr, vI nl, vR m19, vR m20, vR m21, vI sp_, vR m23, vR m24, vR m25, vR m26, vR m27, vR m28, vI wtc, vI wcl, vI ir, vI ip, vR m33, vI shu, vR m35, vI sfa, vI swr], zI m1 (cy 0) 4 (u.2.2 0), zI m10 (cy 0) 68 f10, zI m12 (cy 0) 389 (u.2.2 1)]) 0 0 := by
  refine Met.ofW (cc := cX12_does) (maxL := 2) (ret := (some .int)) (by decide) rfl ?_
  intro p e s m args below meth c s₁ B hml hv
  obtain ⟨rfl, hsz, hP, hG, hD0, hT⟩ := hv
  have hx := B.exec
  have hb := B.bytes
  have hr := B.returns
  have hts := atoms_spec (ws := vs_m_does) B.pre
  have hown : s.vm.findClass RX12 = some m.cls := findClass_of_methodNamed B.named
  have hlocks := B.notSynchronized
  subst hsz
  have hD := hD0.self (sz := s.heap.size)
  generalize hAe : va_A [zO mm 12 [vI th, vR m1, vI tp, vI sz_, vI ap, vI bad, vI bk, vI opn, vI fp, vR m9, vR m10, vR m11, vR m12, vR m13, vR m14, vR m15, vI im, vI nr, vI nl, vR m19, vR m20, vR m21, vI sp_, vR m23, vR m24, vR m25, vR m26, vR m27, vR m28, vI wtc, vI wcl, vI ir, vI ip, vR m33, vI shu, vR m35, vI sfa, vI swr], zI m1 (cy 0) 4 f1, zI m10 (cy 0) 68 f10, zI m12 (cy 0) 389 f12] s.heap.size = A at hD hT ⊢
  have hA : ∀ q : Nat, s.heap.size ≤ q → A q := fun q h => by rw [← hAe]; exact Or.inr h
  have hS : va_S A s.heap s.heap [] := va_S.rf
  have hl0 := lv_entry ([vR mm, vI n]) (n := 2) (Nat.le_of_ble_eq_true rfl)
  rw [lg_entry_eq]
  generalize (lg_sl ([vR mm, vI n]) ++ List.replicate (2 - (lg_sl ([vR mm, vI n])).length) Slot.unset).toArray = ls at hl0 ⊢
  have hlv : lv_has ls 2 [(0, vR mm), (1, vI n)] := hl0
  have lf1 := hts (.fieldLink RX12 1 "KerbSplashModel" "thrown" "I") (List.mem_of_getElem? (i := 1) rfl)
  have hi12 : ∀ w ∈ wsX120, w ∈ vs_m_does := fun w h => List.mem_cons_of_mem _ (List.mem_append_right _ (List.mem_append_left _ h))
  have gg_1 : GoodIn vs_m_does (wsV RX12 300 RX12 yX12_isWork vs_m_isWork) := goodIn_sub (fun w h => List.mem_cons_of_mem _ (List.mem_append_right _ (List.mem_append_right _ (List.mem_append_left _ h)))) (gd_V gd_m_isWork (by decide +kernel))
  have lf29 := hts (.fieldLink RX12 29 "KerbSplashModel" "s" "[I") (List.mem_of_getElem? (i := 2) rfl)
  have gg_2 : GoodIn vs_m_does (wsV RX12 303 RX12 yX12_works vs_m_works) := goodIn_sub (fun w h => List.mem_cons_of_mem _ (List.mem_append_right _ (List.mem_append_right _ (List.mem_append_right _ (List.mem_append_left _ h))))) (gd_V gd_m_works (by decide +kernel))
  refine lv_aload_n hx hb dX12_does_0 rfl (lv_at hlv 0 rfl) ?_
  refine lv_iconst (v := iI 0) hx hb dX12_does_1 (by decide) ?_
  refine va_put (D := D) (ci := 12) (v := vI 0) (ty := .int) (C := RX12) (T := TX12) (N := 38) hx hb hts hi12 tyX12 tyX12_ok nmX12 hown hG.1 hP hD hS 0 rfl rfl 0 (by decide) lf1 (fun _ h9 => h9) rfl (by decide +kernel) rfl rfl (Nat.le_of_ble_eq_true rfl) dX12_does_2 (fun H locs hP hD hS => ?_)
  obtain ⟨hP, hD⟩ := pw9 [zO mm 12 [vI 0, vR m1, vI tp, vI sz_, vI ap, vI bad, vI bk, vI opn, vI fp, vR m9, vR m10, vR m11, vR m12, vR m13, vR m14, vR m15, vI im, vI nr, vI nl, vR m19, vR m20, vR m21, vI sp_, vR m23, vR m24, vR m25, vR m26, vR m27, vR m28, vI wtc, vI wcl, vI ir, vI ip, vR m33, vI shu, vR m35, vI sfa, vI swr], zI m1 (cy 0) 4 f1, zI m10 (cy 0) 68 f10, zI m12 (cy 0) 389 f12] hP hD
  refine lv_aload_n hx hb dX12_does_5 rfl (lv_at hlv 0 rfl) ?_
  refine lv_iload_n hx hb dX12_does_6 rfl (lv_at hlv 1 rfl) ?_
  refine cjr_i [false, false, false, true] (fun pre9 => (va_runV (As := [vI n]) (rest := []) ⟨hx, hb, hml, hown, hts⟩ (m_isWork l hl D cy sa mm m1 m9 m10 m11 m12 m13 m14 m15 m19 m20 m21 m23 m24 m25 m26 m27 m28 m33 m35 0 tp sz_ ap bad bk opn fp im nr nl sp_ wtc wcl ir ip shu sfa swr f1 f10 n H.size (by show ((-2147483648) : Int) ≤ 0 ∧ (0 : Int) ≤ 2147483647; decide) (by first | exact hr_tp | omega) (by first | exact hr_sz_ | omega) (by first | exact hr_ap | omega) (by first | exact hr_bad | omega) (by first | exact hr_bk | omega) (by first | exact hr_opn | omega) (by first | exact hr_fp | omega) (by first | exact hr_im | omega) (by first | exact hr_nr | omega) (by first | exact hr_nl | omega) (by first | exact hr_sp_ | omega) (by first | exact hr_wtc | omega) (by first | exact hr_wcl | omega) (by first | exact hr_ir | omega) (by first | exact hr_ip | omega) (by first | exact hr_shu | omega) (by first | exact hr_sfa | omega) (by first | exact hr_swr | omega) (by first | exact hr_n | omega) hf10) (cwV 1 hts gg_1 rfl rfl rfl (by decide +kernel) ⟨Nat.le_of_ble_eq_true rfl, Nat.le_of_ble_eq_true rfl⟩) ⟨pcW.blind, (va_recv hG.1 hP (ci := 12) (q0 := 0) rfl rfl), pre9⟩ rfl rfl hlv.1 rfl (lv_room (Nat.le_of_ble_eq_true rfl)) dX12_does_7 ⟨Nat.le_of_ble_eq_true rfl, Nat.le_of_ble_eq_true rfl⟩)) hP hD hS hA hG hT [0, 1, 2] rfl (by decide +kernel) (fun r1 u1 H locs hw1 hq9 hS => ?_)
  obtain ⟨rfl, hq1_1, hq1_2, hq1_3, hq1_4⟩ := hw1
  obtain ⟨hP, hD⟩ := pd9 [zI m12 (cy 0) 389 f12, zO mm 12 [vI (u1.2.1 1), vR m1, vI tp, vI sz_, vI ap, vI bad, vI bk, vI opn, vI fp, vR m9, vR m10, vR m11, vR m12, vR m13, vR m14, vR m15, vI im, vI nr, vI nl, vR m19, vR m20, vR m21, vI sp_, vR m23, vR m24, vR m25, vR m26, vR m27, vR m28, vI wtc, vI wcl, vI ir, vI ip, vR m33, vI shu, vR m35, vI sfa, vI swr], zI m1 (cy 0) 4 (u1.2.2 0), zI m10 (cy 0) 68 f10] hq9
  refine iz_eq (tgt := 27) hx hb dX12_does_10 (by decide) (by first | exact rgw hq1_2 (by decide) (by decide) | omega) (fun c_1 => ?_) (fun c_1 => ?_)
  · refine lv_iconst (v := iI 0) hx hb dX12_does_27 (by decide) ?_
    refine W.widen (k := 0) (n := 0) (Nat.le_of_ble_eq_true rfl) (Nat.le_of_ble_eq_true rfl) ?_
    exact W.iret (v := iI 0) hx hb hr (fun t ht hW => ⟨⟨iI 0, ((fun k => ([] : List Nat).getD k 0), (fun k => ([0, (u1.2.1 1)] : List Int).getD k 0), (fun k => ([(u1.2.2 0), f12] : List (Nat → Int32)).getD k (fun _ => 0))), rfl, ⟨rfl, (by show ((-2147483648) ≤ (u1.2.1 1) ∧ (u1.2.1 1) ≤ 2147483647); first | exact hq1_1 | omega), (by show ((-2147483648) ≤ 0 ∧ 0 ≤ 2147483647); show ((-2147483648) : Int) ≤ 0 ∧ (0 : Int) ≤ 2147483647; decide), hq1_4, hf12⟩, at9 ht hP hD [1, 2, 3, 0] (by decide +kernel) rfl⟩, hS.F ht⟩) hS.2.2 dX12_does_28
  · refine lv_aload_n hx hb dX12_does_13 rfl (lv_at hlv 0 rfl) ?_
    refine va_get (D := D) (ci := 12) (v := vR m12) (C := RX12) (T := TX12) (N := 38) hx hb hts hi12 hown hG.1 hP 1 rfl rfl 12 (by decide) lf29 (fun _ h9 => h9) rfl dX12_does_14 ?_
    refine lv_sipush (v := iI 198) hx hb dX12_does_17 (by decide) ?_
    refine lv_iload_n hx hb dX12_does_20 rfl (lv_at hlv 1 rfl) ?_
    refine lv_iadd hx hb dX12_does_21 ?_
    refine lt_e (e0 := 198 + n) (Int32.ofInt_add _ _).symm (fun z_2 hz_2 => ?_)
    refine va_iald hx hb hG.1 hP 0 0 rfl rfl (iI_in (by omega) (by decide)) dX12_does_22 ?_
    refine lt_nz (i := z_2) (by omega) (fun z_3 hz_3 lz_3 uz_3 => ?_)
    refine lv_iconst (v := iI 1) hx hb dX12_does_23 (by decide) ?_
    refine ir_ne (tgt := 29) hx hb dX12_does_24 (by decide) (by omega) (by show ((-2147483648) : Int) ≤ 1 ∧ (1 : Int) ≤ 2147483647; decide) (fun c_4 => ?_) (fun c_4 => ?_)
    · refine lv_aload_n hx hb dX12_does_29 rfl (lv_at hlv 0 rfl) ?_
      refine lv_iload_n hx hb dX12_does_30 rfl (lv_at hlv 1 rfl) ?_
      refine cjr_v [false, false, true, false] (fun pre9 => (va_runV (As := [vI n]) (rest := []) ⟨hx, hb, hml, hown, hts⟩ (m_works l hl D cy sa mm m1 m9 m10 m11 m12 m13 m14 m15 m19 m20 m21 m23 m24 m25 m26 m27 m28 m33 m35 (u1.2.1 1) tp sz_ ap bad bk opn fp im nr nl sp_ wtc wcl ir ip shu sfa swr f10 f12 n qs H.size (by first | exact hq1_1 | omega) (by first | exact hr_tp | omega) (by first | exact hr_sz_ | omega) (by first | exact hr_ap | omega) (by first | exact hr_bad | omega) (by first | exact hr_bk | omega) (by first | exact hr_opn | omega) (by first | exact hr_fp | omega) (by first | exact hr_im | omega) (by first | exact hr_nr | omega) (by first | exact hr_nl | omega) (by first | exact hr_sp_ | omega) (by first | exact hr_wtc | omega) (by first | exact hr_wcl | omega) (by first | exact hr_ir | omega) (by first | exact hr_ip | omega) (by first | exact hr_shu | omega) (by first | exact hr_sfa | omega) (by first | exact hr_swr | omega) (by omega) (by rw [show 198 + n.toNat = z_2.toNat by omega]; omega) hq1_4 hf12) (cwV 1 hts gg_2 rfl rfl rfl (by decide +kernel) ⟨Nat.le_of_ble_eq_true rfl, Nat.le_of_ble_eq_true rfl⟩) ⟨pcW.blind, (va_recv hG.1 hP (ci := 12) (q0 := 1) rfl rfl), pre9⟩ rfl rfl hlv.1 rfl (lv_room (Nat.le_of_ble_eq_true rfl)) dX12_does_31 ⟨Nat.le_of_ble_eq_true rfl, Nat.le_of_ble_eq_true rfl⟩)) hP hD hS hA hG hT [1, 3, 0] rfl (by decide +kernel) (fun u2 H locs hw2 hq9 hS => ?_)
      obtain ⟨hq2_0, hq2_1, hq2_2, hq2_3⟩ := hw2
      obtain ⟨hP, hD⟩ := pd9 [zI m1 (cy 0) 4 (u1.2.2 0), zO mm 12 [vI (u1.2.1 1), vR m1, vI tp, vI sz_, vI ap, vI bad, vI bk, vI opn, vI fp, vR m9, vR m10, vR m11, vR m12, vR m13, vR m14, vR m15, vI im, vI nr, vI nl, vR m19, vR m20, vR m21, vI sp_, vR m23, vR m24, vR m25, vR m26, vR m27, vR m28, vI wtc, vI wcl, vI ir, vI ip, vR m33, vI shu, vR m35, vI sfa, vI swr], zI m10 (cy 0) 68 f10, zI m12 (cy 0) 389 (u2.2.2 0)] hq9
      refine lv_iconst (v := iI 1) hx hb dX12_does_34 (by decide) ?_
      refine W.widen (k := 0) (n := 0) (Nat.le_of_ble_eq_true rfl) (Nat.le_of_ble_eq_true rfl) ?_
      exact W.iret (v := iI 1) hx hb hr (fun t ht hW => ⟨⟨iI 1, ((fun k => ([] : List Nat).getD k 0), (fun k => ([1, (u1.2.1 1)] : List Int).getD k 0), (fun k => ([(u1.2.2 0), (u2.2.2 0)] : List (Nat → Int32)).getD k (fun _ => 0))), rfl, ⟨rfl, (by show ((-2147483648) ≤ (u1.2.1 1) ∧ (u1.2.1 1) ≤ 2147483647); first | exact hq1_1 | omega), (by show ((-2147483648) ≤ 1 ∧ 1 ≤ 2147483647); show ((-2147483648) : Int) ≤ 1 ∧ (1 : Int) ≤ 2147483647; decide), hq2_2, hq2_3⟩, at9 ht hP hD [1, 0, 2, 3] (by decide +kernel) rfl⟩, hS.F ht⟩) hS.2.2 dX12_does_35
    · refine lv_iconst (v := iI 0) hx hb dX12_does_27 (by decide) ?_
      refine W.widen (k := 0) (n := 0) (Nat.le_of_ble_eq_true rfl) (Nat.le_of_ble_eq_true rfl) ?_
      exact W.iret (v := iI 0) hx hb hr (fun t ht hW => ⟨⟨iI 0, ((fun k => ([] : List Nat).getD k 0), (fun k => ([0, (u1.2.1 1)] : List Int).getD k 0), (fun k => ([(u1.2.2 0), f12] : List (Nat → Int32)).getD k (fun _ => 0))), rfl, ⟨rfl, (by show ((-2147483648) ≤ (u1.2.1 1) ∧ (u1.2.1 1) ≤ 2147483647); first | exact hq1_1 | omega), (by show ((-2147483648) ≤ 0 ∧ 0 ≤ 2147483647); show ((-2147483648) : Int) ≤ 0 ∧ (0 : Int) ≤ 2147483647; decide), hq1_4, hf12⟩, at9 ht hP hD [1, 2, 3, 0] (by decide +kernel) rfl⟩, hS.F ht⟩) hS.2.2 dX12_does_28
