theorem dX11_cell_0 : decode cX11_cell 0 = .ok (.aload_n 0, 1) := by decide +kernel
theorem dX11_cell_1 : decode cX11_cell 1 = .ok (.iload_n 1, 1) := by decide +kernel
theorem dX11_cell_10 : decode cX11_cell 10 = .ok (.invokestatic 130, 3) := by decide +kernel
theorem dX11_cell_13 : decode cX11_cell 13 = .ok (.invokevirtual 134, 3) := by decide +kernel
theorem dX11_cell_16 : decode cX11_cell 16 = .ok (.aload_n 0, 1) := by decide +kernel
theorem dX11_cell_17 : decode cX11_cell 17 = .ok (.getfield 31, 3) := by decide +kernel
theorem dX11_cell_2 : decode cX11_cell 2 = .ok (.iload_n 2, 1) := by decide +kernel
theorem dX11_cell_20 : decode cX11_cell 20 = .ok (.iload_n 1, 1) := by decide +kernel
theorem dX11_cell_21 : decode cX11_cell 21 = .ok (.iload_n 2, 1) := by decide +kernel
theorem dX11_cell_22 : decode cX11_cell 22 = .ok (.invokevirtual 163, 3) := by decide +kernel
theorem dX11_cell_25 : decode cX11_cell 25 = .ok (.istore 4, 2) := by decide +kernel
theorem dX11_cell_27 : decode cX11_cell 27 = .ok (.iload_n 3, 1) := by decide +kernel
theorem dX11_cell_28 : decode cX11_cell 28 = .ok (.ifCond .ne 14, 3) := by decide +kernel
theorem dX11_cell_3 : decode cX11_cell 3 = .ok (.invokevirtual 159, 3) := by decide +kernel
theorem dX11_cell_31 : decode cX11_cell 31 = .ok (.aload_n 0, 1) := by decide +kernel
theorem dX11_cell_32 : decode cX11_cell 32 = .ok (.getfield 31, 3) := by decide +kernel
theorem dX11_cell_35 : decode cX11_cell 35 = .ok (.getfield 167, 3) := by decide +kernel
theorem dX11_cell_38 : decode cX11_cell 38 = .ok (.iload 4, 2) := by decide +kernel
theorem dX11_cell_40 : decode cX11_cell 40 = .ok (.iaload, 1) := by decide +kernel
theorem dX11_cell_41 : decode cX11_cell 41 = .ok (.ireturn, 1) := by decide +kernel
theorem dX11_cell_42 : decode cX11_cell 42 = .ok (.iload_n 3, 1) := by decide +kernel
theorem dX11_cell_43 : decode cX11_cell 43 = .ok (.iconst 1, 1) := by decide +kernel
theorem dX11_cell_44 : decode cX11_cell 44 = .ok (.if_icmp .ne 16, 3) := by decide +kernel
theorem dX11_cell_47 : decode cX11_cell 47 = .ok (.aload_n 0, 1) := by decide +kernel
theorem dX11_cell_48 : decode cX11_cell 48 = .ok (.getfield 31, 3) := by decide +kernel
theorem dX11_cell_51 : decode cX11_cell 51 = .ok (.getfield 170, 3) := by decide +kernel
theorem dX11_cell_54 : decode cX11_cell 54 = .ok (.iload 4, 2) := by decide +kernel
theorem dX11_cell_56 : decode cX11_cell 56 = .ok (.iaload, 1) := by decide +kernel
theorem dX11_cell_57 : decode cX11_cell 57 = .ok (.goto 12, 3) := by decide +kernel
theorem dX11_cell_6 : decode cX11_cell 6 = .ok (.aload_n 0, 1) := by decide +kernel
theorem dX11_cell_60 : decode cX11_cell 60 = .ok (.aload_n 0, 1) := by decide +kernel
theorem dX11_cell_61 : decode cX11_cell 61 = .ok (.getfield 31, 3) := by decide +kernel
theorem dX11_cell_64 : decode cX11_cell 64 = .ok (.iload 4, 2) := by decide +kernel
theorem dX11_cell_66 : decode cX11_cell 66 = .ok (.invokevirtual 173, 3) := by decide +kernel
theorem dX11_cell_69 : decode cX11_cell 69 = .ok (.ireturn, 1) := by decide +kernel
theorem dX11_cell_7 : decode cX11_cell 7 = .ok (.iload_n 3, 1) := by decide +kernel
theorem dX11_cell_8 : decode cX11_cell 8 = .ok (.iconst 0, 1) := by decide +kernel
theorem dX11_cell_9 : decode cX11_cell 9 = .ok (.iconst 2, 1) := by decide +kernel
theorem dX11_does_0 : decode cX11_does 0 = .ok (.aload_n 0, 1) := by decide +kernel
theorem dX11_does_1 : decode cX11_does 1 = .ok (.iload_n 1, 1) := by decide +kernel
theorem dX11_does_10 : decode cX11_does 10 = .ok (.iconst 1, 1) := by decide +kernel
theorem dX11_does_11 : decode cX11_does 11 = .ok (.isub, 1) := by decide +kernel
theorem dX11_does_12 : decode cX11_does 12 = .ok (.invokestatic 130, 3) := by decide +kernel
theorem dX11_does_15 : decode cX11_does 15 = .ok (.invokevirtual 177, 3) := by decide +kernel
theorem dX11_does_18 : decode cX11_does 18 = .ok (.aload_n 0, 1) := by decide +kernel
theorem dX11_does_19 : decode cX11_does 19 = .ok (.getfield 31, 3) := by decide +kernel
theorem dX11_does_2 : decode cX11_does 2 = .ok (.iconst 0, 1) := by decide +kernel
theorem dX11_does_22 : decode cX11_does 22 = .ok (.iload_n 1, 1) := by decide +kernel
theorem dX11_does_23 : decode cX11_does 23 = .ok (.invokevirtual 192, 3) := by decide +kernel
theorem dX11_does_26 : decode cX11_does 26 = .ok (.ifCond .eq 7, 3) := by decide +kernel
theorem dX11_does_29 : decode cX11_does 29 = .ok (.iconst 1, 1) := by decide +kernel
theorem dX11_does_3 : decode cX11_does 3 = .ok (.aload_n 0, 1) := by decide +kernel
theorem dX11_does_30 : decode cX11_does 30 = .ok (.goto 4, 3) := by decide +kernel
theorem dX11_does_33 : decode cX11_does 33 = .ok (.iconst 0, 1) := by decide +kernel
theorem dX11_does_34 : decode cX11_does 34 = .ok (.ireturn, 1) := by decide +kernel
theorem dX11_does_4 : decode cX11_does 4 = .ok (.getfield 31, 3) := by decide +kernel
theorem dX11_does_7 : decode cX11_does 7 = .ok (.getfield 153, 3) := by decide +kernel
theorem dX11_drain_0 : decode cX11_drain 0 = .ok (.aload_n 0, 1) := by decide +kernel
theorem dX11_drain_1 : decode cX11_drain 1 = .ok (.iload_n 1, 1) := by decide +kernel
theorem dX11_drain_10 : decode cX11_drain 10 = .ok (.iconst 1, 1) := by decide +kernel
theorem dX11_drain_11 : decode cX11_drain 11 = .ok (.isub, 1) := by decide +kernel
theorem dX11_drain_12 : decode cX11_drain 12 = .ok (.invokestatic 130, 3) := by decide +kernel
theorem dX11_drain_15 : decode cX11_drain 15 = .ok (.invokevirtual 177, 3) := by decide +kernel
theorem dX11_drain_18 : decode cX11_drain 18 = .ok (.aload_n 0, 1) := by decide +kernel
theorem dX11_drain_19 : decode cX11_drain 19 = .ok (.iload_n 2, 1) := by decide +kernel
theorem dX11_drain_2 : decode cX11_drain 2 = .ok (.iconst 0, 1) := by decide +kernel
theorem dX11_drain_20 : decode cX11_drain 20 = .ok (.iconst 0, 1) := by decide +kernel
theorem dX11_drain_21 : decode cX11_drain 21 = .ok (.iconst 3, 1) := by decide +kernel
theorem dX11_drain_22 : decode cX11_drain 22 = .ok (.invokestatic 130, 3) := by decide +kernel
theorem dX11_drain_25 : decode cX11_drain 25 = .ok (.invokevirtual 134, 3) := by decide +kernel
theorem dX11_drain_28 : decode cX11_drain 28 = .ok (.aload_n 0, 1) := by decide +kernel
theorem dX11_drain_29 : decode cX11_drain 29 = .ok (.getfield 31, 3) := by decide +kernel
theorem dX11_drain_3 : decode cX11_drain 3 = .ok (.aload_n 0, 1) := by decide +kernel
theorem dX11_drain_32 : decode cX11_drain 32 = .ok (.getfield 180, 3) := by decide +kernel
theorem dX11_drain_35 : decode cX11_drain 35 = .ok (.iconst 4, 1) := by decide +kernel
theorem dX11_drain_36 : decode cX11_drain 36 = .ok (.iload_n 1, 1) := by decide +kernel
theorem dX11_drain_37 : decode cX11_drain 37 = .ok (.imul, 1) := by decide +kernel
theorem dX11_drain_38 : decode cX11_drain 38 = .ok (.iload_n 2, 1) := by decide +kernel
theorem dX11_drain_39 : decode cX11_drain 39 = .ok (.iadd, 1) := by decide +kernel
theorem dX11_drain_4 : decode cX11_drain 4 = .ok (.getfield 31, 3) := by decide +kernel
theorem dX11_drain_40 : decode cX11_drain 40 = .ok (.iaload, 1) := by decide +kernel
theorem dX11_drain_41 : decode cX11_drain 41 = .ok (.ireturn, 1) := by decide +kernel
theorem dX11_drain_7 : decode cX11_drain 7 = .ok (.getfield 144, 3) := by decide +kernel
theorem dX11_leaves_0 : decode cX11_leaves 0 = .ok (.aload_n 0, 1) := by decide +kernel
theorem dX11_leaves_1 : decode cX11_leaves 1 = .ok (.iload_n 1, 1) := by decide +kernel
theorem dX11_leaves_10 : decode cX11_leaves 10 = .ok (.iconst 1, 1) := by decide +kernel
theorem dX11_leaves_11 : decode cX11_leaves 11 = .ok (.isub, 1) := by decide +kernel
theorem dX11_leaves_12 : decode cX11_leaves 12 = .ok (.invokestatic 130, 3) := by decide +kernel
theorem dX11_leaves_15 : decode cX11_leaves 15 = .ok (.invokevirtual 177, 3) := by decide +kernel
theorem dX11_leaves_18 : decode cX11_leaves 18 = .ok (.aload_n 0, 1) := by decide +kernel
theorem dX11_leaves_19 : decode cX11_leaves 19 = .ok (.iload_n 2, 1) := by decide +kernel
theorem dX11_leaves_2 : decode cX11_leaves 2 = .ok (.iconst 0, 1) := by decide +kernel
theorem dX11_leaves_20 : decode cX11_leaves 20 = .ok (.iconst 0, 1) := by decide +kernel
theorem dX11_leaves_21 : decode cX11_leaves 21 = .ok (.bipush 16, 2) := by decide +kernel
theorem dX11_leaves_23 : decode cX11_leaves 23 = .ok (.invokestatic 130, 3) := by decide +kernel
theorem dX11_leaves_26 : decode cX11_leaves 26 = .ok (.ifCond .eq 18, 3) := by decide +kernel
theorem dX11_leaves_29 : decode cX11_leaves 29 = .ok (.iload_n 1, 1) := by decide +kernel
theorem dX11_leaves_3 : decode cX11_leaves 3 = .ok (.aload_n 0, 1) := by decide +kernel
theorem dX11_leaves_30 : decode cX11_leaves 30 = .ok (.aload_n 0, 1) := by decide +kernel
theorem dX11_leaves_31 : decode cX11_leaves 31 = .ok (.getfield 31, 3) := by decide +kernel
theorem dX11_leaves_34 : decode cX11_leaves 34 = .ok (.getfield 183, 3) := by decide +kernel
theorem dX11_leaves_37 : decode cX11_leaves 37 = .ok (.if_icmp .ge 7, 3) := by decide +kernel
theorem dX11_leaves_4 : decode cX11_leaves 4 = .ok (.getfield 31, 3) := by decide +kernel
theorem dX11_leaves_40 : decode cX11_leaves 40 = .ok (.iconst 1, 1) := by decide +kernel
theorem dX11_leaves_41 : decode cX11_leaves 41 = .ok (.goto 4, 3) := by decide +kernel
theorem dX11_leaves_44 : decode cX11_leaves 44 = .ok (.iconst 0, 1) := by decide +kernel
theorem dX11_leaves_45 : decode cX11_leaves 45 = .ok (.invokevirtual 134, 3) := by decide +kernel
theorem dX11_leaves_48 : decode cX11_leaves 48 = .ok (.iconst 4, 1) := by decide +kernel
theorem dX11_leaves_49 : decode cX11_leaves 49 = .ok (.iload_n 1, 1) := by decide +kernel
theorem dX11_leaves_50 : decode cX11_leaves 50 = .ok (.imul, 1) := by decide +kernel
theorem dX11_leaves_51 : decode cX11_leaves 51 = .ok (.iconst 3, 1) := by decide +kernel
theorem dX11_leaves_52 : decode cX11_leaves 52 = .ok (.iadd, 1) := by decide +kernel
theorem dX11_leaves_53 : decode cX11_leaves 53 = .ok (.istore_n 3, 1) := by decide +kernel
theorem dX11_leaves_54 : decode cX11_leaves 54 = .ok (.aload_n 0, 1) := by decide +kernel
theorem dX11_leaves_55 : decode cX11_leaves 55 = .ok (.getfield 31, 3) := by decide +kernel
theorem dX11_leaves_58 : decode cX11_leaves 58 = .ok (.getfield 180, 3) := by decide +kernel
theorem dX11_leaves_61 : decode cX11_leaves 61 = .ok (.iload_n 3, 1) := by decide +kernel
theorem dX11_leaves_62 : decode cX11_leaves 62 = .ok (.iaload, 1) := by decide +kernel
theorem dX11_leaves_63 : decode cX11_leaves 63 = .ok (.istore 4, 2) := by decide +kernel
theorem dX11_leaves_65 : decode cX11_leaves 65 = .ok (.aload_n 0, 1) := by decide +kernel
theorem dX11_leaves_66 : decode cX11_leaves 66 = .ok (.getfield 31, 3) := by decide +kernel
theorem dX11_leaves_69 : decode cX11_leaves 69 = .ok (.getfield 180, 3) := by decide +kernel
theorem dX11_leaves_7 : decode cX11_leaves 7 = .ok (.getfield 144, 3) := by decide +kernel
theorem dX11_leaves_72 : decode cX11_leaves 72 = .ok (.iload_n 3, 1) := by decide +kernel
theorem dX11_leaves_73 : decode cX11_leaves 73 = .ok (.iload_n 2, 1) := by decide +kernel
theorem dX11_leaves_74 : decode cX11_leaves 74 = .ok (.iastore, 1) := by decide +kernel
theorem dX11_leaves_75 : decode cX11_leaves 75 = .ok (.iload 4, 2) := by decide +kernel
theorem dX11_leaves_77 : decode cX11_leaves 77 = .ok (.ireturn, 1) := by decide +kernel
theorem dX11_person_0 : decode cX11_person 0 = .ok (.aload_n 0, 1) := by decide +kernel
theorem dX11_person_1 : decode cX11_person 1 = .ok (.iload_n 1, 1) := by decide +kernel
theorem dX11_person_10 : decode cX11_person 10 = .ok (.iconst 1, 1) := by decide +kernel
theorem dX11_person_11 : decode cX11_person 11 = .ok (.isub, 1) := by decide +kernel
theorem dX11_person_12 : decode cX11_person 12 = .ok (.invokestatic 130, 3) := by decide +kernel
theorem dX11_person_15 : decode cX11_person 15 = .ok (.invokevirtual 177, 3) := by decide +kernel
theorem dX11_person_18 : decode cX11_person 18 = .ok (.aload_n 0, 1) := by decide +kernel
theorem dX11_person_19 : decode cX11_person 19 = .ok (.iload_n 2, 1) := by decide +kernel
theorem dX11_person_2 : decode cX11_person 2 = .ok (.iconst 0, 1) := by decide +kernel
theorem dX11_person_20 : decode cX11_person 20 = .ok (.iconst 0, 1) := by decide +kernel
theorem dX11_person_21 : decode cX11_person 21 = .ok (.iconst 3, 1) := by decide +kernel
theorem dX11_person_22 : decode cX11_person 22 = .ok (.invokestatic 130, 3) := by decide +kernel
theorem dX11_person_25 : decode cX11_person 25 = .ok (.invokevirtual 134, 3) := by decide +kernel
theorem dX11_person_28 : decode cX11_person 28 = .ok (.aload_n 0, 1) := by decide +kernel
theorem dX11_person_29 : decode cX11_person 29 = .ok (.getfield 31, 3) := by decide +kernel
theorem dX11_person_3 : decode cX11_person 3 = .ok (.aload_n 0, 1) := by decide +kernel
theorem dX11_person_32 : decode cX11_person 32 = .ok (.getfield 186, 3) := by decide +kernel
theorem dX11_person_35 : decode cX11_person 35 = .ok (.iconst 4, 1) := by decide +kernel
theorem dX11_person_36 : decode cX11_person 36 = .ok (.iload_n 1, 1) := by decide +kernel
theorem dX11_person_37 : decode cX11_person 37 = .ok (.imul, 1) := by decide +kernel
theorem dX11_person_38 : decode cX11_person 38 = .ok (.iload_n 2, 1) := by decide +kernel
theorem dX11_person_39 : decode cX11_person 39 = .ok (.iadd, 1) := by decide +kernel
theorem dX11_person_4 : decode cX11_person 4 = .ok (.getfield 31, 3) := by decide +kernel
theorem dX11_person_40 : decode cX11_person 40 = .ok (.iaload, 1) := by decide +kernel
theorem dX11_person_41 : decode cX11_person 41 = .ok (.ireturn, 1) := by decide +kernel
theorem dX11_person_7 : decode cX11_person 7 = .ok (.getfield 147, 3) := by decide +kernel
theorem dX11_sums_0 : decode cX11_sums 0 = .ok (.aload_n 0, 1) := by decide +kernel
theorem dX11_sums_1 : decode cX11_sums 1 = .ok (.iload_n 1, 1) := by decide +kernel
theorem dX11_sums_10 : decode cX11_sums 10 = .ok (.iload_n 1, 1) := by decide +kernel
theorem dX11_sums_11 : decode cX11_sums 11 = .ok (.tableswitch 49 0 2 #[25, 33, 41], 25) := by decide +kernel
theorem dX11_sums_2 : decode cX11_sums 2 = .ok (.iconst 0, 1) := by decide +kernel
theorem dX11_sums_3 : decode cX11_sums 3 = .ok (.iconst 3, 1) := by decide +kernel
theorem dX11_sums_36 : decode cX11_sums 36 = .ok (.aload_n 0, 1) := by decide +kernel
theorem dX11_sums_37 : decode cX11_sums 37 = .ok (.getfield 31, 3) := by decide +kernel
theorem dX11_sums_4 : decode cX11_sums 4 = .ok (.invokestatic 130, 3) := by decide +kernel
theorem dX11_sums_40 : decode cX11_sums 40 = .ok (.getfield 215, 3) := by decide +kernel
theorem dX11_sums_43 : decode cX11_sums 43 = .ok (.ireturn, 1) := by decide +kernel
theorem dX11_sums_44 : decode cX11_sums 44 = .ok (.aload_n 0, 1) := by decide +kernel
theorem dX11_sums_45 : decode cX11_sums 45 = .ok (.getfield 31, 3) := by decide +kernel
theorem dX11_sums_48 : decode cX11_sums 48 = .ok (.getfield 218, 3) := by decide +kernel
theorem dX11_sums_51 : decode cX11_sums 51 = .ok (.ireturn, 1) := by decide +kernel
theorem dX11_sums_52 : decode cX11_sums 52 = .ok (.aload_n 0, 1) := by decide +kernel
theorem dX11_sums_53 : decode cX11_sums 53 = .ok (.getfield 31, 3) := by decide +kernel
theorem dX11_sums_56 : decode cX11_sums 56 = .ok (.getfield 221, 3) := by decide +kernel
theorem dX11_sums_59 : decode cX11_sums 59 = .ok (.ireturn, 1) := by decide +kernel
theorem dX11_sums_60 : decode cX11_sums 60 = .ok (.aload_n 0, 1) := by decide +kernel
theorem dX11_sums_61 : decode cX11_sums 61 = .ok (.getfield 31, 3) := by decide +kernel
theorem dX11_sums_64 : decode cX11_sums 64 = .ok (.invokevirtual 224, 3) := by decide +kernel
theorem dX11_sums_67 : decode cX11_sums 67 = .ok (.ireturn, 1) := by decide +kernel
theorem dX11_sums_7 : decode cX11_sums 7 = .ok (.invokevirtual 134, 3) := by decide +kernel
theorem dX11_told_0 : decode cX11_told 0 = .ok (.aload_n 0, 1) := by decide +kernel
theorem dX11_told_1 : decode cX11_told 1 = .ok (.iload_n 1, 1) := by decide +kernel
theorem dX11_told_100 : decode cX11_told 100 = .ok (.aload_n 0, 1) := by decide +kernel
theorem dX11_told_101 : decode cX11_told 101 = .ok (.getfield 31, 3) := by decide +kernel
theorem dX11_told_104 : decode cX11_told 104 = .ok (.getfield 153, 3) := by decide +kernel
theorem dX11_told_107 : decode cX11_told 107 = .ok (.ireturn, 1) := by decide +kernel
theorem dX11_told_108 : decode cX11_told 108 = .ok (.aload_n 0, 1) := by decide +kernel
theorem dX11_told_109 : decode cX11_told 109 = .ok (.getfield 112, 3) := by decide +kernel
theorem dX11_told_11 : decode cX11_told 11 = .ok (.iload_n 1, 1) := by decide +kernel
theorem dX11_told_112 : decode cX11_told 112 = .ok (.ireturn, 1) := by decide +kernel
theorem dX11_told_113 : decode cX11_told 113 = .ok (.aload_n 0, 1) := by decide +kernel
theorem dX11_told_114 : decode cX11_told 114 = .ok (.getfield 118, 3) := by decide +kernel
theorem dX11_told_117 : decode cX11_told 117 = .ok (.ireturn, 1) := by decide +kernel
theorem dX11_told_118 : decode cX11_told 118 = .ok (.aload_n 0, 1) := by decide +kernel
theorem dX11_told_119 : decode cX11_told 119 = .ok (.getfield 31, 3) := by decide +kernel
theorem dX11_told_12 : decode cX11_told 12 = .ok (.tableswitch 106 0 7 #[48, 56, 64, 72, 80, 88, 96, 101], 48) := by decide +kernel
theorem dX11_told_122 : decode cX11_told 122 = .ok (.getfield 156, 3) := by decide +kernel
theorem dX11_told_125 : decode cX11_told 125 = .ok (.ireturn, 1) := by decide +kernel
theorem dX11_told_2 : decode cX11_told 2 = .ok (.iconst 0, 1) := by decide +kernel
theorem dX11_told_3 : decode cX11_told 3 = .ok (.bipush 8, 2) := by decide +kernel
theorem dX11_told_5 : decode cX11_told 5 = .ok (.invokestatic 130, 3) := by decide +kernel
theorem dX11_told_60 : decode cX11_told 60 = .ok (.aload_n 0, 1) := by decide +kernel
theorem dX11_told_61 : decode cX11_told 61 = .ok (.getfield 31, 3) := by decide +kernel
theorem dX11_told_64 : decode cX11_told 64 = .ok (.getfield 138, 3) := by decide +kernel
theorem dX11_told_67 : decode cX11_told 67 = .ok (.ireturn, 1) := by decide +kernel
theorem dX11_told_68 : decode cX11_told 68 = .ok (.aload_n 0, 1) := by decide +kernel
theorem dX11_told_69 : decode cX11_told 69 = .ok (.getfield 31, 3) := by decide +kernel
theorem dX11_told_72 : decode cX11_told 72 = .ok (.getfield 141, 3) := by decide +kernel
theorem dX11_told_75 : decode cX11_told 75 = .ok (.ireturn, 1) := by decide +kernel
theorem dX11_told_76 : decode cX11_told 76 = .ok (.aload_n 0, 1) := by decide +kernel
theorem dX11_told_77 : decode cX11_told 77 = .ok (.getfield 31, 3) := by decide +kernel
theorem dX11_told_8 : decode cX11_told 8 = .ok (.invokevirtual 134, 3) := by decide +kernel
theorem dX11_told_80 : decode cX11_told 80 = .ok (.getfield 144, 3) := by decide +kernel
theorem dX11_told_83 : decode cX11_told 83 = .ok (.ireturn, 1) := by decide +kernel
theorem dX11_told_84 : decode cX11_told 84 = .ok (.aload_n 0, 1) := by decide +kernel
theorem dX11_told_85 : decode cX11_told 85 = .ok (.getfield 31, 3) := by decide +kernel
theorem dX11_told_88 : decode cX11_told 88 = .ok (.getfield 147, 3) := by decide +kernel
theorem dX11_told_91 : decode cX11_told 91 = .ok (.ireturn, 1) := by decide +kernel
theorem dX11_told_92 : decode cX11_told 92 = .ok (.aload_n 0, 1) := by decide +kernel
theorem dX11_told_93 : decode cX11_told 93 = .ok (.getfield 31, 3) := by decide +kernel
theorem dX11_told_96 : decode cX11_told 96 = .ok (.getfield 150, 3) := by decide +kernel
theorem dX11_told_99 : decode cX11_told 99 = .ok (.ireturn, 1) := by decide +kernel
theorem dX11_work_0 : decode cX11_work 0 = .ok (.aload_n 0, 1) := by decide +kernel
theorem dX11_work_1 : decode cX11_work 1 = .ok (.iload_n 1, 1) := by decide +kernel
theorem dX11_work_10 : decode cX11_work 10 = .ok (.iconst 1, 1) := by decide +kernel
theorem dX11_work_11 : decode cX11_work 11 = .ok (.isub, 1) := by decide +kernel
theorem dX11_work_12 : decode cX11_work 12 = .ok (.invokestatic 130, 3) := by decide +kernel
theorem dX11_work_15 : decode cX11_work 15 = .ok (.invokevirtual 177, 3) := by decide +kernel
theorem dX11_work_18 : decode cX11_work 18 = .ok (.aload_n 0, 1) := by decide +kernel
theorem dX11_work_19 : decode cX11_work 19 = .ok (.iload_n 2, 1) := by decide +kernel
theorem dX11_work_2 : decode cX11_work 2 = .ok (.iconst 0, 1) := by decide +kernel
theorem dX11_work_20 : decode cX11_work 20 = .ok (.iconst 0, 1) := by decide +kernel
theorem dX11_work_21 : decode cX11_work 21 = .ok (.iconst 1, 1) := by decide +kernel
theorem dX11_work_22 : decode cX11_work 22 = .ok (.invokestatic 130, 3) := by decide +kernel
theorem dX11_work_25 : decode cX11_work 25 = .ok (.invokevirtual 134, 3) := by decide +kernel
theorem dX11_work_28 : decode cX11_work 28 = .ok (.aload_n 0, 1) := by decide +kernel
theorem dX11_work_29 : decode cX11_work 29 = .ok (.getfield 31, 3) := by decide +kernel
theorem dX11_work_3 : decode cX11_work 3 = .ok (.aload_n 0, 1) := by decide +kernel
theorem dX11_work_32 : decode cX11_work 32 = .ok (.getfield 189, 3) := by decide +kernel
theorem dX11_work_35 : decode cX11_work 35 = .ok (.iconst 5, 1) := by decide +kernel
theorem dX11_work_36 : decode cX11_work 36 = .ok (.iload_n 1, 1) := by decide +kernel
theorem dX11_work_37 : decode cX11_work 37 = .ok (.imul, 1) := by decide +kernel
theorem dX11_work_38 : decode cX11_work 38 = .ok (.iload_n 2, 1) := by decide +kernel
theorem dX11_work_39 : decode cX11_work 39 = .ok (.iadd, 1) := by decide +kernel
theorem dX11_work_4 : decode cX11_work 4 = .ok (.getfield 31, 3) := by decide +kernel
theorem dX11_work_40 : decode cX11_work 40 = .ok (.iaload, 1) := by decide +kernel
theorem dX11_work_41 : decode cX11_work 41 = .ok (.ireturn, 1) := by decide +kernel
theorem dX11_work_7 : decode cX11_work 7 = .ok (.getfield 153, 3) := by decide +kernel
def vs_k_told : List Cond := .code yX11_told cX11_told 2 (some .int) :: (([.fieldLink RX11 31 "KerbSplash" "now" "LKerbSplash$Street;", .fieldLink RX11 112 "KerbSplash" "rainsTold" "I", .fieldLink RX11 118 "KerbSplash" "lawsTold" "I"] : List Cond) ++ ((va_wsS RX11 130 yX11_isWithin vs_s_within) ++ ((wsV RX11 134 RX11 yX11_needArgument vs_k_needArgument) ++ ((wsX110) ++ ((wsX60) ++ ([]))))))
theorem gd_k_told : vs_k_told.all goodWord = true := gd_C (by decide +kernel) (gd_A (by decide +kernel) (gd_A (gd_S gd_s_within (by decide +kernel)) (gd_A (gd_V gd_k_needArgument (by decide +kernel)) (gd_A (by decide +kernel) (gd_A (by decide +kernel) rfl)))))
set_option maxHeartbeats 4000000 in
set_option maxRecDepth 100000 in
theorem k_told (l : Launch) (hl : l.stackTraces = false) (D : va_G) (cy : Nat → ClassId) (sa : Nat → Nat) (kk ta kr kl sA dA pa ki kp wa or_ rq : Nat) (nr nw im : Int) (qf : Nat → Int32) (s2 s3 s6 s8 s11 s13 : Nat) (wi ro dr dt pe gu sh wo dn mi fl tk go : Int) (n : Int) (sz : Nat) (hr_nr : 0 ≤ nr ∧ nr ≤ 4) (hr_nw : 0 ≤ nw ∧ nw ≤ 4) (hr_im : 0 ≤ im ∧ im ≤ 3) (hr_wi : 0 ≤ wi ∧ wi ≤ 16) (hr_ro : 0 ≤ ro ∧ ro ≤ 6) (hr_dr : 0 ≤ dr ∧ dr ≤ 14) (hr_dt : 0 ≤ dt ∧ dt ≤ 6) (hr_pe : 0 ≤ pe ∧ pe ≤ 8) (hr_gu : 0 ≤ gu ∧ gu ≤ 20) (hr_sh : 0 ≤ sh ∧ sh ≤ 2) (hr_wo : 0 ≤ wo ∧ wo ≤ 8) (hr_dn : (-2147483648) ≤ dn ∧ dn ≤ 2147483647) (hr_mi : 0 ≤ mi ∧ mi ≤ 600) (hr_fl : (-2147483648) ≤ fl ∧ fl ≤ 2147483647) (hr_tk : (-2147483648) ≤ tk ∧ tk ≤ 2147483647) (hr_go : (-2147483648) ≤ go ∧ go ≤ 2147483647) (hr_n : (-2147483648) ≤ n ∧ n ≤ 2147483647) : xI9 l yX11_told vs_k_told ({ frames := 7, cells := 1, slots := 6, locals := 121 }) D cy sa sz [vR kk, vI n] [zO kk 11 [vR ta, vR kr, vR kl, vI nr, vI nw, vR sA, vR dA, vR pa, vR ki, vR kp, vI im, vR wa, vR or_, vR rq], zI rq (cy 0) 4 qf, zO sA 6 [vI wi, vI ro, vR s2, vR s3, vI dr, vI dt, vR s6, vI pe, vR s8, vI gu, vI sh, vR s11, vI wo, vR s13, vI dn, vI mi, vI fl, vI tk, vI go]] (fun (r : Int32) (u : SV) => r = iI (u.2.1 0) ∧ ((-2147483648) ≤ u.2.1 0 ∧ u.2.1 0 ≤ 2147483647)) (fun u : SV => [zO kk 11 [vR ta, vR kr, vR kl, vI nr, vI nw, vR sA, vR dA, vR pa, vR ki, vR kp, vI im, vR wa, vR or_, vR rq], zI rq (cy 0) 4 qf, zO sA 6 [vI wi, vI ro, vR s2, vR s3, vI dr, vI dt, vR s6, vI pe, vR s8, vI gu, vI sh, vR s11, vI wo, vR s13, vI dn, vI mi, vI fl, vI tk, vI go]]) (fun (E : String) (u : SV) => (E = "java/lang/IllegalArgumentException")) (fun u : SV => [zO kk 11 [vR ta, vR kr, vR kl, vI nr, vI nw, vR sA, vR dA, vR pa, vR ki, vR kp, vI im, vR wa, vR or_, vR rq], zI rq (cy 0) 4 (u.2.2 0), zO sA 6 [vI wi, vI ro, vR s2, vR s3, vI dr, vI dt, vR s6, vI pe, vR s8, vI gu, vI sh, vR s11, vI wo, vR s13, vI dn, vI mi, vI fl, vI tk, vI go]]) 1 6 := by
  refine vx_ofW (cc := cX11_told) (maxL := 2) (ret := (some .int)) (by decide) rfl ?_
  intro p e s m args below meth c s₁ B hml hex hv
  obtain ⟨rfl, hsz, hP, hG, hD0, hT⟩ := hv
  have hx := B.exec
  have hb := B.bytes
  have hr := B.returns
  have hts := atoms_spec (ws := vs_k_told) B.pre
  have hown : s.vm.findClass RX11 = some m.cls := findClass_of_methodNamed B.named
  have hlocks := B.notSynchronized
  subst hsz
  have hD := hD0.self (sz := s.heap.size)
  generalize hAe : va_A [zO kk 11 [vR ta, vR kr, vR kl, vI nr, vI nw, vR sA, vR dA, vR pa, vR ki, vR kp, vI im, vR wa, vR or_, vR rq], zI rq (cy 0) 4 qf, zO sA 6 [vI wi, vI ro, vR s2, vR s3, vI dr, vI dt, vR s6, vI pe, vR s8, vI gu, vI sh, vR s11, vI wo, vR s13, vI dn, vI mi, vI fl, vI tk, vI go]] s.heap.size = A at hD hT ⊢
  have hA : ∀ q : Nat, s.heap.size ≤ q → A q := fun q h => by rw [← hAe]; exact Or.inr h
  have hS : va_S A s.heap s.heap [] := va_S.rf
  have hl0 := lv_entry ([vR kk, vI n]) (n := 2) (Nat.le_of_ble_eq_true rfl)
  rw [lg_entry_eq]
  generalize (lg_sl ([vR kk, vI n]) ++ List.replicate (2 - (lg_sl ([vR kk, vI n])).length) Slot.unset).toArray = ls at hl0 ⊢
  have hlv : lv_has ls 2 [(0, vR kk), (1, vI n)] := hl0
  have gg_0 : GoodIn vs_k_told (va_wsS RX11 130 yX11_isWithin vs_s_within) := goodIn_sub (fun w h => List.mem_cons_of_mem _ (List.mem_append_right _ (List.mem_append_left _ h))) (gd_S gd_s_within (by decide +kernel))
  have gg_1 : GoodIn vs_k_told (wsV RX11 134 RX11 yX11_needArgument vs_k_needArgument) := goodIn_sub (fun w h => List.mem_cons_of_mem _ (List.mem_append_right _ (List.mem_append_right _ (List.mem_append_left _ h)))) (gd_V gd_k_needArgument (by decide +kernel))
  have lf31 := hts (.fieldLink RX11 31 "KerbSplash" "now" "LKerbSplash$Street;") (List.mem_of_getElem? (i := 1) rfl)
  have hi11 : ∀ w ∈ wsX110, w ∈ vs_k_told := fun w h => List.mem_cons_of_mem _ (List.mem_append_right _ (List.mem_append_right _ (List.mem_append_right _ (List.mem_append_left _ h))))
  have hi6 : ∀ w ∈ wsX60, w ∈ vs_k_told := fun w h => List.mem_cons_of_mem _ (List.mem_append_right _ (List.mem_append_right _ (List.mem_append_right _ (List.mem_append_right _ (List.mem_append_left _ h)))))
  have lf112 := hts (.fieldLink RX11 112 "KerbSplash" "rainsTold" "I") (List.mem_of_getElem? (i := 2) rfl)
  have lf118 := hts (.fieldLink RX11 118 "KerbSplash" "lawsTold" "I") (List.mem_of_getElem? (i := 3) rfl)
  refine lv_aload_n hx hb dX11_told_0 rfl (lv_at hlv 0 rfl) ?_
  refine lv_iload_n hx hb dX11_told_1 rfl (lv_at hlv 1 rfl) ?_
  refine lv_iconst (v := iI 0) hx hb dX11_told_2 (by decide) ?_
  refine lv_bipush (v := iI 8) hx hb dX11_told_3 (by decide) ?_
  refine cjr_i [true, true, true] (fun pre9 => (va_runS (As := [vI n, vI 0, vI 8]) (rest := [vR kk]) ⟨hx, hb, hml, hown, hts⟩ (s_within l hl D cy sa n 0 8 s.heap.size (by first | exact hr_n | omega) (by show ((-2147483648) : Int) ≤ 0 ∧ (0 : Int) ≤ 2147483647; decide) (by show ((-2147483648) : Int) ≤ 8 ∧ (8 : Int) ≤ 2147483647; decide)) (va_cwS 3 hts gg_0 rfl rfl rfl (by decide +kernel) ⟨Nat.le_of_ble_eq_true rfl, Nat.le_of_ble_eq_true rfl⟩) ⟨pcW.blind, pre9⟩ rfl rfl hlv.1 rfl (lv_room (Nat.le_of_ble_eq_true rfl)) dX11_told_5 ⟨Nat.le_of_ble_eq_true rfl, Nat.le_of_ble_eq_true rfl⟩)) hP hD hS hA hG hT [] rfl (by decide +kernel) (fun r1 u1 H locs hw1 hq9 hS => ?_)
  obtain ⟨rfl, hq1_1, hq1_2, hq1_3⟩ := hw1
  obtain ⟨hP, hD⟩ := pd9 [zO kk 11 [vR ta, vR kr, vR kl, vI nr, vI nw, vR sA, vR dA, vR pa, vR ki, vR kp, vI im, vR wa, vR or_, vR rq], zI rq (cy 0) 4 qf, zO sA 6 [vI wi, vI ro, vR s2, vR s3, vI dr, vI dt, vR s6, vI pe, vR s8, vI gu, vI sh, vR s11, vI wo, vR s13, vI dn, vI mi, vI fl, vI tk, vI go]] hq9
  refine cjrx_v [false, false, true] (fun pre9 => (vx_runV (As := [vI (u1.2.1 0)]) (rest := []) ⟨hx, hb, hml, hown, hts⟩ (k_needArgument l hl D cy sa kk ta kr kl sA dA pa ki kp wa or_ rq nr nw im qf (u1.2.1 0) H.size (by first | exact hr_nr | omega) (by first | exact hr_nw | omega) (by first | exact hr_im | omega) (by first | exact hq1_1 | omega)) (cwV 1 hts gg_1 rfl rfl rfl (by decide +kernel) ⟨Nat.le_of_ble_eq_true rfl, Nat.le_of_ble_eq_true rfl⟩) ⟨pcW.blind, (va_recv hG.1 hP (ci := 11) (q0 := 0) rfl rfl), pre9⟩ rfl rfl hlv.1 rfl (lv_room (Nat.le_of_ble_eq_true rfl)) dX11_told_8 ⟨Nat.le_of_ble_eq_true rfl, Nat.le_of_ble_eq_true rfl⟩)) hP hD hS hA hG hT [0, 1] rfl (by decide +kernel) (fun E ux2 ce q9 H locs hp hq9 hS h1 h2 h3 => ?_) (fun u2 H locs hw2 hq9 hS => ?_)
  · obtain ⟨hP, hD⟩ := hq9
    obtain ⟨hp, hxg2⟩ := hp
    obtain rfl := hp
    exact vx_out (fun x h => (hex x h).elim) hlocks h1 h2 h3 (fun t ht hvm => ⟨((fun k => ([] : List Nat).getD k 0), (fun k => ([] : List Int).getD k 0), (fun k => ([(ux2.2.2 0)] : List (Nat → Int32)).getD k (fun _ => 0))), trivial, ⟨rfl, at9 ht hP hD [1, 2, 0] (by decide +kernel) rfl⟩, hS.F ht⟩) hS.2.2 (Nat.le_of_ble_eq_true rfl) (Nat.le_of_ble_eq_true rfl)
  have hq2_0 : ((u1.2.1 0) = 1) := hw2
  obtain ⟨hP, hD⟩ := pd9 [zO sA 6 [vI wi, vI ro, vR s2, vR s3, vI dr, vI dt, vR s6, vI pe, vR s8, vI gu, vI sh, vR s11, vI wo, vR s13, vI dn, vI mi, vI fl, vI tk, vI go], zO kk 11 [vR ta, vR kr, vR kl, vI nr, vI nw, vR sA, vR dA, vR pa, vR ki, vR kp, vI im, vR wa, vR or_, vR rq], zI rq (cy 0) 4 qf] hq9
  refine lv_iload_n hx hb dX11_told_11 rfl (lv_at hlv 1 rfl) ?_
  by_cases k_1 : n = 0
  · refine lt_i (y := iI 0) (by rw [k_1]) ?_
    refine lv_tableIn (tgt := 60) hx hb dX11_told_12 (by decide) (by decide) rfl (by decide) ?_
    refine lv_aload_n hx hb dX11_told_60 rfl (lv_at hlv 0 rfl) ?_
    refine va_get (D := D) (ci := 11) (v := vR sA) (C := RX11) (T := TX11) (N := 14) hx hb hts hi11 hown hG.1 hP 1 rfl rfl 5 (by decide) lf31 (fun _ h9 => h9) rfl dX11_told_61 ?_
    refine va_getN (D := D) (ci := 6) (v := vI wi) (C := RX6) (T := TX6) (N := 19) hx hb hts hi6 hown hG.1 hP 0 rfl rfl 0 (by decide) (va_Nw.use rfl (nF_K_138 hG.2.1)) (fun _ h9 => h9) rfl dX11_told_64 ?_
    refine W.widen (k := 1) (n := 6) (Nat.le_of_ble_eq_true rfl) (Nat.le_of_ble_eq_true rfl) ?_
    refine vx_ret ?_
    exact W.iret (v := iI wi) hx hb hr (fun t ht hW => ⟨⟨iI wi, ((fun k => ([] : List Nat).getD k 0), (fun k => ([wi] : List Int).getD k 0), (fun k => ([] : List (Nat → Int32)).getD k (fun _ => 0))), rfl, ⟨rfl, (by show ((-2147483648) ≤ wi ∧ wi ≤ 2147483647); first | exact rgw hr_wi (by decide) (by decide) | omega)⟩, at9 ht hP hD [1, 2, 0] (by decide +kernel) rfl⟩, hS.F ht⟩) hS.2.2 dX11_told_67
  by_cases k_2 : n = 1
  · refine lt_i (y := iI 1) (by rw [k_2]) ?_
    refine lv_tableIn (tgt := 68) hx hb dX11_told_12 (by decide) (by decide) rfl (by decide) ?_
    refine lv_aload_n hx hb dX11_told_68 rfl (lv_at hlv 0 rfl) ?_
    refine va_get (D := D) (ci := 11) (v := vR sA) (C := RX11) (T := TX11) (N := 14) hx hb hts hi11 hown hG.1 hP 1 rfl rfl 5 (by decide) lf31 (fun _ h9 => h9) rfl dX11_told_69 ?_
    refine va_getN (D := D) (ci := 6) (v := vI ro) (C := RX6) (T := TX6) (N := 19) hx hb hts hi6 hown hG.1 hP 0 rfl rfl 1 (by decide) (va_Nw.use rfl (nF_K_141 hG.2.1)) (fun _ h9 => h9) rfl dX11_told_72 ?_
    refine W.widen (k := 1) (n := 6) (Nat.le_of_ble_eq_true rfl) (Nat.le_of_ble_eq_true rfl) ?_
    refine vx_ret ?_
    exact W.iret (v := iI ro) hx hb hr (fun t ht hW => ⟨⟨iI ro, ((fun k => ([] : List Nat).getD k 0), (fun k => ([ro] : List Int).getD k 0), (fun k => ([] : List (Nat → Int32)).getD k (fun _ => 0))), rfl, ⟨rfl, (by show ((-2147483648) ≤ ro ∧ ro ≤ 2147483647); first | exact rgw hr_ro (by decide) (by decide) | omega)⟩, at9 ht hP hD [1, 2, 0] (by decide +kernel) rfl⟩, hS.F ht⟩) hS.2.2 dX11_told_75
  by_cases k_3 : n = 2
  · refine lt_i (y := iI 2) (by rw [k_3]) ?_
    refine lv_tableIn (tgt := 76) hx hb dX11_told_12 (by decide) (by decide) rfl (by decide) ?_
    refine lv_aload_n hx hb dX11_told_76 rfl (lv_at hlv 0 rfl) ?_
    refine va_get (D := D) (ci := 11) (v := vR sA) (C := RX11) (T := TX11) (N := 14) hx hb hts hi11 hown hG.1 hP 1 rfl rfl 5 (by decide) lf31 (fun _ h9 => h9) rfl dX11_told_77 ?_
    refine va_getN (D := D) (ci := 6) (v := vI dr) (C := RX6) (T := TX6) (N := 19) hx hb hts hi6 hown hG.1 hP 0 rfl rfl 4 (by decide) (va_Nw.use rfl (nF_K_144 hG.2.1)) (fun _ h9 => h9) rfl dX11_told_80 ?_
    refine W.widen (k := 1) (n := 6) (Nat.le_of_ble_eq_true rfl) (Nat.le_of_ble_eq_true rfl) ?_
    refine vx_ret ?_
    exact W.iret (v := iI dr) hx hb hr (fun t ht hW => ⟨⟨iI dr, ((fun k => ([] : List Nat).getD k 0), (fun k => ([dr] : List Int).getD k 0), (fun k => ([] : List (Nat → Int32)).getD k (fun _ => 0))), rfl, ⟨rfl, (by show ((-2147483648) ≤ dr ∧ dr ≤ 2147483647); first | exact rgw hr_dr (by decide) (by decide) | omega)⟩, at9 ht hP hD [1, 2, 0] (by decide +kernel) rfl⟩, hS.F ht⟩) hS.2.2 dX11_told_83
  by_cases k_4 : n = 3
  · refine lt_i (y := iI 3) (by rw [k_4]) ?_
    refine lv_tableIn (tgt := 84) hx hb dX11_told_12 (by decide) (by decide) rfl (by decide) ?_
    refine lv_aload_n hx hb dX11_told_84 rfl (lv_at hlv 0 rfl) ?_
    refine va_get (D := D) (ci := 11) (v := vR sA) (C := RX11) (T := TX11) (N := 14) hx hb hts hi11 hown hG.1 hP 1 rfl rfl 5 (by decide) lf31 (fun _ h9 => h9) rfl dX11_told_85 ?_
    refine va_getN (D := D) (ci := 6) (v := vI pe) (C := RX6) (T := TX6) (N := 19) hx hb hts hi6 hown hG.1 hP 0 rfl rfl 7 (by decide) (va_Nw.use rfl (nF_K_147 hG.2.1)) (fun _ h9 => h9) rfl dX11_told_88 ?_
    refine W.widen (k := 1) (n := 6) (Nat.le_of_ble_eq_true rfl) (Nat.le_of_ble_eq_true rfl) ?_
    refine vx_ret ?_
    exact W.iret (v := iI pe) hx hb hr (fun t ht hW => ⟨⟨iI pe, ((fun k => ([] : List Nat).getD k 0), (fun k => ([pe] : List Int).getD k 0), (fun k => ([] : List (Nat → Int32)).getD k (fun _ => 0))), rfl, ⟨rfl, (by show ((-2147483648) ≤ pe ∧ pe ≤ 2147483647); first | exact rgw hr_pe (by decide) (by decide) | omega)⟩, at9 ht hP hD [1, 2, 0] (by decide +kernel) rfl⟩, hS.F ht⟩) hS.2.2 dX11_told_91
  by_cases k_5 : n = 4
  · refine lt_i (y := iI 4) (by rw [k_5]) ?_
    refine lv_tableIn (tgt := 92) hx hb dX11_told_12 (by decide) (by decide) rfl (by decide) ?_
    refine lv_aload_n hx hb dX11_told_92 rfl (lv_at hlv 0 rfl) ?_
    refine va_get (D := D) (ci := 11) (v := vR sA) (C := RX11) (T := TX11) (N := 14) hx hb hts hi11 hown hG.1 hP 1 rfl rfl 5 (by decide) lf31 (fun _ h9 => h9) rfl dX11_told_93 ?_
    refine va_getN (D := D) (ci := 6) (v := vI sh) (C := RX6) (T := TX6) (N := 19) hx hb hts hi6 hown hG.1 hP 0 rfl rfl 10 (by decide) (va_Nw.use rfl (nF_K_150 hG.2.1)) (fun _ h9 => h9) rfl dX11_told_96 ?_
    refine W.widen (k := 1) (n := 6) (Nat.le_of_ble_eq_true rfl) (Nat.le_of_ble_eq_true rfl) ?_
    refine vx_ret ?_
    exact W.iret (v := iI sh) hx hb hr (fun t ht hW => ⟨⟨iI sh, ((fun k => ([] : List Nat).getD k 0), (fun k => ([sh] : List Int).getD k 0), (fun k => ([] : List (Nat → Int32)).getD k (fun _ => 0))), rfl, ⟨rfl, (by show ((-2147483648) ≤ sh ∧ sh ≤ 2147483647); first | exact rgw hr_sh (by decide) (by decide) | omega)⟩, at9 ht hP hD [1, 2, 0] (by decide +kernel) rfl⟩, hS.F ht⟩) hS.2.2 dX11_told_99
  by_cases k_6 : n = 5
  · refine lt_i (y := iI 5) (by rw [k_6]) ?_
    refine lv_tableIn (tgt := 100) hx hb dX11_told_12 (by decide) (by decide) rfl (by decide) ?_
    refine lv_aload_n hx hb dX11_told_100 rfl (lv_at hlv 0 rfl) ?_
    refine va_get (D := D) (ci := 11) (v := vR sA) (C := RX11) (T := TX11) (N := 14) hx hb hts hi11 hown hG.1 hP 1 rfl rfl 5 (by decide) lf31 (fun _ h9 => h9) rfl dX11_told_101 ?_
    refine va_getN (D := D) (ci := 6) (v := vI wo) (C := RX6) (T := TX6) (N := 19) hx hb hts hi6 hown hG.1 hP 0 rfl rfl 12 (by decide) (va_Nw.use rfl (nF_K_153 hG.2.1)) (fun _ h9 => h9) rfl dX11_told_104 ?_
    refine W.widen (k := 1) (n := 6) (Nat.le_of_ble_eq_true rfl) (Nat.le_of_ble_eq_true rfl) ?_
    refine vx_ret ?_
    exact W.iret (v := iI wo) hx hb hr (fun t ht hW => ⟨⟨iI wo, ((fun k => ([] : List Nat).getD k 0), (fun k => ([wo] : List Int).getD k 0), (fun k => ([] : List (Nat → Int32)).getD k (fun _ => 0))), rfl, ⟨rfl, (by show ((-2147483648) ≤ wo ∧ wo ≤ 2147483647); first | exact rgw hr_wo (by decide) (by decide) | omega)⟩, at9 ht hP hD [1, 2, 0] (by decide +kernel) rfl⟩, hS.F ht⟩) hS.2.2 dX11_told_107
  by_cases k_7 : n = 6
  · refine lt_i (y := iI 6) (by rw [k_7]) ?_
    refine lv_tableIn (tgt := 108) hx hb dX11_told_12 (by decide) (by decide) rfl (by decide) ?_
    refine lv_aload_n hx hb dX11_told_108 rfl (lv_at hlv 0 rfl) ?_
    refine va_get (D := D) (ci := 11) (v := vI nr) (C := RX11) (T := TX11) (N := 14) hx hb hts hi11 hown hG.1 hP 1 rfl rfl 3 (by decide) lf112 (fun _ h9 => h9) rfl dX11_told_109 ?_
    refine W.widen (k := 1) (n := 6) (Nat.le_of_ble_eq_true rfl) (Nat.le_of_ble_eq_true rfl) ?_
    refine vx_ret ?_
    exact W.iret (v := iI nr) hx hb hr (fun t ht hW => ⟨⟨iI nr, ((fun k => ([] : List Nat).getD k 0), (fun k => ([nr] : List Int).getD k 0), (fun k => ([] : List (Nat → Int32)).getD k (fun _ => 0))), rfl, ⟨rfl, (by show ((-2147483648) ≤ nr ∧ nr ≤ 2147483647); first | exact rgw hr_nr (by decide) (by decide) | omega)⟩, at9 ht hP hD [1, 2, 0] (by decide +kernel) rfl⟩, hS.F ht⟩) hS.2.2 dX11_told_112
  by_cases k_8 : n = 7
  · refine lt_i (y := iI 7) (by rw [k_8]) ?_
    refine lv_tableIn (tgt := 113) hx hb dX11_told_12 (by decide) (by decide) rfl (by decide) ?_
    refine lv_aload_n hx hb dX11_told_113 rfl (lv_at hlv 0 rfl) ?_
    refine va_get (D := D) (ci := 11) (v := vI nw) (C := RX11) (T := TX11) (N := 14) hx hb hts hi11 hown hG.1 hP 1 rfl rfl 4 (by decide) lf118 (fun _ h9 => h9) rfl dX11_told_114 ?_
    refine W.widen (k := 1) (n := 6) (Nat.le_of_ble_eq_true rfl) (Nat.le_of_ble_eq_true rfl) ?_
    refine vx_ret ?_
    exact W.iret (v := iI nw) hx hb hr (fun t ht hW => ⟨⟨iI nw, ((fun k => ([] : List Nat).getD k 0), (fun k => ([nw] : List Int).getD k 0), (fun k => ([] : List (Nat → Int32)).getD k (fun _ => 0))), rfl, ⟨rfl, (by show ((-2147483648) ≤ nw ∧ nw ≤ 2147483647); first | exact rgw hr_nw (by decide) (by decide) | omega)⟩, at9 ht hP hD [1, 2, 0] (by decide +kernel) rfl⟩, hS.F ht⟩) hS.2.2 dX11_told_117
  refine lv_tableOut (tgt := 118) hx hb dX11_told_12 (by rw [iI_to (by omega) (by omega)]; omega) (by decide) ?_
  refine lv_aload_n hx hb dX11_told_118 rfl (lv_at hlv 0 rfl) ?_
  refine va_get (D := D) (ci := 11) (v := vR sA) (C := RX11) (T := TX11) (N := 14) hx hb hts hi11 hown hG.1 hP 1 rfl rfl 5 (by decide) lf31 (fun _ h9 => h9) rfl dX11_told_119 ?_
  refine va_getN (D := D) (ci := 6) (v := vI mi) (C := RX6) (T := TX6) (N := 19) hx hb hts hi6 hown hG.1 hP 0 rfl rfl 15 (by decide) (va_Nw.use rfl (nF_K_156 hG.2.1)) (fun _ h9 => h9) rfl dX11_told_122 ?_
  refine W.widen (k := 1) (n := 6) (Nat.le_of_ble_eq_true rfl) (Nat.le_of_ble_eq_true rfl) ?_
  refine vx_ret ?_
  exact W.iret (v := iI mi) hx hb hr (fun t ht hW => ⟨⟨iI mi, ((fun k => ([] : List Nat).getD k 0), (fun k => ([mi] : List Int).getD k 0), (fun k => ([] : List (Nat → Int32)).getD k (fun _ => 0))), rfl, ⟨rfl, (by show ((-2147483648) ≤ mi ∧ mi ≤ 2147483647); first | exact rgw hr_mi (by decide) (by decide) | omega)⟩, at9 ht hP hD [1, 2, 0] (by decide +kernel) rfl⟩, hS.F ht⟩) hS.2.2 dX11_told_125
def vs_k_cell : List Cond := .code yX11_cell cX11_cell 5 (some .int) :: (([.fieldLink RX11 31 "KerbSplash" "now" "LKerbSplash$Street;", .initialized RX6, .instanceMethod yX6_index, .selects RX6 yX6_index yX6_index, .instanceMethod yX6_surface, .selects RX6 yX6_surface yX6_surface] : List Cond) ++ ((wsV RX11 159 RX11 yX11_needCell vs_k_needCell) ++ ((va_wsS RX11 130 yX11_isWithin vs_s_within) ++ ((wsV RX11 134 RX11 yX11_needArgument vs_k_needArgument) ++ ((wsX110) ++ ((vs_s_index) ++ ((vs_s_surface) ++ ((wsX60) ++ ([])))))))))
theorem gd_k_cell : vs_k_cell.all goodWord = true := gd_C (by decide +kernel) (gd_A (by decide +kernel) (gd_A (gd_V gd_k_needCell (by decide +kernel)) (gd_A (gd_S gd_s_within (by decide +kernel)) (gd_A (gd_V gd_k_needArgument (by decide +kernel)) (gd_A (by decide +kernel) (gd_A gd_s_index (gd_A gd_s_surface (gd_A (by decide +kernel) rfl))))))))
set_option maxHeartbeats 4000000 in
set_option maxRecDepth 100000 in
theorem k_cell (l : Launch) (hl : l.stackTraces = false) (D : va_G) (cy : Nat → ClassId) (sa : Nat → Nat) (kk ta kr kl sA dA pa ki kp wa or_ rq : Nat) (nr nw im : Int) (qf : Nat → Int32) (s2 s3 s6 s8 s11 s13 : Nat) (wi ro dr dt pe gu sh wo dn mi fl tk go : Int) (hf wf : Nat → Int32) (x y n : Int) (sz : Nat) (hr_nr : 0 ≤ nr ∧ nr ≤ 4) (hr_nw : 0 ≤ nw ∧ nw ≤ 4) (hr_im : 0 ≤ im ∧ im ≤ 3) (hr_wi : 0 ≤ wi ∧ wi ≤ 16) (hr_ro : 0 ≤ ro ∧ ro ≤ 6) (hr_dr : 0 ≤ dr ∧ dr ≤ 14) (hr_dt : 0 ≤ dt ∧ dt ≤ 6) (hr_pe : 0 ≤ pe ∧ pe ≤ 8) (hr_gu : 0 ≤ gu ∧ gu ≤ 20) (hr_sh : 0 ≤ sh ∧ sh ≤ 2) (hr_wo : 0 ≤ wo ∧ wo ≤ 8) (hr_dn : (-2147483648) ≤ dn ∧ dn ≤ 2147483647) (hr_mi : 0 ≤ mi ∧ mi ≤ 600) (hr_fl : (-2147483648) ≤ fl ∧ fl ≤ 2147483647) (hr_tk : (-2147483648) ≤ tk ∧ tk ≤ 2147483647) (hr_go : (-2147483648) ≤ go ∧ go ≤ 2147483647) (hr_x : (-2147483648) ≤ x ∧ x ≤ 2147483647) (hr_y : (-2147483648) ≤ y ∧ y ≤ 2147483647) (hr_n : (-2147483648) ≤ n ∧ n ≤ 2147483647) (hhf : inv_ 96 0 99 hf) : xI9 l yX11_cell vs_k_cell ({ frames := 7, cells := 2, slots := 12, locals := 122 }) D cy sa sz [vR kk, vI x, vI y, vI n] [zO kk 11 [vR ta, vR kr, vR kl, vI nr, vI nw, vR sA, vR dA, vR pa, vR ki, vR kp, vI im, vR wa, vR or_, vR rq], zI rq (cy 0) 4 qf, zO sA 6 [vI wi, vI ro, vR s2, vR s3, vI dr, vI dt, vR s6, vI pe, vR s8, vI gu, vI sh, vR s11, vI wo, vR s13, vI dn, vI mi, vI fl, vI tk, vI go], zI s2 (cy 0) 96 hf, zI s3 (cy 0) 96 wf] (fun (r : Int32) (u : SV) => r = iI (u.2.1 0) ∧ ((-2147483648) ≤ u.2.1 0 ∧ u.2.1 0 ≤ 2147483647) ∧ inv_ 96 0 99 hf) (fun u : SV => [zO kk 11 [vR ta, vR kr, vR kl, vI nr, vI nw, vR sA, vR dA, vR pa, vR ki, vR kp, vI im, vR wa, vR or_, vR rq], zI rq (cy 0) 4 qf, zO sA 6 [vI wi, vI ro, vR s2, vR s3, vI dr, vI dt, vR s6, vI pe, vR s8, vI gu, vI sh, vR s11, vI wo, vR s13, vI dn, vI mi, vI fl, vI tk, vI go], zI s2 (cy 0) 96 hf, zI s3 (cy 0) 96 wf]) (fun (E : String) (u : SV) => (E = "java/lang/IndexOutOfBoundsException" ∨ E = "java/lang/IllegalArgumentException")) (fun u : SV => [zO kk 11 [vR ta, vR kr, vR kl, vI nr, vI nw, vR sA, vR dA, vR pa, vR ki, vR kp, vI im, vR wa, vR or_, vR rq], zI rq (cy 0) 4 (u.2.2 0), zO sA 6 [vI wi, vI ro, vR s2, vR s3, vI dr, vI dt, vR s6, vI pe, vR s8, vI gu, vI sh, vR s11, vI wo, vR s13, vI dn, vI mi, vI fl, vI tk, vI go], zI s2 (cy 0) 96 hf, zI s3 (cy 0) 96 wf]) 2 12 := by
  refine vx_ofW (cc := cX11_cell) (maxL := 5) (ret := (some .int)) (by decide) rfl ?_
  intro p e s m args below meth c s₁ B hml hex hv
  obtain ⟨rfl, hsz, hP, hG, hD0, hT⟩ := hv
  have hx := B.exec
  have hb := B.bytes
  have hr := B.returns
  have hts := atoms_spec (ws := vs_k_cell) B.pre
  have hown : s.vm.findClass RX11 = some m.cls := findClass_of_methodNamed B.named
  have hlocks := B.notSynchronized
  subst hsz
  have hD := hD0.self (sz := s.heap.size)
  generalize hAe : va_A [zO kk 11 [vR ta, vR kr, vR kl, vI nr, vI nw, vR sA, vR dA, vR pa, vR ki, vR kp, vI im, vR wa, vR or_, vR rq], zI rq (cy 0) 4 qf, zO sA 6 [vI wi, vI ro, vR s2, vR s3, vI dr, vI dt, vR s6, vI pe, vR s8, vI gu, vI sh, vR s11, vI wo, vR s13, vI dn, vI mi, vI fl, vI tk, vI go], zI s2 (cy 0) 96 hf, zI s3 (cy 0) 96 wf] s.heap.size = A at hD hT ⊢
  have hA : ∀ q : Nat, s.heap.size ≤ q → A q := fun q h => by rw [← hAe]; exact Or.inr h
  have hS : va_S A s.heap s.heap [] := va_S.rf
  have hl0 := lv_entry ([vR kk, vI x, vI y, vI n]) (n := 5) (Nat.le_of_ble_eq_true rfl)
  rw [lg_entry_eq]
  generalize (lg_sl ([vR kk, vI x, vI y, vI n]) ++ List.replicate (5 - (lg_sl ([vR kk, vI x, vI y, vI n])).length) Slot.unset).toArray = ls at hl0 ⊢
  have hlv : lv_has ls 5 [(0, vR kk), (1, vI x), (2, vI y), (3, vI n)] := hl0
  have gg_0 : GoodIn vs_k_cell (wsV RX11 159 RX11 yX11_needCell vs_k_needCell) := goodIn_sub (fun w h => List.mem_cons_of_mem _ (List.mem_append_right _ (List.mem_append_left _ h))) (gd_V gd_k_needCell (by decide +kernel))
  have gg_1 : GoodIn vs_k_cell (va_wsS RX11 130 yX11_isWithin vs_s_within) := goodIn_sub (fun w h => List.mem_cons_of_mem _ (List.mem_append_right _ (List.mem_append_right _ (List.mem_append_left _ h)))) (gd_S gd_s_within (by decide +kernel))
  have gg_2 : GoodIn vs_k_cell (wsV RX11 134 RX11 yX11_needArgument vs_k_needArgument) := goodIn_sub (fun w h => List.mem_cons_of_mem _ (List.mem_append_right _ (List.mem_append_right _ (List.mem_append_right _ (List.mem_append_left _ h))))) (gd_V gd_k_needArgument (by decide +kernel))
  have lf31 := hts (.fieldLink RX11 31 "KerbSplash" "now" "LKerbSplash$Street;") (List.mem_of_getElem? (i := 1) rfl)
  have hi11 : ∀ w ∈ wsX110, w ∈ vs_k_cell := fun w h => List.mem_cons_of_mem _ (List.mem_append_right _ (List.mem_append_right _ (List.mem_append_right _ (List.mem_append_right _ (List.mem_append_left _ h)))))
  have gg_4 : GoodIn vs_k_cell (vs_s_index) := goodIn_sub (fun w h => List.mem_cons_of_mem _ (List.mem_append_right _ (List.mem_append_right _ (List.mem_append_right _ (List.mem_append_right _ (List.mem_append_right _ (List.mem_append_left _ h))))))) gd_s_index
  have ini_RX6 := hts (.initialized RX6) (List.mem_of_getElem? (i := 2) rfl)
  have im_X6_index := hts (.instanceMethod yX6_index) (List.mem_of_getElem? (i := 3) rfl)
  have se_X6_index := hts (.selects RX6 yX6_index yX6_index) (List.mem_of_getElem? (i := 4) rfl)
  have gg_5 : GoodIn vs_k_cell (vs_s_surface) := goodIn_sub (fun w h => List.mem_cons_of_mem _ (List.mem_append_right _ (List.mem_append_right _ (List.mem_append_right _ (List.mem_append_right _ (List.mem_append_right _ (List.mem_append_right _ (List.mem_append_left _ h)))))))) gd_s_surface
  have im_X6_surface := hts (.instanceMethod yX6_surface) (List.mem_of_getElem? (i := 5) rfl)
  have se_X6_surface := hts (.selects RX6 yX6_surface yX6_surface) (List.mem_of_getElem? (i := 6) rfl)
  have hi6 : ∀ w ∈ wsX60, w ∈ vs_k_cell := fun w h => List.mem_cons_of_mem _ (List.mem_append_right _ (List.mem_append_right _ (List.mem_append_right _ (List.mem_append_right _ (List.mem_append_right _ (List.mem_append_right _ (List.mem_append_right _ (List.mem_append_left _ h))))))))
  refine lv_aload_n hx hb dX11_cell_0 rfl (lv_at hlv 0 rfl) ?_
  refine lv_iload_n hx hb dX11_cell_1 rfl (lv_at hlv 1 rfl) ?_
  refine lv_iload_n hx hb dX11_cell_2 rfl (lv_at hlv 2 rfl) ?_
  refine cjrx_v [false, false, false, true, true] (fun pre9 => (vx_runV (As := [vI x, vI y]) (rest := []) ⟨hx, hb, hml, hown, hts⟩ (k_needCell l hl D cy sa kk ta kr kl sA dA pa ki kp wa or_ rq nr nw im s2 s3 s6 s8 s11 s13 wi ro dr dt pe gu sh wo dn mi fl tk go qf x y s.heap.size (by first | exact hr_nr | omega) (by first | exact hr_nw | omega) (by first | exact hr_im | omega) (by first | exact hr_wi | omega) (by first | exact hr_ro | omega) (by first | exact hr_dr | omega) (by first | exact hr_dt | omega) (by first | exact hr_pe | omega) (by first | exact hr_gu | omega) (by first | exact hr_sh | omega) (by first | exact hr_wo | omega) (by first | exact hr_dn | omega) (by first | exact hr_mi | omega) (by first | exact hr_fl | omega) (by first | exact hr_tk | omega) (by first | exact hr_go | omega) (by first | exact hr_x | omega) (by first | exact hr_y | omega)) (cwV 2 hts gg_0 rfl rfl rfl (by decide +kernel) ⟨Nat.le_of_ble_eq_true rfl, Nat.le_of_ble_eq_true rfl⟩) ⟨pcW.blind, (va_recv hG.1 hP (ci := 11) (q0 := 0) rfl rfl), pre9⟩ rfl rfl hlv.1 rfl (lv_room (Nat.le_of_ble_eq_true rfl)) dX11_cell_3 ⟨Nat.le_of_ble_eq_true rfl, Nat.le_of_ble_eq_true rfl⟩)) hP hD hS hA hG hT [0, 1, 2] rfl (by decide +kernel) (fun E ux1 ce q9 H locs hp hq9 hS h1 h2 h3 => ?_) (fun u1 H locs hw1 hq9 hS => ?_)
  · obtain ⟨hP, hD⟩ := hq9
    obtain rfl := hp
    exact vx_out (fun x h => (hex x h).elim) hlocks h1 h2 h3 (fun t ht hvm => ⟨((fun k => ([] : List Nat).getD k 0), (fun k => ([] : List Int).getD k 0), (fun k => ([(ux1.2.2 0)] : List (Nat → Int32)).getD k (fun _ => 0))), trivial, ⟨Or.inl rfl, at9 ht hP hD [2, 3, 4, 0, 1] (by decide +kernel) rfl⟩, hS.F ht⟩) hS.2.2 (Nat.le_of_ble_eq_true rfl) (Nat.le_of_ble_eq_true rfl)
  have hq1_0 : ((0 : Int) ≤ x ∧ x < wi ∧ 0 ≤ y ∧ y < ro) := hw1
  obtain ⟨hP, hD⟩ := pd9 [zI s2 (cy 0) 96 hf, zI s3 (cy 0) 96 wf, zO kk 11 [vR ta, vR kr, vR kl, vI nr, vI nw, vR sA, vR dA, vR pa, vR ki, vR kp, vI im, vR wa, vR or_, vR rq], zI rq (cy 0) 4 qf, zO sA 6 [vI wi, vI ro, vR s2, vR s3, vI dr, vI dt, vR s6, vI pe, vR s8, vI gu, vI sh, vR s11, vI wo, vR s13, vI dn, vI mi, vI fl, vI tk, vI go]] hq9
  refine lv_aload_n hx hb dX11_cell_6 rfl (lv_at hlv 0 rfl) ?_
  refine lv_iload_n hx hb dX11_cell_7 rfl (lv_at hlv 3 rfl) ?_
  refine lv_iconst (v := iI 0) hx hb dX11_cell_8 (by decide) ?_
  refine lv_iconst (v := iI 2) hx hb dX11_cell_9 (by decide) ?_
  refine cjr_i [true, true, true, true, true] (fun pre9 => (va_runS (As := [vI n, vI 0, vI 2]) (rest := [vR kk]) ⟨hx, hb, hml, hown, hts⟩ (s_within l hl D cy sa n 0 2 H.size (by first | exact hr_n | omega) (by show ((-2147483648) : Int) ≤ 0 ∧ (0 : Int) ≤ 2147483647; decide) (by show ((-2147483648) : Int) ≤ 2 ∧ (2 : Int) ≤ 2147483647; decide)) (va_cwS 3 hts gg_1 rfl rfl rfl (by decide +kernel) ⟨Nat.le_of_ble_eq_true rfl, Nat.le_of_ble_eq_true rfl⟩) ⟨pcW.blind, pre9⟩ rfl rfl hlv.1 rfl (lv_room (Nat.le_of_ble_eq_true rfl)) dX11_cell_10 ⟨Nat.le_of_ble_eq_true rfl, Nat.le_of_ble_eq_true rfl⟩)) hP hD hS hA hG hT [] rfl (by decide +kernel) (fun r2 u2 H locs hw2 hq9 hS => ?_)
  obtain ⟨rfl, hq2_1, hq2_2, hq2_3⟩ := hw2
  obtain ⟨hP, hD⟩ := pd9 [zI s2 (cy 0) 96 hf, zI s3 (cy 0) 96 wf, zO kk 11 [vR ta, vR kr, vR kl, vI nr, vI nw, vR sA, vR dA, vR pa, vR ki, vR kp, vI im, vR wa, vR or_, vR rq], zI rq (cy 0) 4 qf, zO sA 6 [vI wi, vI ro, vR s2, vR s3, vI dr, vI dt, vR s6, vI pe, vR s8, vI gu, vI sh, vR s11, vI wo, vR s13, vI dn, vI mi, vI fl, vI tk, vI go]] hq9
  refine cjrx_v [true, true, false, false, true] (fun pre9 => (vx_runV (As := [vI (u2.2.1 0)]) (rest := []) ⟨hx, hb, hml, hown, hts⟩ (k_needArgument l hl D cy sa kk ta kr kl sA dA pa ki kp wa or_ rq nr nw im qf (u2.2.1 0) H.size (by first | exact hr_nr | omega) (by first | exact hr_nw | omega) (by first | exact hr_im | omega) (by first | exact hq2_1 | omega)) (cwV 1 hts gg_2 rfl rfl rfl (by decide +kernel) ⟨Nat.le_of_ble_eq_true rfl, Nat.le_of_ble_eq_true rfl⟩) ⟨pcW.blind, (va_recv hG.1 hP (ci := 11) (q0 := 2) rfl rfl), pre9⟩ rfl rfl hlv.1 rfl (lv_room (Nat.le_of_ble_eq_true rfl)) dX11_cell_13 ⟨Nat.le_of_ble_eq_true rfl, Nat.le_of_ble_eq_true rfl⟩)) hP hD hS hA hG hT [2, 3] rfl (by decide +kernel) (fun E ux3 ce q9 H locs hp hq9 hS h1 h2 h3 => ?_) (fun u3 H locs hw3 hq9 hS => ?_)
  · obtain ⟨hP, hD⟩ := hq9
    obtain ⟨hp, hxg3⟩ := hp
    obtain rfl := hp
    exact vx_out (fun x h => (hex x h).elim) hlocks h1 h2 h3 (fun t ht hvm => ⟨((fun k => ([] : List Nat).getD k 0), (fun k => ([] : List Int).getD k 0), (fun k => ([(ux3.2.2 0)] : List (Nat → Int32)).getD k (fun _ => 0))), trivial, ⟨Or.inr (rfl), at9 ht hP hD [3, 4, 2, 0, 1] (by decide +kernel) rfl⟩, hS.F ht⟩) hS.2.2 (Nat.le_of_ble_eq_true rfl) (Nat.le_of_ble_eq_true rfl)
  have hq3_0 : ((u2.2.1 0) = 1) := hw3
  obtain ⟨hP, hD⟩ := pd9 [zI s2 (cy 0) 96 hf, zI s3 (cy 0) 96 wf, zO sA 6 [vI wi, vI ro, vR s2, vR s3, vI dr, vI dt, vR s6, vI pe, vR s8, vI gu, vI sh, vR s11, vI wo, vR s13, vI dn, vI mi, vI fl, vI tk, vI go], zO kk 11 [vR ta, vR kr, vR kl, vI nr, vI nw, vR sA, vR dA, vR pa, vR ki, vR kp, vI im, vR wa, vR or_, vR rq], zI rq (cy 0) 4 qf] hq9
  refine lv_aload_n hx hb dX11_cell_16 rfl (lv_at hlv 0 rfl) ?_
  refine va_get (D := D) (ci := 11) (v := vR sA) (C := RX11) (T := TX11) (N := 14) hx hb hts hi11 hown hG.1 hP 3 rfl rfl 5 (by decide) lf31 (fun _ h9 => h9) rfl dX11_cell_17 ?_
  refine lv_iload_n hx hb dX11_cell_20 rfl (lv_at hlv 1 rfl) ?_
  refine lv_iload_n hx hb dX11_cell_21 rfl (lv_at hlv 2 rfl) ?_
  refine cjr_i [true, true, false, true, true] (fun pre9 => (va_runVN (host := "KerbSplash") (As := [vI x, vI y]) (rest := []) ⟨hx, hb, hml, hown, hts⟩ (s_index l hl D cy sa sA s2 s3 s6 s8 s11 s13 wi ro dr dt pe gu sh wo dn mi fl tk go x y H.size (by first | exact hr_wi | omega) (by first | exact hr_ro | omega) (by first | exact hr_dr | omega) (by first | exact hr_dt | omega) (by first | exact hr_pe | omega) (by first | exact hr_gu | omega) (by first | exact hr_sh | omega) (by first | exact hr_wo | omega) (by first | exact hr_dn | omega) (by first | exact hr_mi | omega) (by first | exact hr_fl | omega) (by first | exact hr_tk | omega) (by first | exact hr_go | omega) (by omega) (by omega)) ⟨va_cnB 2 hts gg_4 rfl rfl rfl (nM_K_163 hG.2.1) ini_RX6 (by decide +kernel) ⟨Nat.le_of_ble_eq_true rfl, Nat.le_of_ble_eq_true rfl⟩, im_X6_index, se_X6_index⟩ ⟨pcW.blind, (va_recv hG.1 hP (ci := 6) (q0 := 2) rfl rfl), pre9⟩ rfl rfl hlv.1 rfl (lv_room (Nat.le_of_ble_eq_true rfl)) dX11_cell_22 ⟨Nat.le_of_ble_eq_true rfl, Nat.le_of_ble_eq_true rfl⟩)) hP hD hS hA hG hT [2] rfl (by decide +kernel) (fun r4 u4 H locs hw4 hq9 hS => ?_)
  obtain ⟨rfl, hq4_1⟩ := hw4
  obtain ⟨hP, hD⟩ := pd9 [zI s2 (cy 0) 96 hf, zI s3 (cy 0) 96 wf, zO kk 11 [vR ta, vR kr, vR kl, vI nr, vI nw, vR sA, vR dA, vR pa, vR ki, vR kp, vI im, vR wa, vR or_, vR rq], zI rq (cy 0) 4 qf, zO sA 6 [vI wi, vI ro, vR s2, vR s3, vI dr, vI dt, vR s6, vI pe, vR s8, vI gu, vI sh, vR s11, vI wo, vR s13, vI dn, vI mi, vI fl, vI tk, vI go]] hq9
  refine lv_istore (lv' := [(4, vI (u4.2.1 0)), (0, vR kk), (1, vI x), (2, vI y), (3, vI n)]) hx hb dX11_cell_25 hlv (by decide) rfl (fun ls hlv => ?_)
  refine lv_iload_n hx hb dX11_cell_27 rfl (lv_at hlv 4 rfl) ?_
  refine iz_ne (tgt := 42) hx hb dX11_cell_28 (by decide) (by first | exact hr_n | omega) (fun c_1 => ?_) (fun c_1 => ?_)
  · refine lv_iload_n hx hb dX11_cell_42 rfl (lv_at hlv 4 rfl) ?_
    refine lv_iconst (v := iI 1) hx hb dX11_cell_43 (by decide) ?_
    refine ir_ne (tgt := 60) hx hb dX11_cell_44 (by decide) (by first | exact hr_n | omega) (by show ((-2147483648) : Int) ≤ 1 ∧ (1 : Int) ≤ 2147483647; decide) (fun c_2 => ?_) (fun c_2 => ?_)
    · refine lv_aload_n hx hb dX11_cell_60 rfl (lv_at hlv 1 rfl) ?_
      refine va_get (D := D) (ci := 11) (v := vR sA) (C := RX11) (T := TX11) (N := 14) hx hb hts hi11 hown hG.1 hP 2 rfl rfl 5 (by decide) lf31 (fun _ h9 => h9) rfl dX11_cell_61 ?_
      refine lv_iload hx hb dX11_cell_64 (lv_at hlv 0 rfl) ?_
      refine cjr_i [false, false, true, true, false] (fun pre9 => (va_runVN (host := "KerbSplash") (As := [vI (u4.2.1 0)]) (rest := []) ⟨hx, hb, hml, hown, hts⟩ (s_surface l hl D cy sa sA s2 s3 s6 s8 s11 s13 wi ro dr dt pe gu sh wo dn mi fl tk go hf wf (u4.2.1 0) H.size (by first | exact hr_wi | omega) (by first | exact hr_ro | omega) (by first | exact hr_dr | omega) (by first | exact hr_dt | omega) (by first | exact hr_pe | omega) (by first | exact hr_gu | omega) (by first | exact hr_sh | omega) (by first | exact hr_wo | omega) (by first | exact hr_dn | omega) (by first | exact hr_mi | omega) (by first | exact hr_fl | omega) (by first | exact hr_tk | omega) (by first | exact hr_go | omega) (by first | exact hq4_1 | omega) hhf) ⟨va_cnB 1 hts gg_5 rfl rfl rfl (nM_K_173 hG.2.1) ini_RX6 (by decide +kernel) ⟨Nat.le_of_ble_eq_true rfl, Nat.le_of_ble_eq_true rfl⟩, im_X6_surface, se_X6_surface⟩ ⟨pcW.blind, (va_recv hG.1 hP (ci := 6) (q0 := 4) rfl rfl), pre9⟩ rfl rfl hlv.1 rfl (lv_room (Nat.le_of_ble_eq_true rfl)) dX11_cell_66 ⟨Nat.le_of_ble_eq_true rfl, Nat.le_of_ble_eq_true rfl⟩)) hP hD hS hA hG hT [4, 0, 1] rfl (by decide +kernel) (fun r5 u5 H locs hw5 hq9 hS => ?_)
      obtain ⟨rfl, hq5_1, hq5_2⟩ := hw5
      obtain ⟨hP, hD⟩ := pd9 [zO kk 11 [vR ta, vR kr, vR kl, vI nr, vI nw, vR sA, vR dA, vR pa, vR ki, vR kp, vI im, vR wa, vR or_, vR rq], zI rq (cy 0) 4 qf, zO sA 6 [vI wi, vI ro, vR s2, vR s3, vI dr, vI dt, vR s6, vI pe, vR s8, vI gu, vI sh, vR s11, vI wo, vR s13, vI dn, vI mi, vI fl, vI tk, vI go], zI s2 (cy 0) 96 hf, zI s3 (cy 0) 96 wf] hq9
      refine W.widen (k := 2) (n := 12) (Nat.le_of_ble_eq_true rfl) (Nat.le_of_ble_eq_true rfl) ?_
      refine vx_ret ?_
      exact W.iret (v := iI (u5.2.1 0)) hx hb hr (fun t ht hW => ⟨⟨iI (u5.2.1 0), ((fun k => ([] : List Nat).getD k 0), (fun k => ([(u5.2.1 0)] : List Int).getD k 0), (fun k => ([] : List (Nat → Int32)).getD k (fun _ => 0))), rfl, ⟨rfl, (by show ((-2147483648) ≤ (u5.2.1 0) ∧ (u5.2.1 0) ≤ 2147483647); first | exact hq5_1 | omega), hq5_2⟩, at9 ht hP hD [0, 1, 2, 3, 4] (by decide +kernel) rfl⟩, hS.F ht⟩) hS.2.2 dX11_cell_69
    · refine lv_aload_n hx hb dX11_cell_47 rfl (lv_at hlv 1 rfl) ?_
      refine va_get (D := D) (ci := 11) (v := vR sA) (C := RX11) (T := TX11) (N := 14) hx hb hts hi11 hown hG.1 hP 2 rfl rfl 5 (by decide) lf31 (fun _ h9 => h9) rfl dX11_cell_48 ?_
      refine va_getN (D := D) (ci := 6) (v := vR s3) (C := RX6) (T := TX6) (N := 19) hx hb hts hi6 hown hG.1 hP 4 rfl rfl 3 (by decide) (va_Nw.use rfl (nF_K_170 hG.2.1)) (fun _ h9 => h9) rfl dX11_cell_51 ?_
      refine lv_iload hx hb dX11_cell_54 (lv_at hlv 0 rfl) ?_
      refine va_iald hx hb hG.1 hP 1 0 rfl rfl (iI_in (by omega) (by decide)) dX11_cell_56 ?_
      refine lt_z (fun z_3 ez_3 lz_3 hz_3 => ?_)
      refine lv_goto (tgt := 69) hx hb dX11_cell_57 (by decide) ?_
      refine W.widen (k := 2) (n := 12) (Nat.le_of_ble_eq_true rfl) (Nat.le_of_ble_eq_true rfl) ?_
      refine vx_ret ?_
      exact W.iret (v := iI z_3) hx hb hr (fun t ht hW => ⟨⟨iI z_3, ((fun k => ([] : List Nat).getD k 0), (fun k => ([z_3] : List Int).getD k 0), (fun k => ([] : List (Nat → Int32)).getD k (fun _ => 0))), rfl, ⟨rfl, (by show ((-2147483648) ≤ z_3 ∧ z_3 ≤ 2147483647); omega), hhf⟩, at9 ht hP hD [2, 3, 4, 0, 1] (by decide +kernel) rfl⟩, hS.F ht⟩) hS.2.2 dX11_cell_69
  · refine lv_aload_n hx hb dX11_cell_31 rfl (lv_at hlv 1 rfl) ?_
    refine va_get (D := D) (ci := 11) (v := vR sA) (C := RX11) (T := TX11) (N := 14) hx hb hts hi11 hown hG.1 hP 2 rfl rfl 5 (by decide) lf31 (fun _ h9 => h9) rfl dX11_cell_32 ?_
    refine va_getN (D := D) (ci := 6) (v := vR s2) (C := RX6) (T := TX6) (N := 19) hx hb hts hi6 hown hG.1 hP 4 rfl rfl 2 (by decide) (va_Nw.use rfl (nF_K_167 hG.2.1)) (fun _ h9 => h9) rfl dX11_cell_35 ?_
    refine lv_iload hx hb dX11_cell_38 (lv_at hlv 0 rfl) ?_
    refine va_iald hx hb hG.1 hP 0 0 rfl rfl (iI_in (by omega) (by decide)) dX11_cell_40 ?_
    obtain ⟨z_4, ez_4, hz_4, lz_4⟩ := inv_rd hhf (e := (u4.2.1 0)) (by omega) (by decide)
    refine lt_i (y := iI z_4) ez_4 ?_
    refine W.widen (k := 2) (n := 12) (Nat.le_of_ble_eq_true rfl) (Nat.le_of_ble_eq_true rfl) ?_
    refine vx_ret ?_
    exact W.iret (v := iI z_4) hx hb hr (fun t ht hW => ⟨⟨iI z_4, ((fun k => ([] : List Nat).getD k 0), (fun k => ([z_4] : List Int).getD k 0), (fun k => ([] : List (Nat → Int32)).getD k (fun _ => 0))), rfl, ⟨rfl, (by show ((-2147483648) ≤ z_4 ∧ z_4 ≤ 2147483647); first | exact rgw lz_4 (by decide) (by decide) | omega), hhf⟩, at9 ht hP hD [2, 3, 4, 0, 1] (by decide +kernel) rfl⟩, hS.F ht⟩) hS.2.2 dX11_cell_41
def vs_k_drain : List Cond := .code yX11_drain cX11_drain 3 (some .int) :: (([.fieldLink RX11 31 "KerbSplash" "now" "LKerbSplash$Street;"] : List Cond) ++ ((wsX110) ++ ((wsX60) ++ ((va_wsS RX11 130 yX11_isWithin vs_s_within) ++ ((wsV RX11 177 RX11 yX11_needElement vs_k_needElement) ++ ((wsV RX11 134 RX11 yX11_needArgument vs_k_needArgument) ++ ([])))))))
theorem gd_k_drain : vs_k_drain.all goodWord = true := gd_C (by decide +kernel) (gd_A (by decide +kernel) (gd_A (by decide +kernel) (gd_A (by decide +kernel) (gd_A (gd_S gd_s_within (by decide +kernel)) (gd_A (gd_V gd_k_needElement (by decide +kernel)) (gd_A (gd_V gd_k_needArgument (by decide +kernel)) rfl))))))
set_option maxHeartbeats 4000000 in
set_option maxRecDepth 100000 in
theorem k_drain (l : Launch) (hl : l.stackTraces = false) (D : va_G) (cy : Nat → ClassId) (sa : Nat → Nat) (kk ta kr kl sA dA pa ki kp wa or_ rq : Nat) (nr nw im : Int) (qf : Nat → Int32) (s2 s3 s6 s8 s11 s13 : Nat) (wi ro dr dt pe gu sh wo dn mi fl tk go : Int) (df : Nat → Int32) (n k : Int) (sz : Nat) (hr_nr : 0 ≤ nr ∧ nr ≤ 4) (hr_nw : 0 ≤ nw ∧ nw ≤ 4) (hr_im : 0 ≤ im ∧ im ≤ 3) (hr_wi : 0 ≤ wi ∧ wi ≤ 16) (hr_ro : 0 ≤ ro ∧ ro ≤ 6) (hr_dr : 0 ≤ dr ∧ dr ≤ 14) (hr_dt : 0 ≤ dt ∧ dt ≤ 6) (hr_pe : 0 ≤ pe ∧ pe ≤ 8) (hr_gu : 0 ≤ gu ∧ gu ≤ 20) (hr_sh : 0 ≤ sh ∧ sh ≤ 2) (hr_wo : 0 ≤ wo ∧ wo ≤ 8) (hr_dn : (-2147483648) ≤ dn ∧ dn ≤ 2147483647) (hr_mi : 0 ≤ mi ∧ mi ≤ 600) (hr_fl : (-2147483648) ≤ fl ∧ fl ≤ 2147483647) (hr_tk : (-2147483648) ≤ tk ∧ tk ≤ 2147483647) (hr_go : (-2147483648) ≤ go ∧ go ≤ 2147483647) (hr_n : (-2147483648) ≤ n ∧ n ≤ 2147483647) (hr_k : (-2147483648) ≤ k ∧ k ≤ 2147483647) (hdf : tab_ 4 14 [0, 0, 0, 0] [15, 5, 99, 16] df) : xI9 l yX11_drain vs_k_drain ({ frames := 7, cells := 2, slots := 12, locals := 121 }) D cy sa sz [vR kk, vI n, vI k] [zO kk 11 [vR ta, vR kr, vR kl, vI nr, vI nw, vR sA, vR dA, vR pa, vR ki, vR kp, vI im, vR wa, vR or_, vR rq], zI rq (cy 0) 4 qf, zO sA 6 [vI wi, vI ro, vR s2, vR s3, vI dr, vI dt, vR s6, vI pe, vR s8, vI gu, vI sh, vR s11, vI wo, vR s13, vI dn, vI mi, vI fl, vI tk, vI go], zI s6 (cy 0) 56 df] (fun (r : Int32) (u : SV) => r = iI (u.2.1 0) ∧ ((-2147483648) ≤ u.2.1 0 ∧ u.2.1 0 ≤ 2147483647) ∧ tab_ 4 14 [0, 0, 0, 0] [15, 5, 99, 16] df) (fun u : SV => [zO kk 11 [vR ta, vR kr, vR kl, vI nr, vI nw, vR sA, vR dA, vR pa, vR ki, vR kp, vI im, vR wa, vR or_, vR rq], zI rq (cy 0) 4 qf, zO sA 6 [vI wi, vI ro, vR s2, vR s3, vI dr, vI dt, vR s6, vI pe, vR s8, vI gu, vI sh, vR s11, vI wo, vR s13, vI dn, vI mi, vI fl, vI tk, vI go], zI s6 (cy 0) 56 df]) (fun (E : String) (u : SV) => (E = "java/util/NoSuchElementException" ∨ E = "java/lang/IllegalArgumentException")) (fun u : SV => [zO kk 11 [vR ta, vR kr, vR kl, vI nr, vI nw, vR sA, vR dA, vR pa, vR ki, vR kp, vI im, vR wa, vR or_, vR rq], zI rq (cy 0) 4 (u.2.2 0), zO sA 6 [vI wi, vI ro, vR s2, vR s3, vI dr, vI dt, vR s6, vI pe, vR s8, vI gu, vI sh, vR s11, vI wo, vR s13, vI dn, vI mi, vI fl, vI tk, vI go], zI s6 (cy 0) 56 df]) 2 12 := by
  refine vx_ofW (cc := cX11_drain) (maxL := 3) (ret := (some .int)) (by decide) rfl ?_
  intro p e s m args below meth c s₁ B hml hex hv
  obtain ⟨rfl, hsz, hP, hG, hD0, hT⟩ := hv
  have hx := B.exec
  have hb := B.bytes
  have hr := B.returns
  have hts := atoms_spec (ws := vs_k_drain) B.pre
  have hown : s.vm.findClass RX11 = some m.cls := findClass_of_methodNamed B.named
  have hlocks := B.notSynchronized
  subst hsz
  have hD := hD0.self (sz := s.heap.size)
  generalize hAe : va_A [zO kk 11 [vR ta, vR kr, vR kl, vI nr, vI nw, vR sA, vR dA, vR pa, vR ki, vR kp, vI im, vR wa, vR or_, vR rq], zI rq (cy 0) 4 qf, zO sA 6 [vI wi, vI ro, vR s2, vR s3, vI dr, vI dt, vR s6, vI pe, vR s8, vI gu, vI sh, vR s11, vI wo, vR s13, vI dn, vI mi, vI fl, vI tk, vI go], zI s6 (cy 0) 56 df] s.heap.size = A at hD hT ⊢
  have hA : ∀ q : Nat, s.heap.size ≤ q → A q := fun q h => by rw [← hAe]; exact Or.inr h
  have hS : va_S A s.heap s.heap [] := va_S.rf
  have hl0 := lv_entry ([vR kk, vI n, vI k]) (n := 3) (Nat.le_of_ble_eq_true rfl)
  rw [lg_entry_eq]
  generalize (lg_sl ([vR kk, vI n, vI k]) ++ List.replicate (3 - (lg_sl ([vR kk, vI n, vI k])).length) Slot.unset).toArray = ls at hl0 ⊢
  have hlv : lv_has ls 3 [(0, vR kk), (1, vI n), (2, vI k)] := hl0
  have lf31 := hts (.fieldLink RX11 31 "KerbSplash" "now" "LKerbSplash$Street;") (List.mem_of_getElem? (i := 1) rfl)
  have hi11 : ∀ w ∈ wsX110, w ∈ vs_k_drain := fun w h => List.mem_cons_of_mem _ (List.mem_append_right _ (List.mem_append_left _ h))
  have hi6 : ∀ w ∈ wsX60, w ∈ vs_k_drain := fun w h => List.mem_cons_of_mem _ (List.mem_append_right _ (List.mem_append_right _ (List.mem_append_left _ h)))
  have gg_2 : GoodIn vs_k_drain (va_wsS RX11 130 yX11_isWithin vs_s_within) := goodIn_sub (fun w h => List.mem_cons_of_mem _ (List.mem_append_right _ (List.mem_append_right _ (List.mem_append_right _ (List.mem_append_left _ h))))) (gd_S gd_s_within (by decide +kernel))
  have gg_3 : GoodIn vs_k_drain (wsV RX11 177 RX11 yX11_needElement vs_k_needElement) := goodIn_sub (fun w h => List.mem_cons_of_mem _ (List.mem_append_right _ (List.mem_append_right _ (List.mem_append_right _ (List.mem_append_right _ (List.mem_append_left _ h)))))) (gd_V gd_k_needElement (by decide +kernel))
  have gg_4 : GoodIn vs_k_drain (wsV RX11 134 RX11 yX11_needArgument vs_k_needArgument) := goodIn_sub (fun w h => List.mem_cons_of_mem _ (List.mem_append_right _ (List.mem_append_right _ (List.mem_append_right _ (List.mem_append_right _ (List.mem_append_right _ (List.mem_append_left _ h))))))) (gd_V gd_k_needArgument (by decide +kernel))
  refine lv_aload_n hx hb dX11_drain_0 rfl (lv_at hlv 0 rfl) ?_
  refine lv_iload_n hx hb dX11_drain_1 rfl (lv_at hlv 1 rfl) ?_
  refine lv_iconst (v := iI 0) hx hb dX11_drain_2 (by decide) ?_
  refine lv_aload_n hx hb dX11_drain_3 rfl (lv_at hlv 0 rfl) ?_
  refine va_get (D := D) (ci := 11) (v := vR sA) (C := RX11) (T := TX11) (N := 14) hx hb hts hi11 hown hG.1 hP 0 rfl rfl 5 (by decide) lf31 (fun _ h9 => h9) rfl dX11_drain_4 ?_
  refine va_getN (D := D) (ci := 6) (v := vI dr) (C := RX6) (T := TX6) (N := 19) hx hb hts hi6 hown hG.1 hP 2 rfl rfl 4 (by decide) (va_Nw.use rfl (nF_K_144 hG.2.1)) (fun _ h9 => h9) rfl dX11_drain_7 ?_
  refine lv_iconst (v := iI 1) hx hb dX11_drain_10 (by decide) ?_
  refine lv_isub hx hb dX11_drain_11 ?_
  refine lt_e (e0 := dr - 1) (Int32.ofInt_sub _ _).symm (fun z_1 hz_1 => ?_)
  refine cjr_i [true, true, true, true] (fun pre9 => (va_runS (As := [vI n, vI 0, vI z_1]) (rest := [vR kk]) ⟨hx, hb, hml, hown, hts⟩ (s_within l hl D cy sa n 0 z_1 s.heap.size (by first | exact hr_n | omega) (by show ((-2147483648) : Int) ≤ 0 ∧ (0 : Int) ≤ 2147483647; decide) (by omega)) (va_cwS 3 hts gg_2 rfl rfl rfl (by decide +kernel) ⟨Nat.le_of_ble_eq_true rfl, Nat.le_of_ble_eq_true rfl⟩) ⟨pcW.blind, pre9⟩ rfl rfl hlv.1 rfl (lv_room (Nat.le_of_ble_eq_true rfl)) dX11_drain_12 ⟨Nat.le_of_ble_eq_true rfl, Nat.le_of_ble_eq_true rfl⟩)) hP hD hS hA hG hT [] rfl (by decide +kernel) (fun r1 u1 H locs hw1 hq9 hS => ?_)
  obtain ⟨rfl, hq1_1, hq1_2, hq1_3⟩ := hw1
  obtain ⟨hP, hD⟩ := pd9 [zO kk 11 [vR ta, vR kr, vR kl, vI nr, vI nw, vR sA, vR dA, vR pa, vR ki, vR kp, vI im, vR wa, vR or_, vR rq], zI rq (cy 0) 4 qf, zO sA 6 [vI wi, vI ro, vR s2, vR s3, vI dr, vI dt, vR s6, vI pe, vR s8, vI gu, vI sh, vR s11, vI wo, vR s13, vI dn, vI mi, vI fl, vI tk, vI go], zI s6 (cy 0) 56 df] hq9
  refine cjrx_v [false, false, true, true] (fun pre9 => (vx_runV (As := [vI (u1.2.1 0)]) (rest := []) ⟨hx, hb, hml, hown, hts⟩ (k_needElement l hl D cy sa kk ta kr kl sA dA pa ki kp wa or_ rq nr nw im qf (u1.2.1 0) H.size (by first | exact hr_nr | omega) (by first | exact hr_nw | omega) (by first | exact hr_im | omega) (by first | exact hq1_1 | omega)) (cwV 1 hts gg_3 rfl rfl rfl (by decide +kernel) ⟨Nat.le_of_ble_eq_true rfl, Nat.le_of_ble_eq_true rfl⟩) ⟨pcW.blind, (va_recv hG.1 hP (ci := 11) (q0 := 0) rfl rfl), pre9⟩ rfl rfl hlv.1 rfl (lv_room (Nat.le_of_ble_eq_true rfl)) dX11_drain_15 ⟨Nat.le_of_ble_eq_true rfl, Nat.le_of_ble_eq_true rfl⟩)) hP hD hS hA hG hT [0, 1] rfl (by decide +kernel) (fun E ux2 ce q9 H locs hp hq9 hS h1 h2 h3 => ?_) (fun u2 H locs hw2 hq9 hS => ?_)
  · obtain ⟨hP, hD⟩ := hq9
    obtain ⟨hp, hxg2⟩ := hp
    obtain rfl := hp
    exact vx_out (fun x h => (hex x h).elim) hlocks h1 h2 h3 (fun t ht hvm => ⟨((fun k => ([] : List Nat).getD k 0), (fun k => ([] : List Int).getD k 0), (fun k => ([(ux2.2.2 0)] : List (Nat → Int32)).getD k (fun _ => 0))), trivial, ⟨Or.inl rfl, at9 ht hP hD [2, 3, 0, 1] (by decide +kernel) rfl⟩, hS.F ht⟩) hS.2.2 (Nat.le_of_ble_eq_true rfl) (Nat.le_of_ble_eq_true rfl)
  have hq2_0 : ((u1.2.1 0) = 1) := hw2
  obtain ⟨hP, hD⟩ := pd9 [zO sA 6 [vI wi, vI ro, vR s2, vR s3, vI dr, vI dt, vR s6, vI pe, vR s8, vI gu, vI sh, vR s11, vI wo, vR s13, vI dn, vI mi, vI fl, vI tk, vI go], zI s6 (cy 0) 56 df, zO kk 11 [vR ta, vR kr, vR kl, vI nr, vI nw, vR sA, vR dA, vR pa, vR ki, vR kp, vI im, vR wa, vR or_, vR rq], zI rq (cy 0) 4 qf] hq9
  refine lv_aload_n hx hb dX11_drain_18 rfl (lv_at hlv 0 rfl) ?_
  refine lv_iload_n hx hb dX11_drain_19 rfl (lv_at hlv 2 rfl) ?_
  refine lv_iconst (v := iI 0) hx hb dX11_drain_20 (by decide) ?_
  refine lv_iconst (v := iI 3) hx hb dX11_drain_21 (by decide) ?_
  refine cjr_i [true, true, true, true] (fun pre9 => (va_runS (As := [vI k, vI 0, vI 3]) (rest := [vR kk]) ⟨hx, hb, hml, hown, hts⟩ (s_within l hl D cy sa k 0 3 H.size (by first | exact hr_k | omega) (by show ((-2147483648) : Int) ≤ 0 ∧ (0 : Int) ≤ 2147483647; decide) (by show ((-2147483648) : Int) ≤ 3 ∧ (3 : Int) ≤ 2147483647; decide)) (va_cwS 3 hts gg_2 rfl rfl rfl (by decide +kernel) ⟨Nat.le_of_ble_eq_true rfl, Nat.le_of_ble_eq_true rfl⟩) ⟨pcW.blind, pre9⟩ rfl rfl hlv.1 rfl (lv_room (Nat.le_of_ble_eq_true rfl)) dX11_drain_22 ⟨Nat.le_of_ble_eq_true rfl, Nat.le_of_ble_eq_true rfl⟩)) hP hD hS hA hG hT [] rfl (by decide +kernel) (fun r3 u3 H locs hw3 hq9 hS => ?_)
  obtain ⟨rfl, hq3_1, hq3_2, hq3_3⟩ := hw3
  obtain ⟨hP, hD⟩ := pd9 [zO sA 6 [vI wi, vI ro, vR s2, vR s3, vI dr, vI dt, vR s6, vI pe, vR s8, vI gu, vI sh, vR s11, vI wo, vR s13, vI dn, vI mi, vI fl, vI tk, vI go], zI s6 (cy 0) 56 df, zO kk 11 [vR ta, vR kr, vR kl, vI nr, vI nw, vR sA, vR dA, vR pa, vR ki, vR kp, vI im, vR wa, vR or_, vR rq], zI rq (cy 0) 4 qf] hq9
  refine cjrx_v [true, true, false, false] (fun pre9 => (vx_runV (As := [vI (u3.2.1 0)]) (rest := []) ⟨hx, hb, hml, hown, hts⟩ (k_needArgument l hl D cy sa kk ta kr kl sA dA pa ki kp wa or_ rq nr nw im qf (u3.2.1 0) H.size (by first | exact hr_nr | omega) (by first | exact hr_nw | omega) (by first | exact hr_im | omega) (by first | exact hq3_1 | omega)) (cwV 1 hts gg_4 rfl rfl rfl (by decide +kernel) ⟨Nat.le_of_ble_eq_true rfl, Nat.le_of_ble_eq_true rfl⟩) ⟨pcW.blind, (va_recv hG.1 hP (ci := 11) (q0 := 2) rfl rfl), pre9⟩ rfl rfl hlv.1 rfl (lv_room (Nat.le_of_ble_eq_true rfl)) dX11_drain_25 ⟨Nat.le_of_ble_eq_true rfl, Nat.le_of_ble_eq_true rfl⟩)) hP hD hS hA hG hT [2, 3] rfl (by decide +kernel) (fun E ux4 ce q9 H locs hp hq9 hS h1 h2 h3 => ?_) (fun u4 H locs hw4 hq9 hS => ?_)
  · obtain ⟨hP, hD⟩ := hq9
    obtain ⟨hp, hxg4⟩ := hp
    obtain rfl := hp
    exact vx_out (fun x h => (hex x h).elim) hlocks h1 h2 h3 (fun t ht hvm => ⟨((fun k => ([] : List Nat).getD k 0), (fun k => ([] : List Int).getD k 0), (fun k => ([(ux4.2.2 0)] : List (Nat → Int32)).getD k (fun _ => 0))), trivial, ⟨Or.inr (rfl), at9 ht hP hD [2, 3, 0, 1] (by decide +kernel) rfl⟩, hS.F ht⟩) hS.2.2 (Nat.le_of_ble_eq_true rfl) (Nat.le_of_ble_eq_true rfl)
  have hq4_0 : ((u3.2.1 0) = 1) := hw4
  obtain ⟨hP, hD⟩ := pd9 [zO sA 6 [vI wi, vI ro, vR s2, vR s3, vI dr, vI dt, vR s6, vI pe, vR s8, vI gu, vI sh, vR s11, vI wo, vR s13, vI dn, vI mi, vI fl, vI tk, vI go], zI s6 (cy 0) 56 df, zO kk 11 [vR ta, vR kr, vR kl, vI nr, vI nw, vR sA, vR dA, vR pa, vR ki, vR kp, vI im, vR wa, vR or_, vR rq], zI rq (cy 0) 4 qf] hq9
  refine lv_aload_n hx hb dX11_drain_28 rfl (lv_at hlv 0 rfl) ?_
  refine va_get (D := D) (ci := 11) (v := vR sA) (C := RX11) (T := TX11) (N := 14) hx hb hts hi11 hown hG.1 hP 2 rfl rfl 5 (by decide) lf31 (fun _ h9 => h9) rfl dX11_drain_29 ?_
  refine va_getN (D := D) (ci := 6) (v := vR s6) (C := RX6) (T := TX6) (N := 19) hx hb hts hi6 hown hG.1 hP 0 rfl rfl 6 (by decide) (va_Nw.use rfl (nF_K_180 hG.2.1)) (fun _ h9 => h9) rfl dX11_drain_32 ?_
  refine lv_iconst (v := iI 4) hx hb dX11_drain_35 (by decide) ?_
  refine lv_iload_n hx hb dX11_drain_36 rfl (lv_at hlv 1 rfl) ?_
  refine lv_imul hx hb dX11_drain_37 ?_
  refine lt_e (e0 := 4 * n) (Int32.ofInt_mul _ _).symm (fun z_2 hz_2 => ?_)
  refine lv_iload_n hx hb dX11_drain_38 rfl (lv_at hlv 2 rfl) ?_
  refine lv_iadd hx hb dX11_drain_39 ?_
  refine lt_e (e0 := z_2 + k) (Int32.ofInt_add _ _).symm (fun z_3 hz_3 => ?_)
  refine va_iald hx hb hG.1 hP 1 0 rfl rfl (iI_in (by omega) (by decide)) dX11_drain_40 ?_
  refine lt_z (fun z_4 ez_4 lz_4 hz_4 => ?_)
  refine W.widen (k := 2) (n := 12) (Nat.le_of_ble_eq_true rfl) (Nat.le_of_ble_eq_true rfl) ?_
  refine vx_ret ?_
  exact W.iret (v := iI z_4) hx hb hr (fun t ht hW => ⟨⟨iI z_4, ((fun k => ([] : List Nat).getD k 0), (fun k => ([z_4] : List Int).getD k 0), (fun k => ([] : List (Nat → Int32)).getD k (fun _ => 0))), rfl, ⟨rfl, (by show ((-2147483648) ≤ z_4 ∧ z_4 ≤ 2147483647); omega), hdf⟩, at9 ht hP hD [2, 3, 0, 1] (by decide +kernel) rfl⟩, hS.F ht⟩) hS.2.2 dX11_drain_41
def vs_k_leaves : List Cond := .code yX11_leaves cX11_leaves 5 (some .int) :: (([.fieldLink RX11 31 "KerbSplash" "now" "LKerbSplash$Street;"] : List Cond) ++ ((wsX110) ++ ((wsX60) ++ ((va_wsS RX11 130 yX11_isWithin vs_s_within) ++ ((wsV RX11 177 RX11 yX11_needElement vs_k_needElement) ++ ((wsV RX11 134 RX11 yX11_needArgument vs_k_needArgument) ++ ([])))))))
theorem gd_k_leaves : vs_k_leaves.all goodWord = true := gd_C (by decide +kernel) (gd_A (by decide +kernel) (gd_A (by decide +kernel) (gd_A (by decide +kernel) (gd_A (gd_S gd_s_within (by decide +kernel)) (gd_A (gd_V gd_k_needElement (by decide +kernel)) (gd_A (gd_V gd_k_needArgument (by decide +kernel)) rfl))))))
set_option maxHeartbeats 4000000 in
set_option maxRecDepth 100000 in
theorem k_leaves (l : Launch) (hl : l.stackTraces = false) (D : va_G) (cy : Nat → ClassId) (sa : Nat → Nat) (kk ta kr kl sA dA pa ki kp wa or_ rq : Nat) (nr nw im : Int) (qf : Nat → Int32) (s2 s3 s6 s8 s11 s13 : Nat) (wi ro dr dt pe gu sh wo dn mi fl tk go : Int) (df : Nat → Int32) (n k : Int) (sz : Nat) (hr_nr : 0 ≤ nr ∧ nr ≤ 4) (hr_nw : 0 ≤ nw ∧ nw ≤ 4) (hr_im : 0 ≤ im ∧ im ≤ 3) (hr_wi : 0 ≤ wi ∧ wi ≤ 16) (hr_ro : 0 ≤ ro ∧ ro ≤ 6) (hr_dr : 0 ≤ dr ∧ dr ≤ 14) (hr_dt : 0 ≤ dt ∧ dt ≤ 6) (hr_pe : 0 ≤ pe ∧ pe ≤ 8) (hr_gu : 0 ≤ gu ∧ gu ≤ 20) (hr_sh : 0 ≤ sh ∧ sh ≤ 2) (hr_wo : 0 ≤ wo ∧ wo ≤ 8) (hr_dn : (-2147483648) ≤ dn ∧ dn ≤ 2147483647) (hr_mi : 0 ≤ mi ∧ mi ≤ 600) (hr_fl : (-2147483648) ≤ fl ∧ fl ≤ 2147483647) (hr_tk : (-2147483648) ≤ tk ∧ tk ≤ 2147483647) (hr_go : (-2147483648) ≤ go ∧ go ≤ 2147483647) (hr_n : (-2147483648) ≤ n ∧ n ≤ 2147483647) (hr_k : (-2147483648) ≤ k ∧ k ≤ 2147483647) (hdf : tab_ 4 14 [0, 0, 0, 0] [15, 5, 99, 16] df) : xI9 l yX11_leaves vs_k_leaves ({ frames := 7, cells := 2, slots := 12, locals := 121 }) D cy sa sz [vR kk, vI n, vI k] [zO kk 11 [vR ta, vR kr, vR kl, vI nr, vI nw, vR sA, vR dA, vR pa, vR ki, vR kp, vI im, vR wa, vR or_, vR rq], zI rq (cy 0) 4 qf, zO sA 6 [vI wi, vI ro, vR s2, vR s3, vI dr, vI dt, vR s6, vI pe, vR s8, vI gu, vI sh, vR s11, vI wo, vR s13, vI dn, vI mi, vI fl, vI tk, vI go], zI s6 (cy 0) 56 df] (fun (r : Int32) (u : SV) => r = iI (u.2.1 0) ∧ ((-2147483648) ≤ u.2.1 0 ∧ u.2.1 0 ≤ 2147483647) ∧ tab_ 4 14 [0, 0, 0, 0] [15, 5, 99, 16] (u.2.2 0)) (fun u : SV => [zO kk 11 [vR ta, vR kr, vR kl, vI nr, vI nw, vR sA, vR dA, vR pa, vR ki, vR kp, vI im, vR wa, vR or_, vR rq], zI rq (cy 0) 4 qf, zO sA 6 [vI wi, vI ro, vR s2, vR s3, vI dr, vI dt, vR s6, vI pe, vR s8, vI gu, vI sh, vR s11, vI wo, vR s13, vI dn, vI mi, vI fl, vI tk, vI go], zI s6 (cy 0) 56 (u.2.2 0)]) (fun (E : String) (u : SV) => (E = "java/util/NoSuchElementException" ∨ E = "java/lang/IllegalArgumentException")) (fun u : SV => [zO kk 11 [vR ta, vR kr, vR kl, vI nr, vI nw, vR sA, vR dA, vR pa, vR ki, vR kp, vI im, vR wa, vR or_, vR rq], zI rq (cy 0) 4 (u.2.2 0), zO sA 6 [vI wi, vI ro, vR s2, vR s3, vI dr, vI dt, vR s6, vI pe, vR s8, vI gu, vI sh, vR s11, vI wo, vR s13, vI dn, vI mi, vI fl, vI tk, vI go], zI s6 (cy 0) 56 df]) 2 12 := by
  refine vx_ofW (cc := cX11_leaves) (maxL := 5) (ret := (some .int)) (by decide) rfl ?_
  intro p e s m args below meth c s₁ B hml hex hv
  obtain ⟨rfl, hsz, hP, hG, hD0, hT⟩ := hv
  have hx := B.exec
  have hb := B.bytes
  have hr := B.returns
  have hts := atoms_spec (ws := vs_k_leaves) B.pre
  have hown : s.vm.findClass RX11 = some m.cls := findClass_of_methodNamed B.named
  have hlocks := B.notSynchronized
  subst hsz
  have hD := hD0.self (sz := s.heap.size)
  generalize hAe : va_A [zO kk 11 [vR ta, vR kr, vR kl, vI nr, vI nw, vR sA, vR dA, vR pa, vR ki, vR kp, vI im, vR wa, vR or_, vR rq], zI rq (cy 0) 4 qf, zO sA 6 [vI wi, vI ro, vR s2, vR s3, vI dr, vI dt, vR s6, vI pe, vR s8, vI gu, vI sh, vR s11, vI wo, vR s13, vI dn, vI mi, vI fl, vI tk, vI go], zI s6 (cy 0) 56 df] s.heap.size = A at hD hT ⊢
  have hA : ∀ q : Nat, s.heap.size ≤ q → A q := fun q h => by rw [← hAe]; exact Or.inr h
  have hS : va_S A s.heap s.heap [] := va_S.rf
  have hl0 := lv_entry ([vR kk, vI n, vI k]) (n := 5) (Nat.le_of_ble_eq_true rfl)
  rw [lg_entry_eq]
  generalize (lg_sl ([vR kk, vI n, vI k]) ++ List.replicate (5 - (lg_sl ([vR kk, vI n, vI k])).length) Slot.unset).toArray = ls at hl0 ⊢
  have hlv : lv_has ls 5 [(0, vR kk), (1, vI n), (2, vI k)] := hl0
  have lf31 := hts (.fieldLink RX11 31 "KerbSplash" "now" "LKerbSplash$Street;") (List.mem_of_getElem? (i := 1) rfl)
  have hi11 : ∀ w ∈ wsX110, w ∈ vs_k_leaves := fun w h => List.mem_cons_of_mem _ (List.mem_append_right _ (List.mem_append_left _ h))
  have hi6 : ∀ w ∈ wsX60, w ∈ vs_k_leaves := fun w h => List.mem_cons_of_mem _ (List.mem_append_right _ (List.mem_append_right _ (List.mem_append_left _ h)))
  have gg_2 : GoodIn vs_k_leaves (va_wsS RX11 130 yX11_isWithin vs_s_within) := goodIn_sub (fun w h => List.mem_cons_of_mem _ (List.mem_append_right _ (List.mem_append_right _ (List.mem_append_right _ (List.mem_append_left _ h))))) (gd_S gd_s_within (by decide +kernel))
  have gg_3 : GoodIn vs_k_leaves (wsV RX11 177 RX11 yX11_needElement vs_k_needElement) := goodIn_sub (fun w h => List.mem_cons_of_mem _ (List.mem_append_right _ (List.mem_append_right _ (List.mem_append_right _ (List.mem_append_right _ (List.mem_append_left _ h)))))) (gd_V gd_k_needElement (by decide +kernel))
  have gg_4 : GoodIn vs_k_leaves (wsV RX11 134 RX11 yX11_needArgument vs_k_needArgument) := goodIn_sub (fun w h => List.mem_cons_of_mem _ (List.mem_append_right _ (List.mem_append_right _ (List.mem_append_right _ (List.mem_append_right _ (List.mem_append_right _ (List.mem_append_left _ h))))))) (gd_V gd_k_needArgument (by decide +kernel))
  refine lv_aload_n hx hb dX11_leaves_0 rfl (lv_at hlv 0 rfl) ?_
  refine lv_iload_n hx hb dX11_leaves_1 rfl (lv_at hlv 1 rfl) ?_
  refine lv_iconst (v := iI 0) hx hb dX11_leaves_2 (by decide) ?_
  refine lv_aload_n hx hb dX11_leaves_3 rfl (lv_at hlv 0 rfl) ?_
  refine va_get (D := D) (ci := 11) (v := vR sA) (C := RX11) (T := TX11) (N := 14) hx hb hts hi11 hown hG.1 hP 0 rfl rfl 5 (by decide) lf31 (fun _ h9 => h9) rfl dX11_leaves_4 ?_
  refine va_getN (D := D) (ci := 6) (v := vI dr) (C := RX6) (T := TX6) (N := 19) hx hb hts hi6 hown hG.1 hP 2 rfl rfl 4 (by decide) (va_Nw.use rfl (nF_K_144 hG.2.1)) (fun _ h9 => h9) rfl dX11_leaves_7 ?_
  refine lv_iconst (v := iI 1) hx hb dX11_leaves_10 (by decide) ?_
  refine lv_isub hx hb dX11_leaves_11 ?_
  refine lt_e (e0 := dr - 1) (Int32.ofInt_sub _ _).symm (fun z_1 hz_1 => ?_)
  refine cjr_i [true, true, true, true] (fun pre9 => (va_runS (As := [vI n, vI 0, vI z_1]) (rest := [vR kk]) ⟨hx, hb, hml, hown, hts⟩ (s_within l hl D cy sa n 0 z_1 s.heap.size (by first | exact hr_n | omega) (by show ((-2147483648) : Int) ≤ 0 ∧ (0 : Int) ≤ 2147483647; decide) (by omega)) (va_cwS 3 hts gg_2 rfl rfl rfl (by decide +kernel) ⟨Nat.le_of_ble_eq_true rfl, Nat.le_of_ble_eq_true rfl⟩) ⟨pcW.blind, pre9⟩ rfl rfl hlv.1 rfl (lv_room (Nat.le_of_ble_eq_true rfl)) dX11_leaves_12 ⟨Nat.le_of_ble_eq_true rfl, Nat.le_of_ble_eq_true rfl⟩)) hP hD hS hA hG hT [] rfl (by decide +kernel) (fun r1 u1 H locs hw1 hq9 hS => ?_)
  obtain ⟨rfl, hq1_1, hq1_2, hq1_3⟩ := hw1
  obtain ⟨hP, hD⟩ := pd9 [zO kk 11 [vR ta, vR kr, vR kl, vI nr, vI nw, vR sA, vR dA, vR pa, vR ki, vR kp, vI im, vR wa, vR or_, vR rq], zI rq (cy 0) 4 qf, zO sA 6 [vI wi, vI ro, vR s2, vR s3, vI dr, vI dt, vR s6, vI pe, vR s8, vI gu, vI sh, vR s11, vI wo, vR s13, vI dn, vI mi, vI fl, vI tk, vI go], zI s6 (cy 0) 56 df] hq9
  refine cjrx_v [false, false, true, true] (fun pre9 => (vx_runV (As := [vI (u1.2.1 0)]) (rest := []) ⟨hx, hb, hml, hown, hts⟩ (k_needElement l hl D cy sa kk ta kr kl sA dA pa ki kp wa or_ rq nr nw im qf (u1.2.1 0) H.size (by first | exact hr_nr | omega) (by first | exact hr_nw | omega) (by first | exact hr_im | omega) (by first | exact hq1_1 | omega)) (cwV 1 hts gg_3 rfl rfl rfl (by decide +kernel) ⟨Nat.le_of_ble_eq_true rfl, Nat.le_of_ble_eq_true rfl⟩) ⟨pcW.blind, (va_recv hG.1 hP (ci := 11) (q0 := 0) rfl rfl), pre9⟩ rfl rfl hlv.1 rfl (lv_room (Nat.le_of_ble_eq_true rfl)) dX11_leaves_15 ⟨Nat.le_of_ble_eq_true rfl, Nat.le_of_ble_eq_true rfl⟩)) hP hD hS hA hG hT [0, 1] rfl (by decide +kernel) (fun E ux2 ce q9 H locs hp hq9 hS h1 h2 h3 => ?_) (fun u2 H locs hw2 hq9 hS => ?_)
  · obtain ⟨hP, hD⟩ := hq9
    obtain ⟨hp, hxg2⟩ := hp
    obtain rfl := hp
    exact vx_out (fun x h => (hex x h).elim) hlocks h1 h2 h3 (fun t ht hvm => ⟨((fun k => ([] : List Nat).getD k 0), (fun k => ([] : List Int).getD k 0), (fun k => ([(ux2.2.2 0)] : List (Nat → Int32)).getD k (fun _ => 0))), trivial, ⟨Or.inl rfl, at9 ht hP hD [2, 3, 0, 1] (by decide +kernel) rfl⟩, hS.F ht⟩) hS.2.2 (Nat.le_of_ble_eq_true rfl) (Nat.le_of_ble_eq_true rfl)
  have hq2_0 : ((u1.2.1 0) = 1) := hw2
  obtain ⟨hP, hD⟩ := pd9 [zO sA 6 [vI wi, vI ro, vR s2, vR s3, vI dr, vI dt, vR s6, vI pe, vR s8, vI gu, vI sh, vR s11, vI wo, vR s13, vI dn, vI mi, vI fl, vI tk, vI go], zI s6 (cy 0) 56 df, zO kk 11 [vR ta, vR kr, vR kl, vI nr, vI nw, vR sA, vR dA, vR pa, vR ki, vR kp, vI im, vR wa, vR or_, vR rq], zI rq (cy 0) 4 qf] hq9
  refine lv_aload_n hx hb dX11_leaves_18 rfl (lv_at hlv 0 rfl) ?_
  refine lv_iload_n hx hb dX11_leaves_19 rfl (lv_at hlv 2 rfl) ?_
  refine lv_iconst (v := iI 0) hx hb dX11_leaves_20 (by decide) ?_
  refine lv_bipush (v := iI 16) hx hb dX11_leaves_21 (by decide) ?_
  refine cjr_i [true, true, true, true] (fun pre9 => (va_runS (As := [vI k, vI 0, vI 16]) (rest := [vR kk]) ⟨hx, hb, hml, hown, hts⟩ (s_within l hl D cy sa k 0 16 H.size (by first | exact hr_k | omega) (by show ((-2147483648) : Int) ≤ 0 ∧ (0 : Int) ≤ 2147483647; decide) (by show ((-2147483648) : Int) ≤ 16 ∧ (16 : Int) ≤ 2147483647; decide)) (va_cwS 3 hts gg_2 rfl rfl rfl (by decide +kernel) ⟨Nat.le_of_ble_eq_true rfl, Nat.le_of_ble_eq_true rfl⟩) ⟨pcW.blind, pre9⟩ rfl rfl hlv.1 rfl (lv_room (Nat.le_of_ble_eq_true rfl)) dX11_leaves_23 ⟨Nat.le_of_ble_eq_true rfl, Nat.le_of_ble_eq_true rfl⟩)) hP hD hS hA hG hT [] rfl (by decide +kernel) (fun r3 u3 H locs hw3 hq9 hS => ?_)
  obtain ⟨rfl, hq3_1, hq3_2, hq3_3⟩ := hw3
  obtain ⟨hP, hD⟩ := pd9 [zO sA 6 [vI wi, vI ro, vR s2, vR s3, vI dr, vI dt, vR s6, vI pe, vR s8, vI gu, vI sh, vR s11, vI wo, vR s13, vI dn, vI mi, vI fl, vI tk, vI go], zI s6 (cy 0) 56 df, zO kk 11 [vR ta, vR kr, vR kl, vI nr, vI nw, vR sA, vR dA, vR pa, vR ki, vR kp, vI im, vR wa, vR or_, vR rq], zI rq (cy 0) 4 qf] hq9
  refine iz_eq (tgt := 44) hx hb dX11_leaves_26 (by decide) (by first | exact rgw hq3_1 (by decide) (by decide) | omega) (fun c_2 => ?_) (fun c_2 => ?_)
  · refine lv_iconst (v := iI 0) hx hb dX11_leaves_44 (by decide) ?_
    refine cjrx_v [true, true, false, false] (fun pre9 => (vx_runV (As := [vI 0]) (rest := []) ⟨hx, hb, hml, hown, hts⟩ (k_needArgument l hl D cy sa kk ta kr kl sA dA pa ki kp wa or_ rq nr nw im qf 0 H.size (by first | exact hr_nr | omega) (by first | exact hr_nw | omega) (by first | exact hr_im | omega) (by show (0 : Int) ≤ 0 ∧ (0 : Int) ≤ 1; decide)) (cwV 1 hts gg_4 rfl rfl rfl (by decide +kernel) ⟨Nat.le_of_ble_eq_true rfl, Nat.le_of_ble_eq_true rfl⟩) ⟨pcW.blind, (va_recv hG.1 hP (ci := 11) (q0 := 2) rfl rfl), pre9⟩ rfl rfl hlv.1 rfl (lv_room (Nat.le_of_ble_eq_true rfl)) dX11_leaves_45 ⟨Nat.le_of_ble_eq_true rfl, Nat.le_of_ble_eq_true rfl⟩)) hP hD hS hA hG hT [2, 3] rfl (by decide +kernel) (fun E ux4 ce q9 H locs hp hq9 hS h1 h2 h3 => ?_) (fun u4 H locs hw4 hq9 hS => ?_)
    · obtain ⟨hP, hD⟩ := hq9
      obtain ⟨hp, hxg4⟩ := hp
      obtain rfl := hp
      exact vx_out (fun x h => (hex x h).elim) hlocks h1 h2 h3 (fun t ht hvm => ⟨((fun k => ([] : List Nat).getD k 0), (fun k => ([] : List Int).getD k 0), (fun k => ([(ux4.2.2 0)] : List (Nat → Int32)).getD k (fun _ => 0))), trivial, ⟨Or.inr (rfl), at9 ht hP hD [2, 3, 0, 1] (by decide +kernel) rfl⟩, hS.F ht⟩) hS.2.2 (Nat.le_of_ble_eq_true rfl) (Nat.le_of_ble_eq_true rfl)
    have hq4_0 : ((0 : Int) = 1) := hw4
    obtain ⟨hP, hD⟩ := pd9 [zO sA 6 [vI wi, vI ro, vR s2, vR s3, vI dr, vI dt, vR s6, vI pe, vR s8, vI gu, vI sh, vR s11, vI wo, vR s13, vI dn, vI mi, vI fl, vI tk, vI go], zI s6 (cy 0) 56 df, zO kk 11 [vR ta, vR kr, vR kl, vI nr, vI nw, vR sA, vR dA, vR pa, vR ki, vR kp, vI im, vR wa, vR or_, vR rq], zI rq (cy 0) 4 qf] hq9
    exfalso; omega
  · refine lv_iload_n hx hb dX11_leaves_29 rfl (lv_at hlv 1 rfl) ?_
    refine lv_aload_n hx hb dX11_leaves_30 rfl (lv_at hlv 0 rfl) ?_
    refine va_get (D := D) (ci := 11) (v := vR sA) (C := RX11) (T := TX11) (N := 14) hx hb hts hi11 hown hG.1 hP 2 rfl rfl 5 (by decide) lf31 (fun _ h9 => h9) rfl dX11_leaves_31 ?_
    refine va_getN (D := D) (ci := 6) (v := vI dt) (C := RX6) (T := TX6) (N := 19) hx hb hts hi6 hown hG.1 hP 0 rfl rfl 5 (by decide) (va_Nw.use rfl (nF_K_183 hG.2.1)) (fun _ h9 => h9) rfl dX11_leaves_34 ?_
    refine ir_ge (tgt := 44) hx hb dX11_leaves_37 (by decide) (by first | exact hr_n | omega) (by first | exact rgw hr_dt (by decide) (by decide) | omega) (fun c_3 => ?_) (fun c_3 => ?_)
    · refine lv_iconst (v := iI 0) hx hb dX11_leaves_44 (by decide) ?_
      refine cjrx_v [true, true, false, false] (fun pre9 => (vx_runV (As := [vI 0]) (rest := []) ⟨hx, hb, hml, hown, hts⟩ (k_needArgument l hl D cy sa kk ta kr kl sA dA pa ki kp wa or_ rq nr nw im qf 0 H.size (by first | exact hr_nr | omega) (by first | exact hr_nw | omega) (by first | exact hr_im | omega) (by show (0 : Int) ≤ 0 ∧ (0 : Int) ≤ 1; decide)) (cwV 1 hts gg_4 rfl rfl rfl (by decide +kernel) ⟨Nat.le_of_ble_eq_true rfl, Nat.le_of_ble_eq_true rfl⟩) ⟨pcW.blind, (va_recv hG.1 hP (ci := 11) (q0 := 2) rfl rfl), pre9⟩ rfl rfl hlv.1 rfl (lv_room (Nat.le_of_ble_eq_true rfl)) dX11_leaves_45 ⟨Nat.le_of_ble_eq_true rfl, Nat.le_of_ble_eq_true rfl⟩)) hP hD hS hA hG hT [2, 3] rfl (by decide +kernel) (fun E ux5 ce q9 H locs hp hq9 hS h1 h2 h3 => ?_) (fun u5 H locs hw5 hq9 hS => ?_)
      · obtain ⟨hP, hD⟩ := hq9
        obtain ⟨hp, hxg5⟩ := hp
        obtain rfl := hp
        exact vx_out (fun x h => (hex x h).elim) hlocks h1 h2 h3 (fun t ht hvm => ⟨((fun k => ([] : List Nat).getD k 0), (fun k => ([] : List Int).getD k 0), (fun k => ([(ux5.2.2 0)] : List (Nat → Int32)).getD k (fun _ => 0))), trivial, ⟨Or.inr (rfl), at9 ht hP hD [2, 3, 0, 1] (by decide +kernel) rfl⟩, hS.F ht⟩) hS.2.2 (Nat.le_of_ble_eq_true rfl) (Nat.le_of_ble_eq_true rfl)
      have hq5_0 : ((0 : Int) = 1) := hw5
      obtain ⟨hP, hD⟩ := pd9 [zO sA 6 [vI wi, vI ro, vR s2, vR s3, vI dr, vI dt, vR s6, vI pe, vR s8, vI gu, vI sh, vR s11, vI wo, vR s13, vI dn, vI mi, vI fl, vI tk, vI go], zI s6 (cy 0) 56 df, zO kk 11 [vR ta, vR kr, vR kl, vI nr, vI nw, vR sA, vR dA, vR pa, vR ki, vR kp, vI im, vR wa, vR or_, vR rq], zI rq (cy 0) 4 qf] hq9
      exfalso; omega
    · refine lv_iconst (v := iI 1) hx hb dX11_leaves_40 (by decide) ?_
      refine lv_goto (tgt := 45) hx hb dX11_leaves_41 (by decide) ?_
      refine cjrx_v [true, true, false, false] (fun pre9 => (vx_runV (As := [vI 1]) (rest := []) ⟨hx, hb, hml, hown, hts⟩ (k_needArgument l hl D cy sa kk ta kr kl sA dA pa ki kp wa or_ rq nr nw im qf 1 H.size (by first | exact hr_nr | omega) (by first | exact hr_nw | omega) (by first | exact hr_im | omega) (by show (0 : Int) ≤ 1 ∧ (1 : Int) ≤ 1; decide)) (cwV 1 hts gg_4 rfl rfl rfl (by decide +kernel) ⟨Nat.le_of_ble_eq_true rfl, Nat.le_of_ble_eq_true rfl⟩) ⟨pcW.blind, (va_recv hG.1 hP (ci := 11) (q0 := 2) rfl rfl), pre9⟩ rfl rfl hlv.1 rfl (lv_room (Nat.le_of_ble_eq_true rfl)) dX11_leaves_45 ⟨Nat.le_of_ble_eq_true rfl, Nat.le_of_ble_eq_true rfl⟩)) hP hD hS hA hG hT [2, 3] rfl (by decide +kernel) (fun E ux6 ce q9 H locs hp hq9 hS h1 h2 h3 => ?_) (fun u6 H locs hw6 hq9 hS => ?_)
      · obtain ⟨hP, hD⟩ := hq9
        obtain ⟨hp, hxg6⟩ := hp
        obtain rfl := hp
        exact vx_out (fun x h => (hex x h).elim) hlocks h1 h2 h3 (fun t ht hvm => ⟨((fun k => ([] : List Nat).getD k 0), (fun k => ([] : List Int).getD k 0), (fun k => ([(ux6.2.2 0)] : List (Nat → Int32)).getD k (fun _ => 0))), trivial, ⟨Or.inr (rfl), at9 ht hP hD [2, 3, 0, 1] (by decide +kernel) rfl⟩, hS.F ht⟩) hS.2.2 (Nat.le_of_ble_eq_true rfl) (Nat.le_of_ble_eq_true rfl)
      have hq6_0 : ((1 : Int) = 1) := hw6
      obtain ⟨hP, hD⟩ := pd9 [zO sA 6 [vI wi, vI ro, vR s2, vR s3, vI dr, vI dt, vR s6, vI pe, vR s8, vI gu, vI sh, vR s11, vI wo, vR s13, vI dn, vI mi, vI fl, vI tk, vI go], zI s6 (cy 0) 56 df, zO kk 11 [vR ta, vR kr, vR kl, vI nr, vI nw, vR sA, vR dA, vR pa, vR ki, vR kp, vI im, vR wa, vR or_, vR rq], zI rq (cy 0) 4 qf] hq9
      refine lv_iconst (v := iI 4) hx hb dX11_leaves_48 (by decide) ?_
      refine lv_iload_n hx hb dX11_leaves_49 rfl (lv_at hlv 1 rfl) ?_
      refine lv_imul hx hb dX11_leaves_50 ?_
      refine lt_e (e0 := 4 * n) (Int32.ofInt_mul _ _).symm (fun z_4 hz_4 => ?_)
      refine lv_iconst (v := iI 3) hx hb dX11_leaves_51 (by decide) ?_
      refine lv_iadd hx hb dX11_leaves_52 ?_
      refine lt_e (e0 := z_4 + 3) (Int32.ofInt_add _ _).symm (fun z_5 hz_5 => ?_)
      refine lv_istore_n (lv' := [(3, vI z_5), (0, vR kk), (1, vI n), (2, vI k)]) hx hb dX11_leaves_53 rfl hlv (by decide) rfl (fun ls hlv => ?_)
      refine lv_aload_n hx hb dX11_leaves_54 rfl (lv_at hlv 1 rfl) ?_
      refine va_get (D := D) (ci := 11) (v := vR sA) (C := RX11) (T := TX11) (N := 14) hx hb hts hi11 hown hG.1 hP 2 rfl rfl 5 (by decide) lf31 (fun _ h9 => h9) rfl dX11_leaves_55 ?_
      refine va_getN (D := D) (ci := 6) (v := vR s6) (C := RX6) (T := TX6) (N := 19) hx hb hts hi6 hown hG.1 hP 0 rfl rfl 6 (by decide) (va_Nw.use rfl (nF_K_180 hG.2.1)) (fun _ h9 => h9) rfl dX11_leaves_58 ?_
      refine lv_iload_n hx hb dX11_leaves_61 rfl (lv_at hlv 0 rfl) ?_
      refine va_iald hx hb hG.1 hP 1 0 rfl rfl (iI_in (by omega) (by decide)) dX11_leaves_62 ?_
      obtain ⟨z_6, ez_6, hz_6, lz_6⟩ := tab_rd hdf (e := z_5) (k := n) (c := 3) (a := 0) (b := 16) (by omega) (by omega) (by decide) (by omega) rfl rfl
      refine lt_i (y := iI z_6) ez_6 ?_
      refine lv_istore (lv' := [(4, vI z_6), (3, vI z_5), (0, vR kk), (1, vI n), (2, vI k)]) hx hb dX11_leaves_63 hlv (by decide) rfl (fun ls hlv => ?_)
      refine lv_aload_n hx hb dX11_leaves_65 rfl (lv_at hlv 2 rfl) ?_
      refine va_get (D := D) (ci := 11) (v := vR sA) (C := RX11) (T := TX11) (N := 14) hx hb hts hi11 hown hG.1 hP 2 rfl rfl 5 (by decide) lf31 (fun _ h9 => h9) rfl dX11_leaves_66 ?_
      refine va_getN (D := D) (ci := 6) (v := vR s6) (C := RX6) (T := TX6) (N := 19) hx hb hts hi6 hown hG.1 hP 0 rfl rfl 6 (by decide) (va_Nw.use rfl (nF_K_180 hG.2.1)) (fun _ h9 => h9) rfl dX11_leaves_69 ?_
      refine lv_iload_n hx hb dX11_leaves_72 rfl (lv_at hlv 1 rfl) ?_
      refine lv_iload_n hx hb dX11_leaves_73 rfl (lv_at hlv 4 rfl) ?_
      refine va_iast hx hb hG.1 hP hD hS 1 0 rfl rfl (iI_in (by omega) (by decide)) dX11_leaves_74 (fun H locs hP hD hS => ?_)
      obtain ⟨f_7, hf_7, hP, hD⟩ := pe9i (fun f_7 => tab_ 4 14 [0, 0, 0, 0] [15, 5, 99, 16] f_7) (fun f_7 => [zO sA 6 [vI wi, vI ro, vR s2, vR s3, vI dr, vI dt, vR s6, vI pe, vR s8, vI gu, vI sh, vR s11, vI wo, vR s13, vI dn, vI mi, vI fl, vI tk, vI go], zI s6 (cy 0) 56 f_7, zO kk 11 [vR ta, vR kr, vR kl, vI nr, vI nw, vR sA, vR dA, vR pa, vR ki, vR kp, vI im, vR wa, vR or_, vR rq], zI rq (cy 0) 4 qf]) (tab_wr hdf (e := z_5) (k := n) (c := 3) (a := 0) (b := 16) (by omega) (by omega) (by decide) (by omega) rfl rfl (by omega)) hP hD
      refine lv_iload hx hb dX11_leaves_75 (lv_at hlv 0 rfl) ?_
      refine W.widen (k := 2) (n := 12) (Nat.le_of_ble_eq_true rfl) (Nat.le_of_ble_eq_true rfl) ?_
      refine vx_ret ?_
      exact W.iret (v := iI z_6) hx hb hr (fun t ht hW => ⟨⟨iI z_6, ((fun k => ([] : List Nat).getD k 0), (fun k => ([z_6] : List Int).getD k 0), (fun k => ([f_7] : List (Nat → Int32)).getD k (fun _ => 0))), rfl, ⟨rfl, (by show ((-2147483648) ≤ z_6 ∧ z_6 ≤ 2147483647); first | exact rgw lz_6 (by decide) (by decide) | omega), hf_7⟩, at9 ht hP hD [2, 3, 0, 1] (by decide +kernel) rfl⟩, hS.F ht⟩) hS.2.2 dX11_leaves_77
def vs_k_person : List Cond := .code yX11_person cX11_person 3 (some .int) :: (([.fieldLink RX11 31 "KerbSplash" "now" "LKerbSplash$Street;"] : List Cond) ++ ((wsX110) ++ ((wsX60) ++ ((va_wsS RX11 130 yX11_isWithin vs_s_within) ++ ((wsV RX11 177 RX11 yX11_needElement vs_k_needElement) ++ ((wsV RX11 134 RX11 yX11_needArgument vs_k_needArgument) ++ ([])))))))
theorem gd_k_person : vs_k_person.all goodWord = true := gd_C (by decide +kernel) (gd_A (by decide +kernel) (gd_A (by decide +kernel) (gd_A (by decide +kernel) (gd_A (gd_S gd_s_within (by decide +kernel)) (gd_A (gd_V gd_k_needElement (by decide +kernel)) (gd_A (gd_V gd_k_needArgument (by decide +kernel)) rfl))))))
set_option maxHeartbeats 4000000 in
set_option maxRecDepth 100000 in
theorem k_person (l : Launch) (hl : l.stackTraces = false) (D : va_G) (cy : Nat → ClassId) (sa : Nat → Nat) (kk ta kr kl sA dA pa ki kp wa or_ rq : Nat) (nr nw im : Int) (qf : Nat → Int32) (s2 s3 s6 s8 s11 s13 : Nat) (wi ro dr dt pe gu sh wo dn mi fl tk go : Int) (pf : Nat → Int32) (n k : Int) (sz : Nat) (hr_nr : 0 ≤ nr ∧ nr ≤ 4) (hr_nw : 0 ≤ nw ∧ nw ≤ 4) (hr_im : 0 ≤ im ∧ im ≤ 3) (hr_wi : 0 ≤ wi ∧ wi ≤ 16) (hr_ro : 0 ≤ ro ∧ ro ≤ 6) (hr_dr : 0 ≤ dr ∧ dr ≤ 14) (hr_dt : 0 ≤ dt ∧ dt ≤ 6) (hr_pe : 0 ≤ pe ∧ pe ≤ 8) (hr_gu : 0 ≤ gu ∧ gu ≤ 20) (hr_sh : 0 ≤ sh ∧ sh ≤ 2) (hr_wo : 0 ≤ wo ∧ wo ≤ 8) (hr_dn : (-2147483648) ≤ dn ∧ dn ≤ 2147483647) (hr_mi : 0 ≤ mi ∧ mi ≤ 600) (hr_fl : (-2147483648) ≤ fl ∧ fl ≤ 2147483647) (hr_tk : (-2147483648) ≤ tk ∧ tk ≤ 2147483647) (hr_go : (-2147483648) ≤ go ∧ go ≤ 2147483647) (hr_n : (-2147483648) ≤ n ∧ n ≤ 2147483647) (hr_k : (-2147483648) ≤ k ∧ k ≤ 2147483647) (hpf : tab_ 4 28 [0, 0, (-2147483648), (-2147483648)] [15, 19, 2147483647, 2147483647] pf) : xI9 l yX11_person vs_k_person ({ frames := 7, cells := 2, slots := 12, locals := 121 }) D cy sa sz [vR kk, vI n, vI k] [zO kk 11 [vR ta, vR kr, vR kl, vI nr, vI nw, vR sA, vR dA, vR pa, vR ki, vR kp, vI im, vR wa, vR or_, vR rq], zI rq (cy 0) 4 qf, zO sA 6 [vI wi, vI ro, vR s2, vR s3, vI dr, vI dt, vR s6, vI pe, vR s8, vI gu, vI sh, vR s11, vI wo, vR s13, vI dn, vI mi, vI fl, vI tk, vI go], zI s8 (cy 0) 112 pf] (fun (r : Int32) (u : SV) => r = iI (u.2.1 0) ∧ ((-2147483648) ≤ u.2.1 0 ∧ u.2.1 0 ≤ 2147483647) ∧ tab_ 4 28 [0, 0, (-2147483648), (-2147483648)] [15, 19, 2147483647, 2147483647] pf) (fun u : SV => [zO kk 11 [vR ta, vR kr, vR kl, vI nr, vI nw, vR sA, vR dA, vR pa, vR ki, vR kp, vI im, vR wa, vR or_, vR rq], zI rq (cy 0) 4 qf, zO sA 6 [vI wi, vI ro, vR s2, vR s3, vI dr, vI dt, vR s6, vI pe, vR s8, vI gu, vI sh, vR s11, vI wo, vR s13, vI dn, vI mi, vI fl, vI tk, vI go], zI s8 (cy 0) 112 pf]) (fun (E : String) (u : SV) => (E = "java/util/NoSuchElementException" ∨ E = "java/lang/IllegalArgumentException")) (fun u : SV => [zO kk 11 [vR ta, vR kr, vR kl, vI nr, vI nw, vR sA, vR dA, vR pa, vR ki, vR kp, vI im, vR wa, vR or_, vR rq], zI rq (cy 0) 4 (u.2.2 0), zO sA 6 [vI wi, vI ro, vR s2, vR s3, vI dr, vI dt, vR s6, vI pe, vR s8, vI gu, vI sh, vR s11, vI wo, vR s13, vI dn, vI mi, vI fl, vI tk, vI go], zI s8 (cy 0) 112 pf]) 2 12 := by
  refine vx_ofW (cc := cX11_person) (maxL := 3) (ret := (some .int)) (by decide) rfl ?_
  intro p e s m args below meth c s₁ B hml hex hv
  obtain ⟨rfl, hsz, hP, hG, hD0, hT⟩ := hv
  have hx := B.exec
  have hb := B.bytes
  have hr := B.returns
  have hts := atoms_spec (ws := vs_k_person) B.pre
  have hown : s.vm.findClass RX11 = some m.cls := findClass_of_methodNamed B.named
  have hlocks := B.notSynchronized
  subst hsz
  have hD := hD0.self (sz := s.heap.size)
  generalize hAe : va_A [zO kk 11 [vR ta, vR kr, vR kl, vI nr, vI nw, vR sA, vR dA, vR pa, vR ki, vR kp, vI im, vR wa, vR or_, vR rq], zI rq (cy 0) 4 qf, zO sA 6 [vI wi, vI ro, vR s2, vR s3, vI dr, vI dt, vR s6, vI pe, vR s8, vI gu, vI sh, vR s11, vI wo, vR s13, vI dn, vI mi, vI fl, vI tk, vI go], zI s8 (cy 0) 112 pf] s.heap.size = A at hD hT ⊢
  have hA : ∀ q : Nat, s.heap.size ≤ q → A q := fun q h => by rw [← hAe]; exact Or.inr h
  have hS : va_S A s.heap s.heap [] := va_S.rf
  have hl0 := lv_entry ([vR kk, vI n, vI k]) (n := 3) (Nat.le_of_ble_eq_true rfl)
  rw [lg_entry_eq]
  generalize (lg_sl ([vR kk, vI n, vI k]) ++ List.replicate (3 - (lg_sl ([vR kk, vI n, vI k])).length) Slot.unset).toArray = ls at hl0 ⊢
  have hlv : lv_has ls 3 [(0, vR kk), (1, vI n), (2, vI k)] := hl0
  have lf31 := hts (.fieldLink RX11 31 "KerbSplash" "now" "LKerbSplash$Street;") (List.mem_of_getElem? (i := 1) rfl)
  have hi11 : ∀ w ∈ wsX110, w ∈ vs_k_person := fun w h => List.mem_cons_of_mem _ (List.mem_append_right _ (List.mem_append_left _ h))
  have hi6 : ∀ w ∈ wsX60, w ∈ vs_k_person := fun w h => List.mem_cons_of_mem _ (List.mem_append_right _ (List.mem_append_right _ (List.mem_append_left _ h)))
  have gg_2 : GoodIn vs_k_person (va_wsS RX11 130 yX11_isWithin vs_s_within) := goodIn_sub (fun w h => List.mem_cons_of_mem _ (List.mem_append_right _ (List.mem_append_right _ (List.mem_append_right _ (List.mem_append_left _ h))))) (gd_S gd_s_within (by decide +kernel))
  have gg_3 : GoodIn vs_k_person (wsV RX11 177 RX11 yX11_needElement vs_k_needElement) := goodIn_sub (fun w h => List.mem_cons_of_mem _ (List.mem_append_right _ (List.mem_append_right _ (List.mem_append_right _ (List.mem_append_right _ (List.mem_append_left _ h)))))) (gd_V gd_k_needElement (by decide +kernel))
  have gg_4 : GoodIn vs_k_person (wsV RX11 134 RX11 yX11_needArgument vs_k_needArgument) := goodIn_sub (fun w h => List.mem_cons_of_mem _ (List.mem_append_right _ (List.mem_append_right _ (List.mem_append_right _ (List.mem_append_right _ (List.mem_append_right _ (List.mem_append_left _ h))))))) (gd_V gd_k_needArgument (by decide +kernel))
  refine lv_aload_n hx hb dX11_person_0 rfl (lv_at hlv 0 rfl) ?_
  refine lv_iload_n hx hb dX11_person_1 rfl (lv_at hlv 1 rfl) ?_
  refine lv_iconst (v := iI 0) hx hb dX11_person_2 (by decide) ?_
  refine lv_aload_n hx hb dX11_person_3 rfl (lv_at hlv 0 rfl) ?_
  refine va_get (D := D) (ci := 11) (v := vR sA) (C := RX11) (T := TX11) (N := 14) hx hb hts hi11 hown hG.1 hP 0 rfl rfl 5 (by decide) lf31 (fun _ h9 => h9) rfl dX11_person_4 ?_
  refine va_getN (D := D) (ci := 6) (v := vI pe) (C := RX6) (T := TX6) (N := 19) hx hb hts hi6 hown hG.1 hP 2 rfl rfl 7 (by decide) (va_Nw.use rfl (nF_K_147 hG.2.1)) (fun _ h9 => h9) rfl dX11_person_7 ?_
  refine lv_iconst (v := iI 1) hx hb dX11_person_10 (by decide) ?_
  refine lv_isub hx hb dX11_person_11 ?_
  refine lt_e (e0 := pe - 1) (Int32.ofInt_sub _ _).symm (fun z_1 hz_1 => ?_)
  refine cjr_i [true, true, true, true] (fun pre9 => (va_runS (As := [vI n, vI 0, vI z_1]) (rest := [vR kk]) ⟨hx, hb, hml, hown, hts⟩ (s_within l hl D cy sa n 0 z_1 s.heap.size (by first | exact hr_n | omega) (by show ((-2147483648) : Int) ≤ 0 ∧ (0 : Int) ≤ 2147483647; decide) (by omega)) (va_cwS 3 hts gg_2 rfl rfl rfl (by decide +kernel) ⟨Nat.le_of_ble_eq_true rfl, Nat.le_of_ble_eq_true rfl⟩) ⟨pcW.blind, pre9⟩ rfl rfl hlv.1 rfl (lv_room (Nat.le_of_ble_eq_true rfl)) dX11_person_12 ⟨Nat.le_of_ble_eq_true rfl, Nat.le_of_ble_eq_true rfl⟩)) hP hD hS hA hG hT [] rfl (by decide +kernel) (fun r1 u1 H locs hw1 hq9 hS => ?_)
  obtain ⟨rfl, hq1_1, hq1_2, hq1_3⟩ := hw1
  obtain ⟨hP, hD⟩ := pd9 [zO kk 11 [vR ta, vR kr, vR kl, vI nr, vI nw, vR sA, vR dA, vR pa, vR ki, vR kp, vI im, vR wa, vR or_, vR rq], zI rq (cy 0) 4 qf, zO sA 6 [vI wi, vI ro, vR s2, vR s3, vI dr, vI dt, vR s6, vI pe, vR s8, vI gu, vI sh, vR s11, vI wo, vR s13, vI dn, vI mi, vI fl, vI tk, vI go], zI s8 (cy 0) 112 pf] hq9
  refine cjrx_v [false, false, true, true] (fun pre9 => (vx_runV (As := [vI (u1.2.1 0)]) (rest := []) ⟨hx, hb, hml, hown, hts⟩ (k_needElement l hl D cy sa kk ta kr kl sA dA pa ki kp wa or_ rq nr nw im qf (u1.2.1 0) H.size (by first | exact hr_nr | omega) (by first | exact hr_nw | omega) (by first | exact hr_im | omega) (by first | exact hq1_1 | omega)) (cwV 1 hts gg_3 rfl rfl rfl (by decide +kernel) ⟨Nat.le_of_ble_eq_true rfl, Nat.le_of_ble_eq_true rfl⟩) ⟨pcW.blind, (va_recv hG.1 hP (ci := 11) (q0 := 0) rfl rfl), pre9⟩ rfl rfl hlv.1 rfl (lv_room (Nat.le_of_ble_eq_true rfl)) dX11_person_15 ⟨Nat.le_of_ble_eq_true rfl, Nat.le_of_ble_eq_true rfl⟩)) hP hD hS hA hG hT [0, 1] rfl (by decide +kernel) (fun E ux2 ce q9 H locs hp hq9 hS h1 h2 h3 => ?_) (fun u2 H locs hw2 hq9 hS => ?_)
  · obtain ⟨hP, hD⟩ := hq9
    obtain ⟨hp, hxg2⟩ := hp
    obtain rfl := hp
    exact vx_out (fun x h => (hex x h).elim) hlocks h1 h2 h3 (fun t ht hvm => ⟨((fun k => ([] : List Nat).getD k 0), (fun k => ([] : List Int).getD k 0), (fun k => ([(ux2.2.2 0)] : List (Nat → Int32)).getD k (fun _ => 0))), trivial, ⟨Or.inl rfl, at9 ht hP hD [2, 3, 0, 1] (by decide +kernel) rfl⟩, hS.F ht⟩) hS.2.2 (Nat.le_of_ble_eq_true rfl) (Nat.le_of_ble_eq_true rfl)
  have hq2_0 : ((u1.2.1 0) = 1) := hw2
  obtain ⟨hP, hD⟩ := pd9 [zO sA 6 [vI wi, vI ro, vR s2, vR s3, vI dr, vI dt, vR s6, vI pe, vR s8, vI gu, vI sh, vR s11, vI wo, vR s13, vI dn, vI mi, vI fl, vI tk, vI go], zI s8 (cy 0) 112 pf, zO kk 11 [vR ta, vR kr, vR kl, vI nr, vI nw, vR sA, vR dA, vR pa, vR ki, vR kp, vI im, vR wa, vR or_, vR rq], zI rq (cy 0) 4 qf] hq9
  refine lv_aload_n hx hb dX11_person_18 rfl (lv_at hlv 0 rfl) ?_
  refine lv_iload_n hx hb dX11_person_19 rfl (lv_at hlv 2 rfl) ?_
  refine lv_iconst (v := iI 0) hx hb dX11_person_20 (by decide) ?_
  refine lv_iconst (v := iI 3) hx hb dX11_person_21 (by decide) ?_
  refine cjr_i [true, true, true, true] (fun pre9 => (va_runS (As := [vI k, vI 0, vI 3]) (rest := [vR kk]) ⟨hx, hb, hml, hown, hts⟩ (s_within l hl D cy sa k 0 3 H.size (by first | exact hr_k | omega) (by show ((-2147483648) : Int) ≤ 0 ∧ (0 : Int) ≤ 2147483647; decide) (by show ((-2147483648) : Int) ≤ 3 ∧ (3 : Int) ≤ 2147483647; decide)) (va_cwS 3 hts gg_2 rfl rfl rfl (by decide +kernel) ⟨Nat.le_of_ble_eq_true rfl, Nat.le_of_ble_eq_true rfl⟩) ⟨pcW.blind, pre9⟩ rfl rfl hlv.1 rfl (lv_room (Nat.le_of_ble_eq_true rfl)) dX11_person_22 ⟨Nat.le_of_ble_eq_true rfl, Nat.le_of_ble_eq_true rfl⟩)) hP hD hS hA hG hT [] rfl (by decide +kernel) (fun r3 u3 H locs hw3 hq9 hS => ?_)
  obtain ⟨rfl, hq3_1, hq3_2, hq3_3⟩ := hw3
  obtain ⟨hP, hD⟩ := pd9 [zO sA 6 [vI wi, vI ro, vR s2, vR s3, vI dr, vI dt, vR s6, vI pe, vR s8, vI gu, vI sh, vR s11, vI wo, vR s13, vI dn, vI mi, vI fl, vI tk, vI go], zI s8 (cy 0) 112 pf, zO kk 11 [vR ta, vR kr, vR kl, vI nr, vI nw, vR sA, vR dA, vR pa, vR ki, vR kp, vI im, vR wa, vR or_, vR rq], zI rq (cy 0) 4 qf] hq9
  refine cjrx_v [true, true, false, false] (fun pre9 => (vx_runV (As := [vI (u3.2.1 0)]) (rest := []) ⟨hx, hb, hml, hown, hts⟩ (k_needArgument l hl D cy sa kk ta kr kl sA dA pa ki kp wa or_ rq nr nw im qf (u3.2.1 0) H.size (by first | exact hr_nr | omega) (by first | exact hr_nw | omega) (by first | exact hr_im | omega) (by first | exact hq3_1 | omega)) (cwV 1 hts gg_4 rfl rfl rfl (by decide +kernel) ⟨Nat.le_of_ble_eq_true rfl, Nat.le_of_ble_eq_true rfl⟩) ⟨pcW.blind, (va_recv hG.1 hP (ci := 11) (q0 := 2) rfl rfl), pre9⟩ rfl rfl hlv.1 rfl (lv_room (Nat.le_of_ble_eq_true rfl)) dX11_person_25 ⟨Nat.le_of_ble_eq_true rfl, Nat.le_of_ble_eq_true rfl⟩)) hP hD hS hA hG hT [2, 3] rfl (by decide +kernel) (fun E ux4 ce q9 H locs hp hq9 hS h1 h2 h3 => ?_) (fun u4 H locs hw4 hq9 hS => ?_)
  · obtain ⟨hP, hD⟩ := hq9
    obtain ⟨hp, hxg4⟩ := hp
    obtain rfl := hp
    exact vx_out (fun x h => (hex x h).elim) hlocks h1 h2 h3 (fun t ht hvm => ⟨((fun k => ([] : List Nat).getD k 0), (fun k => ([] : List Int).getD k 0), (fun k => ([(ux4.2.2 0)] : List (Nat → Int32)).getD k (fun _ => 0))), trivial, ⟨Or.inr (rfl), at9 ht hP hD [2, 3, 0, 1] (by decide +kernel) rfl⟩, hS.F ht⟩) hS.2.2 (Nat.le_of_ble_eq_true rfl) (Nat.le_of_ble_eq_true rfl)
  have hq4_0 : ((u3.2.1 0) = 1) := hw4
  obtain ⟨hP, hD⟩ := pd9 [zO sA 6 [vI wi, vI ro, vR s2, vR s3, vI dr, vI dt, vR s6, vI pe, vR s8, vI gu, vI sh, vR s11, vI wo, vR s13, vI dn, vI mi, vI fl, vI tk, vI go], zI s8 (cy 0) 112 pf, zO kk 11 [vR ta, vR kr, vR kl, vI nr, vI nw, vR sA, vR dA, vR pa, vR ki, vR kp, vI im, vR wa, vR or_, vR rq], zI rq (cy 0) 4 qf] hq9
  refine lv_aload_n hx hb dX11_person_28 rfl (lv_at hlv 0 rfl) ?_
  refine va_get (D := D) (ci := 11) (v := vR sA) (C := RX11) (T := TX11) (N := 14) hx hb hts hi11 hown hG.1 hP 2 rfl rfl 5 (by decide) lf31 (fun _ h9 => h9) rfl dX11_person_29 ?_
  refine va_getN (D := D) (ci := 6) (v := vR s8) (C := RX6) (T := TX6) (N := 19) hx hb hts hi6 hown hG.1 hP 0 rfl rfl 8 (by decide) (va_Nw.use rfl (nF_K_186 hG.2.1)) (fun _ h9 => h9) rfl dX11_person_32 ?_
  refine lv_iconst (v := iI 4) hx hb dX11_person_35 (by decide) ?_
  refine lv_iload_n hx hb dX11_person_36 rfl (lv_at hlv 1 rfl) ?_
  refine lv_imul hx hb dX11_person_37 ?_
  refine lt_e (e0 := 4 * n) (Int32.ofInt_mul _ _).symm (fun z_2 hz_2 => ?_)
  refine lv_iload_n hx hb dX11_person_38 rfl (lv_at hlv 2 rfl) ?_
  refine lv_iadd hx hb dX11_person_39 ?_
  refine lt_e (e0 := z_2 + k) (Int32.ofInt_add _ _).symm (fun z_3 hz_3 => ?_)
  refine va_iald hx hb hG.1 hP 1 0 rfl rfl (iI_in (by omega) (by decide)) dX11_person_40 ?_
  refine lt_z (fun z_4 ez_4 lz_4 hz_4 => ?_)
  refine W.widen (k := 2) (n := 12) (Nat.le_of_ble_eq_true rfl) (Nat.le_of_ble_eq_true rfl) ?_
  refine vx_ret ?_
  exact W.iret (v := iI z_4) hx hb hr (fun t ht hW => ⟨⟨iI z_4, ((fun k => ([] : List Nat).getD k 0), (fun k => ([z_4] : List Int).getD k 0), (fun k => ([] : List (Nat → Int32)).getD k (fun _ => 0))), rfl, ⟨rfl, (by show ((-2147483648) ≤ z_4 ∧ z_4 ≤ 2147483647); omega), hpf⟩, at9 ht hP hD [2, 3, 0, 1] (by decide +kernel) rfl⟩, hS.F ht⟩) hS.2.2 dX11_person_41
def vs_k_does : List Cond := .code yX11_does cX11_does 2 (some .int) :: (([.fieldLink RX11 31 "KerbSplash" "now" "LKerbSplash$Street;", .initialized RX6, .instanceMethod yX6_doWork, .selects RX6 yX6_doWork yX6_doWork] : List Cond) ++ ((wsX110) ++ ((wsX60) ++ ((va_wsS RX11 130 yX11_isWithin vs_s_within) ++ ((wsV RX11 177 RX11 yX11_needElement vs_k_needElement) ++ ((vs_s_doWork) ++ ([])))))))
theorem gd_k_does : vs_k_does.all goodWord = true := gd_C (by decide +kernel) (gd_A (by decide +kernel) (gd_A (by decide +kernel) (gd_A (by decide +kernel) (gd_A (gd_S gd_s_within (by decide +kernel)) (gd_A (gd_V gd_k_needElement (by decide +kernel)) (gd_A gd_s_doWork rfl))))))
set_option maxHeartbeats 4000000 in
set_option maxRecDepth 100000 in
theorem k_does (l : Launch) (hl : l.stackTraces = false) (D : va_G) (cy : Nat → ClassId) (sa : Nat → Nat) (kk ta kr kl sA dA pa ki kp wa or_ rq : Nat) (nr nw im : Int) (qf : Nat → Int32) (s2 s3 s6 s8 s11 s13 : Nat) (wi ro dr dt pe gu sh wo dn mi fl tk go : Int) (hf df kf : Nat → Int32) (n : Int) (sz : Nat) (hr_nr : 0 ≤ nr ∧ nr ≤ 4) (hr_nw : 0 ≤ nw ∧ nw ≤ 4) (hr_im : 0 ≤ im ∧ im ≤ 3) (hr_wi : 0 ≤ wi ∧ wi ≤ 16) (hr_ro : 0 ≤ ro ∧ ro ≤ 6) (hr_dr : 0 ≤ dr ∧ dr ≤ 14) (hr_dt : 0 ≤ dt ∧ dt ≤ 6) (hr_pe : 0 ≤ pe ∧ pe ≤ 8) (hr_gu : 0 ≤ gu ∧ gu ≤ 20) (hr_sh : 0 ≤ sh ∧ sh ≤ 2) (hr_wo : 0 ≤ wo ∧ wo ≤ 8) (hr_dn : (-2147483648) ≤ dn ∧ dn ≤ 2147483647) (hr_mi : 0 ≤ mi ∧ mi ≤ 600) (hr_fl : (-2147483648) ≤ fl ∧ fl ≤ 2147483647) (hr_tk : (-2147483648) ≤ tk ∧ tk ≤ 2147483647) (hr_go : (-2147483648) ≤ go ∧ go ≤ 2147483647) (hr_n : (-2147483648) ≤ n ∧ n ≤ 2147483647) (hhf : inv_ 96 0 99 hf) (hdf : tab_ 4 14 [0, 0, 0, 0] [15, 5, 99, 16] df) (hkf : tw_ kf) : xI9 l yX11_does vs_k_does ({ frames := 7, cells := 1, slots := 6, locals := 121 }) D cy sa sz [vR kk, vI n] [zO kk 11 [vR ta, vR kr, vR kl, vI nr, vI nw, vR sA, vR dA, vR pa, vR ki, vR kp, vI im, vR wa, vR or_, vR rq], zI rq (cy 0) 4 qf, zO sA 6 [vI wi, vI ro, vR s2, vR s3, vI dr, vI dt, vR s6, vI pe, vR s8, vI gu, vI sh, vR s11, vI wo, vR s13, vI dn, vI mi, vI fl, vI tk, vI go], zI s2 (cy 0) 96 hf, zI s6 (cy 0) 56 df, zI s13 (cy 0) 40 kf] (fun (r : Int32) (u : SV) => r = iI (u.2.1 0) ∧ ((-2147483648) ≤ u.2.1 0 ∧ u.2.1 0 ≤ 2147483647) ∧ (0 ≤ u.2.1 1 ∧ u.2.1 1 ≤ 14) ∧ ((-2147483648) ≤ u.2.1 2 ∧ u.2.1 2 ≤ 2147483647) ∧ inv_ 96 0 99 (u.2.2 0) ∧ tab_ 4 14 [0, 0, 0, 0] [15, 5, 99, 16] (u.2.2 1) ∧ tw_ kf) (fun u : SV => [zO kk 11 [vR ta, vR kr, vR kl, vI nr, vI nw, vR sA, vR dA, vR pa, vR ki, vR kp, vI im, vR wa, vR or_, vR rq], zI rq (cy 0) 4 qf, zO sA 6 [vI wi, vI ro, vR s2, vR s3, vI (u.2.1 1), vI dt, vR s6, vI pe, vR s8, vI gu, vI sh, vR s11, vI wo, vR s13, vI (u.2.1 2), vI mi, vI fl, vI tk, vI go], zI s2 (cy 0) 96 (u.2.2 0), zI s6 (cy 0) 56 (u.2.2 1), zI s13 (cy 0) 40 kf]) (fun (E : String) (u : SV) => (E = "java/util/NoSuchElementException")) (fun u : SV => [zO kk 11 [vR ta, vR kr, vR kl, vI nr, vI nw, vR sA, vR dA, vR pa, vR ki, vR kp, vI im, vR wa, vR or_, vR rq], zI rq (cy 0) 4 (u.2.2 0), zO sA 6 [vI wi, vI ro, vR s2, vR s3, vI dr, vI dt, vR s6, vI pe, vR s8, vI gu, vI sh, vR s11, vI wo, vR s13, vI dn, vI mi, vI fl, vI tk, vI go], zI s2 (cy 0) 96 hf, zI s6 (cy 0) 56 df, zI s13 (cy 0) 40 kf]) 1 6 := by
  refine vx_ofW (cc := cX11_does) (maxL := 2) (ret := (some .int)) (by decide) rfl ?_
  intro p e s m args below meth c s₁ B hml hex hv
  obtain ⟨rfl, hsz, hP, hG, hD0, hT⟩ := hv
  have hx := B.exec
  have hb := B.bytes
  have hr := B.returns
  have hts := atoms_spec (ws := vs_k_does) B.pre
  have hown : s.vm.findClass RX11 = some m.cls := findClass_of_methodNamed B.named
  have hlocks := B.notSynchronized
  subst hsz
  have hD := hD0.self (sz := s.heap.size)
  generalize hAe : va_A [zO kk 11 [vR ta, vR kr, vR kl, vI nr, vI nw, vR sA, vR dA, vR pa, vR ki, vR kp, vI im, vR wa, vR or_, vR rq], zI rq (cy 0) 4 qf, zO sA 6 [vI wi, vI ro, vR s2, vR s3, vI dr, vI dt, vR s6, vI pe, vR s8, vI gu, vI sh, vR s11, vI wo, vR s13, vI dn, vI mi, vI fl, vI tk, vI go], zI s2 (cy 0) 96 hf, zI s6 (cy 0) 56 df, zI s13 (cy 0) 40 kf] s.heap.size = A at hD hT ⊢
  have hA : ∀ q : Nat, s.heap.size ≤ q → A q := fun q h => by rw [← hAe]; exact Or.inr h
  have hS : va_S A s.heap s.heap [] := va_S.rf
  have hl0 := lv_entry ([vR kk, vI n]) (n := 2) (Nat.le_of_ble_eq_true rfl)
  rw [lg_entry_eq]
  generalize (lg_sl ([vR kk, vI n]) ++ List.replicate (2 - (lg_sl ([vR kk, vI n])).length) Slot.unset).toArray = ls at hl0 ⊢
  have hlv : lv_has ls 2 [(0, vR kk), (1, vI n)] := hl0
  have lf31 := hts (.fieldLink RX11 31 "KerbSplash" "now" "LKerbSplash$Street;") (List.mem_of_getElem? (i := 1) rfl)
  have hi11 : ∀ w ∈ wsX110, w ∈ vs_k_does := fun w h => List.mem_cons_of_mem _ (List.mem_append_right _ (List.mem_append_left _ h))
  have hi6 : ∀ w ∈ wsX60, w ∈ vs_k_does := fun w h => List.mem_cons_of_mem _ (List.mem_append_right _ (List.mem_append_right _ (List.mem_append_left _ h)))
  have gg_2 : GoodIn vs_k_does (va_wsS RX11 130 yX11_isWithin vs_s_within) := goodIn_sub (fun w h => List.mem_cons_of_mem _ (List.mem_append_right _ (List.mem_append_right _ (List.mem_append_right _ (List.mem_append_left _ h))))) (gd_S gd_s_within (by decide +kernel))
  have gg_3 : GoodIn vs_k_does (wsV RX11 177 RX11 yX11_needElement vs_k_needElement) := goodIn_sub (fun w h => List.mem_cons_of_mem _ (List.mem_append_right _ (List.mem_append_right _ (List.mem_append_right _ (List.mem_append_right _ (List.mem_append_left _ h)))))) (gd_V gd_k_needElement (by decide +kernel))
  have gg_4 : GoodIn vs_k_does (vs_s_doWork) := goodIn_sub (fun w h => List.mem_cons_of_mem _ (List.mem_append_right _ (List.mem_append_right _ (List.mem_append_right _ (List.mem_append_right _ (List.mem_append_right _ (List.mem_append_left _ h))))))) gd_s_doWork
  have ini_RX6 := hts (.initialized RX6) (List.mem_of_getElem? (i := 2) rfl)
  have im_X6_doWork := hts (.instanceMethod yX6_doWork) (List.mem_of_getElem? (i := 3) rfl)
  have se_X6_doWork := hts (.selects RX6 yX6_doWork yX6_doWork) (List.mem_of_getElem? (i := 4) rfl)
  refine lv_aload_n hx hb dX11_does_0 rfl (lv_at hlv 0 rfl) ?_
  refine lv_iload_n hx hb dX11_does_1 rfl (lv_at hlv 1 rfl) ?_
  refine lv_iconst (v := iI 0) hx hb dX11_does_2 (by decide) ?_
  refine lv_aload_n hx hb dX11_does_3 rfl (lv_at hlv 0 rfl) ?_
  refine va_get (D := D) (ci := 11) (v := vR sA) (C := RX11) (T := TX11) (N := 14) hx hb hts hi11 hown hG.1 hP 0 rfl rfl 5 (by decide) lf31 (fun _ h9 => h9) rfl dX11_does_4 ?_
  refine va_getN (D := D) (ci := 6) (v := vI wo) (C := RX6) (T := TX6) (N := 19) hx hb hts hi6 hown hG.1 hP 2 rfl rfl 12 (by decide) (va_Nw.use rfl (nF_K_153 hG.2.1)) (fun _ h9 => h9) rfl dX11_does_7 ?_
  refine lv_iconst (v := iI 1) hx hb dX11_does_10 (by decide) ?_
  refine lv_isub hx hb dX11_does_11 ?_
  refine lt_e (e0 := wo - 1) (Int32.ofInt_sub _ _).symm (fun z_1 hz_1 => ?_)
  refine cjr_i [true, true, true, true, true, true] (fun pre9 => (va_runS (As := [vI n, vI 0, vI z_1]) (rest := [vR kk]) ⟨hx, hb, hml, hown, hts⟩ (s_within l hl D cy sa n 0 z_1 s.heap.size (by first | exact hr_n | omega) (by show ((-2147483648) : Int) ≤ 0 ∧ (0 : Int) ≤ 2147483647; decide) (by omega)) (va_cwS 3 hts gg_2 rfl rfl rfl (by decide +kernel) ⟨Nat.le_of_ble_eq_true rfl, Nat.le_of_ble_eq_true rfl⟩) ⟨pcW.blind, pre9⟩ rfl rfl hlv.1 rfl (lv_room (Nat.le_of_ble_eq_true rfl)) dX11_does_12 ⟨Nat.le_of_ble_eq_true rfl, Nat.le_of_ble_eq_true rfl⟩)) hP hD hS hA hG hT [] rfl (by decide +kernel) (fun r1 u1 H locs hw1 hq9 hS => ?_)
  obtain ⟨rfl, hq1_1, hq1_2, hq1_3⟩ := hw1
  obtain ⟨hP, hD⟩ := pd9 [zO kk 11 [vR ta, vR kr, vR kl, vI nr, vI nw, vR sA, vR dA, vR pa, vR ki, vR kp, vI im, vR wa, vR or_, vR rq], zI rq (cy 0) 4 qf, zO sA 6 [vI wi, vI ro, vR s2, vR s3, vI dr, vI dt, vR s6, vI pe, vR s8, vI gu, vI sh, vR s11, vI wo, vR s13, vI dn, vI mi, vI fl, vI tk, vI go], zI s2 (cy 0) 96 hf, zI s6 (cy 0) 56 df, zI s13 (cy 0) 40 kf] hq9
  refine cjrx_v [false, false, true, true, true, true] (fun pre9 => (vx_runV (As := [vI (u1.2.1 0)]) (rest := []) ⟨hx, hb, hml, hown, hts⟩ (k_needElement l hl D cy sa kk ta kr kl sA dA pa ki kp wa or_ rq nr nw im qf (u1.2.1 0) H.size (by first | exact hr_nr | omega) (by first | exact hr_nw | omega) (by first | exact hr_im | omega) (by first | exact hq1_1 | omega)) (cwV 1 hts gg_3 rfl rfl rfl (by decide +kernel) ⟨Nat.le_of_ble_eq_true rfl, Nat.le_of_ble_eq_true rfl⟩) ⟨pcW.blind, (va_recv hG.1 hP (ci := 11) (q0 := 0) rfl rfl), pre9⟩ rfl rfl hlv.1 rfl (lv_room (Nat.le_of_ble_eq_true rfl)) dX11_does_15 ⟨Nat.le_of_ble_eq_true rfl, Nat.le_of_ble_eq_true rfl⟩)) hP hD hS hA hG hT [0, 1] rfl (by decide +kernel) (fun E ux2 ce q9 H locs hp hq9 hS h1 h2 h3 => ?_) (fun u2 H locs hw2 hq9 hS => ?_)
  · obtain ⟨hP, hD⟩ := hq9
    obtain ⟨hp, hxg2⟩ := hp
    obtain rfl := hp
    exact vx_out (fun x h => (hex x h).elim) hlocks h1 h2 h3 (fun t ht hvm => ⟨((fun k => ([] : List Nat).getD k 0), (fun k => ([] : List Int).getD k 0), (fun k => ([(ux2.2.2 0)] : List (Nat → Int32)).getD k (fun _ => 0))), trivial, ⟨rfl, at9 ht hP hD [4, 5, 0, 1, 2, 3] (by decide +kernel) rfl⟩, hS.F ht⟩) hS.2.2 (Nat.le_of_ble_eq_true rfl) (Nat.le_of_ble_eq_true rfl)
  have hq2_0 : ((u1.2.1 0) = 1) := hw2
  obtain ⟨hP, hD⟩ := pd9 [zO sA 6 [vI wi, vI ro, vR s2, vR s3, vI dr, vI dt, vR s6, vI pe, vR s8, vI gu, vI sh, vR s11, vI wo, vR s13, vI dn, vI mi, vI fl, vI tk, vI go], zI s2 (cy 0) 96 hf, zI s6 (cy 0) 56 df, zI s13 (cy 0) 40 kf, zO kk 11 [vR ta, vR kr, vR kl, vI nr, vI nw, vR sA, vR dA, vR pa, vR ki, vR kp, vI im, vR wa, vR or_, vR rq], zI rq (cy 0) 4 qf] hq9
  refine lv_aload_n hx hb dX11_does_18 rfl (lv_at hlv 0 rfl) ?_
  refine va_get (D := D) (ci := 11) (v := vR sA) (C := RX11) (T := TX11) (N := 14) hx hb hts hi11 hown hG.1 hP 4 rfl rfl 5 (by decide) lf31 (fun _ h9 => h9) rfl dX11_does_19 ?_
  refine lv_iload_n hx hb dX11_does_22 rfl (lv_at hlv 1 rfl) ?_
  refine cjr_i [false, false, false, false, true, true] (fun pre9 => (va_runVN (host := "KerbSplash") (As := [vI n]) (rest := []) ⟨hx, hb, hml, hown, hts⟩ (s_doWork l hl D cy sa sA s2 s3 s6 s8 s11 s13 wi ro dr dt pe gu sh wo dn mi fl tk go hf df kf n H.size (by first | exact hr_wi | omega) (by first | exact hr_ro | omega) (by first | exact hr_dr | omega) (by first | exact hr_dt | omega) (by first | exact hr_pe | omega) (by first | exact hr_gu | omega) (by first | exact hr_sh | omega) (by first | exact hr_wo | omega) (by first | exact hr_dn | omega) (by first | exact hr_mi | omega) (by first | exact hr_fl | omega) (by first | exact hr_tk | omega) (by first | exact hr_go | omega) (by omega) hhf hdf hkf) ⟨va_cnB 1 hts gg_4 rfl rfl rfl (nM_K_192 hG.2.1) ini_RX6 (by decide +kernel) ⟨Nat.le_of_ble_eq_true rfl, Nat.le_of_ble_eq_true rfl⟩, im_X6_doWork, se_X6_doWork⟩ ⟨pcW.blind, (va_recv hG.1 hP (ci := 6) (q0 := 0) rfl rfl), pre9⟩ rfl rfl hlv.1 rfl (lv_room (Nat.le_of_ble_eq_true rfl)) dX11_does_23 ⟨Nat.le_of_ble_eq_true rfl, Nat.le_of_ble_eq_true rfl⟩)) hP hD hS hA hG hT [0, 1, 2, 3] rfl (by decide +kernel) (fun r3 u3 H locs hw3 hq9 hS => ?_)
  obtain ⟨rfl, hq3_1, hq3_2, hq3_3, hq3_4, hq3_5, hq3_6⟩ := hw3
  obtain ⟨hP, hD⟩ := pd9 [zO kk 11 [vR ta, vR kr, vR kl, vI nr, vI nw, vR sA, vR dA, vR pa, vR ki, vR kp, vI im, vR wa, vR or_, vR rq], zI rq (cy 0) 4 qf, zO sA 6 [vI wi, vI ro, vR s2, vR s3, vI (u3.2.1 0), vI dt, vR s6, vI pe, vR s8, vI gu, vI sh, vR s11, vI wo, vR s13, vI (u3.2.1 1), vI mi, vI fl, vI tk, vI go], zI s2 (cy 0) 96 (u3.2.2 0), zI s6 (cy 0) 56 (u3.2.2 1), zI s13 (cy 0) 40 kf] hq9
  refine iz_eq (tgt := 33) hx hb dX11_does_26 (by decide) (by first | exact rgw hq3_3 (by decide) (by decide) | omega) (fun c_2 => ?_) (fun c_2 => ?_)
  · refine lv_iconst (v := iI 0) hx hb dX11_does_33 (by decide) ?_
    refine W.widen (k := 1) (n := 6) (Nat.le_of_ble_eq_true rfl) (Nat.le_of_ble_eq_true rfl) ?_
    refine vx_ret ?_
    exact W.iret (v := iI 0) hx hb hr (fun t ht hW => ⟨⟨iI 0, ((fun k => ([] : List Nat).getD k 0), (fun k => ([0, (u3.2.1 0), (u3.2.1 1)] : List Int).getD k 0), (fun k => ([(u3.2.2 0), (u3.2.2 1)] : List (Nat → Int32)).getD k (fun _ => 0))), rfl, ⟨rfl, (by show ((-2147483648) ≤ 0 ∧ 0 ≤ 2147483647); show ((-2147483648) : Int) ≤ 0 ∧ (0 : Int) ≤ 2147483647; decide), (by show (0 ≤ (u3.2.1 0) ∧ (u3.2.1 0) ≤ 14); first | exact hq3_1 | omega), (by show ((-2147483648) ≤ (u3.2.1 1) ∧ (u3.2.1 1) ≤ 2147483647); first | exact hq3_2 | omega), hq3_4, hq3_5, hq3_6⟩, at9 ht hP hD [0, 1, 2, 3, 4, 5] (by decide +kernel) rfl⟩, hS.F ht⟩) hS.2.2 dX11_does_34
  · refine lv_iconst (v := iI 1) hx hb dX11_does_29 (by decide) ?_
    refine lv_goto (tgt := 34) hx hb dX11_does_30 (by decide) ?_
    refine W.widen (k := 1) (n := 6) (Nat.le_of_ble_eq_true rfl) (Nat.le_of_ble_eq_true rfl) ?_
    refine vx_ret ?_
    exact W.iret (v := iI 1) hx hb hr (fun t ht hW => ⟨⟨iI 1, ((fun k => ([] : List Nat).getD k 0), (fun k => ([1, (u3.2.1 0), (u3.2.1 1)] : List Int).getD k 0), (fun k => ([(u3.2.2 0), (u3.2.2 1)] : List (Nat → Int32)).getD k (fun _ => 0))), rfl, ⟨rfl, (by show ((-2147483648) ≤ 1 ∧ 1 ≤ 2147483647); show ((-2147483648) : Int) ≤ 1 ∧ (1 : Int) ≤ 2147483647; decide), (by show (0 ≤ (u3.2.1 0) ∧ (u3.2.1 0) ≤ 14); first | exact hq3_1 | omega), (by show ((-2147483648) ≤ (u3.2.1 1) ∧ (u3.2.1 1) ≤ 2147483647); first | exact hq3_2 | omega), hq3_4, hq3_5, hq3_6⟩, at9 ht hP hD [0, 1, 2, 3, 4, 5] (by decide +kernel) rfl⟩, hS.F ht⟩) hS.2.2 dX11_does_34
def vs_k_sums : List Cond := .code yX11_sums cX11_sums 2 (some .int) :: (([.fieldLink RX11 31 "KerbSplash" "now" "LKerbSplash$Street;", .initialized RX6, .instanceMethod yX6_standing, .selects RX6 yX6_standing yX6_standing] : List Cond) ++ ((va_wsS RX11 130 yX11_isWithin vs_s_within) ++ ((wsV RX11 134 RX11 yX11_needArgument vs_k_needArgument) ++ ((wsX110) ++ ((wsX60) ++ ((vs_s_standing) ++ ([])))))))
theorem gd_k_sums : vs_k_sums.all goodWord = true := gd_C (by decide +kernel) (gd_A (by decide +kernel) (gd_A (gd_S gd_s_within (by decide +kernel)) (gd_A (gd_V gd_k_needArgument (by decide +kernel)) (gd_A (by decide +kernel) (gd_A (by decide +kernel) (gd_A gd_s_standing rfl))))))
set_option maxHeartbeats 4000000 in
set_option maxRecDepth 100000 in
theorem k_sums (l : Launch) (hl : l.stackTraces = false) (D : va_G) (cy : Nat → ClassId) (sa : Nat → Nat) (kk ta kr kl sA dA pa ki kp wa or_ rq : Nat) (nr nw im : Int) (qf : Nat → Int32) (s2 s3 s6 s8 s11 s13 : Nat) (wi ro dr dt pe gu sh wo dn mi fl tk go : Int) (wf : Nat → Int32) (n : Int) (sz : Nat) (hr_nr : 0 ≤ nr ∧ nr ≤ 4) (hr_nw : 0 ≤ nw ∧ nw ≤ 4) (hr_im : 0 ≤ im ∧ im ≤ 3) (hr_wi : 0 ≤ wi ∧ wi ≤ 16) (hr_ro : 0 ≤ ro ∧ ro ≤ 6) (hr_dr : 0 ≤ dr ∧ dr ≤ 14) (hr_dt : 0 ≤ dt ∧ dt ≤ 6) (hr_pe : 0 ≤ pe ∧ pe ≤ 8) (hr_gu : 0 ≤ gu ∧ gu ≤ 20) (hr_sh : 0 ≤ sh ∧ sh ≤ 2) (hr_wo : 0 ≤ wo ∧ wo ≤ 8) (hr_dn : (-2147483648) ≤ dn ∧ dn ≤ 2147483647) (hr_mi : 0 ≤ mi ∧ mi ≤ 600) (hr_fl : (-2147483648) ≤ fl ∧ fl ≤ 2147483647) (hr_tk : (-2147483648) ≤ tk ∧ tk ≤ 2147483647) (hr_go : (-2147483648) ≤ go ∧ go ≤ 2147483647) (hr_n : (-2147483648) ≤ n ∧ n ≤ 2147483647) : xI9 l yX11_sums vs_k_sums ({ frames := 7, cells := 1, slots := 6, locals := 121 }) D cy sa sz [vR kk, vI n] [zO kk 11 [vR ta, vR kr, vR kl, vI nr, vI nw, vR sA, vR dA, vR pa, vR ki, vR kp, vI im, vR wa, vR or_, vR rq], zI rq (cy 0) 4 qf, zO sA 6 [vI wi, vI ro, vR s2, vR s3, vI dr, vI dt, vR s6, vI pe, vR s8, vI gu, vI sh, vR s11, vI wo, vR s13, vI dn, vI mi, vI fl, vI tk, vI go], zI s3 (cy 0) 96 wf] (fun (r : Int32) (u : SV) => r = iI (u.2.1 0) ∧ ((-2147483648) ≤ u.2.1 0 ∧ u.2.1 0 ≤ 2147483647)) (fun u : SV => [zO kk 11 [vR ta, vR kr, vR kl, vI nr, vI nw, vR sA, vR dA, vR pa, vR ki, vR kp, vI im, vR wa, vR or_, vR rq], zI rq (cy 0) 4 qf, zO sA 6 [vI wi, vI ro, vR s2, vR s3, vI dr, vI dt, vR s6, vI pe, vR s8, vI gu, vI sh, vR s11, vI wo, vR s13, vI dn, vI mi, vI fl, vI tk, vI go], zI s3 (cy 0) 96 wf]) (fun (E : String) (u : SV) => (E = "java/lang/IllegalArgumentException")) (fun u : SV => [zO kk 11 [vR ta, vR kr, vR kl, vI nr, vI nw, vR sA, vR dA, vR pa, vR ki, vR kp, vI im, vR wa, vR or_, vR rq], zI rq (cy 0) 4 (u.2.2 0), zO sA 6 [vI wi, vI ro, vR s2, vR s3, vI dr, vI dt, vR s6, vI pe, vR s8, vI gu, vI sh, vR s11, vI wo, vR s13, vI dn, vI mi, vI fl, vI tk, vI go], zI s3 (cy 0) 96 wf]) 1 6 := by
  refine vx_ofW (cc := cX11_sums) (maxL := 2) (ret := (some .int)) (by decide) rfl ?_
  intro p e s m args below meth c s₁ B hml hex hv
  obtain ⟨rfl, hsz, hP, hG, hD0, hT⟩ := hv
  have hx := B.exec
  have hb := B.bytes
  have hr := B.returns
  have hts := atoms_spec (ws := vs_k_sums) B.pre
  have hown : s.vm.findClass RX11 = some m.cls := findClass_of_methodNamed B.named
  have hlocks := B.notSynchronized
  subst hsz
  have hD := hD0.self (sz := s.heap.size)
  generalize hAe : va_A [zO kk 11 [vR ta, vR kr, vR kl, vI nr, vI nw, vR sA, vR dA, vR pa, vR ki, vR kp, vI im, vR wa, vR or_, vR rq], zI rq (cy 0) 4 qf, zO sA 6 [vI wi, vI ro, vR s2, vR s3, vI dr, vI dt, vR s6, vI pe, vR s8, vI gu, vI sh, vR s11, vI wo, vR s13, vI dn, vI mi, vI fl, vI tk, vI go], zI s3 (cy 0) 96 wf] s.heap.size = A at hD hT ⊢
  have hA : ∀ q : Nat, s.heap.size ≤ q → A q := fun q h => by rw [← hAe]; exact Or.inr h
  have hS : va_S A s.heap s.heap [] := va_S.rf
  have hl0 := lv_entry ([vR kk, vI n]) (n := 2) (Nat.le_of_ble_eq_true rfl)
  rw [lg_entry_eq]
  generalize (lg_sl ([vR kk, vI n]) ++ List.replicate (2 - (lg_sl ([vR kk, vI n])).length) Slot.unset).toArray = ls at hl0 ⊢
  have hlv : lv_has ls 2 [(0, vR kk), (1, vI n)] := hl0
  have gg_0 : GoodIn vs_k_sums (va_wsS RX11 130 yX11_isWithin vs_s_within) := goodIn_sub (fun w h => List.mem_cons_of_mem _ (List.mem_append_right _ (List.mem_append_left _ h))) (gd_S gd_s_within (by decide +kernel))
  have gg_1 : GoodIn vs_k_sums (wsV RX11 134 RX11 yX11_needArgument vs_k_needArgument) := goodIn_sub (fun w h => List.mem_cons_of_mem _ (List.mem_append_right _ (List.mem_append_right _ (List.mem_append_left _ h)))) (gd_V gd_k_needArgument (by decide +kernel))
  have lf31 := hts (.fieldLink RX11 31 "KerbSplash" "now" "LKerbSplash$Street;") (List.mem_of_getElem? (i := 1) rfl)
  have hi11 : ∀ w ∈ wsX110, w ∈ vs_k_sums := fun w h => List.mem_cons_of_mem _ (List.mem_append_right _ (List.mem_append_right _ (List.mem_append_right _ (List.mem_append_left _ h))))
  have hi6 : ∀ w ∈ wsX60, w ∈ vs_k_sums := fun w h => List.mem_cons_of_mem _ (List.mem_append_right _ (List.mem_append_right _ (List.mem_append_right _ (List.mem_append_right _ (List.mem_append_left _ h)))))
  have gg_4 : GoodIn vs_k_sums (vs_s_standing) := goodIn_sub (fun w h => List.mem_cons_of_mem _ (List.mem_append_right _ (List.mem_append_right _ (List.mem_append_right _ (List.mem_append_right _ (List.mem_append_right _ (List.mem_append_left _ h))))))) gd_s_standing
  have ini_RX6 := hts (.initialized RX6) (List.mem_of_getElem? (i := 2) rfl)
  have im_X6_standing := hts (.instanceMethod yX6_standing) (List.mem_of_getElem? (i := 3) rfl)
  have se_X6_standing := hts (.selects RX6 yX6_standing yX6_standing) (List.mem_of_getElem? (i := 4) rfl)
  refine lv_aload_n hx hb dX11_sums_0 rfl (lv_at hlv 0 rfl) ?_
  refine lv_iload_n hx hb dX11_sums_1 rfl (lv_at hlv 1 rfl) ?_
  refine lv_iconst (v := iI 0) hx hb dX11_sums_2 (by decide) ?_
  refine lv_iconst (v := iI 3) hx hb dX11_sums_3 (by decide) ?_
  refine cjr_i [true, true, true, true] (fun pre9 => (va_runS (As := [vI n, vI 0, vI 3]) (rest := [vR kk]) ⟨hx, hb, hml, hown, hts⟩ (s_within l hl D cy sa n 0 3 s.heap.size (by first | exact hr_n | omega) (by show ((-2147483648) : Int) ≤ 0 ∧ (0 : Int) ≤ 2147483647; decide) (by show ((-2147483648) : Int) ≤ 3 ∧ (3 : Int) ≤ 2147483647; decide)) (va_cwS 3 hts gg_0 rfl rfl rfl (by decide +kernel) ⟨Nat.le_of_ble_eq_true rfl, Nat.le_of_ble_eq_true rfl⟩) ⟨pcW.blind, pre9⟩ rfl rfl hlv.1 rfl (lv_room (Nat.le_of_ble_eq_true rfl)) dX11_sums_4 ⟨Nat.le_of_ble_eq_true rfl, Nat.le_of_ble_eq_true rfl⟩)) hP hD hS hA hG hT [] rfl (by decide +kernel) (fun r1 u1 H locs hw1 hq9 hS => ?_)
  obtain ⟨rfl, hq1_1, hq1_2, hq1_3⟩ := hw1
  obtain ⟨hP, hD⟩ := pd9 [zO kk 11 [vR ta, vR kr, vR kl, vI nr, vI nw, vR sA, vR dA, vR pa, vR ki, vR kp, vI im, vR wa, vR or_, vR rq], zI rq (cy 0) 4 qf, zO sA 6 [vI wi, vI ro, vR s2, vR s3, vI dr, vI dt, vR s6, vI pe, vR s8, vI gu, vI sh, vR s11, vI wo, vR s13, vI dn, vI mi, vI fl, vI tk, vI go], zI s3 (cy 0) 96 wf] hq9
  refine cjrx_v [false, false, true, true] (fun pre9 => (vx_runV (As := [vI (u1.2.1 0)]) (rest := []) ⟨hx, hb, hml, hown, hts⟩ (k_needArgument l hl D cy sa kk ta kr kl sA dA pa ki kp wa or_ rq nr nw im qf (u1.2.1 0) H.size (by first | exact hr_nr | omega) (by first | exact hr_nw | omega) (by first | exact hr_im | omega) (by first | exact hq1_1 | omega)) (cwV 1 hts gg_1 rfl rfl rfl (by decide +kernel) ⟨Nat.le_of_ble_eq_true rfl, Nat.le_of_ble_eq_true rfl⟩) ⟨pcW.blind, (va_recv hG.1 hP (ci := 11) (q0 := 0) rfl rfl), pre9⟩ rfl rfl hlv.1 rfl (lv_room (Nat.le_of_ble_eq_true rfl)) dX11_sums_7 ⟨Nat.le_of_ble_eq_true rfl, Nat.le_of_ble_eq_true rfl⟩)) hP hD hS hA hG hT [0, 1] rfl (by decide +kernel) (fun E ux2 ce q9 H locs hp hq9 hS h1 h2 h3 => ?_) (fun u2 H locs hw2 hq9 hS => ?_)
  · obtain ⟨hP, hD⟩ := hq9
    obtain ⟨hp, hxg2⟩ := hp
    obtain rfl := hp
    exact vx_out (fun x h => (hex x h).elim) hlocks h1 h2 h3 (fun t ht hvm => ⟨((fun k => ([] : List Nat).getD k 0), (fun k => ([] : List Int).getD k 0), (fun k => ([(ux2.2.2 0)] : List (Nat → Int32)).getD k (fun _ => 0))), trivial, ⟨rfl, at9 ht hP hD [2, 3, 0, 1] (by decide +kernel) rfl⟩, hS.F ht⟩) hS.2.2 (Nat.le_of_ble_eq_true rfl) (Nat.le_of_ble_eq_true rfl)
  have hq2_0 : ((u1.2.1 0) = 1) := hw2
  obtain ⟨hP, hD⟩ := pd9 [zO sA 6 [vI wi, vI ro, vR s2, vR s3, vI dr, vI dt, vR s6, vI pe, vR s8, vI gu, vI sh, vR s11, vI wo, vR s13, vI dn, vI mi, vI fl, vI tk, vI go], zI s3 (cy 0) 96 wf, zO kk 11 [vR ta, vR kr, vR kl, vI nr, vI nw, vR sA, vR dA, vR pa, vR ki, vR kp, vI im, vR wa, vR or_, vR rq], zI rq (cy 0) 4 qf] hq9
  refine lv_iload_n hx hb dX11_sums_10 rfl (lv_at hlv 1 rfl) ?_
  by_cases k_1 : n = 0
  · refine lt_i (y := iI 0) (by rw [k_1]) ?_
    refine lv_tableIn (tgt := 36) hx hb dX11_sums_11 (by decide) (by decide) rfl (by decide) ?_
    refine lv_aload_n hx hb dX11_sums_36 rfl (lv_at hlv 0 rfl) ?_
    refine va_get (D := D) (ci := 11) (v := vR sA) (C := RX11) (T := TX11) (N := 14) hx hb hts hi11 hown hG.1 hP 2 rfl rfl 5 (by decide) lf31 (fun _ h9 => h9) rfl dX11_sums_37 ?_
    refine va_getN (D := D) (ci := 6) (v := vI fl) (C := RX6) (T := TX6) (N := 19) hx hb hts hi6 hown hG.1 hP 0 rfl rfl 16 (by decide) (va_Nw.use rfl (nF_K_215 hG.2.1)) (fun _ h9 => h9) rfl dX11_sums_40 ?_
    refine W.widen (k := 1) (n := 6) (Nat.le_of_ble_eq_true rfl) (Nat.le_of_ble_eq_true rfl) ?_
    refine vx_ret ?_
    exact W.iret (v := iI fl) hx hb hr (fun t ht hW => ⟨⟨iI fl, ((fun k => ([] : List Nat).getD k 0), (fun k => ([fl] : List Int).getD k 0), (fun k => ([] : List (Nat → Int32)).getD k (fun _ => 0))), rfl, ⟨rfl, (by show ((-2147483648) ≤ fl ∧ fl ≤ 2147483647); first | exact hr_fl | omega)⟩, at9 ht hP hD [2, 3, 0, 1] (by decide +kernel) rfl⟩, hS.F ht⟩) hS.2.2 dX11_sums_43
  by_cases k_2 : n = 1
  · refine lt_i (y := iI 1) (by rw [k_2]) ?_
    refine lv_tableIn (tgt := 44) hx hb dX11_sums_11 (by decide) (by decide) rfl (by decide) ?_
    refine lv_aload_n hx hb dX11_sums_44 rfl (lv_at hlv 0 rfl) ?_
    refine va_get (D := D) (ci := 11) (v := vR sA) (C := RX11) (T := TX11) (N := 14) hx hb hts hi11 hown hG.1 hP 2 rfl rfl 5 (by decide) lf31 (fun _ h9 => h9) rfl dX11_sums_45 ?_
    refine va_getN (D := D) (ci := 6) (v := vI tk) (C := RX6) (T := TX6) (N := 19) hx hb hts hi6 hown hG.1 hP 0 rfl rfl 17 (by decide) (va_Nw.use rfl (nF_K_218 hG.2.1)) (fun _ h9 => h9) rfl dX11_sums_48 ?_
    refine W.widen (k := 1) (n := 6) (Nat.le_of_ble_eq_true rfl) (Nat.le_of_ble_eq_true rfl) ?_
    refine vx_ret ?_
    exact W.iret (v := iI tk) hx hb hr (fun t ht hW => ⟨⟨iI tk, ((fun k => ([] : List Nat).getD k 0), (fun k => ([tk] : List Int).getD k 0), (fun k => ([] : List (Nat → Int32)).getD k (fun _ => 0))), rfl, ⟨rfl, (by show ((-2147483648) ≤ tk ∧ tk ≤ 2147483647); first | exact hr_tk | omega)⟩, at9 ht hP hD [2, 3, 0, 1] (by decide +kernel) rfl⟩, hS.F ht⟩) hS.2.2 dX11_sums_51
  by_cases k_3 : n = 2
  · refine lt_i (y := iI 2) (by rw [k_3]) ?_
    refine lv_tableIn (tgt := 52) hx hb dX11_sums_11 (by decide) (by decide) rfl (by decide) ?_
    refine lv_aload_n hx hb dX11_sums_52 rfl (lv_at hlv 0 rfl) ?_
    refine va_get (D := D) (ci := 11) (v := vR sA) (C := RX11) (T := TX11) (N := 14) hx hb hts hi11 hown hG.1 hP 2 rfl rfl 5 (by decide) lf31 (fun _ h9 => h9) rfl dX11_sums_53 ?_
    refine va_getN (D := D) (ci := 6) (v := vI go) (C := RX6) (T := TX6) (N := 19) hx hb hts hi6 hown hG.1 hP 0 rfl rfl 18 (by decide) (va_Nw.use rfl (nF_K_221 hG.2.1)) (fun _ h9 => h9) rfl dX11_sums_56 ?_
    refine W.widen (k := 1) (n := 6) (Nat.le_of_ble_eq_true rfl) (Nat.le_of_ble_eq_true rfl) ?_
    refine vx_ret ?_
    exact W.iret (v := iI go) hx hb hr (fun t ht hW => ⟨⟨iI go, ((fun k => ([] : List Nat).getD k 0), (fun k => ([go] : List Int).getD k 0), (fun k => ([] : List (Nat → Int32)).getD k (fun _ => 0))), rfl, ⟨rfl, (by show ((-2147483648) ≤ go ∧ go ≤ 2147483647); first | exact hr_go | omega)⟩, at9 ht hP hD [2, 3, 0, 1] (by decide +kernel) rfl⟩, hS.F ht⟩) hS.2.2 dX11_sums_59
  refine lv_tableOut (tgt := 60) hx hb dX11_sums_11 (by rw [iI_to (by omega) (by omega)]; omega) (by decide) ?_
  refine lv_aload_n hx hb dX11_sums_60 rfl (lv_at hlv 0 rfl) ?_
  refine va_get (D := D) (ci := 11) (v := vR sA) (C := RX11) (T := TX11) (N := 14) hx hb hts hi11 hown hG.1 hP 2 rfl rfl 5 (by decide) lf31 (fun _ h9 => h9) rfl dX11_sums_61 ?_
  refine cjr_i [false, false, true, true] (fun pre9 => (va_runVN (host := "KerbSplash") (As := []) (rest := []) ⟨hx, hb, hml, hown, hts⟩ (s_standing l hl D cy sa sA s2 s3 s6 s8 s11 s13 wi ro dr dt pe gu sh wo dn mi fl tk go wf H.size (by first | exact hr_wi | omega) (by first | exact hr_ro | omega) (by first | exact hr_dr | omega) (by first | exact hr_dt | omega) (by first | exact hr_pe | omega) (by first | exact hr_gu | omega) (by first | exact hr_sh | omega) (by first | exact hr_wo | omega) (by first | exact hr_dn | omega) (by first | exact hr_mi | omega) (by first | exact hr_fl | omega) (by first | exact hr_tk | omega) (by first | exact hr_go | omega)) ⟨va_cnB 0 hts gg_4 rfl rfl rfl (nM_K_224 hG.2.1) ini_RX6 (by decide +kernel) ⟨Nat.le_of_ble_eq_true rfl, Nat.le_of_ble_eq_true rfl⟩, im_X6_standing, se_X6_standing⟩ ⟨pcW.blind, (va_recv hG.1 hP (ci := 6) (q0 := 0) rfl rfl), pre9⟩ rfl rfl hlv.1 rfl (lv_room (Nat.le_of_ble_eq_true rfl)) dX11_sums_64 ⟨Nat.le_of_ble_eq_true rfl, Nat.le_of_ble_eq_true rfl⟩)) hP hD hS hA hG hT [0, 1] rfl (by decide +kernel) (fun r3 u3 H locs hw3 hq9 hS => ?_)
  obtain ⟨rfl, hq3_1⟩ := hw3
  obtain ⟨hP, hD⟩ := pd9 [zO kk 11 [vR ta, vR kr, vR kl, vI nr, vI nw, vR sA, vR dA, vR pa, vR ki, vR kp, vI im, vR wa, vR or_, vR rq], zI rq (cy 0) 4 qf, zO sA 6 [vI wi, vI ro, vR s2, vR s3, vI dr, vI dt, vR s6, vI pe, vR s8, vI gu, vI sh, vR s11, vI wo, vR s13, vI dn, vI mi, vI fl, vI tk, vI go], zI s3 (cy 0) 96 wf] hq9
  refine W.widen (k := 1) (n := 6) (Nat.le_of_ble_eq_true rfl) (Nat.le_of_ble_eq_true rfl) ?_
  refine vx_ret ?_
  exact W.iret (v := iI (u3.2.1 0)) hx hb hr (fun t ht hW => ⟨⟨iI (u3.2.1 0), ((fun k => ([] : List Nat).getD k 0), (fun k => ([(u3.2.1 0)] : List Int).getD k 0), (fun k => ([] : List (Nat → Int32)).getD k (fun _ => 0))), rfl, ⟨rfl, (by show ((-2147483648) ≤ (u3.2.1 0) ∧ (u3.2.1 0) ≤ 2147483647); first | exact hq3_1 | omega)⟩, at9 ht hP hD [0, 1, 2, 3] (by decide +kernel) rfl⟩, hS.F ht⟩) hS.2.2 dX11_sums_67
