theorem dX7_isFull_0 : decode cX7_isFull 0 = .ok (.aload_n 1, 1) := by decide +kernel
theorem dX7_isFull_1 : decode cX7_isFull 1 = .ok (.getstatic 65, 3) := by decide +kernel
theorem dX7_isFull_11 : decode cX7_isFull 11 = .ok (.getfield 68, 3) := by decide +kernel
theorem dX7_isFull_14 : decode cX7_isFull 14 = .ok (.bipush 6, 2) := by decide +kernel
theorem dX7_isFull_16 : decode cX7_isFull 16 = .ok (.if_icmp .lt 7, 3) := by decide +kernel
theorem dX7_isFull_19 : decode cX7_isFull 19 = .ok (.iconst 1, 1) := by decide +kernel
theorem dX7_isFull_20 : decode cX7_isFull 20 = .ok (.goto 4, 3) := by decide +kernel
theorem dX7_isFull_23 : decode cX7_isFull 23 = .ok (.iconst 0, 1) := by decide +kernel
theorem dX7_isFull_24 : decode cX7_isFull 24 = .ok (.ireturn, 1) := by decide +kernel
theorem dX7_isFull_25 : decode cX7_isFull 25 = .ok (.aload_n 1, 1) := by decide +kernel
theorem dX7_isFull_26 : decode cX7_isFull 26 = .ok (.getstatic 72, 3) := by decide +kernel
theorem dX7_isFull_29 : decode cX7_isFull 29 = .ok (.if_acmp .ne 21, 3) := by decide +kernel
theorem dX7_isFull_32 : decode cX7_isFull 32 = .ok (.aload_n 0, 1) := by decide +kernel
theorem dX7_isFull_33 : decode cX7_isFull 33 = .ok (.getfield 15, 3) := by decide +kernel
theorem dX7_isFull_36 : decode cX7_isFull 36 = .ok (.getfield 75, 3) := by decide +kernel
theorem dX7_isFull_39 : decode cX7_isFull 39 = .ok (.bipush 8, 2) := by decide +kernel
theorem dX7_isFull_4 : decode cX7_isFull 4 = .ok (.if_acmp .ne 21, 3) := by decide +kernel
theorem dX7_isFull_41 : decode cX7_isFull 41 = .ok (.if_icmp .lt 7, 3) := by decide +kernel
theorem dX7_isFull_44 : decode cX7_isFull 44 = .ok (.iconst 1, 1) := by decide +kernel
theorem dX7_isFull_45 : decode cX7_isFull 45 = .ok (.goto 4, 3) := by decide +kernel
theorem dX7_isFull_48 : decode cX7_isFull 48 = .ok (.iconst 0, 1) := by decide +kernel
theorem dX7_isFull_49 : decode cX7_isFull 49 = .ok (.ireturn, 1) := by decide +kernel
theorem dX7_isFull_50 : decode cX7_isFull 50 = .ok (.aload_n 1, 1) := by decide +kernel
theorem dX7_isFull_51 : decode cX7_isFull 51 = .ok (.getstatic 78, 3) := by decide +kernel
theorem dX7_isFull_54 : decode cX7_isFull 54 = .ok (.if_acmp .ne 20, 3) := by decide +kernel
theorem dX7_isFull_57 : decode cX7_isFull 57 = .ok (.aload_n 0, 1) := by decide +kernel
theorem dX7_isFull_58 : decode cX7_isFull 58 = .ok (.getfield 15, 3) := by decide +kernel
theorem dX7_isFull_61 : decode cX7_isFull 61 = .ok (.getfield 81, 3) := by decide +kernel
theorem dX7_isFull_64 : decode cX7_isFull 64 = .ok (.iconst 2, 1) := by decide +kernel
theorem dX7_isFull_65 : decode cX7_isFull 65 = .ok (.if_icmp .lt 7, 3) := by decide +kernel
theorem dX7_isFull_68 : decode cX7_isFull 68 = .ok (.iconst 1, 1) := by decide +kernel
theorem dX7_isFull_69 : decode cX7_isFull 69 = .ok (.goto 4, 3) := by decide +kernel
theorem dX7_isFull_7 : decode cX7_isFull 7 = .ok (.aload_n 0, 1) := by decide +kernel
theorem dX7_isFull_72 : decode cX7_isFull 72 = .ok (.iconst 0, 1) := by decide +kernel
theorem dX7_isFull_73 : decode cX7_isFull 73 = .ok (.ireturn, 1) := by decide +kernel
theorem dX7_isFull_74 : decode cX7_isFull 74 = .ok (.aload_n 1, 1) := by decide +kernel
theorem dX7_isFull_75 : decode cX7_isFull 75 = .ok (.getfield 84, 3) := by decide +kernel
theorem dX7_isFull_78 : decode cX7_isFull 78 = .ok (.iconst (-1), 1) := by decide +kernel
theorem dX7_isFull_79 : decode cX7_isFull 79 = .ok (.if_icmp .eq 19, 3) := by decide +kernel
theorem dX7_isFull_8 : decode cX7_isFull 8 = .ok (.getfield 15, 3) := by decide +kernel
theorem dX7_isFull_82 : decode cX7_isFull 82 = .ok (.aload_n 0, 1) := by decide +kernel
theorem dX7_isFull_83 : decode cX7_isFull 83 = .ok (.getfield 15, 3) := by decide +kernel
theorem dX7_isFull_86 : decode cX7_isFull 86 = .ok (.getfield 87, 3) := by decide +kernel
theorem dX7_isFull_89 : decode cX7_isFull 89 = .ok (.bipush 8, 2) := by decide +kernel
theorem dX7_isFull_91 : decode cX7_isFull 91 = .ok (.if_icmp .lt 7, 3) := by decide +kernel
theorem dX7_isFull_94 : decode cX7_isFull 94 = .ok (.iconst 1, 1) := by decide +kernel
theorem dX7_isFull_95 : decode cX7_isFull 95 = .ok (.goto 4, 3) := by decide +kernel
theorem dX7_isFull_98 : decode cX7_isFull 98 = .ok (.iconst 0, 1) := by decide +kernel
theorem dX7_isFull_99 : decode cX7_isFull 99 = .ok (.ireturn, 1) := by decide +kernel
theorem dX7_readClause_0 : decode cX7_readClause 0 = .ok (.aload_n 0, 1) := by decide +kernel
theorem dX7_readClause_1 : decode cX7_readClause 1 = .ok (.getfield 9, 3) := by decide +kernel
theorem dX7_readClause_12 : decode cX7_readClause 12 = .ok (.ifCond .ne 14, 3) := by decide +kernel
theorem dX7_readClause_15 : decode cX7_readClause 15 = .ok (.aload_n 0, 1) := by decide +kernel
theorem dX7_readClause_16 : decode cX7_readClause 16 = .ok (.getfield 9, 3) := by decide +kernel
theorem dX7_readClause_19 : decode cX7_readClause 19 = .ok (.iconst 1, 1) := by decide +kernel
theorem dX7_readClause_20 : decode cX7_readClause 20 = .ok (.invokevirtual 43, 3) := by decide +kernel
theorem dX7_readClause_23 : decode cX7_readClause 23 = .ok (.goto 73, 3) := by decide +kernel
theorem dX7_readClause_26 : decode cX7_readClause 26 = .ok (.iload_n 1, 1) := by decide +kernel
theorem dX7_readClause_27 : decode cX7_readClause 27 = .ok (.bipush 60, 2) := by decide +kernel
theorem dX7_readClause_29 : decode cX7_readClause 29 = .ok (.if_icmp .eq 11, 3) := by decide +kernel
theorem dX7_readClause_32 : decode cX7_readClause 32 = .ok (.aload_n 0, 1) := by decide +kernel
theorem dX7_readClause_33 : decode cX7_readClause 33 = .ok (.aload_n 2, 1) := by decide +kernel
theorem dX7_readClause_34 : decode cX7_readClause 34 = .ok (.invokevirtual 46, 3) := by decide +kernel
theorem dX7_readClause_37 : decode cX7_readClause 37 = .ok (.ifCond .eq 14, 3) := by decide +kernel
theorem dX7_readClause_4 : decode cX7_readClause 4 = .ok (.invokevirtual 34, 3) := by decide +kernel
theorem dX7_readClause_40 : decode cX7_readClause 40 = .ok (.aload_n 0, 1) := by decide +kernel
theorem dX7_readClause_41 : decode cX7_readClause 41 = .ok (.getfield 9, 3) := by decide +kernel
theorem dX7_readClause_44 : decode cX7_readClause 44 = .ok (.iconst 3, 1) := by decide +kernel
theorem dX7_readClause_45 : decode cX7_readClause 45 = .ok (.invokevirtual 43, 3) := by decide +kernel
theorem dX7_readClause_48 : decode cX7_readClause 48 = .ok (.goto 48, 3) := by decide +kernel
theorem dX7_readClause_51 : decode cX7_readClause 51 = .ok (.aload_n 2, 1) := by decide +kernel
theorem dX7_readClause_52 : decode cX7_readClause 52 = .ok (.getstatic 50, 3) := by decide +kernel
theorem dX7_readClause_55 : decode cX7_readClause 55 = .ok (.if_acmp .ne 18, 3) := by decide +kernel
theorem dX7_readClause_58 : decode cX7_readClause 58 = .ok (.iload_n 1, 1) := by decide +kernel
theorem dX7_readClause_59 : decode cX7_readClause 59 = .ok (.ifCond .le 14, 3) := by decide +kernel
theorem dX7_readClause_62 : decode cX7_readClause 62 = .ok (.aload_n 0, 1) := by decide +kernel
theorem dX7_readClause_63 : decode cX7_readClause 63 = .ok (.getfield 9, 3) := by decide +kernel
theorem dX7_readClause_66 : decode cX7_readClause 66 = .ok (.iconst 4, 1) := by decide +kernel
theorem dX7_readClause_67 : decode cX7_readClause 67 = .ok (.invokevirtual 43, 3) := by decide +kernel
theorem dX7_readClause_7 : decode cX7_readClause 7 = .ok (.astore_n 2, 1) := by decide +kernel
theorem dX7_readClause_70 : decode cX7_readClause 70 = .ok (.goto 26, 3) := by decide +kernel
theorem dX7_readClause_73 : decode cX7_readClause 73 = .ok (.aload_n 0, 1) := by decide +kernel
theorem dX7_readClause_74 : decode cX7_readClause 74 = .ok (.getfield 9, 3) := by decide +kernel
theorem dX7_readClause_77 : decode cX7_readClause 77 = .ok (.aload_n 2, 1) := by decide +kernel
theorem dX7_readClause_78 : decode cX7_readClause 78 = .ok (.invokevirtual 54, 3) := by decide +kernel
theorem dX7_readClause_8 : decode cX7_readClause 8 = .ok (.aload_n 2, 1) := by decide +kernel
theorem dX7_readClause_81 : decode cX7_readClause 81 = .ok (.pop, 1) := by decide +kernel
theorem dX7_readClause_82 : decode cX7_readClause 82 = .ok (.aload_n 0, 1) := by decide +kernel
theorem dX7_readClause_83 : decode cX7_readClause 83 = .ok (.aload_n 2, 1) := by decide +kernel
theorem dX7_readClause_84 : decode cX7_readClause 84 = .ok (.invokevirtual 57, 3) := by decide +kernel
theorem dX7_readClause_87 : decode cX7_readClause 87 = .ok (.aload_n 0, 1) := by decide +kernel
theorem dX7_readClause_88 : decode cX7_readClause 88 = .ok (.getfield 9, 3) := by decide +kernel
theorem dX7_readClause_9 : decode cX7_readClause 9 = .ok (.invokevirtual 38, 3) := by decide +kernel
theorem dX7_readClause_91 : decode cX7_readClause 91 = .ok (.bipush 59, 2) := by decide +kernel
theorem dX7_readClause_93 : decode cX7_readClause 93 = .ok (.invokevirtual 61, 3) := by decide +kernel
theorem dX7_readClause_96 : decode cX7_readClause 96 = .ok (.return_, 1) := by decide +kernel
theorem dX7_readNumbers_0 : decode cX7_readNumbers 0 = .ok (.aload_n 1, 1) := by decide +kernel
theorem dX7_readNumbers_1 : decode cX7_readNumbers 1 = .ok (.getfield 84, 3) := by decide +kernel
theorem dX7_readNumbers_10 : decode cX7_readNumbers 10 = .ok (.getfield 84, 3) := by decide +kernel
theorem dX7_readNumbers_13 : decode cX7_readNumbers 13 = .ok (.invokevirtual 90, 3) := by decide +kernel
theorem dX7_readNumbers_16 : decode cX7_readNumbers 16 = .ok (.goto 50, 3) := by decide +kernel
theorem dX7_readNumbers_19 : decode cX7_readNumbers 19 = .ok (.aload_n 1, 1) := by decide +kernel
theorem dX7_readNumbers_20 : decode cX7_readNumbers 20 = .ok (.getstatic 50, 3) := by decide +kernel
theorem dX7_readNumbers_23 : decode cX7_readNumbers 23 = .ok (.if_acmp .ne 10, 3) := by decide +kernel
theorem dX7_readNumbers_26 : decode cX7_readNumbers 26 = .ok (.aload_n 0, 1) := by decide +kernel
theorem dX7_readNumbers_27 : decode cX7_readNumbers 27 = .ok (.invokevirtual 93, 3) := by decide +kernel
theorem dX7_readNumbers_30 : decode cX7_readNumbers 30 = .ok (.goto 36, 3) := by decide +kernel
theorem dX7_readNumbers_33 : decode cX7_readNumbers 33 = .ok (.aload_n 1, 1) := by decide +kernel
theorem dX7_readNumbers_34 : decode cX7_readNumbers 34 = .ok (.getstatic 72, 3) := by decide +kernel
theorem dX7_readNumbers_37 : decode cX7_readNumbers 37 = .ok (.if_acmp .ne 10, 3) := by decide +kernel
theorem dX7_readNumbers_4 : decode cX7_readNumbers 4 = .ok (.iconst (-1), 1) := by decide +kernel
theorem dX7_readNumbers_40 : decode cX7_readNumbers 40 = .ok (.aload_n 0, 1) := by decide +kernel
theorem dX7_readNumbers_41 : decode cX7_readNumbers 41 = .ok (.invokevirtual 96, 3) := by decide +kernel
theorem dX7_readNumbers_44 : decode cX7_readNumbers 44 = .ok (.goto 22, 3) := by decide +kernel
theorem dX7_readNumbers_47 : decode cX7_readNumbers 47 = .ok (.aload_n 1, 1) := by decide +kernel
theorem dX7_readNumbers_48 : decode cX7_readNumbers 48 = .ok (.getstatic 78, 3) := by decide +kernel
theorem dX7_readNumbers_5 : decode cX7_readNumbers 5 = .ok (.if_icmp .eq 14, 3) := by decide +kernel
theorem dX7_readNumbers_51 : decode cX7_readNumbers 51 = .ok (.if_acmp .ne 10, 3) := by decide +kernel
theorem dX7_readNumbers_54 : decode cX7_readNumbers 54 = .ok (.aload_n 0, 1) := by decide +kernel
theorem dX7_readNumbers_55 : decode cX7_readNumbers 55 = .ok (.invokevirtual 99, 3) := by decide +kernel
theorem dX7_readNumbers_58 : decode cX7_readNumbers 58 = .ok (.goto 8, 3) := by decide +kernel
theorem dX7_readNumbers_61 : decode cX7_readNumbers 61 = .ok (.aload_n 0, 1) := by decide +kernel
theorem dX7_readNumbers_62 : decode cX7_readNumbers 62 = .ok (.aload_n 1, 1) := by decide +kernel
theorem dX7_readNumbers_63 : decode cX7_readNumbers 63 = .ok (.invokevirtual 102, 3) := by decide +kernel
theorem dX7_readNumbers_66 : decode cX7_readNumbers 66 = .ok (.return_, 1) := by decide +kernel
theorem dX7_readNumbers_8 : decode cX7_readNumbers 8 = .ok (.aload_n 0, 1) := by decide +kernel
theorem dX7_readNumbers_9 : decode cX7_readNumbers 9 = .ok (.aload_n 1, 1) := by decide +kernel
theorem dX7_read_0 : decode cX7_read 0 = .ok (.aload_n 0, 1) := by decide +kernel
theorem dX7_read_1 : decode cX7_read 1 = .ok (.getfield 15, 3) := by decide +kernel
theorem dX7_read_10 : decode cX7_read 10 = .ok (.bipush 60, 2) := by decide +kernel
theorem dX7_read_12 : decode cX7_read 12 = .ok (.if_icmp .gt 24, 3) := by decide +kernel
theorem dX7_read_15 : decode cX7_read 15 = .ok (.aload_n 0, 1) := by decide +kernel
theorem dX7_read_16 : decode cX7_read 16 = .ok (.getfield 9, 3) := by decide +kernel
theorem dX7_read_19 : decode cX7_read 19 = .ok (.invokevirtual 24, 3) := by decide +kernel
theorem dX7_read_22 : decode cX7_read 22 = .ok (.ifCond .eq 14, 3) := by decide +kernel
theorem dX7_read_25 : decode cX7_read 25 = .ok (.aload_n 0, 1) := by decide +kernel
theorem dX7_read_26 : decode cX7_read 26 = .ok (.iload_n 1, 1) := by decide +kernel
theorem dX7_read_27 : decode cX7_read 27 = .ok (.invokevirtual 30, 3) := by decide +kernel
theorem dX7_read_30 : decode cX7_read 30 = .ok (.iinc 1 1, 3) := by decide +kernel
theorem dX7_read_33 : decode cX7_read 33 = .ok (.goto (-24), 3) := by decide +kernel
theorem dX7_read_36 : decode cX7_read 36 = .ok (.return_, 1) := by decide +kernel
theorem dX7_read_4 : decode cX7_read 4 = .ok (.invokevirtual 19, 3) := by decide +kernel
theorem dX7_read_7 : decode cX7_read 7 = .ok (.iconst 0, 1) := by decide +kernel
theorem dX7_read_8 : decode cX7_read 8 = .ok (.istore_n 1, 1) := by decide +kernel
theorem dX7_read_9 : decode cX7_read 9 = .ok (.iload_n 1, 1) := by decide +kernel