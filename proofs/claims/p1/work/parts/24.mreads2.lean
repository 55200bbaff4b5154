theorem dX12_clear_0 : decode cX12_clear 0 = .ok (.aload_n 0, 1) := by decide +kernel
theorem dX12_clear_1 : decode cX12_clear 1 = .ok (.iconst 0, 1) := by decide +kernel
theorem dX12_clear_12 : decode cX12_clear 12 = .ok (.iaload, 1) := by decide +kernel
theorem dX12_clear_13 : decode cX12_clear 13 = .ok (.istore_n 1, 1) := by decide +kernel
theorem dX12_clear_14 : decode cX12_clear 14 = .ok (.aload_n 0, 1) := by decide +kernel
theorem dX12_clear_15 : decode cX12_clear 15 = .ok (.getfield 29, 3) := by decide +kernel
theorem dX12_clear_18 : decode cX12_clear 18 = .ok (.sipush 252, 3) := by decide +kernel
theorem dX12_clear_2 : decode cX12_clear 2 = .ok (.putfield 1, 3) := by decide +kernel
theorem dX12_clear_21 : decode cX12_clear 21 = .ok (.iconst 0, 1) := by decide +kernel
theorem dX12_clear_22 : decode cX12_clear 22 = .ok (.iastore, 1) := by decide +kernel
theorem dX12_clear_23 : decode cX12_clear 23 = .ok (.iload_n 1, 1) := by decide +kernel
theorem dX12_clear_24 : decode cX12_clear 24 = .ok (.ireturn, 1) := by decide +kernel
theorem dX12_clear_5 : decode cX12_clear 5 = .ok (.aload_n 0, 1) := by decide +kernel
theorem dX12_clear_6 : decode cX12_clear 6 = .ok (.getfield 29, 3) := by decide +kernel
theorem dX12_clear_9 : decode cX12_clear 9 = .ok (.sipush 252, 3) := by decide +kernel
theorem dX12_count_0 : decode cX12_count 0 = .ok (.aload_n 0, 1) := by decide +kernel
theorem dX12_count_1 : decode cX12_count 1 = .ok (.iconst 0, 1) := by decide +kernel
theorem dX12_count_10 : decode cX12_count 10 = .ok (.getfield 29, 3) := by decide +kernel
theorem dX12_count_13 : decode cX12_count 13 = .ok (.sipush 252, 3) := by decide +kernel
theorem dX12_count_16 : decode cX12_count 16 = .ok (.iaload, 1) := by decide +kernel
theorem dX12_count_17 : decode cX12_count 17 = .ok (.goto 44, 3) := by decide +kernel
theorem dX12_count_2 : decode cX12_count 2 = .ok (.putfield 1, 3) := by decide +kernel
theorem dX12_count_20 : decode cX12_count 20 = .ok (.iload_n 1, 1) := by decide +kernel
theorem dX12_count_21 : decode cX12_count 21 = .ok (.iconst 1, 1) := by decide +kernel
theorem dX12_count_22 : decode cX12_count 22 = .ok (.if_icmp .ne 14, 3) := by decide +kernel
theorem dX12_count_25 : decode cX12_count 25 = .ok (.aload_n 0, 1) := by decide +kernel
theorem dX12_count_26 : decode cX12_count 26 = .ok (.getfield 29, 3) := by decide +kernel
theorem dX12_count_29 : decode cX12_count 29 = .ok (.sipush 357, 3) := by decide +kernel
theorem dX12_count_32 : decode cX12_count 32 = .ok (.iaload, 1) := by decide +kernel
theorem dX12_count_33 : decode cX12_count 33 = .ok (.goto 28, 3) := by decide +kernel
theorem dX12_count_36 : decode cX12_count 36 = .ok (.iload_n 1, 1) := by decide +kernel
theorem dX12_count_37 : decode cX12_count 37 = .ok (.iconst 2, 1) := by decide +kernel
theorem dX12_count_38 : decode cX12_count 38 = .ok (.if_icmp .ne 10, 3) := by decide +kernel
theorem dX12_count_41 : decode cX12_count 41 = .ok (.aload_n 0, 1) := by decide +kernel
theorem dX12_count_42 : decode cX12_count 42 = .ok (.getfield 201, 3) := by decide +kernel
theorem dX12_count_45 : decode cX12_count 45 = .ok (.goto 16, 3) := by decide +kernel
theorem dX12_count_48 : decode cX12_count 48 = .ok (.iload_n 1, 1) := by decide +kernel
theorem dX12_count_49 : decode cX12_count 49 = .ok (.iconst 3, 1) := by decide +kernel
theorem dX12_count_5 : decode cX12_count 5 = .ok (.iload_n 1, 1) := by decide +kernel
theorem dX12_count_50 : decode cX12_count 50 = .ok (.if_icmp .ne 10, 3) := by decide +kernel
theorem dX12_count_53 : decode cX12_count 53 = .ok (.aload_n 0, 1) := by decide +kernel
theorem dX12_count_54 : decode cX12_count 54 = .ok (.getfield 77, 3) := by decide +kernel
theorem dX12_count_57 : decode cX12_count 57 = .ok (.goto 4, 3) := by decide +kernel
theorem dX12_count_6 : decode cX12_count 6 = .ok (.ifCond .ne 14, 3) := by decide +kernel
theorem dX12_count_60 : decode cX12_count 60 = .ok (.iconst (-1), 1) := by decide +kernel
theorem dX12_count_61 : decode cX12_count 61 = .ok (.ireturn, 1) := by decide +kernel
theorem dX12_count_9 : decode cX12_count 9 = .ok (.aload_n 0, 1) := by decide +kernel
theorem dX12_ice_0 : decode cX12_ice 0 = .ok (.aload_n 0, 1) := by decide +kernel
theorem dX12_ice_1 : decode cX12_ice 1 = .ok (.iconst 0, 1) := by decide +kernel
theorem dX12_ice_11 : decode cX12_ice 11 = .ok (.invokestatic 279, 3) := by decide +kernel
theorem dX12_ice_14 : decode cX12_ice 14 = .ok (.ifCond .eq 16, 3) := by decide +kernel
theorem dX12_ice_17 : decode cX12_ice 17 = .ok (.iload_n 2, 1) := by decide +kernel
theorem dX12_ice_18 : decode cX12_ice 18 = .ok (.iconst 0, 1) := by decide +kernel
theorem dX12_ice_187 : decode cX12_ice 187 = .ok (.iload_n 2, 1) := by decide +kernel
theorem dX12_ice_188 : decode cX12_ice 188 = .ok (.ifCond .ne 7, 3) := by decide +kernel
theorem dX12_ice_19 : decode cX12_ice 19 = .ok (.iconst 2, 1) := by decide +kernel
theorem dX12_ice_191 : decode cX12_ice 191 = .ok (.iload_n 3, 1) := by decide +kernel
theorem dX12_ice_192 : decode cX12_ice 192 = .ok (.goto 15, 3) := by decide +kernel
theorem dX12_ice_195 : decode cX12_ice 195 = .ok (.iload_n 2, 1) := by decide +kernel
theorem dX12_ice_196 : decode cX12_ice 196 = .ok (.iconst 1, 1) := by decide +kernel
theorem dX12_ice_197 : decode cX12_ice 197 = .ok (.if_icmp .ne 8, 3) := by decide +kernel
theorem dX12_ice_2 : decode cX12_ice 2 = .ok (.putfield 1, 3) := by decide +kernel
theorem dX12_ice_20 : decode cX12_ice 20 = .ok (.invokestatic 279, 3) := by decide +kernel
theorem dX12_ice_200 : decode cX12_ice 200 = .ok (.iload 4, 2) := by decide +kernel
theorem dX12_ice_202 : decode cX12_ice 202 = .ok (.goto 5, 3) := by decide +kernel
theorem dX12_ice_205 : decode cX12_ice 205 = .ok (.iload 5, 2) := by decide +kernel
theorem dX12_ice_207 : decode cX12_ice 207 = .ok (.ireturn, 1) := by decide +kernel
theorem dX12_ice_23 : decode cX12_ice 23 = .ok (.ifCond .eq 7, 3) := by decide +kernel
theorem dX12_ice_26 : decode cX12_ice 26 = .ok (.iconst 1, 1) := by decide +kernel
theorem dX12_ice_27 : decode cX12_ice 27 = .ok (.goto 4, 3) := by decide +kernel
theorem dX12_ice_30 : decode cX12_ice 30 = .ok (.iconst 0, 1) := by decide +kernel
theorem dX12_ice_31 : decode cX12_ice 31 = .ok (.iconst 1, 1) := by decide +kernel
theorem dX12_ice_32 : decode cX12_ice 32 = .ok (.iconst 2, 1) := by decide +kernel
theorem dX12_ice_33 : decode cX12_ice 33 = .ok (.invokevirtual 175, 3) := by decide +kernel
theorem dX12_ice_36 : decode cX12_ice 36 = .ok (.ifCond .ne 5, 3) := by decide +kernel
theorem dX12_ice_39 : decode cX12_ice 39 = .ok (.iconst 0, 1) := by decide +kernel
theorem dX12_ice_40 : decode cX12_ice 40 = .ok (.ireturn, 1) := by decide +kernel
theorem dX12_ice_41 : decode cX12_ice 41 = .ok (.iconst 0, 1) := by decide +kernel
theorem dX12_ice_42 : decode cX12_ice 42 = .ok (.istore_n 3, 1) := by decide +kernel
theorem dX12_ice_43 : decode cX12_ice 43 = .ok (.iconst 0, 1) := by decide +kernel
theorem dX12_ice_44 : decode cX12_ice 44 = .ok (.istore 4, 2) := by decide +kernel
theorem dX12_ice_46 : decode cX12_ice 46 = .ok (.iconst 0, 1) := by decide +kernel
theorem dX12_ice_47 : decode cX12_ice 47 = .ok (.istore 5, 2) := by decide +kernel
theorem dX12_ice_49 : decode cX12_ice 49 = .ok (.iconst 0, 1) := by decide +kernel
theorem dX12_ice_5 : decode cX12_ice 5 = .ok (.aload_n 0, 1) := by decide +kernel
theorem dX12_ice_50 : decode cX12_ice 50 = .ok (.istore 6, 2) := by decide +kernel
theorem dX12_ice_52 : decode cX12_ice 52 = .ok (.iload 6, 2) := by decide +kernel
theorem dX12_ice_54 : decode cX12_ice 54 = .ok (.aload_n 0, 1) := by decide +kernel
theorem dX12_ice_55 : decode cX12_ice 55 = .ok (.getfield 23, 3) := by decide +kernel
theorem dX12_ice_58 : decode cX12_ice 58 = .ok (.iconst 1, 1) := by decide +kernel
theorem dX12_ice_59 : decode cX12_ice 59 = .ok (.iaload, 1) := by decide +kernel
theorem dX12_ice_6 : decode cX12_ice 6 = .ok (.iload_n 1, 1) := by decide +kernel
theorem dX12_ice_60 : decode cX12_ice 60 = .ok (.if_icmp .ge 127, 3) := by decide +kernel
theorem dX12_ice_7 : decode cX12_ice 7 = .ok (.iconst 1, 1) := by decide +kernel
theorem dX12_ice_8 : decode cX12_ice 8 = .ok (.sipush 9999, 3) := by decide +kernel
theorem dX12_restore_0 : decode cX12_restore 0 = .ok (.aload_n 0, 1) := by decide +kernel
theorem dX12_restore_1 : decode cX12_restore 1 = .ok (.iconst 0, 1) := by decide +kernel
theorem dX12_restore_12 : decode cX12_restore 12 = .ok (.iconst (-1), 1) := by decide +kernel
theorem dX12_restore_13 : decode cX12_restore 13 = .ok (.ireturn, 1) := by decide +kernel
theorem dX12_restore_2 : decode cX12_restore 2 = .ok (.putfield 1, 3) := by decide +kernel
theorem dX12_restore_5 : decode cX12_restore 5 = .ok (.aload_n 0, 1) := by decide +kernel
theorem dX12_restore_6 : decode cX12_restore 6 = .ok (.getfield 201, 3) := by decide +kernel
theorem dX12_restore_9 : decode cX12_restore 9 = .ok (.ifCond .ne 5, 3) := by decide +kernel
theorem dX12_standing_0 : decode cX12_standing 0 = .ok (.iconst 0, 1) := by decide +kernel
theorem dX12_standing_1 : decode cX12_standing 1 = .ok (.istore_n 1, 1) := by decide +kernel
theorem dX12_standing_12 : decode cX12_standing 12 = .ok (.iload_n 1, 1) := by decide +kernel
theorem dX12_standing_13 : decode cX12_standing 13 = .ok (.aload_n 0, 1) := by decide +kernel
theorem dX12_standing_14 : decode cX12_standing 14 = .ok (.getfield 29, 3) := by decide +kernel
theorem dX12_standing_17 : decode cX12_standing 17 = .ok (.iload_n 2, 1) := by decide +kernel
theorem dX12_standing_18 : decode cX12_standing 18 = .ok (.iaload, 1) := by decide +kernel
theorem dX12_standing_19 : decode cX12_standing 19 = .ok (.iadd, 1) := by decide +kernel
theorem dX12_standing_2 : decode cX12_standing 2 = .ok (.bipush 96, 2) := by decide +kernel
theorem dX12_standing_20 : decode cX12_standing 20 = .ok (.istore_n 1, 1) := by decide +kernel
theorem dX12_standing_21 : decode cX12_standing 21 = .ok (.iinc 2 1, 3) := by decide +kernel
theorem dX12_standing_24 : decode cX12_standing 24 = .ok (.goto (-19), 3) := by decide +kernel
theorem dX12_standing_27 : decode cX12_standing 27 = .ok (.iload_n 1, 1) := by decide +kernel
theorem dX12_standing_28 : decode cX12_standing 28 = .ok (.ireturn, 1) := by decide +kernel
theorem dX12_standing_4 : decode cX12_standing 4 = .ok (.istore_n 2, 1) := by decide +kernel
theorem dX12_standing_5 : decode cX12_standing 5 = .ok (.iload_n 2, 1) := by decide +kernel
theorem dX12_standing_6 : decode cX12_standing 6 = .ok (.sipush 192, 3) := by decide +kernel
theorem dX12_standing_9 : decode cX12_standing 9 = .ok (.if_icmp .ge 18, 3) := by decide +kernel
theorem dX12_status_0 : decode cX12_status 0 = .ok (.aload_n 0, 1) := by decide +kernel
theorem dX12_status_1 : decode cX12_status 1 = .ok (.iconst 0, 1) := by decide +kernel
theorem dX12_status_11 : decode cX12_status 11 = .ok (.ifCond .eq 12, 3) := by decide +kernel
theorem dX12_status_14 : decode cX12_status 14 = .ok (.aload_n 0, 1) := by decide +kernel
theorem dX12_status_15 : decode cX12_status 15 = .ok (.getfield 7, 3) := by decide +kernel
theorem dX12_status_18 : decode cX12_status 18 = .ok (.iload_n 1, 1) := by decide +kernel
theorem dX12_status_19 : decode cX12_status 19 = .ok (.iaload, 1) := by decide +kernel
theorem dX12_status_2 : decode cX12_status 2 = .ok (.putfield 1, 3) := by decide +kernel
theorem dX12_status_20 : decode cX12_status 20 = .ok (.goto 4, 3) := by decide +kernel
theorem dX12_status_23 : decode cX12_status 23 = .ok (.iconst (-1), 1) := by decide +kernel
theorem dX12_status_24 : decode cX12_status 24 = .ok (.ireturn, 1) := by decide +kernel
theorem dX12_status_5 : decode cX12_status 5 = .ok (.iload_n 1, 1) := by decide +kernel
theorem dX12_status_6 : decode cX12_status 6 = .ok (.iconst 0, 1) := by decide +kernel
theorem dX12_status_7 : decode cX12_status 7 = .ok (.iconst 3, 1) := by decide +kernel
theorem dX12_status_8 : decode cX12_status 8 = .ok (.invokestatic 279, 3) := by decide +kernel
theorem dX12_sums_0 : decode cX12_sums 0 = .ok (.aload_n 0, 1) := by decide +kernel
theorem dX12_sums_1 : decode cX12_sums 1 = .ok (.iconst 0, 1) := by decide +kernel
theorem dX12_sums_12 : decode cX12_sums 12 = .ok (.iconst 1, 1) := by decide +kernel
theorem dX12_sums_13 : decode cX12_sums 13 = .ok (.iconst 2, 1) := by decide +kernel
theorem dX12_sums_14 : decode cX12_sums 14 = .ok (.invokevirtual 175, 3) := by decide +kernel
theorem dX12_sums_17 : decode cX12_sums 17 = .ok (.ifCond .ne 5, 3) := by decide +kernel
theorem dX12_sums_2 : decode cX12_sums 2 = .ok (.putfield 1, 3) := by decide +kernel
theorem dX12_sums_20 : decode cX12_sums 20 = .ok (.iconst 0, 1) := by decide +kernel
theorem dX12_sums_21 : decode cX12_sums 21 = .ok (.ireturn, 1) := by decide +kernel
theorem dX12_sums_22 : decode cX12_sums 22 = .ok (.iload_n 1, 1) := by decide +kernel
theorem dX12_sums_23 : decode cX12_sums 23 = .ok (.iconst 3, 1) := by decide +kernel
theorem dX12_sums_24 : decode cX12_sums 24 = .ok (.if_icmp .ge 16, 3) := by decide +kernel
theorem dX12_sums_27 : decode cX12_sums 27 = .ok (.aload_n 0, 1) := by decide +kernel
theorem dX12_sums_28 : decode cX12_sums 28 = .ok (.getfield 29, 3) := by decide +kernel
theorem dX12_sums_31 : decode cX12_sums 31 = .ok (.sipush 385, 3) := by decide +kernel
theorem dX12_sums_34 : decode cX12_sums 34 = .ok (.iload_n 1, 1) := by decide +kernel
theorem dX12_sums_35 : decode cX12_sums 35 = .ok (.iadd, 1) := by decide +kernel
theorem dX12_sums_36 : decode cX12_sums 36 = .ok (.iaload, 1) := by decide +kernel
theorem dX12_sums_37 : decode cX12_sums 37 = .ok (.goto 7, 3) := by decide +kernel
theorem dX12_sums_40 : decode cX12_sums 40 = .ok (.aload_n 0, 1) := by decide +kernel
theorem dX12_sums_41 : decode cX12_sums 41 = .ok (.invokevirtual 331, 3) := by decide +kernel
theorem dX12_sums_44 : decode cX12_sums 44 = .ok (.ireturn, 1) := by decide +kernel
theorem dX12_sums_5 : decode cX12_sums 5 = .ok (.aload_n 0, 1) := by decide +kernel
theorem dX12_sums_6 : decode cX12_sums 6 = .ok (.iload_n 1, 1) := by decide +kernel
theorem dX12_sums_7 : decode cX12_sums 7 = .ok (.iconst 0, 1) := by decide +kernel
theorem dX12_sums_8 : decode cX12_sums 8 = .ok (.iconst 3, 1) := by decide +kernel
theorem dX12_sums_9 : decode cX12_sums 9 = .ok (.invokestatic 279, 3) := by decide +kernel
theorem dX12_sweep_0 : decode cX12_sweep 0 = .ok (.aload_n 0, 1) := by decide +kernel
theorem dX12_sweep_1 : decode cX12_sweep 1 = .ok (.iconst 0, 1) := by decide +kernel
theorem dX12_sweep_12 : decode cX12_sweep 12 = .ok (.iconst 1, 1) := by decide +kernel
theorem dX12_sweep_13 : decode cX12_sweep 13 = .ok (.iconst 2, 1) := by decide +kernel
theorem dX12_sweep_14 : decode cX12_sweep 14 = .ok (.invokevirtual 175, 3) := by decide +kernel
theorem dX12_sweep_17 : decode cX12_sweep 17 = .ok (.ifCond .ne 5, 3) := by decide +kernel
theorem dX12_sweep_2 : decode cX12_sweep 2 = .ok (.putfield 1, 3) := by decide +kernel
theorem dX12_sweep_20 : decode cX12_sweep 20 = .ok (.iconst 0, 1) := by decide +kernel
theorem dX12_sweep_21 : decode cX12_sweep 21 = .ok (.ireturn, 1) := by decide +kernel
theorem dX12_sweep_22 : decode cX12_sweep 22 = .ok (.aload_n 0, 1) := by decide +kernel
theorem dX12_sweep_23 : decode cX12_sweep 23 = .ok (.iconst (-1), 1) := by decide +kernel
theorem dX12_sweep_24 : decode cX12_sweep 24 = .ok (.putfield 409, 3) := by decide +kernel
theorem dX12_sweep_27 : decode cX12_sweep 27 = .ok (.aload_n 0, 1) := by decide +kernel
theorem dX12_sweep_28 : decode cX12_sweep 28 = .ok (.iconst 0, 1) := by decide +kernel
theorem dX12_sweep_29 : decode cX12_sweep 29 = .ok (.iconst 0, 1) := by decide +kernel
theorem dX12_sweep_30 : decode cX12_sweep 30 = .ok (.iconst 0, 1) := by decide +kernel
theorem dX12_sweep_31 : decode cX12_sweep 31 = .ok (.iconst 0, 1) := by decide +kernel
theorem dX12_sweep_32 : decode cX12_sweep 32 = .ok (.iconst 0, 1) := by decide +kernel
theorem dX12_sweep_33 : decode cX12_sweep 33 = .ok (.invokevirtual 406, 3) := by decide +kernel
theorem dX12_sweep_36 : decode cX12_sweep 36 = .ok (.iload_n 1, 1) := by decide +kernel
theorem dX12_sweep_37 : decode cX12_sweep 37 = .ok (.ifCond .ne 10, 3) := by decide +kernel
theorem dX12_sweep_40 : decode cX12_sweep 40 = .ok (.aload_n 0, 1) := by decide +kernel
theorem dX12_sweep_41 : decode cX12_sweep 41 = .ok (.getfield 409, 3) := by decide +kernel
theorem dX12_sweep_44 : decode cX12_sweep 44 = .ok (.goto 7, 3) := by decide +kernel
theorem dX12_sweep_47 : decode cX12_sweep 47 = .ok (.aload_n 0, 1) := by decide +kernel
theorem dX12_sweep_48 : decode cX12_sweep 48 = .ok (.getfield 412, 3) := by decide +kernel
theorem dX12_sweep_5 : decode cX12_sweep 5 = .ok (.aload_n 0, 1) := by decide +kernel
theorem dX12_sweep_51 : decode cX12_sweep 51 = .ok (.ireturn, 1) := by decide +kernel
theorem dX12_sweep_6 : decode cX12_sweep 6 = .ok (.iload_n 1, 1) := by decide +kernel
theorem dX12_sweep_7 : decode cX12_sweep 7 = .ok (.iconst 0, 1) := by decide +kernel
theorem dX12_sweep_8 : decode cX12_sweep 8 = .ok (.iconst 1, 1) := by decide +kernel
theorem dX12_sweep_9 : decode cX12_sweep 9 = .ok (.invokestatic 279, 3) := by decide +kernel
theorem dX12_sweeps_0 : decode cX12_sweeps 0 = .ok (.iconst 0, 1) := by decide +kernel
theorem dX12_sweeps_1 : decode cX12_sweeps 1 = .ok (.istore 6, 2) := by decide +kernel
theorem dX12_sweeps_111 : decode cX12_sweeps 111 = .ok (.iload 6, 2) := by decide +kernel
theorem dX12_sweeps_113 : decode cX12_sweeps 113 = .ok (.ifCond .ne 24, 3) := by decide +kernel
theorem dX12_sweeps_116 : decode cX12_sweeps 116 = .ok (.aload_n 0, 1) := by decide +kernel
theorem dX12_sweeps_117 : decode cX12_sweeps 117 = .ok (.getfield 409, 3) := by decide +kernel
theorem dX12_sweeps_12 : decode cX12_sweeps 12 = .ok (.iconst 2, 1) := by decide +kernel
theorem dX12_sweeps_120 : decode cX12_sweeps 120 = .ok (.iconst (-1), 1) := by decide +kernel
theorem dX12_sweeps_121 : decode cX12_sweeps 121 = .ok (.if_icmp .eq 17, 3) := by decide +kernel
theorem dX12_sweeps_13 : decode cX12_sweeps 13 = .ok (.iaload, 1) := by decide +kernel
theorem dX12_sweeps_138 : decode cX12_sweeps 138 = .ok (.aload_n 0, 1) := by decide +kernel
theorem dX12_sweeps_139 : decode cX12_sweeps 139 = .ok (.iload 4, 2) := by decide +kernel
theorem dX12_sweeps_14 : decode cX12_sweeps 14 = .ok (.if_icmp .ge 97, 3) := by decide +kernel
theorem dX12_sweeps_141 : decode cX12_sweeps 141 = .ok (.iload_n 2, 1) := by decide +kernel
theorem dX12_sweeps_142 : decode cX12_sweeps 142 = .ok (.iadd, 1) := by decide +kernel
theorem dX12_sweeps_143 : decode cX12_sweeps 143 = .ok (.iload_n 3, 1) := by decide +kernel
theorem dX12_sweeps_144 : decode cX12_sweeps 144 = .ok (.iadd, 1) := by decide +kernel
theorem dX12_sweeps_145 : decode cX12_sweeps 145 = .ok (.putfield 409, 3) := by decide +kernel
theorem dX12_sweeps_148 : decode cX12_sweeps 148 = .ok (.aload_n 0, 1) := by decide +kernel
theorem dX12_sweeps_149 : decode cX12_sweeps 149 = .ok (.iload 5, 2) := by decide +kernel
theorem dX12_sweeps_151 : decode cX12_sweeps 151 = .ok (.putfield 412, 3) := by decide +kernel
theorem dX12_sweeps_154 : decode cX12_sweeps 154 = .ok (.return_, 1) := by decide +kernel
theorem dX12_sweeps_3 : decode cX12_sweeps 3 = .ok (.iconst 0, 1) := by decide +kernel
theorem dX12_sweeps_4 : decode cX12_sweeps 4 = .ok (.istore 7, 2) := by decide +kernel
theorem dX12_sweeps_6 : decode cX12_sweeps 6 = .ok (.iload 7, 2) := by decide +kernel
theorem dX12_sweeps_8 : decode cX12_sweeps 8 = .ok (.aload_n 0, 1) := by decide +kernel
theorem dX12_sweeps_9 : decode cX12_sweeps 9 = .ok (.getfield 23, 3) := by decide +kernel
theorem dX12_town_0 : decode cX12_town 0 = .ok (.aload_n 0, 1) := by decide +kernel
theorem dX12_town_1 : decode cX12_town 1 = .ok (.iconst 0, 1) := by decide +kernel
theorem dX12_town_12 : decode cX12_town 12 = .ok (.iconst 1, 1) := by decide +kernel
theorem dX12_town_13 : decode cX12_town 13 = .ok (.iconst 2, 1) := by decide +kernel
theorem dX12_town_14 : decode cX12_town 14 = .ok (.invokevirtual 175, 3) := by decide +kernel
theorem dX12_town_17 : decode cX12_town 17 = .ok (.ifCond .ne 5, 3) := by decide +kernel
theorem dX12_town_2 : decode cX12_town 2 = .ok (.putfield 1, 3) := by decide +kernel
theorem dX12_town_20 : decode cX12_town 20 = .ok (.iconst 0, 1) := by decide +kernel
theorem dX12_town_21 : decode cX12_town 21 = .ok (.ireturn, 1) := by decide +kernel
theorem dX12_town_22 : decode cX12_town 22 = .ok (.aload_n 0, 1) := by decide +kernel
theorem dX12_town_23 : decode cX12_town 23 = .ok (.getfield 29, 3) := by decide +kernel
theorem dX12_town_26 : decode cX12_town 26 = .ok (.sipush 357, 3) := by decide +kernel
theorem dX12_town_29 : decode cX12_town 29 = .ok (.iaload, 1) := by decide +kernel
theorem dX12_town_30 : decode cX12_town 30 = .ok (.ifCond .ne 5, 3) := by decide +kernel
theorem dX12_town_33 : decode cX12_town 33 = .ok (.iconst (-1), 1) := by decide +kernel
theorem dX12_town_34 : decode cX12_town 34 = .ok (.ireturn, 1) := by decide +kernel
theorem dX12_town_5 : decode cX12_town 5 = .ok (.aload_n 0, 1) := by decide +kernel
theorem dX12_town_6 : decode cX12_town 6 = .ok (.iload_n 1, 1) := by decide +kernel
theorem dX12_town_7 : decode cX12_town 7 = .ok (.iconst 0, 1) := by decide +kernel
theorem dX12_town_8 : decode cX12_town 8 = .ok (.iconst 2, 1) := by decide +kernel
theorem dX12_town_9 : decode cX12_town 9 = .ok (.invokestatic 279, 3) := by decide +kernel
theorem sF_w (k : Nat) (h : k < 192) : sF k = 0 := by
  unfold sF upd
  rw [if_neg (by omega), if_neg (by omega), if_neg (by omega), if_neg (by omega)]
theorem sF_wI {i : Nat} (h : i < 192) : sF (nI i).toNatClampNeg = 0 := by rw [nI_clamp (by omega)]; exact sF_w i h
def vs_m_standing : List Cond := .code yX12_standing cX12_standing 3 (some .int) :: (([.fieldLink RX12 29 "KerbSplashModel" "s" "[I"] : List Cond) ++ ((wsX120) ++ ([])))
set_option maxHeartbeats 4000000 in
set_option maxRecDepth 100000 in
theorem l_standing {p : Program} {l : Launch} {e : Env} {R : Room} {s : State} {m : MethodId} {args : Array Value} {below : List Frame} {meth : Method} {c : Code} {Q : State → Prop} {cells slots : Nat} {D : va_G} {cy : Nat → ClassId} {sa : Nat → Nat} {A : Nat → Prop} {mo : Nat} {ma : Nat → Nat}  (hx : p.tables.exec = Jvm.exec) (hb : c.code = cX12_standing) (hts : ∀ w ∈ vs_m_standing, w.before args s = true) (hown : s.vm.findClass RX12 = some m.cls) (hG : GC D cy sa s)
    (kk : ∀  (H : Heap) (locs : List Loc) (ls : Array Slot), va_P D vwCl [(mo, .inr (12, [.int 0, .ref (ma 1), .int 0, .int 0, .int 0, .int 0, .int 0, .int 0, .int (-1), .ref (ma 9), .ref (ma 10), .ref (ma 11), .ref (ma 12), .ref (ma 13), .ref (ma 14), .ref (ma 15), .int 0, .int 0, .int 0, .ref (ma 19), .ref (ma 20), .ref (ma 21), .int 0, .ref (ma 23), .ref (ma 24), .ref (ma 25), .ref (ma 26), .ref (ma 27), .ref (ma 28), .int 0, .int 0, .int 0, .int 0, .ref (ma 33), .int (-1), .ref (ma 35), .int 0, .int 0])), ((ma 12), .inl (cy 0, 389, .inl sF))] H → va_D A [(mo, .inr (12, [.int 0, .ref (ma 1), .int 0, .int 0, .int 0, .int 0, .int 0, .int 0, .int (-1), .ref (ma 9), .ref (ma 10), .ref (ma 11), .ref (ma 12), .ref (ma 13), .ref (ma 14), .ref (ma 15), .int 0, .int 0, .int 0, .ref (ma 19), .ref (ma 20), .ref (ma 21), .int 0, .ref (ma 23), .ref (ma 24), .ref (ma 25), .ref (ma 26), .ref (ma 27), .ref (ma 28), .int 0, .int 0, .int 0, .int 0, .ref (ma 33), .int (-1), .ref (ma 35), .int 0, .int 0])), ((ma 12), .inl (cy 0, 389, .inl sF))] → va_S A s.heap H locs → lv_has ls 3 [(2, .int 192), (1, .int 0), (0, .ref mo)] → W p l e R s m args below meth c H locs cells slots Q (F0 m 27 ls [])) :
    ∀ (k i : Nat)  (H : Heap) (locs : List Loc) (ls : Array Slot), i + k = 192 → 96 ≤ i → va_P D vwCl [(mo, .inr (12, [.int 0, .ref (ma 1), .int 0, .int 0, .int 0, .int 0, .int 0, .int 0, .int (-1), .ref (ma 9), .ref (ma 10), .ref (ma 11), .ref (ma 12), .ref (ma 13), .ref (ma 14), .ref (ma 15), .int 0, .int 0, .int 0, .ref (ma 19), .ref (ma 20), .ref (ma 21), .int 0, .ref (ma 23), .ref (ma 24), .ref (ma 25), .ref (ma 26), .ref (ma 27), .ref (ma 28), .int 0, .int 0, .int 0, .int 0, .ref (ma 33), .int (-1), .ref (ma 35), .int 0, .int 0])), ((ma 12), .inl (cy 0, 389, .inl sF))] H → va_D A [(mo, .inr (12, [.int 0, .ref (ma 1), .int 0, .int 0, .int 0, .int 0, .int 0, .int 0, .int (-1), .ref (ma 9), .ref (ma 10), .ref (ma 11), .ref (ma 12), .ref (ma 13), .ref (ma 14), .ref (ma 15), .int 0, .int 0, .int 0, .ref (ma 19), .ref (ma 20), .ref (ma 21), .int 0, .ref (ma 23), .ref (ma 24), .ref (ma 25), .ref (ma 26), .ref (ma 27), .ref (ma 28), .int 0, .int 0, .int 0, .int 0, .ref (ma 33), .int (-1), .ref (ma 35), .int 0, .int 0])), ((ma 12), .inl (cy 0, 389, .inl sF))] → va_S A s.heap H locs → lv_has ls 3 [(2, .int (nI i)), (1, .int 0), (0, .ref mo)] → W p l e R s m args below meth c H locs cells slots Q (F0 m 5 ls []) := by
  have lf29 := hts (.fieldLink RX12 29 "KerbSplashModel" "s" "[I") (List.mem_of_getElem? (i := 1) rfl)
  have hi12 : ∀ w ∈ wsX120, w ∈ vs_m_standing := fun w h => List.mem_cons_of_mem _ (List.mem_append_right _ (List.mem_append_left _ h))
  intro k
  induction k with
  | zero =>
    intro i  H locs ls hi hlo hP hD hS hlv
    obtain rfl : i = 192 := by omega
    refine lv_iload_n hx hb dX12_standing_5 rfl (lv_at hlv 0 rfl) ?_
    refine lv_sipush (v := 192) hx hb dX12_standing_6 (by decide) ?_
    refine lv_icmp_ge (tgt := 27) hx hb dX12_standing_9 (by decide) (fun _ => ?_) (fun c => absurd (nI_le (Nat.le_refl 192) (by decide)) c)
    exact kk  H locs ls hP hD hS hlv
  | succ k ih =>
    intro i  H locs ls hi hlo hP hD hS hlv
    have hin : i < 192 := by omega
    refine lv_iload_n hx hb dX12_standing_5 rfl (lv_at hlv 0 rfl) ?_
    refine lv_sipush (v := 192) hx hb dX12_standing_6 (by decide) ?_
    refine lv_icmp_ge (tgt := 27) hx hb dX12_standing_9 (by decide) (fun c => absurd c (nI_ge hin (by decide))) (fun _ => ?_)
    refine lv_iload_n hx hb dX12_standing_12 rfl (lv_at hlv 1 rfl) ?_
    refine lv_aload_n hx hb dX12_standing_13 rfl (lv_at hlv 2 rfl) ?_
    refine va_get (D := D) (ci := 12) (v := .ref (ma 12)) (C := RX12) (T := TX12) (N := 38) hx hb hts hi12 hown hG.1 hP 0 rfl rfl 12 (by decide) lf29 (fun _ h9 => h9) rfl dX12_standing_14 ?_
    refine lv_iload_n hx hb dX12_standing_17 rfl (lv_at hlv 0 rfl) ?_
    refine va_iald hx hb hG.1 hP 1 0 rfl rfl (vp_in_nI (Nat.lt_of_lt_of_le hin (by decide)) (by decide)) dX12_standing_18 ?_
    refine lt_i (y := 0) (by exact sF_wI hin) ?_
    refine lv_iadd hx hb dX12_standing_19 ?_
    refine lt_i (y := 0) (by decide) ?_
    refine lv_istore_n (lv' := [(1, .int 0), (2, .int (nI i)), (0, .ref mo)]) hx hb dX12_standing_20 rfl hlv (by decide) rfl (fun ls hlv => ?_)
    refine lv_iinc (v := (nI (i + 1))) (lv' := [(2, .int (nI (i + 1))), (1, .int 0), (0, .ref mo)]) hx hb dX12_standing_21 hlv (k := 1) rfl (nI_1 i) (by decide) rfl (fun ls hlv => ?_)
    refine lv_goto (tgt := 5) hx hb dX12_standing_24 (by decide) ?_
    exact ih (i + 1)  H locs ls (by omega) (by omega) hP hD hS hlv
set_option maxHeartbeats 4000000 in
set_option maxRecDepth 100000 in
theorem m_standing (l : Launch) (hl : l.stackTraces = false) (D : va_G) (cy : Nat → ClassId) (sa : Nat → Nat) (mo : Nat) (ma : Nat → Nat) (sz : Nat) : Met l yX12_standing vs_m_standing ({ frames := 0, cells := 0, slots := 0, locals := 0 }) (va_Pc [.ref mo] (pcW D cy sa sz [(mo, .inr (12, [.int 0, .ref (ma 1), .int 0, .int 0, .int 0, .int 0, .int 0, .int 0, .int (-1), .ref (ma 9), .ref (ma 10), .ref (ma 11), .ref (ma 12), .ref (ma 13), .ref (ma 14), .ref (ma 15), .int 0, .int 0, .int 0, .ref (ma 19), .ref (ma 20), .ref (ma 21), .int 0, .ref (ma 23), .ref (ma 24), .ref (ma 25), .ref (ma 26), .ref (ma 27), .ref (ma 28), .int 0, .int 0, .int 0, .int 0, .ref (ma 33), .int (-1), .ref (ma 35), .int 0, .int 0])), ((ma 12), .inl (cy 0, 389, .inl sF))])) (va_Qi (fun (r : Int32) (u : SU) => (r = 0)) (fun u t => atW D (va_A [(mo, .inr (12, [.int 0, .ref (ma 1), .int 0, .int 0, .int 0, .int 0, .int 0, .int 0, .int (-1), .ref (ma 9), .ref (ma 10), .ref (ma 11), .ref (ma 12), .ref (ma 13), .ref (ma 14), .ref (ma 15), .int 0, .int 0, .int 0, .ref (ma 19), .ref (ma 20), .ref (ma 21), .int 0, .ref (ma 23), .ref (ma 24), .ref (ma 25), .ref (ma 26), .ref (ma 27), .ref (ma 28), .int 0, .int 0, .int 0, .int 0, .ref (ma 33), .int (-1), .ref (ma 35), .int 0, .int 0])), ((ma 12), .inl (cy 0, 389, .inl sF))] sz) [(mo, .inr (12, [.int 0, .ref (ma 1), .int 0, .int 0, .int 0, .int 0, .int 0, .int 0, .int (-1), .ref (ma 9), .ref (ma 10), .ref (ma 11), .ref (ma 12), .ref (ma 13), .ref (ma 14), .ref (ma 15), .int 0, .int 0, .int 0, .ref (ma 19), .ref (ma 20), .ref (ma 21), .int 0, .ref (ma 23), .ref (ma 24), .ref (ma 25), .ref (ma 26), .ref (ma 27), .ref (ma 28), .int 0, .int 0, .int 0, .int 0, .ref (ma 33), .int (-1), .ref (ma 35), .int 0, .int 0])), ((ma 12), .inl (cy 0, 389, .inl sF))] t) (va_A [(mo, .inr (12, [.int 0, .ref (ma 1), .int 0, .int 0, .int 0, .int 0, .int 0, .int 0, .int (-1), .ref (ma 9), .ref (ma 10), .ref (ma 11), .ref (ma 12), .ref (ma 13), .ref (ma 14), .ref (ma 15), .int 0, .int 0, .int 0, .ref (ma 19), .ref (ma 20), .ref (ma 21), .int 0, .ref (ma 23), .ref (ma 24), .ref (ma 25), .ref (ma 26), .ref (ma 27), .ref (ma 28), .int 0, .int 0, .int 0, .int 0, .ref (ma 33), .int (-1), .ref (ma 35), .int 0, .int 0])), ((ma 12), .inl (cy 0, 389, .inl sF))] sz)) 0 0 (va_A [(mo, .inr (12, [.int 0, .ref (ma 1), .int 0, .int 0, .int 0, .int 0, .int 0, .int 0, .int (-1), .ref (ma 9), .ref (ma 10), .ref (ma 11), .ref (ma 12), .ref (ma 13), .ref (ma 14), .ref (ma 15), .int 0, .int 0, .int 0, .ref (ma 19), .ref (ma 20), .ref (ma 21), .int 0, .ref (ma 23), .ref (ma 24), .ref (ma 25), .ref (ma 26), .ref (ma 27), .ref (ma 28), .int 0, .int 0, .int 0, .int 0, .ref (ma 33), .int (-1), .ref (ma 35), .int 0, .int 0])), ((ma 12), .inl (cy 0, 389, .inl sF))] sz) := by
  refine Met.ofW (cc := cX12_standing) (maxL := 3) (ret := (some .int)) (by decide) rfl ?_
  intro p e s m args below meth c s₁ B hml hv
  obtain ⟨rfl, hsz, hP, hG, hD0, hT⟩ := hv
  have hx := B.exec
  have hb := B.bytes
  have hr := B.returns
  have hts := atoms_spec (ws := vs_m_standing) B.pre
  have hown : s.vm.findClass RX12 = some m.cls := findClass_of_methodNamed B.named
  have hlocks := B.notSynchronized
  subst hsz
  have hD := hD0.self (sz := s.heap.size)
  generalize hAe : va_A [(mo, .inr (12, [.int 0, .ref (ma 1), .int 0, .int 0, .int 0, .int 0, .int 0, .int 0, .int (-1), .ref (ma 9), .ref (ma 10), .ref (ma 11), .ref (ma 12), .ref (ma 13), .ref (ma 14), .ref (ma 15), .int 0, .int 0, .int 0, .ref (ma 19), .ref (ma 20), .ref (ma 21), .int 0, .ref (ma 23), .ref (ma 24), .ref (ma 25), .ref (ma 26), .ref (ma 27), .ref (ma 28), .int 0, .int 0, .int 0, .int 0, .ref (ma 33), .int (-1), .ref (ma 35), .int 0, .int 0])), ((ma 12), .inl (cy 0, 389, .inl sF))] s.heap.size = A at hD hT ⊢
  have hA : ∀ q : Nat, s.heap.size ≤ q → A q := fun q h => by rw [← hAe]; exact Or.inr h
  have hS : va_S A s.heap s.heap [] := va_S.rf
  have hl0 := lv_entry ([.ref mo]) (n := 3) (Nat.le_of_ble_eq_true rfl)
  rw [lg_entry_eq]
  generalize (lg_sl ([.ref mo]) ++ List.replicate (3 - (lg_sl ([.ref mo])).length) Slot.unset).toArray = ls at hl0 ⊢
  have hlv : lv_has ls 3 [(0, .ref mo)] := hl0
  refine lv_iconst (v := 0) hx hb dX12_standing_0 (by decide) ?_
  refine lv_istore_n (lv' := [(1, .int 0), (0, .ref mo)]) hx hb dX12_standing_1 rfl hlv (by decide) rfl (fun ls hlv => ?_)
  refine lv_bipush (v := 96) hx hb dX12_standing_2 (by decide) ?_
  refine lv_istore_n (lv' := [(2, .int 96), (1, .int 0), (0, .ref mo)]) hx hb dX12_standing_4 rfl hlv (by decide) rfl (fun ls hlv => ?_)
  refine l_standing hx hb hts hown hG (fun  H locs ls hP hD hS hlv => ?_) 96 96  _ _ _ rfl (by decide) hP hD hS (lv_sub hlv [0, 1, 2] rfl)
  refine lv_iload_n hx hb dX12_standing_27 rfl (lv_at hlv 1 rfl) ?_
  refine W.widen (k := 0) (n := 0) (Nat.le_of_ble_eq_true rfl) (Nat.le_of_ble_eq_true rfl) ?_
  exact W.iret (v := 0) hx hb hr (fun t ht hW => ⟨⟨0, ((fun k => ([] : List Nat).getD k 0), (fun k => ([] : List Int32).getD k 0), (fun k => ([] : List (Nat → Int32)).getD k (fun _ => 0))), rfl, (by first | (exact (by rfl))), by rw [ht]; exact hP.sub [0, 1] rfl, hD.sub [0, 1] (by decide) rfl⟩, hS.F ht⟩) hS.2.2 dX12_standing_28
def vs_m_sums0 : List Cond := .code yX12_sums cX12_sums 2 (some .int) :: (([.fieldLink RX12 1 "KerbSplashModel" "thrown" "I", .fieldLink RX12 29 "KerbSplashModel" "s" "[I"] : List Cond) ++ ((wsX120) ++ ((va_wsS RX12 279 yX12_within vs_c_within) ++ ((wsV RX12 175 RX12 yX12_may vs_c_may1) ++ ([])))))
set_option maxHeartbeats 4000000 in
set_option maxRecDepth 100000 in
theorem m_sums0 (l : Launch) (hl : l.stackTraces = false) (D : va_G) (cy : Nat → ClassId) (sa : Nat → Nat) (mo : Nat) (ma : Nat → Nat) (sz : Nat) : Met l yX12_sums vs_m_sums0 ({ frames := 1, cells := 0, slots := 0, locals := 23 }) (va_Pc [.ref mo, .int 0] (pcW D cy sa sz [(mo, .inr (12, [.int 0, .ref (ma 1), .int 0, .int 0, .int 0, .int 0, .int 0, .int 0, .int (-1), .ref (ma 9), .ref (ma 10), .ref (ma 11), .ref (ma 12), .ref (ma 13), .ref (ma 14), .ref (ma 15), .int 0, .int 0, .int 0, .ref (ma 19), .ref (ma 20), .ref (ma 21), .int 0, .ref (ma 23), .ref (ma 24), .ref (ma 25), .ref (ma 26), .ref (ma 27), .ref (ma 28), .int 0, .int 0, .int 0, .int 0, .ref (ma 33), .int (-1), .ref (ma 35), .int 0, .int 0])), ((ma 1), .inl (cy 0, 4, .inl (fun _ => 0))), ((ma 12), .inl (cy 0, 389, .inl sF))])) (va_Qi (fun (r : Int32) (u : SU) => (r = 0 ∧ (u.2.1 0) = 0)) (fun u t => atW D (va_A [(mo, .inr (12, [.int 0, .ref (ma 1), .int 0, .int 0, .int 0, .int 0, .int 0, .int 0, .int (-1), .ref (ma 9), .ref (ma 10), .ref (ma 11), .ref (ma 12), .ref (ma 13), .ref (ma 14), .ref (ma 15), .int 0, .int 0, .int 0, .ref (ma 19), .ref (ma 20), .ref (ma 21), .int 0, .ref (ma 23), .ref (ma 24), .ref (ma 25), .ref (ma 26), .ref (ma 27), .ref (ma 28), .int 0, .int 0, .int 0, .int 0, .ref (ma 33), .int (-1), .ref (ma 35), .int 0, .int 0])), ((ma 1), .inl (cy 0, 4, .inl (fun _ => 0))), ((ma 12), .inl (cy 0, 389, .inl sF))] sz) [(mo, .inr (12, [.int (u.2.1 0), .ref (ma 1), .int 0, .int 0, .int 0, .int 0, .int 0, .int 0, .int (-1), .ref (ma 9), .ref (ma 10), .ref (ma 11), .ref (ma 12), .ref (ma 13), .ref (ma 14), .ref (ma 15), .int 0, .int 0, .int 0, .ref (ma 19), .ref (ma 20), .ref (ma 21), .int 0, .ref (ma 23), .ref (ma 24), .ref (ma 25), .ref (ma 26), .ref (ma 27), .ref (ma 28), .int 0, .int 0, .int 0, .int 0, .ref (ma 33), .int (-1), .ref (ma 35), .int 0, .int 0]))] t) (va_A [(mo, .inr (12, [.int 0, .ref (ma 1), .int 0, .int 0, .int 0, .int 0, .int 0, .int 0, .int (-1), .ref (ma 9), .ref (ma 10), .ref (ma 11), .ref (ma 12), .ref (ma 13), .ref (ma 14), .ref (ma 15), .int 0, .int 0, .int 0, .ref (ma 19), .ref (ma 20), .ref (ma 21), .int 0, .ref (ma 23), .ref (ma 24), .ref (ma 25), .ref (ma 26), .ref (ma 27), .ref (ma 28), .int 0, .int 0, .int 0, .int 0, .ref (ma 33), .int (-1), .ref (ma 35), .int 0, .int 0])), ((ma 1), .inl (cy 0, 4, .inl (fun _ => 0))), ((ma 12), .inl (cy 0, 389, .inl sF))] sz)) 0 0 (va_A [(mo, .inr (12, [.int 0, .ref (ma 1), .int 0, .int 0, .int 0, .int 0, .int 0, .int 0, .int (-1), .ref (ma 9), .ref (ma 10), .ref (ma 11), .ref (ma 12), .ref (ma 13), .ref (ma 14), .ref (ma 15), .int 0, .int 0, .int 0, .ref (ma 19), .ref (ma 20), .ref (ma 21), .int 0, .ref (ma 23), .ref (ma 24), .ref (ma 25), .ref (ma 26), .ref (ma 27), .ref (ma 28), .int 0, .int 0, .int 0, .int 0, .ref (ma 33), .int (-1), .ref (ma 35), .int 0, .int 0])), ((ma 1), .inl (cy 0, 4, .inl (fun _ => 0))), ((ma 12), .inl (cy 0, 389, .inl sF))] sz) := by
  refine Met.ofW (cc := cX12_sums) (maxL := 2) (ret := (some .int)) (by decide) rfl ?_
  intro p e s m args below meth c s₁ B hml hv
  obtain ⟨rfl, hsz, hP, hG, hD0, hT⟩ := hv
  have hx := B.exec
  have hb := B.bytes
  have hr := B.returns
  have hts := atoms_spec (ws := vs_m_sums0) B.pre
  have hown : s.vm.findClass RX12 = some m.cls := findClass_of_methodNamed B.named
  have hlocks := B.notSynchronized
  subst hsz
  have hD := hD0.self (sz := s.heap.size)
  generalize hAe : va_A [(mo, .inr (12, [.int 0, .ref (ma 1), .int 0, .int 0, .int 0, .int 0, .int 0, .int 0, .int (-1), .ref (ma 9), .ref (ma 10), .ref (ma 11), .ref (ma 12), .ref (ma 13), .ref (ma 14), .ref (ma 15), .int 0, .int 0, .int 0, .ref (ma 19), .ref (ma 20), .ref (ma 21), .int 0, .ref (ma 23), .ref (ma 24), .ref (ma 25), .ref (ma 26), .ref (ma 27), .ref (ma 28), .int 0, .int 0, .int 0, .int 0, .ref (ma 33), .int (-1), .ref (ma 35), .int 0, .int 0])), ((ma 1), .inl (cy 0, 4, .inl (fun _ => 0))), ((ma 12), .inl (cy 0, 389, .inl sF))] s.heap.size = A at hD hT ⊢
  have hA : ∀ q : Nat, s.heap.size ≤ q → A q := fun q h => by rw [← hAe]; exact Or.inr h
  have hS : va_S A s.heap s.heap [] := va_S.rf
  have hl0 := lv_entry ([.ref mo, .int 0]) (n := 2) (Nat.le_of_ble_eq_true rfl)
  rw [lg_entry_eq]
  generalize (lg_sl ([.ref mo, .int 0]) ++ List.replicate (2 - (lg_sl ([.ref mo, .int 0])).length) Slot.unset).toArray = ls at hl0 ⊢
  have hlv : lv_has ls 2 [(0, .ref mo), (1, .int 0)] := hl0
  have lf1 := hts (.fieldLink RX12 1 "KerbSplashModel" "thrown" "I") (List.mem_of_getElem? (i := 1) rfl)
  have hi12 : ∀ w ∈ wsX120, w ∈ vs_m_sums0 := fun w h => List.mem_cons_of_mem _ (List.mem_append_right _ (List.mem_append_left _ h))
  have gg_1 : GoodIn vs_m_sums0 (va_wsS RX12 279 yX12_within vs_c_within) := goodIn_sub (fun w h => List.mem_cons_of_mem _ (List.mem_append_right _ (List.mem_append_right _ (List.mem_append_left _ h)))) (by decide +kernel)
  have gg_2 : GoodIn vs_m_sums0 (wsV RX12 175 RX12 yX12_may vs_c_may1) := goodIn_sub (fun w h => List.mem_cons_of_mem _ (List.mem_append_right _ (List.mem_append_right _ (List.mem_append_right _ (List.mem_append_left _ h))))) (by decide +kernel)
  have lf29 := hts (.fieldLink RX12 29 "KerbSplashModel" "s" "[I") (List.mem_of_getElem? (i := 2) rfl)
  refine lv_aload_n hx hb dX12_sums_0 rfl (lv_at hlv 0 rfl) ?_
  refine lv_iconst (v := 0) hx hb dX12_sums_1 (by decide) ?_
  refine va_put (D := D) (ci := 12) (v := .int 0) (ty := .int) (C := RX12) (T := TX12) (N := 38) hx hb hts hi12 tyX12 tyX12_ok nmX12 hown hG.1 hP hD hS 0 rfl rfl 0 (by decide) lf1 (fun _ h9 => h9) rfl (by decide +kernel) rfl rfl (Nat.le_of_ble_eq_true rfl) dX12_sums_2 (fun H locs hP hD hS => ?_)
  have hP : va_P D vwCl [(mo, .inr (12, [.int 0, .ref (ma 1), .int 0, .int 0, .int 0, .int 0, .int 0, .int 0, .int (-1), .ref (ma 9), .ref (ma 10), .ref (ma 11), .ref (ma 12), .ref (ma 13), .ref (ma 14), .ref (ma 15), .int 0, .int 0, .int 0, .ref (ma 19), .ref (ma 20), .ref (ma 21), .int 0, .ref (ma 23), .ref (ma 24), .ref (ma 25), .ref (ma 26), .ref (ma 27), .ref (ma 28), .int 0, .int 0, .int 0, .int 0, .ref (ma 33), .int (-1), .ref (ma 35), .int 0, .int 0])), ((ma 1), .inl (cy 0, 4, .inl (fun _ => 0))), ((ma 12), .inl (cy 0, 389, .inl sF))] H := hP
  have hD : va_D A [(mo, .inr (12, [.int 0, .ref (ma 1), .int 0, .int 0, .int 0, .int 0, .int 0, .int 0, .int (-1), .ref (ma 9), .ref (ma 10), .ref (ma 11), .ref (ma 12), .ref (ma 13), .ref (ma 14), .ref (ma 15), .int 0, .int 0, .int 0, .ref (ma 19), .ref (ma 20), .ref (ma 21), .int 0, .ref (ma 23), .ref (ma 24), .ref (ma 25), .ref (ma 26), .ref (ma 27), .ref (ma 28), .int 0, .int 0, .int 0, .int 0, .ref (ma 33), .int (-1), .ref (ma 35), .int 0, .int 0])), ((ma 1), .inl (cy 0, 4, .inl (fun _ => 0))), ((ma 12), .inl (cy 0, 389, .inl sF))] := hD
  refine lv_aload_n hx hb dX12_sums_5 rfl (lv_at hlv 0 rfl) ?_
  refine lv_iload_n hx hb dX12_sums_6 rfl (lv_at hlv 1 rfl) ?_
  refine lv_iconst (v := 0) hx hb dX12_sums_7 (by decide) ?_
  refine lv_iconst (v := 3) hx hb dX12_sums_8 (by decide) ?_
  refine cj_i (wr := [(mo, .inr (12, [.int 0, .ref (ma 1), .int 0, .int 0, .int 0, .int 0, .int 0, .int 0, .int (-1), .ref (ma 9), .ref (ma 10), .ref (ma 11), .ref (ma 12), .ref (ma 13), .ref (ma 14), .ref (ma 15), .int 0, .int 0, .int 0, .ref (ma 19), .ref (ma 20), .ref (ma 21), .int 0, .ref (ma 23), .ref (ma 24), .ref (ma 25), .ref (ma 26), .ref (ma 27), .ref (ma 28), .int 0, .int 0, .int 0, .int 0, .ref (ma 33), .int (-1), .ref (ma 35), .int 0, .int 0])), ((ma 1), .inl (cy 0, 4, .inl (fun _ => 0))), ((ma 12), .inl (cy 0, 389, .inl sF))]) (va_runS (As := [.int 0, .int 0, .int 3]) (rest := [.ref mo]) ⟨hx, hb, hml, hown, hts⟩ (c_within l hl D cy sa 0 0 3 H.size) (va_cwS 3 hts gg_1 rfl rfl rfl (by decide +kernel) ⟨Nat.le_of_ble_eq_true rfl, Nat.le_of_ble_eq_true rfl⟩) ⟨pcW.blind, (pcW.mk hP hD hS hA hG hT [] rfl (by decide))⟩ rfl rfl hlv.1 rfl (lv_room (Nat.le_of_ble_eq_true rfl)) dX12_sums_9 ⟨Nat.le_of_ble_eq_true rfl, Nat.le_of_ble_eq_true rfl⟩) hP hD hS hA [] [0, 1, 2] rfl rfl (by decide) (by decide) (fun r1 u1 H locs hw1 hP hD hS => ?_)
  rcases hw1 with ⟨hg1, rfl⟩ | ⟨hg1, rfl⟩
  · have hP : va_P D vwCl [(mo, .inr (12, [.int 0, .ref (ma 1), .int 0, .int 0, .int 0, .int 0, .int 0, .int 0, .int (-1), .ref (ma 9), .ref (ma 10), .ref (ma 11), .ref (ma 12), .ref (ma 13), .ref (ma 14), .ref (ma 15), .int 0, .int 0, .int 0, .ref (ma 19), .ref (ma 20), .ref (ma 21), .int 0, .ref (ma 23), .ref (ma 24), .ref (ma 25), .ref (ma 26), .ref (ma 27), .ref (ma 28), .int 0, .int 0, .int 0, .int 0, .ref (ma 33), .int (-1), .ref (ma 35), .int 0, .int 0])), ((ma 1), .inl (cy 0, 4, .inl (fun _ => 0))), ((ma 12), .inl (cy 0, 389, .inl sF))] H := hP
    have hD : va_D A [(mo, .inr (12, [.int 0, .ref (ma 1), .int 0, .int 0, .int 0, .int 0, .int 0, .int 0, .int (-1), .ref (ma 9), .ref (ma 10), .ref (ma 11), .ref (ma 12), .ref (ma 13), .ref (ma 14), .ref (ma 15), .int 0, .int 0, .int 0, .ref (ma 19), .ref (ma 20), .ref (ma 21), .int 0, .ref (ma 23), .ref (ma 24), .ref (ma 25), .ref (ma 26), .ref (ma 27), .ref (ma 28), .int 0, .int 0, .int 0, .int 0, .ref (ma 33), .int (-1), .ref (ma 35), .int 0, .int 0])), ((ma 1), .inl (cy 0, 4, .inl (fun _ => 0))), ((ma 12), .inl (cy 0, 389, .inl sF))] := hD
    refine lv_iconst (v := 1) hx hb dX12_sums_12 (by decide) ?_
    refine lv_iconst (v := 2) hx hb dX12_sums_13 (by decide) ?_
    refine cj_i (wr := [((ma 1), .inl (cy 0, 4, .inl (fun _ => 0))), ((ma 12), .inl (cy 0, 389, .inl sF))]) (va_runV (As := [.int 1, .int 1, .int 2]) (rest := []) ⟨hx, hb, hml, hown, hts⟩ (c_may1 l hl D cy sa mo ma 1 2 H.size) (cwV 3 hts gg_2 rfl rfl rfl (by decide +kernel) ⟨Nat.le_of_ble_eq_true rfl, Nat.le_of_ble_eq_true rfl⟩) ⟨pcW.blind, (va_recv hG.1 hP (ci := 12) (q0 := 0) rfl rfl), (pcW.mk hP hD hS hA hG hT [0] rfl (by decide))⟩ rfl rfl hlv.1 rfl (lv_room (Nat.le_of_ble_eq_true rfl)) dX12_sums_14 ⟨Nat.le_of_ble_eq_true rfl, Nat.le_of_ble_eq_true rfl⟩) hP hD hS hA [0] [1, 2] rfl rfl (by decide) (by decide) (fun r2 u2 H locs hw2 hP hD hS => ?_)
    obtain rfl := hw2
    have hP : va_P D vwCl [((ma 1), .inl (cy 0, 4, .inl (fun _ => 0))), ((ma 12), .inl (cy 0, 389, .inl sF)), (mo, .inr (12, [.int 0, .ref (ma 1), .int 0, .int 0, .int 0, .int 0, .int 0, .int 0, .int (-1), .ref (ma 9), .ref (ma 10), .ref (ma 11), .ref (ma 12), .ref (ma 13), .ref (ma 14), .ref (ma 15), .int 0, .int 0, .int 0, .ref (ma 19), .ref (ma 20), .ref (ma 21), .int 0, .ref (ma 23), .ref (ma 24), .ref (ma 25), .ref (ma 26), .ref (ma 27), .ref (ma 28), .int 0, .int 0, .int 0, .int 0, .ref (ma 33), .int (-1), .ref (ma 35), .int 0, .int 0]))] H := hP
    have hD : va_D A [((ma 1), .inl (cy 0, 4, .inl (fun _ => 0))), ((ma 12), .inl (cy 0, 389, .inl sF)), (mo, .inr (12, [.int 0, .ref (ma 1), .int 0, .int 0, .int 0, .int 0, .int 0, .int 0, .int (-1), .ref (ma 9), .ref (ma 10), .ref (ma 11), .ref (ma 12), .ref (ma 13), .ref (ma 14), .ref (ma 15), .int 0, .int 0, .int 0, .ref (ma 19), .ref (ma 20), .ref (ma 21), .int 0, .ref (ma 23), .ref (ma 24), .ref (ma 25), .ref (ma 26), .ref (ma 27), .ref (ma 28), .int 0, .int 0, .int 0, .int 0, .ref (ma 33), .int (-1), .ref (ma 35), .int 0, .int 0]))] := hD
    refine lv_if_ne (tgt := 22) hx hb dX12_sums_17 (by decide) (fun _ => ?_) (fun c => absurd c (by decide))
    refine lv_iload_n hx hb dX12_sums_22 rfl (lv_at hlv 1 rfl) ?_
    refine lv_iconst (v := 3) hx hb dX12_sums_23 (by decide) ?_
    refine lv_icmp_ge (tgt := 40) hx hb dX12_sums_24 (by decide) (fun c => absurd c (by decide)) (fun _ => ?_)
    refine lv_aload_n hx hb dX12_sums_27 rfl (lv_at hlv 0 rfl) ?_
    refine va_get (D := D) (ci := 12) (v := .ref (ma 12)) (C := RX12) (T := TX12) (N := 38) hx hb hts hi12 hown hG.1 hP 2 rfl rfl 12 (by decide) lf29 (fun _ h9 => h9) rfl dX12_sums_28 ?_
    refine lv_sipush (v := 385) hx hb dX12_sums_31 (by decide) ?_
    refine lv_iload_n hx hb dX12_sums_34 rfl (lv_at hlv 1 rfl) ?_
    refine lv_iadd hx hb dX12_sums_35 ?_
    refine lt_i (y := 385) (by decide) ?_
    refine va_iald hx hb hG.1 hP 1 0 rfl rfl (vpd (by decide)) dX12_sums_36 ?_
    refine lt_i (y := 0) (by first | rfl | decide +kernel) ?_
    refine lv_goto (tgt := 44) hx hb dX12_sums_37 (by decide) ?_
    refine W.widen (k := 0) (n := 0) (Nat.le_of_ble_eq_true rfl) (Nat.le_of_ble_eq_true rfl) ?_
    exact W.iret (v := 0) hx hb hr (fun t ht hW => ⟨⟨0, ((fun k => ([] : List Nat).getD k 0), (fun k => ([0] : List Int32).getD k 0), (fun k => ([] : List (Nat → Int32)).getD k (fun _ => 0))), rfl, (by first | (exact ⟨by rfl, by rfl⟩)), by rw [ht]; exact hP.sub [2] rfl, hD.sub [2] (by decide) rfl⟩, hS.F ht⟩) hS.2.2 dX12_sums_44
  · exact absurd hg1 (fun q => absurd (by decide) q)
def vs_m_sums1 : List Cond := .code yX12_sums cX12_sums 2 (some .int) :: (([.fieldLink RX12 1 "KerbSplashModel" "thrown" "I", .fieldLink RX12 29 "KerbSplashModel" "s" "[I"] : List Cond) ++ ((wsX120) ++ ((va_wsS RX12 279 yX12_within vs_c_within) ++ ((wsV RX12 175 RX12 yX12_may vs_c_may1) ++ ([])))))
set_option maxHeartbeats 4000000 in
set_option maxRecDepth 100000 in
theorem m_sums1 (l : Launch) (hl : l.stackTraces = false) (D : va_G) (cy : Nat → ClassId) (sa : Nat → Nat) (mo : Nat) (ma : Nat → Nat) (sz : Nat) : Met l yX12_sums vs_m_sums1 ({ frames := 1, cells := 0, slots := 0, locals := 23 }) (va_Pc [.ref mo, .int 1] (pcW D cy sa sz [(mo, .inr (12, [.int 0, .ref (ma 1), .int 0, .int 0, .int 0, .int 0, .int 0, .int 0, .int (-1), .ref (ma 9), .ref (ma 10), .ref (ma 11), .ref (ma 12), .ref (ma 13), .ref (ma 14), .ref (ma 15), .int 0, .int 0, .int 0, .ref (ma 19), .ref (ma 20), .ref (ma 21), .int 0, .ref (ma 23), .ref (ma 24), .ref (ma 25), .ref (ma 26), .ref (ma 27), .ref (ma 28), .int 0, .int 0, .int 0, .int 0, .ref (ma 33), .int (-1), .ref (ma 35), .int 0, .int 0])), ((ma 1), .inl (cy 0, 4, .inl (fun _ => 0))), ((ma 12), .inl (cy 0, 389, .inl sF))])) (va_Qi (fun (r : Int32) (u : SU) => (r = 0 ∧ (u.2.1 0) = 0)) (fun u t => atW D (va_A [(mo, .inr (12, [.int 0, .ref (ma 1), .int 0, .int 0, .int 0, .int 0, .int 0, .int 0, .int (-1), .ref (ma 9), .ref (ma 10), .ref (ma 11), .ref (ma 12), .ref (ma 13), .ref (ma 14), .ref (ma 15), .int 0, .int 0, .int 0, .ref (ma 19), .ref (ma 20), .ref (ma 21), .int 0, .ref (ma 23), .ref (ma 24), .ref (ma 25), .ref (ma 26), .ref (ma 27), .ref (ma 28), .int 0, .int 0, .int 0, .int 0, .ref (ma 33), .int (-1), .ref (ma 35), .int 0, .int 0])), ((ma 1), .inl (cy 0, 4, .inl (fun _ => 0))), ((ma 12), .inl (cy 0, 389, .inl sF))] sz) [(mo, .inr (12, [.int (u.2.1 0), .ref (ma 1), .int 0, .int 0, .int 0, .int 0, .int 0, .int 0, .int (-1), .ref (ma 9), .ref (ma 10), .ref (ma 11), .ref (ma 12), .ref (ma 13), .ref (ma 14), .ref (ma 15), .int 0, .int 0, .int 0, .ref (ma 19), .ref (ma 20), .ref (ma 21), .int 0, .ref (ma 23), .ref (ma 24), .ref (ma 25), .ref (ma 26), .ref (ma 27), .ref (ma 28), .int 0, .int 0, .int 0, .int 0, .ref (ma 33), .int (-1), .ref (ma 35), .int 0, .int 0]))] t) (va_A [(mo, .inr (12, [.int 0, .ref (ma 1), .int 0, .int 0, .int 0, .int 0, .int 0, .int 0, .int (-1), .ref (ma 9), .ref (ma 10), .ref (ma 11), .ref (ma 12), .ref (ma 13), .ref (ma 14), .ref (ma 15), .int 0, .int 0, .int 0, .ref (ma 19), .ref (ma 20), .ref (ma 21), .int 0, .ref (ma 23), .ref (ma 24), .ref (ma 25), .ref (ma 26), .ref (ma 27), .ref (ma 28), .int 0, .int 0, .int 0, .int 0, .ref (ma 33), .int (-1), .ref (ma 35), .int 0, .int 0])), ((ma 1), .inl (cy 0, 4, .inl (fun _ => 0))), ((ma 12), .inl (cy 0, 389, .inl sF))] sz)) 0 0 (va_A [(mo, .inr (12, [.int 0, .ref (ma 1), .int 0, .int 0, .int 0, .int 0, .int 0, .int 0, .int (-1), .ref (ma 9), .ref (ma 10), .ref (ma 11), .ref (ma 12), .ref (ma 13), .ref (ma 14), .ref (ma 15), .int 0, .int 0, .int 0, .ref (ma 19), .ref (ma 20), .ref (ma 21), .int 0, .ref (ma 23), .ref (ma 24), .ref (ma 25), .ref (ma 26), .ref (ma 27), .ref (ma 28), .int 0, .int 0, .int 0, .int 0, .ref (ma 33), .int (-1), .ref (ma 35), .int 0, .int 0])), ((ma 1), .inl (cy 0, 4, .inl (fun _ => 0))), ((ma 12), .inl (cy 0, 389, .inl sF))] sz) := by
  refine Met.ofW (cc := cX12_sums) (maxL := 2) (ret := (some .int)) (by decide) rfl ?_
  intro p e s m args below meth c s₁ B hml hv
  obtain ⟨rfl, hsz, hP, hG, hD0, hT⟩ := hv
  have hx := B.exec
  have hb := B.bytes
  have hr := B.returns
  have hts := atoms_spec (ws := vs_m_sums1) B.pre
  have hown : s.vm.findClass RX12 = some m.cls := findClass_of_methodNamed B.named
  have hlocks := B.notSynchronized
  subst hsz
  have hD := hD0.self (sz := s.heap.size)
  generalize hAe : va_A [(mo, .inr (12, [.int 0, .ref (ma 1), .int 0, .int 0, .int 0, .int 0, .int 0, .int 0, .int (-1), .ref (ma 9), .ref (ma 10), .ref (ma 11), .ref (ma 12), .ref (ma 13), .ref (ma 14), .ref (ma 15), .int 0, .int 0, .int 0, .ref (ma 19), .ref (ma 20), .ref (ma 21), .int 0, .ref (ma 23), .ref (ma 24), .ref (ma 25), .ref (ma 26), .ref (ma 27), .ref (ma 28), .int 0, .int 0, .int 0, .int 0, .ref (ma 33), .int (-1), .ref (ma 35), .int 0, .int 0])), ((ma 1), .inl (cy 0, 4, .inl (fun _ => 0))), ((ma 12), .inl (cy 0, 389, .inl sF))] s.heap.size = A at hD hT ⊢
  have hA : ∀ q : Nat, s.heap.size ≤ q → A q := fun q h => by rw [← hAe]; exact Or.inr h
  have hS : va_S A s.heap s.heap [] := va_S.rf
  have hl0 := lv_entry ([.ref mo, .int 1]) (n := 2) (Nat.le_of_ble_eq_true rfl)
  rw [lg_entry_eq]
  generalize (lg_sl ([.ref mo, .int 1]) ++ List.replicate (2 - (lg_sl ([.ref mo, .int 1])).length) Slot.unset).toArray = ls at hl0 ⊢
  have hlv : lv_has ls 2 [(0, .ref mo), (1, .int 1)] := hl0
  have lf1 := hts (.fieldLink RX12 1 "KerbSplashModel" "thrown" "I") (List.mem_of_getElem? (i := 1) rfl)
  have hi12 : ∀ w ∈ wsX120, w ∈ vs_m_sums1 := fun w h => List.mem_cons_of_mem _ (List.mem_append_right _ (List.mem_append_left _ h))
  have gg_1 : GoodIn vs_m_sums1 (va_wsS RX12 279 yX12_within vs_c_within) := goodIn_sub (fun w h => List.mem_cons_of_mem _ (List.mem_append_right _ (List.mem_append_right _ (List.mem_append_left _ h)))) (by decide +kernel)
  have gg_2 : GoodIn vs_m_sums1 (wsV RX12 175 RX12 yX12_may vs_c_may1) := goodIn_sub (fun w h => List.mem_cons_of_mem _ (List.mem_append_right _ (List.mem_append_right _ (List.mem_append_right _ (List.mem_append_left _ h))))) (by decide +kernel)
  have lf29 := hts (.fieldLink RX12 29 "KerbSplashModel" "s" "[I") (List.mem_of_getElem? (i := 2) rfl)
  refine lv_aload_n hx hb dX12_sums_0 rfl (lv_at hlv 0 rfl) ?_
  refine lv_iconst (v := 0) hx hb dX12_sums_1 (by decide) ?_
  refine va_put (D := D) (ci := 12) (v := .int 0) (ty := .int) (C := RX12) (T := TX12) (N := 38) hx hb hts hi12 tyX12 tyX12_ok nmX12 hown hG.1 hP hD hS 0 rfl rfl 0 (by decide) lf1 (fun _ h9 => h9) rfl (by decide +kernel) rfl rfl (Nat.le_of_ble_eq_true rfl) dX12_sums_2 (fun H locs hP hD hS => ?_)
  have hP : va_P D vwCl [(mo, .inr (12, [.int 0, .ref (ma 1), .int 0, .int 0, .int 0, .int 0, .int 0, .int 0, .int (-1), .ref (ma 9), .ref (ma 10), .ref (ma 11), .ref (ma 12), .ref (ma 13), .ref (ma 14), .ref (ma 15), .int 0, .int 0, .int 0, .ref (ma 19), .ref (ma 20), .ref (ma 21), .int 0, .ref (ma 23), .ref (ma 24), .ref (ma 25), .ref (ma 26), .ref (ma 27), .ref (ma 28), .int 0, .int 0, .int 0, .int 0, .ref (ma 33), .int (-1), .ref (ma 35), .int 0, .int 0])), ((ma 1), .inl (cy 0, 4, .inl (fun _ => 0))), ((ma 12), .inl (cy 0, 389, .inl sF))] H := hP
  have hD : va_D A [(mo, .inr (12, [.int 0, .ref (ma 1), .int 0, .int 0, .int 0, .int 0, .int 0, .int 0, .int (-1), .ref (ma 9), .ref (ma 10), .ref (ma 11), .ref (ma 12), .ref (ma 13), .ref (ma 14), .ref (ma 15), .int 0, .int 0, .int 0, .ref (ma 19), .ref (ma 20), .ref (ma 21), .int 0, .ref (ma 23), .ref (ma 24), .ref (ma 25), .ref (ma 26), .ref (ma 27), .ref (ma 28), .int 0, .int 0, .int 0, .int 0, .ref (ma 33), .int (-1), .ref (ma 35), .int 0, .int 0])), ((ma 1), .inl (cy 0, 4, .inl (fun _ => 0))), ((ma 12), .inl (cy 0, 389, .inl sF))] := hD
  refine lv_aload_n hx hb dX12_sums_5 rfl (lv_at hlv 0 rfl) ?_
  refine lv_iload_n hx hb dX12_sums_6 rfl (lv_at hlv 1 rfl) ?_
  refine lv_iconst (v := 0) hx hb dX12_sums_7 (by decide) ?_
  refine lv_iconst (v := 3) hx hb dX12_sums_8 (by decide) ?_
  refine cj_i (wr := [(mo, .inr (12, [.int 0, .ref (ma 1), .int 0, .int 0, .int 0, .int 0, .int 0, .int 0, .int (-1), .ref (ma 9), .ref (ma 10), .ref (ma 11), .ref (ma 12), .ref (ma 13), .ref (ma 14), .ref (ma 15), .int 0, .int 0, .int 0, .ref (ma 19), .ref (ma 20), .ref (ma 21), .int 0, .ref (ma 23), .ref (ma 24), .ref (ma 25), .ref (ma 26), .ref (ma 27), .ref (ma 28), .int 0, .int 0, .int 0, .int 0, .ref (ma 33), .int (-1), .ref (ma 35), .int 0, .int 0])), ((ma 1), .inl (cy 0, 4, .inl (fun _ => 0))), ((ma 12), .inl (cy 0, 389, .inl sF))]) (va_runS (As := [.int 1, .int 0, .int 3]) (rest := [.ref mo]) ⟨hx, hb, hml, hown, hts⟩ (c_within l hl D cy sa 1 0 3 H.size) (va_cwS 3 hts gg_1 rfl rfl rfl (by decide +kernel) ⟨Nat.le_of_ble_eq_true rfl, Nat.le_of_ble_eq_true rfl⟩) ⟨pcW.blind, (pcW.mk hP hD hS hA hG hT [] rfl (by decide))⟩ rfl rfl hlv.1 rfl (lv_room (Nat.le_of_ble_eq_true rfl)) dX12_sums_9 ⟨Nat.le_of_ble_eq_true rfl, Nat.le_of_ble_eq_true rfl⟩) hP hD hS hA [] [0, 1, 2] rfl rfl (by decide) (by decide) (fun r1 u1 H locs hw1 hP hD hS => ?_)
  rcases hw1 with ⟨hg1, rfl⟩ | ⟨hg1, rfl⟩
  · have hP : va_P D vwCl [(mo, .inr (12, [.int 0, .ref (ma 1), .int 0, .int 0, .int 0, .int 0, .int 0, .int 0, .int (-1), .ref (ma 9), .ref (ma 10), .ref (ma 11), .ref (ma 12), .ref (ma 13), .ref (ma 14), .ref (ma 15), .int 0, .int 0, .int 0, .ref (ma 19), .ref (ma 20), .ref (ma 21), .int 0, .ref (ma 23), .ref (ma 24), .ref (ma 25), .ref (ma 26), .ref (ma 27), .ref (ma 28), .int 0, .int 0, .int 0, .int 0, .ref (ma 33), .int (-1), .ref (ma 35), .int 0, .int 0])), ((ma 1), .inl (cy 0, 4, .inl (fun _ => 0))), ((ma 12), .inl (cy 0, 389, .inl sF))] H := hP
    have hD : va_D A [(mo, .inr (12, [.int 0, .ref (ma 1), .int 0, .int 0, .int 0, .int 0, .int 0, .int 0, .int (-1), .ref (ma 9), .ref (ma 10), .ref (ma 11), .ref (ma 12), .ref (ma 13), .ref (ma 14), .ref (ma 15), .int 0, .int 0, .int 0, .ref (ma 19), .ref (ma 20), .ref (ma 21), .int 0, .ref (ma 23), .ref (ma 24), .ref (ma 25), .ref (ma 26), .ref (ma 27), .ref (ma 28), .int 0, .int 0, .int 0, .int 0, .ref (ma 33), .int (-1), .ref (ma 35), .int 0, .int 0])), ((ma 1), .inl (cy 0, 4, .inl (fun _ => 0))), ((ma 12), .inl (cy 0, 389, .inl sF))] := hD
    refine lv_iconst (v := 1) hx hb dX12_sums_12 (by decide) ?_
    refine lv_iconst (v := 2) hx hb dX12_sums_13 (by decide) ?_
    refine cj_i (wr := [((ma 1), .inl (cy 0, 4, .inl (fun _ => 0))), ((ma 12), .inl (cy 0, 389, .inl sF))]) (va_runV (As := [.int 1, .int 1, .int 2]) (rest := []) ⟨hx, hb, hml, hown, hts⟩ (c_may1 l hl D cy sa mo ma 1 2 H.size) (cwV 3 hts gg_2 rfl rfl rfl (by decide +kernel) ⟨Nat.le_of_ble_eq_true rfl, Nat.le_of_ble_eq_true rfl⟩) ⟨pcW.blind, (va_recv hG.1 hP (ci := 12) (q0 := 0) rfl rfl), (pcW.mk hP hD hS hA hG hT [0] rfl (by decide))⟩ rfl rfl hlv.1 rfl (lv_room (Nat.le_of_ble_eq_true rfl)) dX12_sums_14 ⟨Nat.le_of_ble_eq_true rfl, Nat.le_of_ble_eq_true rfl⟩) hP hD hS hA [0] [1, 2] rfl rfl (by decide) (by decide) (fun r2 u2 H locs hw2 hP hD hS => ?_)
    obtain rfl := hw2
    have hP : va_P D vwCl [((ma 1), .inl (cy 0, 4, .inl (fun _ => 0))), ((ma 12), .inl (cy 0, 389, .inl sF)), (mo, .inr (12, [.int 0, .ref (ma 1), .int 0, .int 0, .int 0, .int 0, .int 0, .int 0, .int (-1), .ref (ma 9), .ref (ma 10), .ref (ma 11), .ref (ma 12), .ref (ma 13), .ref (ma 14), .ref (ma 15), .int 0, .int 0, .int 0, .ref (ma 19), .ref (ma 20), .ref (ma 21), .int 0, .ref (ma 23), .ref (ma 24), .ref (ma 25), .ref (ma 26), .ref (ma 27), .ref (ma 28), .int 0, .int 0, .int 0, .int 0, .ref (ma 33), .int (-1), .ref (ma 35), .int 0, .int 0]))] H := hP
    have hD : va_D A [((ma 1), .inl (cy 0, 4, .inl (fun _ => 0))), ((ma 12), .inl (cy 0, 389, .inl sF)), (mo, .inr (12, [.int 0, .ref (ma 1), .int 0, .int 0, .int 0, .int 0, .int 0, .int 0, .int (-1), .ref (ma 9), .ref (ma 10), .ref (ma 11), .ref (ma 12), .ref (ma 13), .ref (ma 14), .ref (ma 15), .int 0, .int 0, .int 0, .ref (ma 19), .ref (ma 20), .ref (ma 21), .int 0, .ref (ma 23), .ref (ma 24), .ref (ma 25), .ref (ma 26), .ref (ma 27), .ref (ma 28), .int 0, .int 0, .int 0, .int 0, .ref (ma 33), .int (-1), .ref (ma 35), .int 0, .int 0]))] := hD
    refine lv_if_ne (tgt := 22) hx hb dX12_sums_17 (by decide) (fun _ => ?_) (fun c => absurd c (by decide))
    refine lv_iload_n hx hb dX12_sums_22 rfl (lv_at hlv 1 rfl) ?_
    refine lv_iconst (v := 3) hx hb dX12_sums_23 (by decide) ?_
    refine lv_icmp_ge (tgt := 40) hx hb dX12_sums_24 (by decide) (fun c => absurd c (by decide)) (fun _ => ?_)
    refine lv_aload_n hx hb dX12_sums_27 rfl (lv_at hlv 0 rfl) ?_
    refine va_get (D := D) (ci := 12) (v := .ref (ma 12)) (C := RX12) (T := TX12) (N := 38) hx hb hts hi12 hown hG.1 hP 2 rfl rfl 12 (by decide) lf29 (fun _ h9 => h9) rfl dX12_sums_28 ?_
    refine lv_sipush (v := 385) hx hb dX12_sums_31 (by decide) ?_
    refine lv_iload_n hx hb dX12_sums_34 rfl (lv_at hlv 1 rfl) ?_
    refine lv_iadd hx hb dX12_sums_35 ?_
    refine lt_i (y := 386) (by decide) ?_
    refine va_iald hx hb hG.1 hP 1 0 rfl rfl (vpd (by decide)) dX12_sums_36 ?_
    refine lt_i (y := 0) (by first | rfl | decide +kernel) ?_
    refine lv_goto (tgt := 44) hx hb dX12_sums_37 (by decide) ?_
    refine W.widen (k := 0) (n := 0) (Nat.le_of_ble_eq_true rfl) (Nat.le_of_ble_eq_true rfl) ?_
    exact W.iret (v := 0) hx hb hr (fun t ht hW => ⟨⟨0, ((fun k => ([] : List Nat).getD k 0), (fun k => ([0] : List Int32).getD k 0), (fun k => ([] : List (Nat → Int32)).getD k (fun _ => 0))), rfl, (by first | (exact ⟨by rfl, by rfl⟩)), by rw [ht]; exact hP.sub [2] rfl, hD.sub [2] (by decide) rfl⟩, hS.F ht⟩) hS.2.2 dX12_sums_44
  · exact absurd hg1 (fun q => absurd (by decide) q)
def vs_m_sums2 : List Cond := .code yX12_sums cX12_sums 2 (some .int) :: (([.fieldLink RX12 1 "KerbSplashModel" "thrown" "I", .fieldLink RX12 29 "KerbSplashModel" "s" "[I"] : List Cond) ++ ((wsX120) ++ ((va_wsS RX12 279 yX12_within vs_c_within) ++ ((wsV RX12 175 RX12 yX12_may vs_c_may1) ++ ([])))))
set_option maxHeartbeats 4000000 in
set_option maxRecDepth 100000 in
theorem m_sums2 (l : Launch) (hl : l.stackTraces = false) (D : va_G) (cy : Nat → ClassId) (sa : Nat → Nat) (mo : Nat) (ma : Nat → Nat) (sz : Nat) : Met l yX12_sums vs_m_sums2 ({ frames := 1, cells := 0, slots := 0, locals := 23 }) (va_Pc [.ref mo, .int 2] (pcW D cy sa sz [(mo, .inr (12, [.int 0, .ref (ma 1), .int 0, .int 0, .int 0, .int 0, .int 0, .int 0, .int (-1), .ref (ma 9), .ref (ma 10), .ref (ma 11), .ref (ma 12), .ref (ma 13), .ref (ma 14), .ref (ma 15), .int 0, .int 0, .int 0, .ref (ma 19), .ref (ma 20), .ref (ma 21), .int 0, .ref (ma 23), .ref (ma 24), .ref (ma 25), .ref (ma 26), .ref (ma 27), .ref (ma 28), .int 0, .int 0, .int 0, .int 0, .ref (ma 33), .int (-1), .ref (ma 35), .int 0, .int 0])), ((ma 1), .inl (cy 0, 4, .inl (fun _ => 0))), ((ma 12), .inl (cy 0, 389, .inl sF))])) (va_Qi (fun (r : Int32) (u : SU) => (r = 0 ∧ (u.2.1 0) = 0)) (fun u t => atW D (va_A [(mo, .inr (12, [.int 0, .ref (ma 1), .int 0, .int 0, .int 0, .int 0, .int 0, .int 0, .int (-1), .ref (ma 9), .ref (ma 10), .ref (ma 11), .ref (ma 12), .ref (ma 13), .ref (ma 14), .ref (ma 15), .int 0, .int 0, .int 0, .ref (ma 19), .ref (ma 20), .ref (ma 21), .int 0, .ref (ma 23), .ref (ma 24), .ref (ma 25), .ref (ma 26), .ref (ma 27), .ref (ma 28), .int 0, .int 0, .int 0, .int 0, .ref (ma 33), .int (-1), .ref (ma 35), .int 0, .int 0])), ((ma 1), .inl (cy 0, 4, .inl (fun _ => 0))), ((ma 12), .inl (cy 0, 389, .inl sF))] sz) [(mo, .inr (12, [.int (u.2.1 0), .ref (ma 1), .int 0, .int 0, .int 0, .int 0, .int 0, .int 0, .int (-1), .ref (ma 9), .ref (ma 10), .ref (ma 11), .ref (ma 12), .ref (ma 13), .ref (ma 14), .ref (ma 15), .int 0, .int 0, .int 0, .ref (ma 19), .ref (ma 20), .ref (ma 21), .int 0, .ref (ma 23), .ref (ma 24), .ref (ma 25), .ref (ma 26), .ref (ma 27), .ref (ma 28), .int 0, .int 0, .int 0, .int 0, .ref (ma 33), .int (-1), .ref (ma 35), .int 0, .int 0]))] t) (va_A [(mo, .inr (12, [.int 0, .ref (ma 1), .int 0, .int 0, .int 0, .int 0, .int 0, .int 0, .int (-1), .ref (ma 9), .ref (ma 10), .ref (ma 11), .ref (ma 12), .ref (ma 13), .ref (ma 14), .ref (ma 15), .int 0, .int 0, .int 0, .ref (ma 19), .ref (ma 20), .ref (ma 21), .int 0, .ref (ma 23), .ref (ma 24), .ref (ma 25), .ref (ma 26), .ref (ma 27), .ref (ma 28), .int 0, .int 0, .int 0, .int 0, .ref (ma 33), .int (-1), .ref (ma 35), .int 0, .int 0])), ((ma 1), .inl (cy 0, 4, .inl (fun _ => 0))), ((ma 12), .inl (cy 0, 389, .inl sF))] sz)) 0 0 (va_A [(mo, .inr (12, [.int 0, .ref (ma 1), .int 0, .int 0, .int 0, .int 0, .int 0, .int 0, .int (-1), .ref (ma 9), .ref (ma 10), .ref (ma 11), .ref (ma 12), .ref (ma 13), .ref (ma 14), .ref (ma 15), .int 0, .int 0, .int 0, .ref (ma 19), .ref (ma 20), .ref (ma 21), .int 0, .ref (ma 23), .ref (ma 24), .ref (ma 25), .ref (ma 26), .ref (ma 27), .ref (ma 28), .int 0, .int 0, .int 0, .int 0, .ref (ma 33), .int (-1), .ref (ma 35), .int 0, .int 0])), ((ma 1), .inl (cy 0, 4, .inl (fun _ => 0))), ((ma 12), .inl (cy 0, 389, .inl sF))] sz) := by
  refine Met.ofW (cc := cX12_sums) (maxL := 2) (ret := (some .int)) (by decide) rfl ?_
  intro p e s m args below meth c s₁ B hml hv
  obtain ⟨rfl, hsz, hP, hG, hD0, hT⟩ := hv
  have hx := B.exec
  have hb := B.bytes
  have hr := B.returns
  have hts := atoms_spec (ws := vs_m_sums2) B.pre
  have hown : s.vm.findClass RX12 = some m.cls := findClass_of_methodNamed B.named
  have hlocks := B.notSynchronized
  subst hsz
  have hD := hD0.self (sz := s.heap.size)
  generalize hAe : va_A [(mo, .inr (12, [.int 0, .ref (ma 1), .int 0, .int 0, .int 0, .int 0, .int 0, .int 0, .int (-1), .ref (ma 9), .ref (ma 10), .ref (ma 11), .ref (ma 12), .ref (ma 13), .ref (ma 14), .ref (ma 15), .int 0, .int 0, .int 0, .ref (ma 19), .ref (ma 20), .ref (ma 21), .int 0, .ref (ma 23), .ref (ma 24), .ref (ma 25), .ref (ma 26), .ref (ma 27), .ref (ma 28), .int 0, .int 0, .int 0, .int 0, .ref (ma 33), .int (-1), .ref (ma 35), .int 0, .int 0])), ((ma 1), .inl (cy 0, 4, .inl (fun _ => 0))), ((ma 12), .inl (cy 0, 389, .inl sF))] s.heap.size = A at hD hT ⊢
  have hA : ∀ q : Nat, s.heap.size ≤ q → A q := fun q h => by rw [← hAe]; exact Or.inr h
  have hS : va_S A s.heap s.heap [] := va_S.rf
  have hl0 := lv_entry ([.ref mo, .int 2]) (n := 2) (Nat.le_of_ble_eq_true rfl)
  rw [lg_entry_eq]
  generalize (lg_sl ([.ref mo, .int 2]) ++ List.replicate (2 - (lg_sl ([.ref mo, .int 2])).length) Slot.unset).toArray = ls at hl0 ⊢
  have hlv : lv_has ls 2 [(0, .ref mo), (1, .int 2)] := hl0
  have lf1 := hts (.fieldLink RX12 1 "KerbSplashModel" "thrown" "I") (List.mem_of_getElem? (i := 1) rfl)
  have hi12 : ∀ w ∈ wsX120, w ∈ vs_m_sums2 := fun w h => List.mem_cons_of_mem _ (List.mem_append_right _ (List.mem_append_left _ h))
  have gg_1 : GoodIn vs_m_sums2 (va_wsS RX12 279 yX12_within vs_c_within) := goodIn_sub (fun w h => List.mem_cons_of_mem _ (List.mem_append_right _ (List.mem_append_right _ (List.mem_append_left _ h)))) (by decide +kernel)
  have gg_2 : GoodIn vs_m_sums2 (wsV RX12 175 RX12 yX12_may vs_c_may1) := goodIn_sub (fun w h => List.mem_cons_of_mem _ (List.mem_append_right _ (List.mem_append_right _ (List.mem_append_right _ (List.mem_append_left _ h))))) (by decide +kernel)
  have lf29 := hts (.fieldLink RX12 29 "KerbSplashModel" "s" "[I") (List.mem_of_getElem? (i := 2) rfl)
  refine lv_aload_n hx hb dX12_sums_0 rfl (lv_at hlv 0 rfl) ?_
  refine lv_iconst (v := 0) hx hb dX12_sums_1 (by decide) ?_
  refine va_put (D := D) (ci := 12) (v := .int 0) (ty := .int) (C := RX12) (T := TX12) (N := 38) hx hb hts hi12 tyX12 tyX12_ok nmX12 hown hG.1 hP hD hS 0 rfl rfl 0 (by decide) lf1 (fun _ h9 => h9) rfl (by decide +kernel) rfl rfl (Nat.le_of_ble_eq_true rfl) dX12_sums_2 (fun H locs hP hD hS => ?_)
  have hP : va_P D vwCl [(mo, .inr (12, [.int 0, .ref (ma 1), .int 0, .int 0, .int 0, .int 0, .int 0, .int 0, .int (-1), .ref (ma 9), .ref (ma 10), .ref (ma 11), .ref (ma 12), .ref (ma 13), .ref (ma 14), .ref (ma 15), .int 0, .int 0, .int 0, .ref (ma 19), .ref (ma 20), .ref (ma 21), .int 0, .ref (ma 23), .ref (ma 24), .ref (ma 25), .ref (ma 26), .ref (ma 27), .ref (ma 28), .int 0, .int 0, .int 0, .int 0, .ref (ma 33), .int (-1), .ref (ma 35), .int 0, .int 0])), ((ma 1), .inl (cy 0, 4, .inl (fun _ => 0))), ((ma 12), .inl (cy 0, 389, .inl sF))] H := hP
  have hD : va_D A [(mo, .inr (12, [.int 0, .ref (ma 1), .int 0, .int 0, .int 0, .int 0, .int 0, .int 0, .int (-1), .ref (ma 9), .ref (ma 10), .ref (ma 11), .ref (ma 12), .ref (ma 13), .ref (ma 14), .ref (ma 15), .int 0, .int 0, .int 0, .ref (ma 19), .ref (ma 20), .ref (ma 21), .int 0, .ref (ma 23), .ref (ma 24), .ref (ma 25), .ref (ma 26), .ref (ma 27), .ref (ma 28), .int 0, .int 0, .int 0, .int 0, .ref (ma 33), .int (-1), .ref (ma 35), .int 0, .int 0])), ((ma 1), .inl (cy 0, 4, .inl (fun _ => 0))), ((ma 12), .inl (cy 0, 389, .inl sF))] := hD
  refine lv_aload_n hx hb dX12_sums_5 rfl (lv_at hlv 0 rfl) ?_
  refine lv_iload_n hx hb dX12_sums_6 rfl (lv_at hlv 1 rfl) ?_
  refine lv_iconst (v := 0) hx hb dX12_sums_7 (by decide) ?_
  refine lv_iconst (v := 3) hx hb dX12_sums_8 (by decide) ?_
  refine cj_i (wr := [(mo, .inr (12, [.int 0, .ref (ma 1), .int 0, .int 0, .int 0, .int 0, .int 0, .int 0, .int (-1), .ref (ma 9), .ref (ma 10), .ref (ma 11), .ref (ma 12), .ref (ma 13), .ref (ma 14), .ref (ma 15), .int 0, .int 0, .int 0, .ref (ma 19), .ref (ma 20), .ref (ma 21), .int 0, .ref (ma 23), .ref (ma 24), .ref (ma 25), .ref (ma 26), .ref (ma 27), .ref (ma 28), .int 0, .int 0, .int 0, .int 0, .ref (ma 33), .int (-1), .ref (ma 35), .int 0, .int 0])), ((ma 1), .inl (cy 0, 4, .inl (fun _ => 0))), ((ma 12), .inl (cy 0, 389, .inl sF))]) (va_runS (As := [.int 2, .int 0, .int 3]) (rest := [.ref mo]) ⟨hx, hb, hml, hown, hts⟩ (c_within l hl D cy sa 2 0 3 H.size) (va_cwS 3 hts gg_1 rfl rfl rfl (by decide +kernel) ⟨Nat.le_of_ble_eq_true rfl, Nat.le_of_ble_eq_true rfl⟩) ⟨pcW.blind, (pcW.mk hP hD hS hA hG hT [] rfl (by decide))⟩ rfl rfl hlv.1 rfl (lv_room (Nat.le_of_ble_eq_true rfl)) dX12_sums_9 ⟨Nat.le_of_ble_eq_true rfl, Nat.le_of_ble_eq_true rfl⟩) hP hD hS hA [] [0, 1, 2] rfl rfl (by decide) (by decide) (fun r1 u1 H locs hw1 hP hD hS => ?_)
  rcases hw1 with ⟨hg1, rfl⟩ | ⟨hg1, rfl⟩
  · have hP : va_P D vwCl [(mo, .inr (12, [.int 0, .ref (ma 1), .int 0, .int 0, .int 0, .int 0, .int 0, .int 0, .int (-1), .ref (ma 9), .ref (ma 10), .ref (ma 11), .ref (ma 12), .ref (ma 13), .ref (ma 14), .ref (ma 15), .int 0, .int 0, .int 0, .ref (ma 19), .ref (ma 20), .ref (ma 21), .int 0, .ref (ma 23), .ref (ma 24), .ref (ma 25), .ref (ma 26), .ref (ma 27), .ref (ma 28), .int 0, .int 0, .int 0, .int 0, .ref (ma 33), .int (-1), .ref (ma 35), .int 0, .int 0])), ((ma 1), .inl (cy 0, 4, .inl (fun _ => 0))), ((ma 12), .inl (cy 0, 389, .inl sF))] H := hP
    have hD : va_D A [(mo, .inr (12, [.int 0, .ref (ma 1), .int 0, .int 0, .int 0, .int 0, .int 0, .int 0, .int (-1), .ref (ma 9), .ref (ma 10), .ref (ma 11), .ref (ma 12), .ref (ma 13), .ref (ma 14), .ref (ma 15), .int 0, .int 0, .int 0, .ref (ma 19), .ref (ma 20), .ref (ma 21), .int 0, .ref (ma 23), .ref (ma 24), .ref (ma 25), .ref (ma 26), .ref (ma 27), .ref (ma 28), .int 0, .int 0, .int 0, .int 0, .ref (ma 33), .int (-1), .ref (ma 35), .int 0, .int 0])), ((ma 1), .inl (cy 0, 4, .inl (fun _ => 0))), ((ma 12), .inl (cy 0, 389, .inl sF))] := hD
    refine lv_iconst (v := 1) hx hb dX12_sums_12 (by decide) ?_
    refine lv_iconst (v := 2) hx hb dX12_sums_13 (by decide) ?_
    refine cj_i (wr := [((ma 1), .inl (cy 0, 4, .inl (fun _ => 0))), ((ma 12), .inl (cy 0, 389, .inl sF))]) (va_runV (As := [.int 1, .int 1, .int 2]) (rest := []) ⟨hx, hb, hml, hown, hts⟩ (c_may1 l hl D cy sa mo ma 1 2 H.size) (cwV 3 hts gg_2 rfl rfl rfl (by decide +kernel) ⟨Nat.le_of_ble_eq_true rfl, Nat.le_of_ble_eq_true rfl⟩) ⟨pcW.blind, (va_recv hG.1 hP (ci := 12) (q0 := 0) rfl rfl), (pcW.mk hP hD hS hA hG hT [0] rfl (by decide))⟩ rfl rfl hlv.1 rfl (lv_room (Nat.le_of_ble_eq_true rfl)) dX12_sums_14 ⟨Nat.le_of_ble_eq_true rfl, Nat.le_of_ble_eq_true rfl⟩) hP hD hS hA [0] [1, 2] rfl rfl (by decide) (by decide) (fun r2 u2 H locs hw2 hP hD hS => ?_)
    obtain rfl := hw2
    have hP : va_P D vwCl [((ma 1), .inl (cy 0, 4, .inl (fun _ => 0))), ((ma 12), .inl (cy 0, 389, .inl sF)), (mo, .inr (12, [.int 0, .ref (ma 1), .int 0, .int 0, .int 0, .int 0, .int 0, .int 0, .int (-1), .ref (ma 9), .ref (ma 10), .ref (ma 11), .ref (ma 12), .ref (ma 13), .ref (ma 14), .ref (ma 15), .int 0, .int 0, .int 0, .ref (ma 19), .ref (ma 20), .ref (ma 21), .int 0, .ref (ma 23), .ref (ma 24), .ref (ma 25), .ref (ma 26), .ref (ma 27), .ref (ma 28), .int 0, .int 0, .int 0, .int 0, .ref (ma 33), .int (-1), .ref (ma 35), .int 0, .int 0]))] H := hP
    have hD : va_D A [((ma 1), .inl (cy 0, 4, .inl (fun _ => 0))), ((ma 12), .inl (cy 0, 389, .inl sF)), (mo, .inr (12, [.int 0, .ref (ma 1), .int 0, .int 0, .int 0, .int 0, .int 0, .int 0, .int (-1), .ref (ma 9), .ref (ma 10), .ref (ma 11), .ref (ma 12), .ref (ma 13), .ref (ma 14), .ref (ma 15), .int 0, .int 0, .int 0, .ref (ma 19), .ref (ma 20), .ref (ma 21), .int 0, .ref (ma 23), .ref (ma 24), .ref (ma 25), .ref (ma 26), .ref (ma 27), .ref (ma 28), .int 0, .int 0, .int 0, .int 0, .ref (ma 33), .int (-1), .ref (ma 35), .int 0, .int 0]))] := hD
    refine lv_if_ne (tgt := 22) hx hb dX12_sums_17 (by decide) (fun _ => ?_) (fun c => absurd c (by decide))
    refine lv_iload_n hx hb dX12_sums_22 rfl (lv_at hlv 1 rfl) ?_
    refine lv_iconst (v := 3) hx hb dX12_sums_23 (by decide) ?_
    refine lv_icmp_ge (tgt := 40) hx hb dX12_sums_24 (by decide) (fun c => absurd c (by decide)) (fun _ => ?_)
    refine lv_aload_n hx hb dX12_sums_27 rfl (lv_at hlv 0 rfl) ?_
    refine va_get (D := D) (ci := 12) (v := .ref (ma 12)) (C := RX12) (T := TX12) (N := 38) hx hb hts hi12 hown hG.1 hP 2 rfl rfl 12 (by decide) lf29 (fun _ h9 => h9) rfl dX12_sums_28 ?_
    refine lv_sipush (v := 385) hx hb dX12_sums_31 (by decide) ?_
    refine lv_iload_n hx hb dX12_sums_34 rfl (lv_at hlv 1 rfl) ?_
    refine lv_iadd hx hb dX12_sums_35 ?_
    refine lt_i (y := 387) (by decide) ?_
    refine va_iald hx hb hG.1 hP 1 0 rfl rfl (vpd (by decide)) dX12_sums_36 ?_
    refine lt_i (y := 0) (by first | rfl | decide +kernel) ?_
    refine lv_goto (tgt := 44) hx hb dX12_sums_37 (by decide) ?_
    refine W.widen (k := 0) (n := 0) (Nat.le_of_ble_eq_true rfl) (Nat.le_of_ble_eq_true rfl) ?_
    exact W.iret (v := 0) hx hb hr (fun t ht hW => ⟨⟨0, ((fun k => ([] : List Nat).getD k 0), (fun k => ([0] : List Int32).getD k 0), (fun k => ([] : List (Nat → Int32)).getD k (fun _ => 0))), rfl, (by first | (exact ⟨by rfl, by rfl⟩)), by rw [ht]; exact hP.sub [2] rfl, hD.sub [2] (by decide) rfl⟩, hS.F ht⟩) hS.2.2 dX12_sums_44
  · exact absurd hg1 (fun q => absurd (by decide) q)
def vs_m_sums3 : List Cond := .code yX12_sums cX12_sums 2 (some .int) :: (([.fieldLink RX12 1 "KerbSplashModel" "thrown" "I"] : List Cond) ++ ((wsX120) ++ ((va_wsS RX12 279 yX12_within vs_c_within) ++ ((wsV RX12 175 RX12 yX12_may vs_c_may1) ++ ((wsV RX12 331 RX12 yX12_standing vs_m_standing) ++ ([]))))))
set_option maxHeartbeats 4000000 in
set_option maxRecDepth 100000 in
theorem m_sums3 (l : Launch) (hl : l.stackTraces = false) (D : va_G) (cy : Nat → ClassId) (sa : Nat → Nat) (mo : Nat) (ma : Nat → Nat) (sz : Nat) : Met l yX12_sums vs_m_sums3 ({ frames := 1, cells := 0, slots := 0, locals := 23 }) (va_Pc [.ref mo, .int 3] (pcW D cy sa sz [(mo, .inr (12, [.int 0, .ref (ma 1), .int 0, .int 0, .int 0, .int 0, .int 0, .int 0, .int (-1), .ref (ma 9), .ref (ma 10), .ref (ma 11), .ref (ma 12), .ref (ma 13), .ref (ma 14), .ref (ma 15), .int 0, .int 0, .int 0, .ref (ma 19), .ref (ma 20), .ref (ma 21), .int 0, .ref (ma 23), .ref (ma 24), .ref (ma 25), .ref (ma 26), .ref (ma 27), .ref (ma 28), .int 0, .int 0, .int 0, .int 0, .ref (ma 33), .int (-1), .ref (ma 35), .int 0, .int 0])), ((ma 1), .inl (cy 0, 4, .inl (fun _ => 0))), ((ma 12), .inl (cy 0, 389, .inl sF))])) (va_Qi (fun (r : Int32) (u : SU) => (r = 0 ∧ (u.2.1 0) = 0)) (fun u t => atW D (va_A [(mo, .inr (12, [.int 0, .ref (ma 1), .int 0, .int 0, .int 0, .int 0, .int 0, .int 0, .int (-1), .ref (ma 9), .ref (ma 10), .ref (ma 11), .ref (ma 12), .ref (ma 13), .ref (ma 14), .ref (ma 15), .int 0, .int 0, .int 0, .ref (ma 19), .ref (ma 20), .ref (ma 21), .int 0, .ref (ma 23), .ref (ma 24), .ref (ma 25), .ref (ma 26), .ref (ma 27), .ref (ma 28), .int 0, .int 0, .int 0, .int 0, .ref (ma 33), .int (-1), .ref (ma 35), .int 0, .int 0])), ((ma 1), .inl (cy 0, 4, .inl (fun _ => 0))), ((ma 12), .inl (cy 0, 389, .inl sF))] sz) [(mo, .inr (12, [.int (u.2.1 0), .ref (ma 1), .int 0, .int 0, .int 0, .int 0, .int 0, .int 0, .int (-1), .ref (ma 9), .ref (ma 10), .ref (ma 11), .ref (ma 12), .ref (ma 13), .ref (ma 14), .ref (ma 15), .int 0, .int 0, .int 0, .ref (ma 19), .ref (ma 20), .ref (ma 21), .int 0, .ref (ma 23), .ref (ma 24), .ref (ma 25), .ref (ma 26), .ref (ma 27), .ref (ma 28), .int 0, .int 0, .int 0, .int 0, .ref (ma 33), .int (-1), .ref (ma 35), .int 0, .int 0]))] t) (va_A [(mo, .inr (12, [.int 0, .ref (ma 1), .int 0, .int 0, .int 0, .int 0, .int 0, .int 0, .int (-1), .ref (ma 9), .ref (ma 10), .ref (ma 11), .ref (ma 12), .ref (ma 13), .ref (ma 14), .ref (ma 15), .int 0, .int 0, .int 0, .ref (ma 19), .ref (ma 20), .ref (ma 21), .int 0, .ref (ma 23), .ref (ma 24), .ref (ma 25), .ref (ma 26), .ref (ma 27), .ref (ma 28), .int 0, .int 0, .int 0, .int 0, .ref (ma 33), .int (-1), .ref (ma 35), .int 0, .int 0])), ((ma 1), .inl (cy 0, 4, .inl (fun _ => 0))), ((ma 12), .inl (cy 0, 389, .inl sF))] sz)) 0 0 (va_A [(mo, .inr (12, [.int 0, .ref (ma 1), .int 0, .int 0, .int 0, .int 0, .int 0, .int 0, .int (-1), .ref (ma 9), .ref (ma 10), .ref (ma 11), .ref (ma 12), .ref (ma 13), .ref (ma 14), .ref (ma 15), .int 0, .int 0, .int 0, .ref (ma 19), .ref (ma 20), .ref (ma 21), .int 0, .ref (ma 23), .ref (ma 24), .ref (ma 25), .ref (ma 26), .ref (ma 27), .ref (ma 28), .int 0, .int 0, .int 0, .int 0, .ref (ma 33), .int (-1), .ref (ma 35), .int 0, .int 0])), ((ma 1), .inl (cy 0, 4, .inl (fun _ => 0))), ((ma 12), .inl (cy 0, 389, .inl sF))] sz) := by
  refine Met.ofW (cc := cX12_sums) (maxL := 2) (ret := (some .int)) (by decide) rfl ?_
  intro p e s m args below meth c s₁ B hml hv
  obtain ⟨rfl, hsz, hP, hG, hD0, hT⟩ := hv
  have hx := B.exec
  have hb := B.bytes
  have hr := B.returns
  have hts := atoms_spec (ws := vs_m_sums3) B.pre
  have hown : s.vm.findClass RX12 = some m.cls := findClass_of_methodNamed B.named
  have hlocks := B.notSynchronized
  subst hsz
  have hD := hD0.self (sz := s.heap.size)
  generalize hAe : va_A [(mo, .inr (12, [.int 0, .ref (ma 1), .int 0, .int 0, .int 0, .int 0, .int 0, .int 0, .int (-1), .ref (ma 9), .ref (ma 10), .ref (ma 11), .ref (ma 12), .ref (ma 13), .ref (ma 14), .ref (ma 15), .int 0, .int 0, .int 0, .ref (ma 19), .ref (ma 20), .ref (ma 21), .int 0, .ref (ma 23), .ref (ma 24), .ref (ma 25), .ref (ma 26), .ref (ma 27), .ref (ma 28), .int 0, .int 0, .int 0, .int 0, .ref (ma 33), .int (-1), .ref (ma 35), .int 0, .int 0])), ((ma 1), .inl (cy 0, 4, .inl (fun _ => 0))), ((ma 12), .inl (cy 0, 389, .inl sF))] s.heap.size = A at hD hT ⊢
  have hA : ∀ q : Nat, s.heap.size ≤ q → A q := fun q h => by rw [← hAe]; exact Or.inr h
  have hS : va_S A s.heap s.heap [] := va_S.rf
  have hl0 := lv_entry ([.ref mo, .int 3]) (n := 2) (Nat.le_of_ble_eq_true rfl)
  rw [lg_entry_eq]
  generalize (lg_sl ([.ref mo, .int 3]) ++ List.replicate (2 - (lg_sl ([.ref mo, .int 3])).length) Slot.unset).toArray = ls at hl0 ⊢
  have hlv : lv_has ls 2 [(0, .ref mo), (1, .int 3)] := hl0
  have lf1 := hts (.fieldLink RX12 1 "KerbSplashModel" "thrown" "I") (List.mem_of_getElem? (i := 1) rfl)
  have hi12 : ∀ w ∈ wsX120, w ∈ vs_m_sums3 := fun w h => List.mem_cons_of_mem _ (List.mem_append_right _ (List.mem_append_left _ h))
  have gg_1 : GoodIn vs_m_sums3 (va_wsS RX12 279 yX12_within vs_c_within) := goodIn_sub (fun w h => List.mem_cons_of_mem _ (List.mem_append_right _ (List.mem_append_right _ (List.mem_append_left _ h)))) (by decide +kernel)
  have gg_2 : GoodIn vs_m_sums3 (wsV RX12 175 RX12 yX12_may vs_c_may1) := goodIn_sub (fun w h => List.mem_cons_of_mem _ (List.mem_append_right _ (List.mem_append_right _ (List.mem_append_right _ (List.mem_append_left _ h))))) (by decide +kernel)
  have gg_3 : GoodIn vs_m_sums3 (wsV RX12 331 RX12 yX12_standing vs_m_standing) := goodIn_sub (fun w h => List.mem_cons_of_mem _ (List.mem_append_right _ (List.mem_append_right _ (List.mem_append_right _ (List.mem_append_right _ (List.mem_append_left _ h)))))) (by decide +kernel)
  refine lv_aload_n hx hb dX12_sums_0 rfl (lv_at hlv 0 rfl) ?_
  refine lv_iconst (v := 0) hx hb dX12_sums_1 (by decide) ?_
  refine va_put (D := D) (ci := 12) (v := .int 0) (ty := .int) (C := RX12) (T := TX12) (N := 38) hx hb hts hi12 tyX12 tyX12_ok nmX12 hown hG.1 hP hD hS 0 rfl rfl 0 (by decide) lf1 (fun _ h9 => h9) rfl (by decide +kernel) rfl rfl (Nat.le_of_ble_eq_true rfl) dX12_sums_2 (fun H locs hP hD hS => ?_)
  have hP : va_P D vwCl [(mo, .inr (12, [.int 0, .ref (ma 1), .int 0, .int 0, .int 0, .int 0, .int 0, .int 0, .int (-1), .ref (ma 9), .ref (ma 10), .ref (ma 11), .ref (ma 12), .ref (ma 13), .ref (ma 14), .ref (ma 15), .int 0, .int 0, .int 0, .ref (ma 19), .ref (ma 20), .ref (ma 21), .int 0, .ref (ma 23), .ref (ma 24), .ref (ma 25), .ref (ma 26), .ref (ma 27), .ref (ma 28), .int 0, .int 0, .int 0, .int 0, .ref (ma 33), .int (-1), .ref (ma 35), .int 0, .int 0])), ((ma 1), .inl (cy 0, 4, .inl (fun _ => 0))), ((ma 12), .inl (cy 0, 389, .inl sF))] H := hP
  have hD : va_D A [(mo, .inr (12, [.int 0, .ref (ma 1), .int 0, .int 0, .int 0, .int 0, .int 0, .int 0, .int (-1), .ref (ma 9), .ref (ma 10), .ref (ma 11), .ref (ma 12), .ref (ma 13), .ref (ma 14), .ref (ma 15), .int 0, .int 0, .int 0, .ref (ma 19), .ref (ma 20), .ref (ma 21), .int 0, .ref (ma 23), .ref (ma 24), .ref (ma 25), .ref (ma 26), .ref (ma 27), .ref (ma 28), .int 0, .int 0, .int 0, .int 0, .ref (ma 33), .int (-1), .ref (ma 35), .int 0, .int 0])), ((ma 1), .inl (cy 0, 4, .inl (fun _ => 0))), ((ma 12), .inl (cy 0, 389, .inl sF))] := hD
  refine lv_aload_n hx hb dX12_sums_5 rfl (lv_at hlv 0 rfl) ?_
  refine lv_iload_n hx hb dX12_sums_6 rfl (lv_at hlv 1 rfl) ?_
  refine lv_iconst (v := 0) hx hb dX12_sums_7 (by decide) ?_
  refine lv_iconst (v := 3) hx hb dX12_sums_8 (by decide) ?_
  refine cj_i (wr := [(mo, .inr (12, [.int 0, .ref (ma 1), .int 0, .int 0, .int 0, .int 0, .int 0, .int 0, .int (-1), .ref (ma 9), .ref (ma 10), .ref (ma 11), .ref (ma 12), .ref (ma 13), .ref (ma 14), .ref (ma 15), .int 0, .int 0, .int 0, .ref (ma 19), .ref (ma 20), .ref (ma 21), .int 0, .ref (ma 23), .ref (ma 24), .ref (ma 25), .ref (ma 26), .ref (ma 27), .ref (ma 28), .int 0, .int 0, .int 0, .int 0, .ref (ma 33), .int (-1), .ref (ma 35), .int 0, .int 0])), ((ma 1), .inl (cy 0, 4, .inl (fun _ => 0))), ((ma 12), .inl (cy 0, 389, .inl sF))]) (va_runS (As := [.int 3, .int 0, .int 3]) (rest := [.ref mo]) ⟨hx, hb, hml, hown, hts⟩ (c_within l hl D cy sa 3 0 3 H.size) (va_cwS 3 hts gg_1 rfl rfl rfl (by decide +kernel) ⟨Nat.le_of_ble_eq_true rfl, Nat.le_of_ble_eq_true rfl⟩) ⟨pcW.blind, (pcW.mk hP hD hS hA hG hT [] rfl (by decide))⟩ rfl rfl hlv.1 rfl (lv_room (Nat.le_of_ble_eq_true rfl)) dX12_sums_9 ⟨Nat.le_of_ble_eq_true rfl, Nat.le_of_ble_eq_true rfl⟩) hP hD hS hA [] [0, 1, 2] rfl rfl (by decide) (by decide) (fun r1 u1 H locs hw1 hP hD hS => ?_)
  rcases hw1 with ⟨hg1, rfl⟩ | ⟨hg1, rfl⟩
  · have hP : va_P D vwCl [(mo, .inr (12, [.int 0, .ref (ma 1), .int 0, .int 0, .int 0, .int 0, .int 0, .int 0, .int (-1), .ref (ma 9), .ref (ma 10), .ref (ma 11), .ref (ma 12), .ref (ma 13), .ref (ma 14), .ref (ma 15), .int 0, .int 0, .int 0, .ref (ma 19), .ref (ma 20), .ref (ma 21), .int 0, .ref (ma 23), .ref (ma 24), .ref (ma 25), .ref (ma 26), .ref (ma 27), .ref (ma 28), .int 0, .int 0, .int 0, .int 0, .ref (ma 33), .int (-1), .ref (ma 35), .int 0, .int 0])), ((ma 1), .inl (cy 0, 4, .inl (fun _ => 0))), ((ma 12), .inl (cy 0, 389, .inl sF))] H := hP
    have hD : va_D A [(mo, .inr (12, [.int 0, .ref (ma 1), .int 0, .int 0, .int 0, .int 0, .int 0, .int 0, .int (-1), .ref (ma 9), .ref (ma 10), .ref (ma 11), .ref (ma 12), .ref (ma 13), .ref (ma 14), .ref (ma 15), .int 0, .int 0, .int 0, .ref (ma 19), .ref (ma 20), .ref (ma 21), .int 0, .ref (ma 23), .ref (ma 24), .ref (ma 25), .ref (ma 26), .ref (ma 27), .ref (ma 28), .int 0, .int 0, .int 0, .int 0, .ref (ma 33), .int (-1), .ref (ma 35), .int 0, .int 0])), ((ma 1), .inl (cy 0, 4, .inl (fun _ => 0))), ((ma 12), .inl (cy 0, 389, .inl sF))] := hD
    refine lv_iconst (v := 1) hx hb dX12_sums_12 (by decide) ?_
    refine lv_iconst (v := 2) hx hb dX12_sums_13 (by decide) ?_
    refine cj_i (wr := [((ma 1), .inl (cy 0, 4, .inl (fun _ => 0))), ((ma 12), .inl (cy 0, 389, .inl sF))]) (va_runV (As := [.int 1, .int 1, .int 2]) (rest := []) ⟨hx, hb, hml, hown, hts⟩ (c_may1 l hl D cy sa mo ma 1 2 H.size) (cwV 3 hts gg_2 rfl rfl rfl (by decide +kernel) ⟨Nat.le_of_ble_eq_true rfl, Nat.le_of_ble_eq_true rfl⟩) ⟨pcW.blind, (va_recv hG.1 hP (ci := 12) (q0 := 0) rfl rfl), (pcW.mk hP hD hS hA hG hT [0] rfl (by decide))⟩ rfl rfl hlv.1 rfl (lv_room (Nat.le_of_ble_eq_true rfl)) dX12_sums_14 ⟨Nat.le_of_ble_eq_true rfl, Nat.le_of_ble_eq_true rfl⟩) hP hD hS hA [0] [1, 2] rfl rfl (by decide) (by decide) (fun r2 u2 H locs hw2 hP hD hS => ?_)
    obtain rfl := hw2
    have hP : va_P D vwCl [((ma 1), .inl (cy 0, 4, .inl (fun _ => 0))), ((ma 12), .inl (cy 0, 389, .inl sF)), (mo, .inr (12, [.int 0, .ref (ma 1), .int 0, .int 0, .int 0, .int 0, .int 0, .int 0, .int (-1), .ref (ma 9), .ref (ma 10), .ref (ma 11), .ref (ma 12), .ref (ma 13), .ref (ma 14), .ref (ma 15), .int 0, .int 0, .int 0, .ref (ma 19), .ref (ma 20), .ref (ma 21), .int 0, .ref (ma 23), .ref (ma 24), .ref (ma 25), .ref (ma 26), .ref (ma 27), .ref (ma 28), .int 0, .int 0, .int 0, .int 0, .ref (ma 33), .int (-1), .ref (ma 35), .int 0, .int 0]))] H := hP
    have hD : va_D A [((ma 1), .inl (cy 0, 4, .inl (fun _ => 0))), ((ma 12), .inl (cy 0, 389, .inl sF)), (mo, .inr (12, [.int 0, .ref (ma 1), .int 0, .int 0, .int 0, .int 0, .int 0, .int 0, .int (-1), .ref (ma 9), .ref (ma 10), .ref (ma 11), .ref (ma 12), .ref (ma 13), .ref (ma 14), .ref (ma 15), .int 0, .int 0, .int 0, .ref (ma 19), .ref (ma 20), .ref (ma 21), .int 0, .ref (ma 23), .ref (ma 24), .ref (ma 25), .ref (ma 26), .ref (ma 27), .ref (ma 28), .int 0, .int 0, .int 0, .int 0, .ref (ma 33), .int (-1), .ref (ma 35), .int 0, .int 0]))] := hD
    refine lv_if_ne (tgt := 22) hx hb dX12_sums_17 (by decide) (fun _ => ?_) (fun c => absurd c (by decide))
    refine lv_iload_n hx hb dX12_sums_22 rfl (lv_at hlv 1 rfl) ?_
    refine lv_iconst (v := 3) hx hb dX12_sums_23 (by decide) ?_
    refine lv_icmp_ge (tgt := 40) hx hb dX12_sums_24 (by decide) (fun _ => ?_) (fun c => absurd (by decide) c)
    refine lv_aload_n hx hb dX12_sums_40 rfl (lv_at hlv 0 rfl) ?_
    refine cj_i (wr := [((ma 1), .inl (cy 0, 4, .inl (fun _ => 0)))]) (va_runV (As := []) (rest := []) ⟨hx, hb, hml, hown, hts⟩ (m_standing l hl D cy sa mo ma H.size) (cwV 0 hts gg_3 rfl rfl rfl (by decide +kernel) ⟨Nat.le_of_ble_eq_true rfl, Nat.le_of_ble_eq_true rfl⟩) ⟨pcW.blind, (va_recv hG.1 hP (ci := 12) (q0 := 2) rfl rfl), (pcW.mk hP hD hS hA hG hT [2, 1] rfl (by decide))⟩ rfl rfl hlv.1 rfl (lv_room (Nat.le_of_ble_eq_true rfl)) dX12_sums_41 ⟨Nat.le_of_ble_eq_true rfl, Nat.le_of_ble_eq_true rfl⟩) hP hD hS hA [2, 1] [0] rfl rfl (by decide) (by decide) (fun r3 u3 H locs hw3 hP hD hS => ?_)
    obtain rfl := hw3
    have hP : va_P D vwCl [((ma 1), .inl (cy 0, 4, .inl (fun _ => 0))), (mo, .inr (12, [.int 0, .ref (ma 1), .int 0, .int 0, .int 0, .int 0, .int 0, .int 0, .int (-1), .ref (ma 9), .ref (ma 10), .ref (ma 11), .ref (ma 12), .ref (ma 13), .ref (ma 14), .ref (ma 15), .int 0, .int 0, .int 0, .ref (ma 19), .ref (ma 20), .ref (ma 21), .int 0, .ref (ma 23), .ref (ma 24), .ref (ma 25), .ref (ma 26), .ref (ma 27), .ref (ma 28), .int 0, .int 0, .int 0, .int 0, .ref (ma 33), .int (-1), .ref (ma 35), .int 0, .int 0])), ((ma 12), .inl (cy 0, 389, .inl sF))] H := hP
    have hD : va_D A [((ma 1), .inl (cy 0, 4, .inl (fun _ => 0))), (mo, .inr (12, [.int 0, .ref (ma 1), .int 0, .int 0, .int 0, .int 0, .int 0, .int 0, .int (-1), .ref (ma 9), .ref (ma 10), .ref (ma 11), .ref (ma 12), .ref (ma 13), .ref (ma 14), .ref (ma 15), .int 0, .int 0, .int 0, .ref (ma 19), .ref (ma 20), .ref (ma 21), .int 0, .ref (ma 23), .ref (ma 24), .ref (ma 25), .ref (ma 26), .ref (ma 27), .ref (ma 28), .int 0, .int 0, .int 0, .int 0, .ref (ma 33), .int (-1), .ref (ma 35), .int 0, .int 0])), ((ma 12), .inl (cy 0, 389, .inl sF))] := hD
    refine W.widen (k := 0) (n := 0) (Nat.le_of_ble_eq_true rfl) (Nat.le_of_ble_eq_true rfl) ?_
    exact W.iret (v := 0) hx hb hr (fun t ht hW => ⟨⟨0, ((fun k => ([] : List Nat).getD k 0), (fun k => ([0] : List Int32).getD k 0), (fun k => ([] : List (Nat → Int32)).getD k (fun _ => 0))), rfl, (by first | (exact ⟨by rfl, by rfl⟩)), by rw [ht]; exact hP.sub [1] rfl, hD.sub [1] (by decide) rfl⟩, hS.F ht⟩) hS.2.2 dX12_sums_44
  · exact absurd hg1 (fun q => absurd (by decide) q)
def vs_m_sumsx : List Cond := .code yX12_sums cX12_sums 2 (some .int) :: (([.fieldLink RX12 1 "KerbSplashModel" "thrown" "I"] : List Cond) ++ ((wsX120) ++ ((va_wsS RX12 279 yX12_within vs_c_within) ++ ((wsV RX12 175 RX12 yX12_may vs_c_may0_2) ++ ([])))))
set_option maxHeartbeats 4000000 in
set_option maxRecDepth 100000 in
theorem m_sumsx (l : Launch) (hl : l.stackTraces = false) (D : va_G) (cy : Nat → ClassId) (sa : Nat → Nat) (mo : Nat) (ma : Nat → Nat) (p0 : Int32) (sz : Nat) (hn : ¬ (0 ≤ p0 ∧ p0 ≤ 3)) : Met l yX12_sums vs_m_sumsx ({ frames := 1, cells := 0, slots := 0, locals := 23 }) (va_Pc [.ref mo, .int p0] (pcW D cy sa sz [(mo, .inr (12, [.int 0, .ref (ma 1), .int 0, .int 0, .int 0, .int 0, .int 0, .int 0, .int (-1), .ref (ma 9), .ref (ma 10), .ref (ma 11), .ref (ma 12), .ref (ma 13), .ref (ma 14), .ref (ma 15), .int 0, .int 0, .int 0, .ref (ma 19), .ref (ma 20), .ref (ma 21), .int 0, .ref (ma 23), .ref (ma 24), .ref (ma 25), .ref (ma 26), .ref (ma 27), .ref (ma 28), .int 0, .int 0, .int 0, .int 0, .ref (ma 33), .int (-1), .ref (ma 35), .int 0, .int 0])), ((ma 1), .inl (cy 0, 4, .inl (fun _ => 0)))])) (va_Qi (fun (r : Int32) (u : SU) => (r = 0 ∧ (u.2.1 0) = 1)) (fun u t => atW D (va_A [(mo, .inr (12, [.int 0, .ref (ma 1), .int 0, .int 0, .int 0, .int 0, .int 0, .int 0, .int (-1), .ref (ma 9), .ref (ma 10), .ref (ma 11), .ref (ma 12), .ref (ma 13), .ref (ma 14), .ref (ma 15), .int 0, .int 0, .int 0, .ref (ma 19), .ref (ma 20), .ref (ma 21), .int 0, .ref (ma 23), .ref (ma 24), .ref (ma 25), .ref (ma 26), .ref (ma 27), .ref (ma 28), .int 0, .int 0, .int 0, .int 0, .ref (ma 33), .int (-1), .ref (ma 35), .int 0, .int 0])), ((ma 1), .inl (cy 0, 4, .inl (fun _ => 0)))] sz) [(mo, .inr (12, [.int (u.2.1 0), .ref (ma 1), .int 0, .int 0, .int 0, .int 0, .int 0, .int 0, .int (-1), .ref (ma 9), .ref (ma 10), .ref (ma 11), .ref (ma 12), .ref (ma 13), .ref (ma 14), .ref (ma 15), .int 0, .int 0, .int 0, .ref (ma 19), .ref (ma 20), .ref (ma 21), .int 0, .ref (ma 23), .ref (ma 24), .ref (ma 25), .ref (ma 26), .ref (ma 27), .ref (ma 28), .int 0, .int 0, .int 0, .int 0, .ref (ma 33), .int (-1), .ref (ma 35), .int 0, .int 0]))] t) (va_A [(mo, .inr (12, [.int 0, .ref (ma 1), .int 0, .int 0, .int 0, .int 0, .int 0, .int 0, .int (-1), .ref (ma 9), .ref (ma 10), .ref (ma 11), .ref (ma 12), .ref (ma 13), .ref (ma 14), .ref (ma 15), .int 0, .int 0, .int 0, .ref (ma 19), .ref (ma 20), .ref (ma 21), .int 0, .ref (ma 23), .ref (ma 24), .ref (ma 25), .ref (ma 26), .ref (ma 27), .ref (ma 28), .int 0, .int 0, .int 0, .int 0, .ref (ma 33), .int (-1), .ref (ma 35), .int 0, .int 0])), ((ma 1), .inl (cy 0, 4, .inl (fun _ => 0)))] sz)) 0 0 (va_A [(mo, .inr (12, [.int 0, .ref (ma 1), .int 0, .int 0, .int 0, .int 0, .int 0, .int 0, .int (-1), .ref (ma 9), .ref (ma 10), .ref (ma 11), .ref (ma 12), .ref (ma 13), .ref (ma 14), .ref (ma 15), .int 0, .int 0, .int 0, .ref (ma 19), .ref (ma 20), .ref (ma 21), .int 0, .ref (ma 23), .ref (ma 24), .ref (ma 25), .ref (ma 26), .ref (ma 27), .ref (ma 28), .int 0, .int 0, .int 0, .int 0, .ref (ma 33), .int (-1), .ref (ma 35), .int 0, .int 0])), ((ma 1), .inl (cy 0, 4, .inl (fun _ => 0)))] sz) := by
  refine Met.ofW (cc := cX12_sums) (maxL := 2) (ret := (some .int)) (by decide) rfl ?_
  intro p e s m args below meth c s₁ B hml hv
  obtain ⟨rfl, hsz, hP, hG, hD0, hT⟩ := hv
  have hx := B.exec
  have hb := B.bytes
  have hr := B.returns
  have hts := atoms_spec (ws := vs_m_sumsx) B.pre
  have hown : s.vm.findClass RX12 = some m.cls := findClass_of_methodNamed B.named
  have hlocks := B.notSynchronized
  subst hsz
  have hD := hD0.self (sz := s.heap.size)
  generalize hAe : va_A [(mo, .inr (12, [.int 0, .ref (ma 1), .int 0, .int 0, .int 0, .int 0, .int 0, .int 0, .int (-1), .ref (ma 9), .ref (ma 10), .ref (ma 11), .ref (ma 12), .ref (ma 13), .ref (ma 14), .ref (ma 15), .int 0, .int 0, .int 0, .ref (ma 19), .ref (ma 20), .ref (ma 21), .int 0, .ref (ma 23), .ref (ma 24), .ref (ma 25), .ref (ma 26), .ref (ma 27), .ref (ma 28), .int 0, .int 0, .int 0, .int 0, .ref (ma 33), .int (-1), .ref (ma 35), .int 0, .int 0])), ((ma 1), .inl (cy 0, 4, .inl (fun _ => 0)))] s.heap.size = A at hD hT ⊢
  have hA : ∀ q : Nat, s.heap.size ≤ q → A q := fun q h => by rw [← hAe]; exact Or.inr h
  have hS : va_S A s.heap s.heap [] := va_S.rf
  have hl0 := lv_entry ([.ref mo, .int p0]) (n := 2) (Nat.le_of_ble_eq_true rfl)
  rw [lg_entry_eq]
  generalize (lg_sl ([.ref mo, .int p0]) ++ List.replicate (2 - (lg_sl ([.ref mo, .int p0])).length) Slot.unset).toArray = ls at hl0 ⊢
  have hlv : lv_has ls 2 [(0, .ref mo), (1, .int p0)] := hl0
  have lf1 := hts (.fieldLink RX12 1 "KerbSplashModel" "thrown" "I") (List.mem_of_getElem? (i := 1) rfl)
  have hi12 : ∀ w ∈ wsX120, w ∈ vs_m_sumsx := fun w h => List.mem_cons_of_mem _ (List.mem_append_right _ (List.mem_append_left _ h))
  have gg_1 : GoodIn vs_m_sumsx (va_wsS RX12 279 yX12_within vs_c_within) := goodIn_sub (fun w h => List.mem_cons_of_mem _ (List.mem_append_right _ (List.mem_append_right _ (List.mem_append_left _ h)))) (by decide +kernel)
  have gg_2 : GoodIn vs_m_sumsx (wsV RX12 175 RX12 yX12_may vs_c_may0_2) := goodIn_sub (fun w h => List.mem_cons_of_mem _ (List.mem_append_right _ (List.mem_append_right _ (List.mem_append_right _ (List.mem_append_left _ h))))) (by decide +kernel)
  refine lv_aload_n hx hb dX12_sums_0 rfl (lv_at hlv 0 rfl) ?_
  refine lv_iconst (v := 0) hx hb dX12_sums_1 (by decide) ?_
  refine va_put (D := D) (ci := 12) (v := .int 0) (ty := .int) (C := RX12) (T := TX12) (N := 38) hx hb hts hi12 tyX12 tyX12_ok nmX12 hown hG.1 hP hD hS 0 rfl rfl 0 (by decide) lf1 (fun _ h9 => h9) rfl (by decide +kernel) rfl rfl (Nat.le_of_ble_eq_true rfl) dX12_sums_2 (fun H locs hP hD hS => ?_)
  have hP : va_P D vwCl [(mo, .inr (12, [.int 0, .ref (ma 1), .int 0, .int 0, .int 0, .int 0, .int 0, .int 0, .int (-1), .ref (ma 9), .ref (ma 10), .ref (ma 11), .ref (ma 12), .ref (ma 13), .ref (ma 14), .ref (ma 15), .int 0, .int 0, .int 0, .ref (ma 19), .ref (ma 20), .ref (ma 21), .int 0, .ref (ma 23), .ref (ma 24), .ref (ma 25), .ref (ma 26), .ref (ma 27), .ref (ma 28), .int 0, .int 0, .int 0, .int 0, .ref (ma 33), .int (-1), .ref (ma 35), .int 0, .int 0])), ((ma 1), .inl (cy 0, 4, .inl (fun _ => 0)))] H := hP
  have hD : va_D A [(mo, .inr (12, [.int 0, .ref (ma 1), .int 0, .int 0, .int 0, .int 0, .int 0, .int 0, .int (-1), .ref (ma 9), .ref (ma 10), .ref (ma 11), .ref (ma 12), .ref (ma 13), .ref (ma 14), .ref (ma 15), .int 0, .int 0, .int 0, .ref (ma 19), .ref (ma 20), .ref (ma 21), .int 0, .ref (ma 23), .ref (ma 24), .ref (ma 25), .ref (ma 26), .ref (ma 27), .ref (ma 28), .int 0, .int 0, .int 0, .int 0, .ref (ma 33), .int (-1), .ref (ma 35), .int 0, .int 0])), ((ma 1), .inl (cy 0, 4, .inl (fun _ => 0)))] := hD
  refine lv_aload_n hx hb dX12_sums_5 rfl (lv_at hlv 0 rfl) ?_
  refine lv_iload_n hx hb dX12_sums_6 rfl (lv_at hlv 1 rfl) ?_
  refine lv_iconst (v := 0) hx hb dX12_sums_7 (by decide) ?_
  refine lv_iconst (v := 3) hx hb dX12_sums_8 (by decide) ?_
  refine cj_i (wr := [(mo, .inr (12, [.int 0, .ref (ma 1), .int 0, .int 0, .int 0, .int 0, .int 0, .int 0, .int (-1), .ref (ma 9), .ref (ma 10), .ref (ma 11), .ref (ma 12), .ref (ma 13), .ref (ma 14), .ref (ma 15), .int 0, .int 0, .int 0, .ref (ma 19), .ref (ma 20), .ref (ma 21), .int 0, .ref (ma 23), .ref (ma 24), .ref (ma 25), .ref (ma 26), .ref (ma 27), .ref (ma 28), .int 0, .int 0, .int 0, .int 0, .ref (ma 33), .int (-1), .ref (ma 35), .int 0, .int 0])), ((ma 1), .inl (cy 0, 4, .inl (fun _ => 0)))]) (va_runS (As := [.int p0, .int 0, .int 3]) (rest := [.ref mo]) ⟨hx, hb, hml, hown, hts⟩ (c_within l hl D cy sa p0 0 3 H.size) (va_cwS 3 hts gg_1 rfl rfl rfl (by decide +kernel) ⟨Nat.le_of_ble_eq_true rfl, Nat.le_of_ble_eq_true rfl⟩) ⟨pcW.blind, (pcW.mk hP hD hS hA hG hT [] rfl (by decide))⟩ rfl rfl hlv.1 rfl (lv_room (Nat.le_of_ble_eq_true rfl)) dX12_sums_9 ⟨Nat.le_of_ble_eq_true rfl, Nat.le_of_ble_eq_true rfl⟩) hP hD hS hA [] [0, 1] rfl rfl (by decide) (by decide) (fun r1 u1 H locs hw1 hP hD hS => ?_)
  rcases hw1 with ⟨hg1, rfl⟩ | ⟨hg1, rfl⟩
  · exact absurd hg1 hn
  · have hP : va_P D vwCl [(mo, .inr (12, [.int 0, .ref (ma 1), .int 0, .int 0, .int 0, .int 0, .int 0, .int 0, .int (-1), .ref (ma 9), .ref (ma 10), .ref (ma 11), .ref (ma 12), .ref (ma 13), .ref (ma 14), .ref (ma 15), .int 0, .int 0, .int 0, .ref (ma 19), .ref (ma 20), .ref (ma 21), .int 0, .ref (ma 23), .ref (ma 24), .ref (ma 25), .ref (ma 26), .ref (ma 27), .ref (ma 28), .int 0, .int 0, .int 0, .int 0, .ref (ma 33), .int (-1), .ref (ma 35), .int 0, .int 0])), ((ma 1), .inl (cy 0, 4, .inl (fun _ => 0)))] H := hP
    have hD : va_D A [(mo, .inr (12, [.int 0, .ref (ma 1), .int 0, .int 0, .int 0, .int 0, .int 0, .int 0, .int (-1), .ref (ma 9), .ref (ma 10), .ref (ma 11), .ref (ma 12), .ref (ma 13), .ref (ma 14), .ref (ma 15), .int 0, .int 0, .int 0, .ref (ma 19), .ref (ma 20), .ref (ma 21), .int 0, .ref (ma 23), .ref (ma 24), .ref (ma 25), .ref (ma 26), .ref (ma 27), .ref (ma 28), .int 0, .int 0, .int 0, .int 0, .ref (ma 33), .int (-1), .ref (ma 35), .int 0, .int 0])), ((ma 1), .inl (cy 0, 4, .inl (fun _ => 0)))] := hD
    refine lv_iconst (v := 1) hx hb dX12_sums_12 (by decide) ?_
    refine lv_iconst (v := 2) hx hb dX12_sums_13 (by decide) ?_
    refine cj_i (wr := []) (va_runV (As := [.int 0, .int 1, .int 2]) (rest := []) ⟨hx, hb, hml, hown, hts⟩ (c_may0_2 l hl D cy sa mo ma 1 H.size (by decide)) (cwV 3 hts gg_2 rfl rfl rfl (by decide +kernel) ⟨Nat.le_of_ble_eq_true rfl, Nat.le_of_ble_eq_true rfl⟩) ⟨pcW.blind, (va_recv hG.1 hP (ci := 12) (q0 := 0) rfl rfl), (pcW.mk hP hD hS hA hG hT [0, 1] rfl (by decide))⟩ rfl rfl hlv.1 rfl (lv_room (Nat.le_of_ble_eq_true rfl)) dX12_sums_14 ⟨Nat.le_of_ble_eq_true rfl, Nat.le_of_ble_eq_true rfl⟩) hP hD hS hA [0, 1] [] rfl rfl (by decide) (by decide) (fun r2 u2 H locs hw2 hP hD hS => ?_)
    obtain rfl := hw2
    have hP : va_P D vwCl [(mo, .inr (12, [.int 1, .ref (ma 1), .int 0, .int 0, .int 0, .int 0, .int 0, .int 0, .int (-1), .ref (ma 9), .ref (ma 10), .ref (ma 11), .ref (ma 12), .ref (ma 13), .ref (ma 14), .ref (ma 15), .int 0, .int 0, .int 0, .ref (ma 19), .ref (ma 20), .ref (ma 21), .int 0, .ref (ma 23), .ref (ma 24), .ref (ma 25), .ref (ma 26), .ref (ma 27), .ref (ma 28), .int 0, .int 0, .int 0, .int 0, .ref (ma 33), .int (-1), .ref (ma 35), .int 0, .int 0]))] H := hP
    have hD : va_D A [(mo, .inr (12, [.int 1, .ref (ma 1), .int 0, .int 0, .int 0, .int 0, .int 0, .int 0, .int (-1), .ref (ma 9), .ref (ma 10), .ref (ma 11), .ref (ma 12), .ref (ma 13), .ref (ma 14), .ref (ma 15), .int 0, .int 0, .int 0, .ref (ma 19), .ref (ma 20), .ref (ma 21), .int 0, .ref (ma 23), .ref (ma 24), .ref (ma 25), .ref (ma 26), .ref (ma 27), .ref (ma 28), .int 0, .int 0, .int 0, .int 0, .ref (ma 33), .int (-1), .ref (ma 35), .int 0, .int 0]))] := hD
    refine lv_if_ne (tgt := 22) hx hb dX12_sums_17 (by decide) (fun c => absurd (by decide) c) (fun _ => ?_)
    refine lv_iconst (v := 0) hx hb dX12_sums_20 (by decide) ?_
    refine W.widen (k := 0) (n := 0) (Nat.le_of_ble_eq_true rfl) (Nat.le_of_ble_eq_true rfl) ?_
    exact W.iret (v := 0) hx hb hr (fun t ht hW => ⟨⟨0, ((fun k => ([] : List Nat).getD k 0), (fun k => ([1] : List Int32).getD k 0), (fun k => ([] : List (Nat → Int32)).getD k (fun _ => 0))), rfl, (by first | (exact ⟨by rfl, by rfl⟩)), by rw [ht]; exact hP.sub [0] rfl, hD.sub [0] (by decide) rfl⟩, hS.F ht⟩) hS.2.2 dX12_sums_21
def vs_m_clear : List Cond := .code yX12_clear cX12_clear 2 (some .int) :: (([.fieldLink RX12 1 "KerbSplashModel" "thrown" "I", .fieldLink RX12 29 "KerbSplashModel" "s" "[I"] : List Cond) ++ ((wsX120) ++ ([])))
set_option maxHeartbeats 4000000 in
set_option maxRecDepth 100000 in
theorem m_clear (l : Launch) (hl : l.stackTraces = false) (D : va_G) (cy : Nat → ClassId) (sa : Nat → Nat) (mo : Nat) (ma : Nat → Nat) (sz : Nat) : Met l yX12_clear vs_m_clear ({ frames := 0, cells := 0, slots := 0, locals := 0 }) (va_Pc [.ref mo] (pcW D cy sa sz [(mo, .inr (12, [.int 0, .ref (ma 1), .int 0, .int 0, .int 0, .int 0, .int 0, .int 0, .int (-1), .ref (ma 9), .ref (ma 10), .ref (ma 11), .ref (ma 12), .ref (ma 13), .ref (ma 14), .ref (ma 15), .int 0, .int 0, .int 0, .ref (ma 19), .ref (ma 20), .ref (ma 21), .int 0, .ref (ma 23), .ref (ma 24), .ref (ma 25), .ref (ma 26), .ref (ma 27), .ref (ma 28), .int 0, .int 0, .int 0, .int 0, .ref (ma 33), .int (-1), .ref (ma 35), .int 0, .int 0])), ((ma 12), .inl (cy 0, 389, .inl sF))])) (va_Qi (fun (r : Int32) (u : SU) => (r = 0)) (fun u t => atW D (va_A [(mo, .inr (12, [.int 0, .ref (ma 1), .int 0, .int 0, .int 0, .int 0, .int 0, .int 0, .int (-1), .ref (ma 9), .ref (ma 10), .ref (ma 11), .ref (ma 12), .ref (ma 13), .ref (ma 14), .ref (ma 15), .int 0, .int 0, .int 0, .ref (ma 19), .ref (ma 20), .ref (ma 21), .int 0, .ref (ma 23), .ref (ma 24), .ref (ma 25), .ref (ma 26), .ref (ma 27), .ref (ma 28), .int 0, .int 0, .int 0, .int 0, .ref (ma 33), .int (-1), .ref (ma 35), .int 0, .int 0])), ((ma 12), .inl (cy 0, 389, .inl sF))] sz) [] t) (va_A [(mo, .inr (12, [.int 0, .ref (ma 1), .int 0, .int 0, .int 0, .int 0, .int 0, .int 0, .int (-1), .ref (ma 9), .ref (ma 10), .ref (ma 11), .ref (ma 12), .ref (ma 13), .ref (ma 14), .ref (ma 15), .int 0, .int 0, .int 0, .ref (ma 19), .ref (ma 20), .ref (ma 21), .int 0, .ref (ma 23), .ref (ma 24), .ref (ma 25), .ref (ma 26), .ref (ma 27), .ref (ma 28), .int 0, .int 0, .int 0, .int 0, .ref (ma 33), .int (-1), .ref (ma 35), .int 0, .int 0])), ((ma 12), .inl (cy 0, 389, .inl sF))] sz)) 0 0 (va_A [(mo, .inr (12, [.int 0, .ref (ma 1), .int 0, .int 0, .int 0, .int 0, .int 0, .int 0, .int (-1), .ref (ma 9), .ref (ma 10), .ref (ma 11), .ref (ma 12), .ref (ma 13), .ref (ma 14), .ref (ma 15), .int 0, .int 0, .int 0, .ref (ma 19), .ref (ma 20), .ref (ma 21), .int 0, .ref (ma 23), .ref (ma 24), .ref (ma 25), .ref (ma 26), .ref (ma 27), .ref (ma 28), .int 0, .int 0, .int 0, .int 0, .ref (ma 33), .int (-1), .ref (ma 35), .int 0, .int 0])), ((ma 12), .inl (cy 0, 389, .inl sF))] sz) := by
  refine Met.ofW (cc := cX12_clear) (maxL := 2) (ret := (some .int)) (by decide) rfl ?_
  intro p e s m args below meth c s₁ B hml hv
  obtain ⟨rfl, hsz, hP, hG, hD0, hT⟩ := hv
  have hx := B.exec
  have hb := B.bytes
  have hr := B.returns
  have hts := atoms_spec (ws := vs_m_clear) B.pre
  have hown : s.vm.findClass RX12 = some m.cls := findClass_of_methodNamed B.named
  have hlocks := B.notSynchronized
  subst hsz
  have hD := hD0.self (sz := s.heap.size)
  generalize hAe : va_A [(mo, .inr (12, [.int 0, .ref (ma 1), .int 0, .int 0, .int 0, .int 0, .int 0, .int 0, .int (-1), .ref (ma 9), .ref (ma 10), .ref (ma 11), .ref (ma 12), .ref (ma 13), .ref (ma 14), .ref (ma 15), .int 0, .int 0, .int 0, .ref (ma 19), .ref (ma 20), .ref (ma 21), .int 0, .ref (ma 23), .ref (ma 24), .ref (ma 25), .ref (ma 26), .ref (ma 27), .ref (ma 28), .int 0, .int 0, .int 0, .int 0, .ref (ma 33), .int (-1), .ref (ma 35), .int 0, .int 0])), ((ma 12), .inl (cy 0, 389, .inl sF))] s.heap.size = A at hD hT ⊢
  have hA : ∀ q : Nat, s.heap.size ≤ q → A q := fun q h => by rw [← hAe]; exact Or.inr h
  have hS : va_S A s.heap s.heap [] := va_S.rf
  have hl0 := lv_entry ([.ref mo]) (n := 2) (Nat.le_of_ble_eq_true rfl)
  rw [lg_entry_eq]
  generalize (lg_sl ([.ref mo]) ++ List.replicate (2 - (lg_sl ([.ref mo])).length) Slot.unset).toArray = ls at hl0 ⊢
  have hlv : lv_has ls 2 [(0, .ref mo)] := hl0
  have lf1 := hts (.fieldLink RX12 1 "KerbSplashModel" "thrown" "I") (List.mem_of_getElem? (i := 1) rfl)
  have hi12 : ∀ w ∈ wsX120, w ∈ vs_m_clear := fun w h => List.mem_cons_of_mem _ (List.mem_append_right _ (List.mem_append_left _ h))
  have lf29 := hts (.fieldLink RX12 29 "KerbSplashModel" "s" "[I") (List.mem_of_getElem? (i := 2) rfl)
  refine lv_aload_n hx hb dX12_clear_0 rfl (lv_at hlv 0 rfl) ?_
  refine lv_iconst (v := 0) hx hb dX12_clear_1 (by decide) ?_
  refine va_put (D := D) (ci := 12) (v := .int 0) (ty := .int) (C := RX12) (T := TX12) (N := 38) hx hb hts hi12 tyX12 tyX12_ok nmX12 hown hG.1 hP hD hS 0 rfl rfl 0 (by decide) lf1 (fun _ h9 => h9) rfl (by decide +kernel) rfl rfl (Nat.le_of_ble_eq_true rfl) dX12_clear_2 (fun H locs hP hD hS => ?_)
  have hP : va_P D vwCl [(mo, .inr (12, [.int 0, .ref (ma 1), .int 0, .int 0, .int 0, .int 0, .int 0, .int 0, .int (-1), .ref (ma 9), .ref (ma 10), .ref (ma 11), .ref (ma 12), .ref (ma 13), .ref (ma 14), .ref (ma 15), .int 0, .int 0, .int 0, .ref (ma 19), .ref (ma 20), .ref (ma 21), .int 0, .ref (ma 23), .ref (ma 24), .ref (ma 25), .ref (ma 26), .ref (ma 27), .ref (ma 28), .int 0, .int 0, .int 0, .int 0, .ref (ma 33), .int (-1), .ref (ma 35), .int 0, .int 0])), ((ma 12), .inl (cy 0, 389, .inl sF))] H := hP
  have hD : va_D A [(mo, .inr (12, [.int 0, .ref (ma 1), .int 0, .int 0, .int 0, .int 0, .int 0, .int 0, .int (-1), .ref (ma 9), .ref (ma 10), .ref (ma 11), .ref (ma 12), .ref (ma 13), .ref (ma 14), .ref (ma 15), .int 0, .int 0, .int 0, .ref (ma 19), .ref (ma 20), .ref (ma 21), .int 0, .ref (ma 23), .ref (ma 24), .ref (ma 25), .ref (ma 26), .ref (ma 27), .ref (ma 28), .int 0, .int 0, .int 0, .int 0, .ref (ma 33), .int (-1), .ref (ma 35), .int 0, .int 0])), ((ma 12), .inl (cy 0, 389, .inl sF))] := hD
  refine lv_aload_n hx hb dX12_clear_5 rfl (lv_at hlv 0 rfl) ?_
  refine va_get (D := D) (ci := 12) (v := .ref (ma 12)) (C := RX12) (T := TX12) (N := 38) hx hb hts hi12 hown hG.1 hP 0 rfl rfl 12 (by decide) lf29 (fun _ h9 => h9) rfl dX12_clear_6 ?_
  refine lv_sipush (v := 252) hx hb dX12_clear_9 (by decide) ?_
  refine va_iald hx hb hG.1 hP 1 0 rfl rfl (vpd (by decide)) dX12_clear_12 ?_
  refine lt_i (y := 0) (by first | rfl | decide +kernel) ?_
  refine lv_istore_n (lv' := [(1, .int 0), (0, .ref mo)]) hx hb dX12_clear_13 rfl hlv (by decide) rfl (fun ls hlv => ?_)
  refine lv_aload_n hx hb dX12_clear_14 rfl (lv_at hlv 1 rfl) ?_
  refine va_get (D := D) (ci := 12) (v := .ref (ma 12)) (C := RX12) (T := TX12) (N := 38) hx hb hts hi12 hown hG.1 hP 0 rfl rfl 12 (by decide) lf29 (fun _ h9 => h9) rfl dX12_clear_15 ?_
  refine lv_sipush (v := 252) hx hb dX12_clear_18 (by decide) ?_
  refine lv_iconst (v := 0) hx hb dX12_clear_21 (by decide) ?_
  refine va_iast hx hb hG.1 hP hD hS 1 0 rfl rfl (vpd (by decide)) dX12_clear_22 (fun H locs hP hD hS => ?_)
  have ⟨f_1, hP, hD⟩ : ∃ f_1 : Nat → Int32, va_P D vwCl [(mo, .inr (12, [.int 0, .ref (ma 1), .int 0, .int 0, .int 0, .int 0, .int 0, .int 0, .int (-1), .ref (ma 9), .ref (ma 10), .ref (ma 11), .ref (ma 12), .ref (ma 13), .ref (ma 14), .ref (ma 15), .int 0, .int 0, .int 0, .ref (ma 19), .ref (ma 20), .ref (ma 21), .int 0, .ref (ma 23), .ref (ma 24), .ref (ma 25), .ref (ma 26), .ref (ma 27), .ref (ma 28), .int 0, .int 0, .int 0, .int 0, .ref (ma 33), .int (-1), .ref (ma 35), .int 0, .int 0])), ((ma 12), .inl (cy 0, 389, .inl f_1))] H ∧ va_D A [(mo, .inr (12, [.int 0, .ref (ma 1), .int 0, .int 0, .int 0, .int 0, .int 0, .int 0, .int (-1), .ref (ma 9), .ref (ma 10), .ref (ma 11), .ref (ma 12), .ref (ma 13), .ref (ma 14), .ref (ma 15), .int 0, .int 0, .int 0, .ref (ma 19), .ref (ma 20), .ref (ma 21), .int 0, .ref (ma 23), .ref (ma 24), .ref (ma 25), .ref (ma 26), .ref (ma 27), .ref (ma 28), .int 0, .int 0, .int 0, .int 0, .ref (ma 33), .int (-1), .ref (ma 35), .int 0, .int 0])), ((ma 12), .inl (cy 0, 389, .inl f_1))] := ⟨_, hP, hD⟩
  refine lv_iload_n hx hb dX12_clear_23 rfl (lv_at hlv 0 rfl) ?_
  refine W.widen (k := 0) (n := 0) (Nat.le_of_ble_eq_true rfl) (Nat.le_of_ble_eq_true rfl) ?_
  exact W.iret (v := 0) hx hb hr (fun t ht hW => ⟨⟨0, ((fun k => ([] : List Nat).getD k 0), (fun k => ([] : List Int32).getD k 0), (fun k => ([] : List (Nat → Int32)).getD k (fun _ => 0))), rfl, (by first | (exact (by rfl))), by rw [ht]; exact hP.sub [] rfl, hD.sub [] (by decide) rfl⟩, hS.F ht⟩) hS.2.2 dX12_clear_24
def vs_m_town : List Cond := .code yX12_town cX12_town 6 (some .int) :: (([.fieldLink RX12 1 "KerbSplashModel" "thrown" "I", .fieldLink RX12 29 "KerbSplashModel" "s" "[I"] : List Cond) ++ ((wsX120) ++ ((va_wsS RX12 279 yX12_within vs_c_within) ++ ((wsV RX12 175 RX12 yX12_may vs_c_may1) ++ ((wsV RX12 175 RX12 yX12_may vs_c_may0_2) ++ ([]))))))
set_option maxHeartbeats 4000000 in
set_option maxRecDepth 100000 in
theorem m_town (l : Launch) (hl : l.stackTraces = false) (D : va_G) (cy : Nat → ClassId) (sa : Nat → Nat) (mo : Nat) (ma : Nat → Nat) (p0 : Int32) (sz : Nat) : Met l yX12_town vs_m_town ({ frames := 1, cells := 0, slots := 0, locals := 23 }) (va_Pc [.ref mo, .int p0] (pcW D cy sa sz [(mo, .inr (12, [.int 0, .ref (ma 1), .int 0, .int 0, .int 0, .int 0, .int 0, .int 0, .int (-1), .ref (ma 9), .ref (ma 10), .ref (ma 11), .ref (ma 12), .ref (ma 13), .ref (ma 14), .ref (ma 15), .int 0, .int 0, .int 0, .ref (ma 19), .ref (ma 20), .ref (ma 21), .int 0, .ref (ma 23), .ref (ma 24), .ref (ma 25), .ref (ma 26), .ref (ma 27), .ref (ma 28), .int 0, .int 0, .int 0, .int 0, .ref (ma 33), .int (-1), .ref (ma 35), .int 0, .int 0])), ((ma 1), .inl (cy 0, 4, .inl (fun _ => 0))), ((ma 12), .inl (cy 0, 389, .inl sF))])) (va_Qi (fun (r : Int32) (u : SU) => ((¬ (0 ≤ p0 ∧ p0 ≤ 2)) ∧ r = 0 ∧ (u.2.1 0) = 1) ∨ (((0 ≤ p0 ∧ p0 ≤ 2)) ∧ r = (-1) ∧ (u.2.1 0) = 0)) (fun u t => atW D (va_A [(mo, .inr (12, [.int 0, .ref (ma 1), .int 0, .int 0, .int 0, .int 0, .int 0, .int 0, .int (-1), .ref (ma 9), .ref (ma 10), .ref (ma 11), .ref (ma 12), .ref (ma 13), .ref (ma 14), .ref (ma 15), .int 0, .int 0, .int 0, .ref (ma 19), .ref (ma 20), .ref (ma 21), .int 0, .ref (ma 23), .ref (ma 24), .ref (ma 25), .ref (ma 26), .ref (ma 27), .ref (ma 28), .int 0, .int 0, .int 0, .int 0, .ref (ma 33), .int (-1), .ref (ma 35), .int 0, .int 0])), ((ma 1), .inl (cy 0, 4, .inl (fun _ => 0))), ((ma 12), .inl (cy 0, 389, .inl sF))] sz) [(mo, .inr (12, [.int (u.2.1 0), .ref (ma 1), .int 0, .int 0, .int 0, .int 0, .int 0, .int 0, .int (-1), .ref (ma 9), .ref (ma 10), .ref (ma 11), .ref (ma 12), .ref (ma 13), .ref (ma 14), .ref (ma 15), .int 0, .int 0, .int 0, .ref (ma 19), .ref (ma 20), .ref (ma 21), .int 0, .ref (ma 23), .ref (ma 24), .ref (ma 25), .ref (ma 26), .ref (ma 27), .ref (ma 28), .int 0, .int 0, .int 0, .int 0, .ref (ma 33), .int (-1), .ref (ma 35), .int 0, .int 0]))] t) (va_A [(mo, .inr (12, [.int 0, .ref (ma 1), .int 0, .int 0, .int 0, .int 0, .int 0, .int 0, .int (-1), .ref (ma 9), .ref (ma 10), .ref (ma 11), .ref (ma 12), .ref (ma 13), .ref (ma 14), .ref (ma 15), .int 0, .int 0, .int 0, .ref (ma 19), .ref (ma 20), .ref (ma 21), .int 0, .ref (ma 23), .ref (ma 24), .ref (ma 25), .ref (ma 26), .ref (ma 27), .ref (ma 28), .int 0, .int 0, .int 0, .int 0, .ref (ma 33), .int (-1), .ref (ma 35), .int 0, .int 0])), ((ma 1), .inl (cy 0, 4, .inl (fun _ => 0))), ((ma 12), .inl (cy 0, 389, .inl sF))] sz)) 0 0 (va_A [(mo, .inr (12, [.int 0, .ref (ma 1), .int 0, .int 0, .int 0, .int 0, .int 0, .int 0, .int (-1), .ref (ma 9), .ref (ma 10), .ref (ma 11), .ref (ma 12), .ref (ma 13), .ref (ma 14), .ref (ma 15), .int 0, .int 0, .int 0, .ref (ma 19), .ref (ma 20), .ref (ma 21), .int 0, .ref (ma 23), .ref (ma 24), .ref (ma 25), .ref (ma 26), .ref (ma 27), .ref (ma 28), .int 0, .int 0, .int 0, .int 0, .ref (ma 33), .int (-1), .ref (ma 35), .int 0, .int 0])), ((ma 1), .inl (cy 0, 4, .inl (fun _ => 0))), ((ma 12), .inl (cy 0, 389, .inl sF))] sz) := by
  refine Met.ofW (cc := cX12_town) (maxL := 6) (ret := (some .int)) (by decide) rfl ?_
  intro p e s m args below meth c s₁ B hml hv
  obtain ⟨rfl, hsz, hP, hG, hD0, hT⟩ := hv
  have hx := B.exec
  have hb := B.bytes
  have hr := B.returns
  have hts := atoms_spec (ws := vs_m_town) B.pre
  have hown : s.vm.findClass RX12 = some m.cls := findClass_of_methodNamed B.named
  have hlocks := B.notSynchronized
  subst hsz
  have hD := hD0.self (sz := s.heap.size)
  generalize hAe : va_A [(mo, .inr (12, [.int 0, .ref (ma 1), .int 0, .int 0, .int 0, .int 0, .int 0, .int 0, .int (-1), .ref (ma 9), .ref (ma 10), .ref (ma 11), .ref (ma 12), .ref (ma 13), .ref (ma 14), .ref (ma 15), .int 0, .int 0, .int 0, .ref (ma 19), .ref (ma 20), .ref (ma 21), .int 0, .ref (ma 23), .ref (ma 24), .ref (ma 25), .ref (ma 26), .ref (ma 27), .ref (ma 28), .int 0, .int 0, .int 0, .int 0, .ref (ma 33), .int (-1), .ref (ma 35), .int 0, .int 0])), ((ma 1), .inl (cy 0, 4, .inl (fun _ => 0))), ((ma 12), .inl (cy 0, 389, .inl sF))] s.heap.size = A at hD hT ⊢
  have hA : ∀ q : Nat, s.heap.size ≤ q → A q := fun q h => by rw [← hAe]; exact Or.inr h
  have hS : va_S A s.heap s.heap [] := va_S.rf
  have hl0 := lv_entry ([.ref mo, .int p0]) (n := 6) (Nat.le_of_ble_eq_true rfl)
  rw [lg_entry_eq]
  generalize (lg_sl ([.ref mo, .int p0]) ++ List.replicate (6 - (lg_sl ([.ref mo, .int p0])).length) Slot.unset).toArray = ls at hl0 ⊢
  have hlv : lv_has ls 6 [(0, .ref mo), (1, .int p0)] := hl0
  have lf1 := hts (.fieldLink RX12 1 "KerbSplashModel" "thrown" "I") (List.mem_of_getElem? (i := 1) rfl)
  have hi12 : ∀ w ∈ wsX120, w ∈ vs_m_town := fun w h => List.mem_cons_of_mem _ (List.mem_append_right _ (List.mem_append_left _ h))
  have gg_1 : GoodIn vs_m_town (va_wsS RX12 279 yX12_within vs_c_within) := goodIn_sub (fun w h => List.mem_cons_of_mem _ (List.mem_append_right _ (List.mem_append_right _ (List.mem_append_left _ h)))) (by decide +kernel)
  have gg_2 : GoodIn vs_m_town (wsV RX12 175 RX12 yX12_may vs_c_may1) := goodIn_sub (fun w h => List.mem_cons_of_mem _ (List.mem_append_right _ (List.mem_append_right _ (List.mem_append_right _ (List.mem_append_left _ h))))) (by decide +kernel)
  have lf29 := hts (.fieldLink RX12 29 "KerbSplashModel" "s" "[I") (List.mem_of_getElem? (i := 2) rfl)
  have gg_3 : GoodIn vs_m_town (wsV RX12 175 RX12 yX12_may vs_c_may0_2) := goodIn_sub (fun w h => List.mem_cons_of_mem _ (List.mem_append_right _ (List.mem_append_right _ (List.mem_append_right _ (List.mem_append_right _ (List.mem_append_left _ h)))))) (by decide +kernel)
  refine lv_aload_n hx hb dX12_town_0 rfl (lv_at hlv 0 rfl) ?_
  refine lv_iconst (v := 0) hx hb dX12_town_1 (by decide) ?_
  refine va_put (D := D) (ci := 12) (v := .int 0) (ty := .int) (C := RX12) (T := TX12) (N := 38) hx hb hts hi12 tyX12 tyX12_ok nmX12 hown hG.1 hP hD hS 0 rfl rfl 0 (by decide) lf1 (fun _ h9 => h9) rfl (by decide +kernel) rfl rfl (Nat.le_of_ble_eq_true rfl) dX12_town_2 (fun H locs hP hD hS => ?_)
  have hP : va_P D vwCl [(mo, .inr (12, [.int 0, .ref (ma 1), .int 0, .int 0, .int 0, .int 0, .int 0, .int 0, .int (-1), .ref (ma 9), .ref (ma 10), .ref (ma 11), .ref (ma 12), .ref (ma 13), .ref (ma 14), .ref (ma 15), .int 0, .int 0, .int 0, .ref (ma 19), .ref (ma 20), .ref (ma 21), .int 0, .ref (ma 23), .ref (ma 24), .ref (ma 25), .ref (ma 26), .ref (ma 27), .ref (ma 28), .int 0, .int 0, .int 0, .int 0, .ref (ma 33), .int (-1), .ref (ma 35), .int 0, .int 0])), ((ma 1), .inl (cy 0, 4, .inl (fun _ => 0))), ((ma 12), .inl (cy 0, 389, .inl sF))] H := hP
  have hD : va_D A [(mo, .inr (12, [.int 0, .ref (ma 1), .int 0, .int 0, .int 0, .int 0, .int 0, .int 0, .int (-1), .ref (ma 9), .ref (ma 10), .ref (ma 11), .ref (ma 12), .ref (ma 13), .ref (ma 14), .ref (ma 15), .int 0, .int 0, .int 0, .ref (ma 19), .ref (ma 20), .ref (ma 21), .int 0, .ref (ma 23), .ref (ma 24), .ref (ma 25), .ref (ma 26), .ref (ma 27), .ref (ma 28), .int 0, .int 0, .int 0, .int 0, .ref (ma 33), .int (-1), .ref (ma 35), .int 0, .int 0])), ((ma 1), .inl (cy 0, 4, .inl (fun _ => 0))), ((ma 12), .inl (cy 0, 389, .inl sF))] := hD
  refine lv_aload_n hx hb dX12_town_5 rfl (lv_at hlv 0 rfl) ?_
  refine lv_iload_n hx hb dX12_town_6 rfl (lv_at hlv 1 rfl) ?_
  refine lv_iconst (v := 0) hx hb dX12_town_7 (by decide) ?_
  refine lv_iconst (v := 2) hx hb dX12_town_8 (by decide) ?_
  refine cj_i (wr := [(mo, .inr (12, [.int 0, .ref (ma 1), .int 0, .int 0, .int 0, .int 0, .int 0, .int 0, .int (-1), .ref (ma 9), .ref (ma 10), .ref (ma 11), .ref (ma 12), .ref (ma 13), .ref (ma 14), .ref (ma 15), .int 0, .int 0, .int 0, .ref (ma 19), .ref (ma 20), .ref (ma 21), .int 0, .ref (ma 23), .ref (ma 24), .ref (ma 25), .ref (ma 26), .ref (ma 27), .ref (ma 28), .int 0, .int 0, .int 0, .int 0, .ref (ma 33), .int (-1), .ref (ma 35), .int 0, .int 0])), ((ma 1), .inl (cy 0, 4, .inl (fun _ => 0))), ((ma 12), .inl (cy 0, 389, .inl sF))]) (va_runS (As := [.int p0, .int 0, .int 2]) (rest := [.ref mo]) ⟨hx, hb, hml, hown, hts⟩ (c_within l hl D cy sa p0 0 2 H.size) (va_cwS 3 hts gg_1 rfl rfl rfl (by decide +kernel) ⟨Nat.le_of_ble_eq_true rfl, Nat.le_of_ble_eq_true rfl⟩) ⟨pcW.blind, (pcW.mk hP hD hS hA hG hT [] rfl (by decide))⟩ rfl rfl hlv.1 rfl (lv_room (Nat.le_of_ble_eq_true rfl)) dX12_town_9 ⟨Nat.le_of_ble_eq_true rfl, Nat.le_of_ble_eq_true rfl⟩) hP hD hS hA [] [0, 1, 2] rfl rfl (by decide) (by decide) (fun r1 u1 H locs hw1 hP hD hS => ?_)
  rcases hw1 with ⟨hg1, rfl⟩ | ⟨hg1, rfl⟩
  · have hP : va_P D vwCl [(mo, .inr (12, [.int 0, .ref (ma 1), .int 0, .int 0, .int 0, .int 0, .int 0, .int 0, .int (-1), .ref (ma 9), .ref (ma 10), .ref (ma 11), .ref (ma 12), .ref (ma 13), .ref (ma 14), .ref (ma 15), .int 0, .int 0, .int 0, .ref (ma 19), .ref (ma 20), .ref (ma 21), .int 0, .ref (ma 23), .ref (ma 24), .ref (ma 25), .ref (ma 26), .ref (ma 27), .ref (ma 28), .int 0, .int 0, .int 0, .int 0, .ref (ma 33), .int (-1), .ref (ma 35), .int 0, .int 0])), ((ma 1), .inl (cy 0, 4, .inl (fun _ => 0))), ((ma 12), .inl (cy 0, 389, .inl sF))] H := hP
    have hD : va_D A [(mo, .inr (12, [.int 0, .ref (ma 1), .int 0, .int 0, .int 0, .int 0, .int 0, .int 0, .int (-1), .ref (ma 9), .ref (ma 10), .ref (ma 11), .ref (ma 12), .ref (ma 13), .ref (ma 14), .ref (ma 15), .int 0, .int 0, .int 0, .ref (ma 19), .ref (ma 20), .ref (ma 21), .int 0, .ref (ma 23), .ref (ma 24), .ref (ma 25), .ref (ma 26), .ref (ma 27), .ref (ma 28), .int 0, .int 0, .int 0, .int 0, .ref (ma 33), .int (-1), .ref (ma 35), .int 0, .int 0])), ((ma 1), .inl (cy 0, 4, .inl (fun _ => 0))), ((ma 12), .inl (cy 0, 389, .inl sF))] := hD
    refine lv_iconst (v := 1) hx hb dX12_town_12 (by decide) ?_
    refine lv_iconst (v := 2) hx hb dX12_town_13 (by decide) ?_
    refine cj_i (wr := [((ma 1), .inl (cy 0, 4, .inl (fun _ => 0))), ((ma 12), .inl (cy 0, 389, .inl sF))]) (va_runV (As := [.int 1, .int 1, .int 2]) (rest := []) ⟨hx, hb, hml, hown, hts⟩ (c_may1 l hl D cy sa mo ma 1 2 H.size) (cwV 3 hts gg_2 rfl rfl rfl (by decide +kernel) ⟨Nat.le_of_ble_eq_true rfl, Nat.le_of_ble_eq_true rfl⟩) ⟨pcW.blind, (va_recv hG.1 hP (ci := 12) (q0 := 0) rfl rfl), (pcW.mk hP hD hS hA hG hT [0] rfl (by decide))⟩ rfl rfl hlv.1 rfl (lv_room (Nat.le_of_ble_eq_true rfl)) dX12_town_14 ⟨Nat.le_of_ble_eq_true rfl, Nat.le_of_ble_eq_true rfl⟩) hP hD hS hA [0] [1, 2] rfl rfl (by decide) (by decide) (fun r2 u2 H locs hw2 hP hD hS => ?_)
    obtain rfl := hw2
    have hP : va_P D vwCl [((ma 1), .inl (cy 0, 4, .inl (fun _ => 0))), ((ma 12), .inl (cy 0, 389, .inl sF)), (mo, .inr (12, [.int 0, .ref (ma 1), .int 0, .int 0, .int 0, .int 0, .int 0, .int 0, .int (-1), .ref (ma 9), .ref (ma 10), .ref (ma 11), .ref (ma 12), .ref (ma 13), .ref (ma 14), .ref (ma 15), .int 0, .int 0, .int 0, .ref (ma 19), .ref (ma 20), .ref (ma 21), .int 0, .ref (ma 23), .ref (ma 24), .ref (ma 25), .ref (ma 26), .ref (ma 27), .ref (ma 28), .int 0, .int 0, .int 0, .int 0, .ref (ma 33), .int (-1), .ref (ma 35), .int 0, .int 0]))] H := hP
    have hD : va_D A [((ma 1), .inl (cy 0, 4, .inl (fun _ => 0))), ((ma 12), .inl (cy 0, 389, .inl sF)), (mo, .inr (12, [.int 0, .ref (ma 1), .int 0, .int 0, .int 0, .int 0, .int 0, .int 0, .int (-1), .ref (ma 9), .ref (ma 10), .ref (ma 11), .ref (ma 12), .ref (ma 13), .ref (ma 14), .ref (ma 15), .int 0, .int 0, .int 0, .ref (ma 19), .ref (ma 20), .ref (ma 21), .int 0, .ref (ma 23), .ref (ma 24), .ref (ma 25), .ref (ma 26), .ref (ma 27), .ref (ma 28), .int 0, .int 0, .int 0, .int 0, .ref (ma 33), .int (-1), .ref (ma 35), .int 0, .int 0]))] := hD
    refine lv_if_ne (tgt := 22) hx hb dX12_town_17 (by decide) (fun _ => ?_) (fun c => absurd c (by decide))
    refine lv_aload_n hx hb dX12_town_22 rfl (lv_at hlv 0 rfl) ?_
    refine va_get (D := D) (ci := 12) (v := .ref (ma 12)) (C := RX12) (T := TX12) (N := 38) hx hb hts hi12 hown hG.1 hP 2 rfl rfl 12 (by decide) lf29 (fun _ h9 => h9) rfl dX12_town_23 ?_
    refine lv_sipush (v := 357) hx hb dX12_town_26 (by decide) ?_
    refine va_iald hx hb hG.1 hP 1 0 rfl rfl (vpd (by decide)) dX12_town_29 ?_
    refine lt_i (y := 0) (by first | rfl | decide +kernel) ?_
    refine lv_if_ne (tgt := 35) hx hb dX12_town_30 (by decide) (fun c => absurd (by decide) c) (fun _ => ?_)
    refine lv_iconst (v := (-1)) hx hb dX12_town_33 (by decide) ?_
    refine W.widen (k := 0) (n := 0) (Nat.le_of_ble_eq_true rfl) (Nat.le_of_ble_eq_true rfl) ?_
    exact W.iret (v := (-1)) hx hb hr (fun t ht hW => ⟨⟨(-1), ((fun k => ([] : List Nat).getD k 0), (fun k => ([0] : List Int32).getD k 0), (fun k => ([] : List (Nat → Int32)).getD k (fun _ => 0))), rfl, (by first | (right; exact ⟨hg1, by rfl, by rfl⟩)), by rw [ht]; exact hP.sub [2] rfl, hD.sub [2] (by decide) rfl⟩, hS.F ht⟩) hS.2.2 dX12_town_34
  · have hP : va_P D vwCl [(mo, .inr (12, [.int 0, .ref (ma 1), .int 0, .int 0, .int 0, .int 0, .int 0, .int 0, .int (-1), .ref (ma 9), .ref (ma 10), .ref (ma 11), .ref (ma 12), .ref (ma 13), .ref (ma 14), .ref (ma 15), .int 0, .int 0, .int 0, .ref (ma 19), .ref (ma 20), .ref (ma 21), .int 0, .ref (ma 23), .ref (ma 24), .ref (ma 25), .ref (ma 26), .ref (ma 27), .ref (ma 28), .int 0, .int 0, .int 0, .int 0, .ref (ma 33), .int (-1), .ref (ma 35), .int 0, .int 0])), ((ma 1), .inl (cy 0, 4, .inl (fun _ => 0))), ((ma 12), .inl (cy 0, 389, .inl sF))] H := hP
    have hD : va_D A [(mo, .inr (12, [.int 0, .ref (ma 1), .int 0, .int 0, .int 0, .int 0, .int 0, .int 0, .int (-1), .ref (ma 9), .ref (ma 10), .ref (ma 11), .ref (ma 12), .ref (ma 13), .ref (ma 14), .ref (ma 15), .int 0, .int 0, .int 0, .ref (ma 19), .ref (ma 20), .ref (ma 21), .int 0, .ref (ma 23), .ref (ma 24), .ref (ma 25), .ref (ma 26), .ref (ma 27), .ref (ma 28), .int 0, .int 0, .int 0, .int 0, .ref (ma 33), .int (-1), .ref (ma 35), .int 0, .int 0])), ((ma 1), .inl (cy 0, 4, .inl (fun _ => 0))), ((ma 12), .inl (cy 0, 389, .inl sF))] := hD
    refine lv_iconst (v := 1) hx hb dX12_town_12 (by decide) ?_
    refine lv_iconst (v := 2) hx hb dX12_town_13 (by decide) ?_
    refine cj_i (wr := [((ma 12), .inl (cy 0, 389, .inl sF))]) (va_runV (As := [.int 0, .int 1, .int 2]) (rest := []) ⟨hx, hb, hml, hown, hts⟩ (c_may0_2 l hl D cy sa mo ma 1 H.size (by decide)) (cwV 3 hts gg_3 rfl rfl rfl (by decide +kernel) ⟨Nat.le_of_ble_eq_true rfl, Nat.le_of_ble_eq_true rfl⟩) ⟨pcW.blind, (va_recv hG.1 hP (ci := 12) (q0 := 0) rfl rfl), (pcW.mk hP hD hS hA hG hT [0, 1] rfl (by decide))⟩ rfl rfl hlv.1 rfl (lv_room (Nat.le_of_ble_eq_true rfl)) dX12_town_14 ⟨Nat.le_of_ble_eq_true rfl, Nat.le_of_ble_eq_true rfl⟩) hP hD hS hA [0, 1] [2] rfl rfl (by decide) (by decide) (fun r3 u3 H locs hw3 hP hD hS => ?_)
    obtain rfl := hw3
    have hP : va_P D vwCl [((ma 12), .inl (cy 0, 389, .inl sF)), (mo, .inr (12, [.int 1, .ref (ma 1), .int 0, .int 0, .int 0, .int 0, .int 0, .int 0, .int (-1), .ref (ma 9), .ref (ma 10), .ref (ma 11), .ref (ma 12), .ref (ma 13), .ref (ma 14), .ref (ma 15), .int 0, .int 0, .int 0, .ref (ma 19), .ref (ma 20), .ref (ma 21), .int 0, .ref (ma 23), .ref (ma 24), .ref (ma 25), .ref (ma 26), .ref (ma 27), .ref (ma 28), .int 0, .int 0, .int 0, .int 0, .ref (ma 33), .int (-1), .ref (ma 35), .int 0, .int 0]))] H := hP
    have hD : va_D A [((ma 12), .inl (cy 0, 389, .inl sF)), (mo, .inr (12, [.int 1, .ref (ma 1), .int 0, .int 0, .int 0, .int 0, .int 0, .int 0, .int (-1), .ref (ma 9), .ref (ma 10), .ref (ma 11), .ref (ma 12), .ref (ma 13), .ref (ma 14), .ref (ma 15), .int 0, .int 0, .int 0, .ref (ma 19), .ref (ma 20), .ref (ma 21), .int 0, .ref (ma 23), .ref (ma 24), .ref (ma 25), .ref (ma 26), .ref (ma 27), .ref (ma 28), .int 0, .int 0, .int 0, .int 0, .ref (ma 33), .int (-1), .ref (ma 35), .int 0, .int 0]))] := hD
    refine lv_if_ne (tgt := 22) hx hb dX12_town_17 (by decide) (fun c => absurd (by decide) c) (fun _ => ?_)
    refine lv_iconst (v := 0) hx hb dX12_town_20 (by decide) ?_
    refine W.widen (k := 0) (n := 0) (Nat.le_of_ble_eq_true rfl) (Nat.le_of_ble_eq_true rfl) ?_
    exact W.iret (v := 0) hx hb hr (fun t ht hW => ⟨⟨0, ((fun k => ([] : List Nat).getD k 0), (fun k => ([1] : List Int32).getD k 0), (fun k => ([] : List (Nat → Int32)).getD k (fun _ => 0))), rfl, (by first | (left; exact ⟨hg1, by rfl, by rfl⟩)), by rw [ht]; exact hP.sub [1] rfl, hD.sub [1] (by decide) rfl⟩, hS.F ht⟩) hS.2.2 dX12_town_21
def vs_m_restore : List Cond := .code yX12_restore cX12_restore 2 (some .int) :: (([.fieldLink RX12 1 "KerbSplashModel" "thrown" "I", .fieldLink RX12 201 "KerbSplashModel" "images" "I"] : List Cond) ++ ((wsX120) ++ ([])))
set_option maxHeartbeats 4000000 in
set_option maxRecDepth 100000 in
theorem m_restore (l : Launch) (hl : l.stackTraces = false) (D : va_G) (cy : Nat → ClassId) (sa : Nat → Nat) (mo : Nat) (ma : Nat → Nat) (sz : Nat) : Met l yX12_restore vs_m_restore ({ frames := 0, cells := 0, slots := 0, locals := 0 }) (va_Pc [.ref mo] (pcW D cy sa sz [(mo, .inr (12, [.int 0, .ref (ma 1), .int 0, .int 0, .int 0, .int 0, .int 0, .int 0, .int (-1), .ref (ma 9), .ref (ma 10), .ref (ma 11), .ref (ma 12), .ref (ma 13), .ref (ma 14), .ref (ma 15), .int 0, .int 0, .int 0, .ref (ma 19), .ref (ma 20), .ref (ma 21), .int 0, .ref (ma 23), .ref (ma 24), .ref (ma 25), .ref (ma 26), .ref (ma 27), .ref (ma 28), .int 0, .int 0, .int 0, .int 0, .ref (ma 33), .int (-1), .ref (ma 35), .int 0, .int 0]))])) (va_Qi (fun (r : Int32) (u : SU) => (r = (-1))) (fun u t => atW D (va_A [(mo, .inr (12, [.int 0, .ref (ma 1), .int 0, .int 0, .int 0, .int 0, .int 0, .int 0, .int (-1), .ref (ma 9), .ref (ma 10), .ref (ma 11), .ref (ma 12), .ref (ma 13), .ref (ma 14), .ref (ma 15), .int 0, .int 0, .int 0, .ref (ma 19), .ref (ma 20), .ref (ma 21), .int 0, .ref (ma 23), .ref (ma 24), .ref (ma 25), .ref (ma 26), .ref (ma 27), .ref (ma 28), .int 0, .int 0, .int 0, .int 0, .ref (ma 33), .int (-1), .ref (ma 35), .int 0, .int 0]))] sz) [] t) (va_A [(mo, .inr (12, [.int 0, .ref (ma 1), .int 0, .int 0, .int 0, .int 0, .int 0, .int 0, .int (-1), .ref (ma 9), .ref (ma 10), .ref (ma 11), .ref (ma 12), .ref (ma 13), .ref (ma 14), .ref (ma 15), .int 0, .int 0, .int 0, .ref (ma 19), .ref (ma 20), .ref (ma 21), .int 0, .ref (ma 23), .ref (ma 24), .ref (ma 25), .ref (ma 26), .ref (ma 27), .ref (ma 28), .int 0, .int 0, .int 0, .int 0, .ref (ma 33), .int (-1), .ref (ma 35), .int 0, .int 0]))] sz)) 0 0 (va_A [(mo, .inr (12, [.int 0, .ref (ma 1), .int 0, .int 0, .int 0, .int 0, .int 0, .int 0, .int (-1), .ref (ma 9), .ref (ma 10), .ref (ma 11), .ref (ma 12), .ref (ma 13), .ref (ma 14), .ref (ma 15), .int 0, .int 0, .int 0, .ref (ma 19), .ref (ma 20), .ref (ma 21), .int 0, .ref (ma 23), .ref (ma 24), .ref (ma 25), .ref (ma 26), .ref (ma 27), .ref (ma 28), .int 0, .int 0, .int 0, .int 0, .ref (ma 33), .int (-1), .ref (ma 35), .int 0, .int 0]))] sz) := by
  refine Met.ofW (cc := cX12_restore) (maxL := 2) (ret := (some .int)) (by decide) rfl ?_
  intro p e s m args below meth c s₁ B hml hv
  obtain ⟨rfl, hsz, hP, hG, hD0, hT⟩ := hv
  have hx := B.exec
  have hb := B.bytes
  have hr := B.returns
  have hts := atoms_spec (ws := vs_m_restore) B.pre
  have hown : s.vm.findClass RX12 = some m.cls := findClass_of_methodNamed B.named
  have hlocks := B.notSynchronized
  subst hsz
  have hD := hD0.self (sz := s.heap.size)
  generalize hAe : va_A [(mo, .inr (12, [.int 0, .ref (ma 1), .int 0, .int 0, .int 0, .int 0, .int 0, .int 0, .int (-1), .ref (ma 9), .ref (ma 10), .ref (ma 11), .ref (ma 12), .ref (ma 13), .ref (ma 14), .ref (ma 15), .int 0, .int 0, .int 0, .ref (ma 19), .ref (ma 20), .ref (ma 21), .int 0, .ref (ma 23), .ref (ma 24), .ref (ma 25), .ref (ma 26), .ref (ma 27), .ref (ma 28), .int 0, .int 0, .int 0, .int 0, .ref (ma 33), .int (-1), .ref (ma 35), .int 0, .int 0]))] s.heap.size = A at hD hT ⊢
  have hA : ∀ q : Nat, s.heap.size ≤ q → A q := fun q h => by rw [← hAe]; exact Or.inr h
  have hS : va_S A s.heap s.heap [] := va_S.rf
  have hl0 := lv_entry ([.ref mo]) (n := 2) (Nat.le_of_ble_eq_true rfl)
  rw [lg_entry_eq]
  generalize (lg_sl ([.ref mo]) ++ List.replicate (2 - (lg_sl ([.ref mo])).length) Slot.unset).toArray = ls at hl0 ⊢
  have hlv : lv_has ls 2 [(0, .ref mo)] := hl0
  have lf1 := hts (.fieldLink RX12 1 "KerbSplashModel" "thrown" "I") (List.mem_of_getElem? (i := 1) rfl)
  have hi12 : ∀ w ∈ wsX120, w ∈ vs_m_restore := fun w h => List.mem_cons_of_mem _ (List.mem_append_right _ (List.mem_append_left _ h))
  have lf201 := hts (.fieldLink RX12 201 "KerbSplashModel" "images" "I") (List.mem_of_getElem? (i := 2) rfl)
  refine lv_aload_n hx hb dX12_restore_0 rfl (lv_at hlv 0 rfl) ?_
  refine lv_iconst (v := 0) hx hb dX12_restore_1 (by decide) ?_
  refine va_put (D := D) (ci := 12) (v := .int 0) (ty := .int) (C := RX12) (T := TX12) (N := 38) hx hb hts hi12 tyX12 tyX12_ok nmX12 hown hG.1 hP hD hS 0 rfl rfl 0 (by decide) lf1 (fun _ h9 => h9) rfl (by decide +kernel) rfl rfl (Nat.le_of_ble_eq_true rfl) dX12_restore_2 (fun H locs hP hD hS => ?_)
  have hP : va_P D vwCl [(mo, .inr (12, [.int 0, .ref (ma 1), .int 0, .int 0, .int 0, .int 0, .int 0, .int 0, .int (-1), .ref (ma 9), .ref (ma 10), .ref (ma 11), .ref (ma 12), .ref (ma 13), .ref (ma 14), .ref (ma 15), .int 0, .int 0, .int 0, .ref (ma 19), .ref (ma 20), .ref (ma 21), .int 0, .ref (ma 23), .ref (ma 24), .ref (ma 25), .ref (ma 26), .ref (ma 27), .ref (ma 28), .int 0, .int 0, .int 0, .int 0, .ref (ma 33), .int (-1), .ref (ma 35), .int 0, .int 0]))] H := hP
  have hD : va_D A [(mo, .inr (12, [.int 0, .ref (ma 1), .int 0, .int 0, .int 0, .int 0, .int 0, .int 0, .int (-1), .ref (ma 9), .ref (ma 10), .ref (ma 11), .ref (ma 12), .ref (ma 13), .ref (ma 14), .ref (ma 15), .int 0, .int 0, .int 0, .ref (ma 19), .ref (ma 20), .ref (ma 21), .int 0, .ref (ma 23), .ref (ma 24), .ref (ma 25), .ref (ma 26), .ref (ma 27), .ref (ma 28), .int 0, .int 0, .int 0, .int 0, .ref (ma 33), .int (-1), .ref (ma 35), .int 0, .int 0]))] := hD
  refine lv_aload_n hx hb dX12_restore_5 rfl (lv_at hlv 0 rfl) ?_
  refine va_get (D := D) (ci := 12) (v := .int 0) (C := RX12) (T := TX12) (N := 38) hx hb hts hi12 hown hG.1 hP 0 rfl rfl 16 (by decide) lf201 (fun _ h9 => h9) rfl dX12_restore_6 ?_
  refine lv_if_ne (tgt := 14) hx hb dX12_restore_9 (by decide) (fun c => absurd (by decide) c) (fun _ => ?_)
  refine lv_iconst (v := (-1)) hx hb dX12_restore_12 (by decide) ?_
  refine W.widen (k := 0) (n := 0) (Nat.le_of_ble_eq_true rfl) (Nat.le_of_ble_eq_true rfl) ?_
  exact W.iret (v := (-1)) hx hb hr (fun t ht hW => ⟨⟨(-1), ((fun k => ([] : List Nat).getD k 0), (fun k => ([] : List Int32).getD k 0), (fun k => ([] : List (Nat → Int32)).getD k (fun _ => 0))), rfl, (by first | (exact (by rfl))), by rw [ht]; exact hP.sub [] rfl, hD.sub [] (by decide) rfl⟩, hS.F ht⟩) hS.2.2 dX12_restore_13
def vs_m_count0 : List Cond := .code yX12_count cX12_count 2 (some .int) :: (([.fieldLink RX12 1 "KerbSplashModel" "thrown" "I", .fieldLink RX12 29 "KerbSplashModel" "s" "[I"] : List Cond) ++ ((wsX120) ++ ([])))
set_option maxHeartbeats 4000000 in
set_option maxRecDepth 100000 in
theorem m_count0 (l : Launch) (hl : l.stackTraces = false) (D : va_G) (cy : Nat → ClassId) (sa : Nat → Nat) (mo : Nat) (ma : Nat → Nat) (sz : Nat) : Met l yX12_count vs_m_count0 ({ frames := 0, cells := 0, slots := 0, locals := 0 }) (va_Pc [.ref mo, .int 0] (pcW D cy sa sz [(mo, .inr (12, [.int 0, .ref (ma 1), .int 0, .int 0, .int 0, .int 0, .int 0, .int 0, .int (-1), .ref (ma 9), .ref (ma 10), .ref (ma 11), .ref (ma 12), .ref (ma 13), .ref (ma 14), .ref (ma 15), .int 0, .int 0, .int 0, .ref (ma 19), .ref (ma 20), .ref (ma 21), .int 0, .ref (ma 23), .ref (ma 24), .ref (ma 25), .ref (ma 26), .ref (ma 27), .ref (ma 28), .int 0, .int 0, .int 0, .int 0, .ref (ma 33), .int (-1), .ref (ma 35), .int 0, .int 0])), ((ma 12), .inl (cy 0, 389, .inl sF))])) (va_Qi (fun (r : Int32) (u : SU) => (r = 0)) (fun u t => atW D (va_A [(mo, .inr (12, [.int 0, .ref (ma 1), .int 0, .int 0, .int 0, .int 0, .int 0, .int 0, .int (-1), .ref (ma 9), .ref (ma 10), .ref (ma 11), .ref (ma 12), .ref (ma 13), .ref (ma 14), .ref (ma 15), .int 0, .int 0, .int 0, .ref (ma 19), .ref (ma 20), .ref (ma 21), .int 0, .ref (ma 23), .ref (ma 24), .ref (ma 25), .ref (ma 26), .ref (ma 27), .ref (ma 28), .int 0, .int 0, .int 0, .int 0, .ref (ma 33), .int (-1), .ref (ma 35), .int 0, .int 0])), ((ma 12), .inl (cy 0, 389, .inl sF))] sz) [] t) (va_A [(mo, .inr (12, [.int 0, .ref (ma 1), .int 0, .int 0, .int 0, .int 0, .int 0, .int 0, .int (-1), .ref (ma 9), .ref (ma 10), .ref (ma 11), .ref (ma 12), .ref (ma 13), .ref (ma 14), .ref (ma 15), .int 0, .int 0, .int 0, .ref (ma 19), .ref (ma 20), .ref (ma 21), .int 0, .ref (ma 23), .ref (ma 24), .ref (ma 25), .ref (ma 26), .ref (ma 27), .ref (ma 28), .int 0, .int 0, .int 0, .int 0, .ref (ma 33), .int (-1), .ref (ma 35), .int 0, .int 0])), ((ma 12), .inl (cy 0, 389, .inl sF))] sz)) 0 0 (va_A [(mo, .inr (12, [.int 0, .ref (ma 1), .int 0, .int 0, .int 0, .int 0, .int 0, .int 0, .int (-1), .ref (ma 9), .ref (ma 10), .ref (ma 11), .ref (ma 12), .ref (ma 13), .ref (ma 14), .ref (ma 15), .int 0, .int 0, .int 0, .ref (ma 19), .ref (ma 20), .ref (ma 21), .int 0, .ref (ma 23), .ref (ma 24), .ref (ma 25), .ref (ma 26), .ref (ma 27), .ref (ma 28), .int 0, .int 0, .int 0, .int 0, .ref (ma 33), .int (-1), .ref (ma 35), .int 0, .int 0])), ((ma 12), .inl (cy 0, 389, .inl sF))] sz) := by
  refine Met.ofW (cc := cX12_count) (maxL := 2) (ret := (some .int)) (by decide) rfl ?_
  intro p e s m args below meth c s₁ B hml hv
  obtain ⟨rfl, hsz, hP, hG, hD0, hT⟩ := hv
  have hx := B.exec
  have hb := B.bytes
  have hr := B.returns
  have hts := atoms_spec (ws := vs_m_count0) B.pre
  have hown : s.vm.findClass RX12 = some m.cls := findClass_of_methodNamed B.named
  have hlocks := B.notSynchronized
  subst hsz
  have hD := hD0.self (sz := s.heap.size)
  generalize hAe : va_A [(mo, .inr (12, [.int 0, .ref (ma 1), .int 0, .int 0, .int 0, .int 0, .int 0, .int 0, .int (-1), .ref (ma 9), .ref (ma 10), .ref (ma 11), .ref (ma 12), .ref (ma 13), .ref (ma 14), .ref (ma 15), .int 0, .int 0, .int 0, .ref (ma 19), .ref (ma 20), .ref (ma 21), .int 0, .ref (ma 23), .ref (ma 24), .ref (ma 25), .ref (ma 26), .ref (ma 27), .ref (ma 28), .int 0, .int 0, .int 0, .int 0, .ref (ma 33), .int (-1), .ref (ma 35), .int 0, .int 0])), ((ma 12), .inl (cy 0, 389, .inl sF))] s.heap.size = A at hD hT ⊢
  have hA : ∀ q : Nat, s.heap.size ≤ q → A q := fun q h => by rw [← hAe]; exact Or.inr h
  have hS : va_S A s.heap s.heap [] := va_S.rf
  have hl0 := lv_entry ([.ref mo, .int 0]) (n := 2) (Nat.le_of_ble_eq_true rfl)
  rw [lg_entry_eq]
  generalize (lg_sl ([.ref mo, .int 0]) ++ List.replicate (2 - (lg_sl ([.ref mo, .int 0])).length) Slot.unset).toArray = ls at hl0 ⊢
  have hlv : lv_has ls 2 [(0, .ref mo), (1, .int 0)] := hl0
  have lf1 := hts (.fieldLink RX12 1 "KerbSplashModel" "thrown" "I") (List.mem_of_getElem? (i := 1) rfl)
  have hi12 : ∀ w ∈ wsX120, w ∈ vs_m_count0 := fun w h => List.mem_cons_of_mem _ (List.mem_append_right _ (List.mem_append_left _ h))
  have lf29 := hts (.fieldLink RX12 29 "KerbSplashModel" "s" "[I") (List.mem_of_getElem? (i := 2) rfl)
  refine lv_aload_n hx hb dX12_count_0 rfl (lv_at hlv 0 rfl) ?_
  refine lv_iconst (v := 0) hx hb dX12_count_1 (by decide) ?_
  refine va_put (D := D) (ci := 12) (v := .int 0) (ty := .int) (C := RX12) (T := TX12) (N := 38) hx hb hts hi12 tyX12 tyX12_ok nmX12 hown hG.1 hP hD hS 0 rfl rfl 0 (by decide) lf1 (fun _ h9 => h9) rfl (by decide +kernel) rfl rfl (Nat.le_of_ble_eq_true rfl) dX12_count_2 (fun H locs hP hD hS => ?_)
  have hP : va_P D vwCl [(mo, .inr (12, [.int 0, .ref (ma 1), .int 0, .int 0, .int 0, .int 0, .int 0, .int 0, .int (-1), .ref (ma 9), .ref (ma 10), .ref (ma 11), .ref (ma 12), .ref (ma 13), .ref (ma 14), .ref (ma 15), .int 0, .int 0, .int 0, .ref (ma 19), .ref (ma 20), .ref (ma 21), .int 0, .ref (ma 23), .ref (ma 24), .ref (ma 25), .ref (ma 26), .ref (ma 27), .ref (ma 28), .int 0, .int 0, .int 0, .int 0, .ref (ma 33), .int (-1), .ref (ma 35), .int 0, .int 0])), ((ma 12), .inl (cy 0, 389, .inl sF))] H := hP
  have hD : va_D A [(mo, .inr (12, [.int 0, .ref (ma 1), .int 0, .int 0, .int 0, .int 0, .int 0, .int 0, .int (-1), .ref (ma 9), .ref (ma 10), .ref (ma 11), .ref (ma 12), .ref (ma 13), .ref (ma 14), .ref (ma 15), .int 0, .int 0, .int 0, .ref (ma 19), .ref (ma 20), .ref (ma 21), .int 0, .ref (ma 23), .ref (ma 24), .ref (ma 25), .ref (ma 26), .ref (ma 27), .ref (ma 28), .int 0, .int 0, .int 0, .int 0, .ref (ma 33), .int (-1), .ref (ma 35), .int 0, .int 0])), ((ma 12), .inl (cy 0, 389, .inl sF))] := hD
  refine lv_iload_n hx hb dX12_count_5 rfl (lv_at hlv 1 rfl) ?_
  refine lv_if_ne (tgt := 20) hx hb dX12_count_6 (by decide) (fun c => absurd (by decide) c) (fun _ => ?_)
  refine lv_aload_n hx hb dX12_count_9 rfl (lv_at hlv 0 rfl) ?_
  refine va_get (D := D) (ci := 12) (v := .ref (ma 12)) (C := RX12) (T := TX12) (N := 38) hx hb hts hi12 hown hG.1 hP 0 rfl rfl 12 (by decide) lf29 (fun _ h9 => h9) rfl dX12_count_10 ?_
  refine lv_sipush (v := 252) hx hb dX12_count_13 (by decide) ?_
  refine va_iald hx hb hG.1 hP 1 0 rfl rfl (vpd (by decide)) dX12_count_16 ?_
  refine lt_i (y := 0) (by first | rfl | decide +kernel) ?_
  refine lv_goto (tgt := 61) hx hb dX12_count_17 (by decide) ?_
  refine W.widen (k := 0) (n := 0) (Nat.le_of_ble_eq_true rfl) (Nat.le_of_ble_eq_true rfl) ?_
  exact W.iret (v := 0) hx hb hr (fun t ht hW => ⟨⟨0, ((fun k => ([] : List Nat).getD k 0), (fun k => ([] : List Int32).getD k 0), (fun k => ([] : List (Nat → Int32)).getD k (fun _ => 0))), rfl, (by first | (exact (by rfl))), by rw [ht]; exact hP.sub [] rfl, hD.sub [] (by decide) rfl⟩, hS.F ht⟩) hS.2.2 dX12_count_61
def vs_m_count1 : List Cond := .code yX12_count cX12_count 2 (some .int) :: (([.fieldLink RX12 1 "KerbSplashModel" "thrown" "I", .fieldLink RX12 29 "KerbSplashModel" "s" "[I"] : List Cond) ++ ((wsX120) ++ ([])))
set_option maxHeartbeats 4000000 in
set_option maxRecDepth 100000 in
theorem m_count1 (l : Launch) (hl : l.stackTraces = false) (D : va_G) (cy : Nat → ClassId) (sa : Nat → Nat) (mo : Nat) (ma : Nat → Nat) (sz : Nat) : Met l yX12_count vs_m_count1 ({ frames := 0, cells := 0, slots := 0, locals := 0 }) (va_Pc [.ref mo, .int 1] (pcW D cy sa sz [(mo, .inr (12, [.int 0, .ref (ma 1), .int 0, .int 0, .int 0, .int 0, .int 0, .int 0, .int (-1), .ref (ma 9), .ref (ma 10), .ref (ma 11), .ref (ma 12), .ref (ma 13), .ref (ma 14), .ref (ma 15), .int 0, .int 0, .int 0, .ref (ma 19), .ref (ma 20), .ref (ma 21), .int 0, .ref (ma 23), .ref (ma 24), .ref (ma 25), .ref (ma 26), .ref (ma 27), .ref (ma 28), .int 0, .int 0, .int 0, .int 0, .ref (ma 33), .int (-1), .ref (ma 35), .int 0, .int 0])), ((ma 12), .inl (cy 0, 389, .inl sF))])) (va_Qi (fun (r : Int32) (u : SU) => (r = 0)) (fun u t => atW D (va_A [(mo, .inr (12, [.int 0, .ref (ma 1), .int 0, .int 0, .int 0, .int 0, .int 0, .int 0, .int (-1), .ref (ma 9), .ref (ma 10), .ref (ma 11), .ref (ma 12), .ref (ma 13), .ref (ma 14), .ref (ma 15), .int 0, .int 0, .int 0, .ref (ma 19), .ref (ma 20), .ref (ma 21), .int 0, .ref (ma 23), .ref (ma 24), .ref (ma 25), .ref (ma 26), .ref (ma 27), .ref (ma 28), .int 0, .int 0, .int 0, .int 0, .ref (ma 33), .int (-1), .ref (ma 35), .int 0, .int 0])), ((ma 12), .inl (cy 0, 389, .inl sF))] sz) [] t) (va_A [(mo, .inr (12, [.int 0, .ref (ma 1), .int 0, .int 0, .int 0, .int 0, .int 0, .int 0, .int (-1), .ref (ma 9), .ref (ma 10), .ref (ma 11), .ref (ma 12), .ref (ma 13), .ref (ma 14), .ref (ma 15), .int 0, .int 0, .int 0, .ref (ma 19), .ref (ma 20), .ref (ma 21), .int 0, .ref (ma 23), .ref (ma 24), .ref (ma 25), .ref (ma 26), .ref (ma 27), .ref (ma 28), .int 0, .int 0, .int 0, .int 0, .ref (ma 33), .int (-1), .ref (ma 35), .int 0, .int 0])), ((ma 12), .inl (cy 0, 389, .inl sF))] sz)) 0 0 (va_A [(mo, .inr (12, [.int 0, .ref (ma 1), .int 0, .int 0, .int 0, .int 0, .int 0, .int 0, .int (-1), .ref (ma 9), .ref (ma 10), .ref (ma 11), .ref (ma 12), .ref (ma 13), .ref (ma 14), .ref (ma 15), .int 0, .int 0, .int 0, .ref (ma 19), .ref (ma 20), .ref (ma 21), .int 0, .ref (ma 23), .ref (ma 24), .ref (ma 25), .ref (ma 26), .ref (ma 27), .ref (ma 28), .int 0, .int 0, .int 0, .int 0, .ref (ma 33), .int (-1), .ref (ma 35), .int 0, .int 0])), ((ma 12), .inl (cy 0, 389, .inl sF))] sz) := by
  refine Met.ofW (cc := cX12_count) (maxL := 2) (ret := (some .int)) (by decide) rfl ?_
  intro p e s m args below meth c s₁ B hml hv
  obtain ⟨rfl, hsz, hP, hG, hD0, hT⟩ := hv
  have hx := B.exec
  have hb := B.bytes
  have hr := B.returns
  have hts := atoms_spec (ws := vs_m_count1) B.pre
  have hown : s.vm.findClass RX12 = some m.cls := findClass_of_methodNamed B.named
  have hlocks := B.notSynchronized
  subst hsz
  have hD := hD0.self (sz := s.heap.size)
  generalize hAe : va_A [(mo, .inr (12, [.int 0, .ref (ma 1), .int 0, .int 0, .int 0, .int 0, .int 0, .int 0, .int (-1), .ref (ma 9), .ref (ma 10), .ref (ma 11), .ref (ma 12), .ref (ma 13), .ref (ma 14), .ref (ma 15), .int 0, .int 0, .int 0, .ref (ma 19), .ref (ma 20), .ref (ma 21), .int 0, .ref (ma 23), .ref (ma 24), .ref (ma 25), .ref (ma 26), .ref (ma 27), .ref (ma 28), .int 0, .int 0, .int 0, .int 0, .ref (ma 33), .int (-1), .ref (ma 35), .int 0, .int 0])), ((ma 12), .inl (cy 0, 389, .inl sF))] s.heap.size = A at hD hT ⊢
  have hA : ∀ q : Nat, s.heap.size ≤ q → A q := fun q h => by rw [← hAe]; exact Or.inr h
  have hS : va_S A s.heap s.heap [] := va_S.rf
  have hl0 := lv_entry ([.ref mo, .int 1]) (n := 2) (Nat.le_of_ble_eq_true rfl)
  rw [lg_entry_eq]
  generalize (lg_sl ([.ref mo, .int 1]) ++ List.replicate (2 - (lg_sl ([.ref mo, .int 1])).length) Slot.unset).toArray = ls at hl0 ⊢
  have hlv : lv_has ls 2 [(0, .ref mo), (1, .int 1)] := hl0
  have lf1 := hts (.fieldLink RX12 1 "KerbSplashModel" "thrown" "I") (List.mem_of_getElem? (i := 1) rfl)
  have hi12 : ∀ w ∈ wsX120, w ∈ vs_m_count1 := fun w h => List.mem_cons_of_mem _ (List.mem_append_right _ (List.mem_append_left _ h))
  have lf29 := hts (.fieldLink RX12 29 "KerbSplashModel" "s" "[I") (List.mem_of_getElem? (i := 2) rfl)
  refine lv_aload_n hx hb dX12_count_0 rfl (lv_at hlv 0 rfl) ?_
  refine lv_iconst (v := 0) hx hb dX12_count_1 (by decide) ?_
  refine va_put (D := D) (ci := 12) (v := .int 0) (ty := .int) (C := RX12) (T := TX12) (N := 38) hx hb hts hi12 tyX12 tyX12_ok nmX12 hown hG.1 hP hD hS 0 rfl rfl 0 (by decide) lf1 (fun _ h9 => h9) rfl (by decide +kernel) rfl rfl (Nat.le_of_ble_eq_true rfl) dX12_count_2 (fun H locs hP hD hS => ?_)
  have hP : va_P D vwCl [(mo, .inr (12, [.int 0, .ref (ma 1), .int 0, .int 0, .int 0, .int 0, .int 0, .int 0, .int (-1), .ref (ma 9), .ref (ma 10), .ref (ma 11), .ref (ma 12), .ref (ma 13), .ref (ma 14), .ref (ma 15), .int 0, .int 0, .int 0, .ref (ma 19), .ref (ma 20), .ref (ma 21), .int 0, .ref (ma 23), .ref (ma 24), .ref (ma 25), .ref (ma 26), .ref (ma 27), .ref (ma 28), .int 0, .int 0, .int 0, .int 0, .ref (ma 33), .int (-1), .ref (ma 35), .int 0, .int 0])), ((ma 12), .inl (cy 0, 389, .inl sF))] H := hP
  have hD : va_D A [(mo, .inr (12, [.int 0, .ref (ma 1), .int 0, .int 0, .int 0, .int 0, .int 0, .int 0, .int (-1), .ref (ma 9), .ref (ma 10), .ref (ma 11), .ref (ma 12), .ref (ma 13), .ref (ma 14), .ref (ma 15), .int 0, .int 0, .int 0, .ref (ma 19), .ref (ma 20), .ref (ma 21), .int 0, .ref (ma 23), .ref (ma 24), .ref (ma 25), .ref (ma 26), .ref (ma 27), .ref (ma 28), .int 0, .int 0, .int 0, .int 0, .ref (ma 33), .int (-1), .ref (ma 35), .int 0, .int 0])), ((ma 12), .inl (cy 0, 389, .inl sF))] := hD
  refine lv_iload_n hx hb dX12_count_5 rfl (lv_at hlv 1 rfl) ?_
  refine lv_if_ne (tgt := 20) hx hb dX12_count_6 (by decide) (fun _ => ?_) (fun c => absurd c (by decide))
  refine lv_iload_n hx hb dX12_count_20 rfl (lv_at hlv 1 rfl) ?_
  refine lv_iconst (v := 1) hx hb dX12_count_21 (by decide) ?_
  refine lv_icmp_ne (tgt := 36) hx hb dX12_count_22 (by decide) (fun c => absurd (by decide) c) (fun _ => ?_)
  refine lv_aload_n hx hb dX12_count_25 rfl (lv_at hlv 0 rfl) ?_
  refine va_get (D := D) (ci := 12) (v := .ref (ma 12)) (C := RX12) (T := TX12) (N := 38) hx hb hts hi12 hown hG.1 hP 0 rfl rfl 12 (by decide) lf29 (fun _ h9 => h9) rfl dX12_count_26 ?_
  refine lv_sipush (v := 357) hx hb dX12_count_29 (by decide) ?_
  refine va_iald hx hb hG.1 hP 1 0 rfl rfl (vpd (by decide)) dX12_count_32 ?_
  refine lt_i (y := 0) (by first | rfl | decide +kernel) ?_
  refine lv_goto (tgt := 61) hx hb dX12_count_33 (by decide) ?_
  refine W.widen (k := 0) (n := 0) (Nat.le_of_ble_eq_true rfl) (Nat.le_of_ble_eq_true rfl) ?_
  exact W.iret (v := 0) hx hb hr (fun t ht hW => ⟨⟨0, ((fun k => ([] : List Nat).getD k 0), (fun k => ([] : List Int32).getD k 0), (fun k => ([] : List (Nat → Int32)).getD k (fun _ => 0))), rfl, (by first | (exact (by rfl))), by rw [ht]; exact hP.sub [] rfl, hD.sub [] (by decide) rfl⟩, hS.F ht⟩) hS.2.2 dX12_count_61
def vs_m_count2 : List Cond := .code yX12_count cX12_count 2 (some .int) :: (([.fieldLink RX12 1 "KerbSplashModel" "thrown" "I", .fieldLink RX12 201 "KerbSplashModel" "images" "I"] : List Cond) ++ ((wsX120) ++ ([])))
set_option maxHeartbeats 4000000 in
set_option maxRecDepth 100000 in
theorem m_count2 (l : Launch) (hl : l.stackTraces = false) (D : va_G) (cy : Nat → ClassId) (sa : Nat → Nat) (mo : Nat) (ma : Nat → Nat) (sz : Nat) : Met l yX12_count vs_m_count2 ({ frames := 0, cells := 0, slots := 0, locals := 0 }) (va_Pc [.ref mo, .int 2] (pcW D cy sa sz [(mo, .inr (12, [.int 0, .ref (ma 1), .int 0, .int 0, .int 0, .int 0, .int 0, .int 0, .int (-1), .ref (ma 9), .ref (ma 10), .ref (ma 11), .ref (ma 12), .ref (ma 13), .ref (ma 14), .ref (ma 15), .int 0, .int 0, .int 0, .ref (ma 19), .ref (ma 20), .ref (ma 21), .int 0, .ref (ma 23), .ref (ma 24), .ref (ma 25), .ref (ma 26), .ref (ma 27), .ref (ma 28), .int 0, .int 0, .int 0, .int 0, .ref (ma 33), .int (-1), .ref (ma 35), .int 0, .int 0])), ((ma 12), .inl (cy 0, 389, .inl sF))])) (va_Qi (fun (r : Int32) (u : SU) => (r = 0)) (fun u t => atW D (va_A [(mo, .inr (12, [.int 0, .ref (ma 1), .int 0, .int 0, .int 0, .int 0, .int 0, .int 0, .int (-1), .ref (ma 9), .ref (ma 10), .ref (ma 11), .ref (ma 12), .ref (ma 13), .ref (ma 14), .ref (ma 15), .int 0, .int 0, .int 0, .ref (ma 19), .ref (ma 20), .ref (ma 21), .int 0, .ref (ma 23), .ref (ma 24), .ref (ma 25), .ref (ma 26), .ref (ma 27), .ref (ma 28), .int 0, .int 0, .int 0, .int 0, .ref (ma 33), .int (-1), .ref (ma 35), .int 0, .int 0])), ((ma 12), .inl (cy 0, 389, .inl sF))] sz) [] t) (va_A [(mo, .inr (12, [.int 0, .ref (ma 1), .int 0, .int 0, .int 0, .int 0, .int 0, .int 0, .int (-1), .ref (ma 9), .ref (ma 10), .ref (ma 11), .ref (ma 12), .ref (ma 13), .ref (ma 14), .ref (ma 15), .int 0, .int 0, .int 0, .ref (ma 19), .ref (ma 20), .ref (ma 21), .int 0, .ref (ma 23), .ref (ma 24), .ref (ma 25), .ref (ma 26), .ref (ma 27), .ref (ma 28), .int 0, .int 0, .int 0, .int 0, .ref (ma 33), .int (-1), .ref (ma 35), .int 0, .int 0])), ((ma 12), .inl (cy 0, 389, .inl sF))] sz)) 0 0 (va_A [(mo, .inr (12, [.int 0, .ref (ma 1), .int 0, .int 0, .int 0, .int 0, .int 0, .int 0, .int (-1), .ref (ma 9), .ref (ma 10), .ref (ma 11), .ref (ma 12), .ref (ma 13), .ref (ma 14), .ref (ma 15), .int 0, .int 0, .int 0, .ref (ma 19), .ref (ma 20), .ref (ma 21), .int 0, .ref (ma 23), .ref (ma 24), .ref (ma 25), .ref (ma 26), .ref (ma 27), .ref (ma 28), .int 0, .int 0, .int 0, .int 0, .ref (ma 33), .int (-1), .ref (ma 35), .int 0, .int 0])), ((ma 12), .inl (cy 0, 389, .inl sF))] sz) := by
  refine Met.ofW (cc := cX12_count) (maxL := 2) (ret := (some .int)) (by decide) rfl ?_
  intro p e s m args below meth c s₁ B hml hv
  obtain ⟨rfl, hsz, hP, hG, hD0, hT⟩ := hv
  have hx := B.exec
  have hb := B.bytes
  have hr := B.returns
  have hts := atoms_spec (ws := vs_m_count2) B.pre
  have hown : s.vm.findClass RX12 = some m.cls := findClass_of_methodNamed B.named
  have hlocks := B.notSynchronized
  subst hsz
  have hD := hD0.self (sz := s.heap.size)
  generalize hAe : va_A [(mo, .inr (12, [.int 0, .ref (ma 1), .int 0, .int 0, .int 0, .int 0, .int 0, .int 0, .int (-1), .ref (ma 9), .ref (ma 10), .ref (ma 11), .ref (ma 12), .ref (ma 13), .ref (ma 14), .ref (ma 15), .int 0, .int 0, .int 0, .ref (ma 19), .ref (ma 20), .ref (ma 21), .int 0, .ref (ma 23), .ref (ma 24), .ref (ma 25), .ref (ma 26), .ref (ma 27), .ref (ma 28), .int 0, .int 0, .int 0, .int 0, .ref (ma 33), .int (-1), .ref (ma 35), .int 0, .int 0])), ((ma 12), .inl (cy 0, 389, .inl sF))] s.heap.size = A at hD hT ⊢
  have hA : ∀ q : Nat, s.heap.size ≤ q → A q := fun q h => by rw [← hAe]; exact Or.inr h
  have hS : va_S A s.heap s.heap [] := va_S.rf
  have hl0 := lv_entry ([.ref mo, .int 2]) (n := 2) (Nat.le_of_ble_eq_true rfl)
  rw [lg_entry_eq]
  generalize (lg_sl ([.ref mo, .int 2]) ++ List.replicate (2 - (lg_sl ([.ref mo, .int 2])).length) Slot.unset).toArray = ls at hl0 ⊢
  have hlv : lv_has ls 2 [(0, .ref mo), (1, .int 2)] := hl0
  have lf1 := hts (.fieldLink RX12 1 "KerbSplashModel" "thrown" "I") (List.mem_of_getElem? (i := 1) rfl)
  have hi12 : ∀ w ∈ wsX120, w ∈ vs_m_count2 := fun w h => List.mem_cons_of_mem _ (List.mem_append_right _ (List.mem_append_left _ h))
  have lf201 := hts (.fieldLink RX12 201 "KerbSplashModel" "images" "I") (List.mem_of_getElem? (i := 2) rfl)
  refine lv_aload_n hx hb dX12_count_0 rfl (lv_at hlv 0 rfl) ?_
  refine lv_iconst (v := 0) hx hb dX12_count_1 (by decide) ?_
  refine va_put (D := D) (ci := 12) (v := .int 0) (ty := .int) (C := RX12) (T := TX12) (N := 38) hx hb hts hi12 tyX12 tyX12_ok nmX12 hown hG.1 hP hD hS 0 rfl rfl 0 (by decide) lf1 (fun _ h9 => h9) rfl (by decide +kernel) rfl rfl (Nat.le_of_ble_eq_true rfl) dX12_count_2 (fun H locs hP hD hS => ?_)
  have hP : va_P D vwCl [(mo, .inr (12, [.int 0, .ref (ma 1), .int 0, .int 0, .int 0, .int 0, .int 0, .int 0, .int (-1), .ref (ma 9), .ref (ma 10), .ref (ma 11), .ref (ma 12), .ref (ma 13), .ref (ma 14), .ref (ma 15), .int 0, .int 0, .int 0, .ref (ma 19), .ref (ma 20), .ref (ma 21), .int 0, .ref (ma 23), .ref (ma 24), .ref (ma 25), .ref (ma 26), .ref (ma 27), .ref (ma 28), .int 0, .int 0, .int 0, .int 0, .ref (ma 33), .int (-1), .ref (ma 35), .int 0, .int 0])), ((ma 12), .inl (cy 0, 389, .inl sF))] H := hP
  have hD : va_D A [(mo, .inr (12, [.int 0, .ref (ma 1), .int 0, .int 0, .int 0, .int 0, .int 0, .int 0, .int (-1), .ref (ma 9), .ref (ma 10), .ref (ma 11), .ref (ma 12), .ref (ma 13), .ref (ma 14), .ref (ma 15), .int 0, .int 0, .int 0, .ref (ma 19), .ref (ma 20), .ref (ma 21), .int 0, .ref (ma 23), .ref (ma 24), .ref (ma 25), .ref (ma 26), .ref (ma 27), .ref (ma 28), .int 0, .int 0, .int 0, .int 0, .ref (ma 33), .int (-1), .ref (ma 35), .int 0, .int 0])), ((ma 12), .inl (cy 0, 389, .inl sF))] := hD
  refine lv_iload_n hx hb dX12_count_5 rfl (lv_at hlv 1 rfl) ?_
  refine lv_if_ne (tgt := 20) hx hb dX12_count_6 (by decide) (fun _ => ?_) (fun c => absurd c (by decide))
  refine lv_iload_n hx hb dX12_count_20 rfl (lv_at hlv 1 rfl) ?_
  refine lv_iconst (v := 1) hx hb dX12_count_21 (by decide) ?_
  refine lv_icmp_ne (tgt := 36) hx hb dX12_count_22 (by decide) (fun _ => ?_) (fun c => absurd c (by decide))
  refine lv_iload_n hx hb dX12_count_36 rfl (lv_at hlv 1 rfl) ?_
  refine lv_iconst (v := 2) hx hb dX12_count_37 (by decide) ?_
  refine lv_icmp_ne (tgt := 48) hx hb dX12_count_38 (by decide) (fun c => absurd (by decide) c) (fun _ => ?_)
  refine lv_aload_n hx hb dX12_count_41 rfl (lv_at hlv 0 rfl) ?_
  refine va_get (D := D) (ci := 12) (v := .int 0) (C := RX12) (T := TX12) (N := 38) hx hb hts hi12 hown hG.1 hP 0 rfl rfl 16 (by decide) lf201 (fun _ h9 => h9) rfl dX12_count_42 ?_
  refine lv_goto (tgt := 61) hx hb dX12_count_45 (by decide) ?_
  refine W.widen (k := 0) (n := 0) (Nat.le_of_ble_eq_true rfl) (Nat.le_of_ble_eq_true rfl) ?_
  exact W.iret (v := 0) hx hb hr (fun t ht hW => ⟨⟨0, ((fun k => ([] : List Nat).getD k 0), (fun k => ([] : List Int32).getD k 0), (fun k => ([] : List (Nat → Int32)).getD k (fun _ => 0))), rfl, (by first | (exact (by rfl))), by rw [ht]; exact hP.sub [] rfl, hD.sub [] (by decide) rfl⟩, hS.F ht⟩) hS.2.2 dX12_count_61
def vs_m_count3 : List Cond := .code yX12_count cX12_count 2 (some .int) :: (([.fieldLink RX12 1 "KerbSplashModel" "thrown" "I", .fieldLink RX12 77 "KerbSplashModel" "taped" "I"] : List Cond) ++ ((wsX120) ++ ([])))
set_option maxHeartbeats 4000000 in
set_option maxRecDepth 100000 in
theorem m_count3 (l : Launch) (hl : l.stackTraces = false) (D : va_G) (cy : Nat → ClassId) (sa : Nat → Nat) (mo : Nat) (ma : Nat → Nat) (sz : Nat) : Met l yX12_count vs_m_count3 ({ frames := 0, cells := 0, slots := 0, locals := 0 }) (va_Pc [.ref mo, .int 3] (pcW D cy sa sz [(mo, .inr (12, [.int 0, .ref (ma 1), .int 0, .int 0, .int 0, .int 0, .int 0, .int 0, .int (-1), .ref (ma 9), .ref (ma 10), .ref (ma 11), .ref (ma 12), .ref (ma 13), .ref (ma 14), .ref (ma 15), .int 0, .int 0, .int 0, .ref (ma 19), .ref (ma 20), .ref (ma 21), .int 0, .ref (ma 23), .ref (ma 24), .ref (ma 25), .ref (ma 26), .ref (ma 27), .ref (ma 28), .int 0, .int 0, .int 0, .int 0, .ref (ma 33), .int (-1), .ref (ma 35), .int 0, .int 0])), ((ma 12), .inl (cy 0, 389, .inl sF))])) (va_Qi (fun (r : Int32) (u : SU) => (r = 0)) (fun u t => atW D (va_A [(mo, .inr (12, [.int 0, .ref (ma 1), .int 0, .int 0, .int 0, .int 0, .int 0, .int 0, .int (-1), .ref (ma 9), .ref (ma 10), .ref (ma 11), .ref (ma 12), .ref (ma 13), .ref (ma 14), .ref (ma 15), .int 0, .int 0, .int 0, .ref (ma 19), .ref (ma 20), .ref (ma 21), .int 0, .ref (ma 23), .ref (ma 24), .ref (ma 25), .ref (ma 26), .ref (ma 27), .ref (ma 28), .int 0, .int 0, .int 0, .int 0, .ref (ma 33), .int (-1), .ref (ma 35), .int 0, .int 0])), ((ma 12), .inl (cy 0, 389, .inl sF))] sz) [] t) (va_A [(mo, .inr (12, [.int 0, .ref (ma 1), .int 0, .int 0, .int 0, .int 0, .int 0, .int 0, .int (-1), .ref (ma 9), .ref (ma 10), .ref (ma 11), .ref (ma 12), .ref (ma 13), .ref (ma 14), .ref (ma 15), .int 0, .int 0, .int 0, .ref (ma 19), .ref (ma 20), .ref (ma 21), .int 0, .ref (ma 23), .ref (ma 24), .ref (ma 25), .ref (ma 26), .ref (ma 27), .ref (ma 28), .int 0, .int 0, .int 0, .int 0, .ref (ma 33), .int (-1), .ref (ma 35), .int 0, .int 0])), ((ma 12), .inl (cy 0, 389, .inl sF))] sz)) 0 0 (va_A [(mo, .inr (12, [.int 0, .ref (ma 1), .int 0, .int 0, .int 0, .int 0, .int 0, .int 0, .int (-1), .ref (ma 9), .ref (ma 10), .ref (ma 11), .ref (ma 12), .ref (ma 13), .ref (ma 14), .ref (ma 15), .int 0, .int 0, .int 0, .ref (ma 19), .ref (ma 20), .ref (ma 21), .int 0, .ref (ma 23), .ref (ma 24), .ref (ma 25), .ref (ma 26), .ref (ma 27), .ref (ma 28), .int 0, .int 0, .int 0, .int 0, .ref (ma 33), .int (-1), .ref (ma 35), .int 0, .int 0])), ((ma 12), .inl (cy 0, 389, .inl sF))] sz) := by
  refine Met.ofW (cc := cX12_count) (maxL := 2) (ret := (some .int)) (by decide) rfl ?_
  intro p e s m args below meth c s₁ B hml hv
  obtain ⟨rfl, hsz, hP, hG, hD0, hT⟩ := hv
  have hx := B.exec
  have hb := B.bytes
  have hr := B.returns
  have hts := atoms_spec (ws := vs_m_count3) B.pre
  have hown : s.vm.findClass RX12 = some m.cls := findClass_of_methodNamed B.named
  have hlocks := B.notSynchronized
  subst hsz
  have hD := hD0.self (sz := s.heap.size)
  generalize hAe : va_A [(mo, .inr (12, [.int 0, .ref (ma 1), .int 0, .int 0, .int 0, .int 0, .int 0, .int 0, .int (-1), .ref (ma 9), .ref (ma 10), .ref (ma 11), .ref (ma 12), .ref (ma 13), .ref (ma 14), .ref (ma 15), .int 0, .int 0, .int 0, .ref (ma 19), .ref (ma 20), .ref (ma 21), .int 0, .ref (ma 23), .ref (ma 24), .ref (ma 25), .ref (ma 26), .ref (ma 27), .ref (ma 28), .int 0, .int 0, .int 0, .int 0, .ref (ma 33), .int (-1), .ref (ma 35), .int 0, .int 0])), ((ma 12), .inl (cy 0, 389, .inl sF))] s.heap.size = A at hD hT ⊢
  have hA : ∀ q : Nat, s.heap.size ≤ q → A q := fun q h => by rw [← hAe]; exact Or.inr h
  have hS : va_S A s.heap s.heap [] := va_S.rf
  have hl0 := lv_entry ([.ref mo, .int 3]) (n := 2) (Nat.le_of_ble_eq_true rfl)
  rw [lg_entry_eq]
  generalize (lg_sl ([.ref mo, .int 3]) ++ List.replicate (2 - (lg_sl ([.ref mo, .int 3])).length) Slot.unset).toArray = ls at hl0 ⊢
  have hlv : lv_has ls 2 [(0, .ref mo), (1, .int 3)] := hl0
  have lf1 := hts (.fieldLink RX12 1 "KerbSplashModel" "thrown" "I") (List.mem_of_getElem? (i := 1) rfl)
  have hi12 : ∀ w ∈ wsX120, w ∈ vs_m_count3 := fun w h => List.mem_cons_of_mem _ (List.mem_append_right _ (List.mem_append_left _ h))
  have lf77 := hts (.fieldLink RX12 77 "KerbSplashModel" "taped" "I") (List.mem_of_getElem? (i := 2) rfl)
  refine lv_aload_n hx hb dX12_count_0 rfl (lv_at hlv 0 rfl) ?_
  refine lv_iconst (v := 0) hx hb dX12_count_1 (by decide) ?_
  refine va_put (D := D) (ci := 12) (v := .int 0) (ty := .int) (C := RX12) (T := TX12) (N := 38) hx hb hts hi12 tyX12 tyX12_ok nmX12 hown hG.1 hP hD hS 0 rfl rfl 0 (by decide) lf1 (fun _ h9 => h9) rfl (by decide +kernel) rfl rfl (Nat.le_of_ble_eq_true rfl) dX12_count_2 (fun H locs hP hD hS => ?_)
  have hP : va_P D vwCl [(mo, .inr (12, [.int 0, .ref (ma 1), .int 0, .int 0, .int 0, .int 0, .int 0, .int 0, .int (-1), .ref (ma 9), .ref (ma 10), .ref (ma 11), .ref (ma 12), .ref (ma 13), .ref (ma 14), .ref (ma 15), .int 0, .int 0, .int 0, .ref (ma 19), .ref (ma 20), .ref (ma 21), .int 0, .ref (ma 23), .ref (ma 24), .ref (ma 25), .ref (ma 26), .ref (ma 27), .ref (ma 28), .int 0, .int 0, .int 0, .int 0, .ref (ma 33), .int (-1), .ref (ma 35), .int 0, .int 0])), ((ma 12), .inl (cy 0, 389, .inl sF))] H := hP
  have hD : va_D A [(mo, .inr (12, [.int 0, .ref (ma 1), .int 0, .int 0, .int 0, .int 0, .int 0, .int 0, .int (-1), .ref (ma 9), .ref (ma 10), .ref (ma 11), .ref (ma 12), .ref (ma 13), .ref (ma 14), .ref (ma 15), .int 0, .int 0, .int 0, .ref (ma 19), .ref (ma 20), .ref (ma 21), .int 0, .ref (ma 23), .ref (ma 24), .ref (ma 25), .ref (ma 26), .ref (ma 27), .ref (ma 28), .int 0, .int 0, .int 0, .int 0, .ref (ma 33), .int (-1), .ref (ma 35), .int 0, .int 0])), ((ma 12), .inl (cy 0, 389, .inl sF))] := hD
  refine lv_iload_n hx hb dX12_count_5 rfl (lv_at hlv 1 rfl) ?_
  refine lv_if_ne (tgt := 20) hx hb dX12_count_6 (by decide) (fun _ => ?_) (fun c => absurd c (by decide))
  refine lv_iload_n hx hb dX12_count_20 rfl (lv_at hlv 1 rfl) ?_
  refine lv_iconst (v := 1) hx hb dX12_count_21 (by decide) ?_
  refine lv_icmp_ne (tgt := 36) hx hb dX12_count_22 (by decide) (fun _ => ?_) (fun c => absurd c (by decide))
  refine lv_iload_n hx hb dX12_count_36 rfl (lv_at hlv 1 rfl) ?_
  refine lv_iconst (v := 2) hx hb dX12_count_37 (by decide) ?_
  refine lv_icmp_ne (tgt := 48) hx hb dX12_count_38 (by decide) (fun _ => ?_) (fun c => absurd c (by decide))
  refine lv_iload_n hx hb dX12_count_48 rfl (lv_at hlv 1 rfl) ?_
  refine lv_iconst (v := 3) hx hb dX12_count_49 (by decide) ?_
  refine lv_icmp_ne (tgt := 60) hx hb dX12_count_50 (by decide) (fun c => absurd (by decide) c) (fun _ => ?_)
  refine lv_aload_n hx hb dX12_count_53 rfl (lv_at hlv 0 rfl) ?_
  refine va_get (D := D) (ci := 12) (v := .int 0) (C := RX12) (T := TX12) (N := 38) hx hb hts hi12 hown hG.1 hP 0 rfl rfl 2 (by decide) lf77 (fun _ h9 => h9) rfl dX12_count_54 ?_
  refine lv_goto (tgt := 61) hx hb dX12_count_57 (by decide) ?_
  refine W.widen (k := 0) (n := 0) (Nat.le_of_ble_eq_true rfl) (Nat.le_of_ble_eq_true rfl) ?_
  exact W.iret (v := 0) hx hb hr (fun t ht hW => ⟨⟨0, ((fun k => ([] : List Nat).getD k 0), (fun k => ([] : List Int32).getD k 0), (fun k => ([] : List (Nat → Int32)).getD k (fun _ => 0))), rfl, (by first | (exact (by rfl))), by rw [ht]; exact hP.sub [] rfl, hD.sub [] (by decide) rfl⟩, hS.F ht⟩) hS.2.2 dX12_count_61
def vs_m_countx : List Cond := .code yX12_count cX12_count 2 (some .int) :: (([.fieldLink RX12 1 "KerbSplashModel" "thrown" "I"] : List Cond) ++ ((wsX120) ++ ([])))
set_option maxHeartbeats 4000000 in
set_option maxRecDepth 100000 in
theorem m_countx (l : Launch) (hl : l.stackTraces = false) (D : va_G) (cy : Nat → ClassId) (sa : Nat → Nat) (mo : Nat) (ma : Nat → Nat) (p0 : Int32) (sz : Nat) (hn0 : ¬ (p0 = 0)) (hn1 : ¬ (p0 = 1)) (hn2 : ¬ (p0 = 2)) (hn3 : ¬ (p0 = 3)) : Met l yX12_count vs_m_countx ({ frames := 0, cells := 0, slots := 0, locals := 0 }) (va_Pc [.ref mo, .int p0] (pcW D cy sa sz [(mo, .inr (12, [.int 0, .ref (ma 1), .int 0, .int 0, .int 0, .int 0, .int 0, .int 0, .int (-1), .ref (ma 9), .ref (ma 10), .ref (ma 11), .ref (ma 12), .ref (ma 13), .ref (ma 14), .ref (ma 15), .int 0, .int 0, .int 0, .ref (ma 19), .ref (ma 20), .ref (ma 21), .int 0, .ref (ma 23), .ref (ma 24), .ref (ma 25), .ref (ma 26), .ref (ma 27), .ref (ma 28), .int 0, .int 0, .int 0, .int 0, .ref (ma 33), .int (-1), .ref (ma 35), .int 0, .int 0]))])) (va_Qi (fun (r : Int32) (u : SU) => (r = (-1))) (fun u t => atW D (va_A [(mo, .inr (12, [.int 0, .ref (ma 1), .int 0, .int 0, .int 0, .int 0, .int 0, .int 0, .int (-1), .ref (ma 9), .ref (ma 10), .ref (ma 11), .ref (ma 12), .ref (ma 13), .ref (ma 14), .ref (ma 15), .int 0, .int 0, .int 0, .ref (ma 19), .ref (ma 20), .ref (ma 21), .int 0, .ref (ma 23), .ref (ma 24), .ref (ma 25), .ref (ma 26), .ref (ma 27), .ref (ma 28), .int 0, .int 0, .int 0, .int 0, .ref (ma 33), .int (-1), .ref (ma 35), .int 0, .int 0]))] sz) [] t) (va_A [(mo, .inr (12, [.int 0, .ref (ma 1), .int 0, .int 0, .int 0, .int 0, .int 0, .int 0, .int (-1), .ref (ma 9), .ref (ma 10), .ref (ma 11), .ref (ma 12), .ref (ma 13), .ref (ma 14), .ref (ma 15), .int 0, .int 0, .int 0, .ref (ma 19), .ref (ma 20), .ref (ma 21), .int 0, .ref (ma 23), .ref (ma 24), .ref (ma 25), .ref (ma 26), .ref (ma 27), .ref (ma 28), .int 0, .int 0, .int 0, .int 0, .ref (ma 33), .int (-1), .ref (ma 35), .int 0, .int 0]))] sz)) 0 0 (va_A [(mo, .inr (12, [.int 0, .ref (ma 1), .int 0, .int 0, .int 0, .int 0, .int 0, .int 0, .int (-1), .ref (ma 9), .ref (ma 10), .ref (ma 11), .ref (ma 12), .ref (ma 13), .ref (ma 14), .ref (ma 15), .int 0, .int 0, .int 0, .ref (ma 19), .ref (ma 20), .ref (ma 21), .int 0, .ref (ma 23), .ref (ma 24), .ref (ma 25), .ref (ma 26), .ref (ma 27), .ref (ma 28), .int 0, .int 0, .int 0, .int 0, .ref (ma 33), .int (-1), .ref (ma 35), .int 0, .int 0]))] sz) := by
  refine Met.ofW (cc := cX12_count) (maxL := 2) (ret := (some .int)) (by decide) rfl ?_
  intro p e s m args below meth c s₁ B hml hv
  obtain ⟨rfl, hsz, hP, hG, hD0, hT⟩ := hv
  have hx := B.exec
  have hb := B.bytes
  have hr := B.returns
  have hts := atoms_spec (ws := vs_m_countx) B.pre
  have hown : s.vm.findClass RX12 = some m.cls := findClass_of_methodNamed B.named
  have hlocks := B.notSynchronized
  subst hsz
  have hD := hD0.self (sz := s.heap.size)
  generalize hAe : va_A [(mo, .inr (12, [.int 0, .ref (ma 1), .int 0, .int 0, .int 0, .int 0, .int 0, .int 0, .int (-1), .ref (ma 9), .ref (ma 10), .ref (ma 11), .ref (ma 12), .ref (ma 13), .ref (ma 14), .ref (ma 15), .int 0, .int 0, .int 0, .ref (ma 19), .ref (ma 20), .ref (ma 21), .int 0, .ref (ma 23), .ref (ma 24), .ref (ma 25), .ref (ma 26), .ref (ma 27), .ref (ma 28), .int 0, .int 0, .int 0, .int 0, .ref (ma 33), .int (-1), .ref (ma 35), .int 0, .int 0]))] s.heap.size = A at hD hT ⊢
  have hA : ∀ q : Nat, s.heap.size ≤ q → A q := fun q h => by rw [← hAe]; exact Or.inr h
  have hS : va_S A s.heap s.heap [] := va_S.rf
  have hl0 := lv_entry ([.ref mo, .int p0]) (n := 2) (Nat.le_of_ble_eq_true rfl)
  rw [lg_entry_eq]
  generalize (lg_sl ([.ref mo, .int p0]) ++ List.replicate (2 - (lg_sl ([.ref mo, .int p0])).length) Slot.unset).toArray = ls at hl0 ⊢
  have hlv : lv_has ls 2 [(0, .ref mo), (1, .int p0)] := hl0
  have lf1 := hts (.fieldLink RX12 1 "KerbSplashModel" "thrown" "I") (List.mem_of_getElem? (i := 1) rfl)
  have hi12 : ∀ w ∈ wsX120, w ∈ vs_m_countx := fun w h => List.mem_cons_of_mem _ (List.mem_append_right _ (List.mem_append_left _ h))
  refine lv_aload_n hx hb dX12_count_0 rfl (lv_at hlv 0 rfl) ?_
  refine lv_iconst (v := 0) hx hb dX12_count_1 (by decide) ?_
  refine va_put (D := D) (ci := 12) (v := .int 0) (ty := .int) (C := RX12) (T := TX12) (N := 38) hx hb hts hi12 tyX12 tyX12_ok nmX12 hown hG.1 hP hD hS 0 rfl rfl 0 (by decide) lf1 (fun _ h9 => h9) rfl (by decide +kernel) rfl rfl (Nat.le_of_ble_eq_true rfl) dX12_count_2 (fun H locs hP hD hS => ?_)
  have hP : va_P D vwCl [(mo, .inr (12, [.int 0, .ref (ma 1), .int 0, .int 0, .int 0, .int 0, .int 0, .int 0, .int (-1), .ref (ma 9), .ref (ma 10), .ref (ma 11), .ref (ma 12), .ref (ma 13), .ref (ma 14), .ref (ma 15), .int 0, .int 0, .int 0, .ref (ma 19), .ref (ma 20), .ref (ma 21), .int 0, .ref (ma 23), .ref (ma 24), .ref (ma 25), .ref (ma 26), .ref (ma 27), .ref (ma 28), .int 0, .int 0, .int 0, .int 0, .ref (ma 33), .int (-1), .ref (ma 35), .int 0, .int 0]))] H := hP
  have hD : va_D A [(mo, .inr (12, [.int 0, .ref (ma 1), .int 0, .int 0, .int 0, .int 0, .int 0, .int 0, .int (-1), .ref (ma 9), .ref (ma 10), .ref (ma 11), .ref (ma 12), .ref (ma 13), .ref (ma 14), .ref (ma 15), .int 0, .int 0, .int 0, .ref (ma 19), .ref (ma 20), .ref (ma 21), .int 0, .ref (ma 23), .ref (ma 24), .ref (ma 25), .ref (ma 26), .ref (ma 27), .ref (ma 28), .int 0, .int 0, .int 0, .int 0, .ref (ma 33), .int (-1), .ref (ma 35), .int 0, .int 0]))] := hD
  refine lv_iload_n hx hb dX12_count_5 rfl (lv_at hlv 1 rfl) ?_
  refine lv_if_ne (tgt := 20) hx hb dX12_count_6 (by decide) (fun _ => ?_) (fun c => absurd c hn0)
  refine lv_iload_n hx hb dX12_count_20 rfl (lv_at hlv 1 rfl) ?_
  refine lv_iconst (v := 1) hx hb dX12_count_21 (by decide) ?_
  refine lv_icmp_ne (tgt := 36) hx hb dX12_count_22 (by decide) (fun _ => ?_) (fun c => absurd c hn1)
  refine lv_iload_n hx hb dX12_count_36 rfl (lv_at hlv 1 rfl) ?_
  refine lv_iconst (v := 2) hx hb dX12_count_37 (by decide) ?_
  refine lv_icmp_ne (tgt := 48) hx hb dX12_count_38 (by decide) (fun _ => ?_) (fun c => absurd c hn2)
  refine lv_iload_n hx hb dX12_count_48 rfl (lv_at hlv 1 rfl) ?_
  refine lv_iconst (v := 3) hx hb dX12_count_49 (by decide) ?_
  refine lv_icmp_ne (tgt := 60) hx hb dX12_count_50 (by decide) (fun _ => ?_) (fun c => absurd c hn3)
  refine lv_iconst (v := (-1)) hx hb dX12_count_60 (by decide) ?_
  refine W.widen (k := 0) (n := 0) (Nat.le_of_ble_eq_true rfl) (Nat.le_of_ble_eq_true rfl) ?_
  exact W.iret (v := (-1)) hx hb hr (fun t ht hW => ⟨⟨(-1), ((fun k => ([] : List Nat).getD k 0), (fun k => ([] : List Int32).getD k 0), (fun k => ([] : List (Nat → Int32)).getD k (fun _ => 0))), rfl, (by first | (exact (by rfl))), by rw [ht]; exact hP.sub [] rfl, hD.sub [] (by decide) rfl⟩, hS.F ht⟩) hS.2.2 dX12_count_61
def vs_m_status : List Cond := .code yX12_status cX12_status 2 (some .int) :: (([.fieldLink RX12 1 "KerbSplashModel" "thrown" "I", .fieldLink RX12 7 "KerbSplashModel" "refused" "[I"] : List Cond) ++ ((wsX120) ++ ((va_wsS RX12 279 yX12_within vs_c_within) ++ ([]))))
set_option maxHeartbeats 4000000 in
set_option maxRecDepth 100000 in
theorem m_status (l : Launch) (hl : l.stackTraces = false) (D : va_G) (cy : Nat → ClassId) (sa : Nat → Nat) (mo : Nat) (ma : Nat → Nat) (p0 : Int32) (sz : Nat) : Met l yX12_status vs_m_status ({ frames := 1, cells := 0, slots := 0, locals := 22 }) (va_Pc [.ref mo, .int p0] (pcW D cy sa sz [(mo, .inr (12, [.int 0, .ref (ma 1), .int 0, .int 0, .int 0, .int 0, .int 0, .int 0, .int (-1), .ref (ma 9), .ref (ma 10), .ref (ma 11), .ref (ma 12), .ref (ma 13), .ref (ma 14), .ref (ma 15), .int 0, .int 0, .int 0, .ref (ma 19), .ref (ma 20), .ref (ma 21), .int 0, .ref (ma 23), .ref (ma 24), .ref (ma 25), .ref (ma 26), .ref (ma 27), .ref (ma 28), .int 0, .int 0, .int 0, .int 0, .ref (ma 33), .int (-1), .ref (ma 35), .int 0, .int 0])), ((ma 1), .inl (cy 0, 4, .inl (fun _ => 0)))])) (va_Qi (fun (r : Int32) (u : SU) => (((0 ≤ p0 ∧ p0 ≤ 3)) ∧ r = 0) ∨ ((¬ (0 ≤ p0 ∧ p0 ≤ 3)) ∧ r = (-1))) (fun u t => atW D (va_A [(mo, .inr (12, [.int 0, .ref (ma 1), .int 0, .int 0, .int 0, .int 0, .int 0, .int 0, .int (-1), .ref (ma 9), .ref (ma 10), .ref (ma 11), .ref (ma 12), .ref (ma 13), .ref (ma 14), .ref (ma 15), .int 0, .int 0, .int 0, .ref (ma 19), .ref (ma 20), .ref (ma 21), .int 0, .ref (ma 23), .ref (ma 24), .ref (ma 25), .ref (ma 26), .ref (ma 27), .ref (ma 28), .int 0, .int 0, .int 0, .int 0, .ref (ma 33), .int (-1), .ref (ma 35), .int 0, .int 0])), ((ma 1), .inl (cy 0, 4, .inl (fun _ => 0)))] sz) [] t) (va_A [(mo, .inr (12, [.int 0, .ref (ma 1), .int 0, .int 0, .int 0, .int 0, .int 0, .int 0, .int (-1), .ref (ma 9), .ref (ma 10), .ref (ma 11), .ref (ma 12), .ref (ma 13), .ref (ma 14), .ref (ma 15), .int 0, .int 0, .int 0, .ref (ma 19), .ref (ma 20), .ref (ma 21), .int 0, .ref (ma 23), .ref (ma 24), .ref (ma 25), .ref (ma 26), .ref (ma 27), .ref (ma 28), .int 0, .int 0, .int 0, .int 0, .ref (ma 33), .int (-1), .ref (ma 35), .int 0, .int 0])), ((ma 1), .inl (cy 0, 4, .inl (fun _ => 0)))] sz)) 0 0 (va_A [(mo, .inr (12, [.int 0, .ref (ma 1), .int 0, .int 0, .int 0, .int 0, .int 0, .int 0, .int (-1), .ref (ma 9), .ref (ma 10), .ref (ma 11), .ref (ma 12), .ref (ma 13), .ref (ma 14), .ref (ma 15), .int 0, .int 0, .int 0, .ref (ma 19), .ref (ma 20), .ref (ma 21), .int 0, .ref (ma 23), .ref (ma 24), .ref (ma 25), .ref (ma 26), .ref (ma 27), .ref (ma 28), .int 0, .int 0, .int 0, .int 0, .ref (ma 33), .int (-1), .ref (ma 35), .int 0, .int 0])), ((ma 1), .inl (cy 0, 4, .inl (fun _ => 0)))] sz) := by
  refine Met.ofW (cc := cX12_status) (maxL := 2) (ret := (some .int)) (by decide) rfl ?_
  intro p e s m args below meth c s₁ B hml hv
  obtain ⟨rfl, hsz, hP, hG, hD0, hT⟩ := hv
  have hx := B.exec
  have hb := B.bytes
  have hr := B.returns
  have hts := atoms_spec (ws := vs_m_status) B.pre
  have hown : s.vm.findClass RX12 = some m.cls := findClass_of_methodNamed B.named
  have hlocks := B.notSynchronized
  subst hsz
  have hD := hD0.self (sz := s.heap.size)
  generalize hAe : va_A [(mo, .inr (12, [.int 0, .ref (ma 1), .int 0, .int 0, .int 0, .int 0, .int 0, .int 0, .int (-1), .ref (ma 9), .ref (ma 10), .ref (ma 11), .ref (ma 12), .ref (ma 13), .ref (ma 14), .ref (ma 15), .int 0, .int 0, .int 0, .ref (ma 19), .ref (ma 20), .ref (ma 21), .int 0, .ref (ma 23), .ref (ma 24), .ref (ma 25), .ref (ma 26), .ref (ma 27), .ref (ma 28), .int 0, .int 0, .int 0, .int 0, .ref (ma 33), .int (-1), .ref (ma 35), .int 0, .int 0])), ((ma 1), .inl (cy 0, 4, .inl (fun _ => 0)))] s.heap.size = A at hD hT ⊢
  have hA : ∀ q : Nat, s.heap.size ≤ q → A q := fun q h => by rw [← hAe]; exact Or.inr h
  have hS : va_S A s.heap s.heap [] := va_S.rf
  have hl0 := lv_entry ([.ref mo, .int p0]) (n := 2) (Nat.le_of_ble_eq_true rfl)
  rw [lg_entry_eq]
  generalize (lg_sl ([.ref mo, .int p0]) ++ List.replicate (2 - (lg_sl ([.ref mo, .int p0])).length) Slot.unset).toArray = ls at hl0 ⊢
  have hlv : lv_has ls 2 [(0, .ref mo), (1, .int p0)] := hl0
  have lf1 := hts (.fieldLink RX12 1 "KerbSplashModel" "thrown" "I") (List.mem_of_getElem? (i := 1) rfl)
  have hi12 : ∀ w ∈ wsX120, w ∈ vs_m_status := fun w h => List.mem_cons_of_mem _ (List.mem_append_right _ (List.mem_append_left _ h))
  have gg_1 : GoodIn vs_m_status (va_wsS RX12 279 yX12_within vs_c_within) := goodIn_sub (fun w h => List.mem_cons_of_mem _ (List.mem_append_right _ (List.mem_append_right _ (List.mem_append_left _ h)))) (by decide +kernel)
  have lf7 := hts (.fieldLink RX12 7 "KerbSplashModel" "refused" "[I") (List.mem_of_getElem? (i := 2) rfl)
  refine lv_aload_n hx hb dX12_status_0 rfl (lv_at hlv 0 rfl) ?_
  refine lv_iconst (v := 0) hx hb dX12_status_1 (by decide) ?_
  refine va_put (D := D) (ci := 12) (v := .int 0) (ty := .int) (C := RX12) (T := TX12) (N := 38) hx hb hts hi12 tyX12 tyX12_ok nmX12 hown hG.1 hP hD hS 0 rfl rfl 0 (by decide) lf1 (fun _ h9 => h9) rfl (by decide +kernel) rfl rfl (Nat.le_of_ble_eq_true rfl) dX12_status_2 (fun H locs hP hD hS => ?_)
  have hP : va_P D vwCl [(mo, .inr (12, [.int 0, .ref (ma 1), .int 0, .int 0, .int 0, .int 0, .int 0, .int 0, .int (-1), .ref (ma 9), .ref (ma 10), .ref (ma 11), .ref (ma 12), .ref (ma 13), .ref (ma 14), .ref (ma 15), .int 0, .int 0, .int 0, .ref (ma 19), .ref (ma 20), .ref (ma 21), .int 0, .ref (ma 23), .ref (ma 24), .ref (ma 25), .ref (ma 26), .ref (ma 27), .ref (ma 28), .int 0, .int 0, .int 0, .int 0, .ref (ma 33), .int (-1), .ref (ma 35), .int 0, .int 0])), ((ma 1), .inl (cy 0, 4, .inl (fun _ => 0)))] H := hP
  have hD : va_D A [(mo, .inr (12, [.int 0, .ref (ma 1), .int 0, .int 0, .int 0, .int 0, .int 0, .int 0, .int (-1), .ref (ma 9), .ref (ma 10), .ref (ma 11), .ref (ma 12), .ref (ma 13), .ref (ma 14), .ref (ma 15), .int 0, .int 0, .int 0, .ref (ma 19), .ref (ma 20), .ref (ma 21), .int 0, .ref (ma 23), .ref (ma 24), .ref (ma 25), .ref (ma 26), .ref (ma 27), .ref (ma 28), .int 0, .int 0, .int 0, .int 0, .ref (ma 33), .int (-1), .ref (ma 35), .int 0, .int 0])), ((ma 1), .inl (cy 0, 4, .inl (fun _ => 0)))] := hD
  refine lv_iload_n hx hb dX12_status_5 rfl (lv_at hlv 1 rfl) ?_
  refine lv_iconst (v := 0) hx hb dX12_status_6 (by decide) ?_
  refine lv_iconst (v := 3) hx hb dX12_status_7 (by decide) ?_
  refine cj_i (wr := [(mo, .inr (12, [.int 0, .ref (ma 1), .int 0, .int 0, .int 0, .int 0, .int 0, .int 0, .int (-1), .ref (ma 9), .ref (ma 10), .ref (ma 11), .ref (ma 12), .ref (ma 13), .ref (ma 14), .ref (ma 15), .int 0, .int 0, .int 0, .ref (ma 19), .ref (ma 20), .ref (ma 21), .int 0, .ref (ma 23), .ref (ma 24), .ref (ma 25), .ref (ma 26), .ref (ma 27), .ref (ma 28), .int 0, .int 0, .int 0, .int 0, .ref (ma 33), .int (-1), .ref (ma 35), .int 0, .int 0])), ((ma 1), .inl (cy 0, 4, .inl (fun _ => 0)))]) (va_runS (As := [.int p0, .int 0, .int 3]) (rest := []) ⟨hx, hb, hml, hown, hts⟩ (c_within l hl D cy sa p0 0 3 H.size) (va_cwS 3 hts gg_1 rfl rfl rfl (by decide +kernel) ⟨Nat.le_of_ble_eq_true rfl, Nat.le_of_ble_eq_true rfl⟩) ⟨pcW.blind, (pcW.mk hP hD hS hA hG hT [] rfl (by decide))⟩ rfl rfl hlv.1 rfl (lv_room (Nat.le_of_ble_eq_true rfl)) dX12_status_8 ⟨Nat.le_of_ble_eq_true rfl, Nat.le_of_ble_eq_true rfl⟩) hP hD hS hA [] [0, 1] rfl rfl (by decide) (by decide) (fun r1 u1 H locs hw1 hP hD hS => ?_)
  rcases hw1 with ⟨hg1, rfl⟩ | ⟨hg1, rfl⟩
  · have hP : va_P D vwCl [(mo, .inr (12, [.int 0, .ref (ma 1), .int 0, .int 0, .int 0, .int 0, .int 0, .int 0, .int (-1), .ref (ma 9), .ref (ma 10), .ref (ma 11), .ref (ma 12), .ref (ma 13), .ref (ma 14), .ref (ma 15), .int 0, .int 0, .int 0, .ref (ma 19), .ref (ma 20), .ref (ma 21), .int 0, .ref (ma 23), .ref (ma 24), .ref (ma 25), .ref (ma 26), .ref (ma 27), .ref (ma 28), .int 0, .int 0, .int 0, .int 0, .ref (ma 33), .int (-1), .ref (ma 35), .int 0, .int 0])), ((ma 1), .inl (cy 0, 4, .inl (fun _ => 0)))] H := hP
    have hD : va_D A [(mo, .inr (12, [.int 0, .ref (ma 1), .int 0, .int 0, .int 0, .int 0, .int 0, .int 0, .int (-1), .ref (ma 9), .ref (ma 10), .ref (ma 11), .ref (ma 12), .ref (ma 13), .ref (ma 14), .ref (ma 15), .int 0, .int 0, .int 0, .ref (ma 19), .ref (ma 20), .ref (ma 21), .int 0, .ref (ma 23), .ref (ma 24), .ref (ma 25), .ref (ma 26), .ref (ma 27), .ref (ma 28), .int 0, .int 0, .int 0, .int 0, .ref (ma 33), .int (-1), .ref (ma 35), .int 0, .int 0])), ((ma 1), .inl (cy 0, 4, .inl (fun _ => 0)))] := hD
    refine lv_if_eq (tgt := 23) hx hb dX12_status_11 (by decide) (fun c => absurd c (by decide)) (fun _ => ?_)
    refine lv_aload_n hx hb dX12_status_14 rfl (lv_at hlv 0 rfl) ?_
    refine va_get (D := D) (ci := 12) (v := .ref (ma 1)) (C := RX12) (T := TX12) (N := 38) hx hb hts hi12 hown hG.1 hP 0 rfl rfl 1 (by decide) lf7 (fun _ h9 => h9) rfl dX12_status_15 ?_
    refine lv_iload_n hx hb dX12_status_18 rfl (lv_at hlv 1 rfl) ?_
    refine va_iald hx hb hG.1 hP 1 0 rfl rfl (inbd hg1 (by decide)) dX12_status_19 ?_
    refine lt_i (y := 0) rfl ?_
    refine lv_goto (tgt := 24) hx hb dX12_status_20 (by decide) ?_
    refine W.widen (k := 0) (n := 0) (Nat.le_of_ble_eq_true rfl) (Nat.le_of_ble_eq_true rfl) ?_
    exact W.iret (v := 0) hx hb hr (fun t ht hW => ⟨⟨0, ((fun k => ([] : List Nat).getD k 0), (fun k => ([] : List Int32).getD k 0), (fun k => ([] : List (Nat → Int32)).getD k (fun _ => 0))), rfl, (by first | (left; exact ⟨hg1, by rfl⟩)), by rw [ht]; exact hP.sub [] rfl, hD.sub [] (by decide) rfl⟩, hS.F ht⟩) hS.2.2 dX12_status_24
  · have hP : va_P D vwCl [(mo, .inr (12, [.int 0, .ref (ma 1), .int 0, .int 0, .int 0, .int 0, .int 0, .int 0, .int (-1), .ref (ma 9), .ref (ma 10), .ref (ma 11), .ref (ma 12), .ref (ma 13), .ref (ma 14), .ref (ma 15), .int 0, .int 0, .int 0, .ref (ma 19), .ref (ma 20), .ref (ma 21), .int 0, .ref (ma 23), .ref (ma 24), .ref (ma 25), .ref (ma 26), .ref (ma 27), .ref (ma 28), .int 0, .int 0, .int 0, .int 0, .ref (ma 33), .int (-1), .ref (ma 35), .int 0, .int 0])), ((ma 1), .inl (cy 0, 4, .inl (fun _ => 0)))] H := hP
    have hD : va_D A [(mo, .inr (12, [.int 0, .ref (ma 1), .int 0, .int 0, .int 0, .int 0, .int 0, .int 0, .int (-1), .ref (ma 9), .ref (ma 10), .ref (ma 11), .ref (ma 12), .ref (ma 13), .ref (ma 14), .ref (ma 15), .int 0, .int 0, .int 0, .ref (ma 19), .ref (ma 20), .ref (ma 21), .int 0, .ref (ma 23), .ref (ma 24), .ref (ma 25), .ref (ma 26), .ref (ma 27), .ref (ma 28), .int 0, .int 0, .int 0, .int 0, .ref (ma 33), .int (-1), .ref (ma 35), .int 0, .int 0])), ((ma 1), .inl (cy 0, 4, .inl (fun _ => 0)))] := hD
    refine lv_if_eq (tgt := 23) hx hb dX12_status_11 (by decide) (fun _ => ?_) (fun c => absurd (by decide) c)
    refine lv_iconst (v := (-1)) hx hb dX12_status_23 (by decide) ?_
    refine W.widen (k := 0) (n := 0) (Nat.le_of_ble_eq_true rfl) (Nat.le_of_ble_eq_true rfl) ?_
    exact W.iret (v := (-1)) hx hb hr (fun t ht hW => ⟨⟨(-1), ((fun k => ([] : List Nat).getD k 0), (fun k => ([] : List Int32).getD k 0), (fun k => ([] : List (Nat → Int32)).getD k (fun _ => 0))), rfl, (by first | (right; exact ⟨hg1, by rfl⟩)), by rw [ht]; exact hP.sub [] rfl, hD.sub [] (by decide) rfl⟩, hS.F ht⟩) hS.2.2 dX12_status_24
def vs_c_sweeps : List Cond := .code yX12_sweeps cX12_sweeps 10 none :: (([.fieldLink RX12 23 "KerbSplashModel" "b" "[I", .fieldLink RX12 409 "KerbSplashModel" "sweepFar" "I", .fieldLink RX12 412 "KerbSplashModel" "sweepRow" "I"] : List Cond) ++ ((wsX120) ++ ([])))
set_option maxHeartbeats 4000000 in
set_option maxRecDepth 100000 in
theorem c_sweeps (l : Launch) (hl : l.stackTraces = false) (D : va_G) (cy : Nat → ClassId) (sa : Nat → Nat) (mo : Nat) (ma : Nat → Nat) (sz : Nat) : Met l yX12_sweeps vs_c_sweeps ({ frames := 0, cells := 0, slots := 0, locals := 0 }) (va_Pc [.ref mo, .int 0, .int 0, .int 0, .int 0, .int 0] (pcW D cy sa sz [(mo, .inr (12, [.int 0, .ref (ma 1), .int 0, .int 0, .int 0, .int 0, .int 0, .int 0, .int (-1), .ref (ma 9), .ref (ma 10), .ref (ma 11), .ref (ma 12), .ref (ma 13), .ref (ma 14), .ref (ma 15), .int 0, .int 0, .int 0, .ref (ma 19), .ref (ma 20), .ref (ma 21), .int 0, .ref (ma 23), .ref (ma 24), .ref (ma 25), .ref (ma 26), .ref (ma 27), .ref (ma 28), .int 0, .int 0, .int 0, .int 0, .ref (ma 33), .int (-1), .ref (ma 35), .int (-1), .int 0])), ((ma 10), .inl (cy 0, 68, .inl (fun _ => 0)))])) (va_Qv (fun u : SU => (True)) (fun u t => atW D (va_A [(mo, .inr (12, [.int 0, .ref (ma 1), .int 0, .int 0, .int 0, .int 0, .int 0, .int 0, .int (-1), .ref (ma 9), .ref (ma 10), .ref (ma 11), .ref (ma 12), .ref (ma 13), .ref (ma 14), .ref (ma 15), .int 0, .int 0, .int 0, .ref (ma 19), .ref (ma 20), .ref (ma 21), .int 0, .ref (ma 23), .ref (ma 24), .ref (ma 25), .ref (ma 26), .ref (ma 27), .ref (ma 28), .int 0, .int 0, .int 0, .int 0, .ref (ma 33), .int (-1), .ref (ma 35), .int (-1), .int 0])), ((ma 10), .inl (cy 0, 68, .inl (fun _ => 0)))] sz) [(mo, .inr (12, [.int 0, .ref (ma 1), .int 0, .int 0, .int 0, .int 0, .int 0, .int 0, .int (-1), .ref (ma 9), .ref (ma 10), .ref (ma 11), .ref (ma 12), .ref (ma 13), .ref (ma 14), .ref (ma 15), .int 0, .int 0, .int 0, .ref (ma 19), .ref (ma 20), .ref (ma 21), .int 0, .ref (ma 23), .ref (ma 24), .ref (ma 25), .ref (ma 26), .ref (ma 27), .ref (ma 28), .int 0, .int 0, .int 0, .int 0, .ref (ma 33), .int (-1), .ref (ma 35), .int 0, .int 0]))] t) (va_A [(mo, .inr (12, [.int 0, .ref (ma 1), .int 0, .int 0, .int 0, .int 0, .int 0, .int 0, .int (-1), .ref (ma 9), .ref (ma 10), .ref (ma 11), .ref (ma 12), .ref (ma 13), .ref (ma 14), .ref (ma 15), .int 0, .int 0, .int 0, .ref (ma 19), .ref (ma 20), .ref (ma 21), .int 0, .ref (ma 23), .ref (ma 24), .ref (ma 25), .ref (ma 26), .ref (ma 27), .ref (ma 28), .int 0, .int 0, .int 0, .int 0, .ref (ma 33), .int (-1), .ref (ma 35), .int (-1), .int 0])), ((ma 10), .inl (cy 0, 68, .inl (fun _ => 0)))] sz)) 0 0 (va_A [(mo, .inr (12, [.int 0, .ref (ma 1), .int 0, .int 0, .int 0, .int 0, .int 0, .int 0, .int (-1), .ref (ma 9), .ref (ma 10), .ref (ma 11), .ref (ma 12), .ref (ma 13), .ref (ma 14), .ref (ma 15), .int 0, .int 0, .int 0, .ref (ma 19), .ref (ma 20), .ref (ma 21), .int 0, .ref (ma 23), .ref (ma 24), .ref (ma 25), .ref (ma 26), .ref (ma 27), .ref (ma 28), .int 0, .int 0, .int 0, .int 0, .ref (ma 33), .int (-1), .ref (ma 35), .int (-1), .int 0])), ((ma 10), .inl (cy 0, 68, .inl (fun _ => 0)))] sz) := by
  refine Met.ofW (cc := cX12_sweeps) (maxL := 10) (ret := none) (by decide) rfl ?_
  intro p e s m args below meth c s₁ B hml hv
  obtain ⟨rfl, hsz, hP, hG, hD0, hT⟩ := hv
  have hx := B.exec
  have hb := B.bytes
  have hr := B.returns
  have hts := atoms_spec (ws := vs_c_sweeps) B.pre
  have hown : s.vm.findClass RX12 = some m.cls := findClass_of_methodNamed B.named
  have hlocks := B.notSynchronized
  subst hsz
  have hD := hD0.self (sz := s.heap.size)
  generalize hAe : va_A [(mo, .inr (12, [.int 0, .ref (ma 1), .int 0, .int 0, .int 0, .int 0, .int 0, .int 0, .int (-1), .ref (ma 9), .ref (ma 10), .ref (ma 11), .ref (ma 12), .ref (ma 13), .ref (ma 14), .ref (ma 15), .int 0, .int 0, .int 0, .ref (ma 19), .ref (ma 20), .ref (ma 21), .int 0, .ref (ma 23), .ref (ma 24), .ref (ma 25), .ref (ma 26), .ref (ma 27), .ref (ma 28), .int 0, .int 0, .int 0, .int 0, .ref (ma 33), .int (-1), .ref (ma 35), .int (-1), .int 0])), ((ma 10), .inl (cy 0, 68, .inl (fun _ => 0)))] s.heap.size = A at hD hT ⊢
  have hA : ∀ q : Nat, s.heap.size ≤ q → A q := fun q h => by rw [← hAe]; exact Or.inr h
  have hS : va_S A s.heap s.heap [] := va_S.rf
  have hl0 := lv_entry ([.ref mo, .int 0, .int 0, .int 0, .int 0, .int 0]) (n := 10) (Nat.le_of_ble_eq_true rfl)
  rw [lg_entry_eq]
  generalize (lg_sl ([.ref mo, .int 0, .int 0, .int 0, .int 0, .int 0]) ++ List.replicate (10 - (lg_sl ([.ref mo, .int 0, .int 0, .int 0, .int 0, .int 0])).length) Slot.unset).toArray = ls at hl0 ⊢
  have hlv : lv_has ls 10 [(0, .ref mo), (1, .int 0), (2, .int 0), (3, .int 0), (4, .int 0), (5, .int 0)] := hl0
  have lf23 := hts (.fieldLink RX12 23 "KerbSplashModel" "b" "[I") (List.mem_of_getElem? (i := 1) rfl)
  have hi12 : ∀ w ∈ wsX120, w ∈ vs_c_sweeps := fun w h => List.mem_cons_of_mem _ (List.mem_append_right _ (List.mem_append_left _ h))
  have lf409 := hts (.fieldLink RX12 409 "KerbSplashModel" "sweepFar" "I") (List.mem_of_getElem? (i := 2) rfl)
  have lf412 := hts (.fieldLink RX12 412 "KerbSplashModel" "sweepRow" "I") (List.mem_of_getElem? (i := 3) rfl)
  refine lv_iconst (v := 0) hx hb dX12_sweeps_0 (by decide) ?_
  refine lv_istore (lv' := [(6, .int 0), (0, .ref mo), (1, .int 0), (2, .int 0), (3, .int 0), (4, .int 0), (5, .int 0)]) hx hb dX12_sweeps_1 hlv (by decide) rfl (fun ls hlv => ?_)
  refine lv_iconst (v := 0) hx hb dX12_sweeps_3 (by decide) ?_
  refine lv_istore (lv' := [(7, .int 0), (6, .int 0), (0, .ref mo), (1, .int 0), (2, .int 0), (3, .int 0), (4, .int 0), (5, .int 0)]) hx hb dX12_sweeps_4 hlv (by decide) rfl (fun ls hlv => ?_)
  refine lv_iload hx hb dX12_sweeps_6 (lv_at hlv 0 rfl) ?_
  refine lv_aload_n hx hb dX12_sweeps_8 rfl (lv_at hlv 2 rfl) ?_
  refine va_get (D := D) (ci := 12) (v := .ref (ma 10)) (C := RX12) (T := TX12) (N := 38) hx hb hts hi12 hown hG.1 hP 0 rfl rfl 10 (by decide) lf23 (fun _ h9 => h9) rfl dX12_sweeps_9 ?_
  refine lv_iconst (v := 2) hx hb dX12_sweeps_12 (by decide) ?_
  refine va_iald hx hb hG.1 hP 1 0 rfl rfl (vpd (by decide)) dX12_sweeps_13 ?_
  refine lt_i (y := 0) (by rfl) ?_
  refine lv_icmp_ge (tgt := 111) hx hb dX12_sweeps_14 (by decide) (fun _ => ?_) (fun c => absurd (by decide) c)
  refine lv_iload hx hb dX12_sweeps_111 (lv_at hlv 1 rfl) ?_
  refine lv_if_ne (tgt := 137) hx hb dX12_sweeps_113 (by decide) (fun c => absurd (by decide) c) (fun _ => ?_)
  refine lv_aload_n hx hb dX12_sweeps_116 rfl (lv_at hlv 2 rfl) ?_
  refine va_get (D := D) (ci := 12) (v := .int (-1)) (C := RX12) (T := TX12) (N := 38) hx hb hts hi12 hown hG.1 hP 0 rfl rfl 36 (by decide) lf409 (fun _ h9 => h9) rfl dX12_sweeps_117 ?_
  refine lv_iconst (v := (-1)) hx hb dX12_sweeps_120 (by decide) ?_
  refine lv_icmp_eq (tgt := 138) hx hb dX12_sweeps_121 (by decide) (fun _ => ?_) (fun c => absurd (by decide) c)
  refine lv_aload_n hx hb dX12_sweeps_138 rfl (lv_at hlv 2 rfl) ?_
  refine lv_iload hx hb dX12_sweeps_139 (lv_at hlv 6 rfl) ?_
  refine lv_iload_n hx hb dX12_sweeps_141 rfl (lv_at hlv 4 rfl) ?_
  refine lv_iadd hx hb dX12_sweeps_142 ?_
  refine lt_i (y := 0) (by decide) ?_
  refine lv_iload_n hx hb dX12_sweeps_143 rfl (lv_at hlv 5 rfl) ?_
  refine lv_iadd hx hb dX12_sweeps_144 ?_
  refine lt_i (y := 0) (by decide) ?_
  refine va_put (D := D) (ci := 12) (v := .int 0) (ty := .int) (C := RX12) (T := TX12) (N := 38) hx hb hts hi12 tyX12 tyX12_ok nmX12 hown hG.1 hP hD hS 0 rfl rfl 36 (by decide) lf409 (fun _ h9 => h9) rfl (by decide +kernel) rfl rfl (Nat.le_of_ble_eq_true rfl) dX12_sweeps_145 (fun H locs hP hD hS => ?_)
  have hP : va_P D vwCl [(mo, .inr (12, [.int 0, .ref (ma 1), .int 0, .int 0, .int 0, .int 0, .int 0, .int 0, .int (-1), .ref (ma 9), .ref (ma 10), .ref (ma 11), .ref (ma 12), .ref (ma 13), .ref (ma 14), .ref (ma 15), .int 0, .int 0, .int 0, .ref (ma 19), .ref (ma 20), .ref (ma 21), .int 0, .ref (ma 23), .ref (ma 24), .ref (ma 25), .ref (ma 26), .ref (ma 27), .ref (ma 28), .int 0, .int 0, .int 0, .int 0, .ref (ma 33), .int (-1), .ref (ma 35), .int 0, .int 0])), ((ma 10), .inl (cy 0, 68, .inl (fun _ => 0)))] H := hP
  have hD : va_D A [(mo, .inr (12, [.int 0, .ref (ma 1), .int 0, .int 0, .int 0, .int 0, .int 0, .int 0, .int (-1), .ref (ma 9), .ref (ma 10), .ref (ma 11), .ref (ma 12), .ref (ma 13), .ref (ma 14), .ref (ma 15), .int 0, .int 0, .int 0, .ref (ma 19), .ref (ma 20), .ref (ma 21), .int 0, .ref (ma 23), .ref (ma 24), .ref (ma 25), .ref (ma 26), .ref (ma 27), .ref (ma 28), .int 0, .int 0, .int 0, .int 0, .ref (ma 33), .int (-1), .ref (ma 35), .int 0, .int 0])), ((ma 10), .inl (cy 0, 68, .inl (fun _ => 0)))] := hD
  refine lv_aload_n hx hb dX12_sweeps_148 rfl (lv_at hlv 2 rfl) ?_
  refine lv_iload hx hb dX12_sweeps_149 (lv_at hlv 7 rfl) ?_
  refine va_put (D := D) (ci := 12) (v := .int 0) (ty := .int) (C := RX12) (T := TX12) (N := 38) hx hb hts hi12 tyX12 tyX12_ok nmX12 hown hG.1 hP hD hS 0 rfl rfl 37 (by decide) lf412 (fun _ h9 => h9) rfl (by decide +kernel) rfl rfl (Nat.le_of_ble_eq_true rfl) dX12_sweeps_151 (fun H locs hP hD hS => ?_)
  have hP : va_P D vwCl [(mo, .inr (12, [.int 0, .ref (ma 1), .int 0, .int 0, .int 0, .int 0, .int 0, .int 0, .int (-1), .ref (ma 9), .ref (ma 10), .ref (ma 11), .ref (ma 12), .ref (ma 13), .ref (ma 14), .ref (ma 15), .int 0, .int 0, .int 0, .ref (ma 19), .ref (ma 20), .ref (ma 21), .int 0, .ref (ma 23), .ref (ma 24), .ref (ma 25), .ref (ma 26), .ref (ma 27), .ref (ma 28), .int 0, .int 0, .int 0, .int 0, .ref (ma 33), .int (-1), .ref (ma 35), .int 0, .int 0])), ((ma 10), .inl (cy 0, 68, .inl (fun _ => 0)))] H := hP
  have hD : va_D A [(mo, .inr (12, [.int 0, .ref (ma 1), .int 0, .int 0, .int 0, .int 0, .int 0, .int 0, .int (-1), .ref (ma 9), .ref (ma 10), .ref (ma 11), .ref (ma 12), .ref (ma 13), .ref (ma 14), .ref (ma 15), .int 0, .int 0, .int 0, .ref (ma 19), .ref (ma 20), .ref (ma 21), .int 0, .ref (ma 23), .ref (ma 24), .ref (ma 25), .ref (ma 26), .ref (ma 27), .ref (ma 28), .int 0, .int 0, .int 0, .int 0, .ref (ma 33), .int (-1), .ref (ma 35), .int 0, .int 0])), ((ma 10), .inl (cy 0, 68, .inl (fun _ => 0)))] := hD
  refine W.widen (k := 0) (n := 0) (Nat.le_of_ble_eq_true rfl) (Nat.le_of_ble_eq_true rfl) ?_
  exact W.vret hx hb hr (fun t ht hW => ⟨⟨((fun k => ([] : List Nat).getD k 0), (fun k => ([] : List Int32).getD k 0), (fun k => ([] : List (Nat → Int32)).getD k (fun _ => 0))), rfl, (by first | (trivial)), by rw [ht]; exact hP.sub [0] rfl, hD.sub [0] (by decide) rfl⟩, hS.F ht⟩) hS.2.2 dX12_sweeps_154
def vs_m_sweep : List Cond := .code yX12_sweep cX12_sweep 2 (some .int) :: (([.fieldLink RX12 1 "KerbSplashModel" "thrown" "I", .fieldLink RX12 409 "KerbSplashModel" "sweepFar" "I", .fieldLink RX12 412 "KerbSplashModel" "sweepRow" "I"] : List Cond) ++ ((wsX120) ++ ((va_wsS RX12 279 yX12_within vs_c_within) ++ ((wsV RX12 175 RX12 yX12_may vs_c_may1) ++ ((wsV RX12 406 RX12 yX12_sweeps vs_c_sweeps) ++ ((wsV RX12 175 RX12 yX12_may vs_c_may0_2) ++ ([])))))))
set_option maxHeartbeats 4000000 in
set_option maxRecDepth 100000 in
theorem m_sweep (l : Launch) (hl : l.stackTraces = false) (D : va_G) (cy : Nat → ClassId) (sa : Nat → Nat) (mo : Nat) (ma : Nat → Nat) (p0 : Int32) (sz : Nat) : Met l yX12_sweep vs_m_sweep ({ frames := 1, cells := 0, slots := 0, locals := 29 }) (va_Pc [.ref mo, .int p0] (pcW D cy sa sz [(mo, .inr (12, [.int 0, .ref (ma 1), .int 0, .int 0, .int 0, .int 0, .int 0, .int 0, .int (-1), .ref (ma 9), .ref (ma 10), .ref (ma 11), .ref (ma 12), .ref (ma 13), .ref (ma 14), .ref (ma 15), .int 0, .int 0, .int 0, .ref (ma 19), .ref (ma 20), .ref (ma 21), .int 0, .ref (ma 23), .ref (ma 24), .ref (ma 25), .ref (ma 26), .ref (ma 27), .ref (ma 28), .int 0, .int 0, .int 0, .int 0, .ref (ma 33), .int (-1), .ref (ma 35), .int 0, .int 0])), ((ma 1), .inl (cy 0, 4, .inl (fun _ => 0))), ((ma 10), .inl (cy 0, 68, .inl (fun _ => 0)))])) (va_Qi (fun (r : Int32) (u : SU) => ((¬ (0 ≤ p0 ∧ p0 ≤ 1)) ∧ r = 0 ∧ (u.2.1 0) = 1) ∨ (((0 ≤ p0 ∧ p0 ≤ 1)) ∧ r = 0 ∧ (u.2.1 0) = 0)) (fun u t => atW D (va_A [(mo, .inr (12, [.int 0, .ref (ma 1), .int 0, .int 0, .int 0, .int 0, .int 0, .int 0, .int (-1), .ref (ma 9), .ref (ma 10), .ref (ma 11), .ref (ma 12), .ref (ma 13), .ref (ma 14), .ref (ma 15), .int 0, .int 0, .int 0, .ref (ma 19), .ref (ma 20), .ref (ma 21), .int 0, .ref (ma 23), .ref (ma 24), .ref (ma 25), .ref (ma 26), .ref (ma 27), .ref (ma 28), .int 0, .int 0, .int 0, .int 0, .ref (ma 33), .int (-1), .ref (ma 35), .int 0, .int 0])), ((ma 1), .inl (cy 0, 4, .inl (fun _ => 0))), ((ma 10), .inl (cy 0, 68, .inl (fun _ => 0)))] sz) [(mo, .inr (12, [.int (u.2.1 0), .ref (ma 1), .int 0, .int 0, .int 0, .int 0, .int 0, .int 0, .int (-1), .ref (ma 9), .ref (ma 10), .ref (ma 11), .ref (ma 12), .ref (ma 13), .ref (ma 14), .ref (ma 15), .int 0, .int 0, .int 0, .ref (ma 19), .ref (ma 20), .ref (ma 21), .int 0, .ref (ma 23), .ref (ma 24), .ref (ma 25), .ref (ma 26), .ref (ma 27), .ref (ma 28), .int 0, .int 0, .int 0, .int 0, .ref (ma 33), .int (-1), .ref (ma 35), .int 0, .int 0]))] t) (va_A [(mo, .inr (12, [.int 0, .ref (ma 1), .int 0, .int 0, .int 0, .int 0, .int 0, .int 0, .int (-1), .ref (ma 9), .ref (ma 10), .ref (ma 11), .ref (ma 12), .ref (ma 13), .ref (ma 14), .ref (ma 15), .int 0, .int 0, .int 0, .ref (ma 19), .ref (ma 20), .ref (ma 21), .int 0, .ref (ma 23), .ref (ma 24), .ref (ma 25), .ref (ma 26), .ref (ma 27), .ref (ma 28), .int 0, .int 0, .int 0, .int 0, .ref (ma 33), .int (-1), .ref (ma 35), .int 0, .int 0])), ((ma 1), .inl (cy 0, 4, .inl (fun _ => 0))), ((ma 10), .inl (cy 0, 68, .inl (fun _ => 0)))] sz)) 0 0 (va_A [(mo, .inr (12, [.int 0, .ref (ma 1), .int 0, .int 0, .int 0, .int 0, .int 0, .int 0, .int (-1), .ref (ma 9), .ref (ma 10), .ref (ma 11), .ref (ma 12), .ref (ma 13), .ref (ma 14), .ref (ma 15), .int 0, .int 0, .int 0, .ref (ma 19), .ref (ma 20), .ref (ma 21), .int 0, .ref (ma 23), .ref (ma 24), .ref (ma 25), .ref (ma 26), .ref (ma 27), .ref (ma 28), .int 0, .int 0, .int 0, .int 0, .ref (ma 33), .int (-1), .ref (ma 35), .int 0, .int 0])), ((ma 1), .inl (cy 0, 4, .inl (fun _ => 0))), ((ma 10), .inl (cy 0, 68, .inl (fun _ => 0)))] sz) := by
  refine Met.ofW (cc := cX12_sweep) (maxL := 2) (ret := (some .int)) (by decide) rfl ?_
  intro p e s m args below meth c s₁ B hml hv
  obtain ⟨rfl, hsz, hP, hG, hD0, hT⟩ := hv
  have hx := B.exec
  have hb := B.bytes
  have hr := B.returns
  have hts := atoms_spec (ws := vs_m_sweep) B.pre
  have hown : s.vm.findClass RX12 = some m.cls := findClass_of_methodNamed B.named
  have hlocks := B.notSynchronized
  subst hsz
  have hD := hD0.self (sz := s.heap.size)
  generalize hAe : va_A [(mo, .inr (12, [.int 0, .ref (ma 1), .int 0, .int 0, .int 0, .int 0, .int 0, .int 0, .int (-1), .ref (ma 9), .ref (ma 10), .ref (ma 11), .ref (ma 12), .ref (ma 13), .ref (ma 14), .ref (ma 15), .int 0, .int 0, .int 0, .ref (ma 19), .ref (ma 20), .ref (ma 21), .int 0, .ref (ma 23), .ref (ma 24), .ref (ma 25), .ref (ma 26), .ref (ma 27), .ref (ma 28), .int 0, .int 0, .int 0, .int 0, .ref (ma 33), .int (-1), .ref (ma 35), .int 0, .int 0])), ((ma 1), .inl (cy 0, 4, .inl (fun _ => 0))), ((ma 10), .inl (cy 0, 68, .inl (fun _ => 0)))] s.heap.size = A at hD hT ⊢
  have hA : ∀ q : Nat, s.heap.size ≤ q → A q := fun q h => by rw [← hAe]; exact Or.inr h
  have hS : va_S A s.heap s.heap [] := va_S.rf
  have hl0 := lv_entry ([.ref mo, .int p0]) (n := 2) (Nat.le_of_ble_eq_true rfl)
  rw [lg_entry_eq]
  generalize (lg_sl ([.ref mo, .int p0]) ++ List.replicate (2 - (lg_sl ([.ref mo, .int p0])).length) Slot.unset).toArray = ls at hl0 ⊢
  have hlv : lv_has ls 2 [(0, .ref mo), (1, .int p0)] := hl0
  have lf1 := hts (.fieldLink RX12 1 "KerbSplashModel" "thrown" "I") (List.mem_of_getElem? (i := 1) rfl)
  have hi12 : ∀ w ∈ wsX120, w ∈ vs_m_sweep := fun w h => List.mem_cons_of_mem _ (List.mem_append_right _ (List.mem_append_left _ h))
  have gg_1 : GoodIn vs_m_sweep (va_wsS RX12 279 yX12_within vs_c_within) := goodIn_sub (fun w h => List.mem_cons_of_mem _ (List.mem_append_right _ (List.mem_append_right _ (List.mem_append_left _ h)))) (by decide +kernel)
  have gg_2 : GoodIn vs_m_sweep (wsV RX12 175 RX12 yX12_may vs_c_may1) := goodIn_sub (fun w h => List.mem_cons_of_mem _ (List.mem_append_right _ (List.mem_append_right _ (List.mem_append_right _ (List.mem_append_left _ h))))) (by decide +kernel)
  have lf409 := hts (.fieldLink RX12 409 "KerbSplashModel" "sweepFar" "I") (List.mem_of_getElem? (i := 2) rfl)
  have gg_3 : GoodIn vs_m_sweep (wsV RX12 406 RX12 yX12_sweeps vs_c_sweeps) := goodIn_sub (fun w h => List.mem_cons_of_mem _ (List.mem_append_right _ (List.mem_append_right _ (List.mem_append_right _ (List.mem_append_right _ (List.mem_append_left _ h)))))) (by decide +kernel)
  have lf412 := hts (.fieldLink RX12 412 "KerbSplashModel" "sweepRow" "I") (List.mem_of_getElem? (i := 3) rfl)
  have gg_4 : GoodIn vs_m_sweep (wsV RX12 175 RX12 yX12_may vs_c_may0_2) := goodIn_sub (fun w h => List.mem_cons_of_mem _ (List.mem_append_right _ (List.mem_append_right _ (List.mem_append_right _ (List.mem_append_right _ (List.mem_append_right _ (List.mem_append_left _ h))))))) (by decide +kernel)
  refine lv_aload_n hx hb dX12_sweep_0 rfl (lv_at hlv 0 rfl) ?_
  refine lv_iconst (v := 0) hx hb dX12_sweep_1 (by decide) ?_
  refine va_put (D := D) (ci := 12) (v := .int 0) (ty := .int) (C := RX12) (T := TX12) (N := 38) hx hb hts hi12 tyX12 tyX12_ok nmX12 hown hG.1 hP hD hS 0 rfl rfl 0 (by decide) lf1 (fun _ h9 => h9) rfl (by decide +kernel) rfl rfl (Nat.le_of_ble_eq_true rfl) dX12_sweep_2 (fun H locs hP hD hS => ?_)
  have hP : va_P D vwCl [(mo, .inr (12, [.int 0, .ref (ma 1), .int 0, .int 0, .int 0, .int 0, .int 0, .int 0, .int (-1), .ref (ma 9), .ref (ma 10), .ref (ma 11), .ref (ma 12), .ref (ma 13), .ref (ma 14), .ref (ma 15), .int 0, .int 0, .int 0, .ref (ma 19), .ref (ma 20), .ref (ma 21), .int 0, .ref (ma 23), .ref (ma 24), .ref (ma 25), .ref (ma 26), .ref (ma 27), .ref (ma 28), .int 0, .int 0, .int 0, .int 0, .ref (ma 33), .int (-1), .ref (ma 35), .int 0, .int 0])), ((ma 1), .inl (cy 0, 4, .inl (fun _ => 0))), ((ma 10), .inl (cy 0, 68, .inl (fun _ => 0)))] H := hP
  have hD : va_D A [(mo, .inr (12, [.int 0, .ref (ma 1), .int 0, .int 0, .int 0, .int 0, .int 0, .int 0, .int (-1), .ref (ma 9), .ref (ma 10), .ref (ma 11), .ref (ma 12), .ref (ma 13), .ref (ma 14), .ref (ma 15), .int 0, .int 0, .int 0, .ref (ma 19), .ref (ma 20), .ref (ma 21), .int 0, .ref (ma 23), .ref (ma 24), .ref (ma 25), .ref (ma 26), .ref (ma 27), .ref (ma 28), .int 0, .int 0, .int 0, .int 0, .ref (ma 33), .int (-1), .ref (ma 35), .int 0, .int 0])), ((ma 1), .inl (cy 0, 4, .inl (fun _ => 0))), ((ma 10), .inl (cy 0, 68, .inl (fun _ => 0)))] := hD
  refine lv_aload_n hx hb dX12_sweep_5 rfl (lv_at hlv 0 rfl) ?_
  refine lv_iload_n hx hb dX12_sweep_6 rfl (lv_at hlv 1 rfl) ?_
  refine lv_iconst (v := 0) hx hb dX12_sweep_7 (by decide) ?_
  refine lv_iconst (v := 1) hx hb dX12_sweep_8 (by decide) ?_
  refine cj_i (wr := [(mo, .inr (12, [.int 0, .ref (ma 1), .int 0, .int 0, .int 0, .int 0, .int 0, .int 0, .int (-1), .ref (ma 9), .ref (ma 10), .ref (ma 11), .ref (ma 12), .ref (ma 13), .ref (ma 14), .ref (ma 15), .int 0, .int 0, .int 0, .ref (ma 19), .ref (ma 20), .ref (ma 21), .int 0, .ref (ma 23), .ref (ma 24), .ref (ma 25), .ref (ma 26), .ref (ma 27), .ref (ma 28), .int 0, .int 0, .int 0, .int 0, .ref (ma 33), .int (-1), .ref (ma 35), .int 0, .int 0])), ((ma 1), .inl (cy 0, 4, .inl (fun _ => 0))), ((ma 10), .inl (cy 0, 68, .inl (fun _ => 0)))]) (va_runS (As := [.int p0, .int 0, .int 1]) (rest := [.ref mo]) ⟨hx, hb, hml, hown, hts⟩ (c_within l hl D cy sa p0 0 1 H.size) (va_cwS 3 hts gg_1 rfl rfl rfl (by decide +kernel) ⟨Nat.le_of_ble_eq_true rfl, Nat.le_of_ble_eq_true rfl⟩) ⟨pcW.blind, (pcW.mk hP hD hS hA hG hT [] rfl (by decide))⟩ rfl rfl hlv.1 rfl (lv_room (Nat.le_of_ble_eq_true rfl)) dX12_sweep_9 ⟨Nat.le_of_ble_eq_true rfl, Nat.le_of_ble_eq_true rfl⟩) hP hD hS hA [] [0, 1, 2] rfl rfl (by decide) (by decide) (fun r1 u1 H locs hw1 hP hD hS => ?_)
  rcases hw1 with ⟨hg1, rfl⟩ | ⟨hg1, rfl⟩
  · have hP : va_P D vwCl [(mo, .inr (12, [.int 0, .ref (ma 1), .int 0, .int 0, .int 0, .int 0, .int 0, .int 0, .int (-1), .ref (ma 9), .ref (ma 10), .ref (ma 11), .ref (ma 12), .ref (ma 13), .ref (ma 14), .ref (ma 15), .int 0, .int 0, .int 0, .ref (ma 19), .ref (ma 20), .ref (ma 21), .int 0, .ref (ma 23), .ref (ma 24), .ref (ma 25), .ref (ma 26), .ref (ma 27), .ref (ma 28), .int 0, .int 0, .int 0, .int 0, .ref (ma 33), .int (-1), .ref (ma 35), .int 0, .int 0])), ((ma 1), .inl (cy 0, 4, .inl (fun _ => 0))), ((ma 10), .inl (cy 0, 68, .inl (fun _ => 0)))] H := hP
    have hD : va_D A [(mo, .inr (12, [.int 0, .ref (ma 1), .int 0, .int 0, .int 0, .int 0, .int 0, .int 0, .int (-1), .ref (ma 9), .ref (ma 10), .ref (ma 11), .ref (ma 12), .ref (ma 13), .ref (ma 14), .ref (ma 15), .int 0, .int 0, .int 0, .ref (ma 19), .ref (ma 20), .ref (ma 21), .int 0, .ref (ma 23), .ref (ma 24), .ref (ma 25), .ref (ma 26), .ref (ma 27), .ref (ma 28), .int 0, .int 0, .int 0, .int 0, .ref (ma 33), .int (-1), .ref (ma 35), .int 0, .int 0])), ((ma 1), .inl (cy 0, 4, .inl (fun _ => 0))), ((ma 10), .inl (cy 0, 68, .inl (fun _ => 0)))] := hD
    refine lv_iconst (v := 1) hx hb dX12_sweep_12 (by decide) ?_
    refine lv_iconst (v := 2) hx hb dX12_sweep_13 (by decide) ?_
    refine cj_i (wr := [((ma 1), .inl (cy 0, 4, .inl (fun _ => 0))), ((ma 10), .inl (cy 0, 68, .inl (fun _ => 0)))]) (va_runV (As := [.int 1, .int 1, .int 2]) (rest := []) ⟨hx, hb, hml, hown, hts⟩ (c_may1 l hl D cy sa mo ma 1 2 H.size) (cwV 3 hts gg_2 rfl rfl rfl (by decide +kernel) ⟨Nat.le_of_ble_eq_true rfl, Nat.le_of_ble_eq_true rfl⟩) ⟨pcW.blind, (va_recv hG.1 hP (ci := 12) (q0 := 0) rfl rfl), (pcW.mk hP hD hS hA hG hT [0] rfl (by decide))⟩ rfl rfl hlv.1 rfl (lv_room (Nat.le_of_ble_eq_true rfl)) dX12_sweep_14 ⟨Nat.le_of_ble_eq_true rfl, Nat.le_of_ble_eq_true rfl⟩) hP hD hS hA [0] [1, 2] rfl rfl (by decide) (by decide) (fun r2 u2 H locs hw2 hP hD hS => ?_)
    obtain rfl := hw2
    have hP : va_P D vwCl [((ma 1), .inl (cy 0, 4, .inl (fun _ => 0))), ((ma 10), .inl (cy 0, 68, .inl (fun _ => 0))), (mo, .inr (12, [.int 0, .ref (ma 1), .int 0, .int 0, .int 0, .int 0, .int 0, .int 0, .int (-1), .ref (ma 9), .ref (ma 10), .ref (ma 11), .ref (ma 12), .ref (ma 13), .ref (ma 14), .ref (ma 15), .int 0, .int 0, .int 0, .ref (ma 19), .ref (ma 20), .ref (ma 21), .int 0, .ref (ma 23), .ref (ma 24), .ref (ma 25), .ref (ma 26), .ref (ma 27), .ref (ma 28), .int 0, .int 0, .int 0, .int 0, .ref (ma 33), .int (-1), .ref (ma 35), .int 0, .int 0]))] H := hP
    have hD : va_D A [((ma 1), .inl (cy 0, 4, .inl (fun _ => 0))), ((ma 10), .inl (cy 0, 68, .inl (fun _ => 0))), (mo, .inr (12, [.int 0, .ref (ma 1), .int 0, .int 0, .int 0, .int 0, .int 0, .int 0, .int (-1), .ref (ma 9), .ref (ma 10), .ref (ma 11), .ref (ma 12), .ref (ma 13), .ref (ma 14), .ref (ma 15), .int 0, .int 0, .int 0, .ref (ma 19), .ref (ma 20), .ref (ma 21), .int 0, .ref (ma 23), .ref (ma 24), .ref (ma 25), .ref (ma 26), .ref (ma 27), .ref (ma 28), .int 0, .int 0, .int 0, .int 0, .ref (ma 33), .int (-1), .ref (ma 35), .int 0, .int 0]))] := hD
    refine lv_if_ne (tgt := 22) hx hb dX12_sweep_17 (by decide) (fun _ => ?_) (fun c => absurd c (by decide))
    refine lv_aload_n hx hb dX12_sweep_22 rfl (lv_at hlv 0 rfl) ?_
    refine lv_iconst (v := (-1)) hx hb dX12_sweep_23 (by decide) ?_
    refine va_put (D := D) (ci := 12) (v := .int (-1)) (ty := .int) (C := RX12) (T := TX12) (N := 38) hx hb hts hi12 tyX12 tyX12_ok nmX12 hown hG.1 hP hD hS 2 rfl rfl 36 (by decide) lf409 (fun _ h9 => h9) rfl (by decide +kernel) rfl rfl (Nat.le_of_ble_eq_true rfl) dX12_sweep_24 (fun H locs hP hD hS => ?_)
    have hP : va_P D vwCl [((ma 1), .inl (cy 0, 4, .inl (fun _ => 0))), ((ma 10), .inl (cy 0, 68, .inl (fun _ => 0))), (mo, .inr (12, [.int 0, .ref (ma 1), .int 0, .int 0, .int 0, .int 0, .int 0, .int 0, .int (-1), .ref (ma 9), .ref (ma 10), .ref (ma 11), .ref (ma 12), .ref (ma 13), .ref (ma 14), .ref (ma 15), .int 0, .int 0, .int 0, .ref (ma 19), .ref (ma 20), .ref (ma 21), .int 0, .ref (ma 23), .ref (ma 24), .ref (ma 25), .ref (ma 26), .ref (ma 27), .ref (ma 28), .int 0, .int 0, .int 0, .int 0, .ref (ma 33), .int (-1), .ref (ma 35), .int (-1), .int 0]))] H := hP
    have hD : va_D A [((ma 1), .inl (cy 0, 4, .inl (fun _ => 0))), ((ma 10), .inl (cy 0, 68, .inl (fun _ => 0))), (mo, .inr (12, [.int 0, .ref (ma 1), .int 0, .int 0, .int 0, .int 0, .int 0, .int 0, .int (-1), .ref (ma 9), .ref (ma 10), .ref (ma 11), .ref (ma 12), .ref (ma 13), .ref (ma 14), .ref (ma 15), .int 0, .int 0, .int 0, .ref (ma 19), .ref (ma 20), .ref (ma 21), .int 0, .ref (ma 23), .ref (ma 24), .ref (ma 25), .ref (ma 26), .ref (ma 27), .ref (ma 28), .int 0, .int 0, .int 0, .int 0, .ref (ma 33), .int (-1), .ref (ma 35), .int (-1), .int 0]))] := hD
    refine lv_aload_n hx hb dX12_sweep_27 rfl (lv_at hlv 0 rfl) ?_
    refine lv_iconst (v := 0) hx hb dX12_sweep_28 (by decide) ?_
    refine lv_iconst (v := 0) hx hb dX12_sweep_29 (by decide) ?_
    refine lv_iconst (v := 0) hx hb dX12_sweep_30 (by decide) ?_
    refine lv_iconst (v := 0) hx hb dX12_sweep_31 (by decide) ?_
    refine lv_iconst (v := 0) hx hb dX12_sweep_32 (by decide) ?_
    refine cj_v (wr := [((ma 1), .inl (cy 0, 4, .inl (fun _ => 0)))]) (va_runV (As := [.int 0, .int 0, .int 0, .int 0, .int 0]) (rest := []) ⟨hx, hb, hml, hown, hts⟩ (c_sweeps l hl D cy sa mo ma H.size) (cwV 5 hts gg_3 rfl rfl rfl (by decide +kernel) ⟨Nat.le_of_ble_eq_true rfl, Nat.le_of_ble_eq_true rfl⟩) ⟨pcW.blind, (va_recv hG.1 hP (ci := 12) (q0 := 2) rfl rfl), (pcW.mk hP hD hS hA hG hT [2, 1] rfl (by decide))⟩ rfl rfl hlv.1 rfl (lv_room (Nat.le_of_ble_eq_true rfl)) dX12_sweep_33 ⟨Nat.le_of_ble_eq_true rfl, Nat.le_of_ble_eq_true rfl⟩) hP hD hS hA [2, 1] [0] rfl rfl (by decide) (by decide) (fun u3 H locs hw3 hP hD hS => ?_)
    have hP : va_P D vwCl [((ma 1), .inl (cy 0, 4, .inl (fun _ => 0))), (mo, .inr (12, [.int 0, .ref (ma 1), .int 0, .int 0, .int 0, .int 0, .int 0, .int 0, .int (-1), .ref (ma 9), .ref (ma 10), .ref (ma 11), .ref (ma 12), .ref (ma 13), .ref (ma 14), .ref (ma 15), .int 0, .int 0, .int 0, .ref (ma 19), .ref (ma 20), .ref (ma 21), .int 0, .ref (ma 23), .ref (ma 24), .ref (ma 25), .ref (ma 26), .ref (ma 27), .ref (ma 28), .int 0, .int 0, .int 0, .int 0, .ref (ma 33), .int (-1), .ref (ma 35), .int 0, .int 0]))] H := hP
    have hD : va_D A [((ma 1), .inl (cy 0, 4, .inl (fun _ => 0))), (mo, .inr (12, [.int 0, .ref (ma 1), .int 0, .int 0, .int 0, .int 0, .int 0, .int 0, .int (-1), .ref (ma 9), .ref (ma 10), .ref (ma 11), .ref (ma 12), .ref (ma 13), .ref (ma 14), .ref (ma 15), .int 0, .int 0, .int 0, .ref (ma 19), .ref (ma 20), .ref (ma 21), .int 0, .ref (ma 23), .ref (ma 24), .ref (ma 25), .ref (ma 26), .ref (ma 27), .ref (ma 28), .int 0, .int 0, .int 0, .int 0, .ref (ma 33), .int (-1), .ref (ma 35), .int 0, .int 0]))] := hD
    refine lv_iload_n hx hb dX12_sweep_36 rfl (lv_at hlv 1 rfl) ?_
    refine lv_if_ne (tgt := 47) hx hb dX12_sweep_37 (by decide) (fun c_1 => ?_) (fun c_1 => ?_)
    · refine lv_aload_n hx hb dX12_sweep_47 rfl (lv_at hlv 0 rfl) ?_
      refine va_get (D := D) (ci := 12) (v := .int 0) (C := RX12) (T := TX12) (N := 38) hx hb hts hi12 hown hG.1 hP 1 rfl rfl 37 (by decide) lf412 (fun _ h9 => h9) rfl dX12_sweep_48 ?_
      refine W.widen (k := 0) (n := 0) (Nat.le_of_ble_eq_true rfl) (Nat.le_of_ble_eq_true rfl) ?_
      exact W.iret (v := 0) hx hb hr (fun t ht hW => ⟨⟨0, ((fun k => ([] : List Nat).getD k 0), (fun k => ([0] : List Int32).getD k 0), (fun k => ([] : List (Nat → Int32)).getD k (fun _ => 0))), rfl, (by first | (right; exact ⟨hg1, by rfl, by rfl⟩)), by rw [ht]; exact hP.sub [1] rfl, hD.sub [1] (by decide) rfl⟩, hS.F ht⟩) hS.2.2 dX12_sweep_51
    · refine lv_aload_n hx hb dX12_sweep_40 rfl (lv_at hlv 0 rfl) ?_
      refine va_get (D := D) (ci := 12) (v := .int 0) (C := RX12) (T := TX12) (N := 38) hx hb hts hi12 hown hG.1 hP 1 rfl rfl 36 (by decide) lf409 (fun _ h9 => h9) rfl dX12_sweep_41 ?_
      refine lv_goto (tgt := 51) hx hb dX12_sweep_44 (by decide) ?_
      refine W.widen (k := 0) (n := 0) (Nat.le_of_ble_eq_true rfl) (Nat.le_of_ble_eq_true rfl) ?_
      exact W.iret (v := 0) hx hb hr (fun t ht hW => ⟨⟨0, ((fun k => ([] : List Nat).getD k 0), (fun k => ([0] : List Int32).getD k 0), (fun k => ([] : List (Nat → Int32)).getD k (fun _ => 0))), rfl, (by first | (right; exact ⟨hg1, by rfl, by rfl⟩)), by rw [ht]; exact hP.sub [1] rfl, hD.sub [1] (by decide) rfl⟩, hS.F ht⟩) hS.2.2 dX12_sweep_51
  · have hP : va_P D vwCl [(mo, .inr (12, [.int 0, .ref (ma 1), .int 0, .int 0, .int 0, .int 0, .int 0, .int 0, .int (-1), .ref (ma 9), .ref (ma 10), .ref (ma 11), .ref (ma 12), .ref (ma 13), .ref (ma 14), .ref (ma 15), .int 0, .int 0, .int 0, .ref (ma 19), .ref (ma 20), .ref (ma 21), .int 0, .ref (ma 23), .ref (ma 24), .ref (ma 25), .ref (ma 26), .ref (ma 27), .ref (ma 28), .int 0, .int 0, .int 0, .int 0, .ref (ma 33), .int (-1), .ref (ma 35), .int 0, .int 0])), ((ma 1), .inl (cy 0, 4, .inl (fun _ => 0))), ((ma 10), .inl (cy 0, 68, .inl (fun _ => 0)))] H := hP
    have hD : va_D A [(mo, .inr (12, [.int 0, .ref (ma 1), .int 0, .int 0, .int 0, .int 0, .int 0, .int 0, .int (-1), .ref (ma 9), .ref (ma 10), .ref (ma 11), .ref (ma 12), .ref (ma 13), .ref (ma 14), .ref (ma 15), .int 0, .int 0, .int 0, .ref (ma 19), .ref (ma 20), .ref (ma 21), .int 0, .ref (ma 23), .ref (ma 24), .ref (ma 25), .ref (ma 26), .ref (ma 27), .ref (ma 28), .int 0, .int 0, .int 0, .int 0, .ref (ma 33), .int (-1), .ref (ma 35), .int 0, .int 0])), ((ma 1), .inl (cy 0, 4, .inl (fun _ => 0))), ((ma 10), .inl (cy 0, 68, .inl (fun _ => 0)))] := hD
    refine lv_iconst (v := 1) hx hb dX12_sweep_12 (by decide) ?_
    refine lv_iconst (v := 2) hx hb dX12_sweep_13 (by decide) ?_
    refine cj_i (wr := [((ma 10), .inl (cy 0, 68, .inl (fun _ => 0)))]) (va_runV (As := [.int 0, .int 1, .int 2]) (rest := []) ⟨hx, hb, hml, hown, hts⟩ (c_may0_2 l hl D cy sa mo ma 1 H.size (by decide)) (cwV 3 hts gg_4 rfl rfl rfl (by decide +kernel) ⟨Nat.le_of_ble_eq_true rfl, Nat.le_of_ble_eq_true rfl⟩) ⟨pcW.blind, (va_recv hG.1 hP (ci := 12) (q0 := 0) rfl rfl), (pcW.mk hP hD hS hA hG hT [0, 1] rfl (by decide))⟩ rfl rfl hlv.1 rfl (lv_room (Nat.le_of_ble_eq_true rfl)) dX12_sweep_14 ⟨Nat.le_of_ble_eq_true rfl, Nat.le_of_ble_eq_true rfl⟩) hP hD hS hA [0, 1] [2] rfl rfl (by decide) (by decide) (fun r4 u4 H locs hw4 hP hD hS => ?_)
    obtain rfl := hw4
    have hP : va_P D vwCl [((ma 10), .inl (cy 0, 68, .inl (fun _ => 0))), (mo, .inr (12, [.int 1, .ref (ma 1), .int 0, .int 0, .int 0, .int 0, .int 0, .int 0, .int (-1), .ref (ma 9), .ref (ma 10), .ref (ma 11), .ref (ma 12), .ref (ma 13), .ref (ma 14), .ref (ma 15), .int 0, .int 0, .int 0, .ref (ma 19), .ref (ma 20), .ref (ma 21), .int 0, .ref (ma 23), .ref (ma 24), .ref (ma 25), .ref (ma 26), .ref (ma 27), .ref (ma 28), .int 0, .int 0, .int 0, .int 0, .ref (ma 33), .int (-1), .ref (ma 35), .int 0, .int 0]))] H := hP
    have hD : va_D A [((ma 10), .inl (cy 0, 68, .inl (fun _ => 0))), (mo, .inr (12, [.int 1, .ref (ma 1), .int 0, .int 0, .int 0, .int 0, .int 0, .int 0, .int (-1), .ref (ma 9), .ref (ma 10), .ref (ma 11), .ref (ma 12), .ref (ma 13), .ref (ma 14), .ref (ma 15), .int 0, .int 0, .int 0, .ref (ma 19), .ref (ma 20), .ref (ma 21), .int 0, .ref (ma 23), .ref (ma 24), .ref (ma 25), .ref (ma 26), .ref (ma 27), .ref (ma 28), .int 0, .int 0, .int 0, .int 0, .ref (ma 33), .int (-1), .ref (ma 35), .int 0, .int 0]))] := hD
    refine lv_if_ne (tgt := 22) hx hb dX12_sweep_17 (by decide) (fun c => absurd (by decide) c) (fun _ => ?_)
    refine lv_iconst (v := 0) hx hb dX12_sweep_20 (by decide) ?_
    refine W.widen (k := 0) (n := 0) (Nat.le_of_ble_eq_true rfl) (Nat.le_of_ble_eq_true rfl) ?_
    exact W.iret (v := 0) hx hb hr (fun t ht hW => ⟨⟨0, ((fun k => ([] : List Nat).getD k 0), (fun k => ([1] : List Int32).getD k 0), (fun k => ([] : List (Nat → Int32)).getD k (fun _ => 0))), rfl, (by first | (left; exact ⟨hg1, by rfl, by rfl⟩)), by rw [ht]; exact hP.sub [1] rfl, hD.sub [1] (by decide) rfl⟩, hS.F ht⟩) hS.2.2 dX12_sweep_21
def vs_m_ice : List Cond := .code yX12_ice cX12_ice 10 (some .int) :: (([.fieldLink RX12 1 "KerbSplashModel" "thrown" "I", .fieldLink RX12 23 "KerbSplashModel" "b" "[I"] : List Cond) ++ ((wsX120) ++ ((va_wsS RX12 279 yX12_within vs_c_within) ++ ((wsV RX12 175 RX12 yX12_may vs_c_may1) ++ ((wsV RX12 175 RX12 yX12_may vs_c_may0_2) ++ ([]))))))
set_option maxHeartbeats 4000000 in
set_option maxRecDepth 100000 in
theorem m_ice (l : Launch) (hl : l.stackTraces = false) (D : va_G) (cy : Nat → ClassId) (sa : Nat → Nat) (mo : Nat) (ma : Nat → Nat) (p0 p1 : Int32) (sz : Nat) : Met l yX12_ice vs_m_ice ({ frames := 1, cells := 0, slots := 0, locals := 23 }) (va_Pc [.ref mo, .int p0, .int p1] (pcW D cy sa sz [(mo, .inr (12, [.int 0, .ref (ma 1), .int 0, .int 0, .int 0, .int 0, .int 0, .int 0, .int (-1), .ref (ma 9), .ref (ma 10), .ref (ma 11), .ref (ma 12), .ref (ma 13), .ref (ma 14), .ref (ma 15), .int 0, .int 0, .int 0, .ref (ma 19), .ref (ma 20), .ref (ma 21), .int 0, .ref (ma 23), .ref (ma 24), .ref (ma 25), .ref (ma 26), .ref (ma 27), .ref (ma 28), .int 0, .int 0, .int 0, .int 0, .ref (ma 33), .int (-1), .ref (ma 35), .int 0, .int 0])), ((ma 1), .inl (cy 0, 4, .inl (fun _ => 0))), ((ma 10), .inl (cy 0, 68, .inl (fun _ => 0)))])) (va_Qi (fun (r : Int32) (u : SU) => ((¬ ((1 ≤ p0 ∧ p0 ≤ 9999) ∧ (0 ≤ p1 ∧ p1 ≤ 2))) ∧ r = 0 ∧ (u.2.1 0) = 1) ∨ (((1 ≤ p0 ∧ p0 ≤ 9999) ∧ (0 ≤ p1 ∧ p1 ≤ 2)) ∧ r = 0 ∧ (u.2.1 0) = 0)) (fun u t => atW D (va_A [(mo, .inr (12, [.int 0, .ref (ma 1), .int 0, .int 0, .int 0, .int 0, .int 0, .int 0, .int (-1), .ref (ma 9), .ref (ma 10), .ref (ma 11), .ref (ma 12), .ref (ma 13), .ref (ma 14), .ref (ma 15), .int 0, .int 0, .int 0, .ref (ma 19), .ref (ma 20), .ref (ma 21), .int 0, .ref (ma 23), .ref (ma 24), .ref (ma 25), .ref (ma 26), .ref (ma 27), .ref (ma 28), .int 0, .int 0, .int 0, .int 0, .ref (ma 33), .int (-1), .ref (ma 35), .int 0, .int 0])), ((ma 1), .inl (cy 0, 4, .inl (fun _ => 0))), ((ma 10), .inl (cy 0, 68, .inl (fun _ => 0)))] sz) [(mo, .inr (12, [.int (u.2.1 0), .ref (ma 1), .int 0, .int 0, .int 0, .int 0, .int 0, .int 0, .int (-1), .ref (ma 9), .ref (ma 10), .ref (ma 11), .ref (ma 12), .ref (ma 13), .ref (ma 14), .ref (ma 15), .int 0, .int 0, .int 0, .ref (ma 19), .ref (ma 20), .ref (ma 21), .int 0, .ref (ma 23), .ref (ma 24), .ref (ma 25), .ref (ma 26), .ref (ma 27), .ref (ma 28), .int 0, .int 0, .int 0, .int 0, .ref (ma 33), .int (-1), .ref (ma 35), .int 0, .int 0]))] t) (va_A [(mo, .inr (12, [.int 0, .ref (ma 1), .int 0, .int 0, .int 0, .int 0, .int 0, .int 0, .int (-1), .ref (ma 9), .ref (ma 10), .ref (ma 11), .ref (ma 12), .ref (ma 13), .ref (ma 14), .ref (ma 15), .int 0, .int 0, .int 0, .ref (ma 19), .ref (ma 20), .ref (ma 21), .int 0, .ref (ma 23), .ref (ma 24), .ref (ma 25), .ref (ma 26), .ref (ma 27), .ref (ma 28), .int 0, .int 0, .int 0, .int 0, .ref (ma 33), .int (-1), .ref (ma 35), .int 0, .int 0])), ((ma 1), .inl (cy 0, 4, .inl (fun _ => 0))), ((ma 10), .inl (cy 0, 68, .inl (fun _ => 0)))] sz)) 0 0 (va_A [(mo, .inr (12, [.int 0, .ref (ma 1), .int 0, .int 0, .int 0, .int 0, .int 0, .int 0, .int (-1), .ref (ma 9), .ref (ma 10), .ref (ma 11), .ref (ma 12), .ref (ma 13), .ref (ma 14), .ref (ma 15), .int 0, .int 0, .int 0, .ref (ma 19), .ref (ma 20), .ref (ma 21), .int 0, .ref (ma 23), .ref (ma 24), .ref (ma 25), .ref (ma 26), .ref (ma 27), .ref (ma 28), .int 0, .int 0, .int 0, .int 0, .ref (ma 33), .int (-1), .ref (ma 35), .int 0, .int 0])), ((ma 1), .inl (cy 0, 4, .inl (fun _ => 0))), ((ma 10), .inl (cy 0, 68, .inl (fun _ => 0)))] sz) := by
  refine Met.ofW (cc := cX12_ice) (maxL := 10) (ret := (some .int)) (by decide) rfl ?_
  intro p e s m args below meth c s₁ B hml hv
  obtain ⟨rfl, hsz, hP, hG, hD0, hT⟩ := hv
  have hx := B.exec
  have hb := B.bytes
  have hr := B.returns
  have hts := atoms_spec (ws := vs_m_ice) B.pre
  have hown : s.vm.findClass RX12 = some m.cls := findClass_of_methodNamed B.named
  have hlocks := B.notSynchronized
  subst hsz
  have hD := hD0.self (sz := s.heap.size)
  generalize hAe : va_A [(mo, .inr (12, [.int 0, .ref (ma 1), .int 0, .int 0, .int 0, .int 0, .int 0, .int 0, .int (-1), .ref (ma 9), .ref (ma 10), .ref (ma 11), .ref (ma 12), .ref (ma 13), .ref (ma 14), .ref (ma 15), .int 0, .int 0, .int 0, .ref (ma 19), .ref (ma 20), .ref (ma 21), .int 0, .ref (ma 23), .ref (ma 24), .ref (ma 25), .ref (ma 26), .ref (ma 27), .ref (ma 28), .int 0, .int 0, .int 0, .int 0, .ref (ma 33), .int (-1), .ref (ma 35), .int 0, .int 0])), ((ma 1), .inl (cy 0, 4, .inl (fun _ => 0))), ((ma 10), .inl (cy 0, 68, .inl (fun _ => 0)))] s.heap.size = A at hD hT ⊢
  have hA : ∀ q : Nat, s.heap.size ≤ q → A q := fun q h => by rw [← hAe]; exact Or.inr h
  have hS : va_S A s.heap s.heap [] := va_S.rf
  have hl0 := lv_entry ([.ref mo, .int p0, .int p1]) (n := 10) (Nat.le_of_ble_eq_true rfl)
  rw [lg_entry_eq]
  generalize (lg_sl ([.ref mo, .int p0, .int p1]) ++ List.replicate (10 - (lg_sl ([.ref mo, .int p0, .int p1])).length) Slot.unset).toArray = ls at hl0 ⊢
  have hlv : lv_has ls 10 [(0, .ref mo), (1, .int p0), (2, .int p1)] := hl0
  have lf1 := hts (.fieldLink RX12 1 "KerbSplashModel" "thrown" "I") (List.mem_of_getElem? (i := 1) rfl)
  have hi12 : ∀ w ∈ wsX120, w ∈ vs_m_ice := fun w h => List.mem_cons_of_mem _ (List.mem_append_right _ (List.mem_append_left _ h))
  have gg_1 : GoodIn vs_m_ice (va_wsS RX12 279 yX12_within vs_c_within) := goodIn_sub (fun w h => List.mem_cons_of_mem _ (List.mem_append_right _ (List.mem_append_right _ (List.mem_append_left _ h)))) (by decide +kernel)
  have gg_2 : GoodIn vs_m_ice (wsV RX12 175 RX12 yX12_may vs_c_may1) := goodIn_sub (fun w h => List.mem_cons_of_mem _ (List.mem_append_right _ (List.mem_append_right _ (List.mem_append_right _ (List.mem_append_left _ h))))) (by decide +kernel)
  have lf23 := hts (.fieldLink RX12 23 "KerbSplashModel" "b" "[I") (List.mem_of_getElem? (i := 2) rfl)
  have gg_3 : GoodIn vs_m_ice (wsV RX12 175 RX12 yX12_may vs_c_may0_2) := goodIn_sub (fun w h => List.mem_cons_of_mem _ (List.mem_append_right _ (List.mem_append_right _ (List.mem_append_right _ (List.mem_append_right _ (List.mem_append_left _ h)))))) (by decide +kernel)
  refine lv_aload_n hx hb dX12_ice_0 rfl (lv_at hlv 0 rfl) ?_
  refine lv_iconst (v := 0) hx hb dX12_ice_1 (by decide) ?_
  refine va_put (D := D) (ci := 12) (v := .int 0) (ty := .int) (C := RX12) (T := TX12) (N := 38) hx hb hts hi12 tyX12 tyX12_ok nmX12 hown hG.1 hP hD hS 0 rfl rfl 0 (by decide) lf1 (fun _ h9 => h9) rfl (by decide +kernel) rfl rfl (Nat.le_of_ble_eq_true rfl) dX12_ice_2 (fun H locs hP hD hS => ?_)
  have hP : va_P D vwCl [(mo, .inr (12, [.int 0, .ref (ma 1), .int 0, .int 0, .int 0, .int 0, .int 0, .int 0, .int (-1), .ref (ma 9), .ref (ma 10), .ref (ma 11), .ref (ma 12), .ref (ma 13), .ref (ma 14), .ref (ma 15), .int 0, .int 0, .int 0, .ref (ma 19), .ref (ma 20), .ref (ma 21), .int 0, .ref (ma 23), .ref (ma 24), .ref (ma 25), .ref (ma 26), .ref (ma 27), .ref (ma 28), .int 0, .int 0, .int 0, .int 0, .ref (ma 33), .int (-1), .ref (ma 35), .int 0, .int 0])), ((ma 1), .inl (cy 0, 4, .inl (fun _ => 0))), ((ma 10), .inl (cy 0, 68, .inl (fun _ => 0)))] H := hP
  have hD : va_D A [(mo, .inr (12, [.int 0, .ref (ma 1), .int 0, .int 0, .int 0, .int 0, .int 0, .int 0, .int (-1), .ref (ma 9), .ref (ma 10), .ref (ma 11), .ref (ma 12), .ref (ma 13), .ref (ma 14), .ref (ma 15), .int 0, .int 0, .int 0, .ref (ma 19), .ref (ma 20), .ref (ma 21), .int 0, .ref (ma 23), .ref (ma 24), .ref (ma 25), .ref (ma 26), .ref (ma 27), .ref (ma 28), .int 0, .int 0, .int 0, .int 0, .ref (ma 33), .int (-1), .ref (ma 35), .int 0, .int 0])), ((ma 1), .inl (cy 0, 4, .inl (fun _ => 0))), ((ma 10), .inl (cy 0, 68, .inl (fun _ => 0)))] := hD
  refine lv_aload_n hx hb dX12_ice_5 rfl (lv_at hlv 0 rfl) ?_
  refine lv_iload_n hx hb dX12_ice_6 rfl (lv_at hlv 1 rfl) ?_
  refine lv_iconst (v := 1) hx hb dX12_ice_7 (by decide) ?_
  refine lv_sipush (v := 9999) hx hb dX12_ice_8 (by decide) ?_
  refine cj_i (wr := [(mo, .inr (12, [.int 0, .ref (ma 1), .int 0, .int 0, .int 0, .int 0, .int 0, .int 0, .int (-1), .ref (ma 9), .ref (ma 10), .ref (ma 11), .ref (ma 12), .ref (ma 13), .ref (ma 14), .ref (ma 15), .int 0, .int 0, .int 0, .ref (ma 19), .ref (ma 20), .ref (ma 21), .int 0, .ref (ma 23), .ref (ma 24), .ref (ma 25), .ref (ma 26), .ref (ma 27), .ref (ma 28), .int 0, .int 0, .int 0, .int 0, .ref (ma 33), .int (-1), .ref (ma 35), .int 0, .int 0])), ((ma 1), .inl (cy 0, 4, .inl (fun _ => 0))), ((ma 10), .inl (cy 0, 68, .inl (fun _ => 0)))]) (va_runS (As := [.int p0, .int 1, .int 9999]) (rest := [.ref mo]) ⟨hx, hb, hml, hown, hts⟩ (c_within l hl D cy sa p0 1 9999 H.size) (va_cwS 3 hts gg_1 rfl rfl rfl (by decide +kernel) ⟨Nat.le_of_ble_eq_true rfl, Nat.le_of_ble_eq_true rfl⟩) ⟨pcW.blind, (pcW.mk hP hD hS hA hG hT [] rfl (by decide))⟩ rfl rfl hlv.1 rfl (lv_room (Nat.le_of_ble_eq_true rfl)) dX12_ice_11 ⟨Nat.le_of_ble_eq_true rfl, Nat.le_of_ble_eq_true rfl⟩) hP hD hS hA [] [0, 1, 2] rfl rfl (by decide) (by decide) (fun r1 u1 H locs hw1 hP hD hS => ?_)
  rcases hw1 with ⟨hg1, rfl⟩ | ⟨hg1, rfl⟩
  · have hP : va_P D vwCl [(mo, .inr (12, [.int 0, .ref (ma 1), .int 0, .int 0, .int 0, .int 0, .int 0, .int 0, .int (-1), .ref (ma 9), .ref (ma 10), .ref (ma 11), .ref (ma 12), .ref (ma 13), .ref (ma 14), .ref (ma 15), .int 0, .int 0, .int 0, .ref (ma 19), .ref (ma 20), .ref (ma 21), .int 0, .ref (ma 23), .ref (ma 24), .ref (ma 25), .ref (ma 26), .ref (ma 27), .ref (ma 28), .int 0, .int 0, .int 0, .int 0, .ref (ma 33), .int (-1), .ref (ma 35), .int 0, .int 0])), ((ma 1), .inl (cy 0, 4, .inl (fun _ => 0))), ((ma 10), .inl (cy 0, 68, .inl (fun _ => 0)))] H := hP
    have hD : va_D A [(mo, .inr (12, [.int 0, .ref (ma 1), .int 0, .int 0, .int 0, .int 0, .int 0, .int 0, .int (-1), .ref (ma 9), .ref (ma 10), .ref (ma 11), .ref (ma 12), .ref (ma 13), .ref (ma 14), .ref (ma 15), .int 0, .int 0, .int 0, .ref (ma 19), .ref (ma 20), .ref (ma 21), .int 0, .ref (ma 23), .ref (ma 24), .ref (ma 25), .ref (ma 26), .ref (ma 27), .ref (ma 28), .int 0, .int 0, .int 0, .int 0, .ref (ma 33), .int (-1), .ref (ma 35), .int 0, .int 0])), ((ma 1), .inl (cy 0, 4, .inl (fun _ => 0))), ((ma 10), .inl (cy 0, 68, .inl (fun _ => 0)))] := hD
    refine lv_if_eq (tgt := 30) hx hb dX12_ice_14 (by decide) (fun c => absurd c (by decide)) (fun _ => ?_)
    refine lv_iload_n hx hb dX12_ice_17 rfl (lv_at hlv 2 rfl) ?_
    refine lv_iconst (v := 0) hx hb dX12_ice_18 (by decide) ?_
    refine lv_iconst (v := 2) hx hb dX12_ice_19 (by decide) ?_
    refine cj_i (wr := [(mo, .inr (12, [.int 0, .ref (ma 1), .int 0, .int 0, .int 0, .int 0, .int 0, .int 0, .int (-1), .ref (ma 9), .ref (ma 10), .ref (ma 11), .ref (ma 12), .ref (ma 13), .ref (ma 14), .ref (ma 15), .int 0, .int 0, .int 0, .ref (ma 19), .ref (ma 20), .ref (ma 21), .int 0, .ref (ma 23), .ref (ma 24), .ref (ma 25), .ref (ma 26), .ref (ma 27), .ref (ma 28), .int 0, .int 0, .int 0, .int 0, .ref (ma 33), .int (-1), .ref (ma 35), .int 0, .int 0])), ((ma 1), .inl (cy 0, 4, .inl (fun _ => 0))), ((ma 10), .inl (cy 0, 68, .inl (fun _ => 0)))]) (va_runS (As := [.int p1, .int 0, .int 2]) (rest := [.ref mo]) ⟨hx, hb, hml, hown, hts⟩ (c_within l hl D cy sa p1 0 2 H.size) (va_cwS 3 hts gg_1 rfl rfl rfl (by decide +kernel) ⟨Nat.le_of_ble_eq_true rfl, Nat.le_of_ble_eq_true rfl⟩) ⟨pcW.blind, (pcW.mk hP hD hS hA hG hT [] rfl (by decide))⟩ rfl rfl hlv.1 rfl (lv_room (Nat.le_of_ble_eq_true rfl)) dX12_ice_20 ⟨Nat.le_of_ble_eq_true rfl, Nat.le_of_ble_eq_true rfl⟩) hP hD hS hA [] [0, 1, 2] rfl rfl (by decide) (by decide) (fun r2 u2 H locs hw2 hP hD hS => ?_)
    rcases hw2 with ⟨hg2, rfl⟩ | ⟨hg2, rfl⟩
    · have hP : va_P D vwCl [(mo, .inr (12, [.int 0, .ref (ma 1), .int 0, .int 0, .int 0, .int 0, .int 0, .int 0, .int (-1), .ref (ma 9), .ref (ma 10), .ref (ma 11), .ref (ma 12), .ref (ma 13), .ref (ma 14), .ref (ma 15), .int 0, .int 0, .int 0, .ref (ma 19), .ref (ma 20), .ref (ma 21), .int 0, .ref (ma 23), .ref (ma 24), .ref (ma 25), .ref (ma 26), .ref (ma 27), .ref (ma 28), .int 0, .int 0, .int 0, .int 0, .ref (ma 33), .int (-1), .ref (ma 35), .int 0, .int 0])), ((ma 1), .inl (cy 0, 4, .inl (fun _ => 0))), ((ma 10), .inl (cy 0, 68, .inl (fun _ => 0)))] H := hP
      have hD : va_D A [(mo, .inr (12, [.int 0, .ref (ma 1), .int 0, .int 0, .int 0, .int 0, .int 0, .int 0, .int (-1), .ref (ma 9), .ref (ma 10), .ref (ma 11), .ref (ma 12), .ref (ma 13), .ref (ma 14), .ref (ma 15), .int 0, .int 0, .int 0, .ref (ma 19), .ref (ma 20), .ref (ma 21), .int 0, .ref (ma 23), .ref (ma 24), .ref (ma 25), .ref (ma 26), .ref (ma 27), .ref (ma 28), .int 0, .int 0, .int 0, .int 0, .ref (ma 33), .int (-1), .ref (ma 35), .int 0, .int 0])), ((ma 1), .inl (cy 0, 4, .inl (fun _ => 0))), ((ma 10), .inl (cy 0, 68, .inl (fun _ => 0)))] := hD
      refine lv_if_eq (tgt := 30) hx hb dX12_ice_23 (by decide) (fun c => absurd c (by decide)) (fun _ => ?_)
      refine lv_iconst (v := 1) hx hb dX12_ice_26 (by decide) ?_
      refine lv_goto (tgt := 31) hx hb dX12_ice_27 (by decide) ?_
      refine lv_iconst (v := 1) hx hb dX12_ice_31 (by decide) ?_
      refine lv_iconst (v := 2) hx hb dX12_ice_32 (by decide) ?_
      refine cj_i (wr := [((ma 1), .inl (cy 0, 4, .inl (fun _ => 0))), ((ma 10), .inl (cy 0, 68, .inl (fun _ => 0)))]) (va_runV (As := [.int 1, .int 1, .int 2]) (rest := []) ⟨hx, hb, hml, hown, hts⟩ (c_may1 l hl D cy sa mo ma 1 2 H.size) (cwV 3 hts gg_2 rfl rfl rfl (by decide +kernel) ⟨Nat.le_of_ble_eq_true rfl, Nat.le_of_ble_eq_true rfl⟩) ⟨pcW.blind, (va_recv hG.1 hP (ci := 12) (q0 := 0) rfl rfl), (pcW.mk hP hD hS hA hG hT [0] rfl (by decide))⟩ rfl rfl hlv.1 rfl (lv_room (Nat.le_of_ble_eq_true rfl)) dX12_ice_33 ⟨Nat.le_of_ble_eq_true rfl, Nat.le_of_ble_eq_true rfl⟩) hP hD hS hA [0] [1, 2] rfl rfl (by decide) (by decide) (fun r3 u3 H locs hw3 hP hD hS => ?_)
      obtain rfl := hw3
      have hP : va_P D vwCl [((ma 1), .inl (cy 0, 4, .inl (fun _ => 0))), ((ma 10), .inl (cy 0, 68, .inl (fun _ => 0))), (mo, .inr (12, [.int 0, .ref (ma 1), .int 0, .int 0, .int 0, .int 0, .int 0, .int 0, .int (-1), .ref (ma 9), .ref (ma 10), .ref (ma 11), .ref (ma 12), .ref (ma 13), .ref (ma 14), .ref (ma 15), .int 0, .int 0, .int 0, .ref (ma 19), .ref (ma 20), .ref (ma 21), .int 0, .ref (ma 23), .ref (ma 24), .ref (ma 25), .ref (ma 26), .ref (ma 27), .ref (ma 28), .int 0, .int 0, .int 0, .int 0, .ref (ma 33), .int (-1), .ref (ma 35), .int 0, .int 0]))] H := hP
      have hD : va_D A [((ma 1), .inl (cy 0, 4, .inl (fun _ => 0))), ((ma 10), .inl (cy 0, 68, .inl (fun _ => 0))), (mo, .inr (12, [.int 0, .ref (ma 1), .int 0, .int 0, .int 0, .int 0, .int 0, .int 0, .int (-1), .ref (ma 9), .ref (ma 10), .ref (ma 11), .ref (ma 12), .ref (ma 13), .ref (ma 14), .ref (ma 15), .int 0, .int 0, .int 0, .ref (ma 19), .ref (ma 20), .ref (ma 21), .int 0, .ref (ma 23), .ref (ma 24), .ref (ma 25), .ref (ma 26), .ref (ma 27), .ref (ma 28), .int 0, .int 0, .int 0, .int 0, .ref (ma 33), .int (-1), .ref (ma 35), .int 0, .int 0]))] := hD
      refine lv_if_ne (tgt := 41) hx hb dX12_ice_36 (by decide) (fun _ => ?_) (fun c => absurd c (by decide))
      refine lv_iconst (v := 0) hx hb dX12_ice_41 (by decide) ?_
      refine lv_istore_n (lv' := [(3, .int 0), (0, .ref mo), (1, .int p0), (2, .int p1)]) hx hb dX12_ice_42 rfl hlv (by decide) rfl (fun ls hlv => ?_)
      refine lv_iconst (v := 0) hx hb dX12_ice_43 (by decide) ?_
      refine lv_istore (lv' := [(4, .int 0), (3, .int 0), (0, .ref mo), (1, .int p0), (2, .int p1)]) hx hb dX12_ice_44 hlv (by decide) rfl (fun ls hlv => ?_)
      refine lv_iconst (v := 0) hx hb dX12_ice_46 (by decide) ?_
      refine lv_istore (lv' := [(5, .int 0), (4, .int 0), (3, .int 0), (0, .ref mo), (1, .int p0), (2, .int p1)]) hx hb dX12_ice_47 hlv (by decide) rfl (fun ls hlv => ?_)
      refine lv_iconst (v := 0) hx hb dX12_ice_49 (by decide) ?_
      refine lv_istore (lv' := [(6, .int 0), (5, .int 0), (4, .int 0), (3, .int 0), (0, .ref mo), (1, .int p0), (2, .int p1)]) hx hb dX12_ice_50 hlv (by decide) rfl (fun ls hlv => ?_)
      refine lv_iload hx hb dX12_ice_52 (lv_at hlv 0 rfl) ?_
      refine lv_aload_n hx hb dX12_ice_54 rfl (lv_at hlv 4 rfl) ?_
      refine va_get (D := D) (ci := 12) (v := .ref (ma 10)) (C := RX12) (T := TX12) (N := 38) hx hb hts hi12 hown hG.1 hP 2 rfl rfl 10 (by decide) lf23 (fun _ h9 => h9) rfl dX12_ice_55 ?_
      refine lv_iconst (v := 1) hx hb dX12_ice_58 (by decide) ?_
      refine va_iald hx hb hG.1 hP 1 0 rfl rfl (vpd (by decide)) dX12_ice_59 ?_
      refine lt_i (y := 0) (by rfl) ?_
      refine lv_icmp_ge (tgt := 187) hx hb dX12_ice_60 (by decide) (fun _ => ?_) (fun c => absurd (by decide) c)
      refine lv_iload_n hx hb dX12_ice_187 rfl (lv_at hlv 6 rfl) ?_
      refine lv_if_ne (tgt := 195) hx hb dX12_ice_188 (by decide) (fun c_1 => ?_) (fun c_1 => ?_)
      · refine lv_iload_n hx hb dX12_ice_195 rfl (lv_at hlv 6 rfl) ?_
        refine lv_iconst (v := 1) hx hb dX12_ice_196 (by decide) ?_
        refine lv_icmp_ne (tgt := 205) hx hb dX12_ice_197 (by decide) (fun c_2 => ?_) (fun c_2 => ?_)
        · refine lv_iload hx hb dX12_ice_205 (lv_at hlv 1 rfl) ?_
          refine W.widen (k := 0) (n := 0) (Nat.le_of_ble_eq_true rfl) (Nat.le_of_ble_eq_true rfl) ?_
          exact W.iret (v := 0) hx hb hr (fun t ht hW => ⟨⟨0, ((fun k => ([] : List Nat).getD k 0), (fun k => ([0] : List Int32).getD k 0), (fun k => ([] : List (Nat → Int32)).getD k (fun _ => 0))), rfl, (by first | (right; exact ⟨⟨hg1, hg2⟩, by rfl, by rfl⟩)), by rw [ht]; exact hP.sub [2] rfl, hD.sub [2] (by decide) rfl⟩, hS.F ht⟩) hS.2.2 dX12_ice_207
        · refine lv_iload hx hb dX12_ice_200 (lv_at hlv 2 rfl) ?_
          refine lv_goto (tgt := 207) hx hb dX12_ice_202 (by decide) ?_
          refine W.widen (k := 0) (n := 0) (Nat.le_of_ble_eq_true rfl) (Nat.le_of_ble_eq_true rfl) ?_
          exact W.iret (v := 0) hx hb hr (fun t ht hW => ⟨⟨0, ((fun k => ([] : List Nat).getD k 0), (fun k => ([0] : List Int32).getD k 0), (fun k => ([] : List (Nat → Int32)).getD k (fun _ => 0))), rfl, (by first | (right; exact ⟨⟨hg1, hg2⟩, by rfl, by rfl⟩)), by rw [ht]; exact hP.sub [2] rfl, hD.sub [2] (by decide) rfl⟩, hS.F ht⟩) hS.2.2 dX12_ice_207
      · refine lv_iload_n hx hb dX12_ice_191 rfl (lv_at hlv 3 rfl) ?_
        refine lv_goto (tgt := 207) hx hb dX12_ice_192 (by decide) ?_
        refine W.widen (k := 0) (n := 0) (Nat.le_of_ble_eq_true rfl) (Nat.le_of_ble_eq_true rfl) ?_
        exact W.iret (v := 0) hx hb hr (fun t ht hW => ⟨⟨0, ((fun k => ([] : List Nat).getD k 0), (fun k => ([0] : List Int32).getD k 0), (fun k => ([] : List (Nat → Int32)).getD k (fun _ => 0))), rfl, (by first | (right; exact ⟨⟨hg1, hg2⟩, by rfl, by rfl⟩)), by rw [ht]; exact hP.sub [2] rfl, hD.sub [2] (by decide) rfl⟩, hS.F ht⟩) hS.2.2 dX12_ice_207
    · have hP : va_P D vwCl [(mo, .inr (12, [.int 0, .ref (ma 1), .int 0, .int 0, .int 0, .int 0, .int 0, .int 0, .int (-1), .ref (ma 9), .ref (ma 10), .ref (ma 11), .ref (ma 12), .ref (ma 13), .ref (ma 14), .ref (ma 15), .int 0, .int 0, .int 0, .ref (ma 19), .ref (ma 20), .ref (ma 21), .int 0, .ref (ma 23), .ref (ma 24), .ref (ma 25), .ref (ma 26), .ref (ma 27), .ref (ma 28), .int 0, .int 0, .int 0, .int 0, .ref (ma 33), .int (-1), .ref (ma 35), .int 0, .int 0])), ((ma 1), .inl (cy 0, 4, .inl (fun _ => 0))), ((ma 10), .inl (cy 0, 68, .inl (fun _ => 0)))] H := hP
      have hD : va_D A [(mo, .inr (12, [.int 0, .ref (ma 1), .int 0, .int 0, .int 0, .int 0, .int 0, .int 0, .int (-1), .ref (ma 9), .ref (ma 10), .ref (ma 11), .ref (ma 12), .ref (ma 13), .ref (ma 14), .ref (ma 15), .int 0, .int 0, .int 0, .ref (ma 19), .ref (ma 20), .ref (ma 21), .int 0, .ref (ma 23), .ref (ma 24), .ref (ma 25), .ref (ma 26), .ref (ma 27), .ref (ma 28), .int 0, .int 0, .int 0, .int 0, .ref (ma 33), .int (-1), .ref (ma 35), .int 0, .int 0])), ((ma 1), .inl (cy 0, 4, .inl (fun _ => 0))), ((ma 10), .inl (cy 0, 68, .inl (fun _ => 0)))] := hD
      refine lv_if_eq (tgt := 30) hx hb dX12_ice_23 (by decide) (fun _ => ?_) (fun c => absurd (by decide) c)
      refine lv_iconst (v := 0) hx hb dX12_ice_30 (by decide) ?_
      refine lv_iconst (v := 1) hx hb dX12_ice_31 (by decide) ?_
      refine lv_iconst (v := 2) hx hb dX12_ice_32 (by decide) ?_
      refine cj_i (wr := [((ma 10), .inl (cy 0, 68, .inl (fun _ => 0)))]) (va_runV (As := [.int 0, .int 1, .int 2]) (rest := []) ⟨hx, hb, hml, hown, hts⟩ (c_may0_2 l hl D cy sa mo ma 1 H.size (by decide)) (cwV 3 hts gg_3 rfl rfl rfl (by decide +kernel) ⟨Nat.le_of_ble_eq_true rfl, Nat.le_of_ble_eq_true rfl⟩) ⟨pcW.blind, (va_recv hG.1 hP (ci := 12) (q0 := 0) rfl rfl), (pcW.mk hP hD hS hA hG hT [0, 1] rfl (by decide))⟩ rfl rfl hlv.1 rfl (lv_room (Nat.le_of_ble_eq_true rfl)) dX12_ice_33 ⟨Nat.le_of_ble_eq_true rfl, Nat.le_of_ble_eq_true rfl⟩) hP hD hS hA [0, 1] [2] rfl rfl (by decide) (by decide) (fun r4 u4 H locs hw4 hP hD hS => ?_)
      obtain rfl := hw4
      have hP : va_P D vwCl [((ma 10), .inl (cy 0, 68, .inl (fun _ => 0))), (mo, .inr (12, [.int 1, .ref (ma 1), .int 0, .int 0, .int 0, .int 0, .int 0, .int 0, .int (-1), .ref (ma 9), .ref (ma 10), .ref (ma 11), .ref (ma 12), .ref (ma 13), .ref (ma 14), .ref (ma 15), .int 0, .int 0, .int 0, .ref (ma 19), .ref (ma 20), .ref (ma 21), .int 0, .ref (ma 23), .ref (ma 24), .ref (ma 25), .ref (ma 26), .ref (ma 27), .ref (ma 28), .int 0, .int 0, .int 0, .int 0, .ref (ma 33), .int (-1), .ref (ma 35), .int 0, .int 0]))] H := hP
      have hD : va_D A [((ma 10), .inl (cy 0, 68, .inl (fun _ => 0))), (mo, .inr (12, [.int 1, .ref (ma 1), .int 0, .int 0, .int 0, .int 0, .int 0, .int 0, .int (-1), .ref (ma 9), .ref (ma 10), .ref (ma 11), .ref (ma 12), .ref (ma 13), .ref (ma 14), .ref (ma 15), .int 0, .int 0, .int 0, .ref (ma 19), .ref (ma 20), .ref (ma 21), .int 0, .ref (ma 23), .ref (ma 24), .ref (ma 25), .ref (ma 26), .ref (ma 27), .ref (ma 28), .int 0, .int 0, .int 0, .int 0, .ref (ma 33), .int (-1), .ref (ma 35), .int 0, .int 0]))] := hD
      refine lv_if_ne (tgt := 41) hx hb dX12_ice_36 (by decide) (fun c => absurd (by decide) c) (fun _ => ?_)
      refine lv_iconst (v := 0) hx hb dX12_ice_39 (by decide) ?_
      refine W.widen (k := 0) (n := 0) (Nat.le_of_ble_eq_true rfl) (Nat.le_of_ble_eq_true rfl) ?_
      exact W.iret (v := 0) hx hb hr (fun t ht hW => ⟨⟨0, ((fun k => ([] : List Nat).getD k 0), (fun k => ([1] : List Int32).getD k 0), (fun k => ([] : List (Nat → Int32)).getD k (fun _ => 0))), rfl, (by first | (left; exact ⟨(fun q => absurd q.2 hg2), by rfl, by rfl⟩)), by rw [ht]; exact hP.sub [1] rfl, hD.sub [1] (by decide) rfl⟩, hS.F ht⟩) hS.2.2 dX12_ice_40
  · have hP : va_P D vwCl [(mo, .inr (12, [.int 0, .ref (ma 1), .int 0, .int 0, .int 0, .int 0, .int 0, .int 0, .int (-1), .ref (ma 9), .ref (ma 10), .ref (ma 11), .ref (ma 12), .ref (ma 13), .ref (ma 14), .ref (ma 15), .int 0, .int 0, .int 0, .ref (ma 19), .ref (ma 20), .ref (ma 21), .int 0, .ref (ma 23), .ref (ma 24), .ref (ma 25), .ref (ma 26), .ref (ma 27), .ref (ma 28), .int 0, .int 0, .int 0, .int 0, .ref (ma 33), .int (-1), .ref (ma 35), .int 0, .int 0])), ((ma 1), .inl (cy 0, 4, .inl (fun _ => 0))), ((ma 10), .inl (cy 0, 68, .inl (fun _ => 0)))] H := hP
    have hD : va_D A [(mo, .inr (12, [.int 0, .ref (ma 1), .int 0, .int 0, .int 0, .int 0, .int 0, .int 0, .int (-1), .ref (ma 9), .ref (ma 10), .ref (ma 11), .ref (ma 12), .ref (ma 13), .ref (ma 14), .ref (ma 15), .int 0, .int 0, .int 0, .ref (ma 19), .ref (ma 20), .ref (ma 21), .int 0, .ref (ma 23), .ref (ma 24), .ref (ma 25), .ref (ma 26), .ref (ma 27), .ref (ma 28), .int 0, .int 0, .int 0, .int 0, .ref (ma 33), .int (-1), .ref (ma 35), .int 0, .int 0])), ((ma 1), .inl (cy 0, 4, .inl (fun _ => 0))), ((ma 10), .inl (cy 0, 68, .inl (fun _ => 0)))] := hD
    refine lv_if_eq (tgt := 30) hx hb dX12_ice_14 (by decide) (fun _ => ?_) (fun c => absurd (by decide) c)
    refine lv_iconst (v := 0) hx hb dX12_ice_30 (by decide) ?_
    refine lv_iconst (v := 1) hx hb dX12_ice_31 (by decide) ?_
    refine lv_iconst (v := 2) hx hb dX12_ice_32 (by decide) ?_
    refine cj_i (wr := [((ma 10), .inl (cy 0, 68, .inl (fun _ => 0)))]) (va_runV (As := [.int 0, .int 1, .int 2]) (rest := []) ⟨hx, hb, hml, hown, hts⟩ (c_may0_2 l hl D cy sa mo ma 1 H.size (by decide)) (cwV 3 hts gg_3 rfl rfl rfl (by decide +kernel) ⟨Nat.le_of_ble_eq_true rfl, Nat.le_of_ble_eq_true rfl⟩) ⟨pcW.blind, (va_recv hG.1 hP (ci := 12) (q0 := 0) rfl rfl), (pcW.mk hP hD hS hA hG hT [0, 1] rfl (by decide))⟩ rfl rfl hlv.1 rfl (lv_room (Nat.le_of_ble_eq_true rfl)) dX12_ice_33 ⟨Nat.le_of_ble_eq_true rfl, Nat.le_of_ble_eq_true rfl⟩) hP hD hS hA [0, 1] [2] rfl rfl (by decide) (by decide) (fun r5 u5 H locs hw5 hP hD hS => ?_)
    obtain rfl := hw5
    have hP : va_P D vwCl [((ma 10), .inl (cy 0, 68, .inl (fun _ => 0))), (mo, .inr (12, [.int 1, .ref (ma 1), .int 0, .int 0, .int 0, .int 0, .int 0, .int 0, .int (-1), .ref (ma 9), .ref (ma 10), .ref (ma 11), .ref (ma 12), .ref (ma 13), .ref (ma 14), .ref (ma 15), .int 0, .int 0, .int 0, .ref (ma 19), .ref (ma 20), .ref (ma 21), .int 0, .ref (ma 23), .ref (ma 24), .ref (ma 25), .ref (ma 26), .ref (ma 27), .ref (ma 28), .int 0, .int 0, .int 0, .int 0, .ref (ma 33), .int (-1), .ref (ma 35), .int 0, .int 0]))] H := hP
    have hD : va_D A [((ma 10), .inl (cy 0, 68, .inl (fun _ => 0))), (mo, .inr (12, [.int 1, .ref (ma 1), .int 0, .int 0, .int 0, .int 0, .int 0, .int 0, .int (-1), .ref (ma 9), .ref (ma 10), .ref (ma 11), .ref (ma 12), .ref (ma 13), .ref (ma 14), .ref (ma 15), .int 0, .int 0, .int 0, .ref (ma 19), .ref (ma 20), .ref (ma 21), .int 0, .ref (ma 23), .ref (ma 24), .ref (ma 25), .ref (ma 26), .ref (ma 27), .ref (ma 28), .int 0, .int 0, .int 0, .int 0, .ref (ma 33), .int (-1), .ref (ma 35), .int 0, .int 0]))] := hD
    refine lv_if_ne (tgt := 41) hx hb dX12_ice_36 (by decide) (fun c => absurd (by decide) c) (fun _ => ?_)
    refine lv_iconst (v := 0) hx hb dX12_ice_39 (by decide) ?_
    refine W.widen (k := 0) (n := 0) (Nat.le_of_ble_eq_true rfl) (Nat.le_of_ble_eq_true rfl) ?_
    exact W.iret (v := 0) hx hb hr (fun t ht hW => ⟨⟨0, ((fun k => ([] : List Nat).getD k 0), (fun k => ([1] : List Int32).getD k 0), (fun k => ([] : List (Nat → Int32)).getD k (fun _ => 0))), rfl, (by first | (left; exact ⟨(fun q => absurd q.1 hg1), by rfl, by rfl⟩)), by rw [ht]; exact hP.sub [1] rfl, hD.sub [1] (by decide) rfl⟩, hS.F ht⟩) hS.2.2 dX12_ice_40
