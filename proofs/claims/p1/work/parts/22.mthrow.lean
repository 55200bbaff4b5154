theorem dX12_blame_0 : decode cX12_blame 0 = .ok (.aload_n 0, 1) := by decide +kernel
theorem dX12_blame_1 : decode cX12_blame 1 = .ok (.iconst 0, 1) := by decide +kernel
theorem dX12_blame_12 : decode cX12_blame 12 = .ok (.ifCond .eq 36, 3) := by decide +kernel
theorem dX12_blame_2 : decode cX12_blame 2 = .ok (.putfield 1, 3) := by decide +kernel
theorem dX12_blame_48 : decode cX12_blame 48 = .ok (.iconst 0, 1) := by decide +kernel
theorem dX12_blame_49 : decode cX12_blame 49 = .ok (.ireturn, 1) := by decide +kernel
theorem dX12_blame_5 : decode cX12_blame 5 = .ok (.aload_n 0, 1) := by decide +kernel
theorem dX12_blame_6 : decode cX12_blame 6 = .ok (.iload_n 2, 1) := by decide +kernel
theorem dX12_blame_7 : decode cX12_blame 7 = .ok (.iload_n 3, 1) := by decide +kernel
theorem dX12_blame_8 : decode cX12_blame 8 = .ok (.iconst 1, 1) := by decide +kernel
theorem dX12_blame_9 : decode cX12_blame 9 = .ok (.invokevirtual 286, 3) := by decide +kernel
theorem dX12_car_0 : decode cX12_car 0 = .ok (.aload_n 0, 1) := by decide +kernel
theorem dX12_car_1 : decode cX12_car 1 = .ok (.iconst 0, 1) := by decide +kernel
theorem dX12_car_11 : decode cX12_car 11 = .ok (.ifCond .eq 30, 3) := by decide +kernel
theorem dX12_car_2 : decode cX12_car 2 = .ok (.putfield 1, 3) := by decide +kernel
theorem dX12_car_41 : decode cX12_car 41 = .ok (.iconst 0, 1) := by decide +kernel
theorem dX12_car_42 : decode cX12_car 42 = .ok (.ireturn, 1) := by decide +kernel
theorem dX12_car_5 : decode cX12_car 5 = .ok (.aload_n 0, 1) := by decide +kernel
theorem dX12_car_6 : decode cX12_car 6 = .ok (.iload_n 1, 1) := by decide +kernel
theorem dX12_car_7 : decode cX12_car 7 = .ok (.iconst 1, 1) := by decide +kernel
theorem dX12_car_8 : decode cX12_car 8 = .ok (.invokevirtual 334, 3) := by decide +kernel
theorem dX12_cell_0 : decode cX12_cell 0 = .ok (.aload_n 0, 1) := by decide +kernel
theorem dX12_cell_1 : decode cX12_cell 1 = .ok (.iconst 0, 1) := by decide +kernel
theorem dX12_cell_12 : decode cX12_cell 12 = .ok (.ifCond .eq 18, 3) := by decide +kernel
theorem dX12_cell_2 : decode cX12_cell 2 = .ok (.putfield 1, 3) := by decide +kernel
theorem dX12_cell_30 : decode cX12_cell 30 = .ok (.iconst 0, 1) := by decide +kernel
theorem dX12_cell_31 : decode cX12_cell 31 = .ok (.ireturn, 1) := by decide +kernel
theorem dX12_cell_5 : decode cX12_cell 5 = .ok (.aload_n 0, 1) := by decide +kernel
theorem dX12_cell_6 : decode cX12_cell 6 = .ok (.iload_n 1, 1) := by decide +kernel
theorem dX12_cell_7 : decode cX12_cell 7 = .ok (.iload_n 2, 1) := by decide +kernel
theorem dX12_cell_8 : decode cX12_cell 8 = .ok (.iconst 1, 1) := by decide +kernel
theorem dX12_cell_9 : decode cX12_cell 9 = .ok (.invokevirtual 286, 3) := by decide +kernel
theorem dX12_deep_0 : decode cX12_deep 0 = .ok (.aload_n 0, 1) := by decide +kernel
theorem dX12_deep_1 : decode cX12_deep 1 = .ok (.iconst 0, 1) := by decide +kernel
theorem dX12_deep_12 : decode cX12_deep 12 = .ok (.ifCond .eq 20, 3) := by decide +kernel
theorem dX12_deep_2 : decode cX12_deep 2 = .ok (.putfield 1, 3) := by decide +kernel
theorem dX12_deep_32 : decode cX12_deep 32 = .ok (.iconst 0, 1) := by decide +kernel
theorem dX12_deep_33 : decode cX12_deep 33 = .ok (.ireturn, 1) := by decide +kernel
theorem dX12_deep_5 : decode cX12_deep 5 = .ok (.aload_n 0, 1) := by decide +kernel
theorem dX12_deep_6 : decode cX12_deep 6 = .ok (.iload_n 2, 1) := by decide +kernel
theorem dX12_deep_7 : decode cX12_deep 7 = .ok (.iload_n 3, 1) := by decide +kernel
theorem dX12_deep_8 : decode cX12_deep 8 = .ok (.iconst 1, 1) := by decide +kernel
theorem dX12_deep_9 : decode cX12_deep 9 = .ok (.invokevirtual 286, 3) := by decide +kernel
theorem dX12_does_0 : decode cX12_does 0 = .ok (.aload_n 0, 1) := by decide +kernel
theorem dX12_does_1 : decode cX12_does 1 = .ok (.iconst 0, 1) := by decide +kernel
theorem dX12_does_10 : decode cX12_does 10 = .ok (.ifCond .eq 17, 3) := by decide +kernel
theorem dX12_does_2 : decode cX12_does 2 = .ok (.putfield 1, 3) := by decide +kernel
theorem dX12_does_27 : decode cX12_does 27 = .ok (.iconst 0, 1) := by decide +kernel
theorem dX12_does_28 : decode cX12_does 28 = .ok (.ireturn, 1) := by decide +kernel
theorem dX12_does_5 : decode cX12_does 5 = .ok (.aload_n 0, 1) := by decide +kernel
theorem dX12_does_6 : decode cX12_does 6 = .ok (.iload_n 1, 1) := by decide +kernel
theorem dX12_does_7 : decode cX12_does 7 = .ok (.invokevirtual 300, 3) := by decide +kernel
theorem dX12_drain_0 : decode cX12_drain 0 = .ok (.aload_n 0, 1) := by decide +kernel
theorem dX12_drain_1 : decode cX12_drain 1 = .ok (.iconst 0, 1) := by decide +kernel
theorem dX12_drain_12 : decode cX12_drain 12 = .ok (.iconst 1, 1) := by decide +kernel
theorem dX12_drain_13 : decode cX12_drain 13 = .ok (.isub, 1) := by decide +kernel
theorem dX12_drain_14 : decode cX12_drain 14 = .ok (.invokestatic 279, 3) := by decide +kernel
theorem dX12_drain_17 : decode cX12_drain 17 = .ok (.iconst 1, 1) := by decide +kernel
theorem dX12_drain_18 : decode cX12_drain 18 = .ok (.iconst 1, 1) := by decide +kernel
theorem dX12_drain_19 : decode cX12_drain 19 = .ok (.invokevirtual 175, 3) := by decide +kernel
theorem dX12_drain_2 : decode cX12_drain 2 = .ok (.putfield 1, 3) := by decide +kernel
theorem dX12_drain_22 : decode cX12_drain 22 = .ok (.ifCond .eq 18, 3) := by decide +kernel
theorem dX12_drain_40 : decode cX12_drain 40 = .ok (.iconst 0, 1) := by decide +kernel
theorem dX12_drain_41 : decode cX12_drain 41 = .ok (.ireturn, 1) := by decide +kernel
theorem dX12_drain_5 : decode cX12_drain 5 = .ok (.aload_n 0, 1) := by decide +kernel
theorem dX12_drain_6 : decode cX12_drain 6 = .ok (.iload_n 1, 1) := by decide +kernel
theorem dX12_drain_7 : decode cX12_drain 7 = .ok (.iconst 0, 1) := by decide +kernel
theorem dX12_drain_8 : decode cX12_drain 8 = .ok (.aload_n 0, 1) := by decide +kernel
theorem dX12_drain_9 : decode cX12_drain 9 = .ok (.invokevirtual 283, 3) := by decide +kernel
theorem dX12_leaves_0 : decode cX12_leaves 0 = .ok (.aload_n 0, 1) := by decide +kernel
theorem dX12_leaves_1 : decode cX12_leaves 1 = .ok (.iconst 0, 1) := by decide +kernel
theorem dX12_leaves_12 : decode cX12_leaves 12 = .ok (.iconst 1, 1) := by decide +kernel
theorem dX12_leaves_13 : decode cX12_leaves 13 = .ok (.isub, 1) := by decide +kernel
theorem dX12_leaves_14 : decode cX12_leaves 14 = .ok (.invokestatic 279, 3) := by decide +kernel
theorem dX12_leaves_17 : decode cX12_leaves 17 = .ok (.iconst 1, 1) := by decide +kernel
theorem dX12_leaves_18 : decode cX12_leaves 18 = .ok (.iconst 1, 1) := by decide +kernel
theorem dX12_leaves_19 : decode cX12_leaves 19 = .ok (.invokevirtual 175, 3) := by decide +kernel
theorem dX12_leaves_2 : decode cX12_leaves 2 = .ok (.putfield 1, 3) := by decide +kernel
theorem dX12_leaves_22 : decode cX12_leaves 22 = .ok (.ifCond .eq 37, 3) := by decide +kernel
theorem dX12_leaves_5 : decode cX12_leaves 5 = .ok (.aload_n 0, 1) := by decide +kernel
theorem dX12_leaves_59 : decode cX12_leaves 59 = .ok (.iconst 0, 1) := by decide +kernel
theorem dX12_leaves_6 : decode cX12_leaves 6 = .ok (.iload_n 1, 1) := by decide +kernel
theorem dX12_leaves_60 : decode cX12_leaves 60 = .ok (.ireturn, 1) := by decide +kernel
theorem dX12_leaves_7 : decode cX12_leaves 7 = .ok (.iconst 0, 1) := by decide +kernel
theorem dX12_leaves_8 : decode cX12_leaves 8 = .ok (.aload_n 0, 1) := by decide +kernel
theorem dX12_leaves_9 : decode cX12_leaves 9 = .ok (.invokevirtual 283, 3) := by decide +kernel
theorem dX12_look_0 : decode cX12_look 0 = .ok (.aload_n 0, 1) := by decide +kernel
theorem dX12_look_1 : decode cX12_look 1 = .ok (.iconst 0, 1) := by decide +kernel
theorem dX12_look_11 : decode cX12_look 11 = .ok (.ifCond .eq 26, 3) := by decide +kernel
theorem dX12_look_2 : decode cX12_look 2 = .ok (.putfield 1, 3) := by decide +kernel
theorem dX12_look_37 : decode cX12_look 37 = .ok (.iconst 0, 1) := by decide +kernel
theorem dX12_look_38 : decode cX12_look 38 = .ok (.ireturn, 1) := by decide +kernel
theorem dX12_look_5 : decode cX12_look 5 = .ok (.aload_n 0, 1) := by decide +kernel
theorem dX12_look_6 : decode cX12_look 6 = .ok (.iload_n 1, 1) := by decide +kernel
theorem dX12_look_7 : decode cX12_look 7 = .ok (.iconst 1, 1) := by decide +kernel
theorem dX12_look_8 : decode cX12_look 8 = .ok (.invokevirtual 324, 3) := by decide +kernel
theorem dX12_meant_0 : decode cX12_meant 0 = .ok (.aload_n 0, 1) := by decide +kernel
theorem dX12_meant_1 : decode cX12_meant 1 = .ok (.iconst 0, 1) := by decide +kernel
theorem dX12_meant_12 : decode cX12_meant 12 = .ok (.ifCond .eq 59, 3) := by decide +kernel
theorem dX12_meant_2 : decode cX12_meant 2 = .ok (.putfield 1, 3) := by decide +kernel
theorem dX12_meant_5 : decode cX12_meant 5 = .ok (.aload_n 0, 1) := by decide +kernel
theorem dX12_meant_6 : decode cX12_meant 6 = .ok (.iload_n 2, 1) := by decide +kernel
theorem dX12_meant_7 : decode cX12_meant 7 = .ok (.iload_n 3, 1) := by decide +kernel
theorem dX12_meant_71 : decode cX12_meant 71 = .ok (.iconst 0, 1) := by decide +kernel
theorem dX12_meant_72 : decode cX12_meant 72 = .ok (.ireturn, 1) := by decide +kernel
theorem dX12_meant_8 : decode cX12_meant 8 = .ok (.iconst 1, 1) := by decide +kernel
theorem dX12_meant_9 : decode cX12_meant 9 = .ok (.invokevirtual 286, 3) := by decide +kernel
theorem dX12_mend_0 : decode cX12_mend 0 = .ok (.aload_n 0, 1) := by decide +kernel
theorem dX12_mend_1 : decode cX12_mend 1 = .ok (.iconst 0, 1) := by decide +kernel
theorem dX12_mend_12 : decode cX12_mend 12 = .ok (.ifCond .eq 56, 3) := by decide +kernel
theorem dX12_mend_2 : decode cX12_mend 2 = .ok (.putfield 1, 3) := by decide +kernel
theorem dX12_mend_5 : decode cX12_mend 5 = .ok (.aload_n 0, 1) := by decide +kernel
theorem dX12_mend_6 : decode cX12_mend 6 = .ok (.iload_n 2, 1) := by decide +kernel
theorem dX12_mend_68 : decode cX12_mend 68 = .ok (.iconst 0, 1) := by decide +kernel
theorem dX12_mend_69 : decode cX12_mend 69 = .ok (.ireturn, 1) := by decide +kernel
theorem dX12_mend_7 : decode cX12_mend 7 = .ok (.iload_n 3, 1) := by decide +kernel
theorem dX12_mend_8 : decode cX12_mend 8 = .ok (.iconst 1, 1) := by decide +kernel
theorem dX12_mend_9 : decode cX12_mend 9 = .ok (.invokevirtual 286, 3) := by decide +kernel
theorem dX12_moved_0 : decode cX12_moved 0 = .ok (.aload_n 0, 1) := by decide +kernel
theorem dX12_moved_1 : decode cX12_moved 1 = .ok (.iconst 0, 1) := by decide +kernel
theorem dX12_moved_11 : decode cX12_moved 11 = .ok (.ifCond .eq 26, 3) := by decide +kernel
theorem dX12_moved_2 : decode cX12_moved 2 = .ok (.putfield 1, 3) := by decide +kernel
theorem dX12_moved_37 : decode cX12_moved 37 = .ok (.iconst 0, 1) := by decide +kernel
theorem dX12_moved_38 : decode cX12_moved 38 = .ok (.ireturn, 1) := by decide +kernel
theorem dX12_moved_5 : decode cX12_moved 5 = .ok (.aload_n 0, 1) := by decide +kernel
theorem dX12_moved_6 : decode cX12_moved 6 = .ok (.iload_n 1, 1) := by decide +kernel
theorem dX12_moved_7 : decode cX12_moved 7 = .ok (.iconst 1, 1) := by decide +kernel
theorem dX12_moved_8 : decode cX12_moved 8 = .ok (.invokevirtual 334, 3) := by decide +kernel
theorem dX12_pace_0 : decode cX12_pace 0 = .ok (.aload_n 0, 1) := by decide +kernel
theorem dX12_pace_1 : decode cX12_pace 1 = .ok (.iconst 0, 1) := by decide +kernel
theorem dX12_pace_11 : decode cX12_pace 11 = .ok (.ifCond .eq 48, 3) := by decide +kernel
theorem dX12_pace_2 : decode cX12_pace 2 = .ok (.putfield 1, 3) := by decide +kernel
theorem dX12_pace_5 : decode cX12_pace 5 = .ok (.aload_n 0, 1) := by decide +kernel
theorem dX12_pace_59 : decode cX12_pace 59 = .ok (.iconst 0, 1) := by decide +kernel
theorem dX12_pace_6 : decode cX12_pace 6 = .ok (.iload_n 1, 1) := by decide +kernel
theorem dX12_pace_60 : decode cX12_pace 60 = .ok (.ireturn, 1) := by decide +kernel
theorem dX12_pace_7 : decode cX12_pace 7 = .ok (.iconst 1, 1) := by decide +kernel
theorem dX12_pace_8 : decode cX12_pace 8 = .ok (.invokevirtual 334, 3) := by decide +kernel
theorem dX12_pass__0 : decode cX12_pass_ 0 = .ok (.aload_n 0, 1) := by decide +kernel
theorem dX12_pass__1 : decode cX12_pass_ 1 = .ok (.iconst 0, 1) := by decide +kernel
theorem dX12_pass__11 : decode cX12_pass_ 11 = .ok (.ifCond .eq 11, 3) := by decide +kernel
theorem dX12_pass__2 : decode cX12_pass_ 2 = .ok (.putfield 1, 3) := by decide +kernel
theorem dX12_pass__22 : decode cX12_pass_ 22 = .ok (.iconst 0, 1) := by decide +kernel
theorem dX12_pass__23 : decode cX12_pass_ 23 = .ok (.ireturn, 1) := by decide +kernel
theorem dX12_pass__5 : decode cX12_pass_ 5 = .ok (.aload_n 0, 1) := by decide +kernel
theorem dX12_pass__6 : decode cX12_pass_ 6 = .ok (.iload_n 1, 1) := by decide +kernel
theorem dX12_pass__7 : decode cX12_pass_ 7 = .ok (.iconst 1, 1) := by decide +kernel
theorem dX12_pass__8 : decode cX12_pass_ 8 = .ok (.invokevirtual 334, 3) := by decide +kernel
theorem dX12_person_0 : decode cX12_person 0 = .ok (.aload_n 0, 1) := by decide +kernel
theorem dX12_person_1 : decode cX12_person 1 = .ok (.iconst 0, 1) := by decide +kernel
theorem dX12_person_12 : decode cX12_person 12 = .ok (.iconst 3, 1) := by decide +kernel
theorem dX12_person_13 : decode cX12_person 13 = .ok (.iaload, 1) := by decide +kernel
theorem dX12_person_14 : decode cX12_person 14 = .ok (.iconst 1, 1) := by decide +kernel
theorem dX12_person_15 : decode cX12_person 15 = .ok (.isub, 1) := by decide +kernel
theorem dX12_person_16 : decode cX12_person 16 = .ok (.invokestatic 279, 3) := by decide +kernel
theorem dX12_person_19 : decode cX12_person 19 = .ok (.iconst 1, 1) := by decide +kernel
theorem dX12_person_2 : decode cX12_person 2 = .ok (.putfield 1, 3) := by decide +kernel
theorem dX12_person_20 : decode cX12_person 20 = .ok (.iconst 1, 1) := by decide +kernel
theorem dX12_person_21 : decode cX12_person 21 = .ok (.invokevirtual 175, 3) := by decide +kernel
theorem dX12_person_24 : decode cX12_person 24 = .ok (.ifCond .eq 18, 3) := by decide +kernel
theorem dX12_person_42 : decode cX12_person 42 = .ok (.iconst 0, 1) := by decide +kernel
theorem dX12_person_43 : decode cX12_person 43 = .ok (.ireturn, 1) := by decide +kernel
theorem dX12_person_5 : decode cX12_person 5 = .ok (.aload_n 0, 1) := by decide +kernel
theorem dX12_person_6 : decode cX12_person 6 = .ok (.iload_n 1, 1) := by decide +kernel
theorem dX12_person_7 : decode cX12_person 7 = .ok (.iconst 0, 1) := by decide +kernel
theorem dX12_person_8 : decode cX12_person 8 = .ok (.aload_n 0, 1) := by decide +kernel
theorem dX12_person_9 : decode cX12_person 9 = .ok (.getfield 23, 3) := by decide +kernel
theorem dX12_says_0 : decode cX12_says 0 = .ok (.aload_n 0, 1) := by decide +kernel
theorem dX12_says_1 : decode cX12_says 1 = .ok (.iconst 0, 1) := by decide +kernel
theorem dX12_says_11 : decode cX12_says 11 = .ok (.ifCond .eq 18, 3) := by decide +kernel
theorem dX12_says_2 : decode cX12_says 2 = .ok (.putfield 1, 3) := by decide +kernel
theorem dX12_says_29 : decode cX12_says 29 = .ok (.iconst 0, 1) := by decide +kernel
theorem dX12_says_30 : decode cX12_says 30 = .ok (.ireturn, 1) := by decide +kernel
theorem dX12_says_5 : decode cX12_says 5 = .ok (.aload_n 0, 1) := by decide +kernel
theorem dX12_says_6 : decode cX12_says 6 = .ok (.iload_n 1, 1) := by decide +kernel
theorem dX12_says_7 : decode cX12_says 7 = .ok (.iconst 1, 1) := by decide +kernel
theorem dX12_says_8 : decode cX12_says 8 = .ok (.invokevirtual 334, 3) := by decide +kernel
theorem dX12_shower_0 : decode cX12_shower 0 = .ok (.aload_n 0, 1) := by decide +kernel
theorem dX12_shower_1 : decode cX12_shower 1 = .ok (.iconst 0, 1) := by decide +kernel
theorem dX12_shower_11 : decode cX12_shower 11 = .ok (.ifCond .eq 11, 3) := by decide +kernel
theorem dX12_shower_2 : decode cX12_shower 2 = .ok (.putfield 1, 3) := by decide +kernel
theorem dX12_shower_22 : decode cX12_shower 22 = .ok (.iconst 0, 1) := by decide +kernel
theorem dX12_shower_23 : decode cX12_shower 23 = .ok (.ireturn, 1) := by decide +kernel
theorem dX12_shower_5 : decode cX12_shower 5 = .ok (.aload_n 0, 1) := by decide +kernel
theorem dX12_shower_6 : decode cX12_shower 6 = .ok (.iload_n 1, 1) := by decide +kernel
theorem dX12_shower_7 : decode cX12_shower 7 = .ok (.iconst 1, 1) := by decide +kernel
theorem dX12_shower_8 : decode cX12_shower 8 = .ok (.invokevirtual 324, 3) := by decide +kernel
theorem dX12_stand_0 : decode cX12_stand 0 = .ok (.aload_n 0, 1) := by decide +kernel
theorem dX12_stand_1 : decode cX12_stand 1 = .ok (.iconst 0, 1) := by decide +kernel
theorem dX12_stand_11 : decode cX12_stand 11 = .ok (.ifCond .eq 44, 3) := by decide +kernel
theorem dX12_stand_2 : decode cX12_stand 2 = .ok (.putfield 1, 3) := by decide +kernel
theorem dX12_stand_5 : decode cX12_stand 5 = .ok (.aload_n 0, 1) := by decide +kernel
theorem dX12_stand_55 : decode cX12_stand 55 = .ok (.iconst 0, 1) := by decide +kernel
theorem dX12_stand_56 : decode cX12_stand 56 = .ok (.ireturn, 1) := by decide +kernel
theorem dX12_stand_6 : decode cX12_stand 6 = .ok (.iload_n 1, 1) := by decide +kernel
theorem dX12_stand_7 : decode cX12_stand 7 = .ok (.iconst 1, 1) := by decide +kernel
theorem dX12_stand_8 : decode cX12_stand 8 = .ok (.invokevirtual 334, 3) := by decide +kernel
theorem dX12_traffic_0 : decode cX12_traffic 0 = .ok (.aload_n 0, 1) := by decide +kernel
theorem dX12_traffic_1 : decode cX12_traffic 1 = .ok (.iconst 0, 1) := by decide +kernel
theorem dX12_traffic_10 : decode cX12_traffic 10 = .ok (.invokestatic 279, 3) := by decide +kernel
theorem dX12_traffic_13 : decode cX12_traffic 13 = .ok (.ifCond .eq 20, 3) := by decide +kernel
theorem dX12_traffic_16 : decode cX12_traffic 16 = .ok (.aload_n 0, 1) := by decide +kernel
theorem dX12_traffic_17 : decode cX12_traffic 17 = .ok (.iload_n 2, 1) := by decide +kernel
theorem dX12_traffic_18 : decode cX12_traffic 18 = .ok (.iload_n 3, 1) := by decide +kernel
theorem dX12_traffic_19 : decode cX12_traffic 19 = .ok (.iload 4, 2) := by decide +kernel
theorem dX12_traffic_2 : decode cX12_traffic 2 = .ok (.putfield 1, 3) := by decide +kernel
theorem dX12_traffic_21 : decode cX12_traffic 21 = .ok (.iload 5, 2) := by decide +kernel
theorem dX12_traffic_23 : decode cX12_traffic 23 = .ok (.invokevirtual 367, 3) := by decide +kernel
theorem dX12_traffic_26 : decode cX12_traffic 26 = .ok (.ifCond .eq 7, 3) := by decide +kernel
theorem dX12_traffic_33 : decode cX12_traffic 33 = .ok (.iconst 0, 1) := by decide +kernel
theorem dX12_traffic_34 : decode cX12_traffic 34 = .ok (.iconst 1, 1) := by decide +kernel
theorem dX12_traffic_35 : decode cX12_traffic 35 = .ok (.iconst 2, 1) := by decide +kernel
theorem dX12_traffic_36 : decode cX12_traffic 36 = .ok (.invokevirtual 175, 3) := by decide +kernel
theorem dX12_traffic_39 : decode cX12_traffic 39 = .ok (.ifCond .ne 5, 3) := by decide +kernel
theorem dX12_traffic_42 : decode cX12_traffic 42 = .ok (.iconst 0, 1) := by decide +kernel
theorem dX12_traffic_43 : decode cX12_traffic 43 = .ok (.ireturn, 1) := by decide +kernel
theorem dX12_traffic_5 : decode cX12_traffic 5 = .ok (.aload_n 0, 1) := by decide +kernel
theorem dX12_traffic_6 : decode cX12_traffic 6 = .ok (.iload_n 1, 1) := by decide +kernel
theorem dX12_traffic_7 : decode cX12_traffic 7 = .ok (.iconst 0, 1) := by decide +kernel
theorem dX12_traffic_8 : decode cX12_traffic 8 = .ok (.bipush 99, 2) := by decide +kernel
theorem dX12_when_0 : decode cX12_when 0 = .ok (.aload_n 0, 1) := by decide +kernel
theorem dX12_when_1 : decode cX12_when 1 = .ok (.iconst 0, 1) := by decide +kernel
theorem dX12_when_12 : decode cX12_when 12 = .ok (.ifCond .eq 38, 3) := by decide +kernel
theorem dX12_when_2 : decode cX12_when 2 = .ok (.putfield 1, 3) := by decide +kernel
theorem dX12_when_5 : decode cX12_when 5 = .ok (.aload_n 0, 1) := by decide +kernel
theorem dX12_when_50 : decode cX12_when 50 = .ok (.iconst 0, 1) := by decide +kernel
theorem dX12_when_51 : decode cX12_when 51 = .ok (.ireturn, 1) := by decide +kernel
theorem dX12_when_6 : decode cX12_when 6 = .ok (.iload_n 2, 1) := by decide +kernel
theorem dX12_when_7 : decode cX12_when 7 = .ok (.iload_n 3, 1) := by decide +kernel
theorem dX12_when_8 : decode cX12_when 8 = .ok (.iconst 1, 1) := by decide +kernel
theorem dX12_when_9 : decode cX12_when 9 = .ok (.invokevirtual 286, 3) := by decide +kernel
theorem dX12_work_0 : decode cX12_work 0 = .ok (.aload_n 0, 1) := by decide +kernel
theorem dX12_work_1 : decode cX12_work 1 = .ok (.iconst 0, 1) := by decide +kernel
theorem dX12_work_10 : decode cX12_work 10 = .ok (.ifCond .eq 18, 3) := by decide +kernel
theorem dX12_work_2 : decode cX12_work 2 = .ok (.putfield 1, 3) := by decide +kernel
theorem dX12_work_28 : decode cX12_work 28 = .ok (.iconst 0, 1) := by decide +kernel
theorem dX12_work_29 : decode cX12_work 29 = .ok (.ireturn, 1) := by decide +kernel
theorem dX12_work_5 : decode cX12_work 5 = .ok (.aload_n 0, 1) := by decide +kernel
theorem dX12_work_6 : decode cX12_work 6 = .ok (.iload_n 1, 1) := by decide +kernel
theorem dX12_work_7 : decode cX12_work 7 = .ok (.invokevirtual 300, 3) := by decide +kernel
def vs_m_cell : List Cond := .code yX12_cell cX12_cell 5 (some .int) :: (([.fieldLink RX12 1 "KerbSplashModel" "thrown" "I"] : List Cond) ++ ((wsX120) ++ ((wsV RX12 286 RX12 yX12_isCell vs_c_isCell) ++ ([]))))
set_option maxHeartbeats 4000000 in
set_option maxRecDepth 100000 in
theorem m_cell (l : Launch) (hl : l.stackTraces = false) (D : va_G) (cy : Nat → ClassId) (sa : Nat → Nat) (mo : Nat) (ma : Nat → Nat) (p0 p1 p2 : Int32) (sz : Nat) : Met l yX12_cell vs_m_cell ({ frames := 2, cells := 0, slots := 0, locals := 46 }) (va_Pc [.ref mo, .int p0, .int p1, .int p2] (pcW D cy sa sz [(mo, .inr (12, [.int 0, .ref (ma 1), .int 0, .int 0, .int 0, .int 0, .int 0, .int 0, .int (-1), .ref (ma 9), .ref (ma 10), .ref (ma 11), .ref (ma 12), .ref (ma 13), .ref (ma 14), .ref (ma 15), .int 0, .int 0, .int 0, .ref (ma 19), .ref (ma 20), .ref (ma 21), .int 0, .ref (ma 23), .ref (ma 24), .ref (ma 25), .ref (ma 26), .ref (ma 27), .ref (ma 28), .int 0, .int 0, .int 0, .int 0, .ref (ma 33), .int (-1), .ref (ma 35), .int 0, .int 0])), ((ma 1), .inl (cy 0, 4, .inl (fun _ => 0))), ((ma 10), .inl (cy 0, 68, .inl (fun _ => 0)))])) (va_Qi (fun (r : Int32) (u : SU) => (r = 0)) (fun u t => atW D (va_A [(mo, .inr (12, [.int 0, .ref (ma 1), .int 0, .int 0, .int 0, .int 0, .int 0, .int 0, .int (-1), .ref (ma 9), .ref (ma 10), .ref (ma 11), .ref (ma 12), .ref (ma 13), .ref (ma 14), .ref (ma 15), .int 0, .int 0, .int 0, .ref (ma 19), .ref (ma 20), .ref (ma 21), .int 0, .ref (ma 23), .ref (ma 24), .ref (ma 25), .ref (ma 26), .ref (ma 27), .ref (ma 28), .int 0, .int 0, .int 0, .int 0, .ref (ma 33), .int (-1), .ref (ma 35), .int 0, .int 0])), ((ma 1), .inl (cy 0, 4, .inl (fun _ => 0))), ((ma 10), .inl (cy 0, 68, .inl (fun _ => 0)))] sz) [(mo, .inr (12, [.int 1, .ref (ma 1), .int 0, .int 0, .int 0, .int 0, .int 0, .int 0, .int (-1), .ref (ma 9), .ref (ma 10), .ref (ma 11), .ref (ma 12), .ref (ma 13), .ref (ma 14), .ref (ma 15), .int 0, .int 0, .int 0, .ref (ma 19), .ref (ma 20), .ref (ma 21), .int 0, .ref (ma 23), .ref (ma 24), .ref (ma 25), .ref (ma 26), .ref (ma 27), .ref (ma 28), .int 0, .int 0, .int 0, .int 0, .ref (ma 33), .int (-1), .ref (ma 35), .int 0, .int 0]))] t) (va_A [(mo, .inr (12, [.int 0, .ref (ma 1), .int 0, .int 0, .int 0, .int 0, .int 0, .int 0, .int (-1), .ref (ma 9), .ref (ma 10), .ref (ma 11), .ref (ma 12), .ref (ma 13), .ref (ma 14), .ref (ma 15), .int 0, .int 0, .int 0, .ref (ma 19), .ref (ma 20), .ref (ma 21), .int 0, .ref (ma 23), .ref (ma 24), .ref (ma 25), .ref (ma 26), .ref (ma 27), .ref (ma 28), .int 0, .int 0, .int 0, .int 0, .ref (ma 33), .int (-1), .ref (ma 35), .int 0, .int 0])), ((ma 1), .inl (cy 0, 4, .inl (fun _ => 0))), ((ma 10), .inl (cy 0, 68, .inl (fun _ => 0)))] sz)) 0 0 (va_A [(mo, .inr (12, [.int 0, .ref (ma 1), .int 0, .int 0, .int 0, .int 0, .int 0, .int 0, .int (-1), .ref (ma 9), .ref (ma 10), .ref (ma 11), .ref (ma 12), .ref (ma 13), .ref (ma 14), .ref (ma 15), .int 0, .int 0, .int 0, .ref (ma 19), .ref (ma 20), .ref (ma 21), .int 0, .ref (ma 23), .ref (ma 24), .ref (ma 25), .ref (ma 26), .ref (ma 27), .ref (ma 28), .int 0, .int 0, .int 0, .int 0, .ref (ma 33), .int (-1), .ref (ma 35), .int 0, .int 0])), ((ma 1), .inl (cy 0, 4, .inl (fun _ => 0))), ((ma 10), .inl (cy 0, 68, .inl (fun _ => 0)))] sz) := by
  refine Met.ofW (cc := cX12_cell) (maxL := 5) (ret := (some .int)) (by decide) rfl ?_
  intro p e s m args below meth c s₁ B hml hv
  obtain ⟨rfl, hsz, hP, hG, hD0, hT⟩ := hv
  have hx := B.exec
  have hb := B.bytes
  have hr := B.returns
  have hts := atoms_spec (ws := vs_m_cell) B.pre
  have hown : s.vm.findClass RX12 = some m.cls := findClass_of_methodNamed B.named
  have hlocks := B.notSynchronized
  subst hsz
  have hD := hD0.self (sz := s.heap.size)
  generalize hAe : va_A [(mo, .inr (12, [.int 0, .ref (ma 1), .int 0, .int 0, .int 0, .int 0, .int 0, .int 0, .int (-1), .ref (ma 9), .ref (ma 10), .ref (ma 11), .ref (ma 12), .ref (ma 13), .ref (ma 14), .ref (ma 15), .int 0, .int 0, .int 0, .ref (ma 19), .ref (ma 20), .ref (ma 21), .int 0, .ref (ma 23), .ref (ma 24), .ref (ma 25), .ref (ma 26), .ref (ma 27), .ref (ma 28), .int 0, .int 0, .int 0, .int 0, .ref (ma 33), .int (-1), .ref (ma 35), .int 0, .int 0])), ((ma 1), .inl (cy 0, 4, .inl (fun _ => 0))), ((ma 10), .inl (cy 0, 68, .inl (fun _ => 0)))] s.heap.size = A at hD hT ⊢
  have hA : ∀ q : Nat, s.heap.size ≤ q → A q := fun q h => by rw [← hAe]; exact Or.inr h
  have hS : va_S A s.heap s.heap [] := va_S.rf
  have hl0 := lv_entry ([.ref mo, .int p0, .int p1, .int p2]) (n := 5) (Nat.le_of_ble_eq_true rfl)
  rw [lg_entry_eq]
  generalize (lg_sl ([.ref mo, .int p0, .int p1, .int p2]) ++ List.replicate (5 - (lg_sl ([.ref mo, .int p0, .int p1, .int p2])).length) Slot.unset).toArray = ls at hl0 ⊢
  have hlv : lv_has ls 5 [(0, .ref mo), (1, .int p0), (2, .int p1), (3, .int p2)] := hl0
  have lf1 := hts (.fieldLink RX12 1 "KerbSplashModel" "thrown" "I") (List.mem_of_getElem? (i := 1) rfl)
  have hi12 : ∀ w ∈ wsX120, w ∈ vs_m_cell := fun w h => List.mem_cons_of_mem _ (List.mem_append_right _ (List.mem_append_left _ h))
  have gg_1 : GoodIn vs_m_cell (wsV RX12 286 RX12 yX12_isCell vs_c_isCell) := goodIn_sub (fun w h => List.mem_cons_of_mem _ (List.mem_append_right _ (List.mem_append_right _ (List.mem_append_left _ h)))) (by decide +kernel)
  refine lv_aload_n hx hb dX12_cell_0 rfl (lv_at hlv 0 rfl) ?_
  refine lv_iconst (v := 0) hx hb dX12_cell_1 (by decide) ?_
  refine va_put (D := D) (ci := 12) (v := .int 0) (ty := .int) (C := RX12) (T := TX12) (N := 38) hx hb hts hi12 tyX12 tyX12_ok nmX12 hown hG.1 hP hD hS 0 rfl rfl 0 (by decide) lf1 (fun _ h9 => h9) rfl (by decide +kernel) rfl rfl (Nat.le_of_ble_eq_true rfl) dX12_cell_2 (fun H locs hP hD hS => ?_)
  have hP : va_P D vwCl [(mo, .inr (12, [.int 0, .ref (ma 1), .int 0, .int 0, .int 0, .int 0, .int 0, .int 0, .int (-1), .ref (ma 9), .ref (ma 10), .ref (ma 11), .ref (ma 12), .ref (ma 13), .ref (ma 14), .ref (ma 15), .int 0, .int 0, .int 0, .ref (ma 19), .ref (ma 20), .ref (ma 21), .int 0, .ref (ma 23), .ref (ma 24), .ref (ma 25), .ref (ma 26), .ref (ma 27), .ref (ma 28), .int 0, .int 0, .int 0, .int 0, .ref (ma 33), .int (-1), .ref (ma 35), .int 0, .int 0])), ((ma 1), .inl (cy 0, 4, .inl (fun _ => 0))), ((ma 10), .inl (cy 0, 68, .inl (fun _ => 0)))] H := hP
  have hD : va_D A [(mo, .inr (12, [.int 0, .ref (ma 1), .int 0, .int 0, .int 0, .int 0, .int 0, .int 0, .int (-1), .ref (ma 9), .ref (ma 10), .ref (ma 11), .ref (ma 12), .ref (ma 13), .ref (ma 14), .ref (ma 15), .int 0, .int 0, .int 0, .ref (ma 19), .ref (ma 20), .ref (ma 21), .int 0, .ref (ma 23), .ref (ma 24), .ref (ma 25), .ref (ma 26), .ref (ma 27), .ref (ma 28), .int 0, .int 0, .int 0, .int 0, .ref (ma 33), .int (-1), .ref (ma 35), .int 0, .int 0])), ((ma 1), .inl (cy 0, 4, .inl (fun _ => 0))), ((ma 10), .inl (cy 0, 68, .inl (fun _ => 0)))] := hD
  refine lv_aload_n hx hb dX12_cell_5 rfl (lv_at hlv 0 rfl) ?_
  refine lv_iload_n hx hb dX12_cell_6 rfl (lv_at hlv 1 rfl) ?_
  refine lv_iload_n hx hb dX12_cell_7 rfl (lv_at hlv 2 rfl) ?_
  refine lv_iconst (v := 1) hx hb dX12_cell_8 (by decide) ?_
  refine cj_i (wr := []) (va_runV (As := [.int p0, .int p1, .int 1]) (rest := []) ⟨hx, hb, hml, hown, hts⟩ (c_isCell l hl D cy sa mo ma p0 p1 1 H.size (by decide)) (cwV 3 hts gg_1 rfl rfl rfl (by decide +kernel) ⟨Nat.le_of_ble_eq_true rfl, Nat.le_of_ble_eq_true rfl⟩) ⟨pcW.blind, (va_recv hG.1 hP (ci := 12) (q0 := 0) rfl rfl), (pcW.mk hP hD hS hA hG hT [0, 1, 2] rfl (by decide))⟩ rfl rfl hlv.1 rfl (lv_room (Nat.le_of_ble_eq_true rfl)) dX12_cell_9 ⟨Nat.le_of_ble_eq_true rfl, Nat.le_of_ble_eq_true rfl⟩) hP hD hS hA [0, 1, 2] [] rfl rfl (by decide) (by decide) (fun r1 u1 H locs hw1 hP hD hS => ?_)
  obtain rfl := hw1
  have hP : va_P D vwCl [(mo, .inr (12, [.int 1, .ref (ma 1), .int 0, .int 0, .int 0, .int 0, .int 0, .int 0, .int (-1), .ref (ma 9), .ref (ma 10), .ref (ma 11), .ref (ma 12), .ref (ma 13), .ref (ma 14), .ref (ma 15), .int 0, .int 0, .int 0, .ref (ma 19), .ref (ma 20), .ref (ma 21), .int 0, .ref (ma 23), .ref (ma 24), .ref (ma 25), .ref (ma 26), .ref (ma 27), .ref (ma 28), .int 0, .int 0, .int 0, .int 0, .ref (ma 33), .int (-1), .ref (ma 35), .int 0, .int 0]))] H := hP
  have hD : va_D A [(mo, .inr (12, [.int 1, .ref (ma 1), .int 0, .int 0, .int 0, .int 0, .int 0, .int 0, .int (-1), .ref (ma 9), .ref (ma 10), .ref (ma 11), .ref (ma 12), .ref (ma 13), .ref (ma 14), .ref (ma 15), .int 0, .int 0, .int 0, .ref (ma 19), .ref (ma 20), .ref (ma 21), .int 0, .ref (ma 23), .ref (ma 24), .ref (ma 25), .ref (ma 26), .ref (ma 27), .ref (ma 28), .int 0, .int 0, .int 0, .int 0, .ref (ma 33), .int (-1), .ref (ma 35), .int 0, .int 0]))] := hD
  refine lv_if_eq (tgt := 30) hx hb dX12_cell_12 (by decide) (fun _ => ?_) (fun c => absurd (by decide) c)
  refine lv_iconst (v := 0) hx hb dX12_cell_30 (by decide) ?_
  refine W.widen (k := 0) (n := 0) (Nat.le_of_ble_eq_true rfl) (Nat.le_of_ble_eq_true rfl) ?_
  exact W.iret (v := 0) hx hb hr (fun t ht hW => ⟨⟨0, ((fun k => ([] : List Nat).getD k 0), (fun k => ([] : List Int32).getD k 0), (fun k => ([] : List (Nat → Int32)).getD k (fun _ => 0))), rfl, (by first | (exact (by rfl))), by rw [ht]; exact hP.sub [0] rfl, hD.sub [0] (by decide) rfl⟩, hS.F ht⟩) hS.2.2 dX12_cell_31
def vs_m_deep : List Cond := .code yX12_deep cX12_deep 5 (some .int) :: (([.fieldLink RX12 1 "KerbSplashModel" "thrown" "I"] : List Cond) ++ ((wsX120) ++ ((wsV RX12 286 RX12 yX12_isCell vs_c_isCell) ++ ([]))))
set_option maxHeartbeats 4000000 in
set_option maxRecDepth 100000 in
theorem m_deep (l : Launch) (hl : l.stackTraces = false) (D : va_G) (cy : Nat → ClassId) (sa : Nat → Nat) (mo : Nat) (ma : Nat → Nat) (p0 p1 p2 : Int32) (sz : Nat) : Met l yX12_deep vs_m_deep ({ frames := 2, cells := 0, slots := 0, locals := 46 }) (va_Pc [.ref mo, .int p0, .int p1, .int p2] (pcW D cy sa sz [(mo, .inr (12, [.int 0, .ref (ma 1), .int 0, .int 0, .int 0, .int 0, .int 0, .int 0, .int (-1), .ref (ma 9), .ref (ma 10), .ref (ma 11), .ref (ma 12), .ref (ma 13), .ref (ma 14), .ref (ma 15), .int 0, .int 0, .int 0, .ref (ma 19), .ref (ma 20), .ref (ma 21), .int 0, .ref (ma 23), .ref (ma 24), .ref (ma 25), .ref (ma 26), .ref (ma 27), .ref (ma 28), .int 0, .int 0, .int 0, .int 0, .ref (ma 33), .int (-1), .ref (ma 35), .int 0, .int 0])), ((ma 1), .inl (cy 0, 4, .inl (fun _ => 0))), ((ma 10), .inl (cy 0, 68, .inl (fun _ => 0)))])) (va_Qi (fun (r : Int32) (u : SU) => (r = 0)) (fun u t => atW D (va_A [(mo, .inr (12, [.int 0, .ref (ma 1), .int 0, .int 0, .int 0, .int 0, .int 0, .int 0, .int (-1), .ref (ma 9), .ref (ma 10), .ref (ma 11), .ref (ma 12), .ref (ma 13), .ref (ma 14), .ref (ma 15), .int 0, .int 0, .int 0, .ref (ma 19), .ref (ma 20), .ref (ma 21), .int 0, .ref (ma 23), .ref (ma 24), .ref (ma 25), .ref (ma 26), .ref (ma 27), .ref (ma 28), .int 0, .int 0, .int 0, .int 0, .ref (ma 33), .int (-1), .ref (ma 35), .int 0, .int 0])), ((ma 1), .inl (cy 0, 4, .inl (fun _ => 0))), ((ma 10), .inl (cy 0, 68, .inl (fun _ => 0)))] sz) [(mo, .inr (12, [.int 1, .ref (ma 1), .int 0, .int 0, .int 0, .int 0, .int 0, .int 0, .int (-1), .ref (ma 9), .ref (ma 10), .ref (ma 11), .ref (ma 12), .ref (ma 13), .ref (ma 14), .ref (ma 15), .int 0, .int 0, .int 0, .ref (ma 19), .ref (ma 20), .ref (ma 21), .int 0, .ref (ma 23), .ref (ma 24), .ref (ma 25), .ref (ma 26), .ref (ma 27), .ref (ma 28), .int 0, .int 0, .int 0, .int 0, .ref (ma 33), .int (-1), .ref (ma 35), .int 0, .int 0]))] t) (va_A [(mo, .inr (12, [.int 0, .ref (ma 1), .int 0, .int 0, .int 0, .int 0, .int 0, .int 0, .int (-1), .ref (ma 9), .ref (ma 10), .ref (ma 11), .ref (ma 12), .ref (ma 13), .ref (ma 14), .ref (ma 15), .int 0, .int 0, .int 0, .ref (ma 19), .ref (ma 20), .ref (ma 21), .int 0, .ref (ma 23), .ref (ma 24), .ref (ma 25), .ref (ma 26), .ref (ma 27), .ref (ma 28), .int 0, .int 0, .int 0, .int 0, .ref (ma 33), .int (-1), .ref (ma 35), .int 0, .int 0])), ((ma 1), .inl (cy 0, 4, .inl (fun _ => 0))), ((ma 10), .inl (cy 0, 68, .inl (fun _ => 0)))] sz)) 0 0 (va_A [(mo, .inr (12, [.int 0, .ref (ma 1), .int 0, .int 0, .int 0, .int 0, .int 0, .int 0, .int (-1), .ref (ma 9), .ref (ma 10), .ref (ma 11), .ref (ma 12), .ref (ma 13), .ref (ma 14), .ref (ma 15), .int 0, .int 0, .int 0, .ref (ma 19), .ref (ma 20), .ref (ma 21), .int 0, .ref (ma 23), .ref (ma 24), .ref (ma 25), .ref (ma 26), .ref (ma 27), .ref (ma 28), .int 0, .int 0, .int 0, .int 0, .ref (ma 33), .int (-1), .ref (ma 35), .int 0, .int 0])), ((ma 1), .inl (cy 0, 4, .inl (fun _ => 0))), ((ma 10), .inl (cy 0, 68, .inl (fun _ => 0)))] sz) := by
  refine Met.ofW (cc := cX12_deep) (maxL := 5) (ret := (some .int)) (by decide) rfl ?_
  intro p e s m args below meth c s₁ B hml hv
  obtain ⟨rfl, hsz, hP, hG, hD0, hT⟩ := hv
  have hx := B.exec
  have hb := B.bytes
  have hr := B.returns
  have hts := atoms_spec (ws := vs_m_deep) B.pre
  have hown : s.vm.findClass RX12 = some m.cls := findClass_of_methodNamed B.named
  have hlocks := B.notSynchronized
  subst hsz
  have hD := hD0.self (sz := s.heap.size)
  generalize hAe : va_A [(mo, .inr (12, [.int 0, .ref (ma 1), .int 0, .int 0, .int 0, .int 0, .int 0, .int 0, .int (-1), .ref (ma 9), .ref (ma 10), .ref (ma 11), .ref (ma 12), .ref (ma 13), .ref (ma 14), .ref (ma 15), .int 0, .int 0, .int 0, .ref (ma 19), .ref (ma 20), .ref (ma 21), .int 0, .ref (ma 23), .ref (ma 24), .ref (ma 25), .ref (ma 26), .ref (ma 27), .ref (ma 28), .int 0, .int 0, .int 0, .int 0, .ref (ma 33), .int (-1), .ref (ma 35), .int 0, .int 0])), ((ma 1), .inl (cy 0, 4, .inl (fun _ => 0))), ((ma 10), .inl (cy 0, 68, .inl (fun _ => 0)))] s.heap.size = A at hD hT ⊢
  have hA : ∀ q : Nat, s.heap.size ≤ q → A q := fun q h => by rw [← hAe]; exact Or.inr h
  have hS : va_S A s.heap s.heap [] := va_S.rf
  have hl0 := lv_entry ([.ref mo, .int p0, .int p1, .int p2]) (n := 5) (Nat.le_of_ble_eq_true rfl)
  rw [lg_entry_eq]
  generalize (lg_sl ([.ref mo, .int p0, .int p1, .int p2]) ++ List.replicate (5 - (lg_sl ([.ref mo, .int p0, .int p1, .int p2])).length) Slot.unset).toArray = ls at hl0 ⊢
  have hlv : lv_has ls 5 [(0, .ref mo), (1, .int p0), (2, .int p1), (3, .int p2)] := hl0
  have lf1 := hts (.fieldLink RX12 1 "KerbSplashModel" "thrown" "I") (List.mem_of_getElem? (i := 1) rfl)
  have hi12 : ∀ w ∈ wsX120, w ∈ vs_m_deep := fun w h => List.mem_cons_of_mem _ (List.mem_append_right _ (List.mem_append_left _ h))
  have gg_1 : GoodIn vs_m_deep (wsV RX12 286 RX12 yX12_isCell vs_c_isCell) := goodIn_sub (fun w h => List.mem_cons_of_mem _ (List.mem_append_right _ (List.mem_append_right _ (List.mem_append_left _ h)))) (by decide +kernel)
  refine lv_aload_n hx hb dX12_deep_0 rfl (lv_at hlv 0 rfl) ?_
  refine lv_iconst (v := 0) hx hb dX12_deep_1 (by decide) ?_
  refine va_put (D := D) (ci := 12) (v := .int 0) (ty := .int) (C := RX12) (T := TX12) (N := 38) hx hb hts hi12 tyX12 tyX12_ok nmX12 hown hG.1 hP hD hS 0 rfl rfl 0 (by decide) lf1 (fun _ h9 => h9) rfl (by decide +kernel) rfl rfl (Nat.le_of_ble_eq_true rfl) dX12_deep_2 (fun H locs hP hD hS => ?_)
  have hP : va_P D vwCl [(mo, .inr (12, [.int 0, .ref (ma 1), .int 0, .int 0, .int 0, .int 0, .int 0, .int 0, .int (-1), .ref (ma 9), .ref (ma 10), .ref (ma 11), .ref (ma 12), .ref (ma 13), .ref (ma 14), .ref (ma 15), .int 0, .int 0, .int 0, .ref (ma 19), .ref (ma 20), .ref (ma 21), .int 0, .ref (ma 23), .ref (ma 24), .ref (ma 25), .ref (ma 26), .ref (ma 27), .ref (ma 28), .int 0, .int 0, .int 0, .int 0, .ref (ma 33), .int (-1), .ref (ma 35), .int 0, .int 0])), ((ma 1), .inl (cy 0, 4, .inl (fun _ => 0))), ((ma 10), .inl (cy 0, 68, .inl (fun _ => 0)))] H := hP
  have hD : va_D A [(mo, .inr (12, [.int 0, .ref (ma 1), .int 0, .int 0, .int 0, .int 0, .int 0, .int 0, .int (-1), .ref (ma 9), .ref (ma 10), .ref (ma 11), .ref (ma 12), .ref (ma 13), .ref (ma 14), .ref (ma 15), .int 0, .int 0, .int 0, .ref (ma 19), .ref (ma 20), .ref (ma 21), .int 0, .ref (ma 23), .ref (ma 24), .ref (ma 25), .ref (ma 26), .ref (ma 27), .ref (ma 28), .int 0, .int 0, .int 0, .int 0, .ref (ma 33), .int (-1), .ref (ma 35), .int 0, .int 0])), ((ma 1), .inl (cy 0, 4, .inl (fun _ => 0))), ((ma 10), .inl (cy 0, 68, .inl (fun _ => 0)))] := hD
  refine lv_aload_n hx hb dX12_deep_5 rfl (lv_at hlv 0 rfl) ?_
  refine lv_iload_n hx hb dX12_deep_6 rfl (lv_at hlv 2 rfl) ?_
  refine lv_iload_n hx hb dX12_deep_7 rfl (lv_at hlv 3 rfl) ?_
  refine lv_iconst (v := 1) hx hb dX12_deep_8 (by decide) ?_
  refine cj_i (wr := []) (va_runV (As := [.int p1, .int p2, .int 1]) (rest := []) ⟨hx, hb, hml, hown, hts⟩ (c_isCell l hl D cy sa mo ma p1 p2 1 H.size (by decide)) (cwV 3 hts gg_1 rfl rfl rfl (by decide +kernel) ⟨Nat.le_of_ble_eq_true rfl, Nat.le_of_ble_eq_true rfl⟩) ⟨pcW.blind, (va_recv hG.1 hP (ci := 12) (q0 := 0) rfl rfl), (pcW.mk hP hD hS hA hG hT [0, 1, 2] rfl (by decide))⟩ rfl rfl hlv.1 rfl (lv_room (Nat.le_of_ble_eq_true rfl)) dX12_deep_9 ⟨Nat.le_of_ble_eq_true rfl, Nat.le_of_ble_eq_true rfl⟩) hP hD hS hA [0, 1, 2] [] rfl rfl (by decide) (by decide) (fun r1 u1 H locs hw1 hP hD hS => ?_)
  obtain rfl := hw1
  have hP : va_P D vwCl [(mo, .inr (12, [.int 1, .ref (ma 1), .int 0, .int 0, .int 0, .int 0, .int 0, .int 0, .int (-1), .ref (ma 9), .ref (ma 10), .ref (ma 11), .ref (ma 12), .ref (ma 13), .ref (ma 14), .ref (ma 15), .int 0, .int 0, .int 0, .ref (ma 19), .ref (ma 20), .ref (ma 21), .int 0, .ref (ma 23), .ref (ma 24), .ref (ma 25), .ref (ma 26), .ref (ma 27), .ref (ma 28), .int 0, .int 0, .int 0, .int 0, .ref (ma 33), .int (-1), .ref (ma 35), .int 0, .int 0]))] H := hP
  have hD : va_D A [(mo, .inr (12, [.int 1, .ref (ma 1), .int 0, .int 0, .int 0, .int 0, .int 0, .int 0, .int (-1), .ref (ma 9), .ref (ma 10), .ref (ma 11), .ref (ma 12), .ref (ma 13), .ref (ma 14), .ref (ma 15), .int 0, .int 0, .int 0, .ref (ma 19), .ref (ma 20), .ref (ma 21), .int 0, .ref (ma 23), .ref (ma 24), .ref (ma 25), .ref (ma 26), .ref (ma 27), .ref (ma 28), .int 0, .int 0, .int 0, .int 0, .ref (ma 33), .int (-1), .ref (ma 35), .int 0, .int 0]))] := hD
  refine lv_if_eq (tgt := 32) hx hb dX12_deep_12 (by decide) (fun _ => ?_) (fun c => absurd (by decide) c)
  refine lv_iconst (v := 0) hx hb dX12_deep_32 (by decide) ?_
  refine W.widen (k := 0) (n := 0) (Nat.le_of_ble_eq_true rfl) (Nat.le_of_ble_eq_true rfl) ?_
  exact W.iret (v := 0) hx hb hr (fun t ht hW => ⟨⟨0, ((fun k => ([] : List Nat).getD k 0), (fun k => ([] : List Int32).getD k 0), (fun k => ([] : List (Nat → Int32)).getD k (fun _ => 0))), rfl, (by first | (exact (by rfl))), by rw [ht]; exact hP.sub [0] rfl, hD.sub [0] (by decide) rfl⟩, hS.F ht⟩) hS.2.2 dX12_deep_33
def vs_m_when : List Cond := .code yX12_when cX12_when 8 (some .int) :: (([.fieldLink RX12 1 "KerbSplashModel" "thrown" "I"] : List Cond) ++ ((wsX120) ++ ((wsV RX12 286 RX12 yX12_isCell vs_c_isCell) ++ ([]))))
set_option maxHeartbeats 4000000 in
set_option maxRecDepth 100000 in
theorem m_when (l : Launch) (hl : l.stackTraces = false) (D : va_G) (cy : Nat → ClassId) (sa : Nat → Nat) (mo : Nat) (ma : Nat → Nat) (p0 p1 p2 p3 : Int32) (sz : Nat) : Met l yX12_when vs_m_when ({ frames := 2, cells := 0, slots := 0, locals := 46 }) (va_Pc [.ref mo, .int p0, .int p1, .int p2, .int p3] (pcW D cy sa sz [(mo, .inr (12, [.int 0, .ref (ma 1), .int 0, .int 0, .int 0, .int 0, .int 0, .int 0, .int (-1), .ref (ma 9), .ref (ma 10), .ref (ma 11), .ref (ma 12), .ref (ma 13), .ref (ma 14), .ref (ma 15), .int 0, .int 0, .int 0, .ref (ma 19), .ref (ma 20), .ref (ma 21), .int 0, .ref (ma 23), .ref (ma 24), .ref (ma 25), .ref (ma 26), .ref (ma 27), .ref (ma 28), .int 0, .int 0, .int 0, .int 0, .ref (ma 33), .int (-1), .ref (ma 35), .int 0, .int 0])), ((ma 1), .inl (cy 0, 4, .inl (fun _ => 0))), ((ma 10), .inl (cy 0, 68, .inl (fun _ => 0)))])) (va_Qi (fun (r : Int32) (u : SU) => (r = 0)) (fun u t => atW D (va_A [(mo, .inr (12, [.int 0, .ref (ma 1), .int 0, .int 0, .int 0, .int 0, .int 0, .int 0, .int (-1), .ref (ma 9), .ref (ma 10), .ref (ma 11), .ref (ma 12), .ref (ma 13), .ref (ma 14), .ref (ma 15), .int 0, .int 0, .int 0, .ref (ma 19), .ref (ma 20), .ref (ma 21), .int 0, .ref (ma 23), .ref (ma 24), .ref (ma 25), .ref (ma 26), .ref (ma 27), .ref (ma 28), .int 0, .int 0, .int 0, .int 0, .ref (ma 33), .int (-1), .ref (ma 35), .int 0, .int 0])), ((ma 1), .inl (cy 0, 4, .inl (fun _ => 0))), ((ma 10), .inl (cy 0, 68, .inl (fun _ => 0)))] sz) [(mo, .inr (12, [.int 1, .ref (ma 1), .int 0, .int 0, .int 0, .int 0, .int 0, .int 0, .int (-1), .ref (ma 9), .ref (ma 10), .ref (ma 11), .ref (ma 12), .ref (ma 13), .ref (ma 14), .ref (ma 15), .int 0, .int 0, .int 0, .ref (ma 19), .ref (ma 20), .ref (ma 21), .int 0, .ref (ma 23), .ref (ma 24), .ref (ma 25), .ref (ma 26), .ref (ma 27), .ref (ma 28), .int 0, .int 0, .int 0, .int 0, .ref (ma 33), .int (-1), .ref (ma 35), .int 0, .int 0]))] t) (va_A [(mo, .inr (12, [.int 0, .ref (ma 1), .int 0, .int 0, .int 0, .int 0, .int 0, .int 0, .int (-1), .ref (ma 9), .ref (ma 10), .ref (ma 11), .ref (ma 12), .ref (ma 13), .ref (ma 14), .ref (ma 15), .int 0, .int 0, .int 0, .ref (ma 19), .ref (ma 20), .ref (ma 21), .int 0, .ref (ma 23), .ref (ma 24), .ref (ma 25), .ref (ma 26), .ref (ma 27), .ref (ma 28), .int 0, .int 0, .int 0, .int 0, .ref (ma 33), .int (-1), .ref (ma 35), .int 0, .int 0])), ((ma 1), .inl (cy 0, 4, .inl (fun _ => 0))), ((ma 10), .inl (cy 0, 68, .inl (fun _ => 0)))] sz)) 0 0 (va_A [(mo, .inr (12, [.int 0, .ref (ma 1), .int 0, .int 0, .int 0, .int 0, .int 0, .int 0, .int (-1), .ref (ma 9), .ref (ma 10), .ref (ma 11), .ref (ma 12), .ref (ma 13), .ref (ma 14), .ref (ma 15), .int 0, .int 0, .int 0, .ref (ma 19), .ref (ma 20), .ref (ma 21), .int 0, .ref (ma 23), .ref (ma 24), .ref (ma 25), .ref (ma 26), .ref (ma 27), .ref (ma 28), .int 0, .int 0, .int 0, .int 0, .ref (ma 33), .int (-1), .ref (ma 35), .int 0, .int 0])), ((ma 1), .inl (cy 0, 4, .inl (fun _ => 0))), ((ma 10), .inl (cy 0, 68, .inl (fun _ => 0)))] sz) := by
  refine Met.ofW (cc := cX12_when) (maxL := 8) (ret := (some .int)) (by decide) rfl ?_
  intro p e s m args below meth c s₁ B hml hv
  obtain ⟨rfl, hsz, hP, hG, hD0, hT⟩ := hv
  have hx := B.exec
  have hb := B.bytes
  have hr := B.returns
  have hts := atoms_spec (ws := vs_m_when) B.pre
  have hown : s.vm.findClass RX12 = some m.cls := findClass_of_methodNamed B.named
  have hlocks := B.notSynchronized
  subst hsz
  have hD := hD0.self (sz := s.heap.size)
  generalize hAe : va_A [(mo, .inr (12, [.int 0, .ref (ma 1), .int 0, .int 0, .int 0, .int 0, .int 0, .int 0, .int (-1), .ref (ma 9), .ref (ma 10), .ref (ma 11), .ref (ma 12), .ref (ma 13), .ref (ma 14), .ref (ma 15), .int 0, .int 0, .int 0, .ref (ma 19), .ref (ma 20), .ref (ma 21), .int 0, .ref (ma 23), .ref (ma 24), .ref (ma 25), .ref (ma 26), .ref (ma 27), .ref (ma 28), .int 0, .int 0, .int 0, .int 0, .ref (ma 33), .int (-1), .ref (ma 35), .int 0, .int 0])), ((ma 1), .inl (cy 0, 4, .inl (fun _ => 0))), ((ma 10), .inl (cy 0, 68, .inl (fun _ => 0)))] s.heap.size = A at hD hT ⊢
  have hA : ∀ q : Nat, s.heap.size ≤ q → A q := fun q h => by rw [← hAe]; exact Or.inr h
  have hS : va_S A s.heap s.heap [] := va_S.rf
  have hl0 := lv_entry ([.ref mo, .int p0, .int p1, .int p2, .int p3]) (n := 8) (Nat.le_of_ble_eq_true rfl)
  rw [lg_entry_eq]
  generalize (lg_sl ([.ref mo, .int p0, .int p1, .int p2, .int p3]) ++ List.replicate (8 - (lg_sl ([.ref mo, .int p0, .int p1, .int p2, .int p3])).length) Slot.unset).toArray = ls at hl0 ⊢
  have hlv : lv_has ls 8 [(0, .ref mo), (1, .int p0), (2, .int p1), (3, .int p2), (4, .int p3)] := hl0
  have lf1 := hts (.fieldLink RX12 1 "KerbSplashModel" "thrown" "I") (List.mem_of_getElem? (i := 1) rfl)
  have hi12 : ∀ w ∈ wsX120, w ∈ vs_m_when := fun w h => List.mem_cons_of_mem _ (List.mem_append_right _ (List.mem_append_left _ h))
  have gg_1 : GoodIn vs_m_when (wsV RX12 286 RX12 yX12_isCell vs_c_isCell) := goodIn_sub (fun w h => List.mem_cons_of_mem _ (List.mem_append_right _ (List.mem_append_right _ (List.mem_append_left _ h)))) (by decide +kernel)
  refine lv_aload_n hx hb dX12_when_0 rfl (lv_at hlv 0 rfl) ?_
  refine lv_iconst (v := 0) hx hb dX12_when_1 (by decide) ?_
  refine va_put (D := D) (ci := 12) (v := .int 0) (ty := .int) (C := RX12) (T := TX12) (N := 38) hx hb hts hi12 tyX12 tyX12_ok nmX12 hown hG.1 hP hD hS 0 rfl rfl 0 (by decide) lf1 (fun _ h9 => h9) rfl (by decide +kernel) rfl rfl (Nat.le_of_ble_eq_true rfl) dX12_when_2 (fun H locs hP hD hS => ?_)
  have hP : va_P D vwCl [(mo, .inr (12, [.int 0, .ref (ma 1), .int 0, .int 0, .int 0, .int 0, .int 0, .int 0, .int (-1), .ref (ma 9), .ref (ma 10), .ref (ma 11), .ref (ma 12), .ref (ma 13), .ref (ma 14), .ref (ma 15), .int 0, .int 0, .int 0, .ref (ma 19), .ref (ma 20), .ref (ma 21), .int 0, .ref (ma 23), .ref (ma 24), .ref (ma 25), .ref (ma 26), .ref (ma 27), .ref (ma 28), .int 0, .int 0, .int 0, .int 0, .ref (ma 33), .int (-1), .ref (ma 35), .int 0, .int 0])), ((ma 1), .inl (cy 0, 4, .inl (fun _ => 0))), ((ma 10), .inl (cy 0, 68, .inl (fun _ => 0)))] H := hP
  have hD : va_D A [(mo, .inr (12, [.int 0, .ref (ma 1), .int 0, .int 0, .int 0, .int 0, .int 0, .int 0, .int (-1), .ref (ma 9), .ref (ma 10), .ref (ma 11), .ref (ma 12), .ref (ma 13), .ref (ma 14), .ref (ma 15), .int 0, .int 0, .int 0, .ref (ma 19), .ref (ma 20), .ref (ma 21), .int 0, .ref (ma 23), .ref (ma 24), .ref (ma 25), .ref (ma 26), .ref (ma 27), .ref (ma 28), .int 0, .int 0, .int 0, .int 0, .ref (ma 33), .int (-1), .ref (ma 35), .int 0, .int 0])), ((ma 1), .inl (cy 0, 4, .inl (fun _ => 0))), ((ma 10), .inl (cy 0, 68, .inl (fun _ => 0)))] := hD
  refine lv_aload_n hx hb dX12_when_5 rfl (lv_at hlv 0 rfl) ?_
  refine lv_iload_n hx hb dX12_when_6 rfl (lv_at hlv 2 rfl) ?_
  refine lv_iload_n hx hb dX12_when_7 rfl (lv_at hlv 3 rfl) ?_
  refine lv_iconst (v := 1) hx hb dX12_when_8 (by decide) ?_
  refine cj_i (wr := []) (va_runV (As := [.int p1, .int p2, .int 1]) (rest := []) ⟨hx, hb, hml, hown, hts⟩ (c_isCell l hl D cy sa mo ma p1 p2 1 H.size (by decide)) (cwV 3 hts gg_1 rfl rfl rfl (by decide +kernel) ⟨Nat.le_of_ble_eq_true rfl, Nat.le_of_ble_eq_true rfl⟩) ⟨pcW.blind, (va_recv hG.1 hP (ci := 12) (q0 := 0) rfl rfl), (pcW.mk hP hD hS hA hG hT [0, 1, 2] rfl (by decide))⟩ rfl rfl hlv.1 rfl (lv_room (Nat.le_of_ble_eq_true rfl)) dX12_when_9 ⟨Nat.le_of_ble_eq_true rfl, Nat.le_of_ble_eq_true rfl⟩) hP hD hS hA [0, 1, 2] [] rfl rfl (by decide) (by decide) (fun r1 u1 H locs hw1 hP hD hS => ?_)
  obtain rfl := hw1
  have hP : va_P D vwCl [(mo, .inr (12, [.int 1, .ref (ma 1), .int 0, .int 0, .int 0, .int 0, .int 0, .int 0, .int (-1), .ref (ma 9), .ref (ma 10), .ref (ma 11), .ref (ma 12), .ref (ma 13), .ref (ma 14), .ref (ma 15), .int 0, .int 0, .int 0, .ref (ma 19), .ref (ma 20), .ref (ma 21), .int 0, .ref (ma 23), .ref (ma 24), .ref (ma 25), .ref (ma 26), .ref (ma 27), .ref (ma 28), .int 0, .int 0, .int 0, .int 0, .ref (ma 33), .int (-1), .ref (ma 35), .int 0, .int 0]))] H := hP
  have hD : va_D A [(mo, .inr (12, [.int 1, .ref (ma 1), .int 0, .int 0, .int 0, .int 0, .int 0, .int 0, .int (-1), .ref (ma 9), .ref (ma 10), .ref (ma 11), .ref (ma 12), .ref (ma 13), .ref (ma 14), .ref (ma 15), .int 0, .int 0, .int 0, .ref (ma 19), .ref (ma 20), .ref (ma 21), .int 0, .ref (ma 23), .ref (ma 24), .ref (ma 25), .ref (ma 26), .ref (ma 27), .ref (ma 28), .int 0, .int 0, .int 0, .int 0, .ref (ma 33), .int (-1), .ref (ma 35), .int 0, .int 0]))] := hD
  refine lv_if_eq (tgt := 50) hx hb dX12_when_12 (by decide) (fun _ => ?_) (fun c => absurd (by decide) c)
  refine lv_iconst (v := 0) hx hb dX12_when_50 (by decide) ?_
  refine W.widen (k := 0) (n := 0) (Nat.le_of_ble_eq_true rfl) (Nat.le_of_ble_eq_true rfl) ?_
  exact W.iret (v := 0) hx hb hr (fun t ht hW => ⟨⟨0, ((fun k => ([] : List Nat).getD k 0), (fun k => ([] : List Int32).getD k 0), (fun k => ([] : List (Nat → Int32)).getD k (fun _ => 0))), rfl, (by first | (exact (by rfl))), by rw [ht]; exact hP.sub [0] rfl, hD.sub [0] (by decide) rfl⟩, hS.F ht⟩) hS.2.2 dX12_when_51
def vs_m_blame : List Cond := .code yX12_blame cX12_blame 10 (some .int) :: (([.fieldLink RX12 1 "KerbSplashModel" "thrown" "I"] : List Cond) ++ ((wsX120) ++ ((wsV RX12 286 RX12 yX12_isCell vs_c_isCell) ++ ([]))))
set_option maxHeartbeats 4000000 in
set_option maxRecDepth 100000 in
theorem m_blame (l : Launch) (hl : l.stackTraces = false) (D : va_G) (cy : Nat → ClassId) (sa : Nat → Nat) (mo : Nat) (ma : Nat → Nat) (p0 p1 p2 p3 : Int32) (sz : Nat) : Met l yX12_blame vs_m_blame ({ frames := 2, cells := 0, slots := 0, locals := 46 }) (va_Pc [.ref mo, .int p0, .int p1, .int p2, .int p3] (pcW D cy sa sz [(mo, .inr (12, [.int 0, .ref (ma 1), .int 0, .int 0, .int 0, .int 0, .int 0, .int 0, .int (-1), .ref (ma 9), .ref (ma 10), .ref (ma 11), .ref (ma 12), .ref (ma 13), .ref (ma 14), .ref (ma 15), .int 0, .int 0, .int 0, .ref (ma 19), .ref (ma 20), .ref (ma 21), .int 0, .ref (ma 23), .ref (ma 24), .ref (ma 25), .ref (ma 26), .ref (ma 27), .ref (ma 28), .int 0, .int 0, .int 0, .int 0, .ref (ma 33), .int (-1), .ref (ma 35), .int 0, .int 0])), ((ma 1), .inl (cy 0, 4, .inl (fun _ => 0))), ((ma 10), .inl (cy 0, 68, .inl (fun _ => 0)))])) (va_Qi (fun (r : Int32) (u : SU) => (r = 0)) (fun u t => atW D (va_A [(mo, .inr (12, [.int 0, .ref (ma 1), .int 0, .int 0, .int 0, .int 0, .int 0, .int 0, .int (-1), .ref (ma 9), .ref (ma 10), .ref (ma 11), .ref (ma 12), .ref (ma 13), .ref (ma 14), .ref (ma 15), .int 0, .int 0, .int 0, .ref (ma 19), .ref (ma 20), .ref (ma 21), .int 0, .ref (ma 23), .ref (ma 24), .ref (ma 25), .ref (ma 26), .ref (ma 27), .ref (ma 28), .int 0, .int 0, .int 0, .int 0, .ref (ma 33), .int (-1), .ref (ma 35), .int 0, .int 0])), ((ma 1), .inl (cy 0, 4, .inl (fun _ => 0))), ((ma 10), .inl (cy 0, 68, .inl (fun _ => 0)))] sz) [(mo, .inr (12, [.int 1, .ref (ma 1), .int 0, .int 0, .int 0, .int 0, .int 0, .int 0, .int (-1), .ref (ma 9), .ref (ma 10), .ref (ma 11), .ref (ma 12), .ref (ma 13), .ref (ma 14), .ref (ma 15), .int 0, .int 0, .int 0, .ref (ma 19), .ref (ma 20), .ref (ma 21), .int 0, .ref (ma 23), .ref (ma 24), .ref (ma 25), .ref (ma 26), .ref (ma 27), .ref (ma 28), .int 0, .int 0, .int 0, .int 0, .ref (ma 33), .int (-1), .ref (ma 35), .int 0, .int 0]))] t) (va_A [(mo, .inr (12, [.int 0, .ref (ma 1), .int 0, .int 0, .int 0, .int 0, .int 0, .int 0, .int (-1), .ref (ma 9), .ref (ma 10), .ref (ma 11), .ref (ma 12), .ref (ma 13), .ref (ma 14), .ref (ma 15), .int 0, .int 0, .int 0, .ref (ma 19), .ref (ma 20), .ref (ma 21), .int 0, .ref (ma 23), .ref (ma 24), .ref (ma 25), .ref (ma 26), .ref (ma 27), .ref (ma 28), .int 0, .int 0, .int 0, .int 0, .ref (ma 33), .int (-1), .ref (ma 35), .int 0, .int 0])), ((ma 1), .inl (cy 0, 4, .inl (fun _ => 0))), ((ma 10), .inl (cy 0, 68, .inl (fun _ => 0)))] sz)) 0 0 (va_A [(mo, .inr (12, [.int 0, .ref (ma 1), .int 0, .int 0, .int 0, .int 0, .int 0, .int 0, .int (-1), .ref (ma 9), .ref (ma 10), .ref (ma 11), .ref (ma 12), .ref (ma 13), .ref (ma 14), .ref (ma 15), .int 0, .int 0, .int 0, .ref (ma 19), .ref (ma 20), .ref (ma 21), .int 0, .ref (ma 23), .ref (ma 24), .ref (ma 25), .ref (ma 26), .ref (ma 27), .ref (ma 28), .int 0, .int 0, .int 0, .int 0, .ref (ma 33), .int (-1), .ref (ma 35), .int 0, .int 0])), ((ma 1), .inl (cy 0, 4, .inl (fun _ => 0))), ((ma 10), .inl (cy 0, 68, .inl (fun _ => 0)))] sz) := by
  refine Met.ofW (cc := cX12_blame) (maxL := 10) (ret := (some .int)) (by decide) rfl ?_
  intro p e s m args below meth c s₁ B hml hv
  obtain ⟨rfl, hsz, hP, hG, hD0, hT⟩ := hv
  have hx := B.exec
  have hb := B.bytes
  have hr := B.returns
  have hts := atoms_spec (ws := vs_m_blame) B.pre
  have hown : s.vm.findClass RX12 = some m.cls := findClass_of_methodNamed B.named
  have hlocks := B.notSynchronized
  subst hsz
  have hD := hD0.self (sz := s.heap.size)
  generalize hAe : va_A [(mo, .inr (12, [.int 0, .ref (ma 1), .int 0, .int 0, .int 0, .int 0, .int 0, .int 0, .int (-1), .ref (ma 9), .ref (ma 10), .ref (ma 11), .ref (ma 12), .ref (ma 13), .ref (ma 14), .ref (ma 15), .int 0, .int 0, .int 0, .ref (ma 19), .ref (ma 20), .ref (ma 21), .int 0, .ref (ma 23), .ref (ma 24), .ref (ma 25), .ref (ma 26), .ref (ma 27), .ref (ma 28), .int 0, .int 0, .int 0, .int 0, .ref (ma 33), .int (-1), .ref (ma 35), .int 0, .int 0])), ((ma 1), .inl (cy 0, 4, .inl (fun _ => 0))), ((ma 10), .inl (cy 0, 68, .inl (fun _ => 0)))] s.heap.size = A at hD hT ⊢
  have hA : ∀ q : Nat, s.heap.size ≤ q → A q := fun q h => by rw [← hAe]; exact Or.inr h
  have hS : va_S A s.heap s.heap [] := va_S.rf
  have hl0 := lv_entry ([.ref mo, .int p0, .int p1, .int p2, .int p3]) (n := 10) (Nat.le_of_ble_eq_true rfl)
  rw [lg_entry_eq]
  generalize (lg_sl ([.ref mo, .int p0, .int p1, .int p2, .int p3]) ++ List.replicate (10 - (lg_sl ([.ref mo, .int p0, .int p1, .int p2, .int p3])).length) Slot.unset).toArray = ls at hl0 ⊢
  have hlv : lv_has ls 10 [(0, .ref mo), (1, .int p0), (2, .int p1), (3, .int p2), (4, .int p3)] := hl0
  have lf1 := hts (.fieldLink RX12 1 "KerbSplashModel" "thrown" "I") (List.mem_of_getElem? (i := 1) rfl)
  have hi12 : ∀ w ∈ wsX120, w ∈ vs_m_blame := fun w h => List.mem_cons_of_mem _ (List.mem_append_right _ (List.mem_append_left _ h))
  have gg_1 : GoodIn vs_m_blame (wsV RX12 286 RX12 yX12_isCell vs_c_isCell) := goodIn_sub (fun w h => List.mem_cons_of_mem _ (List.mem_append_right _ (List.mem_append_right _ (List.mem_append_left _ h)))) (by decide +kernel)
  refine lv_aload_n hx hb dX12_blame_0 rfl (lv_at hlv 0 rfl) ?_
  refine lv_iconst (v := 0) hx hb dX12_blame_1 (by decide) ?_
  refine va_put (D := D) (ci := 12) (v := .int 0) (ty := .int) (C := RX12) (T := TX12) (N := 38) hx hb hts hi12 tyX12 tyX12_ok nmX12 hown hG.1 hP hD hS 0 rfl rfl 0 (by decide) lf1 (fun _ h9 => h9) rfl (by decide +kernel) rfl rfl (Nat.le_of_ble_eq_true rfl) dX12_blame_2 (fun H locs hP hD hS => ?_)
  have hP : va_P D vwCl [(mo, .inr (12, [.int 0, .ref (ma 1), .int 0, .int 0, .int 0, .int 0, .int 0, .int 0, .int (-1), .ref (ma 9), .ref (ma 10), .ref (ma 11), .ref (ma 12), .ref (ma 13), .ref (ma 14), .ref (ma 15), .int 0, .int 0, .int 0, .ref (ma 19), .ref (ma 20), .ref (ma 21), .int 0, .ref (ma 23), .ref (ma 24), .ref (ma 25), .ref (ma 26), .ref (ma 27), .ref (ma 28), .int 0, .int 0, .int 0, .int 0, .ref (ma 33), .int (-1), .ref (ma 35), .int 0, .int 0])), ((ma 1), .inl (cy 0, 4, .inl (fun _ => 0))), ((ma 10), .inl (cy 0, 68, .inl (fun _ => 0)))] H := hP
  have hD : va_D A [(mo, .inr (12, [.int 0, .ref (ma 1), .int 0, .int 0, .int 0, .int 0, .int 0, .int 0, .int (-1), .ref (ma 9), .ref (ma 10), .ref (ma 11), .ref (ma 12), .ref (ma 13), .ref (ma 14), .ref (ma 15), .int 0, .int 0, .int 0, .ref (ma 19), .ref (ma 20), .ref (ma 21), .int 0, .ref (ma 23), .ref (ma 24), .ref (ma 25), .ref (ma 26), .ref (ma 27), .ref (ma 28), .int 0, .int 0, .int 0, .int 0, .ref (ma 33), .int (-1), .ref (ma 35), .int 0, .int 0])), ((ma 1), .inl (cy 0, 4, .inl (fun _ => 0))), ((ma 10), .inl (cy 0, 68, .inl (fun _ => 0)))] := hD
  refine lv_aload_n hx hb dX12_blame_5 rfl (lv_at hlv 0 rfl) ?_
  refine lv_iload_n hx hb dX12_blame_6 rfl (lv_at hlv 2 rfl) ?_
  refine lv_iload_n hx hb dX12_blame_7 rfl (lv_at hlv 3 rfl) ?_
  refine lv_iconst (v := 1) hx hb dX12_blame_8 (by decide) ?_
  refine cj_i (wr := []) (va_runV (As := [.int p1, .int p2, .int 1]) (rest := []) ⟨hx, hb, hml, hown, hts⟩ (c_isCell l hl D cy sa mo ma p1 p2 1 H.size (by decide)) (cwV 3 hts gg_1 rfl rfl rfl (by decide +kernel) ⟨Nat.le_of_ble_eq_true rfl, Nat.le_of_ble_eq_true rfl⟩) ⟨pcW.blind, (va_recv hG.1 hP (ci := 12) (q0 := 0) rfl rfl), (pcW.mk hP hD hS hA hG hT [0, 1, 2] rfl (by decide))⟩ rfl rfl hlv.1 rfl (lv_room (Nat.le_of_ble_eq_true rfl)) dX12_blame_9 ⟨Nat.le_of_ble_eq_true rfl, Nat.le_of_ble_eq_true rfl⟩) hP hD hS hA [0, 1, 2] [] rfl rfl (by decide) (by decide) (fun r1 u1 H locs hw1 hP hD hS => ?_)
  obtain rfl := hw1
  have hP : va_P D vwCl [(mo, .inr (12, [.int 1, .ref (ma 1), .int 0, .int 0, .int 0, .int 0, .int 0, .int 0, .int (-1), .ref (ma 9), .ref (ma 10), .ref (ma 11), .ref (ma 12), .ref (ma 13), .ref (ma 14), .ref (ma 15), .int 0, .int 0, .int 0, .ref (ma 19), .ref (ma 20), .ref (ma 21), .int 0, .ref (ma 23), .ref (ma 24), .ref (ma 25), .ref (ma 26), .ref (ma 27), .ref (ma 28), .int 0, .int 0, .int 0, .int 0, .ref (ma 33), .int (-1), .ref (ma 35), .int 0, .int 0]))] H := hP
  have hD : va_D A [(mo, .inr (12, [.int 1, .ref (ma 1), .int 0, .int 0, .int 0, .int 0, .int 0, .int 0, .int (-1), .ref (ma 9), .ref (ma 10), .ref (ma 11), .ref (ma 12), .ref (ma 13), .ref (ma 14), .ref (ma 15), .int 0, .int 0, .int 0, .ref (ma 19), .ref (ma 20), .ref (ma 21), .int 0, .ref (ma 23), .ref (ma 24), .ref (ma 25), .ref (ma 26), .ref (ma 27), .ref (ma 28), .int 0, .int 0, .int 0, .int 0, .ref (ma 33), .int (-1), .ref (ma 35), .int 0, .int 0]))] := hD
  refine lv_if_eq (tgt := 48) hx hb dX12_blame_12 (by decide) (fun _ => ?_) (fun c => absurd (by decide) c)
  refine lv_iconst (v := 0) hx hb dX12_blame_48 (by decide) ?_
  refine W.widen (k := 0) (n := 0) (Nat.le_of_ble_eq_true rfl) (Nat.le_of_ble_eq_true rfl) ?_
  exact W.iret (v := 0) hx hb hr (fun t ht hW => ⟨⟨0, ((fun k => ([] : List Nat).getD k 0), (fun k => ([] : List Int32).getD k 0), (fun k => ([] : List (Nat → Int32)).getD k (fun _ => 0))), rfl, (by first | (exact (by rfl))), by rw [ht]; exact hP.sub [0] rfl, hD.sub [0] (by decide) rfl⟩, hS.F ht⟩) hS.2.2 dX12_blame_49
def vs_m_mend : List Cond := .code yX12_mend cX12_mend 12 (some .int) :: (([.fieldLink RX12 1 "KerbSplashModel" "thrown" "I"] : List Cond) ++ ((wsX120) ++ ((wsV RX12 286 RX12 yX12_isCell vs_c_isCell) ++ ([]))))
set_option maxHeartbeats 4000000 in
set_option maxRecDepth 100000 in
theorem m_mend (l : Launch) (hl : l.stackTraces = false) (D : va_G) (cy : Nat → ClassId) (sa : Nat → Nat) (mo : Nat) (ma : Nat → Nat) (p0 p1 p2 p3 p4 : Int32) (sz : Nat) : Met l yX12_mend vs_m_mend ({ frames := 2, cells := 0, slots := 0, locals := 46 }) (va_Pc [.ref mo, .int p0, .int p1, .int p2, .int p3, .int p4] (pcW D cy sa sz [(mo, .inr (12, [.int 0, .ref (ma 1), .int 0, .int 0, .int 0, .int 0, .int 0, .int 0, .int (-1), .ref (ma 9), .ref (ma 10), .ref (ma 11), .ref (ma 12), .ref (ma 13), .ref (ma 14), .ref (ma 15), .int 0, .int 0, .int 0, .ref (ma 19), .ref (ma 20), .ref (ma 21), .int 0, .ref (ma 23), .ref (ma 24), .ref (ma 25), .ref (ma 26), .ref (ma 27), .ref (ma 28), .int 0, .int 0, .int 0, .int 0, .ref (ma 33), .int (-1), .ref (ma 35), .int 0, .int 0])), ((ma 1), .inl (cy 0, 4, .inl (fun _ => 0))), ((ma 10), .inl (cy 0, 68, .inl (fun _ => 0)))])) (va_Qi (fun (r : Int32) (u : SU) => (r = 0)) (fun u t => atW D (va_A [(mo, .inr (12, [.int 0, .ref (ma 1), .int 0, .int 0, .int 0, .int 0, .int 0, .int 0, .int (-1), .ref (ma 9), .ref (ma 10), .ref (ma 11), .ref (ma 12), .ref (ma 13), .ref (ma 14), .ref (ma 15), .int 0, .int 0, .int 0, .ref (ma 19), .ref (ma 20), .ref (ma 21), .int 0, .ref (ma 23), .ref (ma 24), .ref (ma 25), .ref (ma 26), .ref (ma 27), .ref (ma 28), .int 0, .int 0, .int 0, .int 0, .ref (ma 33), .int (-1), .ref (ma 35), .int 0, .int 0])), ((ma 1), .inl (cy 0, 4, .inl (fun _ => 0))), ((ma 10), .inl (cy 0, 68, .inl (fun _ => 0)))] sz) [(mo, .inr (12, [.int 1, .ref (ma 1), .int 0, .int 0, .int 0, .int 0, .int 0, .int 0, .int (-1), .ref (ma 9), .ref (ma 10), .ref (ma 11), .ref (ma 12), .ref (ma 13), .ref (ma 14), .ref (ma 15), .int 0, .int 0, .int 0, .ref (ma 19), .ref (ma 20), .ref (ma 21), .int 0, .ref (ma 23), .ref (ma 24), .ref (ma 25), .ref (ma 26), .ref (ma 27), .ref (ma 28), .int 0, .int 0, .int 0, .int 0, .ref (ma 33), .int (-1), .ref (ma 35), .int 0, .int 0]))] t) (va_A [(mo, .inr (12, [.int 0, .ref (ma 1), .int 0, .int 0, .int 0, .int 0, .int 0, .int 0, .int (-1), .ref (ma 9), .ref (ma 10), .ref (ma 11), .ref (ma 12), .ref (ma 13), .ref (ma 14), .ref (ma 15), .int 0, .int 0, .int 0, .ref (ma 19), .ref (ma 20), .ref (ma 21), .int 0, .ref (ma 23), .ref (ma 24), .ref (ma 25), .ref (ma 26), .ref (ma 27), .ref (ma 28), .int 0, .int 0, .int 0, .int 0, .ref (ma 33), .int (-1), .ref (ma 35), .int 0, .int 0])), ((ma 1), .inl (cy 0, 4, .inl (fun _ => 0))), ((ma 10), .inl (cy 0, 68, .inl (fun _ => 0)))] sz)) 0 0 (va_A [(mo, .inr (12, [.int 0, .ref (ma 1), .int 0, .int 0, .int 0, .int 0, .int 0, .int 0, .int (-1), .ref (ma 9), .ref (ma 10), .ref (ma 11), .ref (ma 12), .ref (ma 13), .ref (ma 14), .ref (ma 15), .int 0, .int 0, .int 0, .ref (ma 19), .ref (ma 20), .ref (ma 21), .int 0, .ref (ma 23), .ref (ma 24), .ref (ma 25), .ref (ma 26), .ref (ma 27), .ref (ma 28), .int 0, .int 0, .int 0, .int 0, .ref (ma 33), .int (-1), .ref (ma 35), .int 0, .int 0])), ((ma 1), .inl (cy 0, 4, .inl (fun _ => 0))), ((ma 10), .inl (cy 0, 68, .inl (fun _ => 0)))] sz) := by
  refine Met.ofW (cc := cX12_mend) (maxL := 12) (ret := (some .int)) (by decide) rfl ?_
  intro p e s m args below meth c s₁ B hml hv
  obtain ⟨rfl, hsz, hP, hG, hD0, hT⟩ := hv
  have hx := B.exec
  have hb := B.bytes
  have hr := B.returns
  have hts := atoms_spec (ws := vs_m_mend) B.pre
  have hown : s.vm.findClass RX12 = some m.cls := findClass_of_methodNamed B.named
  have hlocks := B.notSynchronized
  subst hsz
  have hD := hD0.self (sz := s.heap.size)
  generalize hAe : va_A [(mo, .inr (12, [.int 0, .ref (ma 1), .int 0, .int 0, .int 0, .int 0, .int 0, .int 0, .int (-1), .ref (ma 9), .ref (ma 10), .ref (ma 11), .ref (ma 12), .ref (ma 13), .ref (ma 14), .ref (ma 15), .int 0, .int 0, .int 0, .ref (ma 19), .ref (ma 20), .ref (ma 21), .int 0, .ref (ma 23), .ref (ma 24), .ref (ma 25), .ref (ma 26), .ref (ma 27), .ref (ma 28), .int 0, .int 0, .int 0, .int 0, .ref (ma 33), .int (-1), .ref (ma 35), .int 0, .int 0])), ((ma 1), .inl (cy 0, 4, .inl (fun _ => 0))), ((ma 10), .inl (cy 0, 68, .inl (fun _ => 0)))] s.heap.size = A at hD hT ⊢
  have hA : ∀ q : Nat, s.heap.size ≤ q → A q := fun q h => by rw [← hAe]; exact Or.inr h
  have hS : va_S A s.heap s.heap [] := va_S.rf
  have hl0 := lv_entry ([.ref mo, .int p0, .int p1, .int p2, .int p3, .int p4]) (n := 12) (Nat.le_of_ble_eq_true rfl)
  rw [lg_entry_eq]
  generalize (lg_sl ([.ref mo, .int p0, .int p1, .int p2, .int p3, .int p4]) ++ List.replicate (12 - (lg_sl ([.ref mo, .int p0, .int p1, .int p2, .int p3, .int p4])).length) Slot.unset).toArray = ls at hl0 ⊢
  have hlv : lv_has ls 12 [(0, .ref mo), (1, .int p0), (2, .int p1), (3, .int p2), (4, .int p3), (5, .int p4)] := hl0
  have lf1 := hts (.fieldLink RX12 1 "KerbSplashModel" "thrown" "I") (List.mem_of_getElem? (i := 1) rfl)
  have hi12 : ∀ w ∈ wsX120, w ∈ vs_m_mend := fun w h => List.mem_cons_of_mem _ (List.mem_append_right _ (List.mem_append_left _ h))
  have gg_1 : GoodIn vs_m_mend (wsV RX12 286 RX12 yX12_isCell vs_c_isCell) := goodIn_sub (fun w h => List.mem_cons_of_mem _ (List.mem_append_right _ (List.mem_append_right _ (List.mem_append_left _ h)))) (by decide +kernel)
  refine lv_aload_n hx hb dX12_mend_0 rfl (lv_at hlv 0 rfl) ?_
  refine lv_iconst (v := 0) hx hb dX12_mend_1 (by decide) ?_
  refine va_put (D := D) (ci := 12) (v := .int 0) (ty := .int) (C := RX12) (T := TX12) (N := 38) hx hb hts hi12 tyX12 tyX12_ok nmX12 hown hG.1 hP hD hS 0 rfl rfl 0 (by decide) lf1 (fun _ h9 => h9) rfl (by decide +kernel) rfl rfl (Nat.le_of_ble_eq_true rfl) dX12_mend_2 (fun H locs hP hD hS => ?_)
  have hP : va_P D vwCl [(mo, .inr (12, [.int 0, .ref (ma 1), .int 0, .int 0, .int 0, .int 0, .int 0, .int 0, .int (-1), .ref (ma 9), .ref (ma 10), .ref (ma 11), .ref (ma 12), .ref (ma 13), .ref (ma 14), .ref (ma 15), .int 0, .int 0, .int 0, .ref (ma 19), .ref (ma 20), .ref (ma 21), .int 0, .ref (ma 23), .ref (ma 24), .ref (ma 25), .ref (ma 26), .ref (ma 27), .ref (ma 28), .int 0, .int 0, .int 0, .int 0, .ref (ma 33), .int (-1), .ref (ma 35), .int 0, .int 0])), ((ma 1), .inl (cy 0, 4, .inl (fun _ => 0))), ((ma 10), .inl (cy 0, 68, .inl (fun _ => 0)))] H := hP
  have hD : va_D A [(mo, .inr (12, [.int 0, .ref (ma 1), .int 0, .int 0, .int 0, .int 0, .int 0, .int 0, .int (-1), .ref (ma 9), .ref (ma 10), .ref (ma 11), .ref (ma 12), .ref (ma 13), .ref (ma 14), .ref (ma 15), .int 0, .int 0, .int 0, .ref (ma 19), .ref (ma 20), .ref (ma 21), .int 0, .ref (ma 23), .ref (ma 24), .ref (ma 25), .ref (ma 26), .ref (ma 27), .ref (ma 28), .int 0, .int 0, .int 0, .int 0, .ref (ma 33), .int (-1), .ref (ma 35), .int 0, .int 0])), ((ma 1), .inl (cy 0, 4, .inl (fun _ => 0))), ((ma 10), .inl (cy 0, 68, .inl (fun _ => 0)))] := hD
  refine lv_aload_n hx hb dX12_mend_5 rfl (lv_at hlv 0 rfl) ?_
  refine lv_iload_n hx hb dX12_mend_6 rfl (lv_at hlv 2 rfl) ?_
  refine lv_iload_n hx hb dX12_mend_7 rfl (lv_at hlv 3 rfl) ?_
  refine lv_iconst (v := 1) hx hb dX12_mend_8 (by decide) ?_
  refine cj_i (wr := []) (va_runV (As := [.int p1, .int p2, .int 1]) (rest := []) ⟨hx, hb, hml, hown, hts⟩ (c_isCell l hl D cy sa mo ma p1 p2 1 H.size (by decide)) (cwV 3 hts gg_1 rfl rfl rfl (by decide +kernel) ⟨Nat.le_of_ble_eq_true rfl, Nat.le_of_ble_eq_true rfl⟩) ⟨pcW.blind, (va_recv hG.1 hP (ci := 12) (q0 := 0) rfl rfl), (pcW.mk hP hD hS hA hG hT [0, 1, 2] rfl (by decide))⟩ rfl rfl hlv.1 rfl (lv_room (Nat.le_of_ble_eq_true rfl)) dX12_mend_9 ⟨Nat.le_of_ble_eq_true rfl, Nat.le_of_ble_eq_true rfl⟩) hP hD hS hA [0, 1, 2] [] rfl rfl (by decide) (by decide) (fun r1 u1 H locs hw1 hP hD hS => ?_)
  obtain rfl := hw1
  have hP : va_P D vwCl [(mo, .inr (12, [.int 1, .ref (ma 1), .int 0, .int 0, .int 0, .int 0, .int 0, .int 0, .int (-1), .ref (ma 9), .ref (ma 10), .ref (ma 11), .ref (ma 12), .ref (ma 13), .ref (ma 14), .ref (ma 15), .int 0, .int 0, .int 0, .ref (ma 19), .ref (ma 20), .ref (ma 21), .int 0, .ref (ma 23), .ref (ma 24), .ref (ma 25), .ref (ma 26), .ref (ma 27), .ref (ma 28), .int 0, .int 0, .int 0, .int 0, .ref (ma 33), .int (-1), .ref (ma 35), .int 0, .int 0]))] H := hP
  have hD : va_D A [(mo, .inr (12, [.int 1, .ref (ma 1), .int 0, .int 0, .int 0, .int 0, .int 0, .int 0, .int (-1), .ref (ma 9), .ref (ma 10), .ref (ma 11), .ref (ma 12), .ref (ma 13), .ref (ma 14), .ref (ma 15), .int 0, .int 0, .int 0, .ref (ma 19), .ref (ma 20), .ref (ma 21), .int 0, .ref (ma 23), .ref (ma 24), .ref (ma 25), .ref (ma 26), .ref (ma 27), .ref (ma 28), .int 0, .int 0, .int 0, .int 0, .ref (ma 33), .int (-1), .ref (ma 35), .int 0, .int 0]))] := hD
  refine lv_if_eq (tgt := 68) hx hb dX12_mend_12 (by decide) (fun _ => ?_) (fun c => absurd (by decide) c)
  refine lv_iconst (v := 0) hx hb dX12_mend_68 (by decide) ?_
  refine W.widen (k := 0) (n := 0) (Nat.le_of_ble_eq_true rfl) (Nat.le_of_ble_eq_true rfl) ?_
  exact W.iret (v := 0) hx hb hr (fun t ht hW => ⟨⟨0, ((fun k => ([] : List Nat).getD k 0), (fun k => ([] : List Int32).getD k 0), (fun k => ([] : List (Nat → Int32)).getD k (fun _ => 0))), rfl, (by first | (exact (by rfl))), by rw [ht]; exact hP.sub [0] rfl, hD.sub [0] (by decide) rfl⟩, hS.F ht⟩) hS.2.2 dX12_mend_69
def vs_m_meant : List Cond := .code yX12_meant cX12_meant 11 (some .int) :: (([.fieldLink RX12 1 "KerbSplashModel" "thrown" "I"] : List Cond) ++ ((wsX120) ++ ((wsV RX12 286 RX12 yX12_isCell vs_c_isCell) ++ ([]))))
set_option maxHeartbeats 4000000 in
set_option maxRecDepth 100000 in
theorem m_meant (l : Launch) (hl : l.stackTraces = false) (D : va_G) (cy : Nat → ClassId) (sa : Nat → Nat) (mo : Nat) (ma : Nat → Nat) (p0 p1 p2 p3 p4 p5 p6 : Int32) (sz : Nat) : Met l yX12_meant vs_m_meant ({ frames := 2, cells := 0, slots := 0, locals := 46 }) (va_Pc [.ref mo, .int p0, .int p1, .int p2, .int p3, .int p4, .int p5, .int p6] (pcW D cy sa sz [(mo, .inr (12, [.int 0, .ref (ma 1), .int 0, .int 0, .int 0, .int 0, .int 0, .int 0, .int (-1), .ref (ma 9), .ref (ma 10), .ref (ma 11), .ref (ma 12), .ref (ma 13), .ref (ma 14), .ref (ma 15), .int 0, .int 0, .int 0, .ref (ma 19), .ref (ma 20), .ref (ma 21), .int 0, .ref (ma 23), .ref (ma 24), .ref (ma 25), .ref (ma 26), .ref (ma 27), .ref (ma 28), .int 0, .int 0, .int 0, .int 0, .ref (ma 33), .int (-1), .ref (ma 35), .int 0, .int 0])), ((ma 1), .inl (cy 0, 4, .inl (fun _ => 0))), ((ma 10), .inl (cy 0, 68, .inl (fun _ => 0)))])) (va_Qi (fun (r : Int32) (u : SU) => (r = 0)) (fun u t => atW D (va_A [(mo, .inr (12, [.int 0, .ref (ma 1), .int 0, .int 0, .int 0, .int 0, .int 0, .int 0, .int (-1), .ref (ma 9), .ref (ma 10), .ref (ma 11), .ref (ma 12), .ref (ma 13), .ref (ma 14), .ref (ma 15), .int 0, .int 0, .int 0, .ref (ma 19), .ref (ma 20), .ref (ma 21), .int 0, .ref (ma 23), .ref (ma 24), .ref (ma 25), .ref (ma 26), .ref (ma 27), .ref (ma 28), .int 0, .int 0, .int 0, .int 0, .ref (ma 33), .int (-1), .ref (ma 35), .int 0, .int 0])), ((ma 1), .inl (cy 0, 4, .inl (fun _ => 0))), ((ma 10), .inl (cy 0, 68, .inl (fun _ => 0)))] sz) [(mo, .inr (12, [.int 1, .ref (ma 1), .int 0, .int 0, .int 0, .int 0, .int 0, .int 0, .int (-1), .ref (ma 9), .ref (ma 10), .ref (ma 11), .ref (ma 12), .ref (ma 13), .ref (ma 14), .ref (ma 15), .int 0, .int 0, .int 0, .ref (ma 19), .ref (ma 20), .ref (ma 21), .int 0, .ref (ma 23), .ref (ma 24), .ref (ma 25), .ref (ma 26), .ref (ma 27), .ref (ma 28), .int 0, .int 0, .int 0, .int 0, .ref (ma 33), .int (-1), .ref (ma 35), .int 0, .int 0]))] t) (va_A [(mo, .inr (12, [.int 0, .ref (ma 1), .int 0, .int 0, .int 0, .int 0, .int 0, .int 0, .int (-1), .ref (ma 9), .ref (ma 10), .ref (ma 11), .ref (ma 12), .ref (ma 13), .ref (ma 14), .ref (ma 15), .int 0, .int 0, .int 0, .ref (ma 19), .ref (ma 20), .ref (ma 21), .int 0, .ref (ma 23), .ref (ma 24), .ref (ma 25), .ref (ma 26), .ref (ma 27), .ref (ma 28), .int 0, .int 0, .int 0, .int 0, .ref (ma 33), .int (-1), .ref (ma 35), .int 0, .int 0])), ((ma 1), .inl (cy 0, 4, .inl (fun _ => 0))), ((ma 10), .inl (cy 0, 68, .inl (fun _ => 0)))] sz)) 0 0 (va_A [(mo, .inr (12, [.int 0, .ref (ma 1), .int 0, .int 0, .int 0, .int 0, .int 0, .int 0, .int (-1), .ref (ma 9), .ref (ma 10), .ref (ma 11), .ref (ma 12), .ref (ma 13), .ref (ma 14), .ref (ma 15), .int 0, .int 0, .int 0, .ref (ma 19), .ref (ma 20), .ref (ma 21), .int 0, .ref (ma 23), .ref (ma 24), .ref (ma 25), .ref (ma 26), .ref (ma 27), .ref (ma 28), .int 0, .int 0, .int 0, .int 0, .ref (ma 33), .int (-1), .ref (ma 35), .int 0, .int 0])), ((ma 1), .inl (cy 0, 4, .inl (fun _ => 0))), ((ma 10), .inl (cy 0, 68, .inl (fun _ => 0)))] sz) := by
  refine Met.ofW (cc := cX12_meant) (maxL := 11) (ret := (some .int)) (by decide) rfl ?_
  intro p e s m args below meth c s₁ B hml hv
  obtain ⟨rfl, hsz, hP, hG, hD0, hT⟩ := hv
  have hx := B.exec
  have hb := B.bytes
  have hr := B.returns
  have hts := atoms_spec (ws := vs_m_meant) B.pre
  have hown : s.vm.findClass RX12 = some m.cls := findClass_of_methodNamed B.named
  have hlocks := B.notSynchronized
  subst hsz
  have hD := hD0.self (sz := s.heap.size)
  generalize hAe : va_A [(mo, .inr (12, [.int 0, .ref (ma 1), .int 0, .int 0, .int 0, .int 0, .int 0, .int 0, .int (-1), .ref (ma 9), .ref (ma 10), .ref (ma 11), .ref (ma 12), .ref (ma 13), .ref (ma 14), .ref (ma 15), .int 0, .int 0, .int 0, .ref (ma 19), .ref (ma 20), .ref (ma 21), .int 0, .ref (ma 23), .ref (ma 24), .ref (ma 25), .ref (ma 26), .ref (ma 27), .ref (ma 28), .int 0, .int 0, .int 0, .int 0, .ref (ma 33), .int (-1), .ref (ma 35), .int 0, .int 0])), ((ma 1), .inl (cy 0, 4, .inl (fun _ => 0))), ((ma 10), .inl (cy 0, 68, .inl (fun _ => 0)))] s.heap.size = A at hD hT ⊢
  have hA : ∀ q : Nat, s.heap.size ≤ q → A q := fun q h => by rw [← hAe]; exact Or.inr h
  have hS : va_S A s.heap s.heap [] := va_S.rf
  have hl0 := lv_entry ([.ref mo, .int p0, .int p1, .int p2, .int p3, .int p4, .int p5, .int p6]) (n := 11) (Nat.le_of_ble_eq_true rfl)
  rw [lg_entry_eq]
  generalize (lg_sl ([.ref mo, .int p0, .int p1, .int p2, .int p3, .int p4, .int p5, .int p6]) ++ List.replicate (11 - (lg_sl ([.ref mo, .int p0, .int p1, .int p2, .int p3, .int p4, .int p5, .int p6])).length) Slot.unset).toArray = ls at hl0 ⊢
  have hlv : lv_has ls 11 [(0, .ref mo), (1, .int p0), (2, .int p1), (3, .int p2), (4, .int p3), (5, .int p4), (6, .int p5), (7, .int p6)] := hl0
  have lf1 := hts (.fieldLink RX12 1 "KerbSplashModel" "thrown" "I") (List.mem_of_getElem? (i := 1) rfl)
  have hi12 : ∀ w ∈ wsX120, w ∈ vs_m_meant := fun w h => List.mem_cons_of_mem _ (List.mem_append_right _ (List.mem_append_left _ h))
  have gg_1 : GoodIn vs_m_meant (wsV RX12 286 RX12 yX12_isCell vs_c_isCell) := goodIn_sub (fun w h => List.mem_cons_of_mem _ (List.mem_append_right _ (List.mem_append_right _ (List.mem_append_left _ h)))) (by decide +kernel)
  refine lv_aload_n hx hb dX12_meant_0 rfl (lv_at hlv 0 rfl) ?_
  refine lv_iconst (v := 0) hx hb dX12_meant_1 (by decide) ?_
  refine va_put (D := D) (ci := 12) (v := .int 0) (ty := .int) (C := RX12) (T := TX12) (N := 38) hx hb hts hi12 tyX12 tyX12_ok nmX12 hown hG.1 hP hD hS 0 rfl rfl 0 (by decide) lf1 (fun _ h9 => h9) rfl (by decide +kernel) rfl rfl (Nat.le_of_ble_eq_true rfl) dX12_meant_2 (fun H locs hP hD hS => ?_)
  have hP : va_P D vwCl [(mo, .inr (12, [.int 0, .ref (ma 1), .int 0, .int 0, .int 0, .int 0, .int 0, .int 0, .int (-1), .ref (ma 9), .ref (ma 10), .ref (ma 11), .ref (ma 12), .ref (ma 13), .ref (ma 14), .ref (ma 15), .int 0, .int 0, .int 0, .ref (ma 19), .ref (ma 20), .ref (ma 21), .int 0, .ref (ma 23), .ref (ma 24), .ref (ma 25), .ref (ma 26), .ref (ma 27), .ref (ma 28), .int 0, .int 0, .int 0, .int 0, .ref (ma 33), .int (-1), .ref (ma 35), .int 0, .int 0])), ((ma 1), .inl (cy 0, 4, .inl (fun _ => 0))), ((ma 10), .inl (cy 0, 68, .inl (fun _ => 0)))] H := hP
  have hD : va_D A [(mo, .inr (12, [.int 0, .ref (ma 1), .int 0, .int 0, .int 0, .int 0, .int 0, .int 0, .int (-1), .ref (ma 9), .ref (ma 10), .ref (ma 11), .ref (ma 12), .ref (ma 13), .ref (ma 14), .ref (ma 15), .int 0, .int 0, .int 0, .ref (ma 19), .ref (ma 20), .ref (ma 21), .int 0, .ref (ma 23), .ref (ma 24), .ref (ma 25), .ref (ma 26), .ref (ma 27), .ref (ma 28), .int 0, .int 0, .int 0, .int 0, .ref (ma 33), .int (-1), .ref (ma 35), .int 0, .int 0])), ((ma 1), .inl (cy 0, 4, .inl (fun _ => 0))), ((ma 10), .inl (cy 0, 68, .inl (fun _ => 0)))] := hD
  refine lv_aload_n hx hb dX12_meant_5 rfl (lv_at hlv 0 rfl) ?_
  refine lv_iload_n hx hb dX12_meant_6 rfl (lv_at hlv 2 rfl) ?_
  refine lv_iload_n hx hb dX12_meant_7 rfl (lv_at hlv 3 rfl) ?_
  refine lv_iconst (v := 1) hx hb dX12_meant_8 (by decide) ?_
  refine cj_i (wr := []) (va_runV (As := [.int p1, .int p2, .int 1]) (rest := []) ⟨hx, hb, hml, hown, hts⟩ (c_isCell l hl D cy sa mo ma p1 p2 1 H.size (by decide)) (cwV 3 hts gg_1 rfl rfl rfl (by decide +kernel) ⟨Nat.le_of_ble_eq_true rfl, Nat.le_of_ble_eq_true rfl⟩) ⟨pcW.blind, (va_recv hG.1 hP (ci := 12) (q0 := 0) rfl rfl), (pcW.mk hP hD hS hA hG hT [0, 1, 2] rfl (by decide))⟩ rfl rfl hlv.1 rfl (lv_room (Nat.le_of_ble_eq_true rfl)) dX12_meant_9 ⟨Nat.le_of_ble_eq_true rfl, Nat.le_of_ble_eq_true rfl⟩) hP hD hS hA [0, 1, 2] [] rfl rfl (by decide) (by decide) (fun r1 u1 H locs hw1 hP hD hS => ?_)
  obtain rfl := hw1
  have hP : va_P D vwCl [(mo, .inr (12, [.int 1, .ref (ma 1), .int 0, .int 0, .int 0, .int 0, .int 0, .int 0, .int (-1), .ref (ma 9), .ref (ma 10), .ref (ma 11), .ref (ma 12), .ref (ma 13), .ref (ma 14), .ref (ma 15), .int 0, .int 0, .int 0, .ref (ma 19), .ref (ma 20), .ref (ma 21), .int 0, .ref (ma 23), .ref (ma 24), .ref (ma 25), .ref (ma 26), .ref (ma 27), .ref (ma 28), .int 0, .int 0, .int 0, .int 0, .ref (ma 33), .int (-1), .ref (ma 35), .int 0, .int 0]))] H := hP
  have hD : va_D A [(mo, .inr (12, [.int 1, .ref (ma 1), .int 0, .int 0, .int 0, .int 0, .int 0, .int 0, .int (-1), .ref (ma 9), .ref (ma 10), .ref (ma 11), .ref (ma 12), .ref (ma 13), .ref (ma 14), .ref (ma 15), .int 0, .int 0, .int 0, .ref (ma 19), .ref (ma 20), .ref (ma 21), .int 0, .ref (ma 23), .ref (ma 24), .ref (ma 25), .ref (ma 26), .ref (ma 27), .ref (ma 28), .int 0, .int 0, .int 0, .int 0, .ref (ma 33), .int (-1), .ref (ma 35), .int 0, .int 0]))] := hD
  refine lv_if_eq (tgt := 71) hx hb dX12_meant_12 (by decide) (fun _ => ?_) (fun c => absurd (by decide) c)
  refine lv_iconst (v := 0) hx hb dX12_meant_71 (by decide) ?_
  refine W.widen (k := 0) (n := 0) (Nat.le_of_ble_eq_true rfl) (Nat.le_of_ble_eq_true rfl) ?_
  exact W.iret (v := 0) hx hb hr (fun t ht hW => ⟨⟨0, ((fun k => ([] : List Nat).getD k 0), (fun k => ([] : List Int32).getD k 0), (fun k => ([] : List (Nat → Int32)).getD k (fun _ => 0))), rfl, (by first | (exact (by rfl))), by rw [ht]; exact hP.sub [0] rfl, hD.sub [0] (by decide) rfl⟩, hS.F ht⟩) hS.2.2 dX12_meant_72
def vs_m_drain : List Cond := .code yX12_drain cX12_drain 3 (some .int) :: (([.fieldLink RX12 1 "KerbSplashModel" "thrown" "I"] : List Cond) ++ ((wsX120) ++ ((wsV RX12 283 RX12 yX12_drains vs_c_drains) ++ ((va_wsS RX12 279 yX12_within vs_c_within) ++ ((wsV RX12 175 RX12 yX12_may vs_c_may0_1) ++ ([]))))))
set_option maxHeartbeats 4000000 in
set_option maxRecDepth 100000 in
theorem m_drain (l : Launch) (hl : l.stackTraces = false) (D : va_G) (cy : Nat → ClassId) (sa : Nat → Nat) (mo : Nat) (ma : Nat → Nat) (p0 p1 : Int32) (sz : Nat) : Met l yX12_drain vs_m_drain ({ frames := 1, cells := 0, slots := 0, locals := 23 }) (va_Pc [.ref mo, .int p0, .int p1] (pcW D cy sa sz [(mo, .inr (12, [.int 0, .ref (ma 1), .int 0, .int 0, .int 0, .int 0, .int 0, .int 0, .int (-1), .ref (ma 9), .ref (ma 10), .ref (ma 11), .ref (ma 12), .ref (ma 13), .ref (ma 14), .ref (ma 15), .int 0, .int 0, .int 0, .ref (ma 19), .ref (ma 20), .ref (ma 21), .int 0, .ref (ma 23), .ref (ma 24), .ref (ma 25), .ref (ma 26), .ref (ma 27), .ref (ma 28), .int 0, .int 0, .int 0, .int 0, .ref (ma 33), .int (-1), .ref (ma 35), .int 0, .int 0])), ((ma 1), .inl (cy 0, 4, .inl (fun _ => 0))), ((ma 10), .inl (cy 0, 68, .inl (fun _ => 0))), ((ma 12), .inl (cy 0, 389, .inl sF))])) (va_Qi (fun (r : Int32) (u : SU) => (r = 0)) (fun u t => atW D (va_A [(mo, .inr (12, [.int 0, .ref (ma 1), .int 0, .int 0, .int 0, .int 0, .int 0, .int 0, .int (-1), .ref (ma 9), .ref (ma 10), .ref (ma 11), .ref (ma 12), .ref (ma 13), .ref (ma 14), .ref (ma 15), .int 0, .int 0, .int 0, .ref (ma 19), .ref (ma 20), .ref (ma 21), .int 0, .ref (ma 23), .ref (ma 24), .ref (ma 25), .ref (ma 26), .ref (ma 27), .ref (ma 28), .int 0, .int 0, .int 0, .int 0, .ref (ma 33), .int (-1), .ref (ma 35), .int 0, .int 0])), ((ma 1), .inl (cy 0, 4, .inl (fun _ => 0))), ((ma 10), .inl (cy 0, 68, .inl (fun _ => 0))), ((ma 12), .inl (cy 0, 389, .inl sF))] sz) [(mo, .inr (12, [.int 1, .ref (ma 1), .int 0, .int 0, .int 0, .int 0, .int 0, .int 0, .int (-1), .ref (ma 9), .ref (ma 10), .ref (ma 11), .ref (ma 12), .ref (ma 13), .ref (ma 14), .ref (ma 15), .int 0, .int 0, .int 0, .ref (ma 19), .ref (ma 20), .ref (ma 21), .int 0, .ref (ma 23), .ref (ma 24), .ref (ma 25), .ref (ma 26), .ref (ma 27), .ref (ma 28), .int 0, .int 0, .int 0, .int 0, .ref (ma 33), .int (-1), .ref (ma 35), .int 0, .int 0]))] t) (va_A [(mo, .inr (12, [.int 0, .ref (ma 1), .int 0, .int 0, .int 0, .int 0, .int 0, .int 0, .int (-1), .ref (ma 9), .ref (ma 10), .ref (ma 11), .ref (ma 12), .ref (ma 13), .ref (ma 14), .ref (ma 15), .int 0, .int 0, .int 0, .ref (ma 19), .ref (ma 20), .ref (ma 21), .int 0, .ref (ma 23), .ref (ma 24), .ref (ma 25), .ref (ma 26), .ref (ma 27), .ref (ma 28), .int 0, .int 0, .int 0, .int 0, .ref (ma 33), .int (-1), .ref (ma 35), .int 0, .int 0])), ((ma 1), .inl (cy 0, 4, .inl (fun _ => 0))), ((ma 10), .inl (cy 0, 68, .inl (fun _ => 0))), ((ma 12), .inl (cy 0, 389, .inl sF))] sz)) 0 0 (va_A [(mo, .inr (12, [.int 0, .ref (ma 1), .int 0, .int 0, .int 0, .int 0, .int 0, .int 0, .int (-1), .ref (ma 9), .ref (ma 10), .ref (ma 11), .ref (ma 12), .ref (ma 13), .ref (ma 14), .ref (ma 15), .int 0, .int 0, .int 0, .ref (ma 19), .ref (ma 20), .ref (ma 21), .int 0, .ref (ma 23), .ref (ma 24), .ref (ma 25), .ref (ma 26), .ref (ma 27), .ref (ma 28), .int 0, .int 0, .int 0, .int 0, .ref (ma 33), .int (-1), .ref (ma 35), .int 0, .int 0])), ((ma 1), .inl (cy 0, 4, .inl (fun _ => 0))), ((ma 10), .inl (cy 0, 68, .inl (fun _ => 0))), ((ma 12), .inl (cy 0, 389, .inl sF))] sz) := by
  refine Met.ofW (cc := cX12_drain) (maxL := 3) (ret := (some .int)) (by decide) rfl ?_
  intro p e s m args below meth c s₁ B hml hv
  obtain ⟨rfl, hsz, hP, hG, hD0, hT⟩ := hv
  have hx := B.exec
  have hb := B.bytes
  have hr := B.returns
  have hts := atoms_spec (ws := vs_m_drain) B.pre
  have hown : s.vm.findClass RX12 = some m.cls := findClass_of_methodNamed B.named
  have hlocks := B.notSynchronized
  subst hsz
  have hD := hD0.self (sz := s.heap.size)
  generalize hAe : va_A [(mo, .inr (12, [.int 0, .ref (ma 1), .int 0, .int 0, .int 0, .int 0, .int 0, .int 0, .int (-1), .ref (ma 9), .ref (ma 10), .ref (ma 11), .ref (ma 12), .ref (ma 13), .ref (ma 14), .ref (ma 15), .int 0, .int 0, .int 0, .ref (ma 19), .ref (ma 20), .ref (ma 21), .int 0, .ref (ma 23), .ref (ma 24), .ref (ma 25), .ref (ma 26), .ref (ma 27), .ref (ma 28), .int 0, .int 0, .int 0, .int 0, .ref (ma 33), .int (-1), .ref (ma 35), .int 0, .int 0])), ((ma 1), .inl (cy 0, 4, .inl (fun _ => 0))), ((ma 10), .inl (cy 0, 68, .inl (fun _ => 0))), ((ma 12), .inl (cy 0, 389, .inl sF))] s.heap.size = A at hD hT ⊢
  have hA : ∀ q : Nat, s.heap.size ≤ q → A q := fun q h => by rw [← hAe]; exact Or.inr h
  have hS : va_S A s.heap s.heap [] := va_S.rf
  have hl0 := lv_entry ([.ref mo, .int p0, .int p1]) (n := 3) (Nat.le_of_ble_eq_true rfl)
  rw [lg_entry_eq]
  generalize (lg_sl ([.ref mo, .int p0, .int p1]) ++ List.replicate (3 - (lg_sl ([.ref mo, .int p0, .int p1])).length) Slot.unset).toArray = ls at hl0 ⊢
  have hlv : lv_has ls 3 [(0, .ref mo), (1, .int p0), (2, .int p1)] := hl0
  have lf1 := hts (.fieldLink RX12 1 "KerbSplashModel" "thrown" "I") (List.mem_of_getElem? (i := 1) rfl)
  have hi12 : ∀ w ∈ wsX120, w ∈ vs_m_drain := fun w h => List.mem_cons_of_mem _ (List.mem_append_right _ (List.mem_append_left _ h))
  have gg_1 : GoodIn vs_m_drain (wsV RX12 283 RX12 yX12_drains vs_c_drains) := goodIn_sub (fun w h => List.mem_cons_of_mem _ (List.mem_append_right _ (List.mem_append_right _ (List.mem_append_left _ h)))) (by decide +kernel)
  have gg_2 : GoodIn vs_m_drain (va_wsS RX12 279 yX12_within vs_c_within) := goodIn_sub (fun w h => List.mem_cons_of_mem _ (List.mem_append_right _ (List.mem_append_right _ (List.mem_append_right _ (List.mem_append_left _ h))))) (by decide +kernel)
  have gg_3 : GoodIn vs_m_drain (wsV RX12 175 RX12 yX12_may vs_c_may0_1) := goodIn_sub (fun w h => List.mem_cons_of_mem _ (List.mem_append_right _ (List.mem_append_right _ (List.mem_append_right _ (List.mem_append_right _ (List.mem_append_left _ h)))))) (by decide +kernel)
  refine lv_aload_n hx hb dX12_drain_0 rfl (lv_at hlv 0 rfl) ?_
  refine lv_iconst (v := 0) hx hb dX12_drain_1 (by decide) ?_
  refine va_put (D := D) (ci := 12) (v := .int 0) (ty := .int) (C := RX12) (T := TX12) (N := 38) hx hb hts hi12 tyX12 tyX12_ok nmX12 hown hG.1 hP hD hS 0 rfl rfl 0 (by decide) lf1 (fun _ h9 => h9) rfl (by decide +kernel) rfl rfl (Nat.le_of_ble_eq_true rfl) dX12_drain_2 (fun H locs hP hD hS => ?_)
  have hP : va_P D vwCl [(mo, .inr (12, [.int 0, .ref (ma 1), .int 0, .int 0, .int 0, .int 0, .int 0, .int 0, .int (-1), .ref (ma 9), .ref (ma 10), .ref (ma 11), .ref (ma 12), .ref (ma 13), .ref (ma 14), .ref (ma 15), .int 0, .int 0, .int 0, .ref (ma 19), .ref (ma 20), .ref (ma 21), .int 0, .ref (ma 23), .ref (ma 24), .ref (ma 25), .ref (ma 26), .ref (ma 27), .ref (ma 28), .int 0, .int 0, .int 0, .int 0, .ref (ma 33), .int (-1), .ref (ma 35), .int 0, .int 0])), ((ma 1), .inl (cy 0, 4, .inl (fun _ => 0))), ((ma 10), .inl (cy 0, 68, .inl (fun _ => 0))), ((ma 12), .inl (cy 0, 389, .inl sF))] H := hP
  have hD : va_D A [(mo, .inr (12, [.int 0, .ref (ma 1), .int 0, .int 0, .int 0, .int 0, .int 0, .int 0, .int (-1), .ref (ma 9), .ref (ma 10), .ref (ma 11), .ref (ma 12), .ref (ma 13), .ref (ma 14), .ref (ma 15), .int 0, .int 0, .int 0, .ref (ma 19), .ref (ma 20), .ref (ma 21), .int 0, .ref (ma 23), .ref (ma 24), .ref (ma 25), .ref (ma 26), .ref (ma 27), .ref (ma 28), .int 0, .int 0, .int 0, .int 0, .ref (ma 33), .int (-1), .ref (ma 35), .int 0, .int 0])), ((ma 1), .inl (cy 0, 4, .inl (fun _ => 0))), ((ma 10), .inl (cy 0, 68, .inl (fun _ => 0))), ((ma 12), .inl (cy 0, 389, .inl sF))] := hD
  refine lv_aload_n hx hb dX12_drain_5 rfl (lv_at hlv 0 rfl) ?_
  refine lv_iload_n hx hb dX12_drain_6 rfl (lv_at hlv 1 rfl) ?_
  refine lv_iconst (v := 0) hx hb dX12_drain_7 (by decide) ?_
  refine lv_aload_n hx hb dX12_drain_8 rfl (lv_at hlv 0 rfl) ?_
  refine cj_i (wr := [((ma 1), .inl (cy 0, 4, .inl (fun _ => 0)))]) (va_runV (As := []) (rest := [.int 0, .int p0, .ref mo]) ⟨hx, hb, hml, hown, hts⟩ (c_drains l hl D cy sa mo ma H.size) (cwV 0 hts gg_1 rfl rfl rfl (by decide +kernel) ⟨Nat.le_of_ble_eq_true rfl, Nat.le_of_ble_eq_true rfl⟩) ⟨pcW.blind, (va_recv hG.1 hP (ci := 12) (q0 := 0) rfl rfl), (pcW.mk hP hD hS hA hG hT [0, 2, 3] rfl (by decide))⟩ rfl rfl hlv.1 rfl (lv_room (Nat.le_of_ble_eq_true rfl)) dX12_drain_9 ⟨Nat.le_of_ble_eq_true rfl, Nat.le_of_ble_eq_true rfl⟩) hP hD hS hA [0, 2, 3] [1] rfl rfl (by decide) (by decide) (fun r1 u1 H locs hw1 hP hD hS => ?_)
  obtain rfl := hw1
  have hP : va_P D vwCl [((ma 1), .inl (cy 0, 4, .inl (fun _ => 0))), (mo, .inr (12, [.int 0, .ref (ma 1), .int 0, .int 0, .int 0, .int 0, .int 0, .int 0, .int (-1), .ref (ma 9), .ref (ma 10), .ref (ma 11), .ref (ma 12), .ref (ma 13), .ref (ma 14), .ref (ma 15), .int 0, .int 0, .int 0, .ref (ma 19), .ref (ma 20), .ref (ma 21), .int 0, .ref (ma 23), .ref (ma 24), .ref (ma 25), .ref (ma 26), .ref (ma 27), .ref (ma 28), .int 0, .int 0, .int 0, .int 0, .ref (ma 33), .int (-1), .ref (ma 35), .int 0, .int 0])), ((ma 10), .inl (cy 0, 68, .inl (fun _ => 0))), ((ma 12), .inl (cy 0, 389, .inl sF))] H := hP
  have hD : va_D A [((ma 1), .inl (cy 0, 4, .inl (fun _ => 0))), (mo, .inr (12, [.int 0, .ref (ma 1), .int 0, .int 0, .int 0, .int 0, .int 0, .int 0, .int (-1), .ref (ma 9), .ref (ma 10), .ref (ma 11), .ref (ma 12), .ref (ma 13), .ref (ma 14), .ref (ma 15), .int 0, .int 0, .int 0, .ref (ma 19), .ref (ma 20), .ref (ma 21), .int 0, .ref (ma 23), .ref (ma 24), .ref (ma 25), .ref (ma 26), .ref (ma 27), .ref (ma 28), .int 0, .int 0, .int 0, .int 0, .ref (ma 33), .int (-1), .ref (ma 35), .int 0, .int 0])), ((ma 10), .inl (cy 0, 68, .inl (fun _ => 0))), ((ma 12), .inl (cy 0, 389, .inl sF))] := hD
  refine lv_iconst (v := 1) hx hb dX12_drain_12 (by decide) ?_
  refine lv_isub hx hb dX12_drain_13 ?_
  refine lt_i (y := (-1)) (by decide) ?_
  refine cj_i (wr := [((ma 1), .inl (cy 0, 4, .inl (fun _ => 0))), (mo, .inr (12, [.int 0, .ref (ma 1), .int 0, .int 0, .int 0, .int 0, .int 0, .int 0, .int (-1), .ref (ma 9), .ref (ma 10), .ref (ma 11), .ref (ma 12), .ref (ma 13), .ref (ma 14), .ref (ma 15), .int 0, .int 0, .int 0, .ref (ma 19), .ref (ma 20), .ref (ma 21), .int 0, .ref (ma 23), .ref (ma 24), .ref (ma 25), .ref (ma 26), .ref (ma 27), .ref (ma 28), .int 0, .int 0, .int 0, .int 0, .ref (ma 33), .int (-1), .ref (ma 35), .int 0, .int 0])), ((ma 10), .inl (cy 0, 68, .inl (fun _ => 0))), ((ma 12), .inl (cy 0, 389, .inl sF))]) (va_runS (As := [.int p0, .int 0, .int (-1)]) (rest := [.ref mo]) ⟨hx, hb, hml, hown, hts⟩ (c_within l hl D cy sa p0 0 (-1) H.size) (va_cwS 3 hts gg_2 rfl rfl rfl (by decide +kernel) ⟨Nat.le_of_ble_eq_true rfl, Nat.le_of_ble_eq_true rfl⟩) ⟨pcW.blind, (pcW.mk hP hD hS hA hG hT [] rfl (by decide))⟩ rfl rfl hlv.1 rfl (lv_room (Nat.le_of_ble_eq_true rfl)) dX12_drain_14 ⟨Nat.le_of_ble_eq_true rfl, Nat.le_of_ble_eq_true rfl⟩) hP hD hS hA [] [0, 1, 2, 3] rfl rfl (by decide) (by decide) (fun r2 u2 H locs hw2 hP hD hS => ?_)
  rcases hw2 with ⟨hg2, rfl⟩ | ⟨hg2, rfl⟩
  · exact absurd hg2 (fun q => absurd (Int32.le_trans q.1 q.2) (by decide))
  · have hP : va_P D vwCl [((ma 1), .inl (cy 0, 4, .inl (fun _ => 0))), (mo, .inr (12, [.int 0, .ref (ma 1), .int 0, .int 0, .int 0, .int 0, .int 0, .int 0, .int (-1), .ref (ma 9), .ref (ma 10), .ref (ma 11), .ref (ma 12), .ref (ma 13), .ref (ma 14), .ref (ma 15), .int 0, .int 0, .int 0, .ref (ma 19), .ref (ma 20), .ref (ma 21), .int 0, .ref (ma 23), .ref (ma 24), .ref (ma 25), .ref (ma 26), .ref (ma 27), .ref (ma 28), .int 0, .int 0, .int 0, .int 0, .ref (ma 33), .int (-1), .ref (ma 35), .int 0, .int 0])), ((ma 10), .inl (cy 0, 68, .inl (fun _ => 0))), ((ma 12), .inl (cy 0, 389, .inl sF))] H := hP
    have hD : va_D A [((ma 1), .inl (cy 0, 4, .inl (fun _ => 0))), (mo, .inr (12, [.int 0, .ref (ma 1), .int 0, .int 0, .int 0, .int 0, .int 0, .int 0, .int (-1), .ref (ma 9), .ref (ma 10), .ref (ma 11), .ref (ma 12), .ref (ma 13), .ref (ma 14), .ref (ma 15), .int 0, .int 0, .int 0, .ref (ma 19), .ref (ma 20), .ref (ma 21), .int 0, .ref (ma 23), .ref (ma 24), .ref (ma 25), .ref (ma 26), .ref (ma 27), .ref (ma 28), .int 0, .int 0, .int 0, .int 0, .ref (ma 33), .int (-1), .ref (ma 35), .int 0, .int 0])), ((ma 10), .inl (cy 0, 68, .inl (fun _ => 0))), ((ma 12), .inl (cy 0, 389, .inl sF))] := hD
    refine lv_iconst (v := 1) hx hb dX12_drain_17 (by decide) ?_
    refine lv_iconst (v := 1) hx hb dX12_drain_18 (by decide) ?_
    refine cj_i (wr := [((ma 10), .inl (cy 0, 68, .inl (fun _ => 0))), ((ma 12), .inl (cy 0, 389, .inl sF))]) (va_runV (As := [.int 0, .int 1, .int 1]) (rest := []) ⟨hx, hb, hml, hown, hts⟩ (c_may0_1 l hl D cy sa mo ma 1 H.size (by decide)) (cwV 3 hts gg_3 rfl rfl rfl (by decide +kernel) ⟨Nat.le_of_ble_eq_true rfl, Nat.le_of_ble_eq_true rfl⟩) ⟨pcW.blind, (va_recv hG.1 hP (ci := 12) (q0 := 1) rfl rfl), (pcW.mk hP hD hS hA hG hT [1, 0] rfl (by decide))⟩ rfl rfl hlv.1 rfl (lv_room (Nat.le_of_ble_eq_true rfl)) dX12_drain_19 ⟨Nat.le_of_ble_eq_true rfl, Nat.le_of_ble_eq_true rfl⟩) hP hD hS hA [1, 0] [2, 3] rfl rfl (by decide) (by decide) (fun r3 u3 H locs hw3 hP hD hS => ?_)
    obtain rfl := hw3
    have hP : va_P D vwCl [((ma 10), .inl (cy 0, 68, .inl (fun _ => 0))), ((ma 12), .inl (cy 0, 389, .inl sF)), (mo, .inr (12, [.int 1, .ref (ma 1), .int 0, .int 0, .int 0, .int 0, .int 0, .int 0, .int (-1), .ref (ma 9), .ref (ma 10), .ref (ma 11), .ref (ma 12), .ref (ma 13), .ref (ma 14), .ref (ma 15), .int 0, .int 0, .int 0, .ref (ma 19), .ref (ma 20), .ref (ma 21), .int 0, .ref (ma 23), .ref (ma 24), .ref (ma 25), .ref (ma 26), .ref (ma 27), .ref (ma 28), .int 0, .int 0, .int 0, .int 0, .ref (ma 33), .int (-1), .ref (ma 35), .int 0, .int 0]))] H := hP
    have hD : va_D A [((ma 10), .inl (cy 0, 68, .inl (fun _ => 0))), ((ma 12), .inl (cy 0, 389, .inl sF)), (mo, .inr (12, [.int 1, .ref (ma 1), .int 0, .int 0, .int 0, .int 0, .int 0, .int 0, .int (-1), .ref (ma 9), .ref (ma 10), .ref (ma 11), .ref (ma 12), .ref (ma 13), .ref (ma 14), .ref (ma 15), .int 0, .int 0, .int 0, .ref (ma 19), .ref (ma 20), .ref (ma 21), .int 0, .ref (ma 23), .ref (ma 24), .ref (ma 25), .ref (ma 26), .ref (ma 27), .ref (ma 28), .int 0, .int 0, .int 0, .int 0, .ref (ma 33), .int (-1), .ref (ma 35), .int 0, .int 0]))] := hD
    refine lv_if_eq (tgt := 40) hx hb dX12_drain_22 (by decide) (fun _ => ?_) (fun c => absurd (by decide) c)
    refine lv_iconst (v := 0) hx hb dX12_drain_40 (by decide) ?_
    refine W.widen (k := 0) (n := 0) (Nat.le_of_ble_eq_true rfl) (Nat.le_of_ble_eq_true rfl) ?_
    exact W.iret (v := 0) hx hb hr (fun t ht hW => ⟨⟨0, ((fun k => ([] : List Nat).getD k 0), (fun k => ([] : List Int32).getD k 0), (fun k => ([] : List (Nat → Int32)).getD k (fun _ => 0))), rfl, (by first | (exact (by rfl))), by rw [ht]; exact hP.sub [2] rfl, hD.sub [2] (by decide) rfl⟩, hS.F ht⟩) hS.2.2 dX12_drain_41
def vs_m_leaves : List Cond := .code yX12_leaves cX12_leaves 4 (some .int) :: (([.fieldLink RX12 1 "KerbSplashModel" "thrown" "I"] : List Cond) ++ ((wsX120) ++ ((wsV RX12 283 RX12 yX12_drains vs_c_drains) ++ ((va_wsS RX12 279 yX12_within vs_c_within) ++ ((wsV RX12 175 RX12 yX12_may vs_c_may0_1) ++ ([]))))))
set_option maxHeartbeats 4000000 in
set_option maxRecDepth 100000 in
theorem m_leaves (l : Launch) (hl : l.stackTraces = false) (D : va_G) (cy : Nat → ClassId) (sa : Nat → Nat) (mo : Nat) (ma : Nat → Nat) (p0 p1 : Int32) (sz : Nat) : Met l yX12_leaves vs_m_leaves ({ frames := 1, cells := 0, slots := 0, locals := 23 }) (va_Pc [.ref mo, .int p0, .int p1] (pcW D cy sa sz [(mo, .inr (12, [.int 0, .ref (ma 1), .int 0, .int 0, .int 0, .int 0, .int 0, .int 0, .int (-1), .ref (ma 9), .ref (ma 10), .ref (ma 11), .ref (ma 12), .ref (ma 13), .ref (ma 14), .ref (ma 15), .int 0, .int 0, .int 0, .ref (ma 19), .ref (ma 20), .ref (ma 21), .int 0, .ref (ma 23), .ref (ma 24), .ref (ma 25), .ref (ma 26), .ref (ma 27), .ref (ma 28), .int 0, .int 0, .int 0, .int 0, .ref (ma 33), .int (-1), .ref (ma 35), .int 0, .int 0])), ((ma 1), .inl (cy 0, 4, .inl (fun _ => 0))), ((ma 10), .inl (cy 0, 68, .inl (fun _ => 0))), ((ma 12), .inl (cy 0, 389, .inl sF))])) (va_Qi (fun (r : Int32) (u : SU) => (r = 0)) (fun u t => atW D (va_A [(mo, .inr (12, [.int 0, .ref (ma 1), .int 0, .int 0, .int 0, .int 0, .int 0, .int 0, .int (-1), .ref (ma 9), .ref (ma 10), .ref (ma 11), .ref (ma 12), .ref (ma 13), .ref (ma 14), .ref (ma 15), .int 0, .int 0, .int 0, .ref (ma 19), .ref (ma 20), .ref (ma 21), .int 0, .ref (ma 23), .ref (ma 24), .ref (ma 25), .ref (ma 26), .ref (ma 27), .ref (ma 28), .int 0, .int 0, .int 0, .int 0, .ref (ma 33), .int (-1), .ref (ma 35), .int 0, .int 0])), ((ma 1), .inl (cy 0, 4, .inl (fun _ => 0))), ((ma 10), .inl (cy 0, 68, .inl (fun _ => 0))), ((ma 12), .inl (cy 0, 389, .inl sF))] sz) [(mo, .inr (12, [.int 1, .ref (ma 1), .int 0, .int 0, .int 0, .int 0, .int 0, .int 0, .int (-1), .ref (ma 9), .ref (ma 10), .ref (ma 11), .ref (ma 12), .ref (ma 13), .ref (ma 14), .ref (ma 15), .int 0, .int 0, .int 0, .ref (ma 19), .ref (ma 20), .ref (ma 21), .int 0, .ref (ma 23), .ref (ma 24), .ref (ma 25), .ref (ma 26), .ref (ma 27), .ref (ma 28), .int 0, .int 0, .int 0, .int 0, .ref (ma 33), .int (-1), .ref (ma 35), .int 0, .int 0]))] t) (va_A [(mo, .inr (12, [.int 0, .ref (ma 1), .int 0, .int 0, .int 0, .int 0, .int 0, .int 0, .int (-1), .ref (ma 9), .ref (ma 10), .ref (ma 11), .ref (ma 12), .ref (ma 13), .ref (ma 14), .ref (ma 15), .int 0, .int 0, .int 0, .ref (ma 19), .ref (ma 20), .ref (ma 21), .int 0, .ref (ma 23), .ref (ma 24), .ref (ma 25), .ref (ma 26), .ref (ma 27), .ref (ma 28), .int 0, .int 0, .int 0, .int 0, .ref (ma 33), .int (-1), .ref (ma 35), .int 0, .int 0])), ((ma 1), .inl (cy 0, 4, .inl (fun _ => 0))), ((ma 10), .inl (cy 0, 68, .inl (fun _ => 0))), ((ma 12), .inl (cy 0, 389, .inl sF))] sz)) 0 0 (va_A [(mo, .inr (12, [.int 0, .ref (ma 1), .int 0, .int 0, .int 0, .int 0, .int 0, .int 0, .int (-1), .ref (ma 9), .ref (ma 10), .ref (ma 11), .ref (ma 12), .ref (ma 13), .ref (ma 14), .ref (ma 15), .int 0, .int 0, .int 0, .ref (ma 19), .ref (ma 20), .ref (ma 21), .int 0, .ref (ma 23), .ref (ma 24), .ref (ma 25), .ref (ma 26), .ref (ma 27), .ref (ma 28), .int 0, .int 0, .int 0, .int 0, .ref (ma 33), .int (-1), .ref (ma 35), .int 0, .int 0])), ((ma 1), .inl (cy 0, 4, .inl (fun _ => 0))), ((ma 10), .inl (cy 0, 68, .inl (fun _ => 0))), ((ma 12), .inl (cy 0, 389, .inl sF))] sz) := by
  refine Met.ofW (cc := cX12_leaves) (maxL := 4) (ret := (some .int)) (by decide) rfl ?_
  intro p e s m args below meth c s₁ B hml hv
  obtain ⟨rfl, hsz, hP, hG, hD0, hT⟩ := hv
  have hx := B.exec
  have hb := B.bytes
  have hr := B.returns
  have hts := atoms_spec (ws := vs_m_leaves) B.pre
  have hown : s.vm.findClass RX12 = some m.cls := findClass_of_methodNamed B.named
  have hlocks := B.notSynchronized
  subst hsz
  have hD := hD0.self (sz := s.heap.size)
  generalize hAe : va_A [(mo, .inr (12, [.int 0, .ref (ma 1), .int 0, .int 0, .int 0, .int 0, .int 0, .int 0, .int (-1), .ref (ma 9), .ref (ma 10), .ref (ma 11), .ref (ma 12), .ref (ma 13), .ref (ma 14), .ref (ma 15), .int 0, .int 0, .int 0, .ref (ma 19), .ref (ma 20), .ref (ma 21), .int 0, .ref (ma 23), .ref (ma 24), .ref (ma 25), .ref (ma 26), .ref (ma 27), .ref (ma 28), .int 0, .int 0, .int 0, .int 0, .ref (ma 33), .int (-1), .ref (ma 35), .int 0, .int 0])), ((ma 1), .inl (cy 0, 4, .inl (fun _ => 0))), ((ma 10), .inl (cy 0, 68, .inl (fun _ => 0))), ((ma 12), .inl (cy 0, 389, .inl sF))] s.heap.size = A at hD hT ⊢
  have hA : ∀ q : Nat, s.heap.size ≤ q → A q := fun q h => by rw [← hAe]; exact Or.inr h
  have hS : va_S A s.heap s.heap [] := va_S.rf
  have hl0 := lv_entry ([.ref mo, .int p0, .int p1]) (n := 4) (Nat.le_of_ble_eq_true rfl)
  rw [lg_entry_eq]
  generalize (lg_sl ([.ref mo, .int p0, .int p1]) ++ List.replicate (4 - (lg_sl ([.ref mo, .int p0, .int p1])).length) Slot.unset).toArray = ls at hl0 ⊢
  have hlv : lv_has ls 4 [(0, .ref mo), (1, .int p0), (2, .int p1)] := hl0
  have lf1 := hts (.fieldLink RX12 1 "KerbSplashModel" "thrown" "I") (List.mem_of_getElem? (i := 1) rfl)
  have hi12 : ∀ w ∈ wsX120, w ∈ vs_m_leaves := fun w h => List.mem_cons_of_mem _ (List.mem_append_right _ (List.mem_append_left _ h))
  have gg_1 : GoodIn vs_m_leaves (wsV RX12 283 RX12 yX12_drains vs_c_drains) := goodIn_sub (fun w h => List.mem_cons_of_mem _ (List.mem_append_right _ (List.mem_append_right _ (List.mem_append_left _ h)))) (by decide +kernel)
  have gg_2 : GoodIn vs_m_leaves (va_wsS RX12 279 yX12_within vs_c_within) := goodIn_sub (fun w h => List.mem_cons_of_mem _ (List.mem_append_right _ (List.mem_append_right _ (List.mem_append_right _ (List.mem_append_left _ h))))) (by decide +kernel)
  have gg_3 : GoodIn vs_m_leaves (wsV RX12 175 RX12 yX12_may vs_c_may0_1) := goodIn_sub (fun w h => List.mem_cons_of_mem _ (List.mem_append_right _ (List.mem_append_right _ (List.mem_append_right _ (List.mem_append_right _ (List.mem_append_left _ h)))))) (by decide +kernel)
  refine lv_aload_n hx hb dX12_leaves_0 rfl (lv_at hlv 0 rfl) ?_
  refine lv_iconst (v := 0) hx hb dX12_leaves_1 (by decide) ?_
  refine va_put (D := D) (ci := 12) (v := .int 0) (ty := .int) (C := RX12) (T := TX12) (N := 38) hx hb hts hi12 tyX12 tyX12_ok nmX12 hown hG.1 hP hD hS 0 rfl rfl 0 (by decide) lf1 (fun _ h9 => h9) rfl (by decide +kernel) rfl rfl (Nat.le_of_ble_eq_true rfl) dX12_leaves_2 (fun H locs hP hD hS => ?_)
  have hP : va_P D vwCl [(mo, .inr (12, [.int 0, .ref (ma 1), .int 0, .int 0, .int 0, .int 0, .int 0, .int 0, .int (-1), .ref (ma 9), .ref (ma 10), .ref (ma 11), .ref (ma 12), .ref (ma 13), .ref (ma 14), .ref (ma 15), .int 0, .int 0, .int 0, .ref (ma 19), .ref (ma 20), .ref (ma 21), .int 0, .ref (ma 23), .ref (ma 24), .ref (ma 25), .ref (ma 26), .ref (ma 27), .ref (ma 28), .int 0, .int 0, .int 0, .int 0, .ref (ma 33), .int (-1), .ref (ma 35), .int 0, .int 0])), ((ma 1), .inl (cy 0, 4, .inl (fun _ => 0))), ((ma 10), .inl (cy 0, 68, .inl (fun _ => 0))), ((ma 12), .inl (cy 0, 389, .inl sF))] H := hP
  have hD : va_D A [(mo, .inr (12, [.int 0, .ref (ma 1), .int 0, .int 0, .int 0, .int 0, .int 0, .int 0, .int (-1), .ref (ma 9), .ref (ma 10), .ref (ma 11), .ref (ma 12), .ref (ma 13), .ref (ma 14), .ref (ma 15), .int 0, .int 0, .int 0, .ref (ma 19), .ref (ma 20), .ref (ma 21), .int 0, .ref (ma 23), .ref (ma 24), .ref (ma 25), .ref (ma 26), .ref (ma 27), .ref (ma 28), .int 0, .int 0, .int 0, .int 0, .ref (ma 33), .int (-1), .ref (ma 35), .int 0, .int 0])), ((ma 1), .inl (cy 0, 4, .inl (fun _ => 0))), ((ma 10), .inl (cy 0, 68, .inl (fun _ => 0))), ((ma 12), .inl (cy 0, 389, .inl sF))] := hD
  refine lv_aload_n hx hb dX12_leaves_5 rfl (lv_at hlv 0 rfl) ?_
  refine lv_iload_n hx hb dX12_leaves_6 rfl (lv_at hlv 1 rfl) ?_
  refine lv_iconst (v := 0) hx hb dX12_leaves_7 (by decide) ?_
  refine lv_aload_n hx hb dX12_leaves_8 rfl (lv_at hlv 0 rfl) ?_
  refine cj_i (wr := [((ma 1), .inl (cy 0, 4, .inl (fun _ => 0)))]) (va_runV (As := []) (rest := [.int 0, .int p0, .ref mo]) ⟨hx, hb, hml, hown, hts⟩ (c_drains l hl D cy sa mo ma H.size) (cwV 0 hts gg_1 rfl rfl rfl (by decide +kernel) ⟨Nat.le_of_ble_eq_true rfl, Nat.le_of_ble_eq_true rfl⟩) ⟨pcW.blind, (va_recv hG.1 hP (ci := 12) (q0 := 0) rfl rfl), (pcW.mk hP hD hS hA hG hT [0, 2, 3] rfl (by decide))⟩ rfl rfl hlv.1 rfl (lv_room (Nat.le_of_ble_eq_true rfl)) dX12_leaves_9 ⟨Nat.le_of_ble_eq_true rfl, Nat.le_of_ble_eq_true rfl⟩) hP hD hS hA [0, 2, 3] [1] rfl rfl (by decide) (by decide) (fun r1 u1 H locs hw1 hP hD hS => ?_)
  obtain rfl := hw1
  have hP : va_P D vwCl [((ma 1), .inl (cy 0, 4, .inl (fun _ => 0))), (mo, .inr (12, [.int 0, .ref (ma 1), .int 0, .int 0, .int 0, .int 0, .int 0, .int 0, .int (-1), .ref (ma 9), .ref (ma 10), .ref (ma 11), .ref (ma 12), .ref (ma 13), .ref (ma 14), .ref (ma 15), .int 0, .int 0, .int 0, .ref (ma 19), .ref (ma 20), .ref (ma 21), .int 0, .ref (ma 23), .ref (ma 24), .ref (ma 25), .ref (ma 26), .ref (ma 27), .ref (ma 28), .int 0, .int 0, .int 0, .int 0, .ref (ma 33), .int (-1), .ref (ma 35), .int 0, .int 0])), ((ma 10), .inl (cy 0, 68, .inl (fun _ => 0))), ((ma 12), .inl (cy 0, 389, .inl sF))] H := hP
  have hD : va_D A [((ma 1), .inl (cy 0, 4, .inl (fun _ => 0))), (mo, .inr (12, [.int 0, .ref (ma 1), .int 0, .int 0, .int 0, .int 0, .int 0, .int 0, .int (-1), .ref (ma 9), .ref (ma 10), .ref (ma 11), .ref (ma 12), .ref (ma 13), .ref (ma 14), .ref (ma 15), .int 0, .int 0, .int 0, .ref (ma 19), .ref (ma 20), .ref (ma 21), .int 0, .ref (ma 23), .ref (ma 24), .ref (ma 25), .ref (ma 26), .ref (ma 27), .ref (ma 28), .int 0, .int 0, .int 0, .int 0, .ref (ma 33), .int (-1), .ref (ma 35), .int 0, .int 0])), ((ma 10), .inl (cy 0, 68, .inl (fun _ => 0))), ((ma 12), .inl (cy 0, 389, .inl sF))] := hD
  refine lv_iconst (v := 1) hx hb dX12_leaves_12 (by decide) ?_
  refine lv_isub hx hb dX12_leaves_13 ?_
  refine lt_i (y := (-1)) (by decide) ?_
  refine cj_i (wr := [((ma 1), .inl (cy 0, 4, .inl (fun _ => 0))), (mo, .inr (12, [.int 0, .ref (ma 1), .int 0, .int 0, .int 0, .int 0, .int 0, .int 0, .int (-1), .ref (ma 9), .ref (ma 10), .ref (ma 11), .ref (ma 12), .ref (ma 13), .ref (ma 14), .ref (ma 15), .int 0, .int 0, .int 0, .ref (ma 19), .ref (ma 20), .ref (ma 21), .int 0, .ref (ma 23), .ref (ma 24), .ref (ma 25), .ref (ma 26), .ref (ma 27), .ref (ma 28), .int 0, .int 0, .int 0, .int 0, .ref (ma 33), .int (-1), .ref (ma 35), .int 0, .int 0])), ((ma 10), .inl (cy 0, 68, .inl (fun _ => 0))), ((ma 12), .inl (cy 0, 389, .inl sF))]) (va_runS (As := [.int p0, .int 0, .int (-1)]) (rest := [.ref mo]) ⟨hx, hb, hml, hown, hts⟩ (c_within l hl D cy sa p0 0 (-1) H.size) (va_cwS 3 hts gg_2 rfl rfl rfl (by decide +kernel) ⟨Nat.le_of_ble_eq_true rfl, Nat.le_of_ble_eq_true rfl⟩) ⟨pcW.blind, (pcW.mk hP hD hS hA hG hT [] rfl (by decide))⟩ rfl rfl hlv.1 rfl (lv_room (Nat.le_of_ble_eq_true rfl)) dX12_leaves_14 ⟨Nat.le_of_ble_eq_true rfl, Nat.le_of_ble_eq_true rfl⟩) hP hD hS hA [] [0, 1, 2, 3] rfl rfl (by decide) (by decide) (fun r2 u2 H locs hw2 hP hD hS => ?_)
  rcases hw2 with ⟨hg2, rfl⟩ | ⟨hg2, rfl⟩
  · exact absurd hg2 (fun q => absurd (Int32.le_trans q.1 q.2) (by decide))
  · have hP : va_P D vwCl [((ma 1), .inl (cy 0, 4, .inl (fun _ => 0))), (mo, .inr (12, [.int 0, .ref (ma 1), .int 0, .int 0, .int 0, .int 0, .int 0, .int 0, .int (-1), .ref (ma 9), .ref (ma 10), .ref (ma 11), .ref (ma 12), .ref (ma 13), .ref (ma 14), .ref (ma 15), .int 0, .int 0, .int 0, .ref (ma 19), .ref (ma 20), .ref (ma 21), .int 0, .ref (ma 23), .ref (ma 24), .ref (ma 25), .ref (ma 26), .ref (ma 27), .ref (ma 28), .int 0, .int 0, .int 0, .int 0, .ref (ma 33), .int (-1), .ref (ma 35), .int 0, .int 0])), ((ma 10), .inl (cy 0, 68, .inl (fun _ => 0))), ((ma 12), .inl (cy 0, 389, .inl sF))] H := hP
    have hD : va_D A [((ma 1), .inl (cy 0, 4, .inl (fun _ => 0))), (mo, .inr (12, [.int 0, .ref (ma 1), .int 0, .int 0, .int 0, .int 0, .int 0, .int 0, .int (-1), .ref (ma 9), .ref (ma 10), .ref (ma 11), .ref (ma 12), .ref (ma 13), .ref (ma 14), .ref (ma 15), .int 0, .int 0, .int 0, .ref (ma 19), .ref (ma 20), .ref (ma 21), .int 0, .ref (ma 23), .ref (ma 24), .ref (ma 25), .ref (ma 26), .ref (ma 27), .ref (ma 28), .int 0, .int 0, .int 0, .int 0, .ref (ma 33), .int (-1), .ref (ma 35), .int 0, .int 0])), ((ma 10), .inl (cy 0, 68, .inl (fun _ => 0))), ((ma 12), .inl (cy 0, 389, .inl sF))] := hD
    refine lv_iconst (v := 1) hx hb dX12_leaves_17 (by decide) ?_
    refine lv_iconst (v := 1) hx hb dX12_leaves_18 (by decide) ?_
    refine cj_i (wr := [((ma 10), .inl (cy 0, 68, .inl (fun _ => 0))), ((ma 12), .inl (cy 0, 389, .inl sF))]) (va_runV (As := [.int 0, .int 1, .int 1]) (rest := []) ⟨hx, hb, hml, hown, hts⟩ (c_may0_1 l hl D cy sa mo ma 1 H.size (by decide)) (cwV 3 hts gg_3 rfl rfl rfl (by decide +kernel) ⟨Nat.le_of_ble_eq_true rfl, Nat.le_of_ble_eq_true rfl⟩) ⟨pcW.blind, (va_recv hG.1 hP (ci := 12) (q0 := 1) rfl rfl), (pcW.mk hP hD hS hA hG hT [1, 0] rfl (by decide))⟩ rfl rfl hlv.1 rfl (lv_room (Nat.le_of_ble_eq_true rfl)) dX12_leaves_19 ⟨Nat.le_of_ble_eq_true rfl, Nat.le_of_ble_eq_true rfl⟩) hP hD hS hA [1, 0] [2, 3] rfl rfl (by decide) (by decide) (fun r3 u3 H locs hw3 hP hD hS => ?_)
    obtain rfl := hw3
    have hP : va_P D vwCl [((ma 10), .inl (cy 0, 68, .inl (fun _ => 0))), ((ma 12), .inl (cy 0, 389, .inl sF)), (mo, .inr (12, [.int 1, .ref (ma 1), .int 0, .int 0, .int 0, .int 0, .int 0, .int 0, .int (-1), .ref (ma 9), .ref (ma 10), .ref (ma 11), .ref (ma 12), .ref (ma 13), .ref (ma 14), .ref (ma 15), .int 0, .int 0, .int 0, .ref (ma 19), .ref (ma 20), .ref (ma 21), .int 0, .ref (ma 23), .ref (ma 24), .ref (ma 25), .ref (ma 26), .ref (ma 27), .ref (ma 28), .int 0, .int 0, .int 0, .int 0, .ref (ma 33), .int (-1), .ref (ma 35), .int 0, .int 0]))] H := hP
    have hD : va_D A [((ma 10), .inl (cy 0, 68, .inl (fun _ => 0))), ((ma 12), .inl (cy 0, 389, .inl sF)), (mo, .inr (12, [.int 1, .ref (ma 1), .int 0, .int 0, .int 0, .int 0, .int 0, .int 0, .int (-1), .ref (ma 9), .ref (ma 10), .ref (ma 11), .ref (ma 12), .ref (ma 13), .ref (ma 14), .ref (ma 15), .int 0, .int 0, .int 0, .ref (ma 19), .ref (ma 20), .ref (ma 21), .int 0, .ref (ma 23), .ref (ma 24), .ref (ma 25), .ref (ma 26), .ref (ma 27), .ref (ma 28), .int 0, .int 0, .int 0, .int 0, .ref (ma 33), .int (-1), .ref (ma 35), .int 0, .int 0]))] := hD
    refine lv_if_eq (tgt := 59) hx hb dX12_leaves_22 (by decide) (fun _ => ?_) (fun c => absurd (by decide) c)
    refine lv_iconst (v := 0) hx hb dX12_leaves_59 (by decide) ?_
    refine W.widen (k := 0) (n := 0) (Nat.le_of_ble_eq_true rfl) (Nat.le_of_ble_eq_true rfl) ?_
    exact W.iret (v := 0) hx hb hr (fun t ht hW => ⟨⟨0, ((fun k => ([] : List Nat).getD k 0), (fun k => ([] : List Int32).getD k 0), (fun k => ([] : List (Nat → Int32)).getD k (fun _ => 0))), rfl, (by first | (exact (by rfl))), by rw [ht]; exact hP.sub [2] rfl, hD.sub [2] (by decide) rfl⟩, hS.F ht⟩) hS.2.2 dX12_leaves_60
def vs_m_person : List Cond := .code yX12_person cX12_person 3 (some .int) :: (([.fieldLink RX12 1 "KerbSplashModel" "thrown" "I", .fieldLink RX12 23 "KerbSplashModel" "b" "[I"] : List Cond) ++ ((wsX120) ++ ((va_wsS RX12 279 yX12_within vs_c_within) ++ ((wsV RX12 175 RX12 yX12_may vs_c_may0_1) ++ ([])))))
set_option maxHeartbeats 4000000 in
set_option maxRecDepth 100000 in
theorem m_person (l : Launch) (hl : l.stackTraces = false) (D : va_G) (cy : Nat → ClassId) (sa : Nat → Nat) (mo : Nat) (ma : Nat → Nat) (p0 p1 : Int32) (sz : Nat) : Met l yX12_person vs_m_person ({ frames := 1, cells := 0, slots := 0, locals := 23 }) (va_Pc [.ref mo, .int p0, .int p1] (pcW D cy sa sz [(mo, .inr (12, [.int 0, .ref (ma 1), .int 0, .int 0, .int 0, .int 0, .int 0, .int 0, .int (-1), .ref (ma 9), .ref (ma 10), .ref (ma 11), .ref (ma 12), .ref (ma 13), .ref (ma 14), .ref (ma 15), .int 0, .int 0, .int 0, .ref (ma 19), .ref (ma 20), .ref (ma 21), .int 0, .ref (ma 23), .ref (ma 24), .ref (ma 25), .ref (ma 26), .ref (ma 27), .ref (ma 28), .int 0, .int 0, .int 0, .int 0, .ref (ma 33), .int (-1), .ref (ma 35), .int 0, .int 0])), ((ma 1), .inl (cy 0, 4, .inl (fun _ => 0))), ((ma 10), .inl (cy 0, 68, .inl (fun _ => 0)))])) (va_Qi (fun (r : Int32) (u : SU) => (r = 0)) (fun u t => atW D (va_A [(mo, .inr (12, [.int 0, .ref (ma 1), .int 0, .int 0, .int 0, .int 0, .int 0, .int 0, .int (-1), .ref (ma 9), .ref (ma 10), .ref (ma 11), .ref (ma 12), .ref (ma 13), .ref (ma 14), .ref (ma 15), .int 0, .int 0, .int 0, .ref (ma 19), .ref (ma 20), .ref (ma 21), .int 0, .ref (ma 23), .ref (ma 24), .ref (ma 25), .ref (ma 26), .ref (ma 27), .ref (ma 28), .int 0, .int 0, .int 0, .int 0, .ref (ma 33), .int (-1), .ref (ma 35), .int 0, .int 0])), ((ma 1), .inl (cy 0, 4, .inl (fun _ => 0))), ((ma 10), .inl (cy 0, 68, .inl (fun _ => 0)))] sz) [(mo, .inr (12, [.int 1, .ref (ma 1), .int 0, .int 0, .int 0, .int 0, .int 0, .int 0, .int (-1), .ref (ma 9), .ref (ma 10), .ref (ma 11), .ref (ma 12), .ref (ma 13), .ref (ma 14), .ref (ma 15), .int 0, .int 0, .int 0, .ref (ma 19), .ref (ma 20), .ref (ma 21), .int 0, .ref (ma 23), .ref (ma 24), .ref (ma 25), .ref (ma 26), .ref (ma 27), .ref (ma 28), .int 0, .int 0, .int 0, .int 0, .ref (ma 33), .int (-1), .ref (ma 35), .int 0, .int 0]))] t) (va_A [(mo, .inr (12, [.int 0, .ref (ma 1), .int 0, .int 0, .int 0, .int 0, .int 0, .int 0, .int (-1), .ref (ma 9), .ref (ma 10), .ref (ma 11), .ref (ma 12), .ref (ma 13), .ref (ma 14), .ref (ma 15), .int 0, .int 0, .int 0, .ref (ma 19), .ref (ma 20), .ref (ma 21), .int 0, .ref (ma 23), .ref (ma 24), .ref (ma 25), .ref (ma 26), .ref (ma 27), .ref (ma 28), .int 0, .int 0, .int 0, .int 0, .ref (ma 33), .int (-1), .ref (ma 35), .int 0, .int 0])), ((ma 1), .inl (cy 0, 4, .inl (fun _ => 0))), ((ma 10), .inl (cy 0, 68, .inl (fun _ => 0)))] sz)) 0 0 (va_A [(mo, .inr (12, [.int 0, .ref (ma 1), .int 0, .int 0, .int 0, .int 0, .int 0, .int 0, .int (-1), .ref (ma 9), .ref (ma 10), .ref (ma 11), .ref (ma 12), .ref (ma 13), .ref (ma 14), .ref (ma 15), .int 0, .int 0, .int 0, .ref (ma 19), .ref (ma 20), .ref (ma 21), .int 0, .ref (ma 23), .ref (ma 24), .ref (ma 25), .ref (ma 26), .ref (ma 27), .ref (ma 28), .int 0, .int 0, .int 0, .int 0, .ref (ma 33), .int (-1), .ref (ma 35), .int 0, .int 0])), ((ma 1), .inl (cy 0, 4, .inl (fun _ => 0))), ((ma 10), .inl (cy 0, 68, .inl (fun _ => 0)))] sz) := by
  refine Met.ofW (cc := cX12_person) (maxL := 3) (ret := (some .int)) (by decide) rfl ?_
  intro p e s m args below meth c s₁ B hml hv
  obtain ⟨rfl, hsz, hP, hG, hD0, hT⟩ := hv
  have hx := B.exec
  have hb := B.bytes
  have hr := B.returns
  have hts := atoms_spec (ws := vs_m_person) B.pre
  have hown : s.vm.findClass RX12 = some m.cls := findClass_of_methodNamed B.named
  have hlocks := B.notSynchronized
  subst hsz
  have hD := hD0.self (sz := s.heap.size)
  generalize hAe : va_A [(mo, .inr (12, [.int 0, .ref (ma 1), .int 0, .int 0, .int 0, .int 0, .int 0, .int 0, .int (-1), .ref (ma 9), .ref (ma 10), .ref (ma 11), .ref (ma 12), .ref (ma 13), .ref (ma 14), .ref (ma 15), .int 0, .int 0, .int 0, .ref (ma 19), .ref (ma 20), .ref (ma 21), .int 0, .ref (ma 23), .ref (ma 24), .ref (ma 25), .ref (ma 26), .ref (ma 27), .ref (ma 28), .int 0, .int 0, .int 0, .int 0, .ref (ma 33), .int (-1), .ref (ma 35), .int 0, .int 0])), ((ma 1), .inl (cy 0, 4, .inl (fun _ => 0))), ((ma 10), .inl (cy 0, 68, .inl (fun _ => 0)))] s.heap.size = A at hD hT ⊢
  have hA : ∀ q : Nat, s.heap.size ≤ q → A q := fun q h => by rw [← hAe]; exact Or.inr h
  have hS : va_S A s.heap s.heap [] := va_S.rf
  have hl0 := lv_entry ([.ref mo, .int p0, .int p1]) (n := 3) (Nat.le_of_ble_eq_true rfl)
  rw [lg_entry_eq]
  generalize (lg_sl ([.ref mo, .int p0, .int p1]) ++ List.replicate (3 - (lg_sl ([.ref mo, .int p0, .int p1])).length) Slot.unset).toArray = ls at hl0 ⊢
  have hlv : lv_has ls 3 [(0, .ref mo), (1, .int p0), (2, .int p1)] := hl0
  have lf1 := hts (.fieldLink RX12 1 "KerbSplashModel" "thrown" "I") (List.mem_of_getElem? (i := 1) rfl)
  have hi12 : ∀ w ∈ wsX120, w ∈ vs_m_person := fun w h => List.mem_cons_of_mem _ (List.mem_append_right _ (List.mem_append_left _ h))
  have lf23 := hts (.fieldLink RX12 23 "KerbSplashModel" "b" "[I") (List.mem_of_getElem? (i := 2) rfl)
  have gg_1 : GoodIn vs_m_person (va_wsS RX12 279 yX12_within vs_c_within) := goodIn_sub (fun w h => List.mem_cons_of_mem _ (List.mem_append_right _ (List.mem_append_right _ (List.mem_append_left _ h)))) (by decide +kernel)
  have gg_2 : GoodIn vs_m_person (wsV RX12 175 RX12 yX12_may vs_c_may0_1) := goodIn_sub (fun w h => List.mem_cons_of_mem _ (List.mem_append_right _ (List.mem_append_right _ (List.mem_append_right _ (List.mem_append_left _ h))))) (by decide +kernel)
  refine lv_aload_n hx hb dX12_person_0 rfl (lv_at hlv 0 rfl) ?_
  refine lv_iconst (v := 0) hx hb dX12_person_1 (by decide) ?_
  refine va_put (D := D) (ci := 12) (v := .int 0) (ty := .int) (C := RX12) (T := TX12) (N := 38) hx hb hts hi12 tyX12 tyX12_ok nmX12 hown hG.1 hP hD hS 0 rfl rfl 0 (by decide) lf1 (fun _ h9 => h9) rfl (by decide +kernel) rfl rfl (Nat.le_of_ble_eq_true rfl) dX12_person_2 (fun H locs hP hD hS => ?_)
  have hP : va_P D vwCl [(mo, .inr (12, [.int 0, .ref (ma 1), .int 0, .int 0, .int 0, .int 0, .int 0, .int 0, .int (-1), .ref (ma 9), .ref (ma 10), .ref (ma 11), .ref (ma 12), .ref (ma 13), .ref (ma 14), .ref (ma 15), .int 0, .int 0, .int 0, .ref (ma 19), .ref (ma 20), .ref (ma 21), .int 0, .ref (ma 23), .ref (ma 24), .ref (ma 25), .ref (ma 26), .ref (ma 27), .ref (ma 28), .int 0, .int 0, .int 0, .int 0, .ref (ma 33), .int (-1), .ref (ma 35), .int 0, .int 0])), ((ma 1), .inl (cy 0, 4, .inl (fun _ => 0))), ((ma 10), .inl (cy 0, 68, .inl (fun _ => 0)))] H := hP
  have hD : va_D A [(mo, .inr (12, [.int 0, .ref (ma 1), .int 0, .int 0, .int 0, .int 0, .int 0, .int 0, .int (-1), .ref (ma 9), .ref (ma 10), .ref (ma 11), .ref (ma 12), .ref (ma 13), .ref (ma 14), .ref (ma 15), .int 0, .int 0, .int 0, .ref (ma 19), .ref (ma 20), .ref (ma 21), .int 0, .ref (ma 23), .ref (ma 24), .ref (ma 25), .ref (ma 26), .ref (ma 27), .ref (ma 28), .int 0, .int 0, .int 0, .int 0, .ref (ma 33), .int (-1), .ref (ma 35), .int 0, .int 0])), ((ma 1), .inl (cy 0, 4, .inl (fun _ => 0))), ((ma 10), .inl (cy 0, 68, .inl (fun _ => 0)))] := hD
  refine lv_aload_n hx hb dX12_person_5 rfl (lv_at hlv 0 rfl) ?_
  refine lv_iload_n hx hb dX12_person_6 rfl (lv_at hlv 1 rfl) ?_
  refine lv_iconst (v := 0) hx hb dX12_person_7 (by decide) ?_
  refine lv_aload_n hx hb dX12_person_8 rfl (lv_at hlv 0 rfl) ?_
  refine va_get (D := D) (ci := 12) (v := .ref (ma 10)) (C := RX12) (T := TX12) (N := 38) hx hb hts hi12 hown hG.1 hP 0 rfl rfl 10 (by decide) lf23 (fun _ h9 => h9) rfl dX12_person_9 ?_
  refine lv_iconst (v := 3) hx hb dX12_person_12 (by decide) ?_
  refine va_iald hx hb hG.1 hP 2 0 rfl rfl (vpd (by decide)) dX12_person_13 ?_
  refine lt_i (y := 0) (by rfl) ?_
  refine lv_iconst (v := 1) hx hb dX12_person_14 (by decide) ?_
  refine lv_isub hx hb dX12_person_15 ?_
  refine lt_i (y := (-1)) (by decide) ?_
  refine cj_i (wr := [(mo, .inr (12, [.int 0, .ref (ma 1), .int 0, .int 0, .int 0, .int 0, .int 0, .int 0, .int (-1), .ref (ma 9), .ref (ma 10), .ref (ma 11), .ref (ma 12), .ref (ma 13), .ref (ma 14), .ref (ma 15), .int 0, .int 0, .int 0, .ref (ma 19), .ref (ma 20), .ref (ma 21), .int 0, .ref (ma 23), .ref (ma 24), .ref (ma 25), .ref (ma 26), .ref (ma 27), .ref (ma 28), .int 0, .int 0, .int 0, .int 0, .ref (ma 33), .int (-1), .ref (ma 35), .int 0, .int 0])), ((ma 1), .inl (cy 0, 4, .inl (fun _ => 0))), ((ma 10), .inl (cy 0, 68, .inl (fun _ => 0)))]) (va_runS (As := [.int p0, .int 0, .int (-1)]) (rest := [.ref mo]) ⟨hx, hb, hml, hown, hts⟩ (c_within l hl D cy sa p0 0 (-1) H.size) (va_cwS 3 hts gg_1 rfl rfl rfl (by decide +kernel) ⟨Nat.le_of_ble_eq_true rfl, Nat.le_of_ble_eq_true rfl⟩) ⟨pcW.blind, (pcW.mk hP hD hS hA hG hT [] rfl (by decide))⟩ rfl rfl hlv.1 rfl (lv_room (Nat.le_of_ble_eq_true rfl)) dX12_person_16 ⟨Nat.le_of_ble_eq_true rfl, Nat.le_of_ble_eq_true rfl⟩) hP hD hS hA [] [0, 1, 2] rfl rfl (by decide) (by decide) (fun r1 u1 H locs hw1 hP hD hS => ?_)
  rcases hw1 with ⟨hg1, rfl⟩ | ⟨hg1, rfl⟩
  · exact absurd hg1 (fun q => absurd (Int32.le_trans q.1 q.2) (by decide))
  · have hP : va_P D vwCl [(mo, .inr (12, [.int 0, .ref (ma 1), .int 0, .int 0, .int 0, .int 0, .int 0, .int 0, .int (-1), .ref (ma 9), .ref (ma 10), .ref (ma 11), .ref (ma 12), .ref (ma 13), .ref (ma 14), .ref (ma 15), .int 0, .int 0, .int 0, .ref (ma 19), .ref (ma 20), .ref (ma 21), .int 0, .ref (ma 23), .ref (ma 24), .ref (ma 25), .ref (ma 26), .ref (ma 27), .ref (ma 28), .int 0, .int 0, .int 0, .int 0, .ref (ma 33), .int (-1), .ref (ma 35), .int 0, .int 0])), ((ma 1), .inl (cy 0, 4, .inl (fun _ => 0))), ((ma 10), .inl (cy 0, 68, .inl (fun _ => 0)))] H := hP
    have hD : va_D A [(mo, .inr (12, [.int 0, .ref (ma 1), .int 0, .int 0, .int 0, .int 0, .int 0, .int 0, .int (-1), .ref (ma 9), .ref (ma 10), .ref (ma 11), .ref (ma 12), .ref (ma 13), .ref (ma 14), .ref (ma 15), .int 0, .int 0, .int 0, .ref (ma 19), .ref (ma 20), .ref (ma 21), .int 0, .ref (ma 23), .ref (ma 24), .ref (ma 25), .ref (ma 26), .ref (ma 27), .ref (ma 28), .int 0, .int 0, .int 0, .int 0, .ref (ma 33), .int (-1), .ref (ma 35), .int 0, .int 0])), ((ma 1), .inl (cy 0, 4, .inl (fun _ => 0))), ((ma 10), .inl (cy 0, 68, .inl (fun _ => 0)))] := hD
    refine lv_iconst (v := 1) hx hb dX12_person_19 (by decide) ?_
    refine lv_iconst (v := 1) hx hb dX12_person_20 (by decide) ?_
    refine cj_i (wr := [((ma 10), .inl (cy 0, 68, .inl (fun _ => 0)))]) (va_runV (As := [.int 0, .int 1, .int 1]) (rest := []) ⟨hx, hb, hml, hown, hts⟩ (c_may0_1 l hl D cy sa mo ma 1 H.size (by decide)) (cwV 3 hts gg_2 rfl rfl rfl (by decide +kernel) ⟨Nat.le_of_ble_eq_true rfl, Nat.le_of_ble_eq_true rfl⟩) ⟨pcW.blind, (va_recv hG.1 hP (ci := 12) (q0 := 0) rfl rfl), (pcW.mk hP hD hS hA hG hT [0, 1] rfl (by decide))⟩ rfl rfl hlv.1 rfl (lv_room (Nat.le_of_ble_eq_true rfl)) dX12_person_21 ⟨Nat.le_of_ble_eq_true rfl, Nat.le_of_ble_eq_true rfl⟩) hP hD hS hA [0, 1] [2] rfl rfl (by decide) (by decide) (fun r2 u2 H locs hw2 hP hD hS => ?_)
    obtain rfl := hw2
    have hP : va_P D vwCl [((ma 10), .inl (cy 0, 68, .inl (fun _ => 0))), (mo, .inr (12, [.int 1, .ref (ma 1), .int 0, .int 0, .int 0, .int 0, .int 0, .int 0, .int (-1), .ref (ma 9), .ref (ma 10), .ref (ma 11), .ref (ma 12), .ref (ma 13), .ref (ma 14), .ref (ma 15), .int 0, .int 0, .int 0, .ref (ma 19), .ref (ma 20), .ref (ma 21), .int 0, .ref (ma 23), .ref (ma 24), .ref (ma 25), .ref (ma 26), .ref (ma 27), .ref (ma 28), .int 0, .int 0, .int 0, .int 0, .ref (ma 33), .int (-1), .ref (ma 35), .int 0, .int 0]))] H := hP
    have hD : va_D A [((ma 10), .inl (cy 0, 68, .inl (fun _ => 0))), (mo, .inr (12, [.int 1, .ref (ma 1), .int 0, .int 0, .int 0, .int 0, .int 0, .int 0, .int (-1), .ref (ma 9), .ref (ma 10), .ref (ma 11), .ref (ma 12), .ref (ma 13), .ref (ma 14), .ref (ma 15), .int 0, .int 0, .int 0, .ref (ma 19), .ref (ma 20), .ref (ma 21), .int 0, .ref (ma 23), .ref (ma 24), .ref (ma 25), .ref (ma 26), .ref (ma 27), .ref (ma 28), .int 0, .int 0, .int 0, .int 0, .ref (ma 33), .int (-1), .ref (ma 35), .int 0, .int 0]))] := hD
    refine lv_if_eq (tgt := 42) hx hb dX12_person_24 (by decide) (fun _ => ?_) (fun c => absurd (by decide) c)
    refine lv_iconst (v := 0) hx hb dX12_person_42 (by decide) ?_
    refine W.widen (k := 0) (n := 0) (Nat.le_of_ble_eq_true rfl) (Nat.le_of_ble_eq_true rfl) ?_
    exact W.iret (v := 0) hx hb hr (fun t ht hW => ⟨⟨0, ((fun k => ([] : List Nat).getD k 0), (fun k => ([] : List Int32).getD k 0), (fun k => ([] : List (Nat → Int32)).getD k (fun _ => 0))), rfl, (by first | (exact (by rfl))), by rw [ht]; exact hP.sub [1] rfl, hD.sub [1] (by decide) rfl⟩, hS.F ht⟩) hS.2.2 dX12_person_43
def vs_m_work : List Cond := .code yX12_work cX12_work 3 (some .int) :: (([.fieldLink RX12 1 "KerbSplashModel" "thrown" "I"] : List Cond) ++ ((wsX120) ++ ((wsV RX12 300 RX12 yX12_isWork vs_c_isWork) ++ ([]))))
set_option maxHeartbeats 4000000 in
set_option maxRecDepth 100000 in
theorem m_work (l : Launch) (hl : l.stackTraces = false) (D : va_G) (cy : Nat → ClassId) (sa : Nat → Nat) (mo : Nat) (ma : Nat → Nat) (p0 p1 : Int32) (sz : Nat) : Met l yX12_work vs_m_work ({ frames := 2, cells := 0, slots := 0, locals := 44 }) (va_Pc [.ref mo, .int p0, .int p1] (pcW D cy sa sz [(mo, .inr (12, [.int 0, .ref (ma 1), .int 0, .int 0, .int 0, .int 0, .int 0, .int 0, .int (-1), .ref (ma 9), .ref (ma 10), .ref (ma 11), .ref (ma 12), .ref (ma 13), .ref (ma 14), .ref (ma 15), .int 0, .int 0, .int 0, .ref (ma 19), .ref (ma 20), .ref (ma 21), .int 0, .ref (ma 23), .ref (ma 24), .ref (ma 25), .ref (ma 26), .ref (ma 27), .ref (ma 28), .int 0, .int 0, .int 0, .int 0, .ref (ma 33), .int (-1), .ref (ma 35), .int 0, .int 0])), ((ma 1), .inl (cy 0, 4, .inl (fun _ => 0))), ((ma 10), .inl (cy 0, 68, .inl (fun _ => 0)))])) (va_Qi (fun (r : Int32) (u : SU) => (r = 0)) (fun u t => atW D (va_A [(mo, .inr (12, [.int 0, .ref (ma 1), .int 0, .int 0, .int 0, .int 0, .int 0, .int 0, .int (-1), .ref (ma 9), .ref (ma 10), .ref (ma 11), .ref (ma 12), .ref (ma 13), .ref (ma 14), .ref (ma 15), .int 0, .int 0, .int 0, .ref (ma 19), .ref (ma 20), .ref (ma 21), .int 0, .ref (ma 23), .ref (ma 24), .ref (ma 25), .ref (ma 26), .ref (ma 27), .ref (ma 28), .int 0, .int 0, .int 0, .int 0, .ref (ma 33), .int (-1), .ref (ma 35), .int 0, .int 0])), ((ma 1), .inl (cy 0, 4, .inl (fun _ => 0))), ((ma 10), .inl (cy 0, 68, .inl (fun _ => 0)))] sz) [(mo, .inr (12, [.int 1, .ref (ma 1), .int 0, .int 0, .int 0, .int 0, .int 0, .int 0, .int (-1), .ref (ma 9), .ref (ma 10), .ref (ma 11), .ref (ma 12), .ref (ma 13), .ref (ma 14), .ref (ma 15), .int 0, .int 0, .int 0, .ref (ma 19), .ref (ma 20), .ref (ma 21), .int 0, .ref (ma 23), .ref (ma 24), .ref (ma 25), .ref (ma 26), .ref (ma 27), .ref (ma 28), .int 0, .int 0, .int 0, .int 0, .ref (ma 33), .int (-1), .ref (ma 35), .int 0, .int 0]))] t) (va_A [(mo, .inr (12, [.int 0, .ref (ma 1), .int 0, .int 0, .int 0, .int 0, .int 0, .int 0, .int (-1), .ref (ma 9), .ref (ma 10), .ref (ma 11), .ref (ma 12), .ref (ma 13), .ref (ma 14), .ref (ma 15), .int 0, .int 0, .int 0, .ref (ma 19), .ref (ma 20), .ref (ma 21), .int 0, .ref (ma 23), .ref (ma 24), .ref (ma 25), .ref (ma 26), .ref (ma 27), .ref (ma 28), .int 0, .int 0, .int 0, .int 0, .ref (ma 33), .int (-1), .ref (ma 35), .int 0, .int 0])), ((ma 1), .inl (cy 0, 4, .inl (fun _ => 0))), ((ma 10), .inl (cy 0, 68, .inl (fun _ => 0)))] sz)) 0 0 (va_A [(mo, .inr (12, [.int 0, .ref (ma 1), .int 0, .int 0, .int 0, .int 0, .int 0, .int 0, .int (-1), .ref (ma 9), .ref (ma 10), .ref (ma 11), .ref (ma 12), .ref (ma 13), .ref (ma 14), .ref (ma 15), .int 0, .int 0, .int 0, .ref (ma 19), .ref (ma 20), .ref (ma 21), .int 0, .ref (ma 23), .ref (ma 24), .ref (ma 25), .ref (ma 26), .ref (ma 27), .ref (ma 28), .int 0, .int 0, .int 0, .int 0, .ref (ma 33), .int (-1), .ref (ma 35), .int 0, .int 0])), ((ma 1), .inl (cy 0, 4, .inl (fun _ => 0))), ((ma 10), .inl (cy 0, 68, .inl (fun _ => 0)))] sz) := by
  refine Met.ofW (cc := cX12_work) (maxL := 3) (ret := (some .int)) (by decide) rfl ?_
  intro p e s m args below meth c s₁ B hml hv
  obtain ⟨rfl, hsz, hP, hG, hD0, hT⟩ := hv
  have hx := B.exec
  have hb := B.bytes
  have hr := B.returns
  have hts := atoms_spec (ws := vs_m_work) B.pre
  have hown : s.vm.findClass RX12 = some m.cls := findClass_of_methodNamed B.named
  have hlocks := B.notSynchronized
  subst hsz
  have hD := hD0.self (sz := s.heap.size)
  generalize hAe : va_A [(mo, .inr (12, [.int 0, .ref (ma 1), .int 0, .int 0, .int 0, .int 0, .int 0, .int 0, .int (-1), .ref (ma 9), .ref (ma 10), .ref (ma 11), .ref (ma 12), .ref (ma 13), .ref (ma 14), .ref (ma 15), .int 0, .int 0, .int 0, .ref (ma 19), .ref (ma 20), .ref (ma 21), .int 0, .ref (ma 23), .ref (ma 24), .ref (ma 25), .ref (ma 26), .ref (ma 27), .ref (ma 28), .int 0, .int 0, .int 0, .int 0, .ref (ma 33), .int (-1), .ref (ma 35), .int 0, .int 0])), ((ma 1), .inl (cy 0, 4, .inl (fun _ => 0))), ((ma 10), .inl (cy 0, 68, .inl (fun _ => 0)))] s.heap.size = A at hD hT ⊢
  have hA : ∀ q : Nat, s.heap.size ≤ q → A q := fun q h => by rw [← hAe]; exact Or.inr h
  have hS : va_S A s.heap s.heap [] := va_S.rf
  have hl0 := lv_entry ([.ref mo, .int p0, .int p1]) (n := 3) (Nat.le_of_ble_eq_true rfl)
  rw [lg_entry_eq]
  generalize (lg_sl ([.ref mo, .int p0, .int p1]) ++ List.replicate (3 - (lg_sl ([.ref mo, .int p0, .int p1])).length) Slot.unset).toArray = ls at hl0 ⊢
  have hlv : lv_has ls 3 [(0, .ref mo), (1, .int p0), (2, .int p1)] := hl0
  have lf1 := hts (.fieldLink RX12 1 "KerbSplashModel" "thrown" "I") (List.mem_of_getElem? (i := 1) rfl)
  have hi12 : ∀ w ∈ wsX120, w ∈ vs_m_work := fun w h => List.mem_cons_of_mem _ (List.mem_append_right _ (List.mem_append_left _ h))
  have gg_1 : GoodIn vs_m_work (wsV RX12 300 RX12 yX12_isWork vs_c_isWork) := goodIn_sub (fun w h => List.mem_cons_of_mem _ (List.mem_append_right _ (List.mem_append_right _ (List.mem_append_left _ h)))) (by decide +kernel)
  refine lv_aload_n hx hb dX12_work_0 rfl (lv_at hlv 0 rfl) ?_
  refine lv_iconst (v := 0) hx hb dX12_work_1 (by decide) ?_
  refine va_put (D := D) (ci := 12) (v := .int 0) (ty := .int) (C := RX12) (T := TX12) (N := 38) hx hb hts hi12 tyX12 tyX12_ok nmX12 hown hG.1 hP hD hS 0 rfl rfl 0 (by decide) lf1 (fun _ h9 => h9) rfl (by decide +kernel) rfl rfl (Nat.le_of_ble_eq_true rfl) dX12_work_2 (fun H locs hP hD hS => ?_)
  have hP : va_P D vwCl [(mo, .inr (12, [.int 0, .ref (ma 1), .int 0, .int 0, .int 0, .int 0, .int 0, .int 0, .int (-1), .ref (ma 9), .ref (ma 10), .ref (ma 11), .ref (ma 12), .ref (ma 13), .ref (ma 14), .ref (ma 15), .int 0, .int 0, .int 0, .ref (ma 19), .ref (ma 20), .ref (ma 21), .int 0, .ref (ma 23), .ref (ma 24), .ref (ma 25), .ref (ma 26), .ref (ma 27), .ref (ma 28), .int 0, .int 0, .int 0, .int 0, .ref (ma 33), .int (-1), .ref (ma 35), .int 0, .int 0])), ((ma 1), .inl (cy 0, 4, .inl (fun _ => 0))), ((ma 10), .inl (cy 0, 68, .inl (fun _ => 0)))] H := hP
  have hD : va_D A [(mo, .inr (12, [.int 0, .ref (ma 1), .int 0, .int 0, .int 0, .int 0, .int 0, .int 0, .int (-1), .ref (ma 9), .ref (ma 10), .ref (ma 11), .ref (ma 12), .ref (ma 13), .ref (ma 14), .ref (ma 15), .int 0, .int 0, .int 0, .ref (ma 19), .ref (ma 20), .ref (ma 21), .int 0, .ref (ma 23), .ref (ma 24), .ref (ma 25), .ref (ma 26), .ref (ma 27), .ref (ma 28), .int 0, .int 0, .int 0, .int 0, .ref (ma 33), .int (-1), .ref (ma 35), .int 0, .int 0])), ((ma 1), .inl (cy 0, 4, .inl (fun _ => 0))), ((ma 10), .inl (cy 0, 68, .inl (fun _ => 0)))] := hD
  refine lv_aload_n hx hb dX12_work_5 rfl (lv_at hlv 0 rfl) ?_
  refine lv_iload_n hx hb dX12_work_6 rfl (lv_at hlv 1 rfl) ?_
  refine cj_i (wr := []) (va_runV (As := [.int p0]) (rest := []) ⟨hx, hb, hml, hown, hts⟩ (c_isWork l hl D cy sa mo ma p0 H.size) (cwV 1 hts gg_1 rfl rfl rfl (by decide +kernel) ⟨Nat.le_of_ble_eq_true rfl, Nat.le_of_ble_eq_true rfl⟩) ⟨pcW.blind, (va_recv hG.1 hP (ci := 12) (q0 := 0) rfl rfl), (pcW.mk hP hD hS hA hG hT [0, 1, 2] rfl (by decide))⟩ rfl rfl hlv.1 rfl (lv_room (Nat.le_of_ble_eq_true rfl)) dX12_work_7 ⟨Nat.le_of_ble_eq_true rfl, Nat.le_of_ble_eq_true rfl⟩) hP hD hS hA [0, 1, 2] [] rfl rfl (by decide) (by decide) (fun r1 u1 H locs hw1 hP hD hS => ?_)
  obtain rfl := hw1
  have hP : va_P D vwCl [(mo, .inr (12, [.int 1, .ref (ma 1), .int 0, .int 0, .int 0, .int 0, .int 0, .int 0, .int (-1), .ref (ma 9), .ref (ma 10), .ref (ma 11), .ref (ma 12), .ref (ma 13), .ref (ma 14), .ref (ma 15), .int 0, .int 0, .int 0, .ref (ma 19), .ref (ma 20), .ref (ma 21), .int 0, .ref (ma 23), .ref (ma 24), .ref (ma 25), .ref (ma 26), .ref (ma 27), .ref (ma 28), .int 0, .int 0, .int 0, .int 0, .ref (ma 33), .int (-1), .ref (ma 35), .int 0, .int 0]))] H := hP
  have hD : va_D A [(mo, .inr (12, [.int 1, .ref (ma 1), .int 0, .int 0, .int 0, .int 0, .int 0, .int 0, .int (-1), .ref (ma 9), .ref (ma 10), .ref (ma 11), .ref (ma 12), .ref (ma 13), .ref (ma 14), .ref (ma 15), .int 0, .int 0, .int 0, .ref (ma 19), .ref (ma 20), .ref (ma 21), .int 0, .ref (ma 23), .ref (ma 24), .ref (ma 25), .ref (ma 26), .ref (ma 27), .ref (ma 28), .int 0, .int 0, .int 0, .int 0, .ref (ma 33), .int (-1), .ref (ma 35), .int 0, .int 0]))] := hD
  refine lv_if_eq (tgt := 28) hx hb dX12_work_10 (by decide) (fun _ => ?_) (fun c => absurd (by decide) c)
  refine lv_iconst (v := 0) hx hb dX12_work_28 (by decide) ?_
  refine W.widen (k := 0) (n := 0) (Nat.le_of_ble_eq_true rfl) (Nat.le_of_ble_eq_true rfl) ?_
  exact W.iret (v := 0) hx hb hr (fun t ht hW => ⟨⟨0, ((fun k => ([] : List Nat).getD k 0), (fun k => ([] : List Int32).getD k 0), (fun k => ([] : List (Nat → Int32)).getD k (fun _ => 0))), rfl, (by first | (exact (by rfl))), by rw [ht]; exact hP.sub [0] rfl, hD.sub [0] (by decide) rfl⟩, hS.F ht⟩) hS.2.2 dX12_work_29
def vs_m_does : List Cond := .code yX12_does cX12_does 2 (some .int) :: (([.fieldLink RX12 1 "KerbSplashModel" "thrown" "I"] : List Cond) ++ ((wsX120) ++ ((wsV RX12 300 RX12 yX12_isWork vs_c_isWork) ++ ([]))))
set_option maxHeartbeats 4000000 in
set_option maxRecDepth 100000 in
theorem m_does (l : Launch) (hl : l.stackTraces = false) (D : va_G) (cy : Nat → ClassId) (sa : Nat → Nat) (mo : Nat) (ma : Nat → Nat) (p0 : Int32) (sz : Nat) : Met l yX12_does vs_m_does ({ frames := 2, cells := 0, slots := 0, locals := 44 }) (va_Pc [.ref mo, .int p0] (pcW D cy sa sz [(mo, .inr (12, [.int 0, .ref (ma 1), .int 0, .int 0, .int 0, .int 0, .int 0, .int 0, .int (-1), .ref (ma 9), .ref (ma 10), .ref (ma 11), .ref (ma 12), .ref (ma 13), .ref (ma 14), .ref (ma 15), .int 0, .int 0, .int 0, .ref (ma 19), .ref (ma 20), .ref (ma 21), .int 0, .ref (ma 23), .ref (ma 24), .ref (ma 25), .ref (ma 26), .ref (ma 27), .ref (ma 28), .int 0, .int 0, .int 0, .int 0, .ref (ma 33), .int (-1), .ref (ma 35), .int 0, .int 0])), ((ma 1), .inl (cy 0, 4, .inl (fun _ => 0))), ((ma 10), .inl (cy 0, 68, .inl (fun _ => 0)))])) (va_Qi (fun (r : Int32) (u : SU) => (r = 0)) (fun u t => atW D (va_A [(mo, .inr (12, [.int 0, .ref (ma 1), .int 0, .int 0, .int 0, .int 0, .int 0, .int 0, .int (-1), .ref (ma 9), .ref (ma 10), .ref (ma 11), .ref (ma 12), .ref (ma 13), .ref (ma 14), .ref (ma 15), .int 0, .int 0, .int 0, .ref (ma 19), .ref (ma 20), .ref (ma 21), .int 0, .ref (ma 23), .ref (ma 24), .ref (ma 25), .ref (ma 26), .ref (ma 27), .ref (ma 28), .int 0, .int 0, .int 0, .int 0, .ref (ma 33), .int (-1), .ref (ma 35), .int 0, .int 0])), ((ma 1), .inl (cy 0, 4, .inl (fun _ => 0))), ((ma 10), .inl (cy 0, 68, .inl (fun _ => 0)))] sz) [(mo, .inr (12, [.int 1, .ref (ma 1), .int 0, .int 0, .int 0, .int 0, .int 0, .int 0, .int (-1), .ref (ma 9), .ref (ma 10), .ref (ma 11), .ref (ma 12), .ref (ma 13), .ref (ma 14), .ref (ma 15), .int 0, .int 0, .int 0, .ref (ma 19), .ref (ma 20), .ref (ma 21), .int 0, .ref (ma 23), .ref (ma 24), .ref (ma 25), .ref (ma 26), .ref (ma 27), .ref (ma 28), .int 0, .int 0, .int 0, .int 0, .ref (ma 33), .int (-1), .ref (ma 35), .int 0, .int 0]))] t) (va_A [(mo, .inr (12, [.int 0, .ref (ma 1), .int 0, .int 0, .int 0, .int 0, .int 0, .int 0, .int (-1), .ref (ma 9), .ref (ma 10), .ref (ma 11), .ref (ma 12), .ref (ma 13), .ref (ma 14), .ref (ma 15), .int 0, .int 0, .int 0, .ref (ma 19), .ref (ma 20), .ref (ma 21), .int 0, .ref (ma 23), .ref (ma 24), .ref (ma 25), .ref (ma 26), .ref (ma 27), .ref (ma 28), .int 0, .int 0, .int 0, .int 0, .ref (ma 33), .int (-1), .ref (ma 35), .int 0, .int 0])), ((ma 1), .inl (cy 0, 4, .inl (fun _ => 0))), ((ma 10), .inl (cy 0, 68, .inl (fun _ => 0)))] sz)) 0 0 (va_A [(mo, .inr (12, [.int 0, .ref (ma 1), .int 0, .int 0, .int 0, .int 0, .int 0, .int 0, .int (-1), .ref (ma 9), .ref (ma 10), .ref (ma 11), .ref (ma 12), .ref (ma 13), .ref (ma 14), .ref (ma 15), .int 0, .int 0, .int 0, .ref (ma 19), .ref (ma 20), .ref (ma 21), .int 0, .ref (ma 23), .ref (ma 24), .ref (ma 25), .ref (ma 26), .ref (ma 27), .ref (ma 28), .int 0, .int 0, .int 0, .int 0, .ref (ma 33), .int (-1), .ref (ma 35), .int 0, .int 0])), ((ma 1), .inl (cy 0, 4, .inl (fun _ => 0))), ((ma 10), .inl (cy 0, 68, .inl (fun _ => 0)))] sz) := by
  refine Met.ofW (cc := cX12_does) (maxL := 2) (ret := (some .int)) (by decide) rfl ?_
  intro p e s m args below meth c s₁ B hml hv
  obtain ⟨rfl, hsz, hP, hG, hD0, hT⟩ := hv
  have hx := B.exec
  have hb := B.bytes
  have hr := B.returns
  have hts := atoms_spec (ws := vs_m_does) B.pre
  have hown : s.vm.findClass RX12 = some m.cls := findClass_of_methodNamed B.named
  have hlocks := B.notSynchronized
  subst hsz
  have hD := hD0.self (sz := s.heap.size)
  generalize hAe : va_A [(mo, .inr (12, [.int 0, .ref (ma 1), .int 0, .int 0, .int 0, .int 0, .int 0, .int 0, .int (-1), .ref (ma 9), .ref (ma 10), .ref (ma 11), .ref (ma 12), .ref (ma 13), .ref (ma 14), .ref (ma 15), .int 0, .int 0, .int 0, .ref (ma 19), .ref (ma 20), .ref (ma 21), .int 0, .ref (ma 23), .ref (ma 24), .ref (ma 25), .ref (ma 26), .ref (ma 27), .ref (ma 28), .int 0, .int 0, .int 0, .int 0, .ref (ma 33), .int (-1), .ref (ma 35), .int 0, .int 0])), ((ma 1), .inl (cy 0, 4, .inl (fun _ => 0))), ((ma 10), .inl (cy 0, 68, .inl (fun _ => 0)))] s.heap.size = A at hD hT ⊢
  have hA : ∀ q : Nat, s.heap.size ≤ q → A q := fun q h => by rw [← hAe]; exact Or.inr h
  have hS : va_S A s.heap s.heap [] := va_S.rf
  have hl0 := lv_entry ([.ref mo, .int p0]) (n := 2) (Nat.le_of_ble_eq_true rfl)
  rw [lg_entry_eq]
  generalize (lg_sl ([.ref mo, .int p0]) ++ List.replicate (2 - (lg_sl ([.ref mo, .int p0])).length) Slot.unset).toArray = ls at hl0 ⊢
  have hlv : lv_has ls 2 [(0, .ref mo), (1, .int p0)] := hl0
  have lf1 := hts (.fieldLink RX12 1 "KerbSplashModel" "thrown" "I") (List.mem_of_getElem? (i := 1) rfl)
  have hi12 : ∀ w ∈ wsX120, w ∈ vs_m_does := fun w h => List.mem_cons_of_mem _ (List.mem_append_right _ (List.mem_append_left _ h))
  have gg_1 : GoodIn vs_m_does (wsV RX12 300 RX12 yX12_isWork vs_c_isWork) := goodIn_sub (fun w h => List.mem_cons_of_mem _ (List.mem_append_right _ (List.mem_append_right _ (List.mem_append_left _ h)))) (by decide +kernel)
  refine lv_aload_n hx hb dX12_does_0 rfl (lv_at hlv 0 rfl) ?_
  refine lv_iconst (v := 0) hx hb dX12_does_1 (by decide) ?_
  refine va_put (D := D) (ci := 12) (v := .int 0) (ty := .int) (C := RX12) (T := TX12) (N := 38) hx hb hts hi12 tyX12 tyX12_ok nmX12 hown hG.1 hP hD hS 0 rfl rfl 0 (by decide) lf1 (fun _ h9 => h9) rfl (by decide +kernel) rfl rfl (Nat.le_of_ble_eq_true rfl) dX12_does_2 (fun H locs hP hD hS => ?_)
  have hP : va_P D vwCl [(mo, .inr (12, [.int 0, .ref (ma 1), .int 0, .int 0, .int 0, .int 0, .int 0, .int 0, .int (-1), .ref (ma 9), .ref (ma 10), .ref (ma 11), .ref (ma 12), .ref (ma 13), .ref (ma 14), .ref (ma 15), .int 0, .int 0, .int 0, .ref (ma 19), .ref (ma 20), .ref (ma 21), .int 0, .ref (ma 23), .ref (ma 24), .ref (ma 25), .ref (ma 26), .ref (ma 27), .ref (ma 28), .int 0, .int 0, .int 0, .int 0, .ref (ma 33), .int (-1), .ref (ma 35), .int 0, .int 0])), ((ma 1), .inl (cy 0, 4, .inl (fun _ => 0))), ((ma 10), .inl (cy 0, 68, .inl (fun _ => 0)))] H := hP
  have hD : va_D A [(mo, .inr (12, [.int 0, .ref (ma 1), .int 0, .int 0, .int 0, .int 0, .int 0, .int 0, .int (-1), .ref (ma 9), .ref (ma 10), .ref (ma 11), .ref (ma 12), .ref (ma 13), .ref (ma 14), .ref (ma 15), .int 0, .int 0, .int 0, .ref (ma 19), .ref (ma 20), .ref (ma 21), .int 0, .ref (ma 23), .ref (ma 24), .ref (ma 25), .ref (ma 26), .ref (ma 27), .ref (ma 28), .int 0, .int 0, .int 0, .int 0, .ref (ma 33), .int (-1), .ref (ma 35), .int 0, .int 0])), ((ma 1), .inl (cy 0, 4, .inl (fun _ => 0))), ((ma 10), .inl (cy 0, 68, .inl (fun _ => 0)))] := hD
  refine lv_aload_n hx hb dX12_does_5 rfl (lv_at hlv 0 rfl) ?_
  refine lv_iload_n hx hb dX12_does_6 rfl (lv_at hlv 1 rfl) ?_
  refine cj_i (wr := []) (va_runV (As := [.int p0]) (rest := []) ⟨hx, hb, hml, hown, hts⟩ (c_isWork l hl D cy sa mo ma p0 H.size) (cwV 1 hts gg_1 rfl rfl rfl (by decide +kernel) ⟨Nat.le_of_ble_eq_true rfl, Nat.le_of_ble_eq_true rfl⟩) ⟨pcW.blind, (va_recv hG.1 hP (ci := 12) (q0 := 0) rfl rfl), (pcW.mk hP hD hS hA hG hT [0, 1, 2] rfl (by decide))⟩ rfl rfl hlv.1 rfl (lv_room (Nat.le_of_ble_eq_true rfl)) dX12_does_7 ⟨Nat.le_of_ble_eq_true rfl, Nat.le_of_ble_eq_true rfl⟩) hP hD hS hA [0, 1, 2] [] rfl rfl (by decide) (by decide) (fun r1 u1 H locs hw1 hP hD hS => ?_)
  obtain rfl := hw1
  have hP : va_P D vwCl [(mo, .inr (12, [.int 1, .ref (ma 1), .int 0, .int 0, .int 0, .int 0, .int 0, .int 0, .int (-1), .ref (ma 9), .ref (ma 10), .ref (ma 11), .ref (ma 12), .ref (ma 13), .ref (ma 14), .ref (ma 15), .int 0, .int 0, .int 0, .ref (ma 19), .ref (ma 20), .ref (ma 21), .int 0, .ref (ma 23), .ref (ma 24), .ref (ma 25), .ref (ma 26), .ref (ma 27), .ref (ma 28), .int 0, .int 0, .int 0, .int 0, .ref (ma 33), .int (-1), .ref (ma 35), .int 0, .int 0]))] H := hP
  have hD : va_D A [(mo, .inr (12, [.int 1, .ref (ma 1), .int 0, .int 0, .int 0, .int 0, .int 0, .int 0, .int (-1), .ref (ma 9), .ref (ma 10), .ref (ma 11), .ref (ma 12), .ref (ma 13), .ref (ma 14), .ref (ma 15), .int 0, .int 0, .int 0, .ref (ma 19), .ref (ma 20), .ref (ma 21), .int 0, .ref (ma 23), .ref (ma 24), .ref (ma 25), .ref (ma 26), .ref (ma 27), .ref (ma 28), .int 0, .int 0, .int 0, .int 0, .ref (ma 33), .int (-1), .ref (ma 35), .int 0, .int 0]))] := hD
  refine lv_if_eq (tgt := 27) hx hb dX12_does_10 (by decide) (fun _ => ?_) (fun c => absurd (by decide) c)
  refine lv_iconst (v := 0) hx hb dX12_does_27 (by decide) ?_
  refine W.widen (k := 0) (n := 0) (Nat.le_of_ble_eq_true rfl) (Nat.le_of_ble_eq_true rfl) ?_
  exact W.iret (v := 0) hx hb hr (fun t ht hW => ⟨⟨0, ((fun k => ([] : List Nat).getD k 0), (fun k => ([] : List Int32).getD k 0), (fun k => ([] : List (Nat → Int32)).getD k (fun _ => 0))), rfl, (by first | (exact (by rfl))), by rw [ht]; exact hP.sub [0] rfl, hD.sub [0] (by decide) rfl⟩, hS.F ht⟩) hS.2.2 dX12_does_28
def vs_m_traffic : List Cond := .code yX12_traffic cX12_traffic 7 (some .int) :: (([.fieldLink RX12 1 "KerbSplashModel" "thrown" "I"] : List Cond) ++ ((wsX120) ++ ((va_wsS RX12 279 yX12_within vs_c_within) ++ ((wsV RX12 367 RX12 yX12_isCar vs_c_misCar) ++ ((wsV RX12 175 RX12 yX12_may vs_c_may0_2) ++ ([]))))))
set_option maxHeartbeats 4000000 in
set_option maxRecDepth 100000 in
theorem m_traffic (l : Launch) (hl : l.stackTraces = false) (D : va_G) (cy : Nat → ClassId) (sa : Nat → Nat) (mo : Nat) (ma : Nat → Nat) (p0 p1 p2 p3 p4 : Int32) (sz : Nat) : Met l yX12_traffic vs_m_traffic ({ frames := 2, cells := 0, slots := 0, locals := 46 }) (va_Pc [.ref mo, .int p0, .int p1, .int p2, .int p3, .int p4] (pcW D cy sa sz [(mo, .inr (12, [.int 0, .ref (ma 1), .int 0, .int 0, .int 0, .int 0, .int 0, .int 0, .int (-1), .ref (ma 9), .ref (ma 10), .ref (ma 11), .ref (ma 12), .ref (ma 13), .ref (ma 14), .ref (ma 15), .int 0, .int 0, .int 0, .ref (ma 19), .ref (ma 20), .ref (ma 21), .int 0, .ref (ma 23), .ref (ma 24), .ref (ma 25), .ref (ma 26), .ref (ma 27), .ref (ma 28), .int 0, .int 0, .int 0, .int 0, .ref (ma 33), .int (-1), .ref (ma 35), .int 0, .int 0])), ((ma 1), .inl (cy 0, 4, .inl (fun _ => 0))), ((ma 10), .inl (cy 0, 68, .inl (fun _ => 0)))])) (va_Qi (fun (r : Int32) (u : SU) => (r = 0)) (fun u t => atW D (va_A [(mo, .inr (12, [.int 0, .ref (ma 1), .int 0, .int 0, .int 0, .int 0, .int 0, .int 0, .int (-1), .ref (ma 9), .ref (ma 10), .ref (ma 11), .ref (ma 12), .ref (ma 13), .ref (ma 14), .ref (ma 15), .int 0, .int 0, .int 0, .ref (ma 19), .ref (ma 20), .ref (ma 21), .int 0, .ref (ma 23), .ref (ma 24), .ref (ma 25), .ref (ma 26), .ref (ma 27), .ref (ma 28), .int 0, .int 0, .int 0, .int 0, .ref (ma 33), .int (-1), .ref (ma 35), .int 0, .int 0])), ((ma 1), .inl (cy 0, 4, .inl (fun _ => 0))), ((ma 10), .inl (cy 0, 68, .inl (fun _ => 0)))] sz) [(mo, .inr (12, [.int 1, .ref (ma 1), .int 0, .int 0, .int 0, .int 0, .int 0, .int 0, .int (-1), .ref (ma 9), .ref (ma 10), .ref (ma 11), .ref (ma 12), .ref (ma 13), .ref (ma 14), .ref (ma 15), .int 0, .int 0, .int 0, .ref (ma 19), .ref (ma 20), .ref (ma 21), .int 0, .ref (ma 23), .ref (ma 24), .ref (ma 25), .ref (ma 26), .ref (ma 27), .ref (ma 28), .int 0, .int 0, .int 0, .int 0, .ref (ma 33), .int (-1), .ref (ma 35), .int 0, .int 0]))] t) (va_A [(mo, .inr (12, [.int 0, .ref (ma 1), .int 0, .int 0, .int 0, .int 0, .int 0, .int 0, .int (-1), .ref (ma 9), .ref (ma 10), .ref (ma 11), .ref (ma 12), .ref (ma 13), .ref (ma 14), .ref (ma 15), .int 0, .int 0, .int 0, .ref (ma 19), .ref (ma 20), .ref (ma 21), .int 0, .ref (ma 23), .ref (ma 24), .ref (ma 25), .ref (ma 26), .ref (ma 27), .ref (ma 28), .int 0, .int 0, .int 0, .int 0, .ref (ma 33), .int (-1), .ref (ma 35), .int 0, .int 0])), ((ma 1), .inl (cy 0, 4, .inl (fun _ => 0))), ((ma 10), .inl (cy 0, 68, .inl (fun _ => 0)))] sz)) 0 0 (va_A [(mo, .inr (12, [.int 0, .ref (ma 1), .int 0, .int 0, .int 0, .int 0, .int 0, .int 0, .int (-1), .ref (ma 9), .ref (ma 10), .ref (ma 11), .ref (ma 12), .ref (ma 13), .ref (ma 14), .ref (ma 15), .int 0, .int 0, .int 0, .ref (ma 19), .ref (ma 20), .ref (ma 21), .int 0, .ref (ma 23), .ref (ma 24), .ref (ma 25), .ref (ma 26), .ref (ma 27), .ref (ma 28), .int 0, .int 0, .int 0, .int 0, .ref (ma 33), .int (-1), .ref (ma 35), .int 0, .int 0])), ((ma 1), .inl (cy 0, 4, .inl (fun _ => 0))), ((ma 10), .inl (cy 0, 68, .inl (fun _ => 0)))] sz) := by
  refine Met.ofW (cc := cX12_traffic) (maxL := 7) (ret := (some .int)) (by decide) rfl ?_
  intro p e s m args below meth c s₁ B hml hv
  obtain ⟨rfl, hsz, hP, hG, hD0, hT⟩ := hv
  have hx := B.exec
  have hb := B.bytes
  have hr := B.returns
  have hts := atoms_spec (ws := vs_m_traffic) B.pre
  have hown : s.vm.findClass RX12 = some m.cls := findClass_of_methodNamed B.named
  have hlocks := B.notSynchronized
  subst hsz
  have hD := hD0.self (sz := s.heap.size)
  generalize hAe : va_A [(mo, .inr (12, [.int 0, .ref (ma 1), .int 0, .int 0, .int 0, .int 0, .int 0, .int 0, .int (-1), .ref (ma 9), .ref (ma 10), .ref (ma 11), .ref (ma 12), .ref (ma 13), .ref (ma 14), .ref (ma 15), .int 0, .int 0, .int 0, .ref (ma 19), .ref (ma 20), .ref (ma 21), .int 0, .ref (ma 23), .ref (ma 24), .ref (ma 25), .ref (ma 26), .ref (ma 27), .ref (ma 28), .int 0, .int 0, .int 0, .int 0, .ref (ma 33), .int (-1), .ref (ma 35), .int 0, .int 0])), ((ma 1), .inl (cy 0, 4, .inl (fun _ => 0))), ((ma 10), .inl (cy 0, 68, .inl (fun _ => 0)))] s.heap.size = A at hD hT ⊢
  have hA : ∀ q : Nat, s.heap.size ≤ q → A q := fun q h => by rw [← hAe]; exact Or.inr h
  have hS : va_S A s.heap s.heap [] := va_S.rf
  have hl0 := lv_entry ([.ref mo, .int p0, .int p1, .int p2, .int p3, .int p4]) (n := 7) (Nat.le_of_ble_eq_true rfl)
  rw [lg_entry_eq]
  generalize (lg_sl ([.ref mo, .int p0, .int p1, .int p2, .int p3, .int p4]) ++ List.replicate (7 - (lg_sl ([.ref mo, .int p0, .int p1, .int p2, .int p3, .int p4])).length) Slot.unset).toArray = ls at hl0 ⊢
  have hlv : lv_has ls 7 [(0, .ref mo), (1, .int p0), (2, .int p1), (3, .int p2), (4, .int p3), (5, .int p4)] := hl0
  have lf1 := hts (.fieldLink RX12 1 "KerbSplashModel" "thrown" "I") (List.mem_of_getElem? (i := 1) rfl)
  have hi12 : ∀ w ∈ wsX120, w ∈ vs_m_traffic := fun w h => List.mem_cons_of_mem _ (List.mem_append_right _ (List.mem_append_left _ h))
  have gg_1 : GoodIn vs_m_traffic (va_wsS RX12 279 yX12_within vs_c_within) := goodIn_sub (fun w h => List.mem_cons_of_mem _ (List.mem_append_right _ (List.mem_append_right _ (List.mem_append_left _ h)))) (by decide +kernel)
  have gg_2 : GoodIn vs_m_traffic (wsV RX12 367 RX12 yX12_isCar vs_c_misCar) := goodIn_sub (fun w h => List.mem_cons_of_mem _ (List.mem_append_right _ (List.mem_append_right _ (List.mem_append_right _ (List.mem_append_left _ h))))) (by decide +kernel)
  have gg_3 : GoodIn vs_m_traffic (wsV RX12 175 RX12 yX12_may vs_c_may0_2) := goodIn_sub (fun w h => List.mem_cons_of_mem _ (List.mem_append_right _ (List.mem_append_right _ (List.mem_append_right _ (List.mem_append_right _ (List.mem_append_left _ h)))))) (by decide +kernel)
  refine lv_aload_n hx hb dX12_traffic_0 rfl (lv_at hlv 0 rfl) ?_
  refine lv_iconst (v := 0) hx hb dX12_traffic_1 (by decide) ?_
  refine va_put (D := D) (ci := 12) (v := .int 0) (ty := .int) (C := RX12) (T := TX12) (N := 38) hx hb hts hi12 tyX12 tyX12_ok nmX12 hown hG.1 hP hD hS 0 rfl rfl 0 (by decide) lf1 (fun _ h9 => h9) rfl (by decide +kernel) rfl rfl (Nat.le_of_ble_eq_true rfl) dX12_traffic_2 (fun H locs hP hD hS => ?_)
  have hP : va_P D vwCl [(mo, .inr (12, [.int 0, .ref (ma 1), .int 0, .int 0, .int 0, .int 0, .int 0, .int 0, .int (-1), .ref (ma 9), .ref (ma 10), .ref (ma 11), .ref (ma 12), .ref (ma 13), .ref (ma 14), .ref (ma 15), .int 0, .int 0, .int 0, .ref (ma 19), .ref (ma 20), .ref (ma 21), .int 0, .ref (ma 23), .ref (ma 24), .ref (ma 25), .ref (ma 26), .ref (ma 27), .ref (ma 28), .int 0, .int 0, .int 0, .int 0, .ref (ma 33), .int (-1), .ref (ma 35), .int 0, .int 0])), ((ma 1), .inl (cy 0, 4, .inl (fun _ => 0))), ((ma 10), .inl (cy 0, 68, .inl (fun _ => 0)))] H := hP
  have hD : va_D A [(mo, .inr (12, [.int 0, .ref (ma 1), .int 0, .int 0, .int 0, .int 0, .int 0, .int 0, .int (-1), .ref (ma 9), .ref (ma 10), .ref (ma 11), .ref (ma 12), .ref (ma 13), .ref (ma 14), .ref (ma 15), .int 0, .int 0, .int 0, .ref (ma 19), .ref (ma 20), .ref (ma 21), .int 0, .ref (ma 23), .ref (ma 24), .ref (ma 25), .ref (ma 26), .ref (ma 27), .ref (ma 28), .int 0, .int 0, .int 0, .int 0, .ref (ma 33), .int (-1), .ref (ma 35), .int 0, .int 0])), ((ma 1), .inl (cy 0, 4, .inl (fun _ => 0))), ((ma 10), .inl (cy 0, 68, .inl (fun _ => 0)))] := hD
  refine lv_aload_n hx hb dX12_traffic_5 rfl (lv_at hlv 0 rfl) ?_
  refine lv_iload_n hx hb dX12_traffic_6 rfl (lv_at hlv 1 rfl) ?_
  refine lv_iconst (v := 0) hx hb dX12_traffic_7 (by decide) ?_
  refine lv_bipush (v := 99) hx hb dX12_traffic_8 (by decide) ?_
  refine cj_i (wr := [(mo, .inr (12, [.int 0, .ref (ma 1), .int 0, .int 0, .int 0, .int 0, .int 0, .int 0, .int (-1), .ref (ma 9), .ref (ma 10), .ref (ma 11), .ref (ma 12), .ref (ma 13), .ref (ma 14), .ref (ma 15), .int 0, .int 0, .int 0, .ref (ma 19), .ref (ma 20), .ref (ma 21), .int 0, .ref (ma 23), .ref (ma 24), .ref (ma 25), .ref (ma 26), .ref (ma 27), .ref (ma 28), .int 0, .int 0, .int 0, .int 0, .ref (ma 33), .int (-1), .ref (ma 35), .int 0, .int 0])), ((ma 1), .inl (cy 0, 4, .inl (fun _ => 0))), ((ma 10), .inl (cy 0, 68, .inl (fun _ => 0)))]) (va_runS (As := [.int p0, .int 0, .int 99]) (rest := [.ref mo]) ⟨hx, hb, hml, hown, hts⟩ (c_within l hl D cy sa p0 0 99 H.size) (va_cwS 3 hts gg_1 rfl rfl rfl (by decide +kernel) ⟨Nat.le_of_ble_eq_true rfl, Nat.le_of_ble_eq_true rfl⟩) ⟨pcW.blind, (pcW.mk hP hD hS hA hG hT [] rfl (by decide))⟩ rfl rfl hlv.1 rfl (lv_room (Nat.le_of_ble_eq_true rfl)) dX12_traffic_10 ⟨Nat.le_of_ble_eq_true rfl, Nat.le_of_ble_eq_true rfl⟩) hP hD hS hA [] [0, 1, 2] rfl rfl (by decide) (by decide) (fun r1 u1 H locs hw1 hP hD hS => ?_)
  rcases hw1 with ⟨hg1, rfl⟩ | ⟨hg1, rfl⟩
  · have hP : va_P D vwCl [(mo, .inr (12, [.int 0, .ref (ma 1), .int 0, .int 0, .int 0, .int 0, .int 0, .int 0, .int (-1), .ref (ma 9), .ref (ma 10), .ref (ma 11), .ref (ma 12), .ref (ma 13), .ref (ma 14), .ref (ma 15), .int 0, .int 0, .int 0, .ref (ma 19), .ref (ma 20), .ref (ma 21), .int 0, .ref (ma 23), .ref (ma 24), .ref (ma 25), .ref (ma 26), .ref (ma 27), .ref (ma 28), .int 0, .int 0, .int 0, .int 0, .ref (ma 33), .int (-1), .ref (ma 35), .int 0, .int 0])), ((ma 1), .inl (cy 0, 4, .inl (fun _ => 0))), ((ma 10), .inl (cy 0, 68, .inl (fun _ => 0)))] H := hP
    have hD : va_D A [(mo, .inr (12, [.int 0, .ref (ma 1), .int 0, .int 0, .int 0, .int 0, .int 0, .int 0, .int (-1), .ref (ma 9), .ref (ma 10), .ref (ma 11), .ref (ma 12), .ref (ma 13), .ref (ma 14), .ref (ma 15), .int 0, .int 0, .int 0, .ref (ma 19), .ref (ma 20), .ref (ma 21), .int 0, .ref (ma 23), .ref (ma 24), .ref (ma 25), .ref (ma 26), .ref (ma 27), .ref (ma 28), .int 0, .int 0, .int 0, .int 0, .ref (ma 33), .int (-1), .ref (ma 35), .int 0, .int 0])), ((ma 1), .inl (cy 0, 4, .inl (fun _ => 0))), ((ma 10), .inl (cy 0, 68, .inl (fun _ => 0)))] := hD
    refine lv_if_eq (tgt := 33) hx hb dX12_traffic_13 (by decide) (fun c => absurd c (by decide)) (fun _ => ?_)
    refine lv_aload_n hx hb dX12_traffic_16 rfl (lv_at hlv 0 rfl) ?_
    refine lv_iload_n hx hb dX12_traffic_17 rfl (lv_at hlv 2 rfl) ?_
    refine lv_iload_n hx hb dX12_traffic_18 rfl (lv_at hlv 3 rfl) ?_
    refine lv_iload hx hb dX12_traffic_19 (lv_at hlv 4 rfl) ?_
    refine lv_iload hx hb dX12_traffic_21 (lv_at hlv 5 rfl) ?_
    refine cj_i (wr := [((ma 1), .inl (cy 0, 4, .inl (fun _ => 0)))]) (va_runV (As := [.int p1, .int p2, .int p3, .int p4]) (rest := [.ref mo]) ⟨hx, hb, hml, hown, hts⟩ (c_misCar l hl D cy sa mo ma p1 p2 p3 p4 H.size) (cwV 4 hts gg_2 rfl rfl rfl (by decide +kernel) ⟨Nat.le_of_ble_eq_true rfl, Nat.le_of_ble_eq_true rfl⟩) ⟨pcW.blind, (va_recv hG.1 hP (ci := 12) (q0 := 0) rfl rfl), (pcW.mk hP hD hS hA hG hT [0, 2] rfl (by decide))⟩ rfl rfl hlv.1 rfl (lv_room (Nat.le_of_ble_eq_true rfl)) dX12_traffic_23 ⟨Nat.le_of_ble_eq_true rfl, Nat.le_of_ble_eq_true rfl⟩) hP hD hS hA [0, 2] [1] rfl rfl (by decide) (by decide) (fun r2 u2 H locs hw2 hP hD hS => ?_)
    obtain rfl := hw2
    have hP : va_P D vwCl [((ma 1), .inl (cy 0, 4, .inl (fun _ => 0))), (mo, .inr (12, [.int 0, .ref (ma 1), .int 0, .int 0, .int 0, .int 0, .int 0, .int 0, .int (-1), .ref (ma 9), .ref (ma 10), .ref (ma 11), .ref (ma 12), .ref (ma 13), .ref (ma 14), .ref (ma 15), .int 0, .int 0, .int 0, .ref (ma 19), .ref (ma 20), .ref (ma 21), .int 0, .ref (ma 23), .ref (ma 24), .ref (ma 25), .ref (ma 26), .ref (ma 27), .ref (ma 28), .int 0, .int 0, .int 0, .int 0, .ref (ma 33), .int (-1), .ref (ma 35), .int 0, .int 0])), ((ma 10), .inl (cy 0, 68, .inl (fun _ => 0)))] H := hP
    have hD : va_D A [((ma 1), .inl (cy 0, 4, .inl (fun _ => 0))), (mo, .inr (12, [.int 0, .ref (ma 1), .int 0, .int 0, .int 0, .int 0, .int 0, .int 0, .int (-1), .ref (ma 9), .ref (ma 10), .ref (ma 11), .ref (ma 12), .ref (ma 13), .ref (ma 14), .ref (ma 15), .int 0, .int 0, .int 0, .ref (ma 19), .ref (ma 20), .ref (ma 21), .int 0, .ref (ma 23), .ref (ma 24), .ref (ma 25), .ref (ma 26), .ref (ma 27), .ref (ma 28), .int 0, .int 0, .int 0, .int 0, .ref (ma 33), .int (-1), .ref (ma 35), .int 0, .int 0])), ((ma 10), .inl (cy 0, 68, .inl (fun _ => 0)))] := hD
    refine lv_if_eq (tgt := 33) hx hb dX12_traffic_26 (by decide) (fun _ => ?_) (fun c => absurd (by decide) c)
    refine lv_iconst (v := 0) hx hb dX12_traffic_33 (by decide) ?_
    refine lv_iconst (v := 1) hx hb dX12_traffic_34 (by decide) ?_
    refine lv_iconst (v := 2) hx hb dX12_traffic_35 (by decide) ?_
    refine cj_i (wr := [((ma 10), .inl (cy 0, 68, .inl (fun _ => 0)))]) (va_runV (As := [.int 0, .int 1, .int 2]) (rest := []) ⟨hx, hb, hml, hown, hts⟩ (c_may0_2 l hl D cy sa mo ma 1 H.size (by decide)) (cwV 3 hts gg_3 rfl rfl rfl (by decide +kernel) ⟨Nat.le_of_ble_eq_true rfl, Nat.le_of_ble_eq_true rfl⟩) ⟨pcW.blind, (va_recv hG.1 hP (ci := 12) (q0 := 1) rfl rfl), (pcW.mk hP hD hS hA hG hT [1, 0] rfl (by decide))⟩ rfl rfl hlv.1 rfl (lv_room (Nat.le_of_ble_eq_true rfl)) dX12_traffic_36 ⟨Nat.le_of_ble_eq_true rfl, Nat.le_of_ble_eq_true rfl⟩) hP hD hS hA [1, 0] [2] rfl rfl (by decide) (by decide) (fun r3 u3 H locs hw3 hP hD hS => ?_)
    obtain rfl := hw3
    have hP : va_P D vwCl [((ma 10), .inl (cy 0, 68, .inl (fun _ => 0))), (mo, .inr (12, [.int 1, .ref (ma 1), .int 0, .int 0, .int 0, .int 0, .int 0, .int 0, .int (-1), .ref (ma 9), .ref (ma 10), .ref (ma 11), .ref (ma 12), .ref (ma 13), .ref (ma 14), .ref (ma 15), .int 0, .int 0, .int 0, .ref (ma 19), .ref (ma 20), .ref (ma 21), .int 0, .ref (ma 23), .ref (ma 24), .ref (ma 25), .ref (ma 26), .ref (ma 27), .ref (ma 28), .int 0, .int 0, .int 0, .int 0, .ref (ma 33), .int (-1), .ref (ma 35), .int 0, .int 0]))] H := hP
    have hD : va_D A [((ma 10), .inl (cy 0, 68, .inl (fun _ => 0))), (mo, .inr (12, [.int 1, .ref (ma 1), .int 0, .int 0, .int 0, .int 0, .int 0, .int 0, .int (-1), .ref (ma 9), .ref (ma 10), .ref (ma 11), .ref (ma 12), .ref (ma 13), .ref (ma 14), .ref (ma 15), .int 0, .int 0, .int 0, .ref (ma 19), .ref (ma 20), .ref (ma 21), .int 0, .ref (ma 23), .ref (ma 24), .ref (ma 25), .ref (ma 26), .ref (ma 27), .ref (ma 28), .int 0, .int 0, .int 0, .int 0, .ref (ma 33), .int (-1), .ref (ma 35), .int 0, .int 0]))] := hD
    refine lv_if_ne (tgt := 44) hx hb dX12_traffic_39 (by decide) (fun c => absurd (by decide) c) (fun _ => ?_)
    refine lv_iconst (v := 0) hx hb dX12_traffic_42 (by decide) ?_
    refine W.widen (k := 0) (n := 0) (Nat.le_of_ble_eq_true rfl) (Nat.le_of_ble_eq_true rfl) ?_
    exact W.iret (v := 0) hx hb hr (fun t ht hW => ⟨⟨0, ((fun k => ([] : List Nat).getD k 0), (fun k => ([] : List Int32).getD k 0), (fun k => ([] : List (Nat → Int32)).getD k (fun _ => 0))), rfl, (by first | (exact (by rfl))), by rw [ht]; exact hP.sub [1] rfl, hD.sub [1] (by decide) rfl⟩, hS.F ht⟩) hS.2.2 dX12_traffic_43
  · have hP : va_P D vwCl [(mo, .inr (12, [.int 0, .ref (ma 1), .int 0, .int 0, .int 0, .int 0, .int 0, .int 0, .int (-1), .ref (ma 9), .ref (ma 10), .ref (ma 11), .ref (ma 12), .ref (ma 13), .ref (ma 14), .ref (ma 15), .int 0, .int 0, .int 0, .ref (ma 19), .ref (ma 20), .ref (ma 21), .int 0, .ref (ma 23), .ref (ma 24), .ref (ma 25), .ref (ma 26), .ref (ma 27), .ref (ma 28), .int 0, .int 0, .int 0, .int 0, .ref (ma 33), .int (-1), .ref (ma 35), .int 0, .int 0])), ((ma 1), .inl (cy 0, 4, .inl (fun _ => 0))), ((ma 10), .inl (cy 0, 68, .inl (fun _ => 0)))] H := hP
    have hD : va_D A [(mo, .inr (12, [.int 0, .ref (ma 1), .int 0, .int 0, .int 0, .int 0, .int 0, .int 0, .int (-1), .ref (ma 9), .ref (ma 10), .ref (ma 11), .ref (ma 12), .ref (ma 13), .ref (ma 14), .ref (ma 15), .int 0, .int 0, .int 0, .ref (ma 19), .ref (ma 20), .ref (ma 21), .int 0, .ref (ma 23), .ref (ma 24), .ref (ma 25), .ref (ma 26), .ref (ma 27), .ref (ma 28), .int 0, .int 0, .int 0, .int 0, .ref (ma 33), .int (-1), .ref (ma 35), .int 0, .int 0])), ((ma 1), .inl (cy 0, 4, .inl (fun _ => 0))), ((ma 10), .inl (cy 0, 68, .inl (fun _ => 0)))] := hD
    refine lv_if_eq (tgt := 33) hx hb dX12_traffic_13 (by decide) (fun _ => ?_) (fun c => absurd (by decide) c)
    refine lv_iconst (v := 0) hx hb dX12_traffic_33 (by decide) ?_
    refine lv_iconst (v := 1) hx hb dX12_traffic_34 (by decide) ?_
    refine lv_iconst (v := 2) hx hb dX12_traffic_35 (by decide) ?_
    refine cj_i (wr := [((ma 10), .inl (cy 0, 68, .inl (fun _ => 0)))]) (va_runV (As := [.int 0, .int 1, .int 2]) (rest := []) ⟨hx, hb, hml, hown, hts⟩ (c_may0_2 l hl D cy sa mo ma 1 H.size (by decide)) (cwV 3 hts gg_3 rfl rfl rfl (by decide +kernel) ⟨Nat.le_of_ble_eq_true rfl, Nat.le_of_ble_eq_true rfl⟩) ⟨pcW.blind, (va_recv hG.1 hP (ci := 12) (q0 := 0) rfl rfl), (pcW.mk hP hD hS hA hG hT [0, 1] rfl (by decide))⟩ rfl rfl hlv.1 rfl (lv_room (Nat.le_of_ble_eq_true rfl)) dX12_traffic_36 ⟨Nat.le_of_ble_eq_true rfl, Nat.le_of_ble_eq_true rfl⟩) hP hD hS hA [0, 1] [2] rfl rfl (by decide) (by decide) (fun r4 u4 H locs hw4 hP hD hS => ?_)
    obtain rfl := hw4
    have hP : va_P D vwCl [((ma 10), .inl (cy 0, 68, .inl (fun _ => 0))), (mo, .inr (12, [.int 1, .ref (ma 1), .int 0, .int 0, .int 0, .int 0, .int 0, .int 0, .int (-1), .ref (ma 9), .ref (ma 10), .ref (ma 11), .ref (ma 12), .ref (ma 13), .ref (ma 14), .ref (ma 15), .int 0, .int 0, .int 0, .ref (ma 19), .ref (ma 20), .ref (ma 21), .int 0, .ref (ma 23), .ref (ma 24), .ref (ma 25), .ref (ma 26), .ref (ma 27), .ref (ma 28), .int 0, .int 0, .int 0, .int 0, .ref (ma 33), .int (-1), .ref (ma 35), .int 0, .int 0]))] H := hP
    have hD : va_D A [((ma 10), .inl (cy 0, 68, .inl (fun _ => 0))), (mo, .inr (12, [.int 1, .ref (ma 1), .int 0, .int 0, .int 0, .int 0, .int 0, .int 0, .int (-1), .ref (ma 9), .ref (ma 10), .ref (ma 11), .ref (ma 12), .ref (ma 13), .ref (ma 14), .ref (ma 15), .int 0, .int 0, .int 0, .ref (ma 19), .ref (ma 20), .ref (ma 21), .int 0, .ref (ma 23), .ref (ma 24), .ref (ma 25), .ref (ma 26), .ref (ma 27), .ref (ma 28), .int 0, .int 0, .int 0, .int 0, .ref (ma 33), .int (-1), .ref (ma 35), .int 0, .int 0]))] := hD
    refine lv_if_ne (tgt := 44) hx hb dX12_traffic_39 (by decide) (fun c => absurd (by decide) c) (fun _ => ?_)
    refine lv_iconst (v := 0) hx hb dX12_traffic_42 (by decide) ?_
    refine W.widen (k := 0) (n := 0) (Nat.le_of_ble_eq_true rfl) (Nat.le_of_ble_eq_true rfl) ?_
    exact W.iret (v := 0) hx hb hr (fun t ht hW => ⟨⟨0, ((fun k => ([] : List Nat).getD k 0), (fun k => ([] : List Int32).getD k 0), (fun k => ([] : List (Nat → Int32)).getD k (fun _ => 0))), rfl, (by first | (exact (by rfl))), by rw [ht]; exact hP.sub [1] rfl, hD.sub [1] (by decide) rfl⟩, hS.F ht⟩) hS.2.2 dX12_traffic_43
def vs_m_shower : List Cond := .code yX12_shower cX12_shower 2 (some .int) :: (([.fieldLink RX12 1 "KerbSplashModel" "thrown" "I"] : List Cond) ++ ((wsX120) ++ ((wsV RX12 324 RX12 yX12_isRain vs_c_isRain) ++ ([]))))
set_option maxHeartbeats 4000000 in
set_option maxRecDepth 100000 in
theorem m_shower (l : Launch) (hl : l.stackTraces = false) (D : va_G) (cy : Nat → ClassId) (sa : Nat → Nat) (mo : Nat) (ma : Nat → Nat) (p0 : Int32) (sz : Nat) : Met l yX12_shower vs_m_shower ({ frames := 2, cells := 0, slots := 0, locals := 45 }) (va_Pc [.ref mo, .int p0] (pcW D cy sa sz [(mo, .inr (12, [.int 0, .ref (ma 1), .int 0, .int 0, .int 0, .int 0, .int 0, .int 0, .int (-1), .ref (ma 9), .ref (ma 10), .ref (ma 11), .ref (ma 12), .ref (ma 13), .ref (ma 14), .ref (ma 15), .int 0, .int 0, .int 0, .ref (ma 19), .ref (ma 20), .ref (ma 21), .int 0, .ref (ma 23), .ref (ma 24), .ref (ma 25), .ref (ma 26), .ref (ma 27), .ref (ma 28), .int 0, .int 0, .int 0, .int 0, .ref (ma 33), .int (-1), .ref (ma 35), .int 0, .int 0])), ((ma 1), .inl (cy 0, 4, .inl (fun _ => 0)))])) (va_Qi (fun (r : Int32) (u : SU) => (r = 0)) (fun u t => atW D (va_A [(mo, .inr (12, [.int 0, .ref (ma 1), .int 0, .int 0, .int 0, .int 0, .int 0, .int 0, .int (-1), .ref (ma 9), .ref (ma 10), .ref (ma 11), .ref (ma 12), .ref (ma 13), .ref (ma 14), .ref (ma 15), .int 0, .int 0, .int 0, .ref (ma 19), .ref (ma 20), .ref (ma 21), .int 0, .ref (ma 23), .ref (ma 24), .ref (ma 25), .ref (ma 26), .ref (ma 27), .ref (ma 28), .int 0, .int 0, .int 0, .int 0, .ref (ma 33), .int (-1), .ref (ma 35), .int 0, .int 0])), ((ma 1), .inl (cy 0, 4, .inl (fun _ => 0)))] sz) [(mo, .inr (12, [.int 1, .ref (ma 1), .int 0, .int 0, .int 0, .int 0, .int 0, .int 0, .int (-1), .ref (ma 9), .ref (ma 10), .ref (ma 11), .ref (ma 12), .ref (ma 13), .ref (ma 14), .ref (ma 15), .int 0, .int 0, .int 0, .ref (ma 19), .ref (ma 20), .ref (ma 21), .int 0, .ref (ma 23), .ref (ma 24), .ref (ma 25), .ref (ma 26), .ref (ma 27), .ref (ma 28), .int 0, .int 0, .int 0, .int 0, .ref (ma 33), .int (-1), .ref (ma 35), .int 0, .int 0]))] t) (va_A [(mo, .inr (12, [.int 0, .ref (ma 1), .int 0, .int 0, .int 0, .int 0, .int 0, .int 0, .int (-1), .ref (ma 9), .ref (ma 10), .ref (ma 11), .ref (ma 12), .ref (ma 13), .ref (ma 14), .ref (ma 15), .int 0, .int 0, .int 0, .ref (ma 19), .ref (ma 20), .ref (ma 21), .int 0, .ref (ma 23), .ref (ma 24), .ref (ma 25), .ref (ma 26), .ref (ma 27), .ref (ma 28), .int 0, .int 0, .int 0, .int 0, .ref (ma 33), .int (-1), .ref (ma 35), .int 0, .int 0])), ((ma 1), .inl (cy 0, 4, .inl (fun _ => 0)))] sz)) 0 0 (va_A [(mo, .inr (12, [.int 0, .ref (ma 1), .int 0, .int 0, .int 0, .int 0, .int 0, .int 0, .int (-1), .ref (ma 9), .ref (ma 10), .ref (ma 11), .ref (ma 12), .ref (ma 13), .ref (ma 14), .ref (ma 15), .int 0, .int 0, .int 0, .ref (ma 19), .ref (ma 20), .ref (ma 21), .int 0, .ref (ma 23), .ref (ma 24), .ref (ma 25), .ref (ma 26), .ref (ma 27), .ref (ma 28), .int 0, .int 0, .int 0, .int 0, .ref (ma 33), .int (-1), .ref (ma 35), .int 0, .int 0])), ((ma 1), .inl (cy 0, 4, .inl (fun _ => 0)))] sz) := by
  refine Met.ofW (cc := cX12_shower) (maxL := 2) (ret := (some .int)) (by decide) rfl ?_
  intro p e s m args below meth c s₁ B hml hv
  obtain ⟨rfl, hsz, hP, hG, hD0, hT⟩ := hv
  have hx := B.exec
  have hb := B.bytes
  have hr := B.returns
  have hts := atoms_spec (ws := vs_m_shower) B.pre
  have hown : s.vm.findClass RX12 = some m.cls := findClass_of_methodNamed B.named
  have hlocks := B.notSynchronized
  subst hsz
  have hD := hD0.self (sz := s.heap.size)
  generalize hAe : va_A [(mo, .inr (12, [.int 0, .ref (ma 1), .int 0, .int 0, .int 0, .int 0, .int 0, .int 0, .int (-1), .ref (ma 9), .ref (ma 10), .ref (ma 11), .ref (ma 12), .ref (ma 13), .ref (ma 14), .ref (ma 15), .int 0, .int 0, .int 0, .ref (ma 19), .ref (ma 20), .ref (ma 21), .int 0, .ref (ma 23), .ref (ma 24), .ref (ma 25), .ref (ma 26), .ref (ma 27), .ref (ma 28), .int 0, .int 0, .int 0, .int 0, .ref (ma 33), .int (-1), .ref (ma 35), .int 0, .int 0])), ((ma 1), .inl (cy 0, 4, .inl (fun _ => 0)))] s.heap.size = A at hD hT ⊢
  have hA : ∀ q : Nat, s.heap.size ≤ q → A q := fun q h => by rw [← hAe]; exact Or.inr h
  have hS : va_S A s.heap s.heap [] := va_S.rf
  have hl0 := lv_entry ([.ref mo, .int p0]) (n := 2) (Nat.le_of_ble_eq_true rfl)
  rw [lg_entry_eq]
  generalize (lg_sl ([.ref mo, .int p0]) ++ List.replicate (2 - (lg_sl ([.ref mo, .int p0])).length) Slot.unset).toArray = ls at hl0 ⊢
  have hlv : lv_has ls 2 [(0, .ref mo), (1, .int p0)] := hl0
  have lf1 := hts (.fieldLink RX12 1 "KerbSplashModel" "thrown" "I") (List.mem_of_getElem? (i := 1) rfl)
  have hi12 : ∀ w ∈ wsX120, w ∈ vs_m_shower := fun w h => List.mem_cons_of_mem _ (List.mem_append_right _ (List.mem_append_left _ h))
  have gg_1 : GoodIn vs_m_shower (wsV RX12 324 RX12 yX12_isRain vs_c_isRain) := goodIn_sub (fun w h => List.mem_cons_of_mem _ (List.mem_append_right _ (List.mem_append_right _ (List.mem_append_left _ h)))) (by decide +kernel)
  refine lv_aload_n hx hb dX12_shower_0 rfl (lv_at hlv 0 rfl) ?_
  refine lv_iconst (v := 0) hx hb dX12_shower_1 (by decide) ?_
  refine va_put (D := D) (ci := 12) (v := .int 0) (ty := .int) (C := RX12) (T := TX12) (N := 38) hx hb hts hi12 tyX12 tyX12_ok nmX12 hown hG.1 hP hD hS 0 rfl rfl 0 (by decide) lf1 (fun _ h9 => h9) rfl (by decide +kernel) rfl rfl (Nat.le_of_ble_eq_true rfl) dX12_shower_2 (fun H locs hP hD hS => ?_)
  have hP : va_P D vwCl [(mo, .inr (12, [.int 0, .ref (ma 1), .int 0, .int 0, .int 0, .int 0, .int 0, .int 0, .int (-1), .ref (ma 9), .ref (ma 10), .ref (ma 11), .ref (ma 12), .ref (ma 13), .ref (ma 14), .ref (ma 15), .int 0, .int 0, .int 0, .ref (ma 19), .ref (ma 20), .ref (ma 21), .int 0, .ref (ma 23), .ref (ma 24), .ref (ma 25), .ref (ma 26), .ref (ma 27), .ref (ma 28), .int 0, .int 0, .int 0, .int 0, .ref (ma 33), .int (-1), .ref (ma 35), .int 0, .int 0])), ((ma 1), .inl (cy 0, 4, .inl (fun _ => 0)))] H := hP
  have hD : va_D A [(mo, .inr (12, [.int 0, .ref (ma 1), .int 0, .int 0, .int 0, .int 0, .int 0, .int 0, .int (-1), .ref (ma 9), .ref (ma 10), .ref (ma 11), .ref (ma 12), .ref (ma 13), .ref (ma 14), .ref (ma 15), .int 0, .int 0, .int 0, .ref (ma 19), .ref (ma 20), .ref (ma 21), .int 0, .ref (ma 23), .ref (ma 24), .ref (ma 25), .ref (ma 26), .ref (ma 27), .ref (ma 28), .int 0, .int 0, .int 0, .int 0, .ref (ma 33), .int (-1), .ref (ma 35), .int 0, .int 0])), ((ma 1), .inl (cy 0, 4, .inl (fun _ => 0)))] := hD
  refine lv_aload_n hx hb dX12_shower_5 rfl (lv_at hlv 0 rfl) ?_
  refine lv_iload_n hx hb dX12_shower_6 rfl (lv_at hlv 1 rfl) ?_
  refine lv_iconst (v := 1) hx hb dX12_shower_7 (by decide) ?_
  refine cj_i (wr := []) (va_runV (As := [.int p0, .int 1]) (rest := []) ⟨hx, hb, hml, hown, hts⟩ (c_isRain l hl D cy sa mo ma p0 1 H.size (by decide)) (cwV 2 hts gg_1 rfl rfl rfl (by decide +kernel) ⟨Nat.le_of_ble_eq_true rfl, Nat.le_of_ble_eq_true rfl⟩) ⟨pcW.blind, (va_recv hG.1 hP (ci := 12) (q0 := 0) rfl rfl), (pcW.mk hP hD hS hA hG hT [0, 1] rfl (by decide))⟩ rfl rfl hlv.1 rfl (lv_room (Nat.le_of_ble_eq_true rfl)) dX12_shower_8 ⟨Nat.le_of_ble_eq_true rfl, Nat.le_of_ble_eq_true rfl⟩) hP hD hS hA [0, 1] [] rfl rfl (by decide) (by decide) (fun r1 u1 H locs hw1 hP hD hS => ?_)
  obtain rfl := hw1
  have hP : va_P D vwCl [(mo, .inr (12, [.int 1, .ref (ma 1), .int 0, .int 0, .int 0, .int 0, .int 0, .int 0, .int (-1), .ref (ma 9), .ref (ma 10), .ref (ma 11), .ref (ma 12), .ref (ma 13), .ref (ma 14), .ref (ma 15), .int 0, .int 0, .int 0, .ref (ma 19), .ref (ma 20), .ref (ma 21), .int 0, .ref (ma 23), .ref (ma 24), .ref (ma 25), .ref (ma 26), .ref (ma 27), .ref (ma 28), .int 0, .int 0, .int 0, .int 0, .ref (ma 33), .int (-1), .ref (ma 35), .int 0, .int 0]))] H := hP
  have hD : va_D A [(mo, .inr (12, [.int 1, .ref (ma 1), .int 0, .int 0, .int 0, .int 0, .int 0, .int 0, .int (-1), .ref (ma 9), .ref (ma 10), .ref (ma 11), .ref (ma 12), .ref (ma 13), .ref (ma 14), .ref (ma 15), .int 0, .int 0, .int 0, .ref (ma 19), .ref (ma 20), .ref (ma 21), .int 0, .ref (ma 23), .ref (ma 24), .ref (ma 25), .ref (ma 26), .ref (ma 27), .ref (ma 28), .int 0, .int 0, .int 0, .int 0, .ref (ma 33), .int (-1), .ref (ma 35), .int 0, .int 0]))] := hD
  refine lv_if_eq (tgt := 22) hx hb dX12_shower_11 (by decide) (fun _ => ?_) (fun c => absurd (by decide) c)
  refine lv_iconst (v := 0) hx hb dX12_shower_22 (by decide) ?_
  refine W.widen (k := 0) (n := 0) (Nat.le_of_ble_eq_true rfl) (Nat.le_of_ble_eq_true rfl) ?_
  exact W.iret (v := 0) hx hb hr (fun t ht hW => ⟨⟨0, ((fun k => ([] : List Nat).getD k 0), (fun k => ([] : List Int32).getD k 0), (fun k => ([] : List (Nat → Int32)).getD k (fun _ => 0))), rfl, (by first | (exact (by rfl))), by rw [ht]; exact hP.sub [0] rfl, hD.sub [0] (by decide) rfl⟩, hS.F ht⟩) hS.2.2 dX12_shower_23
def vs_m_says : List Cond := .code yX12_says cX12_says 10 (some .int) :: (([.fieldLink RX12 1 "KerbSplashModel" "thrown" "I"] : List Cond) ++ ((wsX120) ++ ((wsV RX12 334 RX12 yX12_isLaw vs_c_isLaw) ++ ([]))))
set_option maxHeartbeats 4000000 in
set_option maxRecDepth 100000 in
theorem m_says (l : Launch) (hl : l.stackTraces = false) (D : va_G) (cy : Nat → ClassId) (sa : Nat → Nat) (mo : Nat) (ma : Nat → Nat) (p0 p1 p2 p3 p4 p5 p6 p7 p8 : Int32) (sz : Nat) : Met l yX12_says vs_m_says ({ frames := 2, cells := 0, slots := 0, locals := 45 }) (va_Pc [.ref mo, .int p0, .int p1, .int p2, .int p3, .int p4, .int p5, .int p6, .int p7, .int p8] (pcW D cy sa sz [(mo, .inr (12, [.int 0, .ref (ma 1), .int 0, .int 0, .int 0, .int 0, .int 0, .int 0, .int (-1), .ref (ma 9), .ref (ma 10), .ref (ma 11), .ref (ma 12), .ref (ma 13), .ref (ma 14), .ref (ma 15), .int 0, .int 0, .int 0, .ref (ma 19), .ref (ma 20), .ref (ma 21), .int 0, .ref (ma 23), .ref (ma 24), .ref (ma 25), .ref (ma 26), .ref (ma 27), .ref (ma 28), .int 0, .int 0, .int 0, .int 0, .ref (ma 33), .int (-1), .ref (ma 35), .int 0, .int 0])), ((ma 1), .inl (cy 0, 4, .inl (fun _ => 0)))])) (va_Qi (fun (r : Int32) (u : SU) => (r = 0)) (fun u t => atW D (va_A [(mo, .inr (12, [.int 0, .ref (ma 1), .int 0, .int 0, .int 0, .int 0, .int 0, .int 0, .int (-1), .ref (ma 9), .ref (ma 10), .ref (ma 11), .ref (ma 12), .ref (ma 13), .ref (ma 14), .ref (ma 15), .int 0, .int 0, .int 0, .ref (ma 19), .ref (ma 20), .ref (ma 21), .int 0, .ref (ma 23), .ref (ma 24), .ref (ma 25), .ref (ma 26), .ref (ma 27), .ref (ma 28), .int 0, .int 0, .int 0, .int 0, .ref (ma 33), .int (-1), .ref (ma 35), .int 0, .int 0])), ((ma 1), .inl (cy 0, 4, .inl (fun _ => 0)))] sz) [(mo, .inr (12, [.int 1, .ref (ma 1), .int 0, .int 0, .int 0, .int 0, .int 0, .int 0, .int (-1), .ref (ma 9), .ref (ma 10), .ref (ma 11), .ref (ma 12), .ref (ma 13), .ref (ma 14), .ref (ma 15), .int 0, .int 0, .int 0, .ref (ma 19), .ref (ma 20), .ref (ma 21), .int 0, .ref (ma 23), .ref (ma 24), .ref (ma 25), .ref (ma 26), .ref (ma 27), .ref (ma 28), .int 0, .int 0, .int 0, .int 0, .ref (ma 33), .int (-1), .ref (ma 35), .int 0, .int 0]))] t) (va_A [(mo, .inr (12, [.int 0, .ref (ma 1), .int 0, .int 0, .int 0, .int 0, .int 0, .int 0, .int (-1), .ref (ma 9), .ref (ma 10), .ref (ma 11), .ref (ma 12), .ref (ma 13), .ref (ma 14), .ref (ma 15), .int 0, .int 0, .int 0, .ref (ma 19), .ref (ma 20), .ref (ma 21), .int 0, .ref (ma 23), .ref (ma 24), .ref (ma 25), .ref (ma 26), .ref (ma 27), .ref (ma 28), .int 0, .int 0, .int 0, .int 0, .ref (ma 33), .int (-1), .ref (ma 35), .int 0, .int 0])), ((ma 1), .inl (cy 0, 4, .inl (fun _ => 0)))] sz)) 0 0 (va_A [(mo, .inr (12, [.int 0, .ref (ma 1), .int 0, .int 0, .int 0, .int 0, .int 0, .int 0, .int (-1), .ref (ma 9), .ref (ma 10), .ref (ma 11), .ref (ma 12), .ref (ma 13), .ref (ma 14), .ref (ma 15), .int 0, .int 0, .int 0, .ref (ma 19), .ref (ma 20), .ref (ma 21), .int 0, .ref (ma 23), .ref (ma 24), .ref (ma 25), .ref (ma 26), .ref (ma 27), .ref (ma 28), .int 0, .int 0, .int 0, .int 0, .ref (ma 33), .int (-1), .ref (ma 35), .int 0, .int 0])), ((ma 1), .inl (cy 0, 4, .inl (fun _ => 0)))] sz) := by
  refine Met.ofW (cc := cX12_says) (maxL := 10) (ret := (some .int)) (by decide) rfl ?_
  intro p e s m args below meth c s₁ B hml hv
  obtain ⟨rfl, hsz, hP, hG, hD0, hT⟩ := hv
  have hx := B.exec
  have hb := B.bytes
  have hr := B.returns
  have hts := atoms_spec (ws := vs_m_says) B.pre
  have hown : s.vm.findClass RX12 = some m.cls := findClass_of_methodNamed B.named
  have hlocks := B.notSynchronized
  subst hsz
  have hD := hD0.self (sz := s.heap.size)
  generalize hAe : va_A [(mo, .inr (12, [.int 0, .ref (ma 1), .int 0, .int 0, .int 0, .int 0, .int 0, .int 0, .int (-1), .ref (ma 9), .ref (ma 10), .ref (ma 11), .ref (ma 12), .ref (ma 13), .ref (ma 14), .ref (ma 15), .int 0, .int 0, .int 0, .ref (ma 19), .ref (ma 20), .ref (ma 21), .int 0, .ref (ma 23), .ref (ma 24), .ref (ma 25), .ref (ma 26), .ref (ma 27), .ref (ma 28), .int 0, .int 0, .int 0, .int 0, .ref (ma 33), .int (-1), .ref (ma 35), .int 0, .int 0])), ((ma 1), .inl (cy 0, 4, .inl (fun _ => 0)))] s.heap.size = A at hD hT ⊢
  have hA : ∀ q : Nat, s.heap.size ≤ q → A q := fun q h => by rw [← hAe]; exact Or.inr h
  have hS : va_S A s.heap s.heap [] := va_S.rf
  have hl0 := lv_entry ([.ref mo, .int p0, .int p1, .int p2, .int p3, .int p4, .int p5, .int p6, .int p7, .int p8]) (n := 10) (Nat.le_of_ble_eq_true rfl)
  rw [lg_entry_eq]
  generalize (lg_sl ([.ref mo, .int p0, .int p1, .int p2, .int p3, .int p4, .int p5, .int p6, .int p7, .int p8]) ++ List.replicate (10 - (lg_sl ([.ref mo, .int p0, .int p1, .int p2, .int p3, .int p4, .int p5, .int p6, .int p7, .int p8])).length) Slot.unset).toArray = ls at hl0 ⊢
  have hlv : lv_has ls 10 [(0, .ref mo), (1, .int p0), (2, .int p1), (3, .int p2), (4, .int p3), (5, .int p4), (6, .int p5), (7, .int p6), (8, .int p7), (9, .int p8)] := hl0
  have lf1 := hts (.fieldLink RX12 1 "KerbSplashModel" "thrown" "I") (List.mem_of_getElem? (i := 1) rfl)
  have hi12 : ∀ w ∈ wsX120, w ∈ vs_m_says := fun w h => List.mem_cons_of_mem _ (List.mem_append_right _ (List.mem_append_left _ h))
  have gg_1 : GoodIn vs_m_says (wsV RX12 334 RX12 yX12_isLaw vs_c_isLaw) := goodIn_sub (fun w h => List.mem_cons_of_mem _ (List.mem_append_right _ (List.mem_append_right _ (List.mem_append_left _ h)))) (by decide +kernel)
  refine lv_aload_n hx hb dX12_says_0 rfl (lv_at hlv 0 rfl) ?_
  refine lv_iconst (v := 0) hx hb dX12_says_1 (by decide) ?_
  refine va_put (D := D) (ci := 12) (v := .int 0) (ty := .int) (C := RX12) (T := TX12) (N := 38) hx hb hts hi12 tyX12 tyX12_ok nmX12 hown hG.1 hP hD hS 0 rfl rfl 0 (by decide) lf1 (fun _ h9 => h9) rfl (by decide +kernel) rfl rfl (Nat.le_of_ble_eq_true rfl) dX12_says_2 (fun H locs hP hD hS => ?_)
  have hP : va_P D vwCl [(mo, .inr (12, [.int 0, .ref (ma 1), .int 0, .int 0, .int 0, .int 0, .int 0, .int 0, .int (-1), .ref (ma 9), .ref (ma 10), .ref (ma 11), .ref (ma 12), .ref (ma 13), .ref (ma 14), .ref (ma 15), .int 0, .int 0, .int 0, .ref (ma 19), .ref (ma 20), .ref (ma 21), .int 0, .ref (ma 23), .ref (ma 24), .ref (ma 25), .ref (ma 26), .ref (ma 27), .ref (ma 28), .int 0, .int 0, .int 0, .int 0, .ref (ma 33), .int (-1), .ref (ma 35), .int 0, .int 0])), ((ma 1), .inl (cy 0, 4, .inl (fun _ => 0)))] H := hP
  have hD : va_D A [(mo, .inr (12, [.int 0, .ref (ma 1), .int 0, .int 0, .int 0, .int 0, .int 0, .int 0, .int (-1), .ref (ma 9), .ref (ma 10), .ref (ma 11), .ref (ma 12), .ref (ma 13), .ref (ma 14), .ref (ma 15), .int 0, .int 0, .int 0, .ref (ma 19), .ref (ma 20), .ref (ma 21), .int 0, .ref (ma 23), .ref (ma 24), .ref (ma 25), .ref (ma 26), .ref (ma 27), .ref (ma 28), .int 0, .int 0, .int 0, .int 0, .ref (ma 33), .int (-1), .ref (ma 35), .int 0, .int 0])), ((ma 1), .inl (cy 0, 4, .inl (fun _ => 0)))] := hD
  refine lv_aload_n hx hb dX12_says_5 rfl (lv_at hlv 0 rfl) ?_
  refine lv_iload_n hx hb dX12_says_6 rfl (lv_at hlv 1 rfl) ?_
  refine lv_iconst (v := 1) hx hb dX12_says_7 (by decide) ?_
  refine cj_i (wr := []) (va_runV (As := [.int p0, .int 1]) (rest := []) ⟨hx, hb, hml, hown, hts⟩ (c_isLaw l hl D cy sa mo ma p0 1 H.size (by decide)) (cwV 2 hts gg_1 rfl rfl rfl (by decide +kernel) ⟨Nat.le_of_ble_eq_true rfl, Nat.le_of_ble_eq_true rfl⟩) ⟨pcW.blind, (va_recv hG.1 hP (ci := 12) (q0 := 0) rfl rfl), (pcW.mk hP hD hS hA hG hT [0, 1] rfl (by decide))⟩ rfl rfl hlv.1 rfl (lv_room (Nat.le_of_ble_eq_true rfl)) dX12_says_8 ⟨Nat.le_of_ble_eq_true rfl, Nat.le_of_ble_eq_true rfl⟩) hP hD hS hA [0, 1] [] rfl rfl (by decide) (by decide) (fun r1 u1 H locs hw1 hP hD hS => ?_)
  obtain rfl := hw1
  have hP : va_P D vwCl [(mo, .inr (12, [.int 1, .ref (ma 1), .int 0, .int 0, .int 0, .int 0, .int 0, .int 0, .int (-1), .ref (ma 9), .ref (ma 10), .ref (ma 11), .ref (ma 12), .ref (ma 13), .ref (ma 14), .ref (ma 15), .int 0, .int 0, .int 0, .ref (ma 19), .ref (ma 20), .ref (ma 21), .int 0, .ref (ma 23), .ref (ma 24), .ref (ma 25), .ref (ma 26), .ref (ma 27), .ref (ma 28), .int 0, .int 0, .int 0, .int 0, .ref (ma 33), .int (-1), .ref (ma 35), .int 0, .int 0]))] H := hP
  have hD : va_D A [(mo, .inr (12, [.int 1, .ref (ma 1), .int 0, .int 0, .int 0, .int 0, .int 0, .int 0, .int (-1), .ref (ma 9), .ref (ma 10), .ref (ma 11), .ref (ma 12), .ref (ma 13), .ref (ma 14), .ref (ma 15), .int 0, .int 0, .int 0, .ref (ma 19), .ref (ma 20), .ref (ma 21), .int 0, .ref (ma 23), .ref (ma 24), .ref (ma 25), .ref (ma 26), .ref (ma 27), .ref (ma 28), .int 0, .int 0, .int 0, .int 0, .ref (ma 33), .int (-1), .ref (ma 35), .int 0, .int 0]))] := hD
  refine lv_if_eq (tgt := 29) hx hb dX12_says_11 (by decide) (fun _ => ?_) (fun c => absurd (by decide) c)
  refine lv_iconst (v := 0) hx hb dX12_says_29 (by decide) ?_
  refine W.widen (k := 0) (n := 0) (Nat.le_of_ble_eq_true rfl) (Nat.le_of_ble_eq_true rfl) ?_
  exact W.iret (v := 0) hx hb hr (fun t ht hW => ⟨⟨0, ((fun k => ([] : List Nat).getD k 0), (fun k => ([] : List Int32).getD k 0), (fun k => ([] : List (Nat → Int32)).getD k (fun _ => 0))), rfl, (by first | (exact (by rfl))), by rw [ht]; exact hP.sub [0] rfl, hD.sub [0] (by decide) rfl⟩, hS.F ht⟩) hS.2.2 dX12_says_30
def vs_m_car : List Cond := .code yX12_car cX12_car 6 (some .int) :: (([.fieldLink RX12 1 "KerbSplashModel" "thrown" "I"] : List Cond) ++ ((wsX120) ++ ((wsV RX12 334 RX12 yX12_isLaw vs_c_isLaw) ++ ([]))))
set_option maxHeartbeats 4000000 in
set_option maxRecDepth 100000 in
theorem m_car (l : Launch) (hl : l.stackTraces = false) (D : va_G) (cy : Nat → ClassId) (sa : Nat → Nat) (mo : Nat) (ma : Nat → Nat) (p0 p1 p2 p3 p4 : Int32) (sz : Nat) : Met l yX12_car vs_m_car ({ frames := 2, cells := 0, slots := 0, locals := 45 }) (va_Pc [.ref mo, .int p0, .int p1, .int p2, .int p3, .int p4] (pcW D cy sa sz [(mo, .inr (12, [.int 0, .ref (ma 1), .int 0, .int 0, .int 0, .int 0, .int 0, .int 0, .int (-1), .ref (ma 9), .ref (ma 10), .ref (ma 11), .ref (ma 12), .ref (ma 13), .ref (ma 14), .ref (ma 15), .int 0, .int 0, .int 0, .ref (ma 19), .ref (ma 20), .ref (ma 21), .int 0, .ref (ma 23), .ref (ma 24), .ref (ma 25), .ref (ma 26), .ref (ma 27), .ref (ma 28), .int 0, .int 0, .int 0, .int 0, .ref (ma 33), .int (-1), .ref (ma 35), .int 0, .int 0])), ((ma 1), .inl (cy 0, 4, .inl (fun _ => 0)))])) (va_Qi (fun (r : Int32) (u : SU) => (r = 0)) (fun u t => atW D (va_A [(mo, .inr (12, [.int 0, .ref (ma 1), .int 0, .int 0, .int 0, .int 0, .int 0, .int 0, .int (-1), .ref (ma 9), .ref (ma 10), .ref (ma 11), .ref (ma 12), .ref (ma 13), .ref (ma 14), .ref (ma 15), .int 0, .int 0, .int 0, .ref (ma 19), .ref (ma 20), .ref (ma 21), .int 0, .ref (ma 23), .ref (ma 24), .ref (ma 25), .ref (ma 26), .ref (ma 27), .ref (ma 28), .int 0, .int 0, .int 0, .int 0, .ref (ma 33), .int (-1), .ref (ma 35), .int 0, .int 0])), ((ma 1), .inl (cy 0, 4, .inl (fun _ => 0)))] sz) [(mo, .inr (12, [.int 1, .ref (ma 1), .int 0, .int 0, .int 0, .int 0, .int 0, .int 0, .int (-1), .ref (ma 9), .ref (ma 10), .ref (ma 11), .ref (ma 12), .ref (ma 13), .ref (ma 14), .ref (ma 15), .int 0, .int 0, .int 0, .ref (ma 19), .ref (ma 20), .ref (ma 21), .int 0, .ref (ma 23), .ref (ma 24), .ref (ma 25), .ref (ma 26), .ref (ma 27), .ref (ma 28), .int 0, .int 0, .int 0, .int 0, .ref (ma 33), .int (-1), .ref (ma 35), .int 0, .int 0]))] t) (va_A [(mo, .inr (12, [.int 0, .ref (ma 1), .int 0, .int 0, .int 0, .int 0, .int 0, .int 0, .int (-1), .ref (ma 9), .ref (ma 10), .ref (ma 11), .ref (ma 12), .ref (ma 13), .ref (ma 14), .ref (ma 15), .int 0, .int 0, .int 0, .ref (ma 19), .ref (ma 20), .ref (ma 21), .int 0, .ref (ma 23), .ref (ma 24), .ref (ma 25), .ref (ma 26), .ref (ma 27), .ref (ma 28), .int 0, .int 0, .int 0, .int 0, .ref (ma 33), .int (-1), .ref (ma 35), .int 0, .int 0])), ((ma 1), .inl (cy 0, 4, .inl (fun _ => 0)))] sz)) 0 0 (va_A [(mo, .inr (12, [.int 0, .ref (ma 1), .int 0, .int 0, .int 0, .int 0, .int 0, .int 0, .int (-1), .ref (ma 9), .ref (ma 10), .ref (ma 11), .ref (ma 12), .ref (ma 13), .ref (ma 14), .ref (ma 15), .int 0, .int 0, .int 0, .ref (ma 19), .ref (ma 20), .ref (ma 21), .int 0, .ref (ma 23), .ref (ma 24), .ref (ma 25), .ref (ma 26), .ref (ma 27), .ref (ma 28), .int 0, .int 0, .int 0, .int 0, .ref (ma 33), .int (-1), .ref (ma 35), .int 0, .int 0])), ((ma 1), .inl (cy 0, 4, .inl (fun _ => 0)))] sz) := by
  refine Met.ofW (cc := cX12_car) (maxL := 6) (ret := (some .int)) (by decide) rfl ?_
  intro p e s m args below meth c s₁ B hml hv
  obtain ⟨rfl, hsz, hP, hG, hD0, hT⟩ := hv
  have hx := B.exec
  have hb := B.bytes
  have hr := B.returns
  have hts := atoms_spec (ws := vs_m_car) B.pre
  have hown : s.vm.findClass RX12 = some m.cls := findClass_of_methodNamed B.named
  have hlocks := B.notSynchronized
  subst hsz
  have hD := hD0.self (sz := s.heap.size)
  generalize hAe : va_A [(mo, .inr (12, [.int 0, .ref (ma 1), .int 0, .int 0, .int 0, .int 0, .int 0, .int 0, .int (-1), .ref (ma 9), .ref (ma 10), .ref (ma 11), .ref (ma 12), .ref (ma 13), .ref (ma 14), .ref (ma 15), .int 0, .int 0, .int 0, .ref (ma 19), .ref (ma 20), .ref (ma 21), .int 0, .ref (ma 23), .ref (ma 24), .ref (ma 25), .ref (ma 26), .ref (ma 27), .ref (ma 28), .int 0, .int 0, .int 0, .int 0, .ref (ma 33), .int (-1), .ref (ma 35), .int 0, .int 0])), ((ma 1), .inl (cy 0, 4, .inl (fun _ => 0)))] s.heap.size = A at hD hT ⊢
  have hA : ∀ q : Nat, s.heap.size ≤ q → A q := fun q h => by rw [← hAe]; exact Or.inr h
  have hS : va_S A s.heap s.heap [] := va_S.rf
  have hl0 := lv_entry ([.ref mo, .int p0, .int p1, .int p2, .int p3, .int p4]) (n := 6) (Nat.le_of_ble_eq_true rfl)
  rw [lg_entry_eq]
  generalize (lg_sl ([.ref mo, .int p0, .int p1, .int p2, .int p3, .int p4]) ++ List.replicate (6 - (lg_sl ([.ref mo, .int p0, .int p1, .int p2, .int p3, .int p4])).length) Slot.unset).toArray = ls at hl0 ⊢
  have hlv : lv_has ls 6 [(0, .ref mo), (1, .int p0), (2, .int p1), (3, .int p2), (4, .int p3), (5, .int p4)] := hl0
  have lf1 := hts (.fieldLink RX12 1 "KerbSplashModel" "thrown" "I") (List.mem_of_getElem? (i := 1) rfl)
  have hi12 : ∀ w ∈ wsX120, w ∈ vs_m_car := fun w h => List.mem_cons_of_mem _ (List.mem_append_right _ (List.mem_append_left _ h))
  have gg_1 : GoodIn vs_m_car (wsV RX12 334 RX12 yX12_isLaw vs_c_isLaw) := goodIn_sub (fun w h => List.mem_cons_of_mem _ (List.mem_append_right _ (List.mem_append_right _ (List.mem_append_left _ h)))) (by decide +kernel)
  refine lv_aload_n hx hb dX12_car_0 rfl (lv_at hlv 0 rfl) ?_
  refine lv_iconst (v := 0) hx hb dX12_car_1 (by decide) ?_
  refine va_put (D := D) (ci := 12) (v := .int 0) (ty := .int) (C := RX12) (T := TX12) (N := 38) hx hb hts hi12 tyX12 tyX12_ok nmX12 hown hG.1 hP hD hS 0 rfl rfl 0 (by decide) lf1 (fun _ h9 => h9) rfl (by decide +kernel) rfl rfl (Nat.le_of_ble_eq_true rfl) dX12_car_2 (fun H locs hP hD hS => ?_)
  have hP : va_P D vwCl [(mo, .inr (12, [.int 0, .ref (ma 1), .int 0, .int 0, .int 0, .int 0, .int 0, .int 0, .int (-1), .ref (ma 9), .ref (ma 10), .ref (ma 11), .ref (ma 12), .ref (ma 13), .ref (ma 14), .ref (ma 15), .int 0, .int 0, .int 0, .ref (ma 19), .ref (ma 20), .ref (ma 21), .int 0, .ref (ma 23), .ref (ma 24), .ref (ma 25), .ref (ma 26), .ref (ma 27), .ref (ma 28), .int 0, .int 0, .int 0, .int 0, .ref (ma 33), .int (-1), .ref (ma 35), .int 0, .int 0])), ((ma 1), .inl (cy 0, 4, .inl (fun _ => 0)))] H := hP
  have hD : va_D A [(mo, .inr (12, [.int 0, .ref (ma 1), .int 0, .int 0, .int 0, .int 0, .int 0, .int 0, .int (-1), .ref (ma 9), .ref (ma 10), .ref (ma 11), .ref (ma 12), .ref (ma 13), .ref (ma 14), .ref (ma 15), .int 0, .int 0, .int 0, .ref (ma 19), .ref (ma 20), .ref (ma 21), .int 0, .ref (ma 23), .ref (ma 24), .ref (ma 25), .ref (ma 26), .ref (ma 27), .ref (ma 28), .int 0, .int 0, .int 0, .int 0, .ref (ma 33), .int (-1), .ref (ma 35), .int 0, .int 0])), ((ma 1), .inl (cy 0, 4, .inl (fun _ => 0)))] := hD
  refine lv_aload_n hx hb dX12_car_5 rfl (lv_at hlv 0 rfl) ?_
  refine lv_iload_n hx hb dX12_car_6 rfl (lv_at hlv 1 rfl) ?_
  refine lv_iconst (v := 1) hx hb dX12_car_7 (by decide) ?_
  refine cj_i (wr := []) (va_runV (As := [.int p0, .int 1]) (rest := []) ⟨hx, hb, hml, hown, hts⟩ (c_isLaw l hl D cy sa mo ma p0 1 H.size (by decide)) (cwV 2 hts gg_1 rfl rfl rfl (by decide +kernel) ⟨Nat.le_of_ble_eq_true rfl, Nat.le_of_ble_eq_true rfl⟩) ⟨pcW.blind, (va_recv hG.1 hP (ci := 12) (q0 := 0) rfl rfl), (pcW.mk hP hD hS hA hG hT [0, 1] rfl (by decide))⟩ rfl rfl hlv.1 rfl (lv_room (Nat.le_of_ble_eq_true rfl)) dX12_car_8 ⟨Nat.le_of_ble_eq_true rfl, Nat.le_of_ble_eq_true rfl⟩) hP hD hS hA [0, 1] [] rfl rfl (by decide) (by decide) (fun r1 u1 H locs hw1 hP hD hS => ?_)
  obtain rfl := hw1
  have hP : va_P D vwCl [(mo, .inr (12, [.int 1, .ref (ma 1), .int 0, .int 0, .int 0, .int 0, .int 0, .int 0, .int (-1), .ref (ma 9), .ref (ma 10), .ref (ma 11), .ref (ma 12), .ref (ma 13), .ref (ma 14), .ref (ma 15), .int 0, .int 0, .int 0, .ref (ma 19), .ref (ma 20), .ref (ma 21), .int 0, .ref (ma 23), .ref (ma 24), .ref (ma 25), .ref (ma 26), .ref (ma 27), .ref (ma 28), .int 0, .int 0, .int 0, .int 0, .ref (ma 33), .int (-1), .ref (ma 35), .int 0, .int 0]))] H := hP
  have hD : va_D A [(mo, .inr (12, [.int 1, .ref (ma 1), .int 0, .int 0, .int 0, .int 0, .int 0, .int 0, .int (-1), .ref (ma 9), .ref (ma 10), .ref (ma 11), .ref (ma 12), .ref (ma 13), .ref (ma 14), .ref (ma 15), .int 0, .int 0, .int 0, .ref (ma 19), .ref (ma 20), .ref (ma 21), .int 0, .ref (ma 23), .ref (ma 24), .ref (ma 25), .ref (ma 26), .ref (ma 27), .ref (ma 28), .int 0, .int 0, .int 0, .int 0, .ref (ma 33), .int (-1), .ref (ma 35), .int 0, .int 0]))] := hD
  refine lv_if_eq (tgt := 41) hx hb dX12_car_11 (by decide) (fun _ => ?_) (fun c => absurd (by decide) c)
  refine lv_iconst (v := 0) hx hb dX12_car_41 (by decide) ?_
  refine W.widen (k := 0) (n := 0) (Nat.le_of_ble_eq_true rfl) (Nat.le_of_ble_eq_true rfl) ?_
  exact W.iret (v := 0) hx hb hr (fun t ht hW => ⟨⟨0, ((fun k => ([] : List Nat).getD k 0), (fun k => ([] : List Int32).getD k 0), (fun k => ([] : List (Nat → Int32)).getD k (fun _ => 0))), rfl, (by first | (exact (by rfl))), by rw [ht]; exact hP.sub [0] rfl, hD.sub [0] (by decide) rfl⟩, hS.F ht⟩) hS.2.2 dX12_car_42
def vs_m_look : List Cond := .code yX12_look cX12_look 8 (some .int) :: (([.fieldLink RX12 1 "KerbSplashModel" "thrown" "I"] : List Cond) ++ ((wsX120) ++ ((wsV RX12 324 RX12 yX12_isRain vs_c_isRain) ++ ([]))))
set_option maxHeartbeats 4000000 in
set_option maxRecDepth 100000 in
theorem m_look (l : Launch) (hl : l.stackTraces = false) (D : va_G) (cy : Nat → ClassId) (sa : Nat → Nat) (mo : Nat) (ma : Nat → Nat) (p0 p1 : Int32) (sz : Nat) : Met l yX12_look vs_m_look ({ frames := 2, cells := 0, slots := 0, locals := 45 }) (va_Pc [.ref mo, .int p0, .int p1] (pcW D cy sa sz [(mo, .inr (12, [.int 0, .ref (ma 1), .int 0, .int 0, .int 0, .int 0, .int 0, .int 0, .int (-1), .ref (ma 9), .ref (ma 10), .ref (ma 11), .ref (ma 12), .ref (ma 13), .ref (ma 14), .ref (ma 15), .int 0, .int 0, .int 0, .ref (ma 19), .ref (ma 20), .ref (ma 21), .int 0, .ref (ma 23), .ref (ma 24), .ref (ma 25), .ref (ma 26), .ref (ma 27), .ref (ma 28), .int 0, .int 0, .int 0, .int 0, .ref (ma 33), .int (-1), .ref (ma 35), .int 0, .int 0])), ((ma 1), .inl (cy 0, 4, .inl (fun _ => 0)))])) (va_Qi (fun (r : Int32) (u : SU) => (r = 0)) (fun u t => atW D (va_A [(mo, .inr (12, [.int 0, .ref (ma 1), .int 0, .int 0, .int 0, .int 0, .int 0, .int 0, .int (-1), .ref (ma 9), .ref (ma 10), .ref (ma 11), .ref (ma 12), .ref (ma 13), .ref (ma 14), .ref (ma 15), .int 0, .int 0, .int 0, .ref (ma 19), .ref (ma 20), .ref (ma 21), .int 0, .ref (ma 23), .ref (ma 24), .ref (ma 25), .ref (ma 26), .ref (ma 27), .ref (ma 28), .int 0, .int 0, .int 0, .int 0, .ref (ma 33), .int (-1), .ref (ma 35), .int 0, .int 0])), ((ma 1), .inl (cy 0, 4, .inl (fun _ => 0)))] sz) [(mo, .inr (12, [.int 1, .ref (ma 1), .int 0, .int 0, .int 0, .int 0, .int 0, .int 0, .int (-1), .ref (ma 9), .ref (ma 10), .ref (ma 11), .ref (ma 12), .ref (ma 13), .ref (ma 14), .ref (ma 15), .int 0, .int 0, .int 0, .ref (ma 19), .ref (ma 20), .ref (ma 21), .int 0, .ref (ma 23), .ref (ma 24), .ref (ma 25), .ref (ma 26), .ref (ma 27), .ref (ma 28), .int 0, .int 0, .int 0, .int 0, .ref (ma 33), .int (-1), .ref (ma 35), .int 0, .int 0]))] t) (va_A [(mo, .inr (12, [.int 0, .ref (ma 1), .int 0, .int 0, .int 0, .int 0, .int 0, .int 0, .int (-1), .ref (ma 9), .ref (ma 10), .ref (ma 11), .ref (ma 12), .ref (ma 13), .ref (ma 14), .ref (ma 15), .int 0, .int 0, .int 0, .ref (ma 19), .ref (ma 20), .ref (ma 21), .int 0, .ref (ma 23), .ref (ma 24), .ref (ma 25), .ref (ma 26), .ref (ma 27), .ref (ma 28), .int 0, .int 0, .int 0, .int 0, .ref (ma 33), .int (-1), .ref (ma 35), .int 0, .int 0])), ((ma 1), .inl (cy 0, 4, .inl (fun _ => 0)))] sz)) 0 0 (va_A [(mo, .inr (12, [.int 0, .ref (ma 1), .int 0, .int 0, .int 0, .int 0, .int 0, .int 0, .int (-1), .ref (ma 9), .ref (ma 10), .ref (ma 11), .ref (ma 12), .ref (ma 13), .ref (ma 14), .ref (ma 15), .int 0, .int 0, .int 0, .ref (ma 19), .ref (ma 20), .ref (ma 21), .int 0, .ref (ma 23), .ref (ma 24), .ref (ma 25), .ref (ma 26), .ref (ma 27), .ref (ma 28), .int 0, .int 0, .int 0, .int 0, .ref (ma 33), .int (-1), .ref (ma 35), .int 0, .int 0])), ((ma 1), .inl (cy 0, 4, .inl (fun _ => 0)))] sz) := by
  refine Met.ofW (cc := cX12_look) (maxL := 8) (ret := (some .int)) (by decide) rfl ?_
  intro p e s m args below meth c s₁ B hml hv
  obtain ⟨rfl, hsz, hP, hG, hD0, hT⟩ := hv
  have hx := B.exec
  have hb := B.bytes
  have hr := B.returns
  have hts := atoms_spec (ws := vs_m_look) B.pre
  have hown : s.vm.findClass RX12 = some m.cls := findClass_of_methodNamed B.named
  have hlocks := B.notSynchronized
  subst hsz
  have hD := hD0.self (sz := s.heap.size)
  generalize hAe : va_A [(mo, .inr (12, [.int 0, .ref (ma 1), .int 0, .int 0, .int 0, .int 0, .int 0, .int 0, .int (-1), .ref (ma 9), .ref (ma 10), .ref (ma 11), .ref (ma 12), .ref (ma 13), .ref (ma 14), .ref (ma 15), .int 0, .int 0, .int 0, .ref (ma 19), .ref (ma 20), .ref (ma 21), .int 0, .ref (ma 23), .ref (ma 24), .ref (ma 25), .ref (ma 26), .ref (ma 27), .ref (ma 28), .int 0, .int 0, .int 0, .int 0, .ref (ma 33), .int (-1), .ref (ma 35), .int 0, .int 0])), ((ma 1), .inl (cy 0, 4, .inl (fun _ => 0)))] s.heap.size = A at hD hT ⊢
  have hA : ∀ q : Nat, s.heap.size ≤ q → A q := fun q h => by rw [← hAe]; exact Or.inr h
  have hS : va_S A s.heap s.heap [] := va_S.rf
  have hl0 := lv_entry ([.ref mo, .int p0, .int p1]) (n := 8) (Nat.le_of_ble_eq_true rfl)
  rw [lg_entry_eq]
  generalize (lg_sl ([.ref mo, .int p0, .int p1]) ++ List.replicate (8 - (lg_sl ([.ref mo, .int p0, .int p1])).length) Slot.unset).toArray = ls at hl0 ⊢
  have hlv : lv_has ls 8 [(0, .ref mo), (1, .int p0), (2, .int p1)] := hl0
  have lf1 := hts (.fieldLink RX12 1 "KerbSplashModel" "thrown" "I") (List.mem_of_getElem? (i := 1) rfl)
  have hi12 : ∀ w ∈ wsX120, w ∈ vs_m_look := fun w h => List.mem_cons_of_mem _ (List.mem_append_right _ (List.mem_append_left _ h))
  have gg_1 : GoodIn vs_m_look (wsV RX12 324 RX12 yX12_isRain vs_c_isRain) := goodIn_sub (fun w h => List.mem_cons_of_mem _ (List.mem_append_right _ (List.mem_append_right _ (List.mem_append_left _ h)))) (by decide +kernel)
  refine lv_aload_n hx hb dX12_look_0 rfl (lv_at hlv 0 rfl) ?_
  refine lv_iconst (v := 0) hx hb dX12_look_1 (by decide) ?_
  refine va_put (D := D) (ci := 12) (v := .int 0) (ty := .int) (C := RX12) (T := TX12) (N := 38) hx hb hts hi12 tyX12 tyX12_ok nmX12 hown hG.1 hP hD hS 0 rfl rfl 0 (by decide) lf1 (fun _ h9 => h9) rfl (by decide +kernel) rfl rfl (Nat.le_of_ble_eq_true rfl) dX12_look_2 (fun H locs hP hD hS => ?_)
  have hP : va_P D vwCl [(mo, .inr (12, [.int 0, .ref (ma 1), .int 0, .int 0, .int 0, .int 0, .int 0, .int 0, .int (-1), .ref (ma 9), .ref (ma 10), .ref (ma 11), .ref (ma 12), .ref (ma 13), .ref (ma 14), .ref (ma 15), .int 0, .int 0, .int 0, .ref (ma 19), .ref (ma 20), .ref (ma 21), .int 0, .ref (ma 23), .ref (ma 24), .ref (ma 25), .ref (ma 26), .ref (ma 27), .ref (ma 28), .int 0, .int 0, .int 0, .int 0, .ref (ma 33), .int (-1), .ref (ma 35), .int 0, .int 0])), ((ma 1), .inl (cy 0, 4, .inl (fun _ => 0)))] H := hP
  have hD : va_D A [(mo, .inr (12, [.int 0, .ref (ma 1), .int 0, .int 0, .int 0, .int 0, .int 0, .int 0, .int (-1), .ref (ma 9), .ref (ma 10), .ref (ma 11), .ref (ma 12), .ref (ma 13), .ref (ma 14), .ref (ma 15), .int 0, .int 0, .int 0, .ref (ma 19), .ref (ma 20), .ref (ma 21), .int 0, .ref (ma 23), .ref (ma 24), .ref (ma 25), .ref (ma 26), .ref (ma 27), .ref (ma 28), .int 0, .int 0, .int 0, .int 0, .ref (ma 33), .int (-1), .ref (ma 35), .int 0, .int 0])), ((ma 1), .inl (cy 0, 4, .inl (fun _ => 0)))] := hD
  refine lv_aload_n hx hb dX12_look_5 rfl (lv_at hlv 0 rfl) ?_
  refine lv_iload_n hx hb dX12_look_6 rfl (lv_at hlv 1 rfl) ?_
  refine lv_iconst (v := 1) hx hb dX12_look_7 (by decide) ?_
  refine cj_i (wr := []) (va_runV (As := [.int p0, .int 1]) (rest := []) ⟨hx, hb, hml, hown, hts⟩ (c_isRain l hl D cy sa mo ma p0 1 H.size (by decide)) (cwV 2 hts gg_1 rfl rfl rfl (by decide +kernel) ⟨Nat.le_of_ble_eq_true rfl, Nat.le_of_ble_eq_true rfl⟩) ⟨pcW.blind, (va_recv hG.1 hP (ci := 12) (q0 := 0) rfl rfl), (pcW.mk hP hD hS hA hG hT [0, 1] rfl (by decide))⟩ rfl rfl hlv.1 rfl (lv_room (Nat.le_of_ble_eq_true rfl)) dX12_look_8 ⟨Nat.le_of_ble_eq_true rfl, Nat.le_of_ble_eq_true rfl⟩) hP hD hS hA [0, 1] [] rfl rfl (by decide) (by decide) (fun r1 u1 H locs hw1 hP hD hS => ?_)
  obtain rfl := hw1
  have hP : va_P D vwCl [(mo, .inr (12, [.int 1, .ref (ma 1), .int 0, .int 0, .int 0, .int 0, .int 0, .int 0, .int (-1), .ref (ma 9), .ref (ma 10), .ref (ma 11), .ref (ma 12), .ref (ma 13), .ref (ma 14), .ref (ma 15), .int 0, .int 0, .int 0, .ref (ma 19), .ref (ma 20), .ref (ma 21), .int 0, .ref (ma 23), .ref (ma 24), .ref (ma 25), .ref (ma 26), .ref (ma 27), .ref (ma 28), .int 0, .int 0, .int 0, .int 0, .ref (ma 33), .int (-1), .ref (ma 35), .int 0, .int 0]))] H := hP
  have hD : va_D A [(mo, .inr (12, [.int 1, .ref (ma 1), .int 0, .int 0, .int 0, .int 0, .int 0, .int 0, .int (-1), .ref (ma 9), .ref (ma 10), .ref (ma 11), .ref (ma 12), .ref (ma 13), .ref (ma 14), .ref (ma 15), .int 0, .int 0, .int 0, .ref (ma 19), .ref (ma 20), .ref (ma 21), .int 0, .ref (ma 23), .ref (ma 24), .ref (ma 25), .ref (ma 26), .ref (ma 27), .ref (ma 28), .int 0, .int 0, .int 0, .int 0, .ref (ma 33), .int (-1), .ref (ma 35), .int 0, .int 0]))] := hD
  refine lv_if_eq (tgt := 37) hx hb dX12_look_11 (by decide) (fun _ => ?_) (fun c => absurd (by decide) c)
  refine lv_iconst (v := 0) hx hb dX12_look_37 (by decide) ?_
  refine W.widen (k := 0) (n := 0) (Nat.le_of_ble_eq_true rfl) (Nat.le_of_ble_eq_true rfl) ?_
  exact W.iret (v := 0) hx hb hr (fun t ht hW => ⟨⟨0, ((fun k => ([] : List Nat).getD k 0), (fun k => ([] : List Int32).getD k 0), (fun k => ([] : List (Nat → Int32)).getD k (fun _ => 0))), rfl, (by first | (exact (by rfl))), by rw [ht]; exact hP.sub [0] rfl, hD.sub [0] (by decide) rfl⟩, hS.F ht⟩) hS.2.2 dX12_look_38
def vs_m_stand : List Cond := .code yX12_stand cX12_stand 10 (some .int) :: (([.fieldLink RX12 1 "KerbSplashModel" "thrown" "I"] : List Cond) ++ ((wsX120) ++ ((wsV RX12 334 RX12 yX12_isLaw vs_c_isLaw) ++ ([]))))
set_option maxHeartbeats 4000000 in
set_option maxRecDepth 100000 in
theorem m_stand (l : Launch) (hl : l.stackTraces = false) (D : va_G) (cy : Nat → ClassId) (sa : Nat → Nat) (mo : Nat) (ma : Nat → Nat) (p0 p1 p2 : Int32) (sz : Nat) : Met l yX12_stand vs_m_stand ({ frames := 2, cells := 0, slots := 0, locals := 45 }) (va_Pc [.ref mo, .int p0, .int p1, .int p2] (pcW D cy sa sz [(mo, .inr (12, [.int 0, .ref (ma 1), .int 0, .int 0, .int 0, .int 0, .int 0, .int 0, .int (-1), .ref (ma 9), .ref (ma 10), .ref (ma 11), .ref (ma 12), .ref (ma 13), .ref (ma 14), .ref (ma 15), .int 0, .int 0, .int 0, .ref (ma 19), .ref (ma 20), .ref (ma 21), .int 0, .ref (ma 23), .ref (ma 24), .ref (ma 25), .ref (ma 26), .ref (ma 27), .ref (ma 28), .int 0, .int 0, .int 0, .int 0, .ref (ma 33), .int (-1), .ref (ma 35), .int 0, .int 0])), ((ma 1), .inl (cy 0, 4, .inl (fun _ => 0)))])) (va_Qi (fun (r : Int32) (u : SU) => (r = 0)) (fun u t => atW D (va_A [(mo, .inr (12, [.int 0, .ref (ma 1), .int 0, .int 0, .int 0, .int 0, .int 0, .int 0, .int (-1), .ref (ma 9), .ref (ma 10), .ref (ma 11), .ref (ma 12), .ref (ma 13), .ref (ma 14), .ref (ma 15), .int 0, .int 0, .int 0, .ref (ma 19), .ref (ma 20), .ref (ma 21), .int 0, .ref (ma 23), .ref (ma 24), .ref (ma 25), .ref (ma 26), .ref (ma 27), .ref (ma 28), .int 0, .int 0, .int 0, .int 0, .ref (ma 33), .int (-1), .ref (ma 35), .int 0, .int 0])), ((ma 1), .inl (cy 0, 4, .inl (fun _ => 0)))] sz) [(mo, .inr (12, [.int 1, .ref (ma 1), .int 0, .int 0, .int 0, .int 0, .int 0, .int 0, .int (-1), .ref (ma 9), .ref (ma 10), .ref (ma 11), .ref (ma 12), .ref (ma 13), .ref (ma 14), .ref (ma 15), .int 0, .int 0, .int 0, .ref (ma 19), .ref (ma 20), .ref (ma 21), .int 0, .ref (ma 23), .ref (ma 24), .ref (ma 25), .ref (ma 26), .ref (ma 27), .ref (ma 28), .int 0, .int 0, .int 0, .int 0, .ref (ma 33), .int (-1), .ref (ma 35), .int 0, .int 0]))] t) (va_A [(mo, .inr (12, [.int 0, .ref (ma 1), .int 0, .int 0, .int 0, .int 0, .int 0, .int 0, .int (-1), .ref (ma 9), .ref (ma 10), .ref (ma 11), .ref (ma 12), .ref (ma 13), .ref (ma 14), .ref (ma 15), .int 0, .int 0, .int 0, .ref (ma 19), .ref (ma 20), .ref (ma 21), .int 0, .ref (ma 23), .ref (ma 24), .ref (ma 25), .ref (ma 26), .ref (ma 27), .ref (ma 28), .int 0, .int 0, .int 0, .int 0, .ref (ma 33), .int (-1), .ref (ma 35), .int 0, .int 0])), ((ma 1), .inl (cy 0, 4, .inl (fun _ => 0)))] sz)) 0 0 (va_A [(mo, .inr (12, [.int 0, .ref (ma 1), .int 0, .int 0, .int 0, .int 0, .int 0, .int 0, .int (-1), .ref (ma 9), .ref (ma 10), .ref (ma 11), .ref (ma 12), .ref (ma 13), .ref (ma 14), .ref (ma 15), .int 0, .int 0, .int 0, .ref (ma 19), .ref (ma 20), .ref (ma 21), .int 0, .ref (ma 23), .ref (ma 24), .ref (ma 25), .ref (ma 26), .ref (ma 27), .ref (ma 28), .int 0, .int 0, .int 0, .int 0, .ref (ma 33), .int (-1), .ref (ma 35), .int 0, .int 0])), ((ma 1), .inl (cy 0, 4, .inl (fun _ => 0)))] sz) := by
  refine Met.ofW (cc := cX12_stand) (maxL := 10) (ret := (some .int)) (by decide) rfl ?_
  intro p e s m args below meth c s₁ B hml hv
  obtain ⟨rfl, hsz, hP, hG, hD0, hT⟩ := hv
  have hx := B.exec
  have hb := B.bytes
  have hr := B.returns
  have hts := atoms_spec (ws := vs_m_stand) B.pre
  have hown : s.vm.findClass RX12 = some m.cls := findClass_of_methodNamed B.named
  have hlocks := B.notSynchronized
  subst hsz
  have hD := hD0.self (sz := s.heap.size)
  generalize hAe : va_A [(mo, .inr (12, [.int 0, .ref (ma 1), .int 0, .int 0, .int 0, .int 0, .int 0, .int 0, .int (-1), .ref (ma 9), .ref (ma 10), .ref (ma 11), .ref (ma 12), .ref (ma 13), .ref (ma 14), .ref (ma 15), .int 0, .int 0, .int 0, .ref (ma 19), .ref (ma 20), .ref (ma 21), .int 0, .ref (ma 23), .ref (ma 24), .ref (ma 25), .ref (ma 26), .ref (ma 27), .ref (ma 28), .int 0, .int 0, .int 0, .int 0, .ref (ma 33), .int (-1), .ref (ma 35), .int 0, .int 0])), ((ma 1), .inl (cy 0, 4, .inl (fun _ => 0)))] s.heap.size = A at hD hT ⊢
  have hA : ∀ q : Nat, s.heap.size ≤ q → A q := fun q h => by rw [← hAe]; exact Or.inr h
  have hS : va_S A s.heap s.heap [] := va_S.rf
  have hl0 := lv_entry ([.ref mo, .int p0, .int p1, .int p2]) (n := 10) (Nat.le_of_ble_eq_true rfl)
  rw [lg_entry_eq]
  generalize (lg_sl ([.ref mo, .int p0, .int p1, .int p2]) ++ List.replicate (10 - (lg_sl ([.ref mo, .int p0, .int p1, .int p2])).length) Slot.unset).toArray = ls at hl0 ⊢
  have hlv : lv_has ls 10 [(0, .ref mo), (1, .int p0), (2, .int p1), (3, .int p2)] := hl0
  have lf1 := hts (.fieldLink RX12 1 "KerbSplashModel" "thrown" "I") (List.mem_of_getElem? (i := 1) rfl)
  have hi12 : ∀ w ∈ wsX120, w ∈ vs_m_stand := fun w h => List.mem_cons_of_mem _ (List.mem_append_right _ (List.mem_append_left _ h))
  have gg_1 : GoodIn vs_m_stand (wsV RX12 334 RX12 yX12_isLaw vs_c_isLaw) := goodIn_sub (fun w h => List.mem_cons_of_mem _ (List.mem_append_right _ (List.mem_append_right _ (List.mem_append_left _ h)))) (by decide +kernel)
  refine lv_aload_n hx hb dX12_stand_0 rfl (lv_at hlv 0 rfl) ?_
  refine lv_iconst (v := 0) hx hb dX12_stand_1 (by decide) ?_
  refine va_put (D := D) (ci := 12) (v := .int 0) (ty := .int) (C := RX12) (T := TX12) (N := 38) hx hb hts hi12 tyX12 tyX12_ok nmX12 hown hG.1 hP hD hS 0 rfl rfl 0 (by decide) lf1 (fun _ h9 => h9) rfl (by decide +kernel) rfl rfl (Nat.le_of_ble_eq_true rfl) dX12_stand_2 (fun H locs hP hD hS => ?_)
  have hP : va_P D vwCl [(mo, .inr (12, [.int 0, .ref (ma 1), .int 0, .int 0, .int 0, .int 0, .int 0, .int 0, .int (-1), .ref (ma 9), .ref (ma 10), .ref (ma 11), .ref (ma 12), .ref (ma 13), .ref (ma 14), .ref (ma 15), .int 0, .int 0, .int 0, .ref (ma 19), .ref (ma 20), .ref (ma 21), .int 0, .ref (ma 23), .ref (ma 24), .ref (ma 25), .ref (ma 26), .ref (ma 27), .ref (ma 28), .int 0, .int 0, .int 0, .int 0, .ref (ma 33), .int (-1), .ref (ma 35), .int 0, .int 0])), ((ma 1), .inl (cy 0, 4, .inl (fun _ => 0)))] H := hP
  have hD : va_D A [(mo, .inr (12, [.int 0, .ref (ma 1), .int 0, .int 0, .int 0, .int 0, .int 0, .int 0, .int (-1), .ref (ma 9), .ref (ma 10), .ref (ma 11), .ref (ma 12), .ref (ma 13), .ref (ma 14), .ref (ma 15), .int 0, .int 0, .int 0, .ref (ma 19), .ref (ma 20), .ref (ma 21), .int 0, .ref (ma 23), .ref (ma 24), .ref (ma 25), .ref (ma 26), .ref (ma 27), .ref (ma 28), .int 0, .int 0, .int 0, .int 0, .ref (ma 33), .int (-1), .ref (ma 35), .int 0, .int 0])), ((ma 1), .inl (cy 0, 4, .inl (fun _ => 0)))] := hD
  refine lv_aload_n hx hb dX12_stand_5 rfl (lv_at hlv 0 rfl) ?_
  refine lv_iload_n hx hb dX12_stand_6 rfl (lv_at hlv 1 rfl) ?_
  refine lv_iconst (v := 1) hx hb dX12_stand_7 (by decide) ?_
  refine cj_i (wr := []) (va_runV (As := [.int p0, .int 1]) (rest := []) ⟨hx, hb, hml, hown, hts⟩ (c_isLaw l hl D cy sa mo ma p0 1 H.size (by decide)) (cwV 2 hts gg_1 rfl rfl rfl (by decide +kernel) ⟨Nat.le_of_ble_eq_true rfl, Nat.le_of_ble_eq_true rfl⟩) ⟨pcW.blind, (va_recv hG.1 hP (ci := 12) (q0 := 0) rfl rfl), (pcW.mk hP hD hS hA hG hT [0, 1] rfl (by decide))⟩ rfl rfl hlv.1 rfl (lv_room (Nat.le_of_ble_eq_true rfl)) dX12_stand_8 ⟨Nat.le_of_ble_eq_true rfl, Nat.le_of_ble_eq_true rfl⟩) hP hD hS hA [0, 1] [] rfl rfl (by decide) (by decide) (fun r1 u1 H locs hw1 hP hD hS => ?_)
  obtain rfl := hw1
  have hP : va_P D vwCl [(mo, .inr (12, [.int 1, .ref (ma 1), .int 0, .int 0, .int 0, .int 0, .int 0, .int 0, .int (-1), .ref (ma 9), .ref (ma 10), .ref (ma 11), .ref (ma 12), .ref (ma 13), .ref (ma 14), .ref (ma 15), .int 0, .int 0, .int 0, .ref (ma 19), .ref (ma 20), .ref (ma 21), .int 0, .ref (ma 23), .ref (ma 24), .ref (ma 25), .ref (ma 26), .ref (ma 27), .ref (ma 28), .int 0, .int 0, .int 0, .int 0, .ref (ma 33), .int (-1), .ref (ma 35), .int 0, .int 0]))] H := hP
  have hD : va_D A [(mo, .inr (12, [.int 1, .ref (ma 1), .int 0, .int 0, .int 0, .int 0, .int 0, .int 0, .int (-1), .ref (ma 9), .ref (ma 10), .ref (ma 11), .ref (ma 12), .ref (ma 13), .ref (ma 14), .ref (ma 15), .int 0, .int 0, .int 0, .ref (ma 19), .ref (ma 20), .ref (ma 21), .int 0, .ref (ma 23), .ref (ma 24), .ref (ma 25), .ref (ma 26), .ref (ma 27), .ref (ma 28), .int 0, .int 0, .int 0, .int 0, .ref (ma 33), .int (-1), .ref (ma 35), .int 0, .int 0]))] := hD
  refine lv_if_eq (tgt := 55) hx hb dX12_stand_11 (by decide) (fun _ => ?_) (fun c => absurd (by decide) c)
  refine lv_iconst (v := 0) hx hb dX12_stand_55 (by decide) ?_
  refine W.widen (k := 0) (n := 0) (Nat.le_of_ble_eq_true rfl) (Nat.le_of_ble_eq_true rfl) ?_
  exact W.iret (v := 0) hx hb hr (fun t ht hW => ⟨⟨0, ((fun k => ([] : List Nat).getD k 0), (fun k => ([] : List Int32).getD k 0), (fun k => ([] : List (Nat → Int32)).getD k (fun _ => 0))), rfl, (by first | (exact (by rfl))), by rw [ht]; exact hP.sub [0] rfl, hD.sub [0] (by decide) rfl⟩, hS.F ht⟩) hS.2.2 dX12_stand_56
def vs_m_pace : List Cond := .code yX12_pace cX12_pace 7 (some .int) :: (([.fieldLink RX12 1 "KerbSplashModel" "thrown" "I"] : List Cond) ++ ((wsX120) ++ ((wsV RX12 334 RX12 yX12_isLaw vs_c_isLaw) ++ ([]))))
set_option maxHeartbeats 4000000 in
set_option maxRecDepth 100000 in
theorem m_pace (l : Launch) (hl : l.stackTraces = false) (D : va_G) (cy : Nat → ClassId) (sa : Nat → Nat) (mo : Nat) (ma : Nat → Nat) (p0 p1 p2 p3 : Int32) (sz : Nat) : Met l yX12_pace vs_m_pace ({ frames := 2, cells := 0, slots := 0, locals := 45 }) (va_Pc [.ref mo, .int p0, .int p1, .int p2, .int p3] (pcW D cy sa sz [(mo, .inr (12, [.int 0, .ref (ma 1), .int 0, .int 0, .int 0, .int 0, .int 0, .int 0, .int (-1), .ref (ma 9), .ref (ma 10), .ref (ma 11), .ref (ma 12), .ref (ma 13), .ref (ma 14), .ref (ma 15), .int 0, .int 0, .int 0, .ref (ma 19), .ref (ma 20), .ref (ma 21), .int 0, .ref (ma 23), .ref (ma 24), .ref (ma 25), .ref (ma 26), .ref (ma 27), .ref (ma 28), .int 0, .int 0, .int 0, .int 0, .ref (ma 33), .int (-1), .ref (ma 35), .int 0, .int 0])), ((ma 1), .inl (cy 0, 4, .inl (fun _ => 0)))])) (va_Qi (fun (r : Int32) (u : SU) => (r = 0)) (fun u t => atW D (va_A [(mo, .inr (12, [.int 0, .ref (ma 1), .int 0, .int 0, .int 0, .int 0, .int 0, .int 0, .int (-1), .ref (ma 9), .ref (ma 10), .ref (ma 11), .ref (ma 12), .ref (ma 13), .ref (ma 14), .ref (ma 15), .int 0, .int 0, .int 0, .ref (ma 19), .ref (ma 20), .ref (ma 21), .int 0, .ref (ma 23), .ref (ma 24), .ref (ma 25), .ref (ma 26), .ref (ma 27), .ref (ma 28), .int 0, .int 0, .int 0, .int 0, .ref (ma 33), .int (-1), .ref (ma 35), .int 0, .int 0])), ((ma 1), .inl (cy 0, 4, .inl (fun _ => 0)))] sz) [(mo, .inr (12, [.int 1, .ref (ma 1), .int 0, .int 0, .int 0, .int 0, .int 0, .int 0, .int (-1), .ref (ma 9), .ref (ma 10), .ref (ma 11), .ref (ma 12), .ref (ma 13), .ref (ma 14), .ref (ma 15), .int 0, .int 0, .int 0, .ref (ma 19), .ref (ma 20), .ref (ma 21), .int 0, .ref (ma 23), .ref (ma 24), .ref (ma 25), .ref (ma 26), .ref (ma 27), .ref (ma 28), .int 0, .int 0, .int 0, .int 0, .ref (ma 33), .int (-1), .ref (ma 35), .int 0, .int 0]))] t) (va_A [(mo, .inr (12, [.int 0, .ref (ma 1), .int 0, .int 0, .int 0, .int 0, .int 0, .int 0, .int (-1), .ref (ma 9), .ref (ma 10), .ref (ma 11), .ref (ma 12), .ref (ma 13), .ref (ma 14), .ref (ma 15), .int 0, .int 0, .int 0, .ref (ma 19), .ref (ma 20), .ref (ma 21), .int 0, .ref (ma 23), .ref (ma 24), .ref (ma 25), .ref (ma 26), .ref (ma 27), .ref (ma 28), .int 0, .int 0, .int 0, .int 0, .ref (ma 33), .int (-1), .ref (ma 35), .int 0, .int 0])), ((ma 1), .inl (cy 0, 4, .inl (fun _ => 0)))] sz)) 0 0 (va_A [(mo, .inr (12, [.int 0, .ref (ma 1), .int 0, .int 0, .int 0, .int 0, .int 0, .int 0, .int (-1), .ref (ma 9), .ref (ma 10), .ref (ma 11), .ref (ma 12), .ref (ma 13), .ref (ma 14), .ref (ma 15), .int 0, .int 0, .int 0, .ref (ma 19), .ref (ma 20), .ref (ma 21), .int 0, .ref (ma 23), .ref (ma 24), .ref (ma 25), .ref (ma 26), .ref (ma 27), .ref (ma 28), .int 0, .int 0, .int 0, .int 0, .ref (ma 33), .int (-1), .ref (ma 35), .int 0, .int 0])), ((ma 1), .inl (cy 0, 4, .inl (fun _ => 0)))] sz) := by
  refine Met.ofW (cc := cX12_pace) (maxL := 7) (ret := (some .int)) (by decide) rfl ?_
  intro p e s m args below meth c s₁ B hml hv
  obtain ⟨rfl, hsz, hP, hG, hD0, hT⟩ := hv
  have hx := B.exec
  have hb := B.bytes
  have hr := B.returns
  have hts := atoms_spec (ws := vs_m_pace) B.pre
  have hown : s.vm.findClass RX12 = some m.cls := findClass_of_methodNamed B.named
  have hlocks := B.notSynchronized
  subst hsz
  have hD := hD0.self (sz := s.heap.size)
  generalize hAe : va_A [(mo, .inr (12, [.int 0, .ref (ma 1), .int 0, .int 0, .int 0, .int 0, .int 0, .int 0, .int (-1), .ref (ma 9), .ref (ma 10), .ref (ma 11), .ref (ma 12), .ref (ma 13), .ref (ma 14), .ref (ma 15), .int 0, .int 0, .int 0, .ref (ma 19), .ref (ma 20), .ref (ma 21), .int 0, .ref (ma 23), .ref (ma 24), .ref (ma 25), .ref (ma 26), .ref (ma 27), .ref (ma 28), .int 0, .int 0, .int 0, .int 0, .ref (ma 33), .int (-1), .ref (ma 35), .int 0, .int 0])), ((ma 1), .inl (cy 0, 4, .inl (fun _ => 0)))] s.heap.size = A at hD hT ⊢
  have hA : ∀ q : Nat, s.heap.size ≤ q → A q := fun q h => by rw [← hAe]; exact Or.inr h
  have hS : va_S A s.heap s.heap [] := va_S.rf
  have hl0 := lv_entry ([.ref mo, .int p0, .int p1, .int p2, .int p3]) (n := 7) (Nat.le_of_ble_eq_true rfl)
  rw [lg_entry_eq]
  generalize (lg_sl ([.ref mo, .int p0, .int p1, .int p2, .int p3]) ++ List.replicate (7 - (lg_sl ([.ref mo, .int p0, .int p1, .int p2, .int p3])).length) Slot.unset).toArray = ls at hl0 ⊢
  have hlv : lv_has ls 7 [(0, .ref mo), (1, .int p0), (2, .int p1), (3, .int p2), (4, .int p3)] := hl0
  have lf1 := hts (.fieldLink RX12 1 "KerbSplashModel" "thrown" "I") (List.mem_of_getElem? (i := 1) rfl)
  have hi12 : ∀ w ∈ wsX120, w ∈ vs_m_pace := fun w h => List.mem_cons_of_mem _ (List.mem_append_right _ (List.mem_append_left _ h))
  have gg_1 : GoodIn vs_m_pace (wsV RX12 334 RX12 yX12_isLaw vs_c_isLaw) := goodIn_sub (fun w h => List.mem_cons_of_mem _ (List.mem_append_right _ (List.mem_append_right _ (List.mem_append_left _ h)))) (by decide +kernel)
  refine lv_aload_n hx hb dX12_pace_0 rfl (lv_at hlv 0 rfl) ?_
  refine lv_iconst (v := 0) hx hb dX12_pace_1 (by decide) ?_
  refine va_put (D := D) (ci := 12) (v := .int 0) (ty := .int) (C := RX12) (T := TX12) (N := 38) hx hb hts hi12 tyX12 tyX12_ok nmX12 hown hG.1 hP hD hS 0 rfl rfl 0 (by decide) lf1 (fun _ h9 => h9) rfl (by decide +kernel) rfl rfl (Nat.le_of_ble_eq_true rfl) dX12_pace_2 (fun H locs hP hD hS => ?_)
  have hP : va_P D vwCl [(mo, .inr (12, [.int 0, .ref (ma 1), .int 0, .int 0, .int 0, .int 0, .int 0, .int 0, .int (-1), .ref (ma 9), .ref (ma 10), .ref (ma 11), .ref (ma 12), .ref (ma 13), .ref (ma 14), .ref (ma 15), .int 0, .int 0, .int 0, .ref (ma 19), .ref (ma 20), .ref (ma 21), .int 0, .ref (ma 23), .ref (ma 24), .ref (ma 25), .ref (ma 26), .ref (ma 27), .ref (ma 28), .int 0, .int 0, .int 0, .int 0, .ref (ma 33), .int (-1), .ref (ma 35), .int 0, .int 0])), ((ma 1), .inl (cy 0, 4, .inl (fun _ => 0)))] H := hP
  have hD : va_D A [(mo, .inr (12, [.int 0, .ref (ma 1), .int 0, .int 0, .int 0, .int 0, .int 0, .int 0, .int (-1), .ref (ma 9), .ref (ma 10), .ref (ma 11), .ref (ma 12), .ref (ma 13), .ref (ma 14), .ref (ma 15), .int 0, .int 0, .int 0, .ref (ma 19), .ref (ma 20), .ref (ma 21), .int 0, .ref (ma 23), .ref (ma 24), .ref (ma 25), .ref (ma 26), .ref (ma 27), .ref (ma 28), .int 0, .int 0, .int 0, .int 0, .ref (ma 33), .int (-1), .ref (ma 35), .int 0, .int 0])), ((ma 1), .inl (cy 0, 4, .inl (fun _ => 0)))] := hD
  refine lv_aload_n hx hb dX12_pace_5 rfl (lv_at hlv 0 rfl) ?_
  refine lv_iload_n hx hb dX12_pace_6 rfl (lv_at hlv 1 rfl) ?_
  refine lv_iconst (v := 1) hx hb dX12_pace_7 (by decide) ?_
  refine cj_i (wr := []) (va_runV (As := [.int p0, .int 1]) (rest := []) ⟨hx, hb, hml, hown, hts⟩ (c_isLaw l hl D cy sa mo ma p0 1 H.size (by decide)) (cwV 2 hts gg_1 rfl rfl rfl (by decide +kernel) ⟨Nat.le_of_ble_eq_true rfl, Nat.le_of_ble_eq_true rfl⟩) ⟨pcW.blind, (va_recv hG.1 hP (ci := 12) (q0 := 0) rfl rfl), (pcW.mk hP hD hS hA hG hT [0, 1] rfl (by decide))⟩ rfl rfl hlv.1 rfl (lv_room (Nat.le_of_ble_eq_true rfl)) dX12_pace_8 ⟨Nat.le_of_ble_eq_true rfl, Nat.le_of_ble_eq_true rfl⟩) hP hD hS hA [0, 1] [] rfl rfl (by decide) (by decide) (fun r1 u1 H locs hw1 hP hD hS => ?_)
  obtain rfl := hw1
  have hP : va_P D vwCl [(mo, .inr (12, [.int 1, .ref (ma 1), .int 0, .int 0, .int 0, .int 0, .int 0, .int 0, .int (-1), .ref (ma 9), .ref (ma 10), .ref (ma 11), .ref (ma 12), .ref (ma 13), .ref (ma 14), .ref (ma 15), .int 0, .int 0, .int 0, .ref (ma 19), .ref (ma 20), .ref (ma 21), .int 0, .ref (ma 23), .ref (ma 24), .ref (ma 25), .ref (ma 26), .ref (ma 27), .ref (ma 28), .int 0, .int 0, .int 0, .int 0, .ref (ma 33), .int (-1), .ref (ma 35), .int 0, .int 0]))] H := hP
  have hD : va_D A [(mo, .inr (12, [.int 1, .ref (ma 1), .int 0, .int 0, .int 0, .int 0, .int 0, .int 0, .int (-1), .ref (ma 9), .ref (ma 10), .ref (ma 11), .ref (ma 12), .ref (ma 13), .ref (ma 14), .ref (ma 15), .int 0, .int 0, .int 0, .ref (ma 19), .ref (ma 20), .ref (ma 21), .int 0, .ref (ma 23), .ref (ma 24), .ref (ma 25), .ref (ma 26), .ref (ma 27), .ref (ma 28), .int 0, .int 0, .int 0, .int 0, .ref (ma 33), .int (-1), .ref (ma 35), .int 0, .int 0]))] := hD
  refine lv_if_eq (tgt := 59) hx hb dX12_pace_11 (by decide) (fun _ => ?_) (fun c => absurd (by decide) c)
  refine lv_iconst (v := 0) hx hb dX12_pace_59 (by decide) ?_
  refine W.widen (k := 0) (n := 0) (Nat.le_of_ble_eq_true rfl) (Nat.le_of_ble_eq_true rfl) ?_
  exact W.iret (v := 0) hx hb hr (fun t ht hW => ⟨⟨0, ((fun k => ([] : List Nat).getD k 0), (fun k => ([] : List Int32).getD k 0), (fun k => ([] : List (Nat → Int32)).getD k (fun _ => 0))), rfl, (by first | (exact (by rfl))), by rw [ht]; exact hP.sub [0] rfl, hD.sub [0] (by decide) rfl⟩, hS.F ht⟩) hS.2.2 dX12_pace_60
def vs_m_moved : List Cond := .code yX12_moved cX12_moved 7 (some .int) :: (([.fieldLink RX12 1 "KerbSplashModel" "thrown" "I"] : List Cond) ++ ((wsX120) ++ ((wsV RX12 334 RX12 yX12_isLaw vs_c_isLaw) ++ ([]))))
set_option maxHeartbeats 4000000 in
set_option maxRecDepth 100000 in
theorem m_moved (l : Launch) (hl : l.stackTraces = false) (D : va_G) (cy : Nat → ClassId) (sa : Nat → Nat) (mo : Nat) (ma : Nat → Nat) (p0 p1 : Int32) (sz : Nat) : Met l yX12_moved vs_m_moved ({ frames := 2, cells := 0, slots := 0, locals := 45 }) (va_Pc [.ref mo, .int p0, .int p1] (pcW D cy sa sz [(mo, .inr (12, [.int 0, .ref (ma 1), .int 0, .int 0, .int 0, .int 0, .int 0, .int 0, .int (-1), .ref (ma 9), .ref (ma 10), .ref (ma 11), .ref (ma 12), .ref (ma 13), .ref (ma 14), .ref (ma 15), .int 0, .int 0, .int 0, .ref (ma 19), .ref (ma 20), .ref (ma 21), .int 0, .ref (ma 23), .ref (ma 24), .ref (ma 25), .ref (ma 26), .ref (ma 27), .ref (ma 28), .int 0, .int 0, .int 0, .int 0, .ref (ma 33), .int (-1), .ref (ma 35), .int 0, .int 0])), ((ma 1), .inl (cy 0, 4, .inl (fun _ => 0)))])) (va_Qi (fun (r : Int32) (u : SU) => (r = 0)) (fun u t => atW D (va_A [(mo, .inr (12, [.int 0, .ref (ma 1), .int 0, .int 0, .int 0, .int 0, .int 0, .int 0, .int (-1), .ref (ma 9), .ref (ma 10), .ref (ma 11), .ref (ma 12), .ref (ma 13), .ref (ma 14), .ref (ma 15), .int 0, .int 0, .int 0, .ref (ma 19), .ref (ma 20), .ref (ma 21), .int 0, .ref (ma 23), .ref (ma 24), .ref (ma 25), .ref (ma 26), .ref (ma 27), .ref (ma 28), .int 0, .int 0, .int 0, .int 0, .ref (ma 33), .int (-1), .ref (ma 35), .int 0, .int 0])), ((ma 1), .inl (cy 0, 4, .inl (fun _ => 0)))] sz) [(mo, .inr (12, [.int 1, .ref (ma 1), .int 0, .int 0, .int 0, .int 0, .int 0, .int 0, .int (-1), .ref (ma 9), .ref (ma 10), .ref (ma 11), .ref (ma 12), .ref (ma 13), .ref (ma 14), .ref (ma 15), .int 0, .int 0, .int 0, .ref (ma 19), .ref (ma 20), .ref (ma 21), .int 0, .ref (ma 23), .ref (ma 24), .ref (ma 25), .ref (ma 26), .ref (ma 27), .ref (ma 28), .int 0, .int 0, .int 0, .int 0, .ref (ma 33), .int (-1), .ref (ma 35), .int 0, .int 0]))] t) (va_A [(mo, .inr (12, [.int 0, .ref (ma 1), .int 0, .int 0, .int 0, .int 0, .int 0, .int 0, .int (-1), .ref (ma 9), .ref (ma 10), .ref (ma 11), .ref (ma 12), .ref (ma 13), .ref (ma 14), .ref (ma 15), .int 0, .int 0, .int 0, .ref (ma 19), .ref (ma 20), .ref (ma 21), .int 0, .ref (ma 23), .ref (ma 24), .ref (ma 25), .ref (ma 26), .ref (ma 27), .ref (ma 28), .int 0, .int 0, .int 0, .int 0, .ref (ma 33), .int (-1), .ref (ma 35), .int 0, .int 0])), ((ma 1), .inl (cy 0, 4, .inl (fun _ => 0)))] sz)) 0 0 (va_A [(mo, .inr (12, [.int 0, .ref (ma 1), .int 0, .int 0, .int 0, .int 0, .int 0, .int 0, .int (-1), .ref (ma 9), .ref (ma 10), .ref (ma 11), .ref (ma 12), .ref (ma 13), .ref (ma 14), .ref (ma 15), .int 0, .int 0, .int 0, .ref (ma 19), .ref (ma 20), .ref (ma 21), .int 0, .ref (ma 23), .ref (ma 24), .ref (ma 25), .ref (ma 26), .ref (ma 27), .ref (ma 28), .int 0, .int 0, .int 0, .int 0, .ref (ma 33), .int (-1), .ref (ma 35), .int 0, .int 0])), ((ma 1), .inl (cy 0, 4, .inl (fun _ => 0)))] sz) := by
  refine Met.ofW (cc := cX12_moved) (maxL := 7) (ret := (some .int)) (by decide) rfl ?_
  intro p e s m args below meth c s₁ B hml hv
  obtain ⟨rfl, hsz, hP, hG, hD0, hT⟩ := hv
  have hx := B.exec
  have hb := B.bytes
  have hr := B.returns
  have hts := atoms_spec (ws := vs_m_moved) B.pre
  have hown : s.vm.findClass RX12 = some m.cls := findClass_of_methodNamed B.named
  have hlocks := B.notSynchronized
  subst hsz
  have hD := hD0.self (sz := s.heap.size)
  generalize hAe : va_A [(mo, .inr (12, [.int 0, .ref (ma 1), .int 0, .int 0, .int 0, .int 0, .int 0, .int 0, .int (-1), .ref (ma 9), .ref (ma 10), .ref (ma 11), .ref (ma 12), .ref (ma 13), .ref (ma 14), .ref (ma 15), .int 0, .int 0, .int 0, .ref (ma 19), .ref (ma 20), .ref (ma 21), .int 0, .ref (ma 23), .ref (ma 24), .ref (ma 25), .ref (ma 26), .ref (ma 27), .ref (ma 28), .int 0, .int 0, .int 0, .int 0, .ref (ma 33), .int (-1), .ref (ma 35), .int 0, .int 0])), ((ma 1), .inl (cy 0, 4, .inl (fun _ => 0)))] s.heap.size = A at hD hT ⊢
  have hA : ∀ q : Nat, s.heap.size ≤ q → A q := fun q h => by rw [← hAe]; exact Or.inr h
  have hS : va_S A s.heap s.heap [] := va_S.rf
  have hl0 := lv_entry ([.ref mo, .int p0, .int p1]) (n := 7) (Nat.le_of_ble_eq_true rfl)
  rw [lg_entry_eq]
  generalize (lg_sl ([.ref mo, .int p0, .int p1]) ++ List.replicate (7 - (lg_sl ([.ref mo, .int p0, .int p1])).length) Slot.unset).toArray = ls at hl0 ⊢
  have hlv : lv_has ls 7 [(0, .ref mo), (1, .int p0), (2, .int p1)] := hl0
  have lf1 := hts (.fieldLink RX12 1 "KerbSplashModel" "thrown" "I") (List.mem_of_getElem? (i := 1) rfl)
  have hi12 : ∀ w ∈ wsX120, w ∈ vs_m_moved := fun w h => List.mem_cons_of_mem _ (List.mem_append_right _ (List.mem_append_left _ h))
  have gg_1 : GoodIn vs_m_moved (wsV RX12 334 RX12 yX12_isLaw vs_c_isLaw) := goodIn_sub (fun w h => List.mem_cons_of_mem _ (List.mem_append_right _ (List.mem_append_right _ (List.mem_append_left _ h)))) (by decide +kernel)
  refine lv_aload_n hx hb dX12_moved_0 rfl (lv_at hlv 0 rfl) ?_
  refine lv_iconst (v := 0) hx hb dX12_moved_1 (by decide) ?_
  refine va_put (D := D) (ci := 12) (v := .int 0) (ty := .int) (C := RX12) (T := TX12) (N := 38) hx hb hts hi12 tyX12 tyX12_ok nmX12 hown hG.1 hP hD hS 0 rfl rfl 0 (by decide) lf1 (fun _ h9 => h9) rfl (by decide +kernel) rfl rfl (Nat.le_of_ble_eq_true rfl) dX12_moved_2 (fun H locs hP hD hS => ?_)
  have hP : va_P D vwCl [(mo, .inr (12, [.int 0, .ref (ma 1), .int 0, .int 0, .int 0, .int 0, .int 0, .int 0, .int (-1), .ref (ma 9), .ref (ma 10), .ref (ma 11), .ref (ma 12), .ref (ma 13), .ref (ma 14), .ref (ma 15), .int 0, .int 0, .int 0, .ref (ma 19), .ref (ma 20), .ref (ma 21), .int 0, .ref (ma 23), .ref (ma 24), .ref (ma 25), .ref (ma 26), .ref (ma 27), .ref (ma 28), .int 0, .int 0, .int 0, .int 0, .ref (ma 33), .int (-1), .ref (ma 35), .int 0, .int 0])), ((ma 1), .inl (cy 0, 4, .inl (fun _ => 0)))] H := hP
  have hD : va_D A [(mo, .inr (12, [.int 0, .ref (ma 1), .int 0, .int 0, .int 0, .int 0, .int 0, .int 0, .int (-1), .ref (ma 9), .ref (ma 10), .ref (ma 11), .ref (ma 12), .ref (ma 13), .ref (ma 14), .ref (ma 15), .int 0, .int 0, .int 0, .ref (ma 19), .ref (ma 20), .ref (ma 21), .int 0, .ref (ma 23), .ref (ma 24), .ref (ma 25), .ref (ma 26), .ref (ma 27), .ref (ma 28), .int 0, .int 0, .int 0, .int 0, .ref (ma 33), .int (-1), .ref (ma 35), .int 0, .int 0])), ((ma 1), .inl (cy 0, 4, .inl (fun _ => 0)))] := hD
  refine lv_aload_n hx hb dX12_moved_5 rfl (lv_at hlv 0 rfl) ?_
  refine lv_iload_n hx hb dX12_moved_6 rfl (lv_at hlv 1 rfl) ?_
  refine lv_iconst (v := 1) hx hb dX12_moved_7 (by decide) ?_
  refine cj_i (wr := []) (va_runV (As := [.int p0, .int 1]) (rest := []) ⟨hx, hb, hml, hown, hts⟩ (c_isLaw l hl D cy sa mo ma p0 1 H.size (by decide)) (cwV 2 hts gg_1 rfl rfl rfl (by decide +kernel) ⟨Nat.le_of_ble_eq_true rfl, Nat.le_of_ble_eq_true rfl⟩) ⟨pcW.blind, (va_recv hG.1 hP (ci := 12) (q0 := 0) rfl rfl), (pcW.mk hP hD hS hA hG hT [0, 1] rfl (by decide))⟩ rfl rfl hlv.1 rfl (lv_room (Nat.le_of_ble_eq_true rfl)) dX12_moved_8 ⟨Nat.le_of_ble_eq_true rfl, Nat.le_of_ble_eq_true rfl⟩) hP hD hS hA [0, 1] [] rfl rfl (by decide) (by decide) (fun r1 u1 H locs hw1 hP hD hS => ?_)
  obtain rfl := hw1
  have hP : va_P D vwCl [(mo, .inr (12, [.int 1, .ref (ma 1), .int 0, .int 0, .int 0, .int 0, .int 0, .int 0, .int (-1), .ref (ma 9), .ref (ma 10), .ref (ma 11), .ref (ma 12), .ref (ma 13), .ref (ma 14), .ref (ma 15), .int 0, .int 0, .int 0, .ref (ma 19), .ref (ma 20), .ref (ma 21), .int 0, .ref (ma 23), .ref (ma 24), .ref (ma 25), .ref (ma 26), .ref (ma 27), .ref (ma 28), .int 0, .int 0, .int 0, .int 0, .ref (ma 33), .int (-1), .ref (ma 35), .int 0, .int 0]))] H := hP
  have hD : va_D A [(mo, .inr (12, [.int 1, .ref (ma 1), .int 0, .int 0, .int 0, .int 0, .int 0, .int 0, .int (-1), .ref (ma 9), .ref (ma 10), .ref (ma 11), .ref (ma 12), .ref (ma 13), .ref (ma 14), .ref (ma 15), .int 0, .int 0, .int 0, .ref (ma 19), .ref (ma 20), .ref (ma 21), .int 0, .ref (ma 23), .ref (ma 24), .ref (ma 25), .ref (ma 26), .ref (ma 27), .ref (ma 28), .int 0, .int 0, .int 0, .int 0, .ref (ma 33), .int (-1), .ref (ma 35), .int 0, .int 0]))] := hD
  refine lv_if_eq (tgt := 37) hx hb dX12_moved_11 (by decide) (fun _ => ?_) (fun c => absurd (by decide) c)
  refine lv_iconst (v := 0) hx hb dX12_moved_37 (by decide) ?_
  refine W.widen (k := 0) (n := 0) (Nat.le_of_ble_eq_true rfl) (Nat.le_of_ble_eq_true rfl) ?_
  exact W.iret (v := 0) hx hb hr (fun t ht hW => ⟨⟨0, ((fun k => ([] : List Nat).getD k 0), (fun k => ([] : List Int32).getD k 0), (fun k => ([] : List (Nat → Int32)).getD k (fun _ => 0))), rfl, (by first | (exact (by rfl))), by rw [ht]; exact hP.sub [0] rfl, hD.sub [0] (by decide) rfl⟩, hS.F ht⟩) hS.2.2 dX12_moved_38
def vs_m_pass : List Cond := .code yX12_pass_ cX12_pass_ 2 (some .int) :: (([.fieldLink RX12 1 "KerbSplashModel" "thrown" "I"] : List Cond) ++ ((wsX120) ++ ((wsV RX12 334 RX12 yX12_isLaw vs_c_isLaw) ++ ([]))))
set_option maxHeartbeats 4000000 in
set_option maxRecDepth 100000 in
theorem m_pass (l : Launch) (hl : l.stackTraces = false) (D : va_G) (cy : Nat → ClassId) (sa : Nat → Nat) (mo : Nat) (ma : Nat → Nat) (p0 : Int32) (sz : Nat) : Met l yX12_pass_ vs_m_pass ({ frames := 2, cells := 0, slots := 0, locals := 45 }) (va_Pc [.ref mo, .int p0] (pcW D cy sa sz [(mo, .inr (12, [.int 0, .ref (ma 1), .int 0, .int 0, .int 0, .int 0, .int 0, .int 0, .int (-1), .ref (ma 9), .ref (ma 10), .ref (ma 11), .ref (ma 12), .ref (ma 13), .ref (ma 14), .ref (ma 15), .int 0, .int 0, .int 0, .ref (ma 19), .ref (ma 20), .ref (ma 21), .int 0, .ref (ma 23), .ref (ma 24), .ref (ma 25), .ref (ma 26), .ref (ma 27), .ref (ma 28), .int 0, .int 0, .int 0, .int 0, .ref (ma 33), .int (-1), .ref (ma 35), .int 0, .int 0])), ((ma 1), .inl (cy 0, 4, .inl (fun _ => 0)))])) (va_Qi (fun (r : Int32) (u : SU) => (r = 0)) (fun u t => atW D (va_A [(mo, .inr (12, [.int 0, .ref (ma 1), .int 0, .int 0, .int 0, .int 0, .int 0, .int 0, .int (-1), .ref (ma 9), .ref (ma 10), .ref (ma 11), .ref (ma 12), .ref (ma 13), .ref (ma 14), .ref (ma 15), .int 0, .int 0, .int 0, .ref (ma 19), .ref (ma 20), .ref (ma 21), .int 0, .ref (ma 23), .ref (ma 24), .ref (ma 25), .ref (ma 26), .ref (ma 27), .ref (ma 28), .int 0, .int 0, .int 0, .int 0, .ref (ma 33), .int (-1), .ref (ma 35), .int 0, .int 0])), ((ma 1), .inl (cy 0, 4, .inl (fun _ => 0)))] sz) [(mo, .inr (12, [.int 1, .ref (ma 1), .int 0, .int 0, .int 0, .int 0, .int 0, .int 0, .int (-1), .ref (ma 9), .ref (ma 10), .ref (ma 11), .ref (ma 12), .ref (ma 13), .ref (ma 14), .ref (ma 15), .int 0, .int 0, .int 0, .ref (ma 19), .ref (ma 20), .ref (ma 21), .int 0, .ref (ma 23), .ref (ma 24), .ref (ma 25), .ref (ma 26), .ref (ma 27), .ref (ma 28), .int 0, .int 0, .int 0, .int 0, .ref (ma 33), .int (-1), .ref (ma 35), .int 0, .int 0]))] t) (va_A [(mo, .inr (12, [.int 0, .ref (ma 1), .int 0, .int 0, .int 0, .int 0, .int 0, .int 0, .int (-1), .ref (ma 9), .ref (ma 10), .ref (ma 11), .ref (ma 12), .ref (ma 13), .ref (ma 14), .ref (ma 15), .int 0, .int 0, .int 0, .ref (ma 19), .ref (ma 20), .ref (ma 21), .int 0, .ref (ma 23), .ref (ma 24), .ref (ma 25), .ref (ma 26), .ref (ma 27), .ref (ma 28), .int 0, .int 0, .int 0, .int 0, .ref (ma 33), .int (-1), .ref (ma 35), .int 0, .int 0])), ((ma 1), .inl (cy 0, 4, .inl (fun _ => 0)))] sz)) 0 0 (va_A [(mo, .inr (12, [.int 0, .ref (ma 1), .int 0, .int 0, .int 0, .int 0, .int 0, .int 0, .int (-1), .ref (ma 9), .ref (ma 10), .ref (ma 11), .ref (ma 12), .ref (ma 13), .ref (ma 14), .ref (ma 15), .int 0, .int 0, .int 0, .ref (ma 19), .ref (ma 20), .ref (ma 21), .int 0, .ref (ma 23), .ref (ma 24), .ref (ma 25), .ref (ma 26), .ref (ma 27), .ref (ma 28), .int 0, .int 0, .int 0, .int 0, .ref (ma 33), .int (-1), .ref (ma 35), .int 0, .int 0])), ((ma 1), .inl (cy 0, 4, .inl (fun _ => 0)))] sz) := by
  refine Met.ofW (cc := cX12_pass_) (maxL := 2) (ret := (some .int)) (by decide) rfl ?_
  intro p e s m args below meth c s₁ B hml hv
  obtain ⟨rfl, hsz, hP, hG, hD0, hT⟩ := hv
  have hx := B.exec
  have hb := B.bytes
  have hr := B.returns
  have hts := atoms_spec (ws := vs_m_pass) B.pre
  have hown : s.vm.findClass RX12 = some m.cls := findClass_of_methodNamed B.named
  have hlocks := B.notSynchronized
  subst hsz
  have hD := hD0.self (sz := s.heap.size)
  generalize hAe : va_A [(mo, .inr (12, [.int 0, .ref (ma 1), .int 0, .int 0, .int 0, .int 0, .int 0, .int 0, .int (-1), .ref (ma 9), .ref (ma 10), .ref (ma 11), .ref (ma 12), .ref (ma 13), .ref (ma 14), .ref (ma 15), .int 0, .int 0, .int 0, .ref (ma 19), .ref (ma 20), .ref (ma 21), .int 0, .ref (ma 23), .ref (ma 24), .ref (ma 25), .ref (ma 26), .ref (ma 27), .ref (ma 28), .int 0, .int 0, .int 0, .int 0, .ref (ma 33), .int (-1), .ref (ma 35), .int 0, .int 0])), ((ma 1), .inl (cy 0, 4, .inl (fun _ => 0)))] s.heap.size = A at hD hT ⊢
  have hA : ∀ q : Nat, s.heap.size ≤ q → A q := fun q h => by rw [← hAe]; exact Or.inr h
  have hS : va_S A s.heap s.heap [] := va_S.rf
  have hl0 := lv_entry ([.ref mo, .int p0]) (n := 2) (Nat.le_of_ble_eq_true rfl)
  rw [lg_entry_eq]
  generalize (lg_sl ([.ref mo, .int p0]) ++ List.replicate (2 - (lg_sl ([.ref mo, .int p0])).length) Slot.unset).toArray = ls at hl0 ⊢
  have hlv : lv_has ls 2 [(0, .ref mo), (1, .int p0)] := hl0
  have lf1 := hts (.fieldLink RX12 1 "KerbSplashModel" "thrown" "I") (List.mem_of_getElem? (i := 1) rfl)
  have hi12 : ∀ w ∈ wsX120, w ∈ vs_m_pass := fun w h => List.mem_cons_of_mem _ (List.mem_append_right _ (List.mem_append_left _ h))
  have gg_1 : GoodIn vs_m_pass (wsV RX12 334 RX12 yX12_isLaw vs_c_isLaw) := goodIn_sub (fun w h => List.mem_cons_of_mem _ (List.mem_append_right _ (List.mem_append_right _ (List.mem_append_left _ h)))) (by decide +kernel)
  refine lv_aload_n hx hb dX12_pass__0 rfl (lv_at hlv 0 rfl) ?_
  refine lv_iconst (v := 0) hx hb dX12_pass__1 (by decide) ?_
  refine va_put (D := D) (ci := 12) (v := .int 0) (ty := .int) (C := RX12) (T := TX12) (N := 38) hx hb hts hi12 tyX12 tyX12_ok nmX12 hown hG.1 hP hD hS 0 rfl rfl 0 (by decide) lf1 (fun _ h9 => h9) rfl (by decide +kernel) rfl rfl (Nat.le_of_ble_eq_true rfl) dX12_pass__2 (fun H locs hP hD hS => ?_)
  have hP : va_P D vwCl [(mo, .inr (12, [.int 0, .ref (ma 1), .int 0, .int 0, .int 0, .int 0, .int 0, .int 0, .int (-1), .ref (ma 9), .ref (ma 10), .ref (ma 11), .ref (ma 12), .ref (ma 13), .ref (ma 14), .ref (ma 15), .int 0, .int 0, .int 0, .ref (ma 19), .ref (ma 20), .ref (ma 21), .int 0, .ref (ma 23), .ref (ma 24), .ref (ma 25), .ref (ma 26), .ref (ma 27), .ref (ma 28), .int 0, .int 0, .int 0, .int 0, .ref (ma 33), .int (-1), .ref (ma 35), .int 0, .int 0])), ((ma 1), .inl (cy 0, 4, .inl (fun _ => 0)))] H := hP
  have hD : va_D A [(mo, .inr (12, [.int 0, .ref (ma 1), .int 0, .int 0, .int 0, .int 0, .int 0, .int 0, .int (-1), .ref (ma 9), .ref (ma 10), .ref (ma 11), .ref (ma 12), .ref (ma 13), .ref (ma 14), .ref (ma 15), .int 0, .int 0, .int 0, .ref (ma 19), .ref (ma 20), .ref (ma 21), .int 0, .ref (ma 23), .ref (ma 24), .ref (ma 25), .ref (ma 26), .ref (ma 27), .ref (ma 28), .int 0, .int 0, .int 0, .int 0, .ref (ma 33), .int (-1), .ref (ma 35), .int 0, .int 0])), ((ma 1), .inl (cy 0, 4, .inl (fun _ => 0)))] := hD
  refine lv_aload_n hx hb dX12_pass__5 rfl (lv_at hlv 0 rfl) ?_
  refine lv_iload_n hx hb dX12_pass__6 rfl (lv_at hlv 1 rfl) ?_
  refine lv_iconst (v := 1) hx hb dX12_pass__7 (by decide) ?_
  refine cj_i (wr := []) (va_runV (As := [.int p0, .int 1]) (rest := []) ⟨hx, hb, hml, hown, hts⟩ (c_isLaw l hl D cy sa mo ma p0 1 H.size (by decide)) (cwV 2 hts gg_1 rfl rfl rfl (by decide +kernel) ⟨Nat.le_of_ble_eq_true rfl, Nat.le_of_ble_eq_true rfl⟩) ⟨pcW.blind, (va_recv hG.1 hP (ci := 12) (q0 := 0) rfl rfl), (pcW.mk hP hD hS hA hG hT [0, 1] rfl (by decide))⟩ rfl rfl hlv.1 rfl (lv_room (Nat.le_of_ble_eq_true rfl)) dX12_pass__8 ⟨Nat.le_of_ble_eq_true rfl, Nat.le_of_ble_eq_true rfl⟩) hP hD hS hA [0, 1] [] rfl rfl (by decide) (by decide) (fun r1 u1 H locs hw1 hP hD hS => ?_)
  obtain rfl := hw1
  have hP : va_P D vwCl [(mo, .inr (12, [.int 1, .ref (ma 1), .int 0, .int 0, .int 0, .int 0, .int 0, .int 0, .int (-1), .ref (ma 9), .ref (ma 10), .ref (ma 11), .ref (ma 12), .ref (ma 13), .ref (ma 14), .ref (ma 15), .int 0, .int 0, .int 0, .ref (ma 19), .ref (ma 20), .ref (ma 21), .int 0, .ref (ma 23), .ref (ma 24), .ref (ma 25), .ref (ma 26), .ref (ma 27), .ref (ma 28), .int 0, .int 0, .int 0, .int 0, .ref (ma 33), .int (-1), .ref (ma 35), .int 0, .int 0]))] H := hP
  have hD : va_D A [(mo, .inr (12, [.int 1, .ref (ma 1), .int 0, .int 0, .int 0, .int 0, .int 0, .int 0, .int (-1), .ref (ma 9), .ref (ma 10), .ref (ma 11), .ref (ma 12), .ref (ma 13), .ref (ma 14), .ref (ma 15), .int 0, .int 0, .int 0, .ref (ma 19), .ref (ma 20), .ref (ma 21), .int 0, .ref (ma 23), .ref (ma 24), .ref (ma 25), .ref (ma 26), .ref (ma 27), .ref (ma 28), .int 0, .int 0, .int 0, .int 0, .ref (ma 33), .int (-1), .ref (ma 35), .int 0, .int 0]))] := hD
  refine lv_if_eq (tgt := 22) hx hb dX12_pass__11 (by decide) (fun _ => ?_) (fun c => absurd (by decide) c)
  refine lv_iconst (v := 0) hx hb dX12_pass__22 (by decide) ?_
  refine W.widen (k := 0) (n := 0) (Nat.le_of_ble_eq_true rfl) (Nat.le_of_ble_eq_true rfl) ?_
  exact W.iret (v := 0) hx hb hr (fun t ht hW => ⟨⟨0, ((fun k => ([] : List Nat).getD k 0), (fun k => ([] : List Int32).getD k 0), (fun k => ([] : List (Nat → Int32)).getD k (fun _ => 0))), rfl, (by first | (exact (by rfl))), by rw [ht]; exact hP.sub [0] rfl, hD.sub [0] (by decide) rfl⟩, hS.F ht⟩) hS.2.2 dX12_pass__23
