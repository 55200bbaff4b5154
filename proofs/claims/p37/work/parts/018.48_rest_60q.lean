section
theorem dX11_count_0 : decode cX11_count 0 = .ok (.iload_n 1, 1) := by decide +kernel
theorem dX11_count_1 : decode cX11_count 1 = .ok (.tableswitch 60 0 3 #[31, 39, 47, 52], 31) := by decide +kernel
theorem dX11_count_32 : decode cX11_count 32 = .ok (.aload_n 0, 1) := by decide +kernel
theorem dX11_count_33 : decode cX11_count 33 = .ok (.getfield 41, 3) := by decide +kernel
theorem dX11_count_36 : decode cX11_count 36 = .ok (.getfield 263, 3) := by decide +kernel
theorem dX11_count_39 : decode cX11_count 39 = .ok (.ireturn, 1) := by decide +kernel
theorem dX11_count_40 : decode cX11_count 40 = .ok (.aload_n 0, 1) := by decide +kernel
theorem dX11_count_41 : decode cX11_count 41 = .ok (.getfield 41, 3) := by decide +kernel
theorem dX11_count_44 : decode cX11_count 44 = .ok (.getfield 312, 3) := by decide +kernel
theorem dX11_count_47 : decode cX11_count 47 = .ok (.ireturn, 1) := by decide +kernel
theorem dX11_count_48 : decode cX11_count 48 = .ok (.aload_n 0, 1) := by decide +kernel
theorem dX11_count_49 : decode cX11_count 49 = .ok (.getfield 105, 3) := by decide +kernel
theorem dX11_count_52 : decode cX11_count 52 = .ok (.ireturn, 1) := by decide +kernel
theorem dX11_count_53 : decode cX11_count 53 = .ok (.aload_n 0, 1) := by decide +kernel
theorem dX11_count_54 : decode cX11_count 54 = .ok (.getfield 10, 3) := by decide +kernel
theorem dX11_count_57 : decode cX11_count 57 = .ok (.getfield 81, 3) := by decide +kernel
theorem dX11_count_60 : decode cX11_count 60 = .ok (.ireturn, 1) := by decide +kernel
theorem dX11_count_61 : decode cX11_count 61 = .ok (.iconst (-1), 1) := by decide +kernel
theorem dX11_count_62 : decode cX11_count 62 = .ok (.ireturn, 1) := by decide +kernel
theorem dX11_dip_0 : decode cX11_dip 0 = .ok (.aload_n 0, 1) := by decide +kernel
theorem dX11_dip_1 : decode cX11_dip 1 = .ok (.iload_n 1, 1) := by decide +kernel
theorem dX11_dip_11 : decode cX11_dip 11 = .ok (.iload_n 2, 1) := by decide +kernel
theorem dX11_dip_12 : decode cX11_dip 12 = .ok (.iconst 1, 1) := by decide +kernel
theorem dX11_dip_13 : decode cX11_dip 13 = .ok (.bipush 30, 2) := by decide +kernel
theorem dX11_dip_15 : decode cX11_dip 15 = .ok (.invokestatic 130, 3) := by decide +kernel
theorem dX11_dip_18 : decode cX11_dip 18 = .ok (.ifCond .eq 17, 3) := by decide +kernel
theorem dX11_dip_2 : decode cX11_dip 2 = .ok (.iconst 1, 1) := by decide +kernel
theorem dX11_dip_21 : decode cX11_dip 21 = .ok (.iload_n 3, 1) := by decide +kernel
theorem dX11_dip_22 : decode cX11_dip 22 = .ok (.iconst 1, 1) := by decide +kernel
theorem dX11_dip_23 : decode cX11_dip 23 = .ok (.bipush 99, 2) := by decide +kernel
theorem dX11_dip_25 : decode cX11_dip 25 = .ok (.invokestatic 130, 3) := by decide +kernel
theorem dX11_dip_28 : decode cX11_dip 28 = .ok (.ifCond .eq 7, 3) := by decide +kernel
theorem dX11_dip_3 : decode cX11_dip 3 = .ok (.bipush 99, 2) := by decide +kernel
theorem dX11_dip_31 : decode cX11_dip 31 = .ok (.iconst 1, 1) := by decide +kernel
theorem dX11_dip_32 : decode cX11_dip 32 = .ok (.goto 4, 3) := by decide +kernel
theorem dX11_dip_35 : decode cX11_dip 35 = .ok (.iconst 0, 1) := by decide +kernel
theorem dX11_dip_36 : decode cX11_dip 36 = .ok (.invokevirtual 134, 3) := by decide +kernel
theorem dX11_dip_39 : decode cX11_dip 39 = .ok (.aload_n 0, 1) := by decide +kernel
theorem dX11_dip_40 : decode cX11_dip 40 = .ok (.getfield 41, 3) := by decide +kernel
theorem dX11_dip_43 : decode cX11_dip 43 = .ok (.iload_n 1, 1) := by decide +kernel
theorem dX11_dip_44 : decode cX11_dip 44 = .ok (.iload_n 2, 1) := by decide +kernel
theorem dX11_dip_45 : decode cX11_dip 45 = .ok (.iload_n 3, 1) := by decide +kernel
theorem dX11_dip_46 : decode cX11_dip 46 = .ok (.invokevirtual 308, 3) := by decide +kernel
theorem dX11_dip_49 : decode cX11_dip 49 = .ok (.ireturn, 1) := by decide +kernel
theorem dX11_dip_5 : decode cX11_dip 5 = .ok (.invokestatic 130, 3) := by decide +kernel
theorem dX11_dip_8 : decode cX11_dip 8 = .ok (.ifCond .eq 27, 3) := by decide +kernel
theorem dX11_ice_0 : decode cX11_ice 0 = .ok (.aload_n 0, 1) := by decide +kernel
theorem dX11_ice_1 : decode cX11_ice 1 = .ok (.iload_n 1, 1) := by decide +kernel
theorem dX11_ice_12 : decode cX11_ice 12 = .ok (.iload_n 2, 1) := by decide +kernel
theorem dX11_ice_13 : decode cX11_ice 13 = .ok (.iconst 0, 1) := by decide +kernel
theorem dX11_ice_14 : decode cX11_ice 14 = .ok (.iconst 2, 1) := by decide +kernel
theorem dX11_ice_15 : decode cX11_ice 15 = .ok (.invokestatic 130, 3) := by decide +kernel
theorem dX11_ice_18 : decode cX11_ice 18 = .ok (.ifCond .eq 7, 3) := by decide +kernel
theorem dX11_ice_2 : decode cX11_ice 2 = .ok (.iconst 1, 1) := by decide +kernel
theorem dX11_ice_21 : decode cX11_ice 21 = .ok (.iconst 1, 1) := by decide +kernel
theorem dX11_ice_22 : decode cX11_ice 22 = .ok (.goto 4, 3) := by decide +kernel
theorem dX11_ice_25 : decode cX11_ice 25 = .ok (.iconst 0, 1) := by decide +kernel
theorem dX11_ice_26 : decode cX11_ice 26 = .ok (.invokevirtual 134, 3) := by decide +kernel
theorem dX11_ice_29 : decode cX11_ice 29 = .ok (.iload_n 2, 1) := by decide +kernel
theorem dX11_ice_3 : decode cX11_ice 3 = .ok (.sipush 9999, 3) := by decide +kernel
theorem dX11_ice_30 : decode cX11_ice 30 = .ok (.ifCond .ne 12, 3) := by decide +kernel
theorem dX11_ice_33 : decode cX11_ice 33 = .ok (.aload_n 0, 1) := by decide +kernel
theorem dX11_ice_34 : decode cX11_ice 34 = .ok (.getfield 31, 3) := by decide +kernel
theorem dX11_ice_37 : decode cX11_ice 37 = .ok (.iload_n 1, 1) := by decide +kernel
theorem dX11_ice_38 : decode cX11_ice 38 = .ok (.invokevirtual 332, 3) := by decide +kernel
theorem dX11_ice_41 : decode cX11_ice 41 = .ok (.ireturn, 1) := by decide +kernel
theorem dX11_ice_42 : decode cX11_ice 42 = .ok (.iload_n 2, 1) := by decide +kernel
theorem dX11_ice_43 : decode cX11_ice 43 = .ok (.iconst 1, 1) := by decide +kernel
theorem dX11_ice_44 : decode cX11_ice 44 = .ok (.if_icmp .ne 14, 3) := by decide +kernel
theorem dX11_ice_47 : decode cX11_ice 47 = .ok (.aload_n 0, 1) := by decide +kernel
theorem dX11_ice_48 : decode cX11_ice 48 = .ok (.getfield 31, 3) := by decide +kernel
theorem dX11_ice_51 : decode cX11_ice 51 = .ok (.iload_n 1, 1) := by decide +kernel
theorem dX11_ice_52 : decode cX11_ice 52 = .ok (.invokevirtual 335, 3) := by decide +kernel
theorem dX11_ice_55 : decode cX11_ice 55 = .ok (.goto 11, 3) := by decide +kernel
theorem dX11_ice_58 : decode cX11_ice 58 = .ok (.aload_n 0, 1) := by decide +kernel
theorem dX11_ice_59 : decode cX11_ice 59 = .ok (.getfield 31, 3) := by decide +kernel
theorem dX11_ice_6 : decode cX11_ice 6 = .ok (.invokestatic 130, 3) := by decide +kernel
theorem dX11_ice_62 : decode cX11_ice 62 = .ok (.iload_n 1, 1) := by decide +kernel
theorem dX11_ice_63 : decode cX11_ice 63 = .ok (.invokevirtual 338, 3) := by decide +kernel
theorem dX11_ice_66 : decode cX11_ice 66 = .ok (.ireturn, 1) := by decide +kernel
theorem dX11_ice_9 : decode cX11_ice 9 = .ok (.ifCond .eq 16, 3) := by decide +kernel
theorem dX11_meant_0 : decode cX11_meant 0 = .ok (.aload_n 0, 1) := by decide +kernel
theorem dX11_meant_1 : decode cX11_meant 1 = .ok (.iload_n 2, 1) := by decide +kernel
theorem dX11_meant_11 : decode cX11_meant 11 = .ok (.aload_n 0, 1) := by decide +kernel
theorem dX11_meant_12 : decode cX11_meant 12 = .ok (.iload 4, 2) := by decide +kernel
theorem dX11_meant_14 : decode cX11_meant 14 = .ok (.iconst 1, 1) := by decide +kernel
theorem dX11_meant_15 : decode cX11_meant 15 = .ok (.bipush 60, 2) := by decide +kernel
theorem dX11_meant_17 : decode cX11_meant 17 = .ok (.invokestatic 130, 3) := by decide +kernel
theorem dX11_meant_2 : decode cX11_meant 2 = .ok (.iload_n 3, 1) := by decide +kernel
theorem dX11_meant_20 : decode cX11_meant 20 = .ok (.ifCond .eq 21, 3) := by decide +kernel
theorem dX11_meant_23 : decode cX11_meant 23 = .ok (.aload_n 0, 1) := by decide +kernel
theorem dX11_meant_24 : decode cX11_meant 24 = .ok (.iload 5, 2) := by decide +kernel
theorem dX11_meant_26 : decode cX11_meant 26 = .ok (.iload 6, 2) := by decide +kernel
theorem dX11_meant_28 : decode cX11_meant 28 = .ok (.iload 7, 2) := by decide +kernel
theorem dX11_meant_3 : decode cX11_meant 3 = .ok (.invokevirtual 159, 3) := by decide +kernel
theorem dX11_meant_30 : decode cX11_meant 30 = .ok (.iconst 0, 1) := by decide +kernel
theorem dX11_meant_31 : decode cX11_meant 31 = .ok (.invokevirtual 243, 3) := by decide +kernel
theorem dX11_meant_34 : decode cX11_meant 34 = .ok (.ifCond .eq 7, 3) := by decide +kernel
theorem dX11_meant_37 : decode cX11_meant 37 = .ok (.iconst 1, 1) := by decide +kernel
theorem dX11_meant_38 : decode cX11_meant 38 = .ok (.goto 4, 3) := by decide +kernel
theorem dX11_meant_41 : decode cX11_meant 41 = .ok (.iconst 0, 1) := by decide +kernel
theorem dX11_meant_42 : decode cX11_meant 42 = .ok (.invokevirtual 134, 3) := by decide +kernel
theorem dX11_meant_45 : decode cX11_meant 45 = .ok (.aload_n 0, 1) := by decide +kernel
theorem dX11_meant_46 : decode cX11_meant 46 = .ok (.aload_n 0, 1) := by decide +kernel
theorem dX11_meant_47 : decode cX11_meant 47 = .ok (.getfield 31, 3) := by decide +kernel
theorem dX11_meant_50 : decode cX11_meant 50 = .ok (.invokevirtual 196, 3) := by decide +kernel
theorem dX11_meant_53 : decode cX11_meant 53 = .ok (.invokevirtual 202, 3) := by decide +kernel
theorem dX11_meant_56 : decode cX11_meant 56 = .ok (.aload_n 0, 1) := by decide +kernel
theorem dX11_meant_57 : decode cX11_meant 57 = .ok (.getfield 56, 3) := by decide +kernel
theorem dX11_meant_6 : decode cX11_meant 6 = .ok (.aload_n 0, 1) := by decide +kernel
theorem dX11_meant_60 : decode cX11_meant 60 = .ok (.getfield 230, 3) := by decide +kernel
theorem dX11_meant_63 : decode cX11_meant 63 = .ok (.iload 5, 2) := by decide +kernel
theorem dX11_meant_65 : decode cX11_meant 65 = .ok (.iload 6, 2) := by decide +kernel
theorem dX11_meant_67 : decode cX11_meant 67 = .ok (.iload 7, 2) := by decide +kernel
theorem dX11_meant_69 : decode cX11_meant 69 = .ok (.iconst 0, 1) := by decide +kernel
theorem dX11_meant_7 : decode cX11_meant 7 = .ok (.iload_n 1, 1) := by decide +kernel
theorem dX11_meant_70 : decode cX11_meant 70 = .ok (.invokevirtual 247, 3) := by decide +kernel
theorem dX11_meant_73 : decode cX11_meant 73 = .ok (.aload_n 0, 1) := by decide +kernel
theorem dX11_meant_74 : decode cX11_meant 74 = .ok (.getfield 56, 3) := by decide +kernel
theorem dX11_meant_77 : decode cX11_meant 77 = .ok (.aload_n 0, 1) := by decide +kernel
theorem dX11_meant_78 : decode cX11_meant 78 = .ok (.getfield 31, 3) := by decide +kernel
theorem dX11_meant_8 : decode cX11_meant 8 = .ok (.invokevirtual 227, 3) := by decide +kernel
theorem dX11_meant_81 : decode cX11_meant 81 = .ok (.aload_n 0, 1) := by decide +kernel
theorem dX11_meant_82 : decode cX11_meant 82 = .ok (.getfield 41, 3) := by decide +kernel
theorem dX11_meant_85 : decode cX11_meant 85 = .ok (.aload_n 0, 1) := by decide +kernel
theorem dX11_meant_86 : decode cX11_meant 86 = .ok (.getfield 24, 3) := by decide +kernel
theorem dX11_meant_89 : decode cX11_meant 89 = .ok (.iload_n 1, 1) := by decide +kernel
theorem dX11_meant_90 : decode cX11_meant 90 = .ok (.aaload, 1) := by decide +kernel
theorem dX11_meant_91 : decode cX11_meant 91 = .ok (.iload_n 2, 1) := by decide +kernel
theorem dX11_meant_92 : decode cX11_meant 92 = .ok (.iload_n 3, 1) := by decide +kernel
theorem dX11_meant_93 : decode cX11_meant 93 = .ok (.iload 4, 2) := by decide +kernel
theorem dX11_meant_95 : decode cX11_meant 95 = .ok (.invokevirtual 304, 3) := by decide +kernel
theorem dX11_meant_98 : decode cX11_meant 98 = .ok (.ireturn, 1) := by decide +kernel
theorem dX11_share_0 : decode cX11_share 0 = .ok (.aload_n 0, 1) := by decide +kernel
theorem dX11_share_1 : decode cX11_share 1 = .ok (.iload_n 1, 1) := by decide +kernel
theorem dX11_share_10 : decode cX11_share 10 = .ok (.iload_n 2, 1) := by decide +kernel
theorem dX11_share_11 : decode cX11_share 11 = .ok (.iconst 0, 1) := by decide +kernel
theorem dX11_share_12 : decode cX11_share 12 = .ok (.bipush 99, 2) := by decide +kernel
theorem dX11_share_14 : decode cX11_share 14 = .ok (.invokestatic 130, 3) := by decide +kernel
theorem dX11_share_17 : decode cX11_share 17 = .ok (.ifCond .eq 7, 3) := by decide +kernel
theorem dX11_share_2 : decode cX11_share 2 = .ok (.iconst 0, 1) := by decide +kernel
theorem dX11_share_20 : decode cX11_share 20 = .ok (.iconst 1, 1) := by decide +kernel
theorem dX11_share_21 : decode cX11_share 21 = .ok (.goto 4, 3) := by decide +kernel
theorem dX11_share_24 : decode cX11_share 24 = .ok (.iconst 0, 1) := by decide +kernel
theorem dX11_share_25 : decode cX11_share 25 = .ok (.invokevirtual 134, 3) := by decide +kernel
theorem dX11_share_28 : decode cX11_share 28 = .ok (.aload_n 0, 1) := by decide +kernel
theorem dX11_share_29 : decode cX11_share 29 = .ok (.getfield 41, 3) := by decide +kernel
theorem dX11_share_3 : decode cX11_share 3 = .ok (.iconst 3, 1) := by decide +kernel
theorem dX11_share_32 : decode cX11_share 32 = .ok (.getfield 301, 3) := by decide +kernel
theorem dX11_share_35 : decode cX11_share 35 = .ok (.iload_n 1, 1) := by decide +kernel
theorem dX11_share_36 : decode cX11_share 36 = .ok (.iaload, 1) := by decide +kernel
theorem dX11_share_37 : decode cX11_share 37 = .ok (.istore_n 3, 1) := by decide +kernel
theorem dX11_share_38 : decode cX11_share 38 = .ok (.aload_n 0, 1) := by decide +kernel
theorem dX11_share_39 : decode cX11_share 39 = .ok (.getfield 41, 3) := by decide +kernel
theorem dX11_share_4 : decode cX11_share 4 = .ok (.invokestatic 130, 3) := by decide +kernel
theorem dX11_share_42 : decode cX11_share 42 = .ok (.getfield 301, 3) := by decide +kernel
theorem dX11_share_45 : decode cX11_share 45 = .ok (.iload_n 1, 1) := by decide +kernel
theorem dX11_share_46 : decode cX11_share 46 = .ok (.iload_n 2, 1) := by decide +kernel
theorem dX11_share_47 : decode cX11_share 47 = .ok (.iastore, 1) := by decide +kernel
theorem dX11_share_48 : decode cX11_share 48 = .ok (.iload_n 3, 1) := by decide +kernel
theorem dX11_share_49 : decode cX11_share 49 = .ok (.ireturn, 1) := by decide +kernel
theorem dX11_share_7 : decode cX11_share 7 = .ok (.ifCond .eq 17, 3) := by decide +kernel
theorem dX11_status_0 : decode cX11_status 0 = .ok (.iload_n 1, 1) := by decide +kernel
theorem dX11_status_1 : decode cX11_status 1 = .ok (.iconst 0, 1) := by decide +kernel
theorem dX11_status_10 : decode cX11_status 10 = .ok (.getfield 67, 3) := by decide +kernel
theorem dX11_status_13 : decode cX11_status 13 = .ok (.iload_n 1, 1) := by decide +kernel
theorem dX11_status_14 : decode cX11_status 14 = .ok (.iaload, 1) := by decide +kernel
theorem dX11_status_15 : decode cX11_status 15 = .ok (.goto 4, 3) := by decide +kernel
theorem dX11_status_18 : decode cX11_status 18 = .ok (.iconst (-1), 1) := by decide +kernel
theorem dX11_status_19 : decode cX11_status 19 = .ok (.ireturn, 1) := by decide +kernel
theorem dX11_status_2 : decode cX11_status 2 = .ok (.iconst 3, 1) := by decide +kernel
theorem dX11_status_3 : decode cX11_status 3 = .ok (.invokestatic 130, 3) := by decide +kernel
theorem dX11_status_6 : decode cX11_status 6 = .ok (.ifCond .eq 12, 3) := by decide +kernel
theorem dX11_status_9 : decode cX11_status 9 = .ok (.aload_n 0, 1) := by decide +kernel
theorem dX11_sweep_0 : decode cX11_sweep 0 = .ok (.aload_n 0, 1) := by decide +kernel
theorem dX11_sweep_1 : decode cX11_sweep 1 = .ok (.iload_n 1, 1) := by decide +kernel
theorem dX11_sweep_10 : decode cX11_sweep 10 = .ok (.aload_n 0, 1) := by decide +kernel
theorem dX11_sweep_11 : decode cX11_sweep 11 = .ok (.getfield 63, 3) := by decide +kernel
theorem dX11_sweep_14 : decode cX11_sweep 14 = .ok (.aload_n 0, 1) := by decide +kernel
theorem dX11_sweep_15 : decode cX11_sweep 15 = .ok (.getfield 31, 3) := by decide +kernel
theorem dX11_sweep_18 : decode cX11_sweep 18 = .ok (.invokevirtual 328, 3) := by decide +kernel
theorem dX11_sweep_2 : decode cX11_sweep 2 = .ok (.iconst 0, 1) := by decide +kernel
theorem dX11_sweep_21 : decode cX11_sweep 21 = .ok (.iload_n 1, 1) := by decide +kernel
theorem dX11_sweep_22 : decode cX11_sweep 22 = .ok (.ifCond .ne 13, 3) := by decide +kernel
theorem dX11_sweep_25 : decode cX11_sweep 25 = .ok (.aload_n 0, 1) := by decide +kernel
theorem dX11_sweep_26 : decode cX11_sweep 26 = .ok (.getfield 63, 3) := by decide +kernel
theorem dX11_sweep_29 : decode cX11_sweep 29 = .ok (.getfield 322, 3) := by decide +kernel
theorem dX11_sweep_3 : decode cX11_sweep 3 = .ok (.iconst 1, 1) := by decide +kernel
theorem dX11_sweep_32 : decode cX11_sweep 32 = .ok (.goto 10, 3) := by decide +kernel
theorem dX11_sweep_35 : decode cX11_sweep 35 = .ok (.aload_n 0, 1) := by decide +kernel
theorem dX11_sweep_36 : decode cX11_sweep 36 = .ok (.getfield 63, 3) := by decide +kernel
theorem dX11_sweep_39 : decode cX11_sweep 39 = .ok (.getfield 325, 3) := by decide +kernel
theorem dX11_sweep_4 : decode cX11_sweep 4 = .ok (.invokestatic 130, 3) := by decide +kernel
theorem dX11_sweep_42 : decode cX11_sweep 42 = .ok (.ireturn, 1) := by decide +kernel
theorem dX11_sweep_7 : decode cX11_sweep 7 = .ok (.invokevirtual 134, 3) := by decide +kernel
theorem dX11_town_0 : decode cX11_town 0 = .ok (.aload_n 0, 1) := by decide +kernel
theorem dX11_town_1 : decode cX11_town 1 = .ok (.iload_n 1, 1) := by decide +kernel
theorem dX11_town_10 : decode cX11_town 10 = .ok (.aload_n 0, 1) := by decide +kernel
theorem dX11_town_11 : decode cX11_town 11 = .ok (.getfield 41, 3) := by decide +kernel
theorem dX11_town_14 : decode cX11_town 14 = .ok (.getfield 312, 3) := by decide +kernel
theorem dX11_town_17 : decode cX11_town 17 = .ok (.ifCond .ne 5, 3) := by decide +kernel
theorem dX11_town_2 : decode cX11_town 2 = .ok (.iconst 0, 1) := by decide +kernel
theorem dX11_town_20 : decode cX11_town 20 = .ok (.iconst (-1), 1) := by decide +kernel
theorem dX11_town_21 : decode cX11_town 21 = .ok (.ireturn, 1) := by decide +kernel
theorem dX11_town_22 : decode cX11_town 22 = .ok (.aload_n 0, 1) := by decide +kernel
theorem dX11_town_23 : decode cX11_town 23 = .ok (.getfield 63, 3) := by decide +kernel
theorem dX11_town_26 : decode cX11_town 26 = .ok (.aload_n 0, 1) := by decide +kernel
theorem dX11_town_27 : decode cX11_town 27 = .ok (.getfield 41, 3) := by decide +kernel
theorem dX11_town_3 : decode cX11_town 3 = .ok (.iconst 2, 1) := by decide +kernel
theorem dX11_town_30 : decode cX11_town 30 = .ok (.invokevirtual 315, 3) := by decide +kernel
theorem dX11_town_33 : decode cX11_town 33 = .ok (.iload_n 1, 1) := by decide +kernel
theorem dX11_town_34 : decode cX11_town 34 = .ok (.ifCond .ne 11, 3) := by decide +kernel
theorem dX11_town_37 : decode cX11_town 37 = .ok (.aload_n 0, 1) := by decide +kernel
theorem dX11_town_38 : decode cX11_town 38 = .ok (.getfield 63, 3) := by decide +kernel
theorem dX11_town_4 : decode cX11_town 4 = .ok (.invokestatic 130, 3) := by decide +kernel
theorem dX11_town_41 : decode cX11_town 41 = .ok (.getfield 319, 3) := by decide +kernel
theorem dX11_town_44 : decode cX11_town 44 = .ok (.ireturn, 1) := by decide +kernel
theorem dX11_town_45 : decode cX11_town 45 = .ok (.iload_n 1, 1) := by decide +kernel
theorem dX11_town_46 : decode cX11_town 46 = .ok (.iconst 1, 1) := by decide +kernel
theorem dX11_town_47 : decode cX11_town 47 = .ok (.if_icmp .ne 13, 3) := by decide +kernel
theorem dX11_town_50 : decode cX11_town 50 = .ok (.aload_n 0, 1) := by decide +kernel
theorem dX11_town_51 : decode cX11_town 51 = .ok (.getfield 63, 3) := by decide +kernel
theorem dX11_town_54 : decode cX11_town 54 = .ok (.getfield 322, 3) := by decide +kernel
theorem dX11_town_57 : decode cX11_town 57 = .ok (.goto 10, 3) := by decide +kernel
theorem dX11_town_60 : decode cX11_town 60 = .ok (.aload_n 0, 1) := by decide +kernel
theorem dX11_town_61 : decode cX11_town 61 = .ok (.getfield 63, 3) := by decide +kernel
theorem dX11_town_64 : decode cX11_town 64 = .ok (.getfield 325, 3) := by decide +kernel
theorem dX11_town_67 : decode cX11_town 67 = .ok (.ireturn, 1) := by decide +kernel
theorem dX11_town_7 : decode cX11_town 7 = .ok (.invokevirtual 134, 3) := by decide +kernel
def vs_k_meant : List Cond := .code yX11_meant cX11_meant 8 (some .int) :: (([.fieldLink RX11 31 "KerbSplash" "now" "LKerbSplash$Street;", .initialized RX6, .instanceMethod yX6_isTold, .selects RX6 yX6_isTold yX6_isTold, .fieldLink RX11 56 "KerbSplash" "whatIf" "LKerbSplash$WhatIf;", .initialized RX0, .instanceMethod yX0_become, .selects RX0 yX0_become yX0_become, .fieldLink RX11 41 "KerbSplash" "plan" "LKerbSplash$Plan;", .fieldLink RX11 24 "KerbSplash" "laws" "[LKerbSplash$Law;", .initialized RX9, .instanceMethod yX9_shareMeant, .selects RX9 yX9_shareMeant yX9_shareMeant] : List Cond) ++ ((wsV RX11 159 RX11 yX11_needCell vs_k_needCell) ++ ((wsV RX11 227 RX11 yX11_needLaw vs_k_needLaw) ++ ((va_wsS RX11 130 yX11_isWithin vs_s_within) ++ ((wsV RX11 134 RX11 yX11_needArgument vs_k_needArgument) ++ ((wsV RX11 243 RX11 yX11_isCar vs_k_isCar) ++ ((wsX110) ++ ((vs_s_isTold) ++ ((wsV RX11 202 RX11 yX11_needState vs_k_needState) ++ ((wsX90) ++ ((vs_c_become) ++ ((vs_i_share) ++ ([])))))))))))))
theorem gd_k_meant : vs_k_meant.all goodWord = true := gd_C (by decide +kernel) (gd_A (by decide +kernel) (gd_A (gd_V gd_k_needCell (by decide +kernel)) (gd_A (gd_V gd_k_needLaw (by decide +kernel)) (gd_A (gd_S gd_s_within (by decide +kernel)) (gd_A (gd_V gd_k_needArgument (by decide +kernel)) (gd_A (gd_V gd_k_isCar (by decide +kernel)) (gd_A (by decide +kernel) (gd_A gd_s_isTold (gd_A (gd_V gd_k_needState (by decide +kernel)) (gd_A (by decide +kernel) (gd_A gd_c_become (gd_A gd_i_share rfl))))))))))))
set_option maxHeartbeats 4000000 in
set_option maxRecDepth 100000 in
theorem k_meant (l : Launch) (hl : l.stackTraces = false) (D : va_G) (cy : Nat → ClassId) (sa : Nat → Nat) (kk ta kr kl sA dA pa ki kp wa or_ rq : Nat) (nr nw im : Int) (qf : Nat → Int32) (klf : Nat → Option Nat) (la l0 l2 l3 : Nat) (size : Int) (st sf vf : Nat → Int32) (se : Nat) (fo wth : Int) (tA : Nat) (ca na : Nat) (crow cpace ctyre ckind crt cpt : Int) (nf : Nat → Int32) (s2 s3 s6 s8 s11 s13 : Nat) (wi ro dr dt pe gu sh wo dn mi fl tk go : Int) (wf pf : Nat → Int32) (pt pd ps : Nat) (cars dips : Int) (shf : Nat → Int32) (n x y p0 p1 p2 p3 : Int) (sz : Nat) (hr_nr : 0 ≤ nr ∧ nr ≤ 4) (hr_nw : 0 ≤ nw ∧ nw ≤ 4) (hr_im : 0 ≤ im ∧ im ≤ 3) (hr_size : 0 ≤ size ∧ size ≤ 600) (hr_fo : (-2147483648) ≤ fo ∧ fo ≤ 2147483647) (hr_wth : (-2147483648) ≤ wth ∧ wth ≤ 2147483647) (hr_crow : 0 ≤ crow ∧ crow ≤ 5) (hr_cpace : (-2147483648) ≤ cpace ∧ cpace ≤ 2147483647) (hr_ctyre : (-2147483648) ≤ ctyre ∧ ctyre ≤ 2147483647) (hr_ckind : (-2147483648) ≤ ckind ∧ ckind ≤ 2147483647) (hr_crt : 0 ≤ crt ∧ crt ≤ 5) (hr_cpt : (-2147483648) ≤ cpt ∧ cpt ≤ 2147483647) (hr_wi : 0 ≤ wi ∧ wi ≤ 16) (hr_ro : 0 ≤ ro ∧ ro ≤ 6) (hr_dr : 0 ≤ dr ∧ dr ≤ 14) (hr_dt : 0 ≤ dt ∧ dt ≤ 6) (hr_pe : 0 ≤ pe ∧ pe ≤ 8) (hr_gu : 0 ≤ gu ∧ gu ≤ 20) (hr_sh : 0 ≤ sh ∧ sh ≤ 2) (hr_wo : 0 ≤ wo ∧ wo ≤ 8) (hr_dn : (-2147483648) ≤ dn ∧ dn ≤ 2147483647) (hr_mi : 0 ≤ mi ∧ mi ≤ 600) (hr_fl : (-2147483648) ≤ fl ∧ fl ≤ 2147483647) (hr_tk : (-2147483648) ≤ tk ∧ tk ≤ 2147483647) (hr_go : (-2147483648) ≤ go ∧ go ≤ 2147483647) (hr_cars : 0 ≤ cars ∧ cars ≤ 20) (hr_dips : 0 ≤ dips ∧ dips ≤ 9) (hr_n : (-2147483648) ≤ n ∧ n ≤ 2147483647) (hr_x : (-2147483648) ≤ x ∧ x ≤ 2147483647) (hr_y : (-2147483648) ≤ y ∧ y ≤ 2147483647) (hr_p0 : (-2147483648) ≤ p0 ∧ p0 ≤ 2147483647) (hr_p1 : (-2147483648) ≤ p1 ∧ p1 ≤ 2147483647) (hr_p2 : (-2147483648) ≤ p2 ∧ p2 ≤ 2147483647) (hr_p3 : (-2147483648) ≤ p3 ∧ p3 ≤ 2147483647) (hp0 : 0 ≤ n ∧ n < 4 → klf n.toNat = some la) (hst : inv_ 600 0 2147483647 st) (hpf : tab_ 4 28 [0, 0, (-2147483648), (-2147483648)] [15, 19, 2147483647, 2147483647] pf) : xI9 l yX11_meant vs_k_meant ({ frames := 8, cells := 4, slots := 24, locals := 142 }) D cy sa sz [vR kk, vI n, vI x, vI y, vI p0, vI p1, vI p2, vI p3] [zO kk 11 [vR ta, vR kr, vR kl, vI nr, vI nw, vR sA, vR dA, vR pa, vR ki, vR kp, vI im, vR wa, vR or_, vR rq], zI rq (cy 0) 4 qf, zQ kl (cy 5) 4 klf, zO la 1 [vR l0, vI size, vR l2, vR l3], zI l0 (cy 0) 600 st, zI l2 (cy 0) 5 sf, zI l3 (cy 0) 40 vf, zO wa 9 [vR tA, vR ca, vR se, vI fo, vI wth], zO ca 0 [vR na, vI crow, vI cpace, vI ctyre, vI ckind, vI crt, vI cpt], zI na (cy 0) 7 nf, zO sA 6 [vI wi, vI ro, vR s2, vR s3, vI dr, vI dt, vR s6, vI pe, vR s8, vI gu, vI sh, vR s11, vI wo, vR s13, vI dn, vI mi, vI fl, vI tk, vI go], zI s3 (cy 0) 96 wf, zI s8 (cy 0) 112 pf, zO pa 4 [vI cars, vR pt, vI dips, vR pd, vR ps], zI ps (cy 0) 4 shf] (fun (r : Int32) (u : SV) => r = iI (u.2.1 0) ∧ ((-2147483648) ≤ u.2.1 0 ∧ u.2.1 0 ≤ 2147483647) ∧ (0 ≤ u.2.1 1 ∧ u.2.1 1 ≤ 5) ∧ ((-2147483648) ≤ u.2.1 2 ∧ u.2.1 2 ≤ 2147483647) ∧ ((-2147483648) ≤ u.2.1 3 ∧ u.2.1 3 ≤ 2147483647) ∧ ((-2147483648) ≤ u.2.1 4 ∧ u.2.1 4 ≤ 2147483647) ∧ (0 ≤ u.2.1 5 ∧ u.2.1 5 ≤ 5) ∧ ((-2147483648) ≤ u.2.1 6 ∧ u.2.1 6 ≤ 2147483647) ∧ inv_ 600 0 2147483647 st ∧ tab_ 4 28 [0, 0, (-2147483648), (-2147483648)] [15, 19, 2147483647, 2147483647] pf) (fun u : SV => [zO kk 11 [vR ta, vR kr, vR kl, vI nr, vI nw, vR sA, vR dA, vR pa, vR ki, vR kp, vI im, vR wa, vR or_, vR rq], zI rq (cy 0) 4 qf, zQ kl (cy 5) 4 klf, zO la 1 [vR l0, vI size, vR l2, vR l3], zI l0 (cy 0) 600 st, zI l2 (cy 0) 5 sf, zI l3 (cy 0) 40 (u.2.2 0), zO wa 9 [vR tA, vR ca, vR se, vI fo, vI wth], zO ca 0 [vR na, vI (u.2.1 1), vI (u.2.1 2), vI (u.2.1 3), vI (u.2.1 4), vI (u.2.1 5), vI (u.2.1 6)], zI na (cy 0) 7 (u.2.2 1), zO sA 6 [vI wi, vI ro, vR s2, vR s3, vI dr, vI dt, vR s6, vI pe, vR s8, vI gu, vI sh, vR s11, vI wo, vR s13, vI dn, vI mi, vI fl, vI tk, vI go], zI s3 (cy 0) 96 wf, zI s8 (cy 0) 112 pf, zO pa 4 [vI cars, vR pt, vI dips, vR pd, vR ps], zI ps (cy 0) 4 shf]) (fun (E : String) (u : SV) => (E = "java/lang/IndexOutOfBoundsException" ∨ E = "java/util/NoSuchElementException" ∨ E = "java/lang/IllegalArgumentException" ∨ E = "java/lang/IllegalStateException")) (fun u : SV => [zO kk 11 [vR ta, vR kr, vR kl, vI nr, vI nw, vR sA, vR dA, vR pa, vR ki, vR kp, vI im, vR wa, vR or_, vR rq], zI rq (cy 0) 4 (u.2.2 0), zQ kl (cy 5) 4 klf, zO la 1 [vR l0, vI size, vR l2, vR l3], zI l0 (cy 0) 600 st, zI l2 (cy 0) 5 sf, zI l3 (cy 0) 40 vf, zO wa 9 [vR tA, vR ca, vR se, vI fo, vI wth], zO ca 0 [vR na, vI crow, vI cpace, vI ctyre, vI ckind, vI crt, vI cpt], zI na (cy 0) 7 nf, zO sA 6 [vI wi, vI ro, vR s2, vR s3, vI dr, vI dt, vR s6, vI pe, vR s8, vI gu, vI sh, vR s11, vI wo, vR s13, vI dn, vI mi, vI fl, vI tk, vI go], zI s3 (cy 0) 96 wf, zI s8 (cy 0) 112 pf, zO pa 4 [vI cars, vR pt, vI dips, vR pd, vR ps], zI ps (cy 0) 4 shf]) 4 24 := by
  refine vx_ofW (cc := cX11_meant) (maxL := 8) (ret := (some .int)) (by decide) rfl ?_
  intro p e s m args below meth c s₁ B hml hex hv
  obtain ⟨rfl, hsz, hP, hG, hD0, hT⟩ := hv
  have hx := B.exec
  have hb := B.bytes
  have hr := B.returns
  have hts := atoms_spec (ws := vs_k_meant) B.pre
  have hown : s.vm.findClass RX11 = some m.cls := findClass_of_methodNamed B.named
  have hlocks := B.notSynchronized
  subst hsz
  have hD := hD0.self (sz := s.heap.size)
  generalize hAe : va_A [zO kk 11 [vR ta, vR kr, vR kl, vI nr, vI nw, vR sA, vR dA, vR pa, vR ki, vR kp, vI im, vR wa, vR or_, vR rq], zI rq (cy 0) 4 qf, zQ kl (cy 5) 4 klf, zO la 1 [vR l0, vI size, vR l2, vR l3], zI l0 (cy 0) 600 st, zI l2 (cy 0) 5 sf, zI l3 (cy 0) 40 vf, zO wa 9 [vR tA, vR ca, vR se, vI fo, vI wth], zO ca 0 [vR na, vI crow, vI cpace, vI ctyre, vI ckind, vI crt, vI cpt], zI na (cy 0) 7 nf, zO sA 6 [vI wi, vI ro, vR s2, vR s3, vI dr, vI dt, vR s6, vI pe, vR s8, vI gu, vI sh, vR s11, vI wo, vR s13, vI dn, vI mi, vI fl, vI tk, vI go], zI s3 (cy 0) 96 wf, zI s8 (cy 0) 112 pf, zO pa 4 [vI cars, vR pt, vI dips, vR pd, vR ps], zI ps (cy 0) 4 shf] s.heap.size = A at hD hT ⊢
  have hA : ∀ q : Nat, s.heap.size ≤ q → A q := fun q h => by rw [← hAe]; exact Or.inr h
  have hS : va_S A s.heap s.heap [] := va_S.rf
  have hl0 := lv_entry ([vR kk, vI n, vI x, vI y, vI p0, vI p1, vI p2, vI p3]) (n := 8) (Nat.le_of_ble_eq_true rfl)
  rw [lg_entry_eq]
  generalize (lg_sl ([vR kk, vI n, vI x, vI y, vI p0, vI p1, vI p2, vI p3]) ++ List.replicate (8 - (lg_sl ([vR kk, vI n, vI x, vI y, vI p0, vI p1, vI p2, vI p3])).length) Slot.unset).toArray = ls at hl0 ⊢
  have hlv : lv_has ls 8 [(0, vR kk), (1, vI n), (2, vI x), (3, vI y), (4, vI p0), (5, vI p1), (6, vI p2), (7, vI p3)] := hl0
  have gg_0 : GoodIn vs_k_meant (wsV RX11 159 RX11 yX11_needCell vs_k_needCell) := goodIn_sub (fun w h => List.mem_cons_of_mem _ (List.mem_append_right _ (List.mem_append_left _ h))) (gd_V gd_k_needCell (by decide +kernel))
  have gg_1 : GoodIn vs_k_meant (wsV RX11 227 RX11 yX11_needLaw vs_k_needLaw) := goodIn_sub (fun w h => List.mem_cons_of_mem _ (List.mem_append_right _ (List.mem_append_right _ (List.mem_append_left _ h)))) (gd_V gd_k_needLaw (by decide +kernel))
  have gg_2 : GoodIn vs_k_meant (va_wsS RX11 130 yX11_isWithin vs_s_within) := goodIn_sub (fun w h => List.mem_cons_of_mem _ (List.mem_append_right _ (List.mem_append_right _ (List.mem_append_right _ (List.mem_append_left _ h))))) (gd_S gd_s_within (by decide +kernel))
  have gg_3 : GoodIn vs_k_meant (wsV RX11 134 RX11 yX11_needArgument vs_k_needArgument) := goodIn_sub (fun w h => List.mem_cons_of_mem _ (List.mem_append_right _ (List.mem_append_right _ (List.mem_append_right _ (List.mem_append_right _ (List.mem_append_left _ h)))))) (gd_V gd_k_needArgument (by decide +kernel))
  have gg_4 : GoodIn vs_k_meant (wsV RX11 243 RX11 yX11_isCar vs_k_isCar) := goodIn_sub (fun w h => List.mem_cons_of_mem _ (List.mem_append_right _ (List.mem_append_right _ (List.mem_append_right _ (List.mem_append_right _ (List.mem_append_right _ (List.mem_append_left _ h))))))) (gd_V gd_k_isCar (by decide +kernel))
  have lf31 := hts (.fieldLink RX11 31 "KerbSplash" "now" "LKerbSplash$Street;") (List.mem_of_getElem? (i := 1) rfl)
  have hi11 : ∀ w ∈ wsX110, w ∈ vs_k_meant := fun w h => List.mem_cons_of_mem _ (List.mem_append_right _ (List.mem_append_right _ (List.mem_append_right _ (List.mem_append_right _ (List.mem_append_right _ (List.mem_append_right _ (List.mem_append_left _ h)))))))
  have gg_6 : GoodIn vs_k_meant (vs_s_isTold) := goodIn_sub (fun w h => List.mem_cons_of_mem _ (List.mem_append_right _ (List.mem_append_right _ (List.mem_append_right _ (List.mem_append_right _ (List.mem_append_right _ (List.mem_append_right _ (List.mem_append_right _ (List.mem_append_left _ h))))))))) gd_s_isTold
  have ini_RX6 := hts (.initialized RX6) (List.mem_of_getElem? (i := 2) rfl)
  have im_X6_isTold := hts (.instanceMethod yX6_isTold) (List.mem_of_getElem? (i := 3) rfl)
  have se_X6_isTold := hts (.selects RX6 yX6_isTold yX6_isTold) (List.mem_of_getElem? (i := 4) rfl)
  have gg_7 : GoodIn vs_k_meant (wsV RX11 202 RX11 yX11_needState vs_k_needState) := goodIn_sub (fun w h => List.mem_cons_of_mem _ (List.mem_append_right _ (List.mem_append_right _ (List.mem_append_right _ (List.mem_append_right _ (List.mem_append_right _ (List.mem_append_right _ (List.mem_append_right _ (List.mem_append_right _ (List.mem_append_left _ h)))))))))) (gd_V gd_k_needState (by decide +kernel))
  have lf56 := hts (.fieldLink RX11 56 "KerbSplash" "whatIf" "LKerbSplash$WhatIf;") (List.mem_of_getElem? (i := 5) rfl)
  have hi9 : ∀ w ∈ wsX90, w ∈ vs_k_meant := fun w h => List.mem_cons_of_mem _ (List.mem_append_right _ (List.mem_append_right _ (List.mem_append_right _ (List.mem_append_right _ (List.mem_append_right _ (List.mem_append_right _ (List.mem_append_right _ (List.mem_append_right _ (List.mem_append_right _ (List.mem_append_left _ h))))))))))
  have gg_9 : GoodIn vs_k_meant (vs_c_become) := goodIn_sub (fun w h => List.mem_cons_of_mem _ (List.mem_append_right _ (List.mem_append_right _ (List.mem_append_right _ (List.mem_append_right _ (List.mem_append_right _ (List.mem_append_right _ (List.mem_append_right _ (List.mem_append_right _ (List.mem_append_right _ (List.mem_append_right _ (List.mem_append_left _ h)))))))))))) gd_c_become
  have ini_RX0 := hts (.initialized RX0) (List.mem_of_getElem? (i := 6) rfl)
  have im_X0_become := hts (.instanceMethod yX0_become) (List.mem_of_getElem? (i := 7) rfl)
  have se_X0_become := hts (.selects RX0 yX0_become yX0_become) (List.mem_of_getElem? (i := 8) rfl)
  have lf41 := hts (.fieldLink RX11 41 "KerbSplash" "plan" "LKerbSplash$Plan;") (List.mem_of_getElem? (i := 9) rfl)
  have lf24 := hts (.fieldLink RX11 24 "KerbSplash" "laws" "[LKerbSplash$Law;") (List.mem_of_getElem? (i := 10) rfl)
  have gg_10 : GoodIn vs_k_meant (vs_i_share) := goodIn_sub (fun w h => List.mem_cons_of_mem _ (List.mem_append_right _ (List.mem_append_right _ (List.mem_append_right _ (List.mem_append_right _ (List.mem_append_right _ (List.mem_append_right _ (List.mem_append_right _ (List.mem_append_right _ (List.mem_append_right _ (List.mem_append_right _ (List.mem_append_right _ (List.mem_append_left _ h))))))))))))) gd_i_share
  have ini_RX9 := hts (.initialized RX9) (List.mem_of_getElem? (i := 11) rfl)
  have im_X9_shareMeant := hts (.instanceMethod yX9_shareMeant) (List.mem_of_getElem? (i := 12) rfl)
  have se_X9_shareMeant := hts (.selects RX9 yX9_shareMeant yX9_shareMeant) (List.mem_of_getElem? (i := 13) rfl)
  refine lv_aload_n hx hb dX11_meant_0 rfl (lv_at hlv 0 rfl) ?_
  refine lv_iload_n hx hb dX11_meant_1 rfl (lv_at hlv 2 rfl) ?_
  refine lv_iload_n hx hb dX11_meant_2 rfl (lv_at hlv 3 rfl) ?_
  refine cjrx_v [false, false, true, true, true, true, true, true, true, true, false, true, true, true, true] (fun pre9 => (vx_runV (As := [vI x, vI y]) (rest := []) ⟨hx, hb, hml, hown, hts⟩ (k_needCell l hl D cy sa kk ta kr kl sA dA pa ki kp wa or_ rq nr nw im s2 s3 s6 s8 s11 s13 wi ro dr dt pe gu sh wo dn mi fl tk go qf x y s.heap.size (by first | exact hr_nr | omega) (by first | exact hr_nw | omega) (by first | exact hr_im | omega) (by first | exact hr_wi | omega) (by first | exact hr_ro | omega) (by first | exact hr_dr | omega) (by first | exact hr_dt | omega) (by first | exact hr_pe | omega) (by first | exact hr_gu | omega) (by first | exact hr_sh | omega) (by first | exact hr_wo | omega) (by first | exact hr_dn | omega) (by first | exact hr_mi | omega) (by first | exact hr_fl | omega) (by first | exact hr_tk | omega) (by first | exact hr_go | omega) (by first | exact hr_x | omega) (by first | exact hr_y | omega)) (cwV 2 hts gg_0 rfl rfl rfl (by decide +kernel) ⟨Nat.le_of_ble_eq_true rfl, Nat.le_of_ble_eq_true rfl⟩) ⟨pcW.blind, (va_recv hG.1 hP (ci := 11) (q0 := 0) rfl rfl), pre9⟩ rfl rfl hlv.1 rfl (lv_room (Nat.le_of_ble_eq_true rfl)) dX11_meant_3 ⟨Nat.le_of_ble_eq_true rfl, Nat.le_of_ble_eq_true rfl⟩)) hP hD hS hA hG hT [0, 1, 10] rfl (by decide +kernel) (fun E ux1 ce q9 H locs hp hq9 hS h1 h2 h3 => ?_) (fun u1 H locs hw1 hq9 hS => ?_)
  · obtain ⟨hP, hD⟩ := hq9
    obtain rfl := hp
    exact vx_out (fun x h => (hex x h).elim) hlocks h1 h2 h3 (fun t ht hvm => ⟨((fun k => ([] : List Nat).getD k 0), (fun k => ([] : List Int).getD k 0), (fun k => ([(ux1.2.2 0)] : List (Nat → Int32)).getD k (fun _ => 0))), trivial, ⟨Or.inl rfl, at9 ht hP hD [12, 13, 0, 1, 2, 3, 4, 5, 6, 7, 14, 8, 9, 10, 11] (by decide +kernel) rfl⟩, hS.F ht⟩) hS.2.2 (Nat.le_of_ble_eq_true rfl) (Nat.le_of_ble_eq_true rfl)
  have hq1_0 : ((0 : Int) ≤ x ∧ x < wi ∧ 0 ≤ y ∧ y < ro) := hw1
  obtain ⟨hP, hD⟩ := pd9 [zQ kl (cy 5) 4 klf, zO la 1 [vR l0, vI size, vR l2, vR l3], zI l0 (cy 0) 600 st, zI l2 (cy 0) 5 sf, zI l3 (cy 0) 40 vf, zO wa 9 [vR tA, vR ca, vR se, vI fo, vI wth], zO ca 0 [vR na, vI crow, vI cpace, vI ctyre, vI ckind, vI crt, vI cpt], zI na (cy 0) 7 nf, zI s3 (cy 0) 96 wf, zI s8 (cy 0) 112 pf, zO pa 4 [vI cars, vR pt, vI dips, vR pd, vR ps], zI ps (cy 0) 4 shf, zO kk 11 [vR ta, vR kr, vR kl, vI nr, vI nw, vR sA, vR dA, vR pa, vR ki, vR kp, vI im, vR wa, vR or_, vR rq], zI rq (cy 0) 4 qf, zO sA 6 [vI wi, vI ro, vR s2, vR s3, vI dr, vI dt, vR s6, vI pe, vR s8, vI gu, vI sh, vR s11, vI wo, vR s13, vI dn, vI mi, vI fl, vI tk, vI go]] hq9
  refine lv_aload_n hx hb dX11_meant_6 rfl (lv_at hlv 0 rfl) ?_
  refine lv_iload_n hx hb dX11_meant_7 rfl (lv_at hlv 1 rfl) ?_
  refine cjrx_v [true, true, true, true, true, true, true, true, true, true, true, true, false, false, true] (fun pre9 => (vx_runV (As := [vI n]) (rest := []) ⟨hx, hb, hml, hown, hts⟩ (k_needLaw l hl D cy sa kk ta kr kl sA dA pa ki kp wa or_ rq nr nw im qf n H.size (by first | exact hr_nr | omega) (by first | exact hr_nw | omega) (by first | exact hr_im | omega) (by first | exact hr_n | omega)) (cwV 1 hts gg_1 rfl rfl rfl (by decide +kernel) ⟨Nat.le_of_ble_eq_true rfl, Nat.le_of_ble_eq_true rfl⟩) ⟨pcW.blind, (va_recv hG.1 hP (ci := 11) (q0 := 12) rfl rfl), pre9⟩ rfl rfl hlv.1 rfl (lv_room (Nat.le_of_ble_eq_true rfl)) dX11_meant_8 ⟨Nat.le_of_ble_eq_true rfl, Nat.le_of_ble_eq_true rfl⟩)) hP hD hS hA hG hT [12, 13] rfl (by decide +kernel) (fun E ux2 ce q9 H locs hp hq9 hS h1 h2 h3 => ?_) (fun u2 H locs hw2 hq9 hS => ?_)
  · obtain ⟨hP, hD⟩ := hq9
    obtain rfl := hp
    exact vx_out (fun x h => (hex x h).elim) hlocks h1 h2 h3 (fun t ht hvm => ⟨((fun k => ([] : List Nat).getD k 0), (fun k => ([] : List Int).getD k 0), (fun k => ([(ux2.2.2 0)] : List (Nat → Int32)).getD k (fun _ => 0))), trivial, ⟨Or.inr (Or.inl rfl), at9 ht hP hD [13, 14, 0, 1, 2, 3, 4, 5, 6, 7, 12, 8, 9, 10, 11] (by decide +kernel) rfl⟩, hS.F ht⟩) hS.2.2 (Nat.le_of_ble_eq_true rfl) (Nat.le_of_ble_eq_true rfl)
  have hq2_0 : ((0 : Int) ≤ n ∧ n < nw) := hw2
  obtain ⟨hP, hD⟩ := pd9 [zQ kl (cy 5) 4 klf, zO la 1 [vR l0, vI size, vR l2, vR l3], zI l0 (cy 0) 600 st, zI l2 (cy 0) 5 sf, zI l3 (cy 0) 40 vf, zO wa 9 [vR tA, vR ca, vR se, vI fo, vI wth], zO ca 0 [vR na, vI crow, vI cpace, vI ctyre, vI ckind, vI crt, vI cpt], zI na (cy 0) 7 nf, zI s3 (cy 0) 96 wf, zI s8 (cy 0) 112 pf, zO pa 4 [vI cars, vR pt, vI dips, vR pd, vR ps], zI ps (cy 0) 4 shf, zO sA 6 [vI wi, vI ro, vR s2, vR s3, vI dr, vI dt, vR s6, vI pe, vR s8, vI gu, vI sh, vR s11, vI wo, vR s13, vI dn, vI mi, vI fl, vI tk, vI go], zO kk 11 [vR ta, vR kr, vR kl, vI nr, vI nw, vR sA, vR dA, vR pa, vR ki, vR kp, vI im, vR wa, vR or_, vR rq], zI rq (cy 0) 4 qf] hq9
  refine lv_aload_n hx hb dX11_meant_11 rfl (lv_at hlv 0 rfl) ?_
  refine lv_iload hx hb dX11_meant_12 (lv_at hlv 4 rfl) ?_
  refine lv_iconst (v := iI 1) hx hb dX11_meant_14 (by decide) ?_
  refine lv_bipush (v := iI 60) hx hb dX11_meant_15 (by decide) ?_
  refine cjr_i [true, true, true, true, true, true, true, true, true, true, true, true, true, true, true] (fun pre9 => (va_runS (As := [vI p0, vI 1, vI 60]) (rest := [vR kk]) ⟨hx, hb, hml, hown, hts⟩ (s_within l hl D cy sa p0 1 60 H.size (by first | exact hr_p0 | omega) (by show ((-2147483648) : Int) ≤ 1 ∧ (1 : Int) ≤ 2147483647; decide) (by show ((-2147483648) : Int) ≤ 60 ∧ (60 : Int) ≤ 2147483647; decide)) (va_cwS 3 hts gg_2 rfl rfl rfl (by decide +kernel) ⟨Nat.le_of_ble_eq_true rfl, Nat.le_of_ble_eq_true rfl⟩) ⟨pcW.blind, pre9⟩ rfl rfl hlv.1 rfl (lv_room (Nat.le_of_ble_eq_true rfl)) dX11_meant_17 ⟨Nat.le_of_ble_eq_true rfl, Nat.le_of_ble_eq_true rfl⟩)) hP hD hS hA hG hT [] rfl (by decide +kernel) (fun r3 u3 H locs hw3 hq9 hS => ?_)
  obtain ⟨rfl, hq3_1, hq3_2, hq3_3⟩ := hw3
  obtain ⟨hP, hD⟩ := pd9 [zQ kl (cy 5) 4 klf, zO la 1 [vR l0, vI size, vR l2, vR l3], zI l0 (cy 0) 600 st, zI l2 (cy 0) 5 sf, zI l3 (cy 0) 40 vf, zO wa 9 [vR tA, vR ca, vR se, vI fo, vI wth], zO ca 0 [vR na, vI crow, vI cpace, vI ctyre, vI ckind, vI crt, vI cpt], zI na (cy 0) 7 nf, zI s3 (cy 0) 96 wf, zI s8 (cy 0) 112 pf, zO pa 4 [vI cars, vR pt, vI dips, vR pd, vR ps], zI ps (cy 0) 4 shf, zO sA 6 [vI wi, vI ro, vR s2, vR s3, vI dr, vI dt, vR s6, vI pe, vR s8, vI gu, vI sh, vR s11, vI wo, vR s13, vI dn, vI mi, vI fl, vI tk, vI go], zO kk 11 [vR ta, vR kr, vR kl, vI nr, vI nw, vR sA, vR dA, vR pa, vR ki, vR kp, vI im, vR wa, vR or_, vR rq], zI rq (cy 0) 4 qf] hq9
  refine iz_eq (tgt := 41) hx hb dX11_meant_20 (by decide) (by first | exact rgw hq3_1 (by decide) (by decide) | omega) (fun c_1 => ?_) (fun c_1 => ?_)
  · refine lv_iconst (v := iI 0) hx hb dX11_meant_41 (by decide) ?_
    refine cjrx_v [true, true, true, true, true, true, true, true, true, true, true, true, true, false, false] (fun pre9 => (vx_runV (As := [vI 0]) (rest := []) ⟨hx, hb, hml, hown, hts⟩ (k_needArgument l hl D cy sa kk ta kr kl sA dA pa ki kp wa or_ rq nr nw im qf 0 H.size (by first | exact hr_nr | omega) (by first | exact hr_nw | omega) (by first | exact hr_im | omega) (by show (0 : Int) ≤ 0 ∧ (0 : Int) ≤ 1; decide)) (cwV 1 hts gg_3 rfl rfl rfl (by decide +kernel) ⟨Nat.le_of_ble_eq_true rfl, Nat.le_of_ble_eq_true rfl⟩) ⟨pcW.blind, (va_recv hG.1 hP (ci := 11) (q0 := 13) rfl rfl), pre9⟩ rfl rfl hlv.1 rfl (lv_room (Nat.le_of_ble_eq_true rfl)) dX11_meant_42 ⟨Nat.le_of_ble_eq_true rfl, Nat.le_of_ble_eq_true rfl⟩)) hP hD hS hA hG hT [13, 14] rfl (by decide +kernel) (fun E ux4 ce q9 H locs hp hq9 hS h1 h2 h3 => ?_) (fun u4 H locs hw4 hq9 hS => ?_)
    · obtain ⟨hP, hD⟩ := hq9
      obtain ⟨hp, hxg4⟩ := hp
      obtain rfl := hp
      exact vx_out (fun x h => (hex x h).elim) hlocks h1 h2 h3 (fun t ht hvm => ⟨((fun k => ([] : List Nat).getD k 0), (fun k => ([] : List Int).getD k 0), (fun k => ([(ux4.2.2 0)] : List (Nat → Int32)).getD k (fun _ => 0))), trivial, ⟨Or.inr (Or.inr (Or.inl rfl)), at9 ht hP hD [13, 14, 0, 1, 2, 3, 4, 5, 6, 7, 12, 8, 9, 10, 11] (by decide +kernel) rfl⟩, hS.F ht⟩) hS.2.2 (Nat.le_of_ble_eq_true rfl) (Nat.le_of_ble_eq_true rfl)
    have hq4_0 : ((0 : Int) = 1) := hw4
    obtain ⟨hP, hD⟩ := pd9 [zQ kl (cy 5) 4 klf, zO la 1 [vR l0, vI size, vR l2, vR l3], zI l0 (cy 0) 600 st, zI l2 (cy 0) 5 sf, zI l3 (cy 0) 40 vf, zO wa 9 [vR tA, vR ca, vR se, vI fo, vI wth], zO ca 0 [vR na, vI crow, vI cpace, vI ctyre, vI ckind, vI crt, vI cpt], zI na (cy 0) 7 nf, zI s3 (cy 0) 96 wf, zI s8 (cy 0) 112 pf, zO pa 4 [vI cars, vR pt, vI dips, vR pd, vR ps], zI ps (cy 0) 4 shf, zO sA 6 [vI wi, vI ro, vR s2, vR s3, vI dr, vI dt, vR s6, vI pe, vR s8, vI gu, vI sh, vR s11, vI wo, vR s13, vI dn, vI mi, vI fl, vI tk, vI go], zO kk 11 [vR ta, vR kr, vR kl, vI nr, vI nw, vR sA, vR dA, vR pa, vR ki, vR kp, vI im, vR wa, vR or_, vR rq], zI rq (cy 0) 4 qf] hq9
    exfalso; omega
  · refine lv_aload_n hx hb dX11_meant_23 rfl (lv_at hlv 0 rfl) ?_
    refine lv_iload hx hb dX11_meant_24 (lv_at hlv 5 rfl) ?_
    refine lv_iload hx hb dX11_meant_26 (lv_at hlv 6 rfl) ?_
    refine lv_iload hx hb dX11_meant_28 (lv_at hlv 7 rfl) ?_
    refine lv_iconst (v := iI 0) hx hb dX11_meant_30 (by decide) ?_
    refine cjr_i [true, true, true, true, true, true, true, true, true, true, true, true, false, false, true] (fun pre9 => (va_runV (As := [vI p1, vI p2, vI p3, vI 0]) (rest := [vR kk]) ⟨hx, hb, hml, hown, hts⟩ (k_isCar l hl D cy sa kk ta kr kl sA dA pa ki kp wa or_ rq nr nw im s2 s3 s6 s8 s11 s13 wi ro dr dt pe gu sh wo dn mi fl tk go p1 p2 p3 0 H.size (by first | exact hr_nr | omega) (by first | exact hr_nw | omega) (by first | exact hr_im | omega) (by first | exact hr_wi | omega) (by first | exact hr_ro | omega) (by first | exact hr_dr | omega) (by first | exact hr_dt | omega) (by first | exact hr_pe | omega) (by first | exact hr_gu | omega) (by first | exact hr_sh | omega) (by first | exact hr_wo | omega) (by first | exact hr_dn | omega) (by first | exact hr_mi | omega) (by first | exact hr_fl | omega) (by first | exact hr_tk | omega) (by first | exact hr_go | omega) (by first | exact hr_p1 | omega) (by first | exact hr_p2 | omega) (by first | exact hr_p3 | omega) (by show ((-2147483648) : Int) ≤ 0 ∧ (0 : Int) ≤ 2147483647; decide)) (cwV 4 hts gg_4 rfl rfl rfl (by decide +kernel) ⟨Nat.le_of_ble_eq_true rfl, Nat.le_of_ble_eq_true rfl⟩) ⟨pcW.blind, (va_recv hG.1 hP (ci := 11) (q0 := 13) rfl rfl), pre9⟩ rfl rfl hlv.1 rfl (lv_room (Nat.le_of_ble_eq_true rfl)) dX11_meant_31 ⟨Nat.le_of_ble_eq_true rfl, Nat.le_of_ble_eq_true rfl⟩)) hP hD hS hA hG hT [13, 12] rfl (by decide +kernel) (fun r5 u5 H locs hw5 hq9 hS => ?_)
    obtain ⟨rfl, hq5_1, hq5_2⟩ := hw5
    obtain ⟨hP, hD⟩ := pd9 [zQ kl (cy 5) 4 klf, zO la 1 [vR l0, vI size, vR l2, vR l3], zI l0 (cy 0) 600 st, zI l2 (cy 0) 5 sf, zI l3 (cy 0) 40 vf, zO wa 9 [vR tA, vR ca, vR se, vI fo, vI wth], zO ca 0 [vR na, vI crow, vI cpace, vI ctyre, vI ckind, vI crt, vI cpt], zI na (cy 0) 7 nf, zI s3 (cy 0) 96 wf, zI s8 (cy 0) 112 pf, zO pa 4 [vI cars, vR pt, vI dips, vR pd, vR ps], zI ps (cy 0) 4 shf, zI rq (cy 0) 4 qf, zO kk 11 [vR ta, vR kr, vR kl, vI nr, vI nw, vR sA, vR dA, vR pa, vR ki, vR kp, vI im, vR wa, vR or_, vR rq], zO sA 6 [vI wi, vI ro, vR s2, vR s3, vI dr, vI dt, vR s6, vI pe, vR s8, vI gu, vI sh, vR s11, vI wo, vR s13, vI dn, vI mi, vI fl, vI tk, vI go]] hq9
    refine iz_eq (tgt := 41) hx hb dX11_meant_34 (by decide) (by first | exact rgw hq5_1 (by decide) (by decide) | omega) (fun c_2 => ?_) (fun c_2 => ?_)
    · refine lv_iconst (v := iI 0) hx hb dX11_meant_41 (by decide) ?_
      refine cjrx_v [true, true, true, true, true, true, true, true, true, true, true, true, false, false, true] (fun pre9 => (vx_runV (As := [vI 0]) (rest := []) ⟨hx, hb, hml, hown, hts⟩ (k_needArgument l hl D cy sa kk ta kr kl sA dA pa ki kp wa or_ rq nr nw im qf 0 H.size (by first | exact hr_nr | omega) (by first | exact hr_nw | omega) (by first | exact hr_im | omega) (by show (0 : Int) ≤ 0 ∧ (0 : Int) ≤ 1; decide)) (cwV 1 hts gg_3 rfl rfl rfl (by decide +kernel) ⟨Nat.le_of_ble_eq_true rfl, Nat.le_of_ble_eq_true rfl⟩) ⟨pcW.blind, (va_recv hG.1 hP (ci := 11) (q0 := 13) rfl rfl), pre9⟩ rfl rfl hlv.1 rfl (lv_room (Nat.le_of_ble_eq_true rfl)) dX11_meant_42 ⟨Nat.le_of_ble_eq_true rfl, Nat.le_of_ble_eq_true rfl⟩)) hP hD hS hA hG hT [13, 12] rfl (by decide +kernel) (fun E ux6 ce q9 H locs hp hq9 hS h1 h2 h3 => ?_) (fun u6 H locs hw6 hq9 hS => ?_)
      · obtain ⟨hP, hD⟩ := hq9
        obtain ⟨hp, hxg6⟩ := hp
        obtain rfl := hp
        exact vx_out (fun x h => (hex x h).elim) hlocks h1 h2 h3 (fun t ht hvm => ⟨((fun k => ([] : List Nat).getD k 0), (fun k => ([] : List Int).getD k 0), (fun k => ([(ux6.2.2 0)] : List (Nat → Int32)).getD k (fun _ => 0))), trivial, ⟨Or.inr (Or.inr (Or.inl rfl)), at9 ht hP hD [13, 14, 0, 1, 2, 3, 4, 5, 6, 7, 12, 8, 9, 10, 11] (by decide +kernel) rfl⟩, hS.F ht⟩) hS.2.2 (Nat.le_of_ble_eq_true rfl) (Nat.le_of_ble_eq_true rfl)
      have hq6_0 : ((0 : Int) = 1) := hw6
      obtain ⟨hP, hD⟩ := pd9 [zQ kl (cy 5) 4 klf, zO la 1 [vR l0, vI size, vR l2, vR l3], zI l0 (cy 0) 600 st, zI l2 (cy 0) 5 sf, zI l3 (cy 0) 40 vf, zO wa 9 [vR tA, vR ca, vR se, vI fo, vI wth], zO ca 0 [vR na, vI crow, vI cpace, vI ctyre, vI ckind, vI crt, vI cpt], zI na (cy 0) 7 nf, zI s3 (cy 0) 96 wf, zI s8 (cy 0) 112 pf, zO pa 4 [vI cars, vR pt, vI dips, vR pd, vR ps], zI ps (cy 0) 4 shf, zO sA 6 [vI wi, vI ro, vR s2, vR s3, vI dr, vI dt, vR s6, vI pe, vR s8, vI gu, vI sh, vR s11, vI wo, vR s13, vI dn, vI mi, vI fl, vI tk, vI go], zO kk 11 [vR ta, vR kr, vR kl, vI nr, vI nw, vR sA, vR dA, vR pa, vR ki, vR kp, vI im, vR wa, vR or_, vR rq], zI rq (cy 0) 4 qf] hq9
      exfalso; omega
    · refine lv_iconst (v := iI 1) hx hb dX11_meant_37 (by decide) ?_
      refine lv_goto (tgt := 42) hx hb dX11_meant_38 (by decide) ?_
      refine cjrx_v [true, true, true, true, true, true, true, true, true, true, true, true, false, false, true] (fun pre9 => (vx_runV (As := [vI 1]) (rest := []) ⟨hx, hb, hml, hown, hts⟩ (k_needArgument l hl D cy sa kk ta kr kl sA dA pa ki kp wa or_ rq nr nw im qf 1 H.size (by first | exact hr_nr | omega) (by first | exact hr_nw | omega) (by first | exact hr_im | omega) (by show (0 : Int) ≤ 1 ∧ (1 : Int) ≤ 1; decide)) (cwV 1 hts gg_3 rfl rfl rfl (by decide +kernel) ⟨Nat.le_of_ble_eq_true rfl, Nat.le_of_ble_eq_true rfl⟩) ⟨pcW.blind, (va_recv hG.1 hP (ci := 11) (q0 := 13) rfl rfl), pre9⟩ rfl rfl hlv.1 rfl (lv_room (Nat.le_of_ble_eq_true rfl)) dX11_meant_42 ⟨Nat.le_of_ble_eq_true rfl, Nat.le_of_ble_eq_true rfl⟩)) hP hD hS hA hG hT [13, 12] rfl (by decide +kernel) (fun E ux7 ce q9 H locs hp hq9 hS h1 h2 h3 => ?_) (fun u7 H locs hw7 hq9 hS => ?_)
      · obtain ⟨hP, hD⟩ := hq9
        obtain ⟨hp, hxg7⟩ := hp
        obtain rfl := hp
        exact vx_out (fun x h => (hex x h).elim) hlocks h1 h2 h3 (fun t ht hvm => ⟨((fun k => ([] : List Nat).getD k 0), (fun k => ([] : List Int).getD k 0), (fun k => ([(ux7.2.2 0)] : List (Nat → Int32)).getD k (fun _ => 0))), trivial, ⟨Or.inr (Or.inr (Or.inl rfl)), at9 ht hP hD [13, 14, 0, 1, 2, 3, 4, 5, 6, 7, 12, 8, 9, 10, 11] (by decide +kernel) rfl⟩, hS.F ht⟩) hS.2.2 (Nat.le_of_ble_eq_true rfl) (Nat.le_of_ble_eq_true rfl)
      have hq7_0 : ((1 : Int) = 1) := hw7
      obtain ⟨hP, hD⟩ := pd9 [zQ kl (cy 5) 4 klf, zO la 1 [vR l0, vI size, vR l2, vR l3], zI l0 (cy 0) 600 st, zI l2 (cy 0) 5 sf, zI l3 (cy 0) 40 vf, zO wa 9 [vR tA, vR ca, vR se, vI fo, vI wth], zO ca 0 [vR na, vI crow, vI cpace, vI ctyre, vI ckind, vI crt, vI cpt], zI na (cy 0) 7 nf, zI s3 (cy 0) 96 wf, zI s8 (cy 0) 112 pf, zO pa 4 [vI cars, vR pt, vI dips, vR pd, vR ps], zI ps (cy 0) 4 shf, zO sA 6 [vI wi, vI ro, vR s2, vR s3, vI dr, vI dt, vR s6, vI pe, vR s8, vI gu, vI sh, vR s11, vI wo, vR s13, vI dn, vI mi, vI fl, vI tk, vI go], zO kk 11 [vR ta, vR kr, vR kl, vI nr, vI nw, vR sA, vR dA, vR pa, vR ki, vR kp, vI im, vR wa, vR or_, vR rq], zI rq (cy 0) 4 qf] hq9
      refine lv_aload_n hx hb dX11_meant_45 rfl (lv_at hlv 0 rfl) ?_
      refine lv_aload_n hx hb dX11_meant_46 rfl (lv_at hlv 0 rfl) ?_
      refine va_get (D := D) (ci := 11) (v := vR sA) (C := RX11) (T := TX11) (N := 14) hx hb hts hi11 hown hG.1 hP 13 rfl rfl 5 (by decide) lf31 (fun _ h9 => h9) rfl dX11_meant_47 ?_
      refine cjr_i [true, true, true, true, true, true, true, true, true, true, true, true, false, true, true] (fun pre9 => (va_runVN (host := "KerbSplash") (As := []) (rest := [vR kk]) ⟨hx, hb, hml, hown, hts⟩ (s_isTold l hl D cy sa sA s2 s3 s6 s8 s11 s13 wi ro dr dt pe gu sh wo dn mi fl tk go H.size (by first | exact hr_wi | omega) (by first | exact hr_ro | omega) (by first | exact hr_dr | omega) (by first | exact hr_dt | omega) (by first | exact hr_pe | omega) (by first | exact hr_gu | omega) (by first | exact hr_sh | omega) (by first | exact hr_wo | omega) (by first | exact hr_dn | omega) (by first | exact hr_mi | omega) (by first | exact hr_fl | omega) (by first | exact hr_tk | omega) (by first | exact hr_go | omega)) ⟨va_cnB 0 hts gg_6 rfl rfl rfl (nM_K_196 hG.2.1) ini_RX6 (by decide +kernel) ⟨Nat.le_of_ble_eq_true rfl, Nat.le_of_ble_eq_true rfl⟩, im_X6_isTold, se_X6_isTold⟩ ⟨pcW.blind, (va_recv hG.1 hP (ci := 6) (q0 := 12) rfl rfl), pre9⟩ rfl rfl hlv.1 rfl (lv_room (Nat.le_of_ble_eq_true rfl)) dX11_meant_50 ⟨Nat.le_of_ble_eq_true rfl, Nat.le_of_ble_eq_true rfl⟩)) hP hD hS hA hG hT [12] rfl (by decide +kernel) (fun r8 u8 H locs hw8 hq9 hS => ?_)
      obtain ⟨rfl, hq8_1, hq8_2⟩ := hw8
      obtain ⟨hP, hD⟩ := pd9 [zQ kl (cy 5) 4 klf, zO la 1 [vR l0, vI size, vR l2, vR l3], zI l0 (cy 0) 600 st, zI l2 (cy 0) 5 sf, zI l3 (cy 0) 40 vf, zO wa 9 [vR tA, vR ca, vR se, vI fo, vI wth], zO ca 0 [vR na, vI crow, vI cpace, vI ctyre, vI ckind, vI crt, vI cpt], zI na (cy 0) 7 nf, zI s3 (cy 0) 96 wf, zI s8 (cy 0) 112 pf, zO pa 4 [vI cars, vR pt, vI dips, vR pd, vR ps], zI ps (cy 0) 4 shf, zO kk 11 [vR ta, vR kr, vR kl, vI nr, vI nw, vR sA, vR dA, vR pa, vR ki, vR kp, vI im, vR wa, vR or_, vR rq], zI rq (cy 0) 4 qf, zO sA 6 [vI wi, vI ro, vR s2, vR s3, vI dr, vI dt, vR s6, vI pe, vR s8, vI gu, vI sh, vR s11, vI wo, vR s13, vI dn, vI mi, vI fl, vI tk, vI go]] hq9
      refine cjrx_v [true, true, true, true, true, true, true, true, true, true, true, true, false, false, true] (fun pre9 => (vx_runV (As := [vI (u8.2.1 0)]) (rest := []) ⟨hx, hb, hml, hown, hts⟩ (k_needState l hl D cy sa kk ta kr kl sA dA pa ki kp wa or_ rq nr nw im qf (u8.2.1 0) H.size (by first | exact hr_nr | omega) (by first | exact hr_nw | omega) (by first | exact hr_im | omega) (by first | exact hq8_1 | omega)) (cwV 1 hts gg_7 rfl rfl rfl (by decide +kernel) ⟨Nat.le_of_ble_eq_true rfl, Nat.le_of_ble_eq_true rfl⟩) ⟨pcW.blind, (va_recv hG.1 hP (ci := 11) (q0 := 12) rfl rfl), pre9⟩ rfl rfl hlv.1 rfl (lv_room (Nat.le_of_ble_eq_true rfl)) dX11_meant_53 ⟨Nat.le_of_ble_eq_true rfl, Nat.le_of_ble_eq_true rfl⟩)) hP hD hS hA hG hT [12, 13] rfl (by decide +kernel) (fun E ux9 ce q9 H locs hp hq9 hS h1 h2 h3 => ?_) (fun u9 H locs hw9 hq9 hS => ?_)
      · obtain ⟨hP, hD⟩ := hq9
        obtain ⟨hp, hxg9⟩ := hp
        obtain rfl := hp
        exact vx_out (fun x h => (hex x h).elim) hlocks h1 h2 h3 (fun t ht hvm => ⟨((fun k => ([] : List Nat).getD k 0), (fun k => ([] : List Int).getD k 0), (fun k => ([(ux9.2.2 0)] : List (Nat → Int32)).getD k (fun _ => 0))), trivial, ⟨Or.inr (Or.inr (Or.inr (rfl))), at9 ht hP hD [13, 14, 0, 1, 2, 3, 4, 5, 6, 7, 12, 8, 9, 10, 11] (by decide +kernel) rfl⟩, hS.F ht⟩) hS.2.2 (Nat.le_of_ble_eq_true rfl) (Nat.le_of_ble_eq_true rfl)
      have hq9_0 : ((u8.2.1 0) = 1) := hw9
      obtain ⟨hP, hD⟩ := pd9 [zQ kl (cy 5) 4 klf, zO la 1 [vR l0, vI size, vR l2, vR l3], zI l0 (cy 0) 600 st, zI l2 (cy 0) 5 sf, zI l3 (cy 0) 40 vf, zO wa 9 [vR tA, vR ca, vR se, vI fo, vI wth], zO ca 0 [vR na, vI crow, vI cpace, vI ctyre, vI ckind, vI crt, vI cpt], zI na (cy 0) 7 nf, zI s3 (cy 0) 96 wf, zI s8 (cy 0) 112 pf, zO pa 4 [vI cars, vR pt, vI dips, vR pd, vR ps], zI ps (cy 0) 4 shf, zO sA 6 [vI wi, vI ro, vR s2, vR s3, vI dr, vI dt, vR s6, vI pe, vR s8, vI gu, vI sh, vR s11, vI wo, vR s13, vI dn, vI mi, vI fl, vI tk, vI go], zO kk 11 [vR ta, vR kr, vR kl, vI nr, vI nw, vR sA, vR dA, vR pa, vR ki, vR kp, vI im, vR wa, vR or_, vR rq], zI rq (cy 0) 4 qf] hq9
      refine lv_aload_n hx hb dX11_meant_56 rfl (lv_at hlv 0 rfl) ?_
      refine va_get (D := D) (ci := 11) (v := vR wa) (C := RX11) (T := TX11) (N := 14) hx hb hts hi11 hown hG.1 hP 13 rfl rfl 11 (by decide) lf56 (fun _ h9 => h9) rfl dX11_meant_57 ?_
      refine va_getN (D := D) (ci := 9) (v := vR ca) (C := RX9) (T := TX9) (N := 5) hx hb hts hi9 hown hG.1 hP 5 rfl rfl 1 (by decide) (va_Nw.use rfl (nF_K_230 hG.2.1)) (fun _ h9 => h9) rfl dX11_meant_60 ?_
      refine lv_iload hx hb dX11_meant_63 (lv_at hlv 5 rfl) ?_
      refine lv_iload hx hb dX11_meant_65 (lv_at hlv 6 rfl) ?_
      refine lv_iload hx hb dX11_meant_67 (lv_at hlv 7 rfl) ?_
      refine lv_iconst (v := iI 0) hx hb dX11_meant_69 (by decide) ?_
      refine cjr_v [true, true, true, true, true, true, false, true, true, true, true, true, true, true, true] (fun pre9 => (va_runVN (host := "KerbSplash") (As := [vI p1, vI p2, vI p3, vI 0]) (rest := []) ⟨hx, hb, hml, hown, hts⟩ (c_become l hl D cy sa ca na crow cpace ctyre ckind crt cpt p1 p2 p3 0 H.size (by first | exact hr_crow | omega) (by first | exact hr_cpace | omega) (by first | exact hr_ctyre | omega) (by first | exact hr_ckind | omega) (by first | exact hr_crt | omega) (by first | exact hr_cpt | omega) (by omega) (by first | exact hr_p2 | omega) (by first | exact hr_p3 | omega) (by show ((-2147483648) : Int) ≤ 0 ∧ (0 : Int) ≤ 2147483647; decide)) ⟨va_cnB 4 hts gg_9 rfl rfl rfl (nM_K_247 hG.2.1) ini_RX0 (by decide +kernel) ⟨Nat.le_of_ble_eq_true rfl, Nat.le_of_ble_eq_true rfl⟩, im_X0_become, se_X0_become⟩ ⟨pcW.blind, (va_recv hG.1 hP (ci := 0) (q0 := 6) rfl rfl), pre9⟩ rfl rfl hlv.1 rfl (lv_room (Nat.le_of_ble_eq_true rfl)) dX11_meant_70 ⟨Nat.le_of_ble_eq_true rfl, Nat.le_of_ble_eq_true rfl⟩)) hP hD hS hA hG hT [6] rfl (by decide +kernel) (fun u10 H locs hw10 hq9 hS => ?_)
      obtain ⟨hP, hD⟩ := pd9 [zQ kl (cy 5) 4 klf, zO la 1 [vR l0, vI size, vR l2, vR l3], zI l0 (cy 0) 600 st, zI l2 (cy 0) 5 sf, zI l3 (cy 0) 40 vf, zO wa 9 [vR tA, vR ca, vR se, vI fo, vI wth], zI na (cy 0) 7 nf, zI s3 (cy 0) 96 wf, zI s8 (cy 0) 112 pf, zO pa 4 [vI cars, vR pt, vI dips, vR pd, vR ps], zI ps (cy 0) 4 shf, zO sA 6 [vI wi, vI ro, vR s2, vR s3, vI dr, vI dt, vR s6, vI pe, vR s8, vI gu, vI sh, vR s11, vI wo, vR s13, vI dn, vI mi, vI fl, vI tk, vI go], zO kk 11 [vR ta, vR kr, vR kl, vI nr, vI nw, vR sA, vR dA, vR pa, vR ki, vR kp, vI im, vR wa, vR or_, vR rq], zI rq (cy 0) 4 qf, zO ca 0 [vR na, vI p1, vI p2, vI p3, vI 0, vI crt, vI cpt]] hq9
      refine lv_aload_n hx hb dX11_meant_73 rfl (lv_at hlv 0 rfl) ?_
      refine va_get (D := D) (ci := 11) (v := vR wa) (C := RX11) (T := TX11) (N := 14) hx hb hts hi11 hown hG.1 hP 12 rfl rfl 11 (by decide) lf56 (fun _ h9 => h9) rfl dX11_meant_74 ?_
      refine lv_aload_n hx hb dX11_meant_77 rfl (lv_at hlv 0 rfl) ?_
      refine va_get (D := D) (ci := 11) (v := vR sA) (C := RX11) (T := TX11) (N := 14) hx hb hts hi11 hown hG.1 hP 12 rfl rfl 5 (by decide) lf31 (fun _ h9 => h9) rfl dX11_meant_78 ?_
      refine lv_aload_n hx hb dX11_meant_81 rfl (lv_at hlv 0 rfl) ?_
      refine va_get (D := D) (ci := 11) (v := vR pa) (C := RX11) (T := TX11) (N := 14) hx hb hts hi11 hown hG.1 hP 12 rfl rfl 7 (by decide) lf41 (fun _ h9 => h9) rfl dX11_meant_82 ?_
      refine lv_aload_n hx hb dX11_meant_85 rfl (lv_at hlv 0 rfl) ?_
      refine va_get (D := D) (ci := 11) (v := vR kl) (C := RX11) (T := TX11) (N := 14) hx hb hts hi11 hown hG.1 hP 12 rfl rfl 2 (by decide) lf24 (fun _ h9 => h9) rfl dX11_meant_86 ?_
      refine lv_iload_n hx hb dX11_meant_89 rfl (lv_at hlv 1 rfl) ?_
      refine va_aldq hx hb hG.1 hP 0 5 rfl rfl (iI_in (by omega) (by decide)) dX11_meant_90 ?_
      refine ltv (y := vR la) (by rw [iI_cl (by omega) (by omega), hp0 (by omega)]; rfl) ?_
      refine lv_iload_n hx hb dX11_meant_91 rfl (lv_at hlv 2 rfl) ?_
      refine lv_iload_n hx hb dX11_meant_92 rfl (lv_at hlv 3 rfl) ?_
      refine lv_iload hx hb dX11_meant_93 (lv_at hlv 4 rfl) ?_
      refine cjr_i [true, false, false, false, false, false, false, false, false, false, false, false, true, true, false] (fun pre9 => (va_runVN (host := "KerbSplash") (As := [vR sA, vR pa, vR la, vI x, vI y, vI p0]) (rest := []) ⟨hx, hb, hml, hown, hts⟩ (i_share l hl D cy sa wa tA se fo wth ca na p1 p2 p3 0 crt cpt sA s2 s3 s6 s8 s11 s13 wi ro dr dt pe gu sh wo dn mi fl tk go nf wf pf pa pt pd ps cars dips shf la l0 l2 l3 size st sf vf x y p0 H.size (by first | exact hr_fo | omega) (by first | exact hr_wth | omega) (by omega) (by first | exact hr_p2 | omega) (by first | exact hr_p3 | omega) (by show ((-2147483648) : Int) ≤ 0 ∧ (0 : Int) ≤ 2147483647; decide) (by first | exact hr_crt | omega) (by first | exact hr_cpt | omega) (by first | exact hr_wi | omega) (by omega) (by first | exact hr_dr | omega) (by first | exact hr_dt | omega) (by first | exact hr_pe | omega) (by first | exact hr_gu | omega) (by first | exact hr_sh | omega) (by first | exact hr_wo | omega) (by first | exact hr_dn | omega) (by first | exact hr_mi | omega) (by first | exact hr_fl | omega) (by first | exact hr_tk | omega) (by first | exact hr_go | omega) (by first | exact hr_cars | omega) (by first | exact hr_dips | omega) (by first | exact hr_size | omega) (by omega) (by first | exact hr_y | omega) (by first | exact hr_p0 | omega) hpf hst) ⟨va_cnB 6 hts gg_10 rfl rfl rfl (nM_K_304 hG.2.1) ini_RX9 (by decide +kernel) ⟨Nat.le_of_ble_eq_true rfl, Nat.le_of_ble_eq_true rfl⟩, im_X9_shareMeant, se_X9_shareMeant⟩ ⟨pcW.blind, (va_recv hG.1 hP (ci := 9) (q0 := 5) rfl rfl), pre9⟩ rfl rfl hlv.1 rfl (lv_room (Nat.le_of_ble_eq_true rfl)) dX11_meant_95 ⟨Nat.le_of_ble_eq_true rfl, Nat.le_of_ble_eq_true rfl⟩)) hP hD hS hA hG hT [5, 14, 6, 11, 7, 8, 9, 10, 1, 2, 3, 4] rfl (by decide +kernel) (fun r11 u11 H locs hw11 hq9 hS => ?_)
      obtain ⟨rfl, hq11_1, hq11_2, hq11_3, hq11_4, hq11_5, hq11_6⟩ := hw11
      obtain ⟨hP, hD⟩ := pd9 [zQ kl (cy 5) 4 klf, zO kk 11 [vR ta, vR kr, vR kl, vI nr, vI nw, vR sA, vR dA, vR pa, vR ki, vR kp, vI im, vR wa, vR or_, vR rq], zI rq (cy 0) 4 qf, zO wa 9 [vR tA, vR ca, vR se, vI fo, vI wth], zO ca 0 [vR na, vI p1, vI p2, vI p3, vI (u11.2.1 1), vI (u11.2.1 2), vI (u11.2.1 3)], zI na (cy 0) 7 (u11.2.2 0), zO sA 6 [vI wi, vI ro, vR s2, vR s3, vI dr, vI dt, vR s6, vI pe, vR s8, vI gu, vI sh, vR s11, vI wo, vR s13, vI dn, vI mi, vI fl, vI tk, vI go], zI s3 (cy 0) 96 wf, zI s8 (cy 0) 112 pf, zO pa 4 [vI cars, vR pt, vI dips, vR pd, vR ps], zI ps (cy 0) 4 shf, zO la 1 [vR l0, vI size, vR l2, vR l3], zI l0 (cy 0) 600 st, zI l2 (cy 0) 5 sf, zI l3 (cy 0) 40 (u11.2.2 1)] hq9
      refine W.widen (k := 4) (n := 24) (Nat.le_of_ble_eq_true rfl) (Nat.le_of_ble_eq_true rfl) ?_
      refine vx_ret ?_
      exact W.iret (v := iI (u11.2.1 0)) hx hb hr (fun t ht hW => ⟨⟨iI (u11.2.1 0), ((fun k => ([] : List Nat).getD k 0), (fun k => ([(u11.2.1 0), p1, p2, p3, (u11.2.1 1), (u11.2.1 2), (u11.2.1 3)] : List Int).getD k 0), (fun k => ([(u11.2.2 1), (u11.2.2 0)] : List (Nat → Int32)).getD k (fun _ => 0))), rfl, ⟨rfl, (by show ((-2147483648) ≤ (u11.2.1 0) ∧ (u11.2.1 0) ≤ 2147483647); first | exact hq11_1 | omega), (by show (0 ≤ p1 ∧ p1 ≤ 5); omega), (by show ((-2147483648) ≤ p2 ∧ p2 ≤ 2147483647); first | exact hr_p2 | omega), (by show ((-2147483648) ≤ p3 ∧ p3 ≤ 2147483647); first | exact hr_p3 | omega), (by show ((-2147483648) ≤ (u11.2.1 1) ∧ (u11.2.1 1) ≤ 2147483647); first | exact hq11_2 | omega), (by show (0 ≤ (u11.2.1 2) ∧ (u11.2.1 2) ≤ 5); first | exact hq11_3 | omega), (by show ((-2147483648) ≤ (u11.2.1 3) ∧ (u11.2.1 3) ≤ 2147483647); first | exact hq11_4 | omega), hq11_6, hq11_5⟩, at9 ht hP hD [1, 2, 0, 11, 12, 13, 14, 3, 4, 5, 6, 7, 8, 9, 10] (by decide +kernel) rfl⟩, hS.F ht⟩) hS.2.2 dX11_meant_98
def vs_k_town : List Cond := .code yX11_town cX11_town 2 (some .int) :: (([.fieldLink RX11 41 "KerbSplash" "plan" "LKerbSplash$Plan;", .fieldLink RX11 63 "KerbSplash" "orders" "LKerbSplash$Orders;", .initialized RX3, .instanceMethod yX3_findFirst, .selects RX3 yX3_findFirst yX3_findFirst] : List Cond) ++ ((va_wsS RX11 130 yX11_isWithin vs_s_within) ++ ((wsV RX11 134 RX11 yX11_needArgument vs_k_needArgument) ++ ((wsX110) ++ ((wsX40) ++ ((vs_o_first) ++ ((wsX30) ++ ([]))))))))
theorem gd_k_town : vs_k_town.all goodWord = true := gd_C (by decide +kernel) (gd_A (by decide +kernel) (gd_A (gd_S gd_s_within (by decide +kernel)) (gd_A (gd_V gd_k_needArgument (by decide +kernel)) (gd_A (by decide +kernel) (gd_A (by decide +kernel) (gd_A gd_o_first (gd_A (by decide +kernel) rfl)))))))
set_option maxHeartbeats 4000000 in
set_option maxRecDepth 100000 in
theorem k_town (l : Launch) (hl : l.stackTraces = false) (D : va_G) (cy : Nat → ClassId) (sa : Nat → Nat) (kk ta kr kl sA dA pa ki kp wa or_ rq : Nat) (nr nw im : Int) (qf : Nat → Int32) (pt pd ps : Nat) (cars dips : Int) (df : Nat → Int32) (be : Nat) (late lea ord : Int) (bf : Nat → Int32) (n : Int) (sz : Nat) (hr_nr : 0 ≤ nr ∧ nr ≤ 4) (hr_nw : 0 ≤ nw ∧ nw ≤ 4) (hr_im : 0 ≤ im ∧ im ≤ 3) (hr_cars : 0 ≤ cars ∧ cars ≤ 20) (hr_dips : 0 ≤ dips ∧ dips ≤ 9) (hr_late : (-2147483648) ≤ late ∧ late ≤ 2147483647) (hr_lea : (-2147483648) ≤ lea ∧ lea ≤ 2147483647) (hr_ord : (-2147483648) ≤ ord ∧ ord ≤ 2147483647) (hr_n : (-2147483648) ≤ n ∧ n ≤ 2147483647) : xI9 l yX11_town vs_k_town ({ frames := 7, cells := 1, slots := 6, locals := 121 }) D cy sa sz [vR kk, vI n] [zO kk 11 [vR ta, vR kr, vR kl, vI nr, vI nw, vR sA, vR dA, vR pa, vR ki, vR kp, vI im, vR wa, vR or_, vR rq], zI rq (cy 0) 4 qf, zO pa 4 [vI cars, vR pt, vI dips, vR pd, vR ps], zI pd (cy 0) 27 df, zO or_ 3 [vI late, vI lea, vI ord, vR be], zI be (cy 0) 512 bf] (fun (r : Int32) (u : SV) => r = iI (u.2.1 0) ∧ ((-2147483648) ≤ u.2.1 0 ∧ u.2.1 0 ≤ 2147483647) ∧ ((-2147483648) ≤ u.2.1 1 ∧ u.2.1 1 ≤ 2147483647) ∧ ((-2147483648) ≤ u.2.1 2 ∧ u.2.1 2 ≤ 2147483647) ∧ ((-2147483648) ≤ u.2.1 3 ∧ u.2.1 3 ≤ 2147483647)) (fun u : SV => [zO kk 11 [vR ta, vR kr, vR kl, vI nr, vI nw, vR sA, vR dA, vR pa, vR ki, vR kp, vI im, vR wa, vR or_, vR rq], zI rq (cy 0) 4 qf, zO pa 4 [vI cars, vR pt, vI dips, vR pd, vR ps], zI pd (cy 0) 27 df, zO or_ 3 [vI (u.2.1 1), vI (u.2.1 2), vI (u.2.1 3), vR be], zI be (cy 0) 512 (u.2.2 0)]) (fun (E : String) (u : SV) => (E = "java/lang/IllegalArgumentException")) (fun u : SV => [zO kk 11 [vR ta, vR kr, vR kl, vI nr, vI nw, vR sA, vR dA, vR pa, vR ki, vR kp, vI im, vR wa, vR or_, vR rq], zI rq (cy 0) 4 (u.2.2 0), zO pa 4 [vI cars, vR pt, vI dips, vR pd, vR ps], zI pd (cy 0) 27 df, zO or_ 3 [vI late, vI lea, vI ord, vR be], zI be (cy 0) 512 bf]) 1 6 := by
  refine vx_ofW (cc := cX11_town) (maxL := 2) (ret := (some .int)) (by decide) rfl ?_
  intro p e s m args below meth c s₁ B hml hex hv
  obtain ⟨rfl, hsz, hP, hG, hD0, hT⟩ := hv
  have hx := B.exec
  have hb := B.bytes
  have hr := B.returns
  have hts := atoms_spec (ws := vs_k_town) B.pre
  have hown : s.vm.findClass RX11 = some m.cls := findClass_of_methodNamed B.named
  have hlocks := B.notSynchronized
  subst hsz
  have hD := hD0.self (sz := s.heap.size)
  generalize hAe : va_A [zO kk 11 [vR ta, vR kr, vR kl, vI nr, vI nw, vR sA, vR dA, vR pa, vR ki, vR kp, vI im, vR wa, vR or_, vR rq], zI rq (cy 0) 4 qf, zO pa 4 [vI cars, vR pt, vI dips, vR pd, vR ps], zI pd (cy 0) 27 df, zO or_ 3 [vI late, vI lea, vI ord, vR be], zI be (cy 0) 512 bf] s.heap.size = A at hD hT ⊢
  have hA : ∀ q : Nat, s.heap.size ≤ q → A q := fun q h => by rw [← hAe]; exact Or.inr h
  have hS : va_S A s.heap s.heap [] := va_S.rf
  have hl0 := lv_entry ([vR kk, vI n]) (n := 2) (Nat.le_of_ble_eq_true rfl)
  rw [lg_entry_eq]
  generalize (lg_sl ([vR kk, vI n]) ++ List.replicate (2 - (lg_sl ([vR kk, vI n])).length) Slot.unset).toArray = ls at hl0 ⊢
  have hlv : lv_has ls 2 [(0, vR kk), (1, vI n)] := hl0
  have gg_0 : GoodIn vs_k_town (va_wsS RX11 130 yX11_isWithin vs_s_within) := goodIn_sub (fun w h => List.mem_cons_of_mem _ (List.mem_append_right _ (List.mem_append_left _ h))) (gd_S gd_s_within (by decide +kernel))
  have gg_1 : GoodIn vs_k_town (wsV RX11 134 RX11 yX11_needArgument vs_k_needArgument) := goodIn_sub (fun w h => List.mem_cons_of_mem _ (List.mem_append_right _ (List.mem_append_right _ (List.mem_append_left _ h)))) (gd_V gd_k_needArgument (by decide +kernel))
  have lf41 := hts (.fieldLink RX11 41 "KerbSplash" "plan" "LKerbSplash$Plan;") (List.mem_of_getElem? (i := 1) rfl)
  have hi11 : ∀ w ∈ wsX110, w ∈ vs_k_town := fun w h => List.mem_cons_of_mem _ (List.mem_append_right _ (List.mem_append_right _ (List.mem_append_right _ (List.mem_append_left _ h))))
  have hi4 : ∀ w ∈ wsX40, w ∈ vs_k_town := fun w h => List.mem_cons_of_mem _ (List.mem_append_right _ (List.mem_append_right _ (List.mem_append_right _ (List.mem_append_right _ (List.mem_append_left _ h)))))
  have lf63 := hts (.fieldLink RX11 63 "KerbSplash" "orders" "LKerbSplash$Orders;") (List.mem_of_getElem? (i := 2) rfl)
  have gg_4 : GoodIn vs_k_town (vs_o_first) := goodIn_sub (fun w h => List.mem_cons_of_mem _ (List.mem_append_right _ (List.mem_append_right _ (List.mem_append_right _ (List.mem_append_right _ (List.mem_append_right _ (List.mem_append_left _ h))))))) gd_o_first
  have ini_RX3 := hts (.initialized RX3) (List.mem_of_getElem? (i := 3) rfl)
  have im_X3_findFirst := hts (.instanceMethod yX3_findFirst) (List.mem_of_getElem? (i := 4) rfl)
  have se_X3_findFirst := hts (.selects RX3 yX3_findFirst yX3_findFirst) (List.mem_of_getElem? (i := 5) rfl)
  have hi3 : ∀ w ∈ wsX30, w ∈ vs_k_town := fun w h => List.mem_cons_of_mem _ (List.mem_append_right _ (List.mem_append_right _ (List.mem_append_right _ (List.mem_append_right _ (List.mem_append_right _ (List.mem_append_right _ (List.mem_append_left _ h)))))))
  refine lv_aload_n hx hb dX11_town_0 rfl (lv_at hlv 0 rfl) ?_
  refine lv_iload_n hx hb dX11_town_1 rfl (lv_at hlv 1 rfl) ?_
  refine lv_iconst (v := iI 0) hx hb dX11_town_2 (by decide) ?_
  refine lv_iconst (v := iI 2) hx hb dX11_town_3 (by decide) ?_
  refine cjr_i [true, true, true, true, true, true] (fun pre9 => (va_runS (As := [vI n, vI 0, vI 2]) (rest := [vR kk]) ⟨hx, hb, hml, hown, hts⟩ (s_within l hl D cy sa n 0 2 s.heap.size (by first | exact hr_n | omega) (by show ((-2147483648) : Int) ≤ 0 ∧ (0 : Int) ≤ 2147483647; decide) (by show ((-2147483648) : Int) ≤ 2 ∧ (2 : Int) ≤ 2147483647; decide)) (va_cwS 3 hts gg_0 rfl rfl rfl (by decide +kernel) ⟨Nat.le_of_ble_eq_true rfl, Nat.le_of_ble_eq_true rfl⟩) ⟨pcW.blind, pre9⟩ rfl rfl hlv.1 rfl (lv_room (Nat.le_of_ble_eq_true rfl)) dX11_town_4 ⟨Nat.le_of_ble_eq_true rfl, Nat.le_of_ble_eq_true rfl⟩)) hP hD hS hA hG hT [] rfl (by decide +kernel) (fun r1 u1 H locs hw1 hq9 hS => ?_)
  obtain ⟨rfl, hq1_1, hq1_2, hq1_3⟩ := hw1
  obtain ⟨hP, hD⟩ := pd9 [zO kk 11 [vR ta, vR kr, vR kl, vI nr, vI nw, vR sA, vR dA, vR pa, vR ki, vR kp, vI im, vR wa, vR or_, vR rq], zI rq (cy 0) 4 qf, zO pa 4 [vI cars, vR pt, vI dips, vR pd, vR ps], zI pd (cy 0) 27 df, zO or_ 3 [vI late, vI lea, vI ord, vR be], zI be (cy 0) 512 bf] hq9
  refine cjrx_v [false, false, true, true, true, true] (fun pre9 => (vx_runV (As := [vI (u1.2.1 0)]) (rest := []) ⟨hx, hb, hml, hown, hts⟩ (k_needArgument l hl D cy sa kk ta kr kl sA dA pa ki kp wa or_ rq nr nw im qf (u1.2.1 0) H.size (by first | exact hr_nr | omega) (by first | exact hr_nw | omega) (by first | exact hr_im | omega) (by first | exact hq1_1 | omega)) (cwV 1 hts gg_1 rfl rfl rfl (by decide +kernel) ⟨Nat.le_of_ble_eq_true rfl, Nat.le_of_ble_eq_true rfl⟩) ⟨pcW.blind, (va_recv hG.1 hP (ci := 11) (q0 := 0) rfl rfl), pre9⟩ rfl rfl hlv.1 rfl (lv_room (Nat.le_of_ble_eq_true rfl)) dX11_town_7 ⟨Nat.le_of_ble_eq_true rfl, Nat.le_of_ble_eq_true rfl⟩)) hP hD hS hA hG hT [0, 1] rfl (by decide +kernel) (fun E ux2 ce q9 H locs hp hq9 hS h1 h2 h3 => ?_) (fun u2 H locs hw2 hq9 hS => ?_)
  · obtain ⟨hP, hD⟩ := hq9
    obtain ⟨hp, hxg2⟩ := hp
    obtain rfl := hp
    exact vx_out (fun x h => (hex x h).elim) hlocks h1 h2 h3 (fun t ht hvm => ⟨((fun k => ([] : List Nat).getD k 0), (fun k => ([] : List Int).getD k 0), (fun k => ([(ux2.2.2 0)] : List (Nat → Int32)).getD k (fun _ => 0))), trivial, ⟨rfl, at9 ht hP hD [4, 5, 0, 1, 2, 3] (by decide +kernel) rfl⟩, hS.F ht⟩) hS.2.2 (Nat.le_of_ble_eq_true rfl) (Nat.le_of_ble_eq_true rfl)
  have hq2_0 : ((u1.2.1 0) = 1) := hw2
  obtain ⟨hP, hD⟩ := pd9 [zO pa 4 [vI cars, vR pt, vI dips, vR pd, vR ps], zI pd (cy 0) 27 df, zO or_ 3 [vI late, vI lea, vI ord, vR be], zI be (cy 0) 512 bf, zO kk 11 [vR ta, vR kr, vR kl, vI nr, vI nw, vR sA, vR dA, vR pa, vR ki, vR kp, vI im, vR wa, vR or_, vR rq], zI rq (cy 0) 4 qf] hq9
  refine lv_aload_n hx hb dX11_town_10 rfl (lv_at hlv 0 rfl) ?_
  refine va_get (D := D) (ci := 11) (v := vR pa) (C := RX11) (T := TX11) (N := 14) hx hb hts hi11 hown hG.1 hP 4 rfl rfl 7 (by decide) lf41 (fun _ h9 => h9) rfl dX11_town_11 ?_
  refine va_getN (D := D) (ci := 4) (v := vI dips) (C := RX4) (T := TX4) (N := 5) hx hb hts hi4 hown hG.1 hP 0 rfl rfl 2 (by decide) (va_Nw.use rfl (nF_K_312 hG.2.1)) (fun _ h9 => h9) rfl dX11_town_14 ?_
  refine iz_ne (tgt := 22) hx hb dX11_town_17 (by decide) (by first | exact rgw hr_dips (by decide) (by decide) | omega) (fun c_1 => ?_) (fun c_1 => ?_)
  · refine lv_aload_n hx hb dX11_town_22 rfl (lv_at hlv 0 rfl) ?_
    refine va_get (D := D) (ci := 11) (v := vR or_) (C := RX11) (T := TX11) (N := 14) hx hb hts hi11 hown hG.1 hP 4 rfl rfl 12 (by decide) lf63 (fun _ h9 => h9) rfl dX11_town_23 ?_
    refine lv_aload_n hx hb dX11_town_26 rfl (lv_at hlv 0 rfl) ?_
    refine va_get (D := D) (ci := 11) (v := vR pa) (C := RX11) (T := TX11) (N := 14) hx hb hts hi11 hown hG.1 hP 4 rfl rfl 7 (by decide) lf41 (fun _ h9 => h9) rfl dX11_town_27 ?_
    refine cjr_v [false, false, false, false, true, true] (fun pre9 => (va_runVN (host := "KerbSplash") (As := [vR pa]) (rest := []) ⟨hx, hb, hml, hown, hts⟩ (o_first l hl D cy sa or_ be late lea ord bf pa pt pd ps cars dips df H.size (by first | exact hr_late | omega) (by first | exact hr_lea | omega) (by first | exact hr_ord | omega) (by first | exact hr_cars | omega) (by first | exact hr_dips | omega)) ⟨va_cnB 1 hts gg_4 rfl rfl rfl (nM_K_315 hG.2.1) ini_RX3 (by decide +kernel) ⟨Nat.le_of_ble_eq_true rfl, Nat.le_of_ble_eq_true rfl⟩, im_X3_findFirst, se_X3_findFirst⟩ ⟨pcW.blind, (va_recv hG.1 hP (ci := 3) (q0 := 2) rfl rfl), pre9⟩ rfl rfl hlv.1 rfl (lv_room (Nat.le_of_ble_eq_true rfl)) dX11_town_30 ⟨Nat.le_of_ble_eq_true rfl, Nat.le_of_ble_eq_true rfl⟩)) hP hD hS hA hG hT [2, 3, 0, 1] rfl (by decide +kernel) (fun u3 H locs hw3 hq9 hS => ?_)
    obtain ⟨hq3_0, hq3_1, hq3_2⟩ := hw3
    obtain ⟨hP, hD⟩ := pd9 [zO kk 11 [vR ta, vR kr, vR kl, vI nr, vI nw, vR sA, vR dA, vR pa, vR ki, vR kp, vI im, vR wa, vR or_, vR rq], zI rq (cy 0) 4 qf, zO or_ 3 [vI (u3.2.1 0), vI (u3.2.1 1), vI (u3.2.1 2), vR be], zI be (cy 0) 512 (u3.2.2 0), zO pa 4 [vI cars, vR pt, vI dips, vR pd, vR ps], zI pd (cy 0) 27 df] hq9
    refine lv_iload_n hx hb dX11_town_33 rfl (lv_at hlv 1 rfl) ?_
    refine iz_ne (tgt := 45) hx hb dX11_town_34 (by decide) (by first | exact hr_n | omega) (fun c_2 => ?_) (fun c_2 => ?_)
    · refine lv_iload_n hx hb dX11_town_45 rfl (lv_at hlv 1 rfl) ?_
      refine lv_iconst (v := iI 1) hx hb dX11_town_46 (by decide) ?_
      refine ir_ne (tgt := 60) hx hb dX11_town_47 (by decide) (by first | exact hr_n | omega) (by show ((-2147483648) : Int) ≤ 1 ∧ (1 : Int) ≤ 2147483647; decide) (fun c_3 => ?_) (fun c_3 => ?_)
      · refine lv_aload_n hx hb dX11_town_60 rfl (lv_at hlv 0 rfl) ?_
        refine va_get (D := D) (ci := 11) (v := vR or_) (C := RX11) (T := TX11) (N := 14) hx hb hts hi11 hown hG.1 hP 0 rfl rfl 12 (by decide) lf63 (fun _ h9 => h9) rfl dX11_town_61 ?_
        refine va_getN (D := D) (ci := 3) (v := vI (u3.2.1 2)) (C := RX3) (T := TX3) (N := 4) hx hb hts hi3 hown hG.1 hP 2 rfl rfl 2 (by decide) (va_Nw.use rfl (nF_K_325 hG.2.1)) (fun _ h9 => h9) rfl dX11_town_64 ?_
        refine W.widen (k := 1) (n := 6) (Nat.le_of_ble_eq_true rfl) (Nat.le_of_ble_eq_true rfl) ?_
        refine vx_ret ?_
        exact W.iret (v := iI (u3.2.1 2)) hx hb hr (fun t ht hW => ⟨⟨iI (u3.2.1 2), ((fun k => ([] : List Nat).getD k 0), (fun k => ([(u3.2.1 2), (u3.2.1 0), (u3.2.1 1), (u3.2.1 2)] : List Int).getD k 0), (fun k => ([(u3.2.2 0)] : List (Nat → Int32)).getD k (fun _ => 0))), rfl, ⟨rfl, (by show ((-2147483648) ≤ (u3.2.1 2) ∧ (u3.2.1 2) ≤ 2147483647); first | exact hq3_2 | omega), (by show ((-2147483648) ≤ (u3.2.1 0) ∧ (u3.2.1 0) ≤ 2147483647); first | exact hq3_0 | omega), (by show ((-2147483648) ≤ (u3.2.1 1) ∧ (u3.2.1 1) ≤ 2147483647); first | exact hq3_1 | omega), (by show ((-2147483648) ≤ (u3.2.1 2) ∧ (u3.2.1 2) ≤ 2147483647); first | exact hq3_2 | omega)⟩, at9 ht hP hD [0, 1, 4, 5, 2, 3] (by decide +kernel) rfl⟩, hS.F ht⟩) hS.2.2 dX11_town_67
      · refine lv_aload_n hx hb dX11_town_50 rfl (lv_at hlv 0 rfl) ?_
        refine va_get (D := D) (ci := 11) (v := vR or_) (C := RX11) (T := TX11) (N := 14) hx hb hts hi11 hown hG.1 hP 0 rfl rfl 12 (by decide) lf63 (fun _ h9 => h9) rfl dX11_town_51 ?_
        refine va_getN (D := D) (ci := 3) (v := vI (u3.2.1 1)) (C := RX3) (T := TX3) (N := 4) hx hb hts hi3 hown hG.1 hP 2 rfl rfl 1 (by decide) (va_Nw.use rfl (nF_K_322 hG.2.1)) (fun _ h9 => h9) rfl dX11_town_54 ?_
        refine lv_goto (tgt := 67) hx hb dX11_town_57 (by decide) ?_
        refine W.widen (k := 1) (n := 6) (Nat.le_of_ble_eq_true rfl) (Nat.le_of_ble_eq_true rfl) ?_
        refine vx_ret ?_
        exact W.iret (v := iI (u3.2.1 1)) hx hb hr (fun t ht hW => ⟨⟨iI (u3.2.1 1), ((fun k => ([] : List Nat).getD k 0), (fun k => ([(u3.2.1 1), (u3.2.1 0), (u3.2.1 1), (u3.2.1 2)] : List Int).getD k 0), (fun k => ([(u3.2.2 0)] : List (Nat → Int32)).getD k (fun _ => 0))), rfl, ⟨rfl, (by show ((-2147483648) ≤ (u3.2.1 1) ∧ (u3.2.1 1) ≤ 2147483647); first | exact hq3_1 | omega), (by show ((-2147483648) ≤ (u3.2.1 0) ∧ (u3.2.1 0) ≤ 2147483647); first | exact hq3_0 | omega), (by show ((-2147483648) ≤ (u3.2.1 1) ∧ (u3.2.1 1) ≤ 2147483647); first | exact hq3_1 | omega), (by show ((-2147483648) ≤ (u3.2.1 2) ∧ (u3.2.1 2) ≤ 2147483647); first | exact hq3_2 | omega)⟩, at9 ht hP hD [0, 1, 4, 5, 2, 3] (by decide +kernel) rfl⟩, hS.F ht⟩) hS.2.2 dX11_town_67
    · refine lv_aload_n hx hb dX11_town_37 rfl (lv_at hlv 0 rfl) ?_
      refine va_get (D := D) (ci := 11) (v := vR or_) (C := RX11) (T := TX11) (N := 14) hx hb hts hi11 hown hG.1 hP 0 rfl rfl 12 (by decide) lf63 (fun _ h9 => h9) rfl dX11_town_38 ?_
      refine va_getN (D := D) (ci := 3) (v := vI (u3.2.1 0)) (C := RX3) (T := TX3) (N := 4) hx hb hts hi3 hown hG.1 hP 2 rfl rfl 0 (by decide) (va_Nw.use rfl (nF_K_319 hG.2.1)) (fun _ h9 => h9) rfl dX11_town_41 ?_
      refine W.widen (k := 1) (n := 6) (Nat.le_of_ble_eq_true rfl) (Nat.le_of_ble_eq_true rfl) ?_
      refine vx_ret ?_
      exact W.iret (v := iI (u3.2.1 0)) hx hb hr (fun t ht hW => ⟨⟨iI (u3.2.1 0), ((fun k => ([] : List Nat).getD k 0), (fun k => ([(u3.2.1 0), (u3.2.1 0), (u3.2.1 1), (u3.2.1 2)] : List Int).getD k 0), (fun k => ([(u3.2.2 0)] : List (Nat → Int32)).getD k (fun _ => 0))), rfl, ⟨rfl, (by show ((-2147483648) ≤ (u3.2.1 0) ∧ (u3.2.1 0) ≤ 2147483647); first | exact hq3_0 | omega), (by show ((-2147483648) ≤ (u3.2.1 0) ∧ (u3.2.1 0) ≤ 2147483647); first | exact hq3_0 | omega), (by show ((-2147483648) ≤ (u3.2.1 1) ∧ (u3.2.1 1) ≤ 2147483647); first | exact hq3_1 | omega), (by show ((-2147483648) ≤ (u3.2.1 2) ∧ (u3.2.1 2) ≤ 2147483647); first | exact hq3_2 | omega)⟩, at9 ht hP hD [0, 1, 4, 5, 2, 3] (by decide +kernel) rfl⟩, hS.F ht⟩) hS.2.2 dX11_town_44
  · refine lv_iconst (v := iI (-1)) hx hb dX11_town_20 (by decide) ?_
    refine W.widen (k := 1) (n := 6) (Nat.le_of_ble_eq_true rfl) (Nat.le_of_ble_eq_true rfl) ?_
    refine vx_ret ?_
    exact W.iret (v := iI (-1)) hx hb hr (fun t ht hW => ⟨⟨iI (-1), ((fun k => ([] : List Nat).getD k 0), (fun k => ([(-1), late, lea, ord] : List Int).getD k 0), (fun k => ([bf] : List (Nat → Int32)).getD k (fun _ => 0))), rfl, ⟨rfl, (by show ((-2147483648) ≤ (-1) ∧ (-1) ≤ 2147483647); show ((-2147483648) : Int) ≤ (-1) ∧ ((-1) : Int) ≤ 2147483647; decide), (by show ((-2147483648) ≤ late ∧ late ≤ 2147483647); first | exact hr_late | omega), (by show ((-2147483648) ≤ lea ∧ lea ≤ 2147483647); first | exact hr_lea | omega), (by show ((-2147483648) ≤ ord ∧ ord ≤ 2147483647); first | exact hr_ord | omega)⟩, at9 ht hP hD [4, 5, 0, 1, 2, 3] (by decide +kernel) rfl⟩, hS.F ht⟩) hS.2.2 dX11_town_21
def vs_k_sweep : List Cond := .code yX11_sweep cX11_sweep 2 (some .int) :: (([.fieldLink RX11 63 "KerbSplash" "orders" "LKerbSplash$Orders;", .fieldLink RX11 31 "KerbSplash" "now" "LKerbSplash$Street;", .initialized RX3, .instanceMethod yX3_findSweeping, .selects RX3 yX3_findSweeping yX3_findSweeping] : List Cond) ++ ((va_wsS RX11 130 yX11_isWithin vs_s_within) ++ ((wsV RX11 134 RX11 yX11_needArgument vs_k_needArgument) ++ ((wsX110) ++ ((vs_o_sweep) ++ ((wsX30) ++ ([])))))))
theorem gd_k_sweep : vs_k_sweep.all goodWord = true := gd_C (by decide +kernel) (gd_A (by decide +kernel) (gd_A (gd_S gd_s_within (by decide +kernel)) (gd_A (gd_V gd_k_needArgument (by decide +kernel)) (gd_A (by decide +kernel) (gd_A gd_o_sweep (gd_A (by decide +kernel) rfl))))))
set_option maxHeartbeats 4000000 in
set_option maxRecDepth 100000 in
theorem k_sweep (l : Launch) (hl : l.stackTraces = false) (D : va_G) (cy : Nat → ClassId) (sa : Nat → Nat) (kk ta kr kl sA dA pa ki kp wa or_ rq : Nat) (nr nw im : Int) (qf : Nat → Int32) (s2 s3 s6 s8 s11 s13 : Nat) (wi ro dr dt pe gu sh wo dn mi fl tk go : Int) (df : Nat → Int32) (be : Nat) (late lea ord : Int) (n : Int) (sz : Nat) (hr_nr : 0 ≤ nr ∧ nr ≤ 4) (hr_nw : 0 ≤ nw ∧ nw ≤ 4) (hr_im : 0 ≤ im ∧ im ≤ 3) (hr_wi : 0 ≤ wi ∧ wi ≤ 16) (hr_ro : 0 ≤ ro ∧ ro ≤ 6) (hr_dr : 0 ≤ dr ∧ dr ≤ 14) (hr_dt : 0 ≤ dt ∧ dt ≤ 6) (hr_pe : 0 ≤ pe ∧ pe ≤ 8) (hr_gu : 0 ≤ gu ∧ gu ≤ 20) (hr_sh : 0 ≤ sh ∧ sh ≤ 2) (hr_wo : 0 ≤ wo ∧ wo ≤ 8) (hr_dn : (-2147483648) ≤ dn ∧ dn ≤ 2147483647) (hr_mi : 0 ≤ mi ∧ mi ≤ 600) (hr_fl : (-2147483648) ≤ fl ∧ fl ≤ 2147483647) (hr_tk : (-2147483648) ≤ tk ∧ tk ≤ 2147483647) (hr_go : (-2147483648) ≤ go ∧ go ≤ 2147483647) (hr_late : (-2147483648) ≤ late ∧ late ≤ 2147483647) (hr_lea : (-2147483648) ≤ lea ∧ lea ≤ 2147483647) (hr_ord : (-2147483648) ≤ ord ∧ ord ≤ 2147483647) (hr_n : (-2147483648) ≤ n ∧ n ≤ 2147483647) (hdf : tab_ 4 14 [0, 0, 0, 0] [15, 5, 99, 16] df) : xI9 l yX11_sweep vs_k_sweep ({ frames := 194, cells := 1, slots := 6, locals := 9649 }) D cy sa sz [vR kk, vI n] [zO kk 11 [vR ta, vR kr, vR kl, vI nr, vI nw, vR sA, vR dA, vR pa, vR ki, vR kp, vI im, vR wa, vR or_, vR rq], zI rq (cy 0) 4 qf, zO sA 6 [vI wi, vI ro, vR s2, vR s3, vI dr, vI dt, vR s6, vI pe, vR s8, vI gu, vI sh, vR s11, vI wo, vR s13, vI dn, vI mi, vI fl, vI tk, vI go], zI s6 (cy 0) 56 df, zO or_ 3 [vI late, vI lea, vI ord, vR be]] (fun (r : Int32) (u : SV) => r = iI (u.2.1 0) ∧ ((-2147483648) ≤ u.2.1 0 ∧ u.2.1 0 ≤ 2147483647) ∧ ((-2147483648) ≤ u.2.1 1 ∧ u.2.1 1 ≤ 2147483647) ∧ ((-2147483648) ≤ u.2.1 2 ∧ u.2.1 2 ≤ 2147483647) ∧ tab_ 4 14 [0, 0, 0, 0] [15, 5, 99, 16] df) (fun u : SV => [zO kk 11 [vR ta, vR kr, vR kl, vI nr, vI nw, vR sA, vR dA, vR pa, vR ki, vR kp, vI im, vR wa, vR or_, vR rq], zI rq (cy 0) 4 qf, zO sA 6 [vI wi, vI ro, vR s2, vR s3, vI dr, vI dt, vR s6, vI pe, vR s8, vI gu, vI sh, vR s11, vI wo, vR s13, vI dn, vI mi, vI fl, vI tk, vI go], zI s6 (cy 0) 56 df, zO or_ 3 [vI late, vI (u.2.1 1), vI (u.2.1 2), vR be]]) (fun (E : String) (u : SV) => (E = "java/lang/IllegalArgumentException")) (fun u : SV => [zO kk 11 [vR ta, vR kr, vR kl, vI nr, vI nw, vR sA, vR dA, vR pa, vR ki, vR kp, vI im, vR wa, vR or_, vR rq], zI rq (cy 0) 4 (u.2.2 0), zO sA 6 [vI wi, vI ro, vR s2, vR s3, vI dr, vI dt, vR s6, vI pe, vR s8, vI gu, vI sh, vR s11, vI wo, vR s13, vI dn, vI mi, vI fl, vI tk, vI go], zI s6 (cy 0) 56 df, zO or_ 3 [vI late, vI lea, vI ord, vR be]]) 1 6 := by
  refine vx_ofW (cc := cX11_sweep) (maxL := 2) (ret := (some .int)) (by decide) rfl ?_
  intro p e s m args below meth c s₁ B hml hex hv
  obtain ⟨rfl, hsz, hP, hG, hD0, hT⟩ := hv
  have hx := B.exec
  have hb := B.bytes
  have hr := B.returns
  have hts := atoms_spec (ws := vs_k_sweep) B.pre
  have hown : s.vm.findClass RX11 = some m.cls := findClass_of_methodNamed B.named
  have hlocks := B.notSynchronized
  subst hsz
  have hD := hD0.self (sz := s.heap.size)
  generalize hAe : va_A [zO kk 11 [vR ta, vR kr, vR kl, vI nr, vI nw, vR sA, vR dA, vR pa, vR ki, vR kp, vI im, vR wa, vR or_, vR rq], zI rq (cy 0) 4 qf, zO sA 6 [vI wi, vI ro, vR s2, vR s3, vI dr, vI dt, vR s6, vI pe, vR s8, vI gu, vI sh, vR s11, vI wo, vR s13, vI dn, vI mi, vI fl, vI tk, vI go], zI s6 (cy 0) 56 df, zO or_ 3 [vI late, vI lea, vI ord, vR be]] s.heap.size = A at hD hT ⊢
  have hA : ∀ q : Nat, s.heap.size ≤ q → A q := fun q h => by rw [← hAe]; exact Or.inr h
  have hS : va_S A s.heap s.heap [] := va_S.rf
  have hl0 := lv_entry ([vR kk, vI n]) (n := 2) (Nat.le_of_ble_eq_true rfl)
  rw [lg_entry_eq]
  generalize (lg_sl ([vR kk, vI n]) ++ List.replicate (2 - (lg_sl ([vR kk, vI n])).length) Slot.unset).toArray = ls at hl0 ⊢
  have hlv : lv_has ls 2 [(0, vR kk), (1, vI n)] := hl0
  have gg_0 : GoodIn vs_k_sweep (va_wsS RX11 130 yX11_isWithin vs_s_within) := goodIn_sub (fun w h => List.mem_cons_of_mem _ (List.mem_append_right _ (List.mem_append_left _ h))) (gd_S gd_s_within (by decide +kernel))
  have gg_1 : GoodIn vs_k_sweep (wsV RX11 134 RX11 yX11_needArgument vs_k_needArgument) := goodIn_sub (fun w h => List.mem_cons_of_mem _ (List.mem_append_right _ (List.mem_append_right _ (List.mem_append_left _ h)))) (gd_V gd_k_needArgument (by decide +kernel))
  have lf63 := hts (.fieldLink RX11 63 "KerbSplash" "orders" "LKerbSplash$Orders;") (List.mem_of_getElem? (i := 1) rfl)
  have hi11 : ∀ w ∈ wsX110, w ∈ vs_k_sweep := fun w h => List.mem_cons_of_mem _ (List.mem_append_right _ (List.mem_append_right _ (List.mem_append_right _ (List.mem_append_left _ h))))
  have lf31 := hts (.fieldLink RX11 31 "KerbSplash" "now" "LKerbSplash$Street;") (List.mem_of_getElem? (i := 2) rfl)
  have gg_3 : GoodIn vs_k_sweep (vs_o_sweep) := goodIn_sub (fun w h => List.mem_cons_of_mem _ (List.mem_append_right _ (List.mem_append_right _ (List.mem_append_right _ (List.mem_append_right _ (List.mem_append_left _ h)))))) gd_o_sweep
  have ini_RX3 := hts (.initialized RX3) (List.mem_of_getElem? (i := 3) rfl)
  have im_X3_findSweeping := hts (.instanceMethod yX3_findSweeping) (List.mem_of_getElem? (i := 4) rfl)
  have se_X3_findSweeping := hts (.selects RX3 yX3_findSweeping yX3_findSweeping) (List.mem_of_getElem? (i := 5) rfl)
  have hi3 : ∀ w ∈ wsX30, w ∈ vs_k_sweep := fun w h => List.mem_cons_of_mem _ (List.mem_append_right _ (List.mem_append_right _ (List.mem_append_right _ (List.mem_append_right _ (List.mem_append_right _ (List.mem_append_left _ h))))))
  refine lv_aload_n hx hb dX11_sweep_0 rfl (lv_at hlv 0 rfl) ?_
  refine lv_iload_n hx hb dX11_sweep_1 rfl (lv_at hlv 1 rfl) ?_
  refine lv_iconst (v := iI 0) hx hb dX11_sweep_2 (by decide) ?_
  refine lv_iconst (v := iI 1) hx hb dX11_sweep_3 (by decide) ?_
  refine cjr_i [true, true, true, true, true] (fun pre9 => (va_runS (As := [vI n, vI 0, vI 1]) (rest := [vR kk]) ⟨hx, hb, hml, hown, hts⟩ (s_within l hl D cy sa n 0 1 s.heap.size (by first | exact hr_n | omega) (by show ((-2147483648) : Int) ≤ 0 ∧ (0 : Int) ≤ 2147483647; decide) (by show ((-2147483648) : Int) ≤ 1 ∧ (1 : Int) ≤ 2147483647; decide)) (va_cwS 3 hts gg_0 rfl rfl rfl (by decide +kernel) ⟨Nat.le_of_ble_eq_true rfl, Nat.le_of_ble_eq_true rfl⟩) ⟨pcW.blind, pre9⟩ rfl rfl hlv.1 rfl (lv_room (Nat.le_of_ble_eq_true rfl)) dX11_sweep_4 ⟨Nat.le_of_ble_eq_true rfl, Nat.le_of_ble_eq_true rfl⟩)) hP hD hS hA hG hT [] rfl (by decide +kernel) (fun r1 u1 H locs hw1 hq9 hS => ?_)
  obtain ⟨rfl, hq1_1, hq1_2, hq1_3⟩ := hw1
  obtain ⟨hP, hD⟩ := pd9 [zO kk 11 [vR ta, vR kr, vR kl, vI nr, vI nw, vR sA, vR dA, vR pa, vR ki, vR kp, vI im, vR wa, vR or_, vR rq], zI rq (cy 0) 4 qf, zO sA 6 [vI wi, vI ro, vR s2, vR s3, vI dr, vI dt, vR s6, vI pe, vR s8, vI gu, vI sh, vR s11, vI wo, vR s13, vI dn, vI mi, vI fl, vI tk, vI go], zI s6 (cy 0) 56 df, zO or_ 3 [vI late, vI lea, vI ord, vR be]] hq9
  refine cjrx_v [false, false, true, true, true] (fun pre9 => (vx_runV (As := [vI (u1.2.1 0)]) (rest := []) ⟨hx, hb, hml, hown, hts⟩ (k_needArgument l hl D cy sa kk ta kr kl sA dA pa ki kp wa or_ rq nr nw im qf (u1.2.1 0) H.size (by first | exact hr_nr | omega) (by first | exact hr_nw | omega) (by first | exact hr_im | omega) (by first | exact hq1_1 | omega)) (cwV 1 hts gg_1 rfl rfl rfl (by decide +kernel) ⟨Nat.le_of_ble_eq_true rfl, Nat.le_of_ble_eq_true rfl⟩) ⟨pcW.blind, (va_recv hG.1 hP (ci := 11) (q0 := 0) rfl rfl), pre9⟩ rfl rfl hlv.1 rfl (lv_room (Nat.le_of_ble_eq_true rfl)) dX11_sweep_7 ⟨Nat.le_of_ble_eq_true rfl, Nat.le_of_ble_eq_true rfl⟩)) hP hD hS hA hG hT [0, 1] rfl (by decide +kernel) (fun E ux2 ce q9 H locs hp hq9 hS h1 h2 h3 => ?_) (fun u2 H locs hw2 hq9 hS => ?_)
  · obtain ⟨hP, hD⟩ := hq9
    obtain ⟨hp, hxg2⟩ := hp
    obtain rfl := hp
    exact vx_out (fun x h => (hex x h).elim) hlocks h1 h2 h3 (fun t ht hvm => ⟨((fun k => ([] : List Nat).getD k 0), (fun k => ([] : List Int).getD k 0), (fun k => ([(ux2.2.2 0)] : List (Nat → Int32)).getD k (fun _ => 0))), trivial, ⟨rfl, at9 ht hP hD [3, 4, 0, 1, 2] (by decide +kernel) rfl⟩, hS.F ht⟩) hS.2.2 (Nat.le_of_ble_eq_true rfl) (Nat.le_of_ble_eq_true rfl)
  have hq2_0 : ((u1.2.1 0) = 1) := hw2
  obtain ⟨hP, hD⟩ := pd9 [zO sA 6 [vI wi, vI ro, vR s2, vR s3, vI dr, vI dt, vR s6, vI pe, vR s8, vI gu, vI sh, vR s11, vI wo, vR s13, vI dn, vI mi, vI fl, vI tk, vI go], zI s6 (cy 0) 56 df, zO or_ 3 [vI late, vI lea, vI ord, vR be], zO kk 11 [vR ta, vR kr, vR kl, vI nr, vI nw, vR sA, vR dA, vR pa, vR ki, vR kp, vI im, vR wa, vR or_, vR rq], zI rq (cy 0) 4 qf] hq9
  refine lv_aload_n hx hb dX11_sweep_10 rfl (lv_at hlv 0 rfl) ?_
  refine va_get (D := D) (ci := 11) (v := vR or_) (C := RX11) (T := TX11) (N := 14) hx hb hts hi11 hown hG.1 hP 3 rfl rfl 12 (by decide) lf63 (fun _ h9 => h9) rfl dX11_sweep_11 ?_
  refine lv_aload_n hx hb dX11_sweep_14 rfl (lv_at hlv 0 rfl) ?_
  refine va_get (D := D) (ci := 11) (v := vR sA) (C := RX11) (T := TX11) (N := 14) hx hb hts hi11 hown hG.1 hP 3 rfl rfl 5 (by decide) lf31 (fun _ h9 => h9) rfl dX11_sweep_15 ?_
  refine cjr_v [false, false, false, true, true] (fun pre9 => (va_runVN (host := "KerbSplash") (As := [vR sA]) (rest := []) ⟨hx, hb, hml, hown, hts⟩ (o_sweep l hl D cy sa or_ be late lea ord sA s2 s3 s6 s8 s11 s13 wi ro dr dt pe gu sh wo dn mi fl tk go df H.size (by first | exact hr_late | omega) (by first | exact hr_lea | omega) (by first | exact hr_ord | omega) (by first | exact hr_wi | omega) (by first | exact hr_ro | omega) (by first | exact hr_dr | omega) (by first | exact hr_dt | omega) (by first | exact hr_pe | omega) (by first | exact hr_gu | omega) (by first | exact hr_sh | omega) (by first | exact hr_wo | omega) (by first | exact hr_dn | omega) (by first | exact hr_mi | omega) (by first | exact hr_fl | omega) (by first | exact hr_tk | omega) (by first | exact hr_go | omega) hdf) ⟨va_cnB 1 hts gg_3 rfl rfl rfl (nM_K_328 hG.2.1) ini_RX3 (by decide +kernel) ⟨Nat.le_of_ble_eq_true rfl, Nat.le_of_ble_eq_true rfl⟩, im_X3_findSweeping, se_X3_findSweeping⟩ ⟨pcW.blind, (va_recv hG.1 hP (ci := 3) (q0 := 2) rfl rfl), pre9⟩ rfl rfl hlv.1 rfl (lv_room (Nat.le_of_ble_eq_true rfl)) dX11_sweep_18 ⟨Nat.le_of_ble_eq_true rfl, Nat.le_of_ble_eq_true rfl⟩)) hP hD hS hA hG hT [2, 0, 1] rfl (by decide +kernel) (fun u3 H locs hw3 hq9 hS => ?_)
  obtain ⟨hq3_0, hq3_1, hq3_2⟩ := hw3
  obtain ⟨hP, hD⟩ := pd9 [zO kk 11 [vR ta, vR kr, vR kl, vI nr, vI nw, vR sA, vR dA, vR pa, vR ki, vR kp, vI im, vR wa, vR or_, vR rq], zI rq (cy 0) 4 qf, zO or_ 3 [vI late, vI (u3.2.1 0), vI (u3.2.1 1), vR be], zO sA 6 [vI wi, vI ro, vR s2, vR s3, vI dr, vI dt, vR s6, vI pe, vR s8, vI gu, vI sh, vR s11, vI wo, vR s13, vI dn, vI mi, vI fl, vI tk, vI go], zI s6 (cy 0) 56 df] hq9
  refine lv_iload_n hx hb dX11_sweep_21 rfl (lv_at hlv 1 rfl) ?_
  refine iz_ne (tgt := 35) hx hb dX11_sweep_22 (by decide) (by first | exact hr_n | omega) (fun c_1 => ?_) (fun c_1 => ?_)
  · refine lv_aload_n hx hb dX11_sweep_35 rfl (lv_at hlv 0 rfl) ?_
    refine va_get (D := D) (ci := 11) (v := vR or_) (C := RX11) (T := TX11) (N := 14) hx hb hts hi11 hown hG.1 hP 0 rfl rfl 12 (by decide) lf63 (fun _ h9 => h9) rfl dX11_sweep_36 ?_
    refine va_getN (D := D) (ci := 3) (v := vI (u3.2.1 1)) (C := RX3) (T := TX3) (N := 4) hx hb hts hi3 hown hG.1 hP 2 rfl rfl 2 (by decide) (va_Nw.use rfl (nF_K_325 hG.2.1)) (fun _ h9 => h9) rfl dX11_sweep_39 ?_
    refine W.widen (k := 1) (n := 6) (Nat.le_of_ble_eq_true rfl) (Nat.le_of_ble_eq_true rfl) ?_
    refine vx_ret ?_
    exact W.iret (v := iI (u3.2.1 1)) hx hb hr (fun t ht hW => ⟨⟨iI (u3.2.1 1), ((fun k => ([] : List Nat).getD k 0), (fun k => ([(u3.2.1 1), (u3.2.1 0), (u3.2.1 1)] : List Int).getD k 0), (fun k => ([] : List (Nat → Int32)).getD k (fun _ => 0))), rfl, ⟨rfl, (by show ((-2147483648) ≤ (u3.2.1 1) ∧ (u3.2.1 1) ≤ 2147483647); first | exact hq3_1 | omega), (by show ((-2147483648) ≤ (u3.2.1 0) ∧ (u3.2.1 0) ≤ 2147483647); first | exact hq3_0 | omega), (by show ((-2147483648) ≤ (u3.2.1 1) ∧ (u3.2.1 1) ≤ 2147483647); first | exact hq3_1 | omega), hq3_2⟩, at9 ht hP hD [0, 1, 3, 4, 2] (by decide +kernel) rfl⟩, hS.F ht⟩) hS.2.2 dX11_sweep_42
  · refine lv_aload_n hx hb dX11_sweep_25 rfl (lv_at hlv 0 rfl) ?_
    refine va_get (D := D) (ci := 11) (v := vR or_) (C := RX11) (T := TX11) (N := 14) hx hb hts hi11 hown hG.1 hP 0 rfl rfl 12 (by decide) lf63 (fun _ h9 => h9) rfl dX11_sweep_26 ?_
    refine va_getN (D := D) (ci := 3) (v := vI (u3.2.1 0)) (C := RX3) (T := TX3) (N := 4) hx hb hts hi3 hown hG.1 hP 2 rfl rfl 1 (by decide) (va_Nw.use rfl (nF_K_322 hG.2.1)) (fun _ h9 => h9) rfl dX11_sweep_29 ?_
    refine lv_goto (tgt := 42) hx hb dX11_sweep_32 (by decide) ?_
    refine W.widen (k := 1) (n := 6) (Nat.le_of_ble_eq_true rfl) (Nat.le_of_ble_eq_true rfl) ?_
    refine vx_ret ?_
    exact W.iret (v := iI (u3.2.1 0)) hx hb hr (fun t ht hW => ⟨⟨iI (u3.2.1 0), ((fun k => ([] : List Nat).getD k 0), (fun k => ([(u3.2.1 0), (u3.2.1 0), (u3.2.1 1)] : List Int).getD k 0), (fun k => ([] : List (Nat → Int32)).getD k (fun _ => 0))), rfl, ⟨rfl, (by show ((-2147483648) ≤ (u3.2.1 0) ∧ (u3.2.1 0) ≤ 2147483647); first | exact hq3_0 | omega), (by show ((-2147483648) ≤ (u3.2.1 0) ∧ (u3.2.1 0) ≤ 2147483647); first | exact hq3_0 | omega), (by show ((-2147483648) ≤ (u3.2.1 1) ∧ (u3.2.1 1) ≤ 2147483647); first | exact hq3_1 | omega), hq3_2⟩, at9 ht hP hD [0, 1, 3, 4, 2] (by decide +kernel) rfl⟩, hS.F ht⟩) hS.2.2 dX11_sweep_42
def vs_k_ice : List Cond := .code yX11_ice cX11_ice 3 (some .int) :: (([.fieldLink RX11 31 "KerbSplash" "now" "LKerbSplash$Street;", .initialized RX6, .instanceMethod yX6_personsOnIce, .selects RX6 yX6_personsOnIce yX6_personsOnIce, .instanceMethod yX6_longestIce, .selects RX6 yX6_longestIce yX6_longestIce, .instanceMethod yX6_iceCells, .selects RX6 yX6_iceCells yX6_iceCells] : List Cond) ++ ((va_wsS RX11 130 yX11_isWithin vs_s_within) ++ ((wsV RX11 134 RX11 yX11_needArgument vs_k_needArgument) ++ ((wsX110) ++ ((vs_s_personsOnIce) ++ ((vs_s_longestIce) ++ ((vs_s_iceCells) ++ ([]))))))))
theorem gd_k_ice : vs_k_ice.all goodWord = true := gd_C (by decide +kernel) (gd_A (by decide +kernel) (gd_A (gd_S gd_s_within (by decide +kernel)) (gd_A (gd_V gd_k_needArgument (by decide +kernel)) (gd_A (by decide +kernel) (gd_A gd_s_personsOnIce (gd_A gd_s_longestIce (gd_A gd_s_iceCells rfl)))))))
set_option maxHeartbeats 4000000 in
set_option maxRecDepth 100000 in
theorem k_ice (l : Launch) (hl : l.stackTraces = false) (D : va_G) (cy : Nat → ClassId) (sa : Nat → Nat) (kk ta kr kl sA dA pa ki kp wa or_ rq : Nat) (nr nw im : Int) (qf : Nat → Int32) (s2 s3 s6 s8 s11 s13 : Nat) (wi ro dr dt pe gu sh wo dn mi fl tk go : Int) (wf pf : Nat → Int32) (n k : Int) (sz : Nat) (hr_nr : 0 ≤ nr ∧ nr ≤ 4) (hr_nw : 0 ≤ nw ∧ nw ≤ 4) (hr_im : 0 ≤ im ∧ im ≤ 3) (hr_wi : 0 ≤ wi ∧ wi ≤ 16) (hr_ro : 0 ≤ ro ∧ ro ≤ 6) (hr_dr : 0 ≤ dr ∧ dr ≤ 14) (hr_dt : 0 ≤ dt ∧ dt ≤ 6) (hr_pe : 0 ≤ pe ∧ pe ≤ 8) (hr_gu : 0 ≤ gu ∧ gu ≤ 20) (hr_sh : 0 ≤ sh ∧ sh ≤ 2) (hr_wo : 0 ≤ wo ∧ wo ≤ 8) (hr_dn : (-2147483648) ≤ dn ∧ dn ≤ 2147483647) (hr_mi : 0 ≤ mi ∧ mi ≤ 600) (hr_fl : (-2147483648) ≤ fl ∧ fl ≤ 2147483647) (hr_tk : (-2147483648) ≤ tk ∧ tk ≤ 2147483647) (hr_go : (-2147483648) ≤ go ∧ go ≤ 2147483647) (hr_n : (-2147483648) ≤ n ∧ n ≤ 2147483647) (hr_k : (-2147483648) ≤ k ∧ k ≤ 2147483647) (hpf : tab_ 4 28 [0, 0, (-2147483648), (-2147483648)] [15, 19, 2147483647, 2147483647] pf) : xI9 l yX11_ice vs_k_ice ({ frames := 7, cells := 1, slots := 6, locals := 121 }) D cy sa sz [vR kk, vI n, vI k] [zO kk 11 [vR ta, vR kr, vR kl, vI nr, vI nw, vR sA, vR dA, vR pa, vR ki, vR kp, vI im, vR wa, vR or_, vR rq], zI rq (cy 0) 4 qf, zO sA 6 [vI wi, vI ro, vR s2, vR s3, vI dr, vI dt, vR s6, vI pe, vR s8, vI gu, vI sh, vR s11, vI wo, vR s13, vI dn, vI mi, vI fl, vI tk, vI go], zI s3 (cy 0) 96 wf, zI s8 (cy 0) 112 pf] (fun (r : Int32) (u : SV) => r = iI (u.2.1 0) ∧ ((-2147483648) ≤ u.2.1 0 ∧ u.2.1 0 ≤ 2147483647) ∧ tab_ 4 28 [0, 0, (-2147483648), (-2147483648)] [15, 19, 2147483647, 2147483647] pf) (fun u : SV => [zO kk 11 [vR ta, vR kr, vR kl, vI nr, vI nw, vR sA, vR dA, vR pa, vR ki, vR kp, vI im, vR wa, vR or_, vR rq], zI rq (cy 0) 4 qf, zO sA 6 [vI wi, vI ro, vR s2, vR s3, vI dr, vI dt, vR s6, vI pe, vR s8, vI gu, vI sh, vR s11, vI wo, vR s13, vI dn, vI mi, vI fl, vI tk, vI go], zI s3 (cy 0) 96 wf, zI s8 (cy 0) 112 pf]) (fun (E : String) (u : SV) => (E = "java/lang/IllegalArgumentException")) (fun u : SV => [zO kk 11 [vR ta, vR kr, vR kl, vI nr, vI nw, vR sA, vR dA, vR pa, vR ki, vR kp, vI im, vR wa, vR or_, vR rq], zI rq (cy 0) 4 (u.2.2 0), zO sA 6 [vI wi, vI ro, vR s2, vR s3, vI dr, vI dt, vR s6, vI pe, vR s8, vI gu, vI sh, vR s11, vI wo, vR s13, vI dn, vI mi, vI fl, vI tk, vI go], zI s3 (cy 0) 96 wf, zI s8 (cy 0) 112 pf]) 1 6 := by
  refine vx_ofW (cc := cX11_ice) (maxL := 3) (ret := (some .int)) (by decide) rfl ?_
  intro p e s m args below meth c s₁ B hml hex hv
  obtain ⟨rfl, hsz, hP, hG, hD0, hT⟩ := hv
  have hx := B.exec
  have hb := B.bytes
  have hr := B.returns
  have hts := atoms_spec (ws := vs_k_ice) B.pre
  have hown : s.vm.findClass RX11 = some m.cls := findClass_of_methodNamed B.named
  have hlocks := B.notSynchronized
  subst hsz
  have hD := hD0.self (sz := s.heap.size)
  generalize hAe : va_A [zO kk 11 [vR ta, vR kr, vR kl, vI nr, vI nw, vR sA, vR dA, vR pa, vR ki, vR kp, vI im, vR wa, vR or_, vR rq], zI rq (cy 0) 4 qf, zO sA 6 [vI wi, vI ro, vR s2, vR s3, vI dr, vI dt, vR s6, vI pe, vR s8, vI gu, vI sh, vR s11, vI wo, vR s13, vI dn, vI mi, vI fl, vI tk, vI go], zI s3 (cy 0) 96 wf, zI s8 (cy 0) 112 pf] s.heap.size = A at hD hT ⊢
  have hA : ∀ q : Nat, s.heap.size ≤ q → A q := fun q h => by rw [← hAe]; exact Or.inr h
  have hS : va_S A s.heap s.heap [] := va_S.rf
  have hl0 := lv_entry ([vR kk, vI n, vI k]) (n := 3) (Nat.le_of_ble_eq_true rfl)
  rw [lg_entry_eq]
  generalize (lg_sl ([vR kk, vI n, vI k]) ++ List.replicate (3 - (lg_sl ([vR kk, vI n, vI k])).length) Slot.unset).toArray = ls at hl0 ⊢
  have hlv : lv_has ls 3 [(0, vR kk), (1, vI n), (2, vI k)] := hl0
  have gg_0 : GoodIn vs_k_ice (va_wsS RX11 130 yX11_isWithin vs_s_within) := goodIn_sub (fun w h => List.mem_cons_of_mem _ (List.mem_append_right _ (List.mem_append_left _ h))) (gd_S gd_s_within (by decide +kernel))
  have gg_1 : GoodIn vs_k_ice (wsV RX11 134 RX11 yX11_needArgument vs_k_needArgument) := goodIn_sub (fun w h => List.mem_cons_of_mem _ (List.mem_append_right _ (List.mem_append_right _ (List.mem_append_left _ h)))) (gd_V gd_k_needArgument (by decide +kernel))
  have lf31 := hts (.fieldLink RX11 31 "KerbSplash" "now" "LKerbSplash$Street;") (List.mem_of_getElem? (i := 1) rfl)
  have hi11 : ∀ w ∈ wsX110, w ∈ vs_k_ice := fun w h => List.mem_cons_of_mem _ (List.mem_append_right _ (List.mem_append_right _ (List.mem_append_right _ (List.mem_append_left _ h))))
  have gg_3 : GoodIn vs_k_ice (vs_s_personsOnIce) := goodIn_sub (fun w h => List.mem_cons_of_mem _ (List.mem_append_right _ (List.mem_append_right _ (List.mem_append_right _ (List.mem_append_right _ (List.mem_append_left _ h)))))) gd_s_personsOnIce
  have ini_RX6 := hts (.initialized RX6) (List.mem_of_getElem? (i := 2) rfl)
  have im_X6_personsOnIce := hts (.instanceMethod yX6_personsOnIce) (List.mem_of_getElem? (i := 3) rfl)
  have se_X6_personsOnIce := hts (.selects RX6 yX6_personsOnIce yX6_personsOnIce) (List.mem_of_getElem? (i := 4) rfl)
  have gg_4 : GoodIn vs_k_ice (vs_s_longestIce) := goodIn_sub (fun w h => List.mem_cons_of_mem _ (List.mem_append_right _ (List.mem_append_right _ (List.mem_append_right _ (List.mem_append_right _ (List.mem_append_right _ (List.mem_append_left _ h))))))) gd_s_longestIce
  have im_X6_longestIce := hts (.instanceMethod yX6_longestIce) (List.mem_of_getElem? (i := 5) rfl)
  have se_X6_longestIce := hts (.selects RX6 yX6_longestIce yX6_longestIce) (List.mem_of_getElem? (i := 6) rfl)
  have gg_5 : GoodIn vs_k_ice (vs_s_iceCells) := goodIn_sub (fun w h => List.mem_cons_of_mem _ (List.mem_append_right _ (List.mem_append_right _ (List.mem_append_right _ (List.mem_append_right _ (List.mem_append_right _ (List.mem_append_right _ (List.mem_append_left _ h)))))))) gd_s_iceCells
  have im_X6_iceCells := hts (.instanceMethod yX6_iceCells) (List.mem_of_getElem? (i := 7) rfl)
  have se_X6_iceCells := hts (.selects RX6 yX6_iceCells yX6_iceCells) (List.mem_of_getElem? (i := 8) rfl)
  refine lv_aload_n hx hb dX11_ice_0 rfl (lv_at hlv 0 rfl) ?_
  refine lv_iload_n hx hb dX11_ice_1 rfl (lv_at hlv 1 rfl) ?_
  refine lv_iconst (v := iI 1) hx hb dX11_ice_2 (by decide) ?_
  refine lv_sipush (v := iI 9999) hx hb dX11_ice_3 (by decide) ?_
  refine cjr_i [true, true, true, true, true] (fun pre9 => (va_runS (As := [vI n, vI 1, vI 9999]) (rest := [vR kk]) ⟨hx, hb, hml, hown, hts⟩ (s_within l hl D cy sa n 1 9999 s.heap.size (by first | exact hr_n | omega) (by show ((-2147483648) : Int) ≤ 1 ∧ (1 : Int) ≤ 2147483647; decide) (by show ((-2147483648) : Int) ≤ 9999 ∧ (9999 : Int) ≤ 2147483647; decide)) (va_cwS 3 hts gg_0 rfl rfl rfl (by decide +kernel) ⟨Nat.le_of_ble_eq_true rfl, Nat.le_of_ble_eq_true rfl⟩) ⟨pcW.blind, pre9⟩ rfl rfl hlv.1 rfl (lv_room (Nat.le_of_ble_eq_true rfl)) dX11_ice_6 ⟨Nat.le_of_ble_eq_true rfl, Nat.le_of_ble_eq_true rfl⟩)) hP hD hS hA hG hT [] rfl (by decide +kernel) (fun r1 u1 H locs hw1 hq9 hS => ?_)
  obtain ⟨rfl, hq1_1, hq1_2, hq1_3⟩ := hw1
  obtain ⟨hP, hD⟩ := pd9 [zO kk 11 [vR ta, vR kr, vR kl, vI nr, vI nw, vR sA, vR dA, vR pa, vR ki, vR kp, vI im, vR wa, vR or_, vR rq], zI rq (cy 0) 4 qf, zO sA 6 [vI wi, vI ro, vR s2, vR s3, vI dr, vI dt, vR s6, vI pe, vR s8, vI gu, vI sh, vR s11, vI wo, vR s13, vI dn, vI mi, vI fl, vI tk, vI go], zI s3 (cy 0) 96 wf, zI s8 (cy 0) 112 pf] hq9
  refine iz_eq (tgt := 25) hx hb dX11_ice_9 (by decide) (by first | exact rgw hq1_1 (by decide) (by decide) | omega) (fun c_1 => ?_) (fun c_1 => ?_)
  · refine lv_iconst (v := iI 0) hx hb dX11_ice_25 (by decide) ?_
    refine cjrx_v [false, false, true, true, true] (fun pre9 => (vx_runV (As := [vI 0]) (rest := []) ⟨hx, hb, hml, hown, hts⟩ (k_needArgument l hl D cy sa kk ta kr kl sA dA pa ki kp wa or_ rq nr nw im qf 0 H.size (by first | exact hr_nr | omega) (by first | exact hr_nw | omega) (by first | exact hr_im | omega) (by show (0 : Int) ≤ 0 ∧ (0 : Int) ≤ 1; decide)) (cwV 1 hts gg_1 rfl rfl rfl (by decide +kernel) ⟨Nat.le_of_ble_eq_true rfl, Nat.le_of_ble_eq_true rfl⟩) ⟨pcW.blind, (va_recv hG.1 hP (ci := 11) (q0 := 0) rfl rfl), pre9⟩ rfl rfl hlv.1 rfl (lv_room (Nat.le_of_ble_eq_true rfl)) dX11_ice_26 ⟨Nat.le_of_ble_eq_true rfl, Nat.le_of_ble_eq_true rfl⟩)) hP hD hS hA hG hT [0, 1] rfl (by decide +kernel) (fun E ux2 ce q9 H locs hp hq9 hS h1 h2 h3 => ?_) (fun u2 H locs hw2 hq9 hS => ?_)
    · obtain ⟨hP, hD⟩ := hq9
      obtain ⟨hp, hxg2⟩ := hp
      obtain rfl := hp
      exact vx_out (fun x h => (hex x h).elim) hlocks h1 h2 h3 (fun t ht hvm => ⟨((fun k => ([] : List Nat).getD k 0), (fun k => ([] : List Int).getD k 0), (fun k => ([(ux2.2.2 0)] : List (Nat → Int32)).getD k (fun _ => 0))), trivial, ⟨rfl, at9 ht hP hD [3, 4, 0, 1, 2] (by decide +kernel) rfl⟩, hS.F ht⟩) hS.2.2 (Nat.le_of_ble_eq_true rfl) (Nat.le_of_ble_eq_true rfl)
    have hq2_0 : ((0 : Int) = 1) := hw2
    obtain ⟨hP, hD⟩ := pd9 [zO sA 6 [vI wi, vI ro, vR s2, vR s3, vI dr, vI dt, vR s6, vI pe, vR s8, vI gu, vI sh, vR s11, vI wo, vR s13, vI dn, vI mi, vI fl, vI tk, vI go], zI s3 (cy 0) 96 wf, zI s8 (cy 0) 112 pf, zO kk 11 [vR ta, vR kr, vR kl, vI nr, vI nw, vR sA, vR dA, vR pa, vR ki, vR kp, vI im, vR wa, vR or_, vR rq], zI rq (cy 0) 4 qf] hq9
    exfalso; omega
  · refine lv_iload_n hx hb dX11_ice_12 rfl (lv_at hlv 2 rfl) ?_
    refine lv_iconst (v := iI 0) hx hb dX11_ice_13 (by decide) ?_
    refine lv_iconst (v := iI 2) hx hb dX11_ice_14 (by decide) ?_
    refine cjr_i [true, true, true, true, true] (fun pre9 => (va_runS (As := [vI k, vI 0, vI 2]) (rest := [vR kk]) ⟨hx, hb, hml, hown, hts⟩ (s_within l hl D cy sa k 0 2 H.size (by first | exact hr_k | omega) (by show ((-2147483648) : Int) ≤ 0 ∧ (0 : Int) ≤ 2147483647; decide) (by show ((-2147483648) : Int) ≤ 2 ∧ (2 : Int) ≤ 2147483647; decide)) (va_cwS 3 hts gg_0 rfl rfl rfl (by decide +kernel) ⟨Nat.le_of_ble_eq_true rfl, Nat.le_of_ble_eq_true rfl⟩) ⟨pcW.blind, pre9⟩ rfl rfl hlv.1 rfl (lv_room (Nat.le_of_ble_eq_true rfl)) dX11_ice_15 ⟨Nat.le_of_ble_eq_true rfl, Nat.le_of_ble_eq_true rfl⟩)) hP hD hS hA hG hT [] rfl (by decide +kernel) (fun r3 u3 H locs hw3 hq9 hS => ?_)
    obtain ⟨rfl, hq3_1, hq3_2, hq3_3⟩ := hw3
    obtain ⟨hP, hD⟩ := pd9 [zO kk 11 [vR ta, vR kr, vR kl, vI nr, vI nw, vR sA, vR dA, vR pa, vR ki, vR kp, vI im, vR wa, vR or_, vR rq], zI rq (cy 0) 4 qf, zO sA 6 [vI wi, vI ro, vR s2, vR s3, vI dr, vI dt, vR s6, vI pe, vR s8, vI gu, vI sh, vR s11, vI wo, vR s13, vI dn, vI mi, vI fl, vI tk, vI go], zI s3 (cy 0) 96 wf, zI s8 (cy 0) 112 pf] hq9
    refine iz_eq (tgt := 25) hx hb dX11_ice_18 (by decide) (by first | exact rgw hq3_1 (by decide) (by decide) | omega) (fun c_2 => ?_) (fun c_2 => ?_)
    · refine lv_iconst (v := iI 0) hx hb dX11_ice_25 (by decide) ?_
      refine cjrx_v [false, false, true, true, true] (fun pre9 => (vx_runV (As := [vI 0]) (rest := []) ⟨hx, hb, hml, hown, hts⟩ (k_needArgument l hl D cy sa kk ta kr kl sA dA pa ki kp wa or_ rq nr nw im qf 0 H.size (by first | exact hr_nr | omega) (by first | exact hr_nw | omega) (by first | exact hr_im | omega) (by show (0 : Int) ≤ 0 ∧ (0 : Int) ≤ 1; decide)) (cwV 1 hts gg_1 rfl rfl rfl (by decide +kernel) ⟨Nat.le_of_ble_eq_true rfl, Nat.le_of_ble_eq_true rfl⟩) ⟨pcW.blind, (va_recv hG.1 hP (ci := 11) (q0 := 0) rfl rfl), pre9⟩ rfl rfl hlv.1 rfl (lv_room (Nat.le_of_ble_eq_true rfl)) dX11_ice_26 ⟨Nat.le_of_ble_eq_true rfl, Nat.le_of_ble_eq_true rfl⟩)) hP hD hS hA hG hT [0, 1] rfl (by decide +kernel) (fun E ux4 ce q9 H locs hp hq9 hS h1 h2 h3 => ?_) (fun u4 H locs hw4 hq9 hS => ?_)
      · obtain ⟨hP, hD⟩ := hq9
        obtain ⟨hp, hxg4⟩ := hp
        obtain rfl := hp
        exact vx_out (fun x h => (hex x h).elim) hlocks h1 h2 h3 (fun t ht hvm => ⟨((fun k => ([] : List Nat).getD k 0), (fun k => ([] : List Int).getD k 0), (fun k => ([(ux4.2.2 0)] : List (Nat → Int32)).getD k (fun _ => 0))), trivial, ⟨rfl, at9 ht hP hD [3, 4, 0, 1, 2] (by decide +kernel) rfl⟩, hS.F ht⟩) hS.2.2 (Nat.le_of_ble_eq_true rfl) (Nat.le_of_ble_eq_true rfl)
      have hq4_0 : ((0 : Int) = 1) := hw4
      obtain ⟨hP, hD⟩ := pd9 [zO sA 6 [vI wi, vI ro, vR s2, vR s3, vI dr, vI dt, vR s6, vI pe, vR s8, vI gu, vI sh, vR s11, vI wo, vR s13, vI dn, vI mi, vI fl, vI tk, vI go], zI s3 (cy 0) 96 wf, zI s8 (cy 0) 112 pf, zO kk 11 [vR ta, vR kr, vR kl, vI nr, vI nw, vR sA, vR dA, vR pa, vR ki, vR kp, vI im, vR wa, vR or_, vR rq], zI rq (cy 0) 4 qf] hq9
      exfalso; omega
    · refine lv_iconst (v := iI 1) hx hb dX11_ice_21 (by decide) ?_
      refine lv_goto (tgt := 26) hx hb dX11_ice_22 (by decide) ?_
      refine cjrx_v [false, false, true, true, true] (fun pre9 => (vx_runV (As := [vI 1]) (rest := []) ⟨hx, hb, hml, hown, hts⟩ (k_needArgument l hl D cy sa kk ta kr kl sA dA pa ki kp wa or_ rq nr nw im qf 1 H.size (by first | exact hr_nr | omega) (by first | exact hr_nw | omega) (by first | exact hr_im | omega) (by show (0 : Int) ≤ 1 ∧ (1 : Int) ≤ 1; decide)) (cwV 1 hts gg_1 rfl rfl rfl (by decide +kernel) ⟨Nat.le_of_ble_eq_true rfl, Nat.le_of_ble_eq_true rfl⟩) ⟨pcW.blind, (va_recv hG.1 hP (ci := 11) (q0 := 0) rfl rfl), pre9⟩ rfl rfl hlv.1 rfl (lv_room (Nat.le_of_ble_eq_true rfl)) dX11_ice_26 ⟨Nat.le_of_ble_eq_true rfl, Nat.le_of_ble_eq_true rfl⟩)) hP hD hS hA hG hT [0, 1] rfl (by decide +kernel) (fun E ux5 ce q9 H locs hp hq9 hS h1 h2 h3 => ?_) (fun u5 H locs hw5 hq9 hS => ?_)
      · obtain ⟨hP, hD⟩ := hq9
        obtain ⟨hp, hxg5⟩ := hp
        obtain rfl := hp
        exact vx_out (fun x h => (hex x h).elim) hlocks h1 h2 h3 (fun t ht hvm => ⟨((fun k => ([] : List Nat).getD k 0), (fun k => ([] : List Int).getD k 0), (fun k => ([(ux5.2.2 0)] : List (Nat → Int32)).getD k (fun _ => 0))), trivial, ⟨rfl, at9 ht hP hD [3, 4, 0, 1, 2] (by decide +kernel) rfl⟩, hS.F ht⟩) hS.2.2 (Nat.le_of_ble_eq_true rfl) (Nat.le_of_ble_eq_true rfl)
      have hq5_0 : ((1 : Int) = 1) := hw5
      obtain ⟨hP, hD⟩ := pd9 [zO sA 6 [vI wi, vI ro, vR s2, vR s3, vI dr, vI dt, vR s6, vI pe, vR s8, vI gu, vI sh, vR s11, vI wo, vR s13, vI dn, vI mi, vI fl, vI tk, vI go], zI s3 (cy 0) 96 wf, zI s8 (cy 0) 112 pf, zO kk 11 [vR ta, vR kr, vR kl, vI nr, vI nw, vR sA, vR dA, vR pa, vR ki, vR kp, vI im, vR wa, vR or_, vR rq], zI rq (cy 0) 4 qf] hq9
      refine lv_iload_n hx hb dX11_ice_29 rfl (lv_at hlv 2 rfl) ?_
      refine iz_ne (tgt := 42) hx hb dX11_ice_30 (by decide) (by first | exact hr_k | omega) (fun c_3 => ?_) (fun c_3 => ?_)
      · refine lv_iload_n hx hb dX11_ice_42 rfl (lv_at hlv 2 rfl) ?_
        refine lv_iconst (v := iI 1) hx hb dX11_ice_43 (by decide) ?_
        refine ir_ne (tgt := 58) hx hb dX11_ice_44 (by decide) (by first | exact hr_k | omega) (by show ((-2147483648) : Int) ≤ 1 ∧ (1 : Int) ≤ 2147483647; decide) (fun c_4 => ?_) (fun c_4 => ?_)
        · refine lv_aload_n hx hb dX11_ice_58 rfl (lv_at hlv 0 rfl) ?_
          refine va_get (D := D) (ci := 11) (v := vR sA) (C := RX11) (T := TX11) (N := 14) hx hb hts hi11 hown hG.1 hP 3 rfl rfl 5 (by decide) lf31 (fun _ h9 => h9) rfl dX11_ice_59 ?_
          refine lv_iload_n hx hb dX11_ice_62 rfl (lv_at hlv 1 rfl) ?_
          refine cjr_i [false, false, false, true, true] (fun pre9 => (va_runVN (host := "KerbSplash") (As := [vI n]) (rest := []) ⟨hx, hb, hml, hown, hts⟩ (s_personsOnIce l hl D cy sa sA s2 s3 s6 s8 s11 s13 wi ro dr dt pe gu sh wo dn mi fl tk go wf pf n H.size (by first | exact hr_wi | omega) (by first | exact hr_ro | omega) (by first | exact hr_dr | omega) (by first | exact hr_dt | omega) (by first | exact hr_pe | omega) (by first | exact hr_gu | omega) (by first | exact hr_sh | omega) (by first | exact hr_wo | omega) (by first | exact hr_dn | omega) (by first | exact hr_mi | omega) (by first | exact hr_fl | omega) (by first | exact hr_tk | omega) (by first | exact hr_go | omega) (by first | exact hr_n | omega) hpf) ⟨va_cnB 1 hts gg_3 rfl rfl rfl (nM_K_338 hG.2.1) ini_RX6 (by decide +kernel) ⟨Nat.le_of_ble_eq_true rfl, Nat.le_of_ble_eq_true rfl⟩, im_X6_personsOnIce, se_X6_personsOnIce⟩ ⟨pcW.blind, (va_recv hG.1 hP (ci := 6) (q0 := 0) rfl rfl), pre9⟩ rfl rfl hlv.1 rfl (lv_room (Nat.le_of_ble_eq_true rfl)) dX11_ice_63 ⟨Nat.le_of_ble_eq_true rfl, Nat.le_of_ble_eq_true rfl⟩)) hP hD hS hA hG hT [0, 1, 2] rfl (by decide +kernel) (fun r6 u6 H locs hw6 hq9 hS => ?_)
          obtain ⟨rfl, hq6_1, hq6_2⟩ := hw6
          obtain ⟨hP, hD⟩ := pd9 [zO kk 11 [vR ta, vR kr, vR kl, vI nr, vI nw, vR sA, vR dA, vR pa, vR ki, vR kp, vI im, vR wa, vR or_, vR rq], zI rq (cy 0) 4 qf, zO sA 6 [vI wi, vI ro, vR s2, vR s3, vI dr, vI dt, vR s6, vI pe, vR s8, vI gu, vI sh, vR s11, vI wo, vR s13, vI dn, vI mi, vI fl, vI tk, vI go], zI s3 (cy 0) 96 wf, zI s8 (cy 0) 112 pf] hq9
          refine W.widen (k := 1) (n := 6) (Nat.le_of_ble_eq_true rfl) (Nat.le_of_ble_eq_true rfl) ?_
          refine vx_ret ?_
          exact W.iret (v := iI (u6.2.1 0)) hx hb hr (fun t ht hW => ⟨⟨iI (u6.2.1 0), ((fun k => ([] : List Nat).getD k 0), (fun k => ([(u6.2.1 0)] : List Int).getD k 0), (fun k => ([] : List (Nat → Int32)).getD k (fun _ => 0))), rfl, ⟨rfl, (by show ((-2147483648) ≤ (u6.2.1 0) ∧ (u6.2.1 0) ≤ 2147483647); first | exact rgw hq6_1 (by decide) (by decide) | omega), hq6_2⟩, at9 ht hP hD [0, 1, 2, 3, 4] (by decide +kernel) rfl⟩, hS.F ht⟩) hS.2.2 dX11_ice_66
        · refine lv_aload_n hx hb dX11_ice_47 rfl (lv_at hlv 0 rfl) ?_
          refine va_get (D := D) (ci := 11) (v := vR sA) (C := RX11) (T := TX11) (N := 14) hx hb hts hi11 hown hG.1 hP 3 rfl rfl 5 (by decide) lf31 (fun _ h9 => h9) rfl dX11_ice_48 ?_
          refine lv_iload_n hx hb dX11_ice_51 rfl (lv_at hlv 1 rfl) ?_
          refine cjr_i [false, false, true, true, true] (fun pre9 => (va_runVN (host := "KerbSplash") (As := [vI n]) (rest := []) ⟨hx, hb, hml, hown, hts⟩ (s_longestIce l hl D cy sa sA s2 s3 s6 s8 s11 s13 wi ro dr dt pe gu sh wo dn mi fl tk go wf n H.size (by first | exact hr_wi | omega) (by first | exact hr_ro | omega) (by first | exact hr_dr | omega) (by first | exact hr_dt | omega) (by first | exact hr_pe | omega) (by first | exact hr_gu | omega) (by first | exact hr_sh | omega) (by first | exact hr_wo | omega) (by first | exact hr_dn | omega) (by first | exact hr_mi | omega) (by first | exact hr_fl | omega) (by first | exact hr_tk | omega) (by first | exact hr_go | omega) (by first | exact hr_n | omega)) ⟨va_cnB 1 hts gg_4 rfl rfl rfl (nM_K_335 hG.2.1) ini_RX6 (by decide +kernel) ⟨Nat.le_of_ble_eq_true rfl, Nat.le_of_ble_eq_true rfl⟩, im_X6_longestIce, se_X6_longestIce⟩ ⟨pcW.blind, (va_recv hG.1 hP (ci := 6) (q0 := 0) rfl rfl), pre9⟩ rfl rfl hlv.1 rfl (lv_room (Nat.le_of_ble_eq_true rfl)) dX11_ice_52 ⟨Nat.le_of_ble_eq_true rfl, Nat.le_of_ble_eq_true rfl⟩)) hP hD hS hA hG hT [0, 1] rfl (by decide +kernel) (fun r7 u7 H locs hw7 hq9 hS => ?_)
          obtain ⟨rfl, hq7_1⟩ := hw7
          obtain ⟨hP, hD⟩ := pd9 [zI s8 (cy 0) 112 pf, zO kk 11 [vR ta, vR kr, vR kl, vI nr, vI nw, vR sA, vR dA, vR pa, vR ki, vR kp, vI im, vR wa, vR or_, vR rq], zI rq (cy 0) 4 qf, zO sA 6 [vI wi, vI ro, vR s2, vR s3, vI dr, vI dt, vR s6, vI pe, vR s8, vI gu, vI sh, vR s11, vI wo, vR s13, vI dn, vI mi, vI fl, vI tk, vI go], zI s3 (cy 0) 96 wf] hq9
          refine lv_goto (tgt := 66) hx hb dX11_ice_55 (by decide) ?_
          refine W.widen (k := 1) (n := 6) (Nat.le_of_ble_eq_true rfl) (Nat.le_of_ble_eq_true rfl) ?_
          refine vx_ret ?_
          exact W.iret (v := iI (u7.2.1 0)) hx hb hr (fun t ht hW => ⟨⟨iI (u7.2.1 0), ((fun k => ([] : List Nat).getD k 0), (fun k => ([(u7.2.1 0)] : List Int).getD k 0), (fun k => ([] : List (Nat → Int32)).getD k (fun _ => 0))), rfl, ⟨rfl, (by show ((-2147483648) ≤ (u7.2.1 0) ∧ (u7.2.1 0) ≤ 2147483647); first | exact rgw hq7_1 (by decide) (by decide) | omega), hpf⟩, at9 ht hP hD [1, 2, 3, 4, 0] (by decide +kernel) rfl⟩, hS.F ht⟩) hS.2.2 dX11_ice_66
      · refine lv_aload_n hx hb dX11_ice_33 rfl (lv_at hlv 0 rfl) ?_
        refine va_get (D := D) (ci := 11) (v := vR sA) (C := RX11) (T := TX11) (N := 14) hx hb hts hi11 hown hG.1 hP 3 rfl rfl 5 (by decide) lf31 (fun _ h9 => h9) rfl dX11_ice_34 ?_
        refine lv_iload_n hx hb dX11_ice_37 rfl (lv_at hlv 1 rfl) ?_
        refine cjr_i [false, false, true, true, true] (fun pre9 => (va_runVN (host := "KerbSplash") (As := [vI n]) (rest := []) ⟨hx, hb, hml, hown, hts⟩ (s_iceCells l hl D cy sa sA s2 s3 s6 s8 s11 s13 wi ro dr dt pe gu sh wo dn mi fl tk go wf n H.size (by first | exact hr_wi | omega) (by first | exact hr_ro | omega) (by first | exact hr_dr | omega) (by first | exact hr_dt | omega) (by first | exact hr_pe | omega) (by first | exact hr_gu | omega) (by first | exact hr_sh | omega) (by first | exact hr_wo | omega) (by first | exact hr_dn | omega) (by first | exact hr_mi | omega) (by first | exact hr_fl | omega) (by first | exact hr_tk | omega) (by first | exact hr_go | omega) (by first | exact hr_n | omega)) ⟨va_cnB 1 hts gg_5 rfl rfl rfl (nM_K_332 hG.2.1) ini_RX6 (by decide +kernel) ⟨Nat.le_of_ble_eq_true rfl, Nat.le_of_ble_eq_true rfl⟩, im_X6_iceCells, se_X6_iceCells⟩ ⟨pcW.blind, (va_recv hG.1 hP (ci := 6) (q0 := 0) rfl rfl), pre9⟩ rfl rfl hlv.1 rfl (lv_room (Nat.le_of_ble_eq_true rfl)) dX11_ice_38 ⟨Nat.le_of_ble_eq_true rfl, Nat.le_of_ble_eq_true rfl⟩)) hP hD hS hA hG hT [0, 1] rfl (by decide +kernel) (fun r8 u8 H locs hw8 hq9 hS => ?_)
        obtain ⟨rfl, hq8_1⟩ := hw8
        obtain ⟨hP, hD⟩ := pd9 [zI s8 (cy 0) 112 pf, zO kk 11 [vR ta, vR kr, vR kl, vI nr, vI nw, vR sA, vR dA, vR pa, vR ki, vR kp, vI im, vR wa, vR or_, vR rq], zI rq (cy 0) 4 qf, zO sA 6 [vI wi, vI ro, vR s2, vR s3, vI dr, vI dt, vR s6, vI pe, vR s8, vI gu, vI sh, vR s11, vI wo, vR s13, vI dn, vI mi, vI fl, vI tk, vI go], zI s3 (cy 0) 96 wf] hq9
        refine W.widen (k := 1) (n := 6) (Nat.le_of_ble_eq_true rfl) (Nat.le_of_ble_eq_true rfl) ?_
        refine vx_ret ?_
        exact W.iret (v := iI (u8.2.1 0)) hx hb hr (fun t ht hW => ⟨⟨iI (u8.2.1 0), ((fun k => ([] : List Nat).getD k 0), (fun k => ([(u8.2.1 0)] : List Int).getD k 0), (fun k => ([] : List (Nat → Int32)).getD k (fun _ => 0))), rfl, ⟨rfl, (by show ((-2147483648) ≤ (u8.2.1 0) ∧ (u8.2.1 0) ≤ 2147483647); first | exact rgw hq8_1 (by decide) (by decide) | omega), hpf⟩, at9 ht hP hD [1, 2, 3, 4, 0] (by decide +kernel) rfl⟩, hS.F ht⟩) hS.2.2 dX11_ice_41
def vs_k_status : List Cond := .code yX11_status cX11_status 2 (some .int) :: (([.fieldLink RX11 67 "KerbSplash" "refused" "[I"] : List Cond) ++ ((va_wsS RX11 130 yX11_isWithin vs_s_within) ++ ((wsX110) ++ ([]))))
set_option maxHeartbeats 4000000 in
set_option maxRecDepth 100000 in
theorem k_status (l : Launch) (hl : l.stackTraces = false) (D : va_G) (cy : Nat → ClassId) (sa : Nat → Nat) (kk ta kr kl sA dA pa ki kp wa or_ rq : Nat) (nr nw im : Int) (qf : Nat → Int32) (n : Int) (sz : Nat) (hr_nr : 0 ≤ nr ∧ nr ≤ 4) (hr_nw : 0 ≤ nw ∧ nw ≤ 4) (hr_im : 0 ≤ im ∧ im ≤ 3) (hr_n : (-2147483648) ≤ n ∧ n ≤ 2147483647) : mI9 l yX11_status vs_k_status ({ frames := 1, cells := 0, slots := 0, locals := 22 }) D cy sa sz [vR kk, vI n] [zO kk 11 [vR ta, vR kr, vR kl, vI nr, vI nw, vR sA, vR dA, vR pa, vR ki, vR kp, vI im, vR wa, vR or_, vR rq], zI rq (cy 0) 4 qf] (fun (r : Int32) (u : SV) => r = iI (u.2.1 0) ∧ ((-2147483648) ≤ u.2.1 0 ∧ u.2.1 0 ≤ 2147483647)) (fun u : SV => [zO kk 11 [vR ta, vR kr, vR kl, vI nr, vI nw, vR sA, vR dA, vR pa, vR ki, vR kp, vI im, vR wa, vR or_, vR rq], zI rq (cy 0) 4 qf]) 0 0 := by
  refine Met.ofW (cc := cX11_status) (maxL := 2) (ret := (some .int)) (by decide) rfl ?_
  intro p e s m args below meth c s₁ B hml hv
  obtain ⟨rfl, hsz, hP, hG, hD0, hT⟩ := hv
  have hx := B.exec
  have hb := B.bytes
  have hr := B.returns
  have hts := atoms_spec (ws := vs_k_status) B.pre
  have hown : s.vm.findClass RX11 = some m.cls := findClass_of_methodNamed B.named
  have hlocks := B.notSynchronized
  subst hsz
  have hD := hD0.self (sz := s.heap.size)
  generalize hAe : va_A [zO kk 11 [vR ta, vR kr, vR kl, vI nr, vI nw, vR sA, vR dA, vR pa, vR ki, vR kp, vI im, vR wa, vR or_, vR rq], zI rq (cy 0) 4 qf] s.heap.size = A at hD hT ⊢
  have hA : ∀ q : Nat, s.heap.size ≤ q → A q := fun q h => by rw [← hAe]; exact Or.inr h
  have hS : va_S A s.heap s.heap [] := va_S.rf
  have hl0 := lv_entry ([vR kk, vI n]) (n := 2) (Nat.le_of_ble_eq_true rfl)
  rw [lg_entry_eq]
  generalize (lg_sl ([vR kk, vI n]) ++ List.replicate (2 - (lg_sl ([vR kk, vI n])).length) Slot.unset).toArray = ls at hl0 ⊢
  have hlv : lv_has ls 2 [(0, vR kk), (1, vI n)] := hl0
  have gg_0 : GoodIn vs_k_status (va_wsS RX11 130 yX11_isWithin vs_s_within) := goodIn_sub (fun w h => List.mem_cons_of_mem _ (List.mem_append_right _ (List.mem_append_left _ h))) (gd_S gd_s_within (by decide +kernel))
  have lf67 := hts (.fieldLink RX11 67 "KerbSplash" "refused" "[I") (List.mem_of_getElem? (i := 1) rfl)
  have hi11 : ∀ w ∈ wsX110, w ∈ vs_k_status := fun w h => List.mem_cons_of_mem _ (List.mem_append_right _ (List.mem_append_right _ (List.mem_append_left _ h)))
  refine lv_iload_n hx hb dX11_status_0 rfl (lv_at hlv 1 rfl) ?_
  refine lv_iconst (v := iI 0) hx hb dX11_status_1 (by decide) ?_
  refine lv_iconst (v := iI 3) hx hb dX11_status_2 (by decide) ?_
  refine cjr_i [true, true] (fun pre9 => (va_runS (As := [vI n, vI 0, vI 3]) (rest := []) ⟨hx, hb, hml, hown, hts⟩ (s_within l hl D cy sa n 0 3 s.heap.size (by first | exact hr_n | omega) (by show ((-2147483648) : Int) ≤ 0 ∧ (0 : Int) ≤ 2147483647; decide) (by show ((-2147483648) : Int) ≤ 3 ∧ (3 : Int) ≤ 2147483647; decide)) (va_cwS 3 hts gg_0 rfl rfl rfl (by decide +kernel) ⟨Nat.le_of_ble_eq_true rfl, Nat.le_of_ble_eq_true rfl⟩) ⟨pcW.blind, pre9⟩ rfl rfl hlv.1 rfl (lv_room (Nat.le_of_ble_eq_true rfl)) dX11_status_3 ⟨Nat.le_of_ble_eq_true rfl, Nat.le_of_ble_eq_true rfl⟩)) hP hD hS hA hG hT [] rfl (by decide +kernel) (fun r1 u1 H locs hw1 hq9 hS => ?_)
  obtain ⟨rfl, hq1_1, hq1_2, hq1_3⟩ := hw1
  obtain ⟨hP, hD⟩ := pd9 [zO kk 11 [vR ta, vR kr, vR kl, vI nr, vI nw, vR sA, vR dA, vR pa, vR ki, vR kp, vI im, vR wa, vR or_, vR rq], zI rq (cy 0) 4 qf] hq9
  refine iz_eq (tgt := 18) hx hb dX11_status_6 (by decide) (by first | exact rgw hq1_1 (by decide) (by decide) | omega) (fun c_1 => ?_) (fun c_1 => ?_)
  · refine lv_iconst (v := iI (-1)) hx hb dX11_status_18 (by decide) ?_
    refine W.widen (k := 0) (n := 0) (Nat.le_of_ble_eq_true rfl) (Nat.le_of_ble_eq_true rfl) ?_
    exact W.iret (v := iI (-1)) hx hb hr (fun t ht hW => ⟨⟨iI (-1), ((fun k => ([] : List Nat).getD k 0), (fun k => ([(-1)] : List Int).getD k 0), (fun k => ([] : List (Nat → Int32)).getD k (fun _ => 0))), rfl, ⟨rfl, (by show ((-2147483648) ≤ (-1) ∧ (-1) ≤ 2147483647); show ((-2147483648) : Int) ≤ (-1) ∧ ((-1) : Int) ≤ 2147483647; decide)⟩, at9 ht hP hD [0, 1] (by decide +kernel) rfl⟩, hS.F ht⟩) hS.2.2 dX11_status_19
  · refine lv_aload_n hx hb dX11_status_9 rfl (lv_at hlv 0 rfl) ?_
    refine va_get (D := D) (ci := 11) (v := vR rq) (C := RX11) (T := TX11) (N := 14) hx hb hts hi11 hown hG.1 hP 0 rfl rfl 13 (by decide) lf67 (fun _ h9 => h9) rfl dX11_status_10 ?_
    refine lv_iload_n hx hb dX11_status_13 rfl (lv_at hlv 1 rfl) ?_
    refine va_iald hx hb hG.1 hP 1 0 rfl rfl (iI_in (by omega) (by decide)) dX11_status_14 ?_
    refine lt_z (fun z_2 ez_2 lz_2 hz_2 => ?_)
    refine lv_goto (tgt := 19) hx hb dX11_status_15 (by decide) ?_
    refine W.widen (k := 0) (n := 0) (Nat.le_of_ble_eq_true rfl) (Nat.le_of_ble_eq_true rfl) ?_
    exact W.iret (v := iI z_2) hx hb hr (fun t ht hW => ⟨⟨iI z_2, ((fun k => ([] : List Nat).getD k 0), (fun k => ([z_2] : List Int).getD k 0), (fun k => ([] : List (Nat → Int32)).getD k (fun _ => 0))), rfl, ⟨rfl, (by show ((-2147483648) ≤ z_2 ∧ z_2 ≤ 2147483647); omega)⟩, at9 ht hP hD [0, 1] (by decide +kernel) rfl⟩, hS.F ht⟩) hS.2.2 dX11_status_19
end
section
theorem dX11_image_0 : decode cX11_image 0 = .ok (.aload_n 0, 1) := by decide +kernel
theorem dX11_image_1 : decode cX11_image 1 = .ok (.getfield 105, 3) := by decide +kernel
theorem dX11_image_10 : decode cX11_image 10 = .ok (.aload_n 0, 1) := by decide +kernel
theorem dX11_image_11 : decode cX11_image 11 = .ok (.getfield 45, 3) := by decide +kernel
theorem dX11_image_14 : decode cX11_image 14 = .ok (.aload_n 0, 1) := by decide +kernel
theorem dX11_image_15 : decode cX11_image 15 = .ok (.getfield 105, 3) := by decide +kernel
theorem dX11_image_18 : decode cX11_image 18 = .ok (.aaload, 1) := by decide +kernel
theorem dX11_image_19 : decode cX11_image 19 = .ok (.aload_n 0, 1) := by decide +kernel
theorem dX11_image_20 : decode cX11_image 20 = .ok (.getfield 31, 3) := by decide +kernel
theorem dX11_image_23 : decode cX11_image 23 = .ok (.invokevirtual 341, 3) := by decide +kernel
theorem dX11_image_26 : decode cX11_image 26 = .ok (.aload_n 0, 1) := by decide +kernel
theorem dX11_image_27 : decode cX11_image 27 = .ok (.getfield 49, 3) := by decide +kernel
theorem dX11_image_30 : decode cX11_image 30 = .ok (.aload_n 0, 1) := by decide +kernel
theorem dX11_image_31 : decode cX11_image 31 = .ok (.getfield 105, 3) := by decide +kernel
theorem dX11_image_34 : decode cX11_image 34 = .ok (.aaload, 1) := by decide +kernel
theorem dX11_image_35 : decode cX11_image 35 = .ok (.aload_n 0, 1) := by decide +kernel
theorem dX11_image_36 : decode cX11_image 36 = .ok (.getfield 41, 3) := by decide +kernel
theorem dX11_image_39 : decode cX11_image 39 = .ok (.invokevirtual 343, 3) := by decide +kernel
theorem dX11_image_4 : decode cX11_image 4 = .ok (.iconst 3, 1) := by decide +kernel
theorem dX11_image_42 : decode cX11_image 42 = .ok (.aload_n 0, 1) := by decide +kernel
theorem dX11_image_43 : decode cX11_image 43 = .ok (.dup, 1) := by decide +kernel
theorem dX11_image_44 : decode cX11_image 44 = .ok (.getfield 105, 3) := by decide +kernel
theorem dX11_image_47 : decode cX11_image 47 = .ok (.iconst 1, 1) := by decide +kernel
theorem dX11_image_48 : decode cX11_image 48 = .ok (.iadd, 1) := by decide +kernel
theorem dX11_image_49 : decode cX11_image 49 = .ok (.putfield 105, 3) := by decide +kernel
theorem dX11_image_5 : decode cX11_image 5 = .ok (.if_icmp .ne 5, 3) := by decide +kernel
theorem dX11_image_52 : decode cX11_image 52 = .ok (.aload_n 0, 1) := by decide +kernel
theorem dX11_image_53 : decode cX11_image 53 = .ok (.getfield 105, 3) := by decide +kernel
theorem dX11_image_56 : decode cX11_image 56 = .ok (.ireturn, 1) := by decide +kernel
theorem dX11_image_8 : decode cX11_image 8 = .ok (.iconst (-1), 1) := by decide +kernel
theorem dX11_image_9 : decode cX11_image 9 = .ok (.ireturn, 1) := by decide +kernel
theorem dX11_restore_0 : decode cX11_restore 0 = .ok (.aload_n 0, 1) := by decide +kernel
theorem dX11_restore_1 : decode cX11_restore 1 = .ok (.getfield 105, 3) := by decide +kernel
theorem dX11_restore_10 : decode cX11_restore 10 = .ok (.dup, 1) := by decide +kernel
theorem dX11_restore_11 : decode cX11_restore 11 = .ok (.getfield 105, 3) := by decide +kernel
theorem dX11_restore_14 : decode cX11_restore 14 = .ok (.iconst 1, 1) := by decide +kernel
theorem dX11_restore_15 : decode cX11_restore 15 = .ok (.isub, 1) := by decide +kernel
theorem dX11_restore_16 : decode cX11_restore 16 = .ok (.putfield 105, 3) := by decide +kernel
theorem dX11_restore_19 : decode cX11_restore 19 = .ok (.aload_n 0, 1) := by decide +kernel
theorem dX11_restore_20 : decode cX11_restore 20 = .ok (.getfield 31, 3) := by decide +kernel
theorem dX11_restore_23 : decode cX11_restore 23 = .ok (.aload_n 0, 1) := by decide +kernel
theorem dX11_restore_24 : decode cX11_restore 24 = .ok (.getfield 45, 3) := by decide +kernel
theorem dX11_restore_27 : decode cX11_restore 27 = .ok (.aload_n 0, 1) := by decide +kernel
theorem dX11_restore_28 : decode cX11_restore 28 = .ok (.getfield 105, 3) := by decide +kernel
theorem dX11_restore_31 : decode cX11_restore 31 = .ok (.aaload, 1) := by decide +kernel
theorem dX11_restore_32 : decode cX11_restore 32 = .ok (.invokevirtual 341, 3) := by decide +kernel
theorem dX11_restore_35 : decode cX11_restore 35 = .ok (.aload_n 0, 1) := by decide +kernel
theorem dX11_restore_36 : decode cX11_restore 36 = .ok (.getfield 41, 3) := by decide +kernel
theorem dX11_restore_39 : decode cX11_restore 39 = .ok (.aload_n 0, 1) := by decide +kernel
theorem dX11_restore_4 : decode cX11_restore 4 = .ok (.ifCond .ne 5, 3) := by decide +kernel
theorem dX11_restore_40 : decode cX11_restore 40 = .ok (.getfield 49, 3) := by decide +kernel
theorem dX11_restore_43 : decode cX11_restore 43 = .ok (.aload_n 0, 1) := by decide +kernel
theorem dX11_restore_44 : decode cX11_restore 44 = .ok (.getfield 105, 3) := by decide +kernel
theorem dX11_restore_47 : decode cX11_restore 47 = .ok (.aaload, 1) := by decide +kernel
theorem dX11_restore_48 : decode cX11_restore 48 = .ok (.invokevirtual 343, 3) := by decide +kernel
theorem dX11_restore_51 : decode cX11_restore 51 = .ok (.aload_n 0, 1) := by decide +kernel
theorem dX11_restore_52 : decode cX11_restore 52 = .ok (.getfield 105, 3) := by decide +kernel
theorem dX11_restore_55 : decode cX11_restore 55 = .ok (.ireturn, 1) := by decide +kernel
theorem dX11_restore_7 : decode cX11_restore 7 = .ok (.iconst (-1), 1) := by decide +kernel
theorem dX11_restore_8 : decode cX11_restore 8 = .ok (.ireturn, 1) := by decide +kernel
theorem dX11_restore_9 : decode cX11_restore 9 = .ok (.aload_n 0, 1) := by decide +kernel
end
section
def nz (f : Nat → Int32) (k : Nat) : Int := (f k).toInt
theorem nz_e (f : Nat → Int32) (k : Nat) : f k = iI (nz f k) := (Int32.ofInt_toInt (f k)).symm
theorem nz_r (f : Nat → Int32) (k : Nat) : -2147483648 ≤ nz f k ∧ nz f k ≤ 2147483647 := by
  have h1 := (f k).le_toInt
  have h2 := (f k).toInt_lt
  unfold nz
  omega
theorem nz_us {f f1 : Nat → Int32} {e v : Int} (hd : f1 = upd f (iI e).toNatClampNeg (iI v)) (he : 0 ≤ e ∧ e ≤ 2147483647) (hv : -2147483648 ≤ v ∧ v ≤ 2147483647) {k : Nat} (hk : (k : Int) = e) : nz f1 k = v := by
  subst hd
  rw [iI_cl he.1 he.2, show e.toNat = k by omega]
  unfold nz
  rw [pk_us]
  exact iI_to hv.1 hv.2
theorem nz_un {f f1 : Nat → Int32} {e : Int} {x : Int32} (hd : f1 = upd f (iI e).toNatClampNeg x) (he : 0 ≤ e ∧ e ≤ 2147483647) {k : Nat} (hk : (k : Int) ≠ e) : nz f1 k = nz f k := by
  subst hd
  rw [iI_cl he.1 he.2]
  unfold nz
  rw [pk_un (by omega)]
theorem nz_ext {f g : Nat → Int32} {k : Nat} (h : f k = g k) : nz f k = nz g k := by
  unfold nz
  rw [h]
theorem inv_nz {n : Nat} {lo hi : Int} {f : Nat → Int32} (hf : inv_ n lo hi f) {k : Nat} (hk : k < n) : lo ≤ nz f k ∧ nz f k ≤ hi := by
  obtain ⟨z, h1, h2, h3, h4, h5⟩ := hf k hk
  have : nz f k = z := by
    unfold nz
    rw [h1]
    exact iI_to h2 h3
  omega
def b01 (z : Int) : Int := if z = 1 then 1 else 0
theorem b01_r (z : Int) : 0 ≤ b01 z ∧ b01 z ≤ 1 := by
  unfold b01
  split <;> omega
theorem b01_1 : b01 1 = 1 := rfl
theorem b01_n {z : Int} (h : z ≠ 1) : b01 z = 0 := if_neg h
/-- how many works are done -/
def dcn (f : Nat → Int32) : Int := b01 (nz f 198) + b01 (nz f 199) + b01 (nz f 200) + b01 (nz f 201) + b01 (nz f 202) + b01 (nz f 203) + b01 (nz f 204) + b01 (nz f 205)
theorem dcn_r (f : Nat → Int32) : 0 ≤ dcn f ∧ dcn f ≤ 8 := by
  have h0 := b01_r (nz f 198)
  have h1 := b01_r (nz f 199)
  have h2 := b01_r (nz f 200)
  have h3 := b01_r (nz f 201)
  have h4 := b01_r (nz f 202)
  have h5 := b01_r (nz f 203)
  have h6 := b01_r (nz f 204)
  have h7 := b01_r (nz f 205)
  unfold dcn
  omega
theorem dcn_ext {f g : Nat → Int32} (h : ∀ j : Nat, 198 ≤ j → j < 206 → nz f j = nz g j) : dcn f = dcn g := by
  unfold dcn
  rw [h 198 (by decide) (by decide), h 199 (by decide) (by decide), h 200 (by decide) (by decide), h 201 (by decide) (by decide), h 202 (by decide) (by decide), h 203 (by decide) (by decide), h 204 (by decide) (by decide), h 205 (by decide) (by decide)]
theorem dcn_up {f f1 : Nat → Int32} {k : Int} (hk : 0 ≤ k ∧ k < 8) (hd : f1 = upd f (iI (198 + k)).toNatClampNeg (iI 1)) (h0 : nz f (198 + k.toNat) ≠ 1) : dcn f1 = dcn f + 1 ∧ dcn f ≤ 7 := by
  have hs : nz f1 (198 + k.toNat) = 1 := nz_us hd (by omega) (by omega) (by omega)
  have hn : ∀ j : Nat, (j : Int) ≠ 198 + k → nz f1 j = nz f j := fun j hj => nz_un hd (by omega) hj
  rcases (show k = 0 ∨ k = 1 ∨ k = 2 ∨ k = 3 ∨ k = 4 ∨ k = 5 ∨ k = 6 ∨ k = 7 by omega) with rfl | rfl | rfl | rfl | rfl | rfl | rfl | rfl
  · have a0 : nz f1 198 = 1 := hs
    have a1 : nz f 198 ≠ 1 := h0
    unfold dcn
    rw [a0, hn 199 (by omega), hn 200 (by omega), hn 201 (by omega), hn 202 (by omega), hn 203 (by omega), hn 204 (by omega), hn 205 (by omega), b01_n a1, b01_1]
    have h1 := b01_r (nz f 199)
    have h2 := b01_r (nz f 200)
    have h3 := b01_r (nz f 201)
    have h4 := b01_r (nz f 202)
    have h5 := b01_r (nz f 203)
    have h6 := b01_r (nz f 204)
    have h7 := b01_r (nz f 205)
    omega
  · have a0 : nz f1 199 = 1 := hs
    have a1 : nz f 199 ≠ 1 := h0
    unfold dcn
    rw [a0, hn 198 (by omega), hn 200 (by omega), hn 201 (by omega), hn 202 (by omega), hn 203 (by omega), hn 204 (by omega), hn 205 (by omega), b01_n a1, b01_1]
    have h0 := b01_r (nz f 198)
    have h2 := b01_r (nz f 200)
    have h3 := b01_r (nz f 201)
    have h4 := b01_r (nz f 202)
    have h5 := b01_r (nz f 203)
    have h6 := b01_r (nz f 204)
    have h7 := b01_r (nz f 205)
    omega
  · have a0 : nz f1 200 = 1 := hs
    have a1 : nz f 200 ≠ 1 := h0
    unfold dcn
    rw [a0, hn 198 (by omega), hn 199 (by omega), hn 201 (by omega), hn 202 (by omega), hn 203 (by omega), hn 204 (by omega), hn 205 (by omega), b01_n a1, b01_1]
    have h0 := b01_r (nz f 198)
    have h1 := b01_r (nz f 199)
    have h3 := b01_r (nz f 201)
    have h4 := b01_r (nz f 202)
    have h5 := b01_r (nz f 203)
    have h6 := b01_r (nz f 204)
    have h7 := b01_r (nz f 205)
    omega
  · have a0 : nz f1 201 = 1 := hs
    have a1 : nz f 201 ≠ 1 := h0
    unfold dcn
    rw [a0, hn 198 (by omega), hn 199 (by omega), hn 200 (by omega), hn 202 (by omega), hn 203 (by omega), hn 204 (by omega), hn 205 (by omega), b01_n a1, b01_1]
    have h0 := b01_r (nz f 198)
    have h1 := b01_r (nz f 199)
    have h2 := b01_r (nz f 200)
    have h4 := b01_r (nz f 202)
    have h5 := b01_r (nz f 203)
    have h6 := b01_r (nz f 204)
    have h7 := b01_r (nz f 205)
    omega
  · have a0 : nz f1 202 = 1 := hs
    have a1 : nz f 202 ≠ 1 := h0
    unfold dcn
    rw [a0, hn 198 (by omega), hn 199 (by omega), hn 200 (by omega), hn 201 (by omega), hn 203 (by omega), hn 204 (by omega), hn 205 (by omega), b01_n a1, b01_1]
    have h0 := b01_r (nz f 198)
    have h1 := b01_r (nz f 199)
    have h2 := b01_r (nz f 200)
    have h3 := b01_r (nz f 201)
    have h5 := b01_r (nz f 203)
    have h6 := b01_r (nz f 204)
    have h7 := b01_r (nz f 205)
    omega
  · have a0 : nz f1 203 = 1 := hs
    have a1 : nz f 203 ≠ 1 := h0
    unfold dcn
    rw [a0, hn 198 (by omega), hn 199 (by omega), hn 200 (by omega), hn 201 (by omega), hn 202 (by omega), hn 204 (by omega), hn 205 (by omega), b01_n a1, b01_1]
    have h0 := b01_r (nz f 198)
    have h1 := b01_r (nz f 199)
    have h2 := b01_r (nz f 200)
    have h3 := b01_r (nz f 201)
    have h4 := b01_r (nz f 202)
    have h6 := b01_r (nz f 204)
    have h7 := b01_r (nz f 205)
    omega
  · have a0 : nz f1 204 = 1 := hs
    have a1 : nz f 204 ≠ 1 := h0
    unfold dcn
    rw [a0, hn 198 (by omega), hn 199 (by omega), hn 200 (by omega), hn 201 (by omega), hn 202 (by omega), hn 203 (by omega), hn 205 (by omega), b01_n a1, b01_1]
    have h0 := b01_r (nz f 198)
    have h1 := b01_r (nz f 199)
    have h2 := b01_r (nz f 200)
    have h3 := b01_r (nz f 201)
    have h4 := b01_r (nz f 202)
    have h5 := b01_r (nz f 203)
    have h7 := b01_r (nz f 205)
    omega
  · have a0 : nz f1 205 = 1 := hs
    have a1 : nz f 205 ≠ 1 := h0
    unfold dcn
    rw [a0, hn 198 (by omega), hn 199 (by omega), hn 200 (by omega), hn 201 (by omega), hn 202 (by omega), hn 203 (by omega), hn 204 (by omega), b01_n a1, b01_1]
    have h0 := b01_r (nz f 198)
    have h1 := b01_r (nz f 199)
    have h2 := b01_r (nz f 200)
    have h3 := b01_r (nz f 201)
    have h4 := b01_r (nz f 202)
    have h5 := b01_r (nz f 203)
    have h6 := b01_r (nz f 204)
    omega
/-- the reference's state -/
def SI (pm : Int) (f : Nat → Int32) : Prop := (0 ≤ nz f 206 ∧ nz f 206 ≤ dcn f) ∧ (∀ j : Nat, j < 8 → 0 ≤ nz f (207 + j) ∧ nz f (207 + j) ≤ 7) ∧ (0 ≤ nz f 215 ∧ nz f 215 ≤ pm) ∧ (0 ≤ nz f 252 ∧ nz f 252 ≤ 20) ∧ (∀ r : Nat, r < 20 → 0 ≤ nz f (254 + 5 * r) ∧ nz f (254 + 5 * r) ≤ 5) ∧ (0 ≤ nz f 357 ∧ nz f 357 ≤ 9) ∧ (0 ≤ nz f 388 ∧ nz f 388 ≤ 600)
theorem SI.nzx {pm : Int} {f g : Nat → Int32} (hs : SI pm f) (h : ∀ j : Nat, 198 ≤ j → j < 389 → (j < 216 ∨ j = 252 ∨ j = 357 ∨ j = 388 ∨ (253 ≤ j ∧ j < 353)) → nz g j = nz f j) : SI pm g := by
  obtain ⟨h1, h2, h3, h4, h5, h6, h7⟩ := hs
  have hd : dcn g = dcn f := dcn_ext (fun j a b => h j a (by omega) (by omega))
  refine ⟨?_, fun j hj => ?_, ?_, ?_, fun r hr => ?_, ?_, ?_⟩
  · rw [h 206 (by decide) (by decide) (by decide), hd]; exact h1
  · rw [h (207 + j) (by omega) (by omega) (by omega)]; exact h2 j hj
  · rw [h 215 (by decide) (by decide) (by decide)]; exact h3
  · rw [h 252 (by decide) (by decide) (by decide)]; exact h4
  · rw [h (254 + 5 * r) (by omega) (by omega) (by omega)]; exact h5 r hr
  · rw [h 357 (by decide) (by decide) (by decide)]; exact h6
  · rw [h 388 (by decide) (by decide) (by decide)]; exact h7
theorem SI.ext {pm : Int} {f g : Nat → Int32} (hs : SI pm f) (h : ∀ j : Nat, j < 389 → g j = f j) : SI pm g := hs.nzx (fun j _ b _ => nz_ext (h j b))
theorem SI.up {a b : Int} {f : Nat → Int32} (hs : SI a f) (h : a ≤ b) : SI b f := ⟨hs.1, hs.2.1, ⟨hs.2.2.1.1, Int.le_trans hs.2.2.1.2 h⟩, hs.2.2.2⟩
/-- a write to a place of which nothing is asked -/
theorem SI.wo {pm : Int} {f f1 : Nat → Int32} {e v : Int} (hs : SI pm f) (hd : f1 = upd f (iI e).toNatClampNeg (iI v)) (he : 0 ≤ e ∧ e < 389) (h1 : e < 198 ∨ 215 < e) (h2 : e ≠ 252 ∧ e ≠ 357 ∧ e ≠ 388) (h3 : e < 253 ∨ 353 ≤ e) : SI pm f1 :=
  hs.nzx (fun j a b c => nz_un hd (by omega) (by omega))
/-- a write into a row of cars: its column 1 is a row of the street -/
theorem SI.wc {pm : Int} {f f1 : Nat → Int32} {e v k : Int} {c : Nat} (hs : SI pm f) (hd : f1 = upd f (iI e).toNatClampNeg (iI v)) (hk : 0 ≤ k ∧ k < 20) (hc : c < 5) (he : e = 253 + 5 * k + c) (hv : -2147483648 ≤ v ∧ v ≤ 2147483647) (h1 : c = 1 → 0 ≤ v ∧ v ≤ 5) : SI pm f1 := by
  have hn : ∀ j : Nat, (j : Int) ≠ e → nz f1 j = nz f j := fun j hj => nz_un hd (by omega) hj
  have hq : dcn f1 = dcn f := dcn_ext (fun j a b => hn j (by omega))
  obtain ⟨a1, a2, a3, a4, a5, a6, a7⟩ := hs
  refine ⟨?_, fun j hj => ?_, ?_, ?_, fun r hr => ?_, ?_, ?_⟩
  · rw [hn 206 (by omega), hq]; exact a1
  · rw [hn (207 + j) (by omega)]; exact a2 j hj
  · rw [hn 215 (by omega)]; exact a3
  · rw [hn 252 (by omega)]; exact a4
  · by_cases q : ((254 + 5 * r : Nat) : Int) = e
    · rw [nz_us hd (by omega) hv q]; exact h1 (by omega)
    · rw [hn _ q]; exact a5 r hr
  · rw [hn 357 (by omega)]; exact a6
  · rw [hn 388 (by omega)]; exact a7
theorem SI.wk {pm pn : Int} {f f1 : Nat → Int32} {e v : Int} (hs : SI pm f) (hd : f1 = upd f (iI e).toNatClampNeg (iI v)) (hv : -2147483648 ≤ v ∧ v ≤ 2147483647) (h : (e = 215 ∧ 0 ≤ v ∧ v ≤ pn) ∨ (e = 252 ∧ 0 ≤ v ∧ v ≤ 20 ∧ pm ≤ pn) ∨ (e = 357 ∧ 0 ≤ v ∧ v ≤ 9 ∧ pm ≤ pn) ∨ (e = 388 ∧ 0 ≤ v ∧ v ≤ 600 ∧ pm ≤ pn)) : SI pn f1 := by
  have hn : ∀ j : Nat, (j : Int) ≠ e → nz f1 j = nz f j := fun j hj => nz_un hd (by omega) hj
  have hw : ∀ j : Nat, (j : Int) = e → nz f1 j = v := fun j hj => nz_us hd (by omega) hv hj
  have hq : dcn f1 = dcn f := dcn_ext (fun j a b => hn j (by omega))
  obtain ⟨a1, a2, a3, a4, a5, a6, a7⟩ := hs
  refine ⟨?_, fun j hj => ?_, ?_, ?_, fun r hr => ?_, ?_, ?_⟩
  · rw [hn 206 (by omega), hq]; exact a1
  · rw [hn (207 + j) (by omega)]; exact a2 j hj
  · by_cases q : e = 215
    · rw [hw 215 (by omega)]; omega
    · rw [hn 215 (by omega)]; omega
  · by_cases q : e = 252
    · rw [hw 252 (by omega)]; omega
    · rw [hn 252 (by omega)]; exact a4
  · rw [hn _ (by omega)]; exact a5 r hr
  · by_cases q : e = 357
    · rw [hw 357 (by omega)]; omega
    · rw [hn 357 (by omega)]; exact a6
  · by_cases q : e = 388
    · rw [hw 388 (by omega)]; omega
    · rw [hn 388 (by omega)]; exact a7
/-- a work is done: the state behind it, with room for one bored drain more -/
theorem SI.wd {pm : Int} {f f1 : Nat → Int32} {k : Int} (hs : SI pm f) (hk : 0 ≤ k ∧ k < 8) (hd : f1 = upd f (iI (198 + k)).toNatClampNeg (iI 1)) (h0 : nz f (198 + k.toNat) ≠ 1) : SI pm f1 ∧ nz f1 206 + 1 ≤ dcn f1 ∧ nz f1 206 ≤ 7 := by
  have hn : ∀ j : Nat, (j : Int) ≠ 198 + k → nz f1 j = nz f j := fun j hj => nz_un hd (by omega) hj
  obtain ⟨hq, hq7⟩ := dcn_up hk hd h0
  obtain ⟨a1, a2, a3, a4, a5, a6, a7⟩ := hs
  have e6 := hn 206 (by omega)
  refine ⟨⟨?_, fun j hj => ?_, ?_, ?_, fun r hr => ?_, ?_, ?_⟩, by omega, by omega⟩
  · rw [e6, hq]; omega
  · rw [hn (207 + j) (by omega)]; exact a2 j hj
  · rw [hn 215 (by omega)]; exact a3
  · rw [hn 252 (by omega)]; exact a4
  · rw [hn _ (by omega)]; exact a5 r hr
  · rw [hn 357 (by omega)]; exact a6
  · rw [hn 388 (by omega)]; exact a7
theorem SI.wb {pm : Int} {f f1 f2 : Nat → Int32} {e v w : Int} (hs : SI pm f) (hr : nz f 206 + 1 ≤ dcn f) (he : e = 207 + nz f 206) (h8 : nz f 206 ≤ 7) (hv : 0 ≤ v ∧ v ≤ 7) (hd : f1 = upd f (iI e).toNatClampNeg (iI v)) (hw : w = nz f1 206 + 1) (hd2 : f2 = upd f1 (iI 206).toNatClampNeg (iI w)) : SI pm f2 := by
  obtain ⟨a1, a2, a3, a4, a5, a6, a7⟩ := hs
  have hn : ∀ j : Nat, (j : Int) ≠ e → nz f1 j = nz f j := fun j hj => nz_un hd (by omega) hj
  have hn2 : ∀ j : Nat, (j : Int) ≠ 206 → nz f2 j = nz f1 j := fun j hj => nz_un hd2 (by omega) hj
  have e6 := hn 206 (by omega)
  have w6 : nz f2 206 = w := nz_us hd2 (by omega) (by have := dcn_r f; omega) (by omega)
  have hq : dcn f2 = dcn f := dcn_ext (fun j a b => (hn2 j (by omega)).trans (hn j (by omega)))
  refine ⟨?_, fun j hj => ?_, ?_, ?_, fun r hr => ?_, ?_, ?_⟩
  · rw [w6, hq]; omega
  · by_cases q : ((207 + j : Nat) : Int) = e
    · rw [hn2 _ (by omega), nz_us hd (by omega) (by omega) q]; exact hv
    · rw [hn2 _ (by omega), hn _ q]; exact a2 j hj
  · rw [hn2 _ (by omega), hn 215 (by omega)]; exact a3
  · rw [hn2 _ (by omega), hn 252 (by omega)]; exact a4
  · rw [hn2 _ (by omega), hn _ (by omega)]; exact a5 r hr
  · rw [hn2 _ (by omega), hn 357 (by omega)]; exact a6
  · rw [hn2 _ (by omega), hn 388 (by omega)]; exact a7
theorem SI.zero {pm : Int} (h : 0 ≤ pm) {f : Nat → Int32} (hf : ∀ j : Nat, 198 ≤ j → j < 389 → (j < 353 ∨ 357 ≤ j) → f j = iI 0) : SI pm f := by
  have hz : ∀ j : Nat, 198 ≤ j → j < 389 → (j < 353 ∨ 357 ≤ j) → nz f j = 0 := fun j a b c => by
    unfold nz
    rw [hf j a b c]
    rfl
  have hd := dcn_r f
  refine ⟨?_, fun j hj => ?_, ?_, ?_, fun r hr => ?_, ?_, ?_⟩
  · rw [hz 206 (by decide) (by decide) (by decide)]; omega
  · rw [hz (207 + j) (by omega) (by omega) (by omega)]; omega
  · rw [hz 215 (by decide) (by decide) (by decide)]; omega
  · rw [hz 252 (by decide) (by decide) (by decide)]; omega
  · rw [hz _ (by omega) (by omega) (by omega)]; omega
  · rw [hz 357 (by decide) (by decide) (by decide)]; omega
  · rw [hz 388 (by decide) (by decide) (by decide)]; omega
/-- a street that is read -/
def NI (f : Nat → Int32) : Prop := (0 ≤ nz f 0 ∧ nz f 0 ≤ 16) ∧ (0 ≤ nz f 1 ∧ nz f 1 ≤ 6) ∧ (0 ≤ nz f 2 ∧ nz f 2 ≤ 6) ∧ (0 ≤ nz f 3 ∧ nz f 3 ≤ 8) ∧ (0 ≤ nz f 4 ∧ nz f 4 ≤ 2) ∧ (0 ≤ nz f 5 ∧ nz f 5 ≤ 8) ∧ (∀ r : Nat, r < 6 → (0 ≤ nz f (6 + 3 * r) ∧ nz f (6 + 3 * r) ≤ 15) ∧ 0 ≤ nz f (7 + 3 * r) ∧ nz f (7 + 3 * r) ≤ 5) ∧ (∀ r : Nat, r < 8 → (0 ≤ nz f (29 + 5 * r) ∧ nz f (29 + 5 * r) ≤ 15) ∧ (0 ≤ nz f (30 + 5 * r) ∧ nz f (30 + 5 * r) ≤ 5) ∧ (nz f (28 + 5 * r) = 0 → nz f (29 + 5 * r) ≤ 5))
/-- a street that is told -/
def BI (f : Nat → Int32) : Prop := NI f ∧ (nz f 0 = 0 ∨ 2 ≤ nz f 0) ∧ (0 < nz f 0 → 1 ≤ nz f 1)
theorem NI.nzx {f g : Nat → Int32} (h : NI f) (q : ∀ j : Nat, j < 68 → nz g j = nz f j) : NI g := by
  obtain ⟨h0, h1, h2, h3, h4, h5, h6, h7⟩ := h
  refine ⟨?_, ?_, ?_, ?_, ?_, ?_, fun r hr => ?_, fun r hr => ?_⟩
  · rw [q 0 (by decide)]; exact h0
  · rw [q 1 (by decide)]; exact h1
  · rw [q 2 (by decide)]; exact h2
  · rw [q 3 (by decide)]; exact h3
  · rw [q 4 (by decide)]; exact h4
  · rw [q 5 (by decide)]; exact h5
  · rw [q (6 + 3 * r) (by omega), q (7 + 3 * r) (by omega)]; exact h6 r hr
  · rw [q (29 + 5 * r) (by omega), q (30 + 5 * r) (by omega), q (28 + 5 * r) (by omega)]; exact h7 r hr
theorem BI.ext {f g : Nat → Int32} (h : BI f) (q : ∀ j : Nat, j < 68 → g j = f j) : BI g := by
  have q2 : ∀ j : Nat, j < 68 → nz g j = nz f j := fun j hj => nz_ext (q j hj)
  refine ⟨h.1.nzx q2, ?_, ?_⟩
  · rw [q2 0 (by decide)]; exact h.2.1
  · rw [q2 0 (by decide), q2 1 (by decide)]; exact h.2.2
theorem NI.zero {f : Nat → Int32} (hf : ∀ j : Nat, j < 68 → f j = iI 0) : NI f := by
  have hz : ∀ j : Nat, j < 68 → nz f j = 0 := fun j a => by
    unfold nz
    rw [hf j a]
    rfl
  refine ⟨?_, ?_, ?_, ?_, ?_, ?_, fun r hr => ?_, fun r hr => ?_⟩
  · rw [hz 0 (by decide)]; omega
  · rw [hz 1 (by decide)]; omega
  · rw [hz 2 (by decide)]; omega
  · rw [hz 3 (by decide)]; omega
  · rw [hz 4 (by decide)]; omega
  · rw [hz 5 (by decide)]; omega
  · rw [hz (6 + 3 * r) (by omega), hz (7 + 3 * r) (by omega)]; omega
  · rw [hz (29 + 5 * r) (by omega), hz (30 + 5 * r) (by omega), hz (28 + 5 * r) (by omega)]; omega
/-- a write to a count (places 0 to 5), or to a place of which nothing is asked -/
theorem NI.wk {f f1 : Nat → Int32} {e v : Int} (h : NI f) (hd : f1 = upd f (iI e).toNatClampNeg (iI v)) (hv : -2147483648 ≤ v ∧ v ≤ 2147483647) (he : (e = 0 ∧ 0 ≤ v ∧ v ≤ 16) ∨ (e = 1 ∧ 0 ≤ v ∧ v ≤ 6) ∨ (e = 2 ∧ 0 ≤ v ∧ v ≤ 6) ∨ (e = 3 ∧ 0 ≤ v ∧ v ≤ 8) ∨ (e = 4 ∧ 0 ≤ v ∧ v ≤ 2) ∨ (e = 5 ∧ 0 ≤ v ∧ v ≤ 8) ∨ (24 ≤ e ∧ e < 28)) : NI f1 := by
  have hn : ∀ j : Nat, (j : Int) ≠ e → nz f1 j = nz f j := fun j hj => nz_un hd (by omega) hj
  have hw : ∀ j : Nat, (j : Int) = e → nz f1 j = v := fun j hj => nz_us hd (by omega) hv hj
  obtain ⟨h0, h1, h2, h3, h4, h5, h6, h7⟩ := h
  refine ⟨?_, ?_, ?_, ?_, ?_, ?_, fun r hr => ?_, fun r hr => ?_⟩
  · by_cases q : e = 0
    · rw [hw 0 (by omega)]; omega
    · rw [hn 0 (by omega)]; exact h0
  · by_cases q : e = 1
    · rw [hw 1 (by omega)]; omega
    · rw [hn 1 (by omega)]; exact h1
  · by_cases q : e = 2
    · rw [hw 2 (by omega)]; omega
    · rw [hn 2 (by omega)]; exact h2
  · by_cases q : e = 3
    · rw [hw 3 (by omega)]; omega
    · rw [hn 3 (by omega)]; exact h3
  · by_cases q : e = 4
    · rw [hw 4 (by omega)]; omega
    · rw [hn 4 (by omega)]; exact h4
  · by_cases q : e = 5
    · rw [hw 5 (by omega)]; omega
    · rw [hn 5 (by omega)]; exact h5
  · rw [hn (6 + 3 * r) (by omega), hn (7 + 3 * r) (by omega)]; exact h6 r hr
  · rw [hn (29 + 5 * r) (by omega), hn (30 + 5 * r) (by omega), hn (28 + 5 * r) (by omega)]; exact h7 r hr
theorem NI.wr {f f1 : Nat → Int32} {e v k : Int} {c : Nat} (h : NI f) (hd : f1 = upd f (iI e).toNatClampNeg (iI v)) (hk : 0 ≤ k ∧ k < 6) (hc : c < 3) (he : e = 6 + 3 * k + c) (hv : -2147483648 ≤ v ∧ v ≤ 2147483647) (h1 : (c = 0 → 0 ≤ v ∧ v ≤ 15) ∧ (c = 1 → 0 ≤ v ∧ v ≤ 5)) : NI f1 := by
  have hn : ∀ j : Nat, (j : Int) ≠ e → nz f1 j = nz f j := fun j hj => nz_un hd (by omega) hj
  have hw : ∀ j : Nat, (j : Int) = e → nz f1 j = v := fun j hj => nz_us hd (by omega) hv hj
  obtain ⟨h0, h1', h2, h3, h4, h5, h6, h7⟩ := h
  refine ⟨?_, ?_, ?_, ?_, ?_, ?_, fun r hr => ⟨?_, ?_⟩, fun r hr => ?_⟩
  · rw [hn 0 (by omega)]; exact h0
  · rw [hn 1 (by omega)]; exact h1'
  · rw [hn 2 (by omega)]; exact h2
  · rw [hn 3 (by omega)]; exact h3
  · rw [hn 4 (by omega)]; exact h4
  · rw [hn 5 (by omega)]; exact h5
  · by_cases q : ((6 + 3 * r : Nat) : Int) = e
    · rw [hw _ q]; exact h1.1 (by omega)
    · rw [hn _ q]; exact (h6 r hr).1
  · by_cases q : ((7 + 3 * r : Nat) : Int) = e
    · rw [hw _ q]; exact h1.2 (by omega)
    · rw [hn _ q]; exact (h6 r hr).2
  · rw [hn (29 + 5 * r) (by omega), hn (30 + 5 * r) (by omega), hn (28 + 5 * r) (by omega)]; exact h7 r hr
theorem NI.ww {f f1 f2 f3 f4 f5 : Nat → Int32} {k e0 e1 e2 e3 e4 v0 v1 v2 v3 v4 : Int} (h : NI f) (hk : 0 ≤ k ∧ k < 8) (he0 : e0 = 28 + 5 * k) (he1 : e1 = 29 + 5 * k) (he2 : e2 = 30 + 5 * k) (he3 : e3 = 31 + 5 * k) (he4 : e4 = 32 + 5 * k)
    (d1 : f1 = upd f (iI e0).toNatClampNeg (iI v0)) (d2 : f2 = upd f1 (iI e1).toNatClampNeg (iI v1)) (d3 : f3 = upd f2 (iI e2).toNatClampNeg (iI v2)) (d4 : f4 = upd f3 (iI e3).toNatClampNeg (iI v3)) (d5 : f5 = upd f4 (iI e4).toNatClampNeg (iI v4))
    (b0 : 0 ≤ v0 ∧ v0 ≤ 3) (b1 : 0 ≤ v1 ∧ v1 ≤ 15) (b2 : 0 ≤ v2 ∧ v2 ≤ 5) (hx : v0 = 0 → v1 ≤ 5) : NI f5 ∧ ∀ j : Nat, j < 28 → nz f5 j = nz f j := by
  have hn : ∀ j : Nat, ((j : Int) < 28 + 5 * k ∨ 33 + 5 * k ≤ (j : Int)) → nz f5 j = nz f j := fun j hj => by
    rw [nz_un d5 (by omega) (by omega), nz_un d4 (by omega) (by omega), nz_un d3 (by omega) (by omega), nz_un d2 (by omega) (by omega), nz_un d1 (by omega) (by omega)]
  have g0 : ∀ j : Nat, (j : Int) = e0 → nz f5 j = v0 := fun j hj => by
    rw [nz_un d5 (by omega) (by omega), nz_un d4 (by omega) (by omega), nz_un d3 (by omega) (by omega), nz_un d2 (by omega) (by omega), nz_us d1 (by omega) (by omega) hj]
  have g1 : ∀ j : Nat, (j : Int) = e1 → nz f5 j = v1 := fun j hj => by
    rw [nz_un d5 (by omega) (by omega), nz_un d4 (by omega) (by omega), nz_un d3 (by omega) (by omega), nz_us d2 (by omega) (by omega) hj]
  have g2 : ∀ j : Nat, (j : Int) = e2 → nz f5 j = v2 := fun j hj => by
    rw [nz_un d5 (by omega) (by omega), nz_un d4 (by omega) (by omega), nz_us d3 (by omega) (by omega) hj]
  obtain ⟨h0, h1', h2, h3, h4, h5, h6, h7⟩ := h
  refine ⟨⟨?_, ?_, ?_, ?_, ?_, ?_, fun r hr => ?_, fun r hr => ?_⟩, fun j hj => hn j (by omega)⟩
  · rw [hn 0 (by omega)]; exact h0
  · rw [hn 1 (by omega)]; exact h1'
  · rw [hn 2 (by omega)]; exact h2
  · rw [hn 3 (by omega)]; exact h3
  · rw [hn 4 (by omega)]; exact h4
  · rw [hn 5 (by omega)]; exact h5
  · rw [hn (6 + 3 * r) (by omega), hn (7 + 3 * r) (by omega)]; exact h6 r hr
  · by_cases q : (r : Int) = k
    · rw [g1 (29 + 5 * r) (by omega), g2 (30 + 5 * r) (by omega), g0 (28 + 5 * r) (by omega)]; exact ⟨b1, b2, hx⟩
    · rw [hn (29 + 5 * r) (by omega), hn (30 + 5 * r) (by omega), hn (28 + 5 * r) (by omega)]; exact h7 r hr
def nx (v c : Int) : Int := ((iI v <<< (iI 5 &&& 31)) ||| iI (c - 96)).toInt
/-- the letters from k on: their number (if they are 6 at most), how many -/
def wvG (f : Nat → Int32) (sz : Int) : Nat → Int → Int → Int → Int × Int
  | 0, _, v, n => (v, n)
  | fu + 1, k, v, n => if k < sz ∧ 97 ≤ nz f k.toNat ∧ nz f k.toNat ≤ 122 then wvG f sz fu (k + 1) (if n < 6 then nx v (nz f k.toNat) else 0) (n + 1) else (v, n)
def wv (f : Nat → Int32) (sz a : Int) : Int := if 6 < (wvG f sz (602 - a).toNat a 0 0).2 then 0 else (wvG f sz (602 - a).toNat a 0 0).1
theorem nx_eq {v q z1 z2 z3 : Int} (e1 : iI v <<< (iI 5 &&& 31) = iI z1) (h2 : z2 = q - 96) (e3 : iI z1 ||| iI z2 = iI z3) (hr : -2147483648 ≤ z3 ∧ z3 ≤ 2147483647) : z3 = nx v q := by
  unfold nx
  rw [e1, ← h2, e3]
  exact (iI_to hr.1 hr.2).symm
theorem wvG_step {f : Nat → Int32} {sz k v n k1 v1 n1 : Int} {x : Int × Int} (h : wvG f sz (602 - k).toNat k v n = x) (hk : k < sz ∧ k < 602) (hc : 97 ≤ nz f k.toNat ∧ nz f k.toNat ≤ 122) (e1 : k1 = k + 1) (e2 : (n < 6 ∧ v1 = nx v (nz f k.toNat)) ∨ (6 ≤ n ∧ v1 = 0)) (e3 : n1 = n + 1) : wvG f sz (602 - k1).toNat k1 v1 n1 = x := by
  subst e1 e3
  rw [show (602 - k).toNat = (602 - (k + 1)).toNat + 1 by omega, wvG, if_pos ⟨hk.1, hc⟩] at h
  rw [← h]
  rcases e2 with ⟨a, b⟩ | ⟨a, b⟩
  · rw [if_pos a, b]
  · rw [if_neg (by omega), b]
theorem wvG_end {f : Nat → Int32} {sz k v n : Int} (fu : Nat) (hc : ¬ (k < sz ∧ 97 ≤ nz f k.toNat ∧ nz f k.toNat ≤ 122)) : wvG f sz fu k v n = (v, n) := by
  cases fu with
  | zero => rfl
  | succ fu => rw [wvG, if_neg hc]
theorem wv_fin {f : Nat → Int32} {sz k v n a r : Int} (h : wvG f sz (602 - k).toNat k v n = wvG f sz (602 - a).toNat a 0 0) (hc : ¬ (k < sz ∧ 97 ≤ nz f k.toNat ∧ nz f k.toNat ≤ 122)) (hr : (6 < n ∧ r = 0) ∨ (n ≤ 6 ∧ r = v)) : r = wv f sz a := by
  rw [wvG_end _ hc] at h
  unfold wv
  rw [← h]
  rcases hr with ⟨a, b⟩ | ⟨a, b⟩
  · rw [if_pos a]; exact b
  · rw [if_neg (by show ¬ 6 < n; omega)]; exact b
/-- zeros so far, where P asks for them -/
theorem zs_st {P : Nat → Prop} {f f1 : Nat → Int32} {q v q1 : Int} (h : ∀ j : Nat, (j : Int) < q → P j → f j = iI 0) (hd : f1 = upd f (iI q).toNatClampNeg (iI v)) (hq : 0 ≤ q ∧ q ≤ 2147483647) (hv : P q.toNat → v = 0) (h1 : q1 = q + 1) : ∀ j : Nat, (j : Int) < q1 → P j → f1 j = iI 0 := by
  intro j hj hp
  subst hd h1
  rw [iI_cl hq.1 hq.2]
  by_cases e : j = q.toNat
  · subst e
    rw [pk_us, hv hp]
  · rw [pk_un e]
    exact h j (by omega) hp
/-- a copy so far -/
theorem cp_st {f f1 g : Nat → Int32} {q z q1 : Int} (h : ∀ j : Nat, (j : Int) < q → f j = g j) (hd : f1 = upd f (iI q).toNatClampNeg (iI z)) (hz : z = nz g q.toNat) (hq : 0 ≤ q ∧ q ≤ 2147483647) (h1 : q1 = q + 1) : ∀ j : Nat, (j : Int) < q1 → f1 j = g j := by
  intro j hj
  subst hd h1
  rw [iI_cl hq.1 hq.2]
  by_cases e : j = q.toNat
  · subst e
    rw [pk_us, hz]
    exact (nz_e g q.toNat).symm
  · rw [pk_un e]
    exact h j (by omega)
/-- a copy into rows of 389 places: row r so far; the other rows stay -/
theorem ci_st {f f0 f1 g : Nat → Int32} {q z q1 e : Int} {r : Int} (h : (∀ j : Nat, (j : Int) < q → f (389 * r.toNat + j) = g j) ∧ ∀ j : Nat, ((j : Int) < 389 * r ∨ 389 * r + 389 ≤ j) → f j = f0 j) (hd : f1 = upd f (iI e).toNatClampNeg (iI z)) (he : e = 389 * r + q) (hr : 0 ≤ r ∧ r ≤ 3) (hz : z = nz g q.toNat) (hq : 0 ≤ q ∧ q < 389) (h1 : q1 = q + 1) : (∀ j : Nat, (j : Int) < q1 → f1 (389 * r.toNat + j) = g j) ∧ ∀ j : Nat, ((j : Int) < 389 * r ∨ 389 * r + 389 ≤ j) → f1 j = f0 j := by
  subst hd h1
  rw [iI_cl (by omega) (by omega)]
  refine ⟨fun j hj => ?_, fun j hj => ?_⟩
  · by_cases e9 : j = q.toNat
    · subst e9
      rw [show e.toNat = 389 * r.toNat + q.toNat by omega, pk_us, hz]
      exact (nz_e g q.toNat).symm
    · rw [pk_un (by omega)]
      exact h.1 j (by omega)
  · rw [pk_un (by omega)]
    exact h.2 j hj
theorem co_st {f f1 g : Nat → Int32} {q z q1 e : Int} {r : Int} (h : ∀ j : Nat, (j : Int) < q → f j = g (389 * r.toNat + j)) (hd : f1 = upd f (iI q).toNatClampNeg (iI z)) (he : e = 389 * r + q) (hr : 0 ≤ r ∧ r ≤ 3) (hz : z = nz g e.toNat) (hq : 0 ≤ q ∧ q < 389) (h1 : q1 = q + 1) : ∀ j : Nat, (j : Int) < q1 → f1 j = g (389 * r.toNat + j) := by
  intro j hj
  subst hd h1
  rw [iI_cl hq.1 (by omega)]
  by_cases e9 : j = q.toNat
  · subst e9
    rw [pk_us, hz, show e.toNat = 389 * r.toNat + q.toNat by omega]
    exact (nz_e g _).symm
  · rw [pk_un e9]
    exact h j (by omega)
section MB
variable {p : Program} {l : Launch} {e : Env} {R : Room} {s : State} {m : MethodId} {args : Array Value} {below : List Frame} {meth : Method} {c : Code} {H : Heap} {locs : List Loc} {cells slots : Nat} {Q : State → Prop} {pc : Nat} {ls : Array Slot} {rest : List Value}
theorem lt_nz {f : Nat → Int32} {i : Int} (he : 0 ≤ i ∧ i ≤ 2147483647) (kk : ∀ z : Int, z = nz f i.toNat → -2147483648 ≤ z → z ≤ 2147483647 → W p l e R s m args below meth c H locs cells slots Q (F0 m pc ls (.int (iI z) :: rest))) : W p l e R s m args below meth c H locs cells slots Q (F0 m pc ls (.int (f (iI i).toNatClampNeg) :: rest)) := by
  have h1 := nz_r f i.toNat
  have h2 := kk (nz f i.toNat) rfl h1.1 h1.2
  rw [iI_cl he.1 he.2, nz_e f i.toNat]
  exact h2
end MB
end
section
/-- the places of what is planned -/
def FRq (j : Nat) : Prop := 252 ≤ j ∧ j < 385
/-- the reference's state, its plan told by q -/
def SQ (q : Nat → Int) (pm : Int) (f : Nat → Int32) : Prop := SI pm f ∧ ∀ j : Nat, FRq j → nz f j = q j
theorem SQ.of {pm : Int} {f : Nat → Int32} (h : SI pm f) : SQ (nz f) pm f := ⟨h, fun _ _ => rfl⟩
theorem SQ.up {q : Nat → Int} {a b : Int} {f : Nat → Int32} (hs : SQ q a f) (h : a ≤ b) : SQ q b f := ⟨hs.1.up h, hs.2⟩
theorem SQ.ext {q : Nat → Int} {pm : Int} {f g : Nat → Int32} (hs : SQ q pm f) (h : ∀ j : Nat, j < 389 → g j = f j) : SQ q pm g := ⟨hs.1.ext h, fun j hj => (nz_ext (h j (by unfold FRq at hj; omega))).trans (hs.2 j hj)⟩
theorem SQ.fr {q : Nat → Int} {f f1 : Nat → Int32} {e : Int} {x : Int32} (h : ∀ j : Nat, FRq j → nz f j = q j) (hd : f1 = upd f (iI e).toNatClampNeg x) (he : 0 ≤ e ∧ e ≤ 2147483647) (h1 : e < 252 ∨ 385 ≤ e) : ∀ j : Nat, FRq j → nz f1 j = q j := fun j hj => (nz_un hd he (by unfold FRq at hj; omega)).trans (h j hj)
end
