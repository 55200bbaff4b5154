theorem dX12_at_0 : decode cX12_at 0 = .ok (.bipush 16, 2) := by decide +kernel
theorem dX12_at_2 : decode cX12_at 2 = .ok (.iload_n 1, 1) := by decide +kernel
theorem dX12_at_3 : decode cX12_at 3 = .ok (.imul, 1) := by decide +kernel
theorem dX12_at_4 : decode cX12_at 4 = .ok (.iload_n 0, 1) := by decide +kernel
theorem dX12_at_5 : decode cX12_at 5 = .ok (.iadd, 1) := by decide +kernel
theorem dX12_at_6 : decode cX12_at 6 = .ok (.ireturn, 1) := by decide +kernel
theorem dX12_drainTold_0 : decode cX12_drainTold 0 = .ok (.iload_n 1, 1) := by decide +kernel
theorem dX12_drainTold_1 : decode cX12_drainTold 1 = .ok (.aload_n 0, 1) := by decide +kernel
theorem dX12_drainTold_10 : decode cX12_drainTold 10 = .ok (.aload_n 0, 1) := by decide +kernel
theorem dX12_drainTold_11 : decode cX12_drainTold 11 = .ok (.getfield 23, 3) := by decide +kernel
theorem dX12_drainTold_14 : decode cX12_drainTold 14 = .ok (.bipush 6, 2) := by decide +kernel
theorem dX12_drainTold_16 : decode cX12_drainTold 16 = .ok (.iconst 3, 1) := by decide +kernel
theorem dX12_drainTold_17 : decode cX12_drainTold 17 = .ok (.iload_n 1, 1) := by decide +kernel
theorem dX12_drainTold_18 : decode cX12_drainTold 18 = .ok (.imul, 1) := by decide +kernel
theorem dX12_drainTold_19 : decode cX12_drainTold 19 = .ok (.iadd, 1) := by decide +kernel
theorem dX12_drainTold_2 : decode cX12_drainTold 2 = .ok (.getfield 23, 3) := by decide +kernel
theorem dX12_drainTold_20 : decode cX12_drainTold 20 = .ok (.iload_n 2, 1) := by decide +kernel
theorem dX12_drainTold_21 : decode cX12_drainTold 21 = .ok (.iadd, 1) := by decide +kernel
theorem dX12_drainTold_22 : decode cX12_drainTold 22 = .ok (.iaload, 1) := by decide +kernel
theorem dX12_drainTold_23 : decode cX12_drainTold 23 = .ok (.goto 34, 3) := by decide +kernel
theorem dX12_drainTold_26 : decode cX12_drainTold 26 = .ok (.aload_n 0, 1) := by decide +kernel
theorem dX12_drainTold_27 : decode cX12_drainTold 27 = .ok (.getfield 23, 3) := by decide +kernel
theorem dX12_drainTold_30 : decode cX12_drainTold 30 = .ok (.bipush 28, 2) := by decide +kernel
theorem dX12_drainTold_32 : decode cX12_drainTold 32 = .ok (.iconst 5, 1) := by decide +kernel
theorem dX12_drainTold_33 : decode cX12_drainTold 33 = .ok (.aload_n 0, 1) := by decide +kernel
theorem dX12_drainTold_34 : decode cX12_drainTold 34 = .ok (.getfield 29, 3) := by decide +kernel
theorem dX12_drainTold_37 : decode cX12_drainTold 37 = .ok (.sipush 207, 3) := by decide +kernel
theorem dX12_drainTold_40 : decode cX12_drainTold 40 = .ok (.iload_n 1, 1) := by decide +kernel
theorem dX12_drainTold_41 : decode cX12_drainTold 41 = .ok (.iadd, 1) := by decide +kernel
theorem dX12_drainTold_42 : decode cX12_drainTold 42 = .ok (.aload_n 0, 1) := by decide +kernel
theorem dX12_drainTold_43 : decode cX12_drainTold 43 = .ok (.getfield 23, 3) := by decide +kernel
theorem dX12_drainTold_46 : decode cX12_drainTold 46 = .ok (.iconst 2, 1) := by decide +kernel
theorem dX12_drainTold_47 : decode cX12_drainTold 47 = .ok (.iaload, 1) := by decide +kernel
theorem dX12_drainTold_48 : decode cX12_drainTold 48 = .ok (.isub, 1) := by decide +kernel
theorem dX12_drainTold_49 : decode cX12_drainTold 49 = .ok (.iaload, 1) := by decide +kernel
theorem dX12_drainTold_5 : decode cX12_drainTold 5 = .ok (.iconst 2, 1) := by decide +kernel
theorem dX12_drainTold_50 : decode cX12_drainTold 50 = .ok (.imul, 1) := by decide +kernel
theorem dX12_drainTold_51 : decode cX12_drainTold 51 = .ok (.iadd, 1) := by decide +kernel
theorem dX12_drainTold_52 : decode cX12_drainTold 52 = .ok (.iconst 1, 1) := by decide +kernel
theorem dX12_drainTold_53 : decode cX12_drainTold 53 = .ok (.iadd, 1) := by decide +kernel
theorem dX12_drainTold_54 : decode cX12_drainTold 54 = .ok (.iload_n 2, 1) := by decide +kernel
theorem dX12_drainTold_55 : decode cX12_drainTold 55 = .ok (.iadd, 1) := by decide +kernel
theorem dX12_drainTold_56 : decode cX12_drainTold 56 = .ok (.iaload, 1) := by decide +kernel
theorem dX12_drainTold_57 : decode cX12_drainTold 57 = .ok (.ireturn, 1) := by decide +kernel
theorem dX12_drainTold_6 : decode cX12_drainTold 6 = .ok (.iaload, 1) := by decide +kernel
theorem dX12_drainTold_7 : decode cX12_drainTold 7 = .ok (.if_icmp .ge 19, 3) := by decide +kernel
theorem dX12_drains_0 : decode cX12_drains 0 = .ok (.aload_n 0, 1) := by decide +kernel
theorem dX12_drains_1 : decode cX12_drains 1 = .ok (.getfield 23, 3) := by decide +kernel
theorem dX12_drains_10 : decode cX12_drains 10 = .ok (.sipush 206, 3) := by decide +kernel
theorem dX12_drains_13 : decode cX12_drains 13 = .ok (.iaload, 1) := by decide +kernel
theorem dX12_drains_14 : decode cX12_drains 14 = .ok (.iadd, 1) := by decide +kernel
theorem dX12_drains_15 : decode cX12_drains 15 = .ok (.ireturn, 1) := by decide +kernel
theorem dX12_drains_4 : decode cX12_drains 4 = .ok (.iconst 2, 1) := by decide +kernel
theorem dX12_drains_5 : decode cX12_drains 5 = .ok (.iaload, 1) := by decide +kernel
theorem dX12_drains_6 : decode cX12_drains 6 = .ok (.aload_n 0, 1) := by decide +kernel
theorem dX12_drains_7 : decode cX12_drains 7 = .ok (.getfield 29, 3) := by decide +kernel
theorem dX12_isCell_0 : decode cX12_isCell 0 = .ok (.aload_n 0, 1) := by decide +kernel
theorem dX12_isCell_1 : decode cX12_isCell 1 = .ok (.iload_n 1, 1) := by decide +kernel
theorem dX12_isCell_10 : decode cX12_isCell 10 = .ok (.isub, 1) := by decide +kernel
theorem dX12_isCell_11 : decode cX12_isCell 11 = .ok (.invokestatic 279, 3) := by decide +kernel
theorem dX12_isCell_14 : decode cX12_isCell 14 = .ok (.ifCond .eq 23, 3) := by decide +kernel
theorem dX12_isCell_17 : decode cX12_isCell 17 = .ok (.iload_n 2, 1) := by decide +kernel
theorem dX12_isCell_18 : decode cX12_isCell 18 = .ok (.iconst 0, 1) := by decide +kernel
theorem dX12_isCell_19 : decode cX12_isCell 19 = .ok (.aload_n 0, 1) := by decide +kernel
theorem dX12_isCell_2 : decode cX12_isCell 2 = .ok (.iconst 0, 1) := by decide +kernel
theorem dX12_isCell_20 : decode cX12_isCell 20 = .ok (.getfield 23, 3) := by decide +kernel
theorem dX12_isCell_23 : decode cX12_isCell 23 = .ok (.iconst 1, 1) := by decide +kernel
theorem dX12_isCell_24 : decode cX12_isCell 24 = .ok (.iaload, 1) := by decide +kernel
theorem dX12_isCell_25 : decode cX12_isCell 25 = .ok (.iconst 1, 1) := by decide +kernel
theorem dX12_isCell_26 : decode cX12_isCell 26 = .ok (.isub, 1) := by decide +kernel
theorem dX12_isCell_27 : decode cX12_isCell 27 = .ok (.invokestatic 279, 3) := by decide +kernel
theorem dX12_isCell_3 : decode cX12_isCell 3 = .ok (.aload_n 0, 1) := by decide +kernel
theorem dX12_isCell_30 : decode cX12_isCell 30 = .ok (.ifCond .eq 7, 3) := by decide +kernel
theorem dX12_isCell_33 : decode cX12_isCell 33 = .ok (.iconst 1, 1) := by decide +kernel
theorem dX12_isCell_34 : decode cX12_isCell 34 = .ok (.goto 4, 3) := by decide +kernel
theorem dX12_isCell_37 : decode cX12_isCell 37 = .ok (.iconst 0, 1) := by decide +kernel
theorem dX12_isCell_38 : decode cX12_isCell 38 = .ok (.iload_n 3, 1) := by decide +kernel
theorem dX12_isCell_39 : decode cX12_isCell 39 = .ok (.iconst 0, 1) := by decide +kernel
theorem dX12_isCell_4 : decode cX12_isCell 4 = .ok (.getfield 23, 3) := by decide +kernel
theorem dX12_isCell_40 : decode cX12_isCell 40 = .ok (.invokevirtual 175, 3) := by decide +kernel
theorem dX12_isCell_43 : decode cX12_isCell 43 = .ok (.ireturn, 1) := by decide +kernel
theorem dX12_isCell_7 : decode cX12_isCell 7 = .ok (.iconst 0, 1) := by decide +kernel
theorem dX12_isCell_8 : decode cX12_isCell 8 = .ok (.iaload, 1) := by decide +kernel
theorem dX12_isCell_9 : decode cX12_isCell 9 = .ok (.iconst 1, 1) := by decide +kernel
theorem dX12_isLaw_0 : decode cX12_isLaw 0 = .ok (.aload_n 0, 1) := by decide +kernel
theorem dX12_isLaw_1 : decode cX12_isLaw 1 = .ok (.iload_n 1, 1) := by decide +kernel
theorem dX12_isLaw_12 : decode cX12_isLaw 12 = .ok (.iload_n 2, 1) := by decide +kernel
theorem dX12_isLaw_13 : decode cX12_isLaw 13 = .ok (.iconst 1, 1) := by decide +kernel
theorem dX12_isLaw_14 : decode cX12_isLaw 14 = .ok (.invokevirtual 175, 3) := by decide +kernel
theorem dX12_isLaw_17 : decode cX12_isLaw 17 = .ok (.ireturn, 1) := by decide +kernel
theorem dX12_isLaw_2 : decode cX12_isLaw 2 = .ok (.iconst 0, 1) := by decide +kernel
theorem dX12_isLaw_3 : decode cX12_isLaw 3 = .ok (.aload_n 0, 1) := by decide +kernel
theorem dX12_isLaw_4 : decode cX12_isLaw 4 = .ok (.getfield 209, 3) := by decide +kernel
theorem dX12_isLaw_7 : decode cX12_isLaw 7 = .ok (.iconst 1, 1) := by decide +kernel
theorem dX12_isLaw_8 : decode cX12_isLaw 8 = .ok (.isub, 1) := by decide +kernel
theorem dX12_isLaw_9 : decode cX12_isLaw 9 = .ok (.invokestatic 279, 3) := by decide +kernel
theorem dX12_isNow_0 : decode cX12_isNow 0 = .ok (.aload_n 0, 1) := by decide +kernel
theorem dX12_isNow_1 : decode cX12_isNow 1 = .ok (.aload_n 0, 1) := by decide +kernel
theorem dX12_isNow_10 : decode cX12_isNow 10 = .ok (.aload_n 0, 1) := by decide +kernel
theorem dX12_isNow_11 : decode cX12_isNow 11 = .ok (.getfield 29, 3) := by decide +kernel
theorem dX12_isNow_14 : decode cX12_isNow 14 = .ok (.sipush 388, 3) := by decide +kernel
theorem dX12_isNow_17 : decode cX12_isNow 17 = .ok (.iaload, 1) := by decide +kernel
theorem dX12_isNow_18 : decode cX12_isNow 18 = .ok (.sipush 600, 3) := by decide +kernel
theorem dX12_isNow_2 : decode cX12_isNow 2 = .ok (.getfield 23, 3) := by decide +kernel
theorem dX12_isNow_21 : decode cX12_isNow 21 = .ok (.if_icmp .ge 7, 3) := by decide +kernel
theorem dX12_isNow_24 : decode cX12_isNow 24 = .ok (.iconst 1, 1) := by decide +kernel
theorem dX12_isNow_25 : decode cX12_isNow 25 = .ok (.goto 4, 3) := by decide +kernel
theorem dX12_isNow_28 : decode cX12_isNow 28 = .ok (.iconst 0, 1) := by decide +kernel
theorem dX12_isNow_29 : decode cX12_isNow 29 = .ok (.iload_n 1, 1) := by decide +kernel
theorem dX12_isNow_30 : decode cX12_isNow 30 = .ok (.iconst 3, 1) := by decide +kernel
theorem dX12_isNow_31 : decode cX12_isNow 31 = .ok (.invokevirtual 175, 3) := by decide +kernel
theorem dX12_isNow_34 : decode cX12_isNow 34 = .ok (.ireturn, 1) := by decide +kernel
theorem dX12_isNow_5 : decode cX12_isNow 5 = .ok (.iconst 0, 1) := by decide +kernel
theorem dX12_isNow_6 : decode cX12_isNow 6 = .ok (.iaload, 1) := by decide +kernel
theorem dX12_isNow_7 : decode cX12_isNow 7 = .ok (.ifCond .le 21, 3) := by decide +kernel
theorem dX12_isRain_0 : decode cX12_isRain 0 = .ok (.aload_n 0, 1) := by decide +kernel
theorem dX12_isRain_1 : decode cX12_isRain 1 = .ok (.iload_n 1, 1) := by decide +kernel
theorem dX12_isRain_12 : decode cX12_isRain 12 = .ok (.iload_n 2, 1) := by decide +kernel
theorem dX12_isRain_13 : decode cX12_isRain 13 = .ok (.iconst 1, 1) := by decide +kernel
theorem dX12_isRain_14 : decode cX12_isRain 14 = .ok (.invokevirtual 175, 3) := by decide +kernel
theorem dX12_isRain_17 : decode cX12_isRain 17 = .ok (.ireturn, 1) := by decide +kernel
theorem dX12_isRain_2 : decode cX12_isRain 2 = .ok (.iconst 0, 1) := by decide +kernel
theorem dX12_isRain_3 : decode cX12_isRain 3 = .ok (.aload_n 0, 1) := by decide +kernel
theorem dX12_isRain_4 : decode cX12_isRain 4 = .ok (.getfield 204, 3) := by decide +kernel
theorem dX12_isRain_7 : decode cX12_isRain 7 = .ok (.iconst 1, 1) := by decide +kernel
theorem dX12_isRain_8 : decode cX12_isRain 8 = .ok (.isub, 1) := by decide +kernel
theorem dX12_isRain_9 : decode cX12_isRain 9 = .ok (.invokestatic 279, 3) := by decide +kernel
theorem dX12_isStreet_0 : decode cX12_isStreet 0 = .ok (.aload_n 0, 1) := by decide +kernel
theorem dX12_isStreet_1 : decode cX12_isStreet 1 = .ok (.aload_n 0, 1) := by decide +kernel
theorem dX12_isStreet_10 : decode cX12_isStreet 10 = .ok (.iconst 1, 1) := by decide +kernel
theorem dX12_isStreet_11 : decode cX12_isStreet 11 = .ok (.goto 4, 3) := by decide +kernel
theorem dX12_isStreet_14 : decode cX12_isStreet 14 = .ok (.iconst 0, 1) := by decide +kernel
theorem dX12_isStreet_15 : decode cX12_isStreet 15 = .ok (.iload_n 1, 1) := by decide +kernel
theorem dX12_isStreet_16 : decode cX12_isStreet 16 = .ok (.iconst 3, 1) := by decide +kernel
theorem dX12_isStreet_17 : decode cX12_isStreet 17 = .ok (.invokevirtual 175, 3) := by decide +kernel
theorem dX12_isStreet_2 : decode cX12_isStreet 2 = .ok (.getfield 23, 3) := by decide +kernel
theorem dX12_isStreet_20 : decode cX12_isStreet 20 = .ok (.ireturn, 1) := by decide +kernel
theorem dX12_isStreet_5 : decode cX12_isStreet 5 = .ok (.iconst 0, 1) := by decide +kernel
theorem dX12_isStreet_6 : decode cX12_isStreet 6 = .ok (.iaload, 1) := by decide +kernel
theorem dX12_isStreet_7 : decode cX12_isStreet 7 = .ok (.ifCond .le 7, 3) := by decide +kernel
theorem dX12_isWork_0 : decode cX12_isWork 0 = .ok (.aload_n 0, 1) := by decide +kernel
theorem dX12_isWork_1 : decode cX12_isWork 1 = .ok (.iload_n 1, 1) := by decide +kernel
theorem dX12_isWork_10 : decode cX12_isWork 10 = .ok (.isub, 1) := by decide +kernel
theorem dX12_isWork_11 : decode cX12_isWork 11 = .ok (.invokestatic 279, 3) := by decide +kernel
theorem dX12_isWork_14 : decode cX12_isWork 14 = .ok (.iconst 1, 1) := by decide +kernel
theorem dX12_isWork_15 : decode cX12_isWork 15 = .ok (.iconst 1, 1) := by decide +kernel
theorem dX12_isWork_16 : decode cX12_isWork 16 = .ok (.invokevirtual 175, 3) := by decide +kernel
theorem dX12_isWork_19 : decode cX12_isWork 19 = .ok (.ireturn, 1) := by decide +kernel
theorem dX12_isWork_2 : decode cX12_isWork 2 = .ok (.iconst 0, 1) := by decide +kernel
theorem dX12_isWork_3 : decode cX12_isWork 3 = .ok (.aload_n 0, 1) := by decide +kernel
theorem dX12_isWork_4 : decode cX12_isWork 4 = .ok (.getfield 23, 3) := by decide +kernel
theorem dX12_isWork_7 : decode cX12_isWork 7 = .ok (.iconst 5, 1) := by decide +kernel
theorem dX12_isWork_8 : decode cX12_isWork 8 = .ok (.iaload, 1) := by decide +kernel
theorem dX12_isWork_9 : decode cX12_isWork 9 = .ok (.iconst 1, 1) := by decide +kernel
theorem dX12_leavesOf_0 : decode cX12_leavesOf 0 = .ok (.aload_n 0, 1) := by decide +kernel
theorem dX12_leavesOf_1 : decode cX12_leavesOf 1 = .ok (.getfield 71, 3) := by decide +kernel
theorem dX12_leavesOf_10 : decode cX12_leavesOf 10 = .ok (.getfield 71, 3) := by decide +kernel
theorem dX12_leavesOf_13 : decode cX12_leavesOf 13 = .ok (.if_icmp .ne 8, 3) := by decide +kernel
theorem dX12_leavesOf_16 : decode cX12_leavesOf 16 = .ok (.bipush 16, 2) := by decide +kernel
theorem dX12_leavesOf_18 : decode cX12_leavesOf 18 = .ok (.goto 31, 3) := by decide +kernel
theorem dX12_leavesOf_21 : decode cX12_leavesOf 21 = .ok (.iconst 0, 1) := by decide +kernel
theorem dX12_leavesOf_22 : decode cX12_leavesOf 22 = .ok (.goto 27, 3) := by decide +kernel
theorem dX12_leavesOf_25 : decode cX12_leavesOf 25 = .ok (.iload_n 1, 1) := by decide +kernel
theorem dX12_leavesOf_26 : decode cX12_leavesOf 26 = .ok (.aload_n 0, 1) := by decide +kernel
theorem dX12_leavesOf_27 : decode cX12_leavesOf 27 = .ok (.getfield 23, 3) := by decide +kernel
theorem dX12_leavesOf_30 : decode cX12_leavesOf 30 = .ok (.iconst 2, 1) := by decide +kernel
theorem dX12_leavesOf_31 : decode cX12_leavesOf 31 = .ok (.iaload, 1) := by decide +kernel
theorem dX12_leavesOf_32 : decode cX12_leavesOf 32 = .ok (.if_icmp .ge 16, 3) := by decide +kernel
theorem dX12_leavesOf_35 : decode cX12_leavesOf 35 = .ok (.aload_n 0, 1) := by decide +kernel
theorem dX12_leavesOf_36 : decode cX12_leavesOf 36 = .ok (.getfield 29, 3) := by decide +kernel
theorem dX12_leavesOf_39 : decode cX12_leavesOf 39 = .ok (.sipush 192, 3) := by decide +kernel
theorem dX12_leavesOf_4 : decode cX12_leavesOf 4 = .ok (.iconst (-1), 1) := by decide +kernel
theorem dX12_leavesOf_42 : decode cX12_leavesOf 42 = .ok (.iload_n 1, 1) := by decide +kernel
theorem dX12_leavesOf_43 : decode cX12_leavesOf 43 = .ok (.iadd, 1) := by decide +kernel
theorem dX12_leavesOf_44 : decode cX12_leavesOf 44 = .ok (.iaload, 1) := by decide +kernel
theorem dX12_leavesOf_45 : decode cX12_leavesOf 45 = .ok (.goto 4, 3) := by decide +kernel
theorem dX12_leavesOf_48 : decode cX12_leavesOf 48 = .ok (.iconst 0, 1) := by decide +kernel
theorem dX12_leavesOf_49 : decode cX12_leavesOf 49 = .ok (.ireturn, 1) := by decide +kernel
theorem dX12_leavesOf_5 : decode cX12_leavesOf 5 = .ok (.if_icmp .eq 20, 3) := by decide +kernel
theorem dX12_leavesOf_8 : decode cX12_leavesOf 8 = .ok (.iload_n 1, 1) := by decide +kernel
theorem dX12_leavesOf_9 : decode cX12_leavesOf 9 = .ok (.aload_n 0, 1) := by decide +kernel
theorem dX12_surface_0 : decode cX12_surface 0 = .ok (.aload_n 0, 1) := by decide +kernel
theorem dX12_surface_1 : decode cX12_surface 1 = .ok (.getfield 29, 3) := by decide +kernel
theorem dX12_surface_12 : decode cX12_surface 12 = .ok (.bipush 96, 2) := by decide +kernel
theorem dX12_surface_14 : decode cX12_surface 14 = .ok (.iload_n 1, 1) := by decide +kernel
theorem dX12_surface_15 : decode cX12_surface 15 = .ok (.iadd, 1) := by decide +kernel
theorem dX12_surface_16 : decode cX12_surface 16 = .ok (.iaload, 1) := by decide +kernel
theorem dX12_surface_17 : decode cX12_surface 17 = .ok (.iadd, 1) := by decide +kernel
theorem dX12_surface_18 : decode cX12_surface 18 = .ok (.ireturn, 1) := by decide +kernel
theorem dX12_surface_4 : decode cX12_surface 4 = .ok (.iconst 0, 1) := by decide +kernel
theorem dX12_surface_5 : decode cX12_surface 5 = .ok (.iload_n 1, 1) := by decide +kernel
theorem dX12_surface_6 : decode cX12_surface 6 = .ok (.iadd, 1) := by decide +kernel
theorem dX12_surface_7 : decode cX12_surface 7 = .ok (.iaload, 1) := by decide +kernel
theorem dX12_surface_8 : decode cX12_surface 8 = .ok (.aload_n 0, 1) := by decide +kernel
theorem dX12_surface_9 : decode cX12_surface 9 = .ok (.getfield 29, 3) := by decide +kernel
def vs_m_isLaw : List Cond := .code yX12_isLaw cX12_isLaw 3 (some .boolean) :: (([.fieldLink RX12 209 "KerbSplashModel" "laws" "I"] : List Cond) ++ ((wsX120) ++ ((va_wsS RX12 279 yX12_within vs_m_within) ++ ((wsV RX12 175 RX12 yX12_may vs_m_may) ++ ([])))))
theorem gd_m_isLaw : vs_m_isLaw.all goodWord = true := gd_C (by decide +kernel) (gd_A (by decide +kernel) (gd_A (by decide +kernel) (gd_A (gd_S gd_m_within (by decide +kernel)) (gd_A (gd_V gd_m_may (by decide +kernel)) rfl))))
set_option maxHeartbeats 4000000 in
set_option maxRecDepth 100000 in
theorem m_isLaw (l : Launch) (hl : l.stackTraces = false) (D : va_G) (cy : Nat → ClassId) (sa : Nat → Nat) (mm m1 m9 m10 m11 m12 m13 m14 m15 m19 m20 m21 m23 m24 m25 m26 m27 m28 m33 m35 : Nat) (th tp sz_ ap bad bk opn fp im nr nl sp_ wtc wcl ir ip shu sfa swr : Int) (f1 : Nat → Int32) (n k : Int) (sz : Nat) (hr_th : (-2147483648) ≤ th ∧ th ≤ 2147483647) (hr_tp : 0 ≤ tp ∧ tp ≤ 600) (hr_sz_ : 0 ≤ sz_ ∧ sz_ ≤ 600) (hr_ap : 0 ≤ ap ∧ ap ≤ 602) (hr_bad : (-1) ≤ bad ∧ bad ≤ 602) (hr_bk : 0 ≤ bk ∧ bk ≤ 4) (hr_opn : 0 ≤ opn ∧ opn ≤ 7) (hr_fp : (-2147483648) ≤ fp ∧ fp ≤ 2147483647) (hr_im : 0 ≤ im ∧ im ≤ 3) (hr_nr : 0 ≤ nr ∧ nr ≤ 4) (hr_nl : 0 ≤ nl ∧ nl ≤ 4) (hr_sp_ : 0 ≤ sp_ ∧ sp_ ≤ 602) (hr_wtc : (-2147483648) ≤ wtc ∧ wtc ≤ 2147483647) (hr_wcl : 0 ≤ wcl ∧ wcl ≤ 95) (hr_ir : 0 ≤ ir ∧ ir ≤ 5) (hr_ip : (-2147483648) ≤ ip ∧ ip ≤ 2147483647) (hr_shu : (-2147483648) ≤ shu ∧ shu ≤ 2147483647) (hr_sfa : (-2147483648) ≤ sfa ∧ sfa ≤ 2147483647) (hr_swr : (-2147483648) ≤ swr ∧ swr ≤ 2147483647) (hr_n : (-2147483648) ≤ n ∧ n ≤ 2147483647) (hr_k : 1 ≤ k ∧ k ≤ 4) : mI9 l yX12_isLaw vs_m_isLaw ({ frames := 1, cells := 0, slots := 0, locals := 23 }) D cy sa sz [vR mm, vI n, vI k] [zO mm 12 [vI th, vR m1, vI tp, vI sz_, vI ap, vI bad, vI bk, vI opn, vI fp, vR m9, vR m10, vR m11, vR m12, vR m13, vR m14, vR m15, vI im, vI nr, vI nl, vR m19, vR m20, vR m21, vI sp_, vR m23, vR m24, vR m25, vR m26, vR m27, vR m28, vI wtc, vI wcl, vI ir, vI ip, vR m33, vI shu, vR m35, vI sfa, vI swr], zI m1 (cy 0) 4 f1] (fun (r : Int32) (u : SV) => r = iI (u.2.1 0) ∧ ((-2147483648) ≤ u.2.1 1 ∧ u.2.1 1 ≤ 2147483647) ∧ (0 ≤ u.2.1 0 ∧ u.2.1 0 ≤ 1) ∧ (u.2.1 0 = 1 → 0 ≤ n ∧ n < nl ∧ u.2.1 1 = 0)) (fun u : SV => [zO mm 12 [vI (u.2.1 1), vR m1, vI tp, vI sz_, vI ap, vI bad, vI bk, vI opn, vI fp, vR m9, vR m10, vR m11, vR m12, vR m13, vR m14, vR m15, vI im, vI nr, vI nl, vR m19, vR m20, vR m21, vI sp_, vR m23, vR m24, vR m25, vR m26, vR m27, vR m28, vI wtc, vI wcl, vI ir, vI ip, vR m33, vI shu, vR m35, vI sfa, vI swr], zI m1 (cy 0) 4 (u.2.2 0)]) 0 0 := by
  refine Met.ofW (cc := cX12_isLaw) (maxL := 3) (ret := (some .boolean)) (by decide) rfl ?_
  intro p e s m args below meth c s₁ B hml hv
  obtain ⟨rfl, hsz, hP, hG, hD0, hT⟩ := hv
  have hx := B.exec
  have hb := B.bytes
  have hr := B.returns
  have hts := atoms_spec (ws := vs_m_isLaw) B.pre
  have hown : s.vm.findClass RX12 = some m.cls := findClass_of_methodNamed B.named
  have hlocks := B.notSynchronized
  subst hsz
  have hD := hD0.self (sz := s.heap.size)
  generalize hAe : va_A [zO mm 12 [vI th, vR m1, vI tp, vI sz_, vI ap, vI bad, vI bk, vI opn, vI fp, vR m9, vR m10, vR m11, vR m12, vR m13, vR m14, vR m15, vI im, vI nr, vI nl, vR m19, vR m20, vR m21, vI sp_, vR m23, vR m24, vR m25, vR m26, vR m27, vR m28, vI wtc, vI wcl, vI ir, vI ip, vR m33, vI shu, vR m35, vI sfa, vI swr], zI m1 (cy 0) 4 f1] s.heap.size = A at hD hT ⊢
  have hA : ∀ q : Nat, s.heap.size ≤ q → A q := fun q h => by rw [← hAe]; exact Or.inr h
  have hS : va_S A s.heap s.heap [] := va_S.rf
  have hl0 := lv_entry ([vR mm, vI n, vI k]) (n := 3) (Nat.le_of_ble_eq_true rfl)
  rw [lg_entry_eq]
  generalize (lg_sl ([vR mm, vI n, vI k]) ++ List.replicate (3 - (lg_sl ([vR mm, vI n, vI k])).length) Slot.unset).toArray = ls at hl0 ⊢
  have hlv : lv_has ls 3 [(0, vR mm), (1, vI n), (2, vI k)] := hl0
  have lf209 := hts (.fieldLink RX12 209 "KerbSplashModel" "laws" "I") (List.mem_of_getElem? (i := 1) rfl)
  have hi12 : ∀ w ∈ wsX120, w ∈ vs_m_isLaw := fun w h => List.mem_cons_of_mem _ (List.mem_append_right _ (List.mem_append_left _ h))
  have gg_1 : GoodIn vs_m_isLaw (va_wsS RX12 279 yX12_within vs_m_within) := goodIn_sub (fun w h => List.mem_cons_of_mem _ (List.mem_append_right _ (List.mem_append_right _ (List.mem_append_left _ h)))) (gd_S gd_m_within (by decide +kernel))
  have gg_2 : GoodIn vs_m_isLaw (wsV RX12 175 RX12 yX12_may vs_m_may) := goodIn_sub (fun w h => List.mem_cons_of_mem _ (List.mem_append_right _ (List.mem_append_right _ (List.mem_append_right _ (List.mem_append_left _ h))))) (gd_V gd_m_may (by decide +kernel))
  refine lv_aload_n hx hb dX12_isLaw_0 rfl (lv_at hlv 0 rfl) ?_
  refine lv_iload_n hx hb dX12_isLaw_1 rfl (lv_at hlv 1 rfl) ?_
  refine lv_iconst (v := iI 0) hx hb dX12_isLaw_2 (by decide) ?_
  refine lv_aload_n hx hb dX12_isLaw_3 rfl (lv_at hlv 0 rfl) ?_
  refine va_get (D := D) (ci := 12) (v := vI nl) (C := RX12) (T := TX12) (N := 38) hx hb hts hi12 hown hG.1 hP 0 rfl rfl 18 (by decide) lf209 (fun _ h9 => h9) rfl dX12_isLaw_4 ?_
  refine lv_iconst (v := iI 1) hx hb dX12_isLaw_7 (by decide) ?_
  refine lv_isub hx hb dX12_isLaw_8 ?_
  refine lt_e (e0 := nl - 1) (Int32.ofInt_sub _ _).symm (fun z_1 hz_1 => ?_)
  refine cjr_i [true, true] (fun pre9 => (va_runS (As := [vI n, vI 0, vI z_1]) (rest := [vR mm]) ⟨hx, hb, hml, hown, hts⟩ (m_within l hl D cy sa n 0 z_1 s.heap.size (by first | exact hr_n | omega) (by show ((-2147483648) : Int) ≤ 0 ∧ (0 : Int) ≤ 2147483647; decide) (by omega)) (va_cwS 3 hts gg_1 rfl rfl rfl (by decide +kernel) ⟨Nat.le_of_ble_eq_true rfl, Nat.le_of_ble_eq_true rfl⟩) ⟨pcW.blind, pre9⟩ rfl rfl hlv.1 rfl (lv_room (Nat.le_of_ble_eq_true rfl)) dX12_isLaw_9 ⟨Nat.le_of_ble_eq_true rfl, Nat.le_of_ble_eq_true rfl⟩)) hP hD hS hA hG hT [] rfl (by decide +kernel) (fun r1 u1 H locs hw1 hq9 hS => ?_)
  obtain ⟨rfl, hq1_1, hq1_2, hq1_3⟩ := hw1
  obtain ⟨hP, hD⟩ := pd9 [zO mm 12 [vI th, vR m1, vI tp, vI sz_, vI ap, vI bad, vI bk, vI opn, vI fp, vR m9, vR m10, vR m11, vR m12, vR m13, vR m14, vR m15, vI im, vI nr, vI nl, vR m19, vR m20, vR m21, vI sp_, vR m23, vR m24, vR m25, vR m26, vR m27, vR m28, vI wtc, vI wcl, vI ir, vI ip, vR m33, vI shu, vR m35, vI sfa, vI swr], zI m1 (cy 0) 4 f1] hq9
  refine lv_iload_n hx hb dX12_isLaw_12 rfl (lv_at hlv 2 rfl) ?_
  refine lv_iconst (v := iI 1) hx hb dX12_isLaw_13 (by decide) ?_
  refine cjr_i [false, false] (fun pre9 => (va_runV (As := [vI (u1.2.1 0), vI k, vI 1]) (rest := []) ⟨hx, hb, hml, hown, hts⟩ (m_may l hl D cy sa mm m1 m9 m10 m11 m12 m13 m14 m15 m19 m20 m21 m23 m24 m25 m26 m27 m28 m33 m35 th tp sz_ ap bad bk opn fp im nr nl sp_ wtc wcl ir ip shu sfa swr f1 (u1.2.1 0) k 1 H.size (by first | exact hr_th | omega) (by first | exact hr_tp | omega) (by first | exact hr_sz_ | omega) (by first | exact hr_ap | omega) (by first | exact hr_bad | omega) (by first | exact hr_bk | omega) (by first | exact hr_opn | omega) (by first | exact hr_fp | omega) (by first | exact hr_im | omega) (by first | exact hr_nr | omega) (by first | exact hr_nl | omega) (by first | exact hr_sp_ | omega) (by first | exact hr_wtc | omega) (by first | exact hr_wcl | omega) (by first | exact hr_ir | omega) (by first | exact hr_ip | omega) (by first | exact hr_shu | omega) (by first | exact hr_sfa | omega) (by first | exact hr_swr | omega) (by first | exact hq1_1 | omega) (by first | exact hr_k | omega) (by show (0 : Int) ≤ 1 ∧ (1 : Int) ≤ 3; decide)) (cwV 3 hts gg_2 rfl rfl rfl (by decide +kernel) ⟨Nat.le_of_ble_eq_true rfl, Nat.le_of_ble_eq_true rfl⟩) ⟨pcW.blind, (va_recv hG.1 hP (ci := 12) (q0 := 0) rfl rfl), pre9⟩ rfl rfl hlv.1 rfl (lv_room (Nat.le_of_ble_eq_true rfl)) dX12_isLaw_14 ⟨Nat.le_of_ble_eq_true rfl, Nat.le_of_ble_eq_true rfl⟩)) hP hD hS hA hG hT [0, 1] rfl (by decide +kernel) (fun r2 u2 H locs hw2 hq9 hS => ?_)
  obtain ⟨rfl, hq2_1, hq2_2, hq2_3, hq2_4⟩ := hw2
  obtain ⟨hP, hD⟩ := pd9 [zO mm 12 [vI (u2.2.1 1), vR m1, vI tp, vI sz_, vI ap, vI bad, vI bk, vI opn, vI fp, vR m9, vR m10, vR m11, vR m12, vR m13, vR m14, vR m15, vI im, vI nr, vI nl, vR m19, vR m20, vR m21, vI sp_, vR m23, vR m24, vR m25, vR m26, vR m27, vR m28, vI wtc, vI wcl, vI ir, vI ip, vR m33, vI shu, vR m35, vI sfa, vI swr], zI m1 (cy 0) 4 (u2.2.2 0)] hq9
  refine W.widen (k := 0) (n := 0) (Nat.le_of_ble_eq_true rfl) (Nat.le_of_ble_eq_true rfl) ?_
  exact W.zret (v := iI (u2.2.1 0)) hx hb hr (nar_b (by omega)) (fun t ht hW => ⟨⟨iI (u2.2.1 0), ((fun k => ([] : List Nat).getD k 0), (fun k => ([(u2.2.1 0), (u2.2.1 1)] : List Int).getD k 0), (fun k => ([(u2.2.2 0)] : List (Nat → Int32)).getD k (fun _ => 0))), rfl, ⟨rfl, (by show ((-2147483648) ≤ (u2.2.1 1) ∧ (u2.2.1 1) ≤ 2147483647); first | exact hq2_1 | omega), (by show (0 ≤ (u2.2.1 0) ∧ (u2.2.1 0) ≤ 1); first | exact hq2_2 | omega), (by show ((u2.2.1 0) = 1 → 0 ≤ n ∧ n < nl ∧ (u2.2.1 1) = 0); omega)⟩, at9 ht hP hD [0, 1] (by decide +kernel) rfl⟩, hS.F ht⟩) hS.2.2 dX12_isLaw_17
def vs_m_isRain : List Cond := .code yX12_isRain cX12_isRain 3 (some .boolean) :: (([.fieldLink RX12 204 "KerbSplashModel" "rains" "I"] : List Cond) ++ ((wsX120) ++ ((va_wsS RX12 279 yX12_within vs_m_within) ++ ((wsV RX12 175 RX12 yX12_may vs_m_may) ++ ([])))))
theorem gd_m_isRain : vs_m_isRain.all goodWord = true := gd_C (by decide +kernel) (gd_A (by decide +kernel) (gd_A (by decide +kernel) (gd_A (gd_S gd_m_within (by decide +kernel)) (gd_A (gd_V gd_m_may (by decide +kernel)) rfl))))
set_option maxHeartbeats 4000000 in
set_option maxRecDepth 100000 in
theorem m_isRain (l : Launch) (hl : l.stackTraces = false) (D : va_G) (cy : Nat → ClassId) (sa : Nat → Nat) (mm m1 m9 m10 m11 m12 m13 m14 m15 m19 m20 m21 m23 m24 m25 m26 m27 m28 m33 m35 : Nat) (th tp sz_ ap bad bk opn fp im nr nl sp_ wtc wcl ir ip shu sfa swr : Int) (f1 : Nat → Int32) (n k : Int) (sz : Nat) (hr_th : (-2147483648) ≤ th ∧ th ≤ 2147483647) (hr_tp : 0 ≤ tp ∧ tp ≤ 600) (hr_sz_ : 0 ≤ sz_ ∧ sz_ ≤ 600) (hr_ap : 0 ≤ ap ∧ ap ≤ 602) (hr_bad : (-1) ≤ bad ∧ bad ≤ 602) (hr_bk : 0 ≤ bk ∧ bk ≤ 4) (hr_opn : 0 ≤ opn ∧ opn ≤ 7) (hr_fp : (-2147483648) ≤ fp ∧ fp ≤ 2147483647) (hr_im : 0 ≤ im ∧ im ≤ 3) (hr_nr : 0 ≤ nr ∧ nr ≤ 4) (hr_nl : 0 ≤ nl ∧ nl ≤ 4) (hr_sp_ : 0 ≤ sp_ ∧ sp_ ≤ 602) (hr_wtc : (-2147483648) ≤ wtc ∧ wtc ≤ 2147483647) (hr_wcl : 0 ≤ wcl ∧ wcl ≤ 95) (hr_ir : 0 ≤ ir ∧ ir ≤ 5) (hr_ip : (-2147483648) ≤ ip ∧ ip ≤ 2147483647) (hr_shu : (-2147483648) ≤ shu ∧ shu ≤ 2147483647) (hr_sfa : (-2147483648) ≤ sfa ∧ sfa ≤ 2147483647) (hr_swr : (-2147483648) ≤ swr ∧ swr ≤ 2147483647) (hr_n : (-2147483648) ≤ n ∧ n ≤ 2147483647) (hr_k : 1 ≤ k ∧ k ≤ 4) : mI9 l yX12_isRain vs_m_isRain ({ frames := 1, cells := 0, slots := 0, locals := 23 }) D cy sa sz [vR mm, vI n, vI k] [zO mm 12 [vI th, vR m1, vI tp, vI sz_, vI ap, vI bad, vI bk, vI opn, vI fp, vR m9, vR m10, vR m11, vR m12, vR m13, vR m14, vR m15, vI im, vI nr, vI nl, vR m19, vR m20, vR m21, vI sp_, vR m23, vR m24, vR m25, vR m26, vR m27, vR m28, vI wtc, vI wcl, vI ir, vI ip, vR m33, vI shu, vR m35, vI sfa, vI swr], zI m1 (cy 0) 4 f1] (fun (r : Int32) (u : SV) => r = iI (u.2.1 0) ∧ ((-2147483648) ≤ u.2.1 1 ∧ u.2.1 1 ≤ 2147483647) ∧ (0 ≤ u.2.1 0 ∧ u.2.1 0 ≤ 1) ∧ (u.2.1 0 = 1 → 0 ≤ n ∧ n < nr ∧ u.2.1 1 = 0)) (fun u : SV => [zO mm 12 [vI (u.2.1 1), vR m1, vI tp, vI sz_, vI ap, vI bad, vI bk, vI opn, vI fp, vR m9, vR m10, vR m11, vR m12, vR m13, vR m14, vR m15, vI im, vI nr, vI nl, vR m19, vR m20, vR m21, vI sp_, vR m23, vR m24, vR m25, vR m26, vR m27, vR m28, vI wtc, vI wcl, vI ir, vI ip, vR m33, vI shu, vR m35, vI sfa, vI swr], zI m1 (cy 0) 4 (u.2.2 0)]) 0 0 := by
  refine Met.ofW (cc := cX12_isRain) (maxL := 3) (ret := (some .boolean)) (by decide) rfl ?_
  intro p e s m args below meth c s₁ B hml hv
  obtain ⟨rfl, hsz, hP, hG, hD0, hT⟩ := hv
  have hx := B.exec
  have hb := B.bytes
  have hr := B.returns
  have hts := atoms_spec (ws := vs_m_isRain) B.pre
  have hown : s.vm.findClass RX12 = some m.cls := findClass_of_methodNamed B.named
  have hlocks := B.notSynchronized
  subst hsz
  have hD := hD0.self (sz := s.heap.size)
  generalize hAe : va_A [zO mm 12 [vI th, vR m1, vI tp, vI sz_, vI ap, vI bad, vI bk, vI opn, vI fp, vR m9, vR m10, vR m11, vR m12, vR m13, vR m14, vR m15, vI im, vI nr, vI nl, vR m19, vR m20, vR m21, vI sp_, vR m23, vR m24, vR m25, vR m26, vR m27, vR m28, vI wtc, vI wcl, vI ir, vI ip, vR m33, vI shu, vR m35, vI sfa, vI swr], zI m1 (cy 0) 4 f1] s.heap.size = A at hD hT ⊢
  have hA : ∀ q : Nat, s.heap.size ≤ q → A q := fun q h => by rw [← hAe]; exact Or.inr h
  have hS : va_S A s.heap s.heap [] := va_S.rf
  have hl0 := lv_entry ([vR mm, vI n, vI k]) (n := 3) (Nat.le_of_ble_eq_true rfl)
  rw [lg_entry_eq]
  generalize (lg_sl ([vR mm, vI n, vI k]) ++ List.replicate (3 - (lg_sl ([vR mm, vI n, vI k])).length) Slot.unset).toArray = ls at hl0 ⊢
  have hlv : lv_has ls 3 [(0, vR mm), (1, vI n), (2, vI k)] := hl0
  have lf204 := hts (.fieldLink RX12 204 "KerbSplashModel" "rains" "I") (List.mem_of_getElem? (i := 1) rfl)
  have hi12 : ∀ w ∈ wsX120, w ∈ vs_m_isRain := fun w h => List.mem_cons_of_mem _ (List.mem_append_right _ (List.mem_append_left _ h))
  have gg_1 : GoodIn vs_m_isRain (va_wsS RX12 279 yX12_within vs_m_within) := goodIn_sub (fun w h => List.mem_cons_of_mem _ (List.mem_append_right _ (List.mem_append_right _ (List.mem_append_left _ h)))) (gd_S gd_m_within (by decide +kernel))
  have gg_2 : GoodIn vs_m_isRain (wsV RX12 175 RX12 yX12_may vs_m_may) := goodIn_sub (fun w h => List.mem_cons_of_mem _ (List.mem_append_right _ (List.mem_append_right _ (List.mem_append_right _ (List.mem_append_left _ h))))) (gd_V gd_m_may (by decide +kernel))
  refine lv_aload_n hx hb dX12_isRain_0 rfl (lv_at hlv 0 rfl) ?_
  refine lv_iload_n hx hb dX12_isRain_1 rfl (lv_at hlv 1 rfl) ?_
  refine lv_iconst (v := iI 0) hx hb dX12_isRain_2 (by decide) ?_
  refine lv_aload_n hx hb dX12_isRain_3 rfl (lv_at hlv 0 rfl) ?_
  refine va_get (D := D) (ci := 12) (v := vI nr) (C := RX12) (T := TX12) (N := 38) hx hb hts hi12 hown hG.1 hP 0 rfl rfl 17 (by decide) lf204 (fun _ h9 => h9) rfl dX12_isRain_4 ?_
  refine lv_iconst (v := iI 1) hx hb dX12_isRain_7 (by decide) ?_
  refine lv_isub hx hb dX12_isRain_8 ?_
  refine lt_e (e0 := nr - 1) (Int32.ofInt_sub _ _).symm (fun z_1 hz_1 => ?_)
  refine cjr_i [true, true] (fun pre9 => (va_runS (As := [vI n, vI 0, vI z_1]) (rest := [vR mm]) ⟨hx, hb, hml, hown, hts⟩ (m_within l hl D cy sa n 0 z_1 s.heap.size (by first | exact hr_n | omega) (by show ((-2147483648) : Int) ≤ 0 ∧ (0 : Int) ≤ 2147483647; decide) (by omega)) (va_cwS 3 hts gg_1 rfl rfl rfl (by decide +kernel) ⟨Nat.le_of_ble_eq_true rfl, Nat.le_of_ble_eq_true rfl⟩) ⟨pcW.blind, pre9⟩ rfl rfl hlv.1 rfl (lv_room (Nat.le_of_ble_eq_true rfl)) dX12_isRain_9 ⟨Nat.le_of_ble_eq_true rfl, Nat.le_of_ble_eq_true rfl⟩)) hP hD hS hA hG hT [] rfl (by decide +kernel) (fun r1 u1 H locs hw1 hq9 hS => ?_)
  obtain ⟨rfl, hq1_1, hq1_2, hq1_3⟩ := hw1
  obtain ⟨hP, hD⟩ := pd9 [zO mm 12 [vI th, vR m1, vI tp, vI sz_, vI ap, vI bad, vI bk, vI opn, vI fp, vR m9, vR m10, vR m11, vR m12, vR m13, vR m14, vR m15, vI im, vI nr, vI nl, vR m19, vR m20, vR m21, vI sp_, vR m23, vR m24, vR m25, vR m26, vR m27, vR m28, vI wtc, vI wcl, vI ir, vI ip, vR m33, vI shu, vR m35, vI sfa, vI swr], zI m1 (cy 0) 4 f1] hq9
  refine lv_iload_n hx hb dX12_isRain_12 rfl (lv_at hlv 2 rfl) ?_
  refine lv_iconst (v := iI 1) hx hb dX12_isRain_13 (by decide) ?_
  refine cjr_i [false, false] (fun pre9 => (va_runV (As := [vI (u1.2.1 0), vI k, vI 1]) (rest := []) ⟨hx, hb, hml, hown, hts⟩ (m_may l hl D cy sa mm m1 m9 m10 m11 m12 m13 m14 m15 m19 m20 m21 m23 m24 m25 m26 m27 m28 m33 m35 th tp sz_ ap bad bk opn fp im nr nl sp_ wtc wcl ir ip shu sfa swr f1 (u1.2.1 0) k 1 H.size (by first | exact hr_th | omega) (by first | exact hr_tp | omega) (by first | exact hr_sz_ | omega) (by first | exact hr_ap | omega) (by first | exact hr_bad | omega) (by first | exact hr_bk | omega) (by first | exact hr_opn | omega) (by first | exact hr_fp | omega) (by first | exact hr_im | omega) (by first | exact hr_nr | omega) (by first | exact hr_nl | omega) (by first | exact hr_sp_ | omega) (by first | exact hr_wtc | omega) (by first | exact hr_wcl | omega) (by first | exact hr_ir | omega) (by first | exact hr_ip | omega) (by first | exact hr_shu | omega) (by first | exact hr_sfa | omega) (by first | exact hr_swr | omega) (by first | exact hq1_1 | omega) (by first | exact hr_k | omega) (by show (0 : Int) ≤ 1 ∧ (1 : Int) ≤ 3; decide)) (cwV 3 hts gg_2 rfl rfl rfl (by decide +kernel) ⟨Nat.le_of_ble_eq_true rfl, Nat.le_of_ble_eq_true rfl⟩) ⟨pcW.blind, (va_recv hG.1 hP (ci := 12) (q0 := 0) rfl rfl), pre9⟩ rfl rfl hlv.1 rfl (lv_room (Nat.le_of_ble_eq_true rfl)) dX12_isRain_14 ⟨Nat.le_of_ble_eq_true rfl, Nat.le_of_ble_eq_true rfl⟩)) hP hD hS hA hG hT [0, 1] rfl (by decide +kernel) (fun r2 u2 H locs hw2 hq9 hS => ?_)
  obtain ⟨rfl, hq2_1, hq2_2, hq2_3, hq2_4⟩ := hw2
  obtain ⟨hP, hD⟩ := pd9 [zO mm 12 [vI (u2.2.1 1), vR m1, vI tp, vI sz_, vI ap, vI bad, vI bk, vI opn, vI fp, vR m9, vR m10, vR m11, vR m12, vR m13, vR m14, vR m15, vI im, vI nr, vI nl, vR m19, vR m20, vR m21, vI sp_, vR m23, vR m24, vR m25, vR m26, vR m27, vR m28, vI wtc, vI wcl, vI ir, vI ip, vR m33, vI shu, vR m35, vI sfa, vI swr], zI m1 (cy 0) 4 (u2.2.2 0)] hq9
  refine W.widen (k := 0) (n := 0) (Nat.le_of_ble_eq_true rfl) (Nat.le_of_ble_eq_true rfl) ?_
  exact W.zret (v := iI (u2.2.1 0)) hx hb hr (nar_b (by omega)) (fun t ht hW => ⟨⟨iI (u2.2.1 0), ((fun k => ([] : List Nat).getD k 0), (fun k => ([(u2.2.1 0), (u2.2.1 1)] : List Int).getD k 0), (fun k => ([(u2.2.2 0)] : List (Nat → Int32)).getD k (fun _ => 0))), rfl, ⟨rfl, (by show ((-2147483648) ≤ (u2.2.1 1) ∧ (u2.2.1 1) ≤ 2147483647); first | exact hq2_1 | omega), (by show (0 ≤ (u2.2.1 0) ∧ (u2.2.1 0) ≤ 1); first | exact hq2_2 | omega), (by show ((u2.2.1 0) = 1 → 0 ≤ n ∧ n < nr ∧ (u2.2.1 1) = 0); omega)⟩, at9 ht hP hD [0, 1] (by decide +kernel) rfl⟩, hS.F ht⟩) hS.2.2 dX12_isRain_17
def vs_m_isCell : List Cond := .code yX12_isCell cX12_isCell 4 (some .boolean) :: (([.fieldLink RX12 23 "KerbSplashModel" "b" "[I"] : List Cond) ++ ((wsX120) ++ ((va_wsS RX12 279 yX12_within vs_m_within) ++ ((wsV RX12 175 RX12 yX12_may vs_m_may) ++ ([])))))
theorem gd_m_isCell : vs_m_isCell.all goodWord = true := gd_C (by decide +kernel) (gd_A (by decide +kernel) (gd_A (by decide +kernel) (gd_A (gd_S gd_m_within (by decide +kernel)) (gd_A (gd_V gd_m_may (by decide +kernel)) rfl))))
set_option maxHeartbeats 4000000 in
set_option maxRecDepth 100000 in
theorem m_isCell (l : Launch) (hl : l.stackTraces = false) (D : va_G) (cy : Nat → ClassId) (sa : Nat → Nat) (mm m1 m9 m10 m11 m12 m13 m14 m15 m19 m20 m21 m23 m24 m25 m26 m27 m28 m33 m35 : Nat) (th tp sz_ ap bad bk opn fp im nr nl sp_ wtc wcl ir ip shu sfa swr : Int) (f1 f10 : Nat → Int32) (x y k : Int) (sz : Nat) (hr_th : (-2147483648) ≤ th ∧ th ≤ 2147483647) (hr_tp : 0 ≤ tp ∧ tp ≤ 600) (hr_sz_ : 0 ≤ sz_ ∧ sz_ ≤ 600) (hr_ap : 0 ≤ ap ∧ ap ≤ 602) (hr_bad : (-1) ≤ bad ∧ bad ≤ 602) (hr_bk : 0 ≤ bk ∧ bk ≤ 4) (hr_opn : 0 ≤ opn ∧ opn ≤ 7) (hr_fp : (-2147483648) ≤ fp ∧ fp ≤ 2147483647) (hr_im : 0 ≤ im ∧ im ≤ 3) (hr_nr : 0 ≤ nr ∧ nr ≤ 4) (hr_nl : 0 ≤ nl ∧ nl ≤ 4) (hr_sp_ : 0 ≤ sp_ ∧ sp_ ≤ 602) (hr_wtc : (-2147483648) ≤ wtc ∧ wtc ≤ 2147483647) (hr_wcl : 0 ≤ wcl ∧ wcl ≤ 95) (hr_ir : 0 ≤ ir ∧ ir ≤ 5) (hr_ip : (-2147483648) ≤ ip ∧ ip ≤ 2147483647) (hr_shu : (-2147483648) ≤ shu ∧ shu ≤ 2147483647) (hr_sfa : (-2147483648) ≤ sfa ∧ sfa ≤ 2147483647) (hr_swr : (-2147483648) ≤ swr ∧ swr ≤ 2147483647) (hr_x : (-2147483648) ≤ x ∧ x ≤ 2147483647) (hr_y : (-2147483648) ≤ y ∧ y ≤ 2147483647) (hr_k : 1 ≤ k ∧ k ≤ 4) (hf10 : BI f10) : mI9 l yX12_isCell vs_m_isCell ({ frames := 1, cells := 0, slots := 0, locals := 23 }) D cy sa sz [vR mm, vI x, vI y, vI k] [zO mm 12 [vI th, vR m1, vI tp, vI sz_, vI ap, vI bad, vI bk, vI opn, vI fp, vR m9, vR m10, vR m11, vR m12, vR m13, vR m14, vR m15, vI im, vI nr, vI nl, vR m19, vR m20, vR m21, vI sp_, vR m23, vR m24, vR m25, vR m26, vR m27, vR m28, vI wtc, vI wcl, vI ir, vI ip, vR m33, vI shu, vR m35, vI sfa, vI swr], zI m1 (cy 0) 4 f1, zI m10 (cy 0) 68 f10] (fun (r : Int32) (u : SV) => r = iI (u.2.1 0) ∧ ((-2147483648) ≤ u.2.1 1 ∧ u.2.1 1 ≤ 2147483647) ∧ (0 ≤ u.2.1 0 ∧ u.2.1 0 ≤ 1) ∧ (u.2.1 0 = 1 → 0 ≤ x ∧ x < nz f10 0 ∧ 0 ≤ y ∧ y < nz f10 1 ∧ x ≤ 15 ∧ y ≤ 5) ∧ BI f10) (fun u : SV => [zO mm 12 [vI (u.2.1 1), vR m1, vI tp, vI sz_, vI ap, vI bad, vI bk, vI opn, vI fp, vR m9, vR m10, vR m11, vR m12, vR m13, vR m14, vR m15, vI im, vI nr, vI nl, vR m19, vR m20, vR m21, vI sp_, vR m23, vR m24, vR m25, vR m26, vR m27, vR m28, vI wtc, vI wcl, vI ir, vI ip, vR m33, vI shu, vR m35, vI sfa, vI swr], zI m1 (cy 0) 4 (u.2.2 0), zI m10 (cy 0) 68 f10]) 0 0 := by
  refine Met.ofW (cc := cX12_isCell) (maxL := 4) (ret := (some .boolean)) (by decide) rfl ?_
  intro p e s m args below meth c s₁ B hml hv
  obtain ⟨rfl, hsz, hP, hG, hD0, hT⟩ := hv
  have hx := B.exec
  have hb := B.bytes
  have hr := B.returns
  have hts := atoms_spec (ws := vs_m_isCell) B.pre
  have hown : s.vm.findClass RX12 = some m.cls := findClass_of_methodNamed B.named
  have hlocks := B.notSynchronized
  subst hsz
  have hD := hD0.self (sz := s.heap.size)
  generalize hAe : va_A [zO mm 12 [vI th, vR m1, vI tp, vI sz_, vI ap, vI bad, vI bk, vI opn, vI fp, vR m9, vR m10, vR m11, vR m12, vR m13, vR m14, vR m15, vI im, vI nr, vI nl, vR m19, vR m20, vR m21, vI sp_, vR m23, vR m24, vR m25, vR m26, vR m27, vR m28, vI wtc, vI wcl, vI ir, vI ip, vR m33, vI shu, vR m35, vI sfa, vI swr], zI m1 (cy 0) 4 f1, zI m10 (cy 0) 68 f10] s.heap.size = A at hD hT ⊢
  have hA : ∀ q : Nat, s.heap.size ≤ q → A q := fun q h => by rw [← hAe]; exact Or.inr h
  have hS : va_S A s.heap s.heap [] := va_S.rf
  have hl0 := lv_entry ([vR mm, vI x, vI y, vI k]) (n := 4) (Nat.le_of_ble_eq_true rfl)
  rw [lg_entry_eq]
  generalize (lg_sl ([vR mm, vI x, vI y, vI k]) ++ List.replicate (4 - (lg_sl ([vR mm, vI x, vI y, vI k])).length) Slot.unset).toArray = ls at hl0 ⊢
  have hlv : lv_has ls 4 [(0, vR mm), (1, vI x), (2, vI y), (3, vI k)] := hl0
  have lf23 := hts (.fieldLink RX12 23 "KerbSplashModel" "b" "[I") (List.mem_of_getElem? (i := 1) rfl)
  have hi12 : ∀ w ∈ wsX120, w ∈ vs_m_isCell := fun w h => List.mem_cons_of_mem _ (List.mem_append_right _ (List.mem_append_left _ h))
  have gg_1 : GoodIn vs_m_isCell (va_wsS RX12 279 yX12_within vs_m_within) := goodIn_sub (fun w h => List.mem_cons_of_mem _ (List.mem_append_right _ (List.mem_append_right _ (List.mem_append_left _ h)))) (gd_S gd_m_within (by decide +kernel))
  have gg_2 : GoodIn vs_m_isCell (wsV RX12 175 RX12 yX12_may vs_m_may) := goodIn_sub (fun w h => List.mem_cons_of_mem _ (List.mem_append_right _ (List.mem_append_right _ (List.mem_append_right _ (List.mem_append_left _ h))))) (gd_V gd_m_may (by decide +kernel))
  refine lv_aload_n hx hb dX12_isCell_0 rfl (lv_at hlv 0 rfl) ?_
  refine lv_iload_n hx hb dX12_isCell_1 rfl (lv_at hlv 1 rfl) ?_
  refine lv_iconst (v := iI 0) hx hb dX12_isCell_2 (by decide) ?_
  refine lv_aload_n hx hb dX12_isCell_3 rfl (lv_at hlv 0 rfl) ?_
  refine va_get (D := D) (ci := 12) (v := vR m10) (C := RX12) (T := TX12) (N := 38) hx hb hts hi12 hown hG.1 hP 0 rfl rfl 10 (by decide) lf23 (fun _ h9 => h9) rfl dX12_isCell_4 ?_
  refine lv_iconst (v := iI 0) hx hb dX12_isCell_7 (by decide) ?_
  refine va_iald hx hb hG.1 hP 2 0 rfl rfl (iI_in (by omega) (by decide)) dX12_isCell_8 ?_
  refine lt_nz (i := 0) (by omega) (fun z_1 hz_1 lz_1 uz_1 => ?_)
  have hz_1 : z_1 = nz f10 0 := hz_1
  have hbz_1_9 := hf10.1.1
  have hbz_1_10 := hf10.2.1
  have hbz_1_11 := hf10.2.2
  refine lv_iconst (v := iI 1) hx hb dX12_isCell_9 (by decide) ?_
  refine lv_isub hx hb dX12_isCell_10 ?_
  refine lt_e (e0 := z_1 - 1) (Int32.ofInt_sub _ _).symm (fun z_2 hz_2 => ?_)
  refine cjr_i [true, true, true] (fun pre9 => (va_runS (As := [vI x, vI 0, vI z_2]) (rest := [vR mm]) ⟨hx, hb, hml, hown, hts⟩ (m_within l hl D cy sa x 0 z_2 s.heap.size (by first | exact hr_x | omega) (by show ((-2147483648) : Int) ≤ 0 ∧ (0 : Int) ≤ 2147483647; decide) (by omega)) (va_cwS 3 hts gg_1 rfl rfl rfl (by decide +kernel) ⟨Nat.le_of_ble_eq_true rfl, Nat.le_of_ble_eq_true rfl⟩) ⟨pcW.blind, pre9⟩ rfl rfl hlv.1 rfl (lv_room (Nat.le_of_ble_eq_true rfl)) dX12_isCell_11 ⟨Nat.le_of_ble_eq_true rfl, Nat.le_of_ble_eq_true rfl⟩)) hP hD hS hA hG hT [] rfl (by decide +kernel) (fun r1 u1 H locs hw1 hq9 hS => ?_)
  obtain ⟨rfl, hq1_1, hq1_2, hq1_3⟩ := hw1
  obtain ⟨hP, hD⟩ := pd9 [zO mm 12 [vI th, vR m1, vI tp, vI sz_, vI ap, vI bad, vI bk, vI opn, vI fp, vR m9, vR m10, vR m11, vR m12, vR m13, vR m14, vR m15, vI im, vI nr, vI nl, vR m19, vR m20, vR m21, vI sp_, vR m23, vR m24, vR m25, vR m26, vR m27, vR m28, vI wtc, vI wcl, vI ir, vI ip, vR m33, vI shu, vR m35, vI sfa, vI swr], zI m1 (cy 0) 4 f1, zI m10 (cy 0) 68 f10] hq9
  refine iz_eq (tgt := 37) hx hb dX12_isCell_14 (by decide) (by first | exact rgw hq1_1 (by decide) (by decide) | omega) (fun c_3 => ?_) (fun c_3 => ?_)
  · refine lv_iconst (v := iI 0) hx hb dX12_isCell_37 (by decide) ?_
    refine lv_iload_n hx hb dX12_isCell_38 rfl (lv_at hlv 3 rfl) ?_
    refine lv_iconst (v := iI 0) hx hb dX12_isCell_39 (by decide) ?_
    refine cjr_i [false, false, true] (fun pre9 => (va_runV (As := [vI 0, vI k, vI 0]) (rest := []) ⟨hx, hb, hml, hown, hts⟩ (m_may l hl D cy sa mm m1 m9 m10 m11 m12 m13 m14 m15 m19 m20 m21 m23 m24 m25 m26 m27 m28 m33 m35 th tp sz_ ap bad bk opn fp im nr nl sp_ wtc wcl ir ip shu sfa swr f1 0 k 0 H.size (by first | exact hr_th | omega) (by first | exact hr_tp | omega) (by first | exact hr_sz_ | omega) (by first | exact hr_ap | omega) (by first | exact hr_bad | omega) (by first | exact hr_bk | omega) (by first | exact hr_opn | omega) (by first | exact hr_fp | omega) (by first | exact hr_im | omega) (by first | exact hr_nr | omega) (by first | exact hr_nl | omega) (by first | exact hr_sp_ | omega) (by first | exact hr_wtc | omega) (by first | exact hr_wcl | omega) (by first | exact hr_ir | omega) (by first | exact hr_ip | omega) (by first | exact hr_shu | omega) (by first | exact hr_sfa | omega) (by first | exact hr_swr | omega) (by show (0 : Int) ≤ 0 ∧ (0 : Int) ≤ 1; decide) (by first | exact hr_k | omega) (by show (0 : Int) ≤ 0 ∧ (0 : Int) ≤ 3; decide)) (cwV 3 hts gg_2 rfl rfl rfl (by decide +kernel) ⟨Nat.le_of_ble_eq_true rfl, Nat.le_of_ble_eq_true rfl⟩) ⟨pcW.blind, (va_recv hG.1 hP (ci := 12) (q0 := 0) rfl rfl), pre9⟩ rfl rfl hlv.1 rfl (lv_room (Nat.le_of_ble_eq_true rfl)) dX12_isCell_40 ⟨Nat.le_of_ble_eq_true rfl, Nat.le_of_ble_eq_true rfl⟩)) hP hD hS hA hG hT [0, 1] rfl (by decide +kernel) (fun r2 u2 H locs hw2 hq9 hS => ?_)
    obtain ⟨rfl, hq2_1, hq2_2, hq2_3, hq2_4⟩ := hw2
    obtain ⟨hP, hD⟩ := pd9 [zI m10 (cy 0) 68 f10, zO mm 12 [vI (u2.2.1 1), vR m1, vI tp, vI sz_, vI ap, vI bad, vI bk, vI opn, vI fp, vR m9, vR m10, vR m11, vR m12, vR m13, vR m14, vR m15, vI im, vI nr, vI nl, vR m19, vR m20, vR m21, vI sp_, vR m23, vR m24, vR m25, vR m26, vR m27, vR m28, vI wtc, vI wcl, vI ir, vI ip, vR m33, vI shu, vR m35, vI sfa, vI swr], zI m1 (cy 0) 4 (u2.2.2 0)] hq9
    refine lt_i (y := iI 0) (by rw [show (u2.2.1 0) = 0 by omega]) ?_
    refine W.widen (k := 0) (n := 0) (Nat.le_of_ble_eq_true rfl) (Nat.le_of_ble_eq_true rfl) ?_
    exact W.zret (v := iI 0) hx hb hr (by first | rfl | decide) (fun t ht hW => ⟨⟨iI 0, ((fun k => ([] : List Nat).getD k 0), (fun k => ([0, (u2.2.1 1)] : List Int).getD k 0), (fun k => ([(u2.2.2 0)] : List (Nat → Int32)).getD k (fun _ => 0))), rfl, ⟨rfl, (by show ((-2147483648) ≤ (u2.2.1 1) ∧ (u2.2.1 1) ≤ 2147483647); first | exact hq2_1 | omega), (by show (0 ≤ 0 ∧ 0 ≤ 1); show (0 : Int) ≤ 0 ∧ (0 : Int) ≤ 1; decide), (by show (0 = 1 → 0 ≤ x ∧ x < nz f10 0 ∧ 0 ≤ y ∧ y < nz f10 1 ∧ x ≤ 15 ∧ y ≤ 5); omega), hf10⟩, at9 ht hP hD [1, 2, 0] (by decide +kernel) rfl⟩, hS.F ht⟩) hS.2.2 dX12_isCell_43
  · refine lv_iload_n hx hb dX12_isCell_17 rfl (lv_at hlv 2 rfl) ?_
    refine lv_iconst (v := iI 0) hx hb dX12_isCell_18 (by decide) ?_
    refine lv_aload_n hx hb dX12_isCell_19 rfl (lv_at hlv 0 rfl) ?_
    refine va_get (D := D) (ci := 12) (v := vR m10) (C := RX12) (T := TX12) (N := 38) hx hb hts hi12 hown hG.1 hP 0 rfl rfl 10 (by decide) lf23 (fun _ h9 => h9) rfl dX12_isCell_20 ?_
    refine lv_iconst (v := iI 1) hx hb dX12_isCell_23 (by decide) ?_
    refine va_iald hx hb hG.1 hP 2 0 rfl rfl (iI_in (by omega) (by decide)) dX12_isCell_24 ?_
    refine lt_nz (i := 1) (by omega) (fun z_4 hz_4 lz_4 uz_4 => ?_)
    have hz_4 : z_4 = nz f10 1 := hz_4
    have hbz_4_8 := hf10.1.2.1
    have hbz_4_9 := hf10.2.1
    have hbz_4_10 := hf10.2.2
    refine lv_iconst (v := iI 1) hx hb dX12_isCell_25 (by decide) ?_
    refine lv_isub hx hb dX12_isCell_26 ?_
    refine lt_e (e0 := z_4 - 1) (Int32.ofInt_sub _ _).symm (fun z_5 hz_5 => ?_)
    refine cjr_i [true, true, true] (fun pre9 => (va_runS (As := [vI y, vI 0, vI z_5]) (rest := [vR mm]) ⟨hx, hb, hml, hown, hts⟩ (m_within l hl D cy sa y 0 z_5 H.size (by first | exact hr_y | omega) (by show ((-2147483648) : Int) ≤ 0 ∧ (0 : Int) ≤ 2147483647; decide) (by omega)) (va_cwS 3 hts gg_1 rfl rfl rfl (by decide +kernel) ⟨Nat.le_of_ble_eq_true rfl, Nat.le_of_ble_eq_true rfl⟩) ⟨pcW.blind, pre9⟩ rfl rfl hlv.1 rfl (lv_room (Nat.le_of_ble_eq_true rfl)) dX12_isCell_27 ⟨Nat.le_of_ble_eq_true rfl, Nat.le_of_ble_eq_true rfl⟩)) hP hD hS hA hG hT [] rfl (by decide +kernel) (fun r3 u3 H locs hw3 hq9 hS => ?_)
    obtain ⟨rfl, hq3_1, hq3_2, hq3_3⟩ := hw3
    obtain ⟨hP, hD⟩ := pd9 [zO mm 12 [vI th, vR m1, vI tp, vI sz_, vI ap, vI bad, vI bk, vI opn, vI fp, vR m9, vR m10, vR m11, vR m12, vR m13, vR m14, vR m15, vI im, vI nr, vI nl, vR m19, vR m20, vR m21, vI sp_, vR m23, vR m24, vR m25, vR m26, vR m27, vR m28, vI wtc, vI wcl, vI ir, vI ip, vR m33, vI shu, vR m35, vI sfa, vI swr], zI m1 (cy 0) 4 f1, zI m10 (cy 0) 68 f10] hq9
    refine iz_eq (tgt := 37) hx hb dX12_isCell_30 (by decide) (by first | exact rgw hq3_1 (by decide) (by decide) | omega) (fun c_6 => ?_) (fun c_6 => ?_)
    · refine lv_iconst (v := iI 0) hx hb dX12_isCell_37 (by decide) ?_
      refine lv_iload_n hx hb dX12_isCell_38 rfl (lv_at hlv 3 rfl) ?_
      refine lv_iconst (v := iI 0) hx hb dX12_isCell_39 (by decide) ?_
      refine cjr_i [false, false, true] (fun pre9 => (va_runV (As := [vI 0, vI k, vI 0]) (rest := []) ⟨hx, hb, hml, hown, hts⟩ (m_may l hl D cy sa mm m1 m9 m10 m11 m12 m13 m14 m15 m19 m20 m21 m23 m24 m25 m26 m27 m28 m33 m35 th tp sz_ ap bad bk opn fp im nr nl sp_ wtc wcl ir ip shu sfa swr f1 0 k 0 H.size (by first | exact hr_th | omega) (by first | exact hr_tp | omega) (by first | exact hr_sz_ | omega) (by first | exact hr_ap | omega) (by first | exact hr_bad | omega) (by first | exact hr_bk | omega) (by first | exact hr_opn | omega) (by first | exact hr_fp | omega) (by first | exact hr_im | omega) (by first | exact hr_nr | omega) (by first | exact hr_nl | omega) (by first | exact hr_sp_ | omega) (by first | exact hr_wtc | omega) (by first | exact hr_wcl | omega) (by first | exact hr_ir | omega) (by first | exact hr_ip | omega) (by first | exact hr_shu | omega) (by first | exact hr_sfa | omega) (by first | exact hr_swr | omega) (by show (0 : Int) ≤ 0 ∧ (0 : Int) ≤ 1; decide) (by first | exact hr_k | omega) (by show (0 : Int) ≤ 0 ∧ (0 : Int) ≤ 3; decide)) (cwV 3 hts gg_2 rfl rfl rfl (by decide +kernel) ⟨Nat.le_of_ble_eq_true rfl, Nat.le_of_ble_eq_true rfl⟩) ⟨pcW.blind, (va_recv hG.1 hP (ci := 12) (q0 := 0) rfl rfl), pre9⟩ rfl rfl hlv.1 rfl (lv_room (Nat.le_of_ble_eq_true rfl)) dX12_isCell_40 ⟨Nat.le_of_ble_eq_true rfl, Nat.le_of_ble_eq_true rfl⟩)) hP hD hS hA hG hT [0, 1] rfl (by decide +kernel) (fun r4 u4 H locs hw4 hq9 hS => ?_)
      obtain ⟨rfl, hq4_1, hq4_2, hq4_3, hq4_4⟩ := hw4
      obtain ⟨hP, hD⟩ := pd9 [zI m10 (cy 0) 68 f10, zO mm 12 [vI (u4.2.1 1), vR m1, vI tp, vI sz_, vI ap, vI bad, vI bk, vI opn, vI fp, vR m9, vR m10, vR m11, vR m12, vR m13, vR m14, vR m15, vI im, vI nr, vI nl, vR m19, vR m20, vR m21, vI sp_, vR m23, vR m24, vR m25, vR m26, vR m27, vR m28, vI wtc, vI wcl, vI ir, vI ip, vR m33, vI shu, vR m35, vI sfa, vI swr], zI m1 (cy 0) 4 (u4.2.2 0)] hq9
      refine lt_i (y := iI 0) (by rw [show (u4.2.1 0) = 0 by omega]) ?_
      refine W.widen (k := 0) (n := 0) (Nat.le_of_ble_eq_true rfl) (Nat.le_of_ble_eq_true rfl) ?_
      exact W.zret (v := iI 0) hx hb hr (by first | rfl | decide) (fun t ht hW => ⟨⟨iI 0, ((fun k => ([] : List Nat).getD k 0), (fun k => ([0, (u4.2.1 1)] : List Int).getD k 0), (fun k => ([(u4.2.2 0)] : List (Nat → Int32)).getD k (fun _ => 0))), rfl, ⟨rfl, (by show ((-2147483648) ≤ (u4.2.1 1) ∧ (u4.2.1 1) ≤ 2147483647); first | exact hq4_1 | omega), (by show (0 ≤ 0 ∧ 0 ≤ 1); show (0 : Int) ≤ 0 ∧ (0 : Int) ≤ 1; decide), (by show (0 = 1 → 0 ≤ x ∧ x < nz f10 0 ∧ 0 ≤ y ∧ y < nz f10 1 ∧ x ≤ 15 ∧ y ≤ 5); omega), hf10⟩, at9 ht hP hD [1, 2, 0] (by decide +kernel) rfl⟩, hS.F ht⟩) hS.2.2 dX12_isCell_43
    · refine lv_iconst (v := iI 1) hx hb dX12_isCell_33 (by decide) ?_
      refine lv_goto (tgt := 38) hx hb dX12_isCell_34 (by decide) ?_
      refine lv_iload_n hx hb dX12_isCell_38 rfl (lv_at hlv 3 rfl) ?_
      refine lv_iconst (v := iI 0) hx hb dX12_isCell_39 (by decide) ?_
      refine cjr_i [false, false, true] (fun pre9 => (va_runV (As := [vI 1, vI k, vI 0]) (rest := []) ⟨hx, hb, hml, hown, hts⟩ (m_may l hl D cy sa mm m1 m9 m10 m11 m12 m13 m14 m15 m19 m20 m21 m23 m24 m25 m26 m27 m28 m33 m35 th tp sz_ ap bad bk opn fp im nr nl sp_ wtc wcl ir ip shu sfa swr f1 1 k 0 H.size (by first | exact hr_th | omega) (by first | exact hr_tp | omega) (by first | exact hr_sz_ | omega) (by first | exact hr_ap | omega) (by first | exact hr_bad | omega) (by first | exact hr_bk | omega) (by first | exact hr_opn | omega) (by first | exact hr_fp | omega) (by first | exact hr_im | omega) (by first | exact hr_nr | omega) (by first | exact hr_nl | omega) (by first | exact hr_sp_ | omega) (by first | exact hr_wtc | omega) (by first | exact hr_wcl | omega) (by first | exact hr_ir | omega) (by first | exact hr_ip | omega) (by first | exact hr_shu | omega) (by first | exact hr_sfa | omega) (by first | exact hr_swr | omega) (by show (0 : Int) ≤ 1 ∧ (1 : Int) ≤ 1; decide) (by first | exact hr_k | omega) (by show (0 : Int) ≤ 0 ∧ (0 : Int) ≤ 3; decide)) (cwV 3 hts gg_2 rfl rfl rfl (by decide +kernel) ⟨Nat.le_of_ble_eq_true rfl, Nat.le_of_ble_eq_true rfl⟩) ⟨pcW.blind, (va_recv hG.1 hP (ci := 12) (q0 := 0) rfl rfl), pre9⟩ rfl rfl hlv.1 rfl (lv_room (Nat.le_of_ble_eq_true rfl)) dX12_isCell_40 ⟨Nat.le_of_ble_eq_true rfl, Nat.le_of_ble_eq_true rfl⟩)) hP hD hS hA hG hT [0, 1] rfl (by decide +kernel) (fun r5 u5 H locs hw5 hq9 hS => ?_)
      obtain ⟨rfl, hq5_1, hq5_2, hq5_3, hq5_4⟩ := hw5
      obtain ⟨hP, hD⟩ := pd9 [zI m10 (cy 0) 68 f10, zO mm 12 [vI (u5.2.1 1), vR m1, vI tp, vI sz_, vI ap, vI bad, vI bk, vI opn, vI fp, vR m9, vR m10, vR m11, vR m12, vR m13, vR m14, vR m15, vI im, vI nr, vI nl, vR m19, vR m20, vR m21, vI sp_, vR m23, vR m24, vR m25, vR m26, vR m27, vR m28, vI wtc, vI wcl, vI ir, vI ip, vR m33, vI shu, vR m35, vI sfa, vI swr], zI m1 (cy 0) 4 (u5.2.2 0)] hq9
      refine W.widen (k := 0) (n := 0) (Nat.le_of_ble_eq_true rfl) (Nat.le_of_ble_eq_true rfl) ?_
      exact W.zret (v := iI (u5.2.1 0)) hx hb hr (nar_b (by omega)) (fun t ht hW => ⟨⟨iI (u5.2.1 0), ((fun k => ([] : List Nat).getD k 0), (fun k => ([(u5.2.1 0), (u5.2.1 1)] : List Int).getD k 0), (fun k => ([(u5.2.2 0)] : List (Nat → Int32)).getD k (fun _ => 0))), rfl, ⟨rfl, (by show ((-2147483648) ≤ (u5.2.1 1) ∧ (u5.2.1 1) ≤ 2147483647); first | exact hq5_1 | omega), (by show (0 ≤ (u5.2.1 0) ∧ (u5.2.1 0) ≤ 1); first | exact hq5_2 | omega), (by show ((u5.2.1 0) = 1 → 0 ≤ x ∧ x < nz f10 0 ∧ 0 ≤ y ∧ y < nz f10 1 ∧ x ≤ 15 ∧ y ≤ 5); omega), hf10⟩, at9 ht hP hD [1, 2, 0] (by decide +kernel) rfl⟩, hS.F ht⟩) hS.2.2 dX12_isCell_43
def vs_m_isStreet : List Cond := .code yX12_isStreet cX12_isStreet 2 (some .boolean) :: (([.fieldLink RX12 23 "KerbSplashModel" "b" "[I"] : List Cond) ++ ((wsX120) ++ ((wsV RX12 175 RX12 yX12_may vs_m_may) ++ ([]))))
theorem gd_m_isStreet : vs_m_isStreet.all goodWord = true := gd_C (by decide +kernel) (gd_A (by decide +kernel) (gd_A (by decide +kernel) (gd_A (gd_V gd_m_may (by decide +kernel)) rfl)))
set_option maxHeartbeats 4000000 in
set_option maxRecDepth 100000 in
theorem m_isStreet (l : Launch) (hl : l.stackTraces = false) (D : va_G) (cy : Nat → ClassId) (sa : Nat → Nat) (mm m1 m9 m10 m11 m12 m13 m14 m15 m19 m20 m21 m23 m24 m25 m26 m27 m28 m33 m35 : Nat) (th tp sz_ ap bad bk opn fp im nr nl sp_ wtc wcl ir ip shu sfa swr : Int) (f1 f10 : Nat → Int32) (k : Int) (sz : Nat) (hr_th : (-2147483648) ≤ th ∧ th ≤ 2147483647) (hr_tp : 0 ≤ tp ∧ tp ≤ 600) (hr_sz_ : 0 ≤ sz_ ∧ sz_ ≤ 600) (hr_ap : 0 ≤ ap ∧ ap ≤ 602) (hr_bad : (-1) ≤ bad ∧ bad ≤ 602) (hr_bk : 0 ≤ bk ∧ bk ≤ 4) (hr_opn : 0 ≤ opn ∧ opn ≤ 7) (hr_fp : (-2147483648) ≤ fp ∧ fp ≤ 2147483647) (hr_im : 0 ≤ im ∧ im ≤ 3) (hr_nr : 0 ≤ nr ∧ nr ≤ 4) (hr_nl : 0 ≤ nl ∧ nl ≤ 4) (hr_sp_ : 0 ≤ sp_ ∧ sp_ ≤ 602) (hr_wtc : (-2147483648) ≤ wtc ∧ wtc ≤ 2147483647) (hr_wcl : 0 ≤ wcl ∧ wcl ≤ 95) (hr_ir : 0 ≤ ir ∧ ir ≤ 5) (hr_ip : (-2147483648) ≤ ip ∧ ip ≤ 2147483647) (hr_shu : (-2147483648) ≤ shu ∧ shu ≤ 2147483647) (hr_sfa : (-2147483648) ≤ sfa ∧ sfa ≤ 2147483647) (hr_swr : (-2147483648) ≤ swr ∧ swr ≤ 2147483647) (hr_k : 1 ≤ k ∧ k ≤ 4) (hf10 : BI f10) : mI9 l yX12_isStreet vs_m_isStreet ({ frames := 1, cells := 0, slots := 0, locals := 23 }) D cy sa sz [vR mm, vI k] [zO mm 12 [vI th, vR m1, vI tp, vI sz_, vI ap, vI bad, vI bk, vI opn, vI fp, vR m9, vR m10, vR m11, vR m12, vR m13, vR m14, vR m15, vI im, vI nr, vI nl, vR m19, vR m20, vR m21, vI sp_, vR m23, vR m24, vR m25, vR m26, vR m27, vR m28, vI wtc, vI wcl, vI ir, vI ip, vR m33, vI shu, vR m35, vI sfa, vI swr], zI m1 (cy 0) 4 f1, zI m10 (cy 0) 68 f10] (fun (r : Int32) (u : SV) => r = iI (u.2.1 0) ∧ ((-2147483648) ≤ u.2.1 1 ∧ u.2.1 1 ≤ 2147483647) ∧ (0 ≤ u.2.1 0 ∧ u.2.1 0 ≤ 1) ∧ (u.2.1 0 = 1 → 0 < nz f10 0 ∧ 1 ≤ nz f10 1) ∧ BI f10) (fun u : SV => [zO mm 12 [vI (u.2.1 1), vR m1, vI tp, vI sz_, vI ap, vI bad, vI bk, vI opn, vI fp, vR m9, vR m10, vR m11, vR m12, vR m13, vR m14, vR m15, vI im, vI nr, vI nl, vR m19, vR m20, vR m21, vI sp_, vR m23, vR m24, vR m25, vR m26, vR m27, vR m28, vI wtc, vI wcl, vI ir, vI ip, vR m33, vI shu, vR m35, vI sfa, vI swr], zI m1 (cy 0) 4 (u.2.2 0), zI m10 (cy 0) 68 f10]) 0 0 := by
  refine Met.ofW (cc := cX12_isStreet) (maxL := 2) (ret := (some .boolean)) (by decide) rfl ?_
  intro p e s m args below meth c s₁ B hml hv
  obtain ⟨rfl, hsz, hP, hG, hD0, hT⟩ := hv
  have hx := B.exec
  have hb := B.bytes
  have hr := B.returns
  have hts := atoms_spec (ws := vs_m_isStreet) B.pre
  have hown : s.vm.findClass RX12 = some m.cls := findClass_of_methodNamed B.named
  have hlocks := B.notSynchronized
  subst hsz
  have hD := hD0.self (sz := s.heap.size)
  generalize hAe : va_A [zO mm 12 [vI th, vR m1, vI tp, vI sz_, vI ap, vI bad, vI bk, vI opn, vI fp, vR m9, vR m10, vR m11, vR m12, vR m13, vR m14, vR m15, vI im, vI nr, vI nl, vR m19, vR m20, vR m21, vI sp_, vR m23, vR m24, vR m25, vR m26, vR m27, vR m28, vI wtc, vI wcl, vI ir, vI ip, vR m33, vI shu, vR m35, vI sfa, vI swr], zI m1 (cy 0) 4 f1, zI m10 (cy 0) 68 f10] s.heap.size = A at hD hT ⊢
  have hA : ∀ q : Nat, s.heap.size ≤ q → A q := fun q h => by rw [← hAe]; exact Or.inr h
  have hS : va_S A s.heap s.heap [] := va_S.rf
  have hl0 := lv_entry ([vR mm, vI k]) (n := 2) (Nat.le_of_ble_eq_true rfl)
  rw [lg_entry_eq]
  generalize (lg_sl ([vR mm, vI k]) ++ List.replicate (2 - (lg_sl ([vR mm, vI k])).length) Slot.unset).toArray = ls at hl0 ⊢
  have hlv : lv_has ls 2 [(0, vR mm), (1, vI k)] := hl0
  have lf23 := hts (.fieldLink RX12 23 "KerbSplashModel" "b" "[I") (List.mem_of_getElem? (i := 1) rfl)
  have hi12 : ∀ w ∈ wsX120, w ∈ vs_m_isStreet := fun w h => List.mem_cons_of_mem _ (List.mem_append_right _ (List.mem_append_left _ h))
  have gg_1 : GoodIn vs_m_isStreet (wsV RX12 175 RX12 yX12_may vs_m_may) := goodIn_sub (fun w h => List.mem_cons_of_mem _ (List.mem_append_right _ (List.mem_append_right _ (List.mem_append_left _ h)))) (gd_V gd_m_may (by decide +kernel))
  refine lv_aload_n hx hb dX12_isStreet_0 rfl (lv_at hlv 0 rfl) ?_
  refine lv_aload_n hx hb dX12_isStreet_1 rfl (lv_at hlv 0 rfl) ?_
  refine va_get (D := D) (ci := 12) (v := vR m10) (C := RX12) (T := TX12) (N := 38) hx hb hts hi12 hown hG.1 hP 0 rfl rfl 10 (by decide) lf23 (fun _ h9 => h9) rfl dX12_isStreet_2 ?_
  refine lv_iconst (v := iI 0) hx hb dX12_isStreet_5 (by decide) ?_
  refine va_iald hx hb hG.1 hP 2 0 rfl rfl (iI_in (by omega) (by decide)) dX12_isStreet_6 ?_
  refine lt_nz (i := 0) (by omega) (fun z_1 hz_1 lz_1 uz_1 => ?_)
  have hz_1 : z_1 = nz f10 0 := hz_1
  have hbz_1_7 := hf10.1.1
  have hbz_1_8 := hf10.2.1
  have hbz_1_9 := hf10.2.2
  refine iz_le (tgt := 14) hx hb dX12_isStreet_7 (by decide) (by omega) (fun c_2 => ?_) (fun c_2 => ?_)
  · refine lv_iconst (v := iI 0) hx hb dX12_isStreet_14 (by decide) ?_
    refine lv_iload_n hx hb dX12_isStreet_15 rfl (lv_at hlv 1 rfl) ?_
    refine lv_iconst (v := iI 3) hx hb dX12_isStreet_16 (by decide) ?_
    refine cjr_i [false, false, true] (fun pre9 => (va_runV (As := [vI 0, vI k, vI 3]) (rest := []) ⟨hx, hb, hml, hown, hts⟩ (m_may l hl D cy sa mm m1 m9 m10 m11 m12 m13 m14 m15 m19 m20 m21 m23 m24 m25 m26 m27 m28 m33 m35 th tp sz_ ap bad bk opn fp im nr nl sp_ wtc wcl ir ip shu sfa swr f1 0 k 3 s.heap.size (by first | exact hr_th | omega) (by first | exact hr_tp | omega) (by first | exact hr_sz_ | omega) (by first | exact hr_ap | omega) (by first | exact hr_bad | omega) (by first | exact hr_bk | omega) (by first | exact hr_opn | omega) (by first | exact hr_fp | omega) (by first | exact hr_im | omega) (by first | exact hr_nr | omega) (by first | exact hr_nl | omega) (by first | exact hr_sp_ | omega) (by first | exact hr_wtc | omega) (by first | exact hr_wcl | omega) (by first | exact hr_ir | omega) (by first | exact hr_ip | omega) (by first | exact hr_shu | omega) (by first | exact hr_sfa | omega) (by first | exact hr_swr | omega) (by show (0 : Int) ≤ 0 ∧ (0 : Int) ≤ 1; decide) (by first | exact hr_k | omega) (by show (0 : Int) ≤ 3 ∧ (3 : Int) ≤ 3; decide)) (cwV 3 hts gg_1 rfl rfl rfl (by decide +kernel) ⟨Nat.le_of_ble_eq_true rfl, Nat.le_of_ble_eq_true rfl⟩) ⟨pcW.blind, (va_recv hG.1 hP (ci := 12) (q0 := 0) rfl rfl), pre9⟩ rfl rfl hlv.1 rfl (lv_room (Nat.le_of_ble_eq_true rfl)) dX12_isStreet_17 ⟨Nat.le_of_ble_eq_true rfl, Nat.le_of_ble_eq_true rfl⟩)) hP hD hS hA hG hT [0, 1] rfl (by decide +kernel) (fun r1 u1 H locs hw1 hq9 hS => ?_)
    obtain ⟨rfl, hq1_1, hq1_2, hq1_3, hq1_4⟩ := hw1
    obtain ⟨hP, hD⟩ := pd9 [zI m10 (cy 0) 68 f10, zO mm 12 [vI (u1.2.1 1), vR m1, vI tp, vI sz_, vI ap, vI bad, vI bk, vI opn, vI fp, vR m9, vR m10, vR m11, vR m12, vR m13, vR m14, vR m15, vI im, vI nr, vI nl, vR m19, vR m20, vR m21, vI sp_, vR m23, vR m24, vR m25, vR m26, vR m27, vR m28, vI wtc, vI wcl, vI ir, vI ip, vR m33, vI shu, vR m35, vI sfa, vI swr], zI m1 (cy 0) 4 (u1.2.2 0)] hq9
    refine lt_i (y := iI 0) (by rw [show (u1.2.1 0) = 0 by omega]) ?_
    refine W.widen (k := 0) (n := 0) (Nat.le_of_ble_eq_true rfl) (Nat.le_of_ble_eq_true rfl) ?_
    exact W.zret (v := iI 0) hx hb hr (by first | rfl | decide) (fun t ht hW => ⟨⟨iI 0, ((fun k => ([] : List Nat).getD k 0), (fun k => ([0, (u1.2.1 1)] : List Int).getD k 0), (fun k => ([(u1.2.2 0)] : List (Nat → Int32)).getD k (fun _ => 0))), rfl, ⟨rfl, (by show ((-2147483648) ≤ (u1.2.1 1) ∧ (u1.2.1 1) ≤ 2147483647); first | exact hq1_1 | omega), (by show (0 ≤ 0 ∧ 0 ≤ 1); show (0 : Int) ≤ 0 ∧ (0 : Int) ≤ 1; decide), (by show (0 = 1 → 0 < nz f10 0 ∧ 1 ≤ nz f10 1); omega), hf10⟩, at9 ht hP hD [1, 2, 0] (by decide +kernel) rfl⟩, hS.F ht⟩) hS.2.2 dX12_isStreet_20
  · refine lv_iconst (v := iI 1) hx hb dX12_isStreet_10 (by decide) ?_
    refine lv_goto (tgt := 15) hx hb dX12_isStreet_11 (by decide) ?_
    refine lv_iload_n hx hb dX12_isStreet_15 rfl (lv_at hlv 1 rfl) ?_
    refine lv_iconst (v := iI 3) hx hb dX12_isStreet_16 (by decide) ?_
    refine cjr_i [false, false, true] (fun pre9 => (va_runV (As := [vI 1, vI k, vI 3]) (rest := []) ⟨hx, hb, hml, hown, hts⟩ (m_may l hl D cy sa mm m1 m9 m10 m11 m12 m13 m14 m15 m19 m20 m21 m23 m24 m25 m26 m27 m28 m33 m35 th tp sz_ ap bad bk opn fp im nr nl sp_ wtc wcl ir ip shu sfa swr f1 1 k 3 s.heap.size (by first | exact hr_th | omega) (by first | exact hr_tp | omega) (by first | exact hr_sz_ | omega) (by first | exact hr_ap | omega) (by first | exact hr_bad | omega) (by first | exact hr_bk | omega) (by first | exact hr_opn | omega) (by first | exact hr_fp | omega) (by first | exact hr_im | omega) (by first | exact hr_nr | omega) (by first | exact hr_nl | omega) (by first | exact hr_sp_ | omega) (by first | exact hr_wtc | omega) (by first | exact hr_wcl | omega) (by first | exact hr_ir | omega) (by first | exact hr_ip | omega) (by first | exact hr_shu | omega) (by first | exact hr_sfa | omega) (by first | exact hr_swr | omega) (by show (0 : Int) ≤ 1 ∧ (1 : Int) ≤ 1; decide) (by first | exact hr_k | omega) (by show (0 : Int) ≤ 3 ∧ (3 : Int) ≤ 3; decide)) (cwV 3 hts gg_1 rfl rfl rfl (by decide +kernel) ⟨Nat.le_of_ble_eq_true rfl, Nat.le_of_ble_eq_true rfl⟩) ⟨pcW.blind, (va_recv hG.1 hP (ci := 12) (q0 := 0) rfl rfl), pre9⟩ rfl rfl hlv.1 rfl (lv_room (Nat.le_of_ble_eq_true rfl)) dX12_isStreet_17 ⟨Nat.le_of_ble_eq_true rfl, Nat.le_of_ble_eq_true rfl⟩)) hP hD hS hA hG hT [0, 1] rfl (by decide +kernel) (fun r2 u2 H locs hw2 hq9 hS => ?_)
    obtain ⟨rfl, hq2_1, hq2_2, hq2_3, hq2_4⟩ := hw2
    obtain ⟨hP, hD⟩ := pd9 [zI m10 (cy 0) 68 f10, zO mm 12 [vI (u2.2.1 1), vR m1, vI tp, vI sz_, vI ap, vI bad, vI bk, vI opn, vI fp, vR m9, vR m10, vR m11, vR m12, vR m13, vR m14, vR m15, vI im, vI nr, vI nl, vR m19, vR m20, vR m21, vI sp_, vR m23, vR m24, vR m25, vR m26, vR m27, vR m28, vI wtc, vI wcl, vI ir, vI ip, vR m33, vI shu, vR m35, vI sfa, vI swr], zI m1 (cy 0) 4 (u2.2.2 0)] hq9
    refine W.widen (k := 0) (n := 0) (Nat.le_of_ble_eq_true rfl) (Nat.le_of_ble_eq_true rfl) ?_
    exact W.zret (v := iI (u2.2.1 0)) hx hb hr (nar_b (by omega)) (fun t ht hW => ⟨⟨iI (u2.2.1 0), ((fun k => ([] : List Nat).getD k 0), (fun k => ([(u2.2.1 0), (u2.2.1 1)] : List Int).getD k 0), (fun k => ([(u2.2.2 0)] : List (Nat → Int32)).getD k (fun _ => 0))), rfl, ⟨rfl, (by show ((-2147483648) ≤ (u2.2.1 1) ∧ (u2.2.1 1) ≤ 2147483647); first | exact hq2_1 | omega), (by show (0 ≤ (u2.2.1 0) ∧ (u2.2.1 0) ≤ 1); first | exact hq2_2 | omega), (by show ((u2.2.1 0) = 1 → 0 < nz f10 0 ∧ 1 ≤ nz f10 1); omega), hf10⟩, at9 ht hP hD [1, 2, 0] (by decide +kernel) rfl⟩, hS.F ht⟩) hS.2.2 dX12_isStreet_20
def vs_m_isNow : List Cond := .code yX12_isNow cX12_isNow 2 (some .boolean) :: (([.fieldLink RX12 23 "KerbSplashModel" "b" "[I", .fieldLink RX12 29 "KerbSplashModel" "s" "[I"] : List Cond) ++ ((wsX120) ++ ((wsV RX12 175 RX12 yX12_may vs_m_may) ++ ([]))))
theorem gd_m_isNow : vs_m_isNow.all goodWord = true := gd_C (by decide +kernel) (gd_A (by decide +kernel) (gd_A (by decide +kernel) (gd_A (gd_V gd_m_may (by decide +kernel)) rfl)))
set_option maxHeartbeats 4000000 in
set_option maxRecDepth 100000 in
theorem m_isNow (l : Launch) (hl : l.stackTraces = false) (D : va_G) (cy : Nat → ClassId) (sa : Nat → Nat) (mm m1 m9 m10 m11 m12 m13 m14 m15 m19 m20 m21 m23 m24 m25 m26 m27 m28 m33 m35 : Nat) (th tp sz_ ap bad bk opn fp im nr nl sp_ wtc wcl ir ip shu sfa swr : Int) (f1 f10 f12 : Nat → Int32) (k : Int) (sz : Nat) (hr_th : (-2147483648) ≤ th ∧ th ≤ 2147483647) (hr_tp : 0 ≤ tp ∧ tp ≤ 600) (hr_sz_ : 0 ≤ sz_ ∧ sz_ ≤ 600) (hr_ap : 0 ≤ ap ∧ ap ≤ 602) (hr_bad : (-1) ≤ bad ∧ bad ≤ 602) (hr_bk : 0 ≤ bk ∧ bk ≤ 4) (hr_opn : 0 ≤ opn ∧ opn ≤ 7) (hr_fp : (-2147483648) ≤ fp ∧ fp ≤ 2147483647) (hr_im : 0 ≤ im ∧ im ≤ 3) (hr_nr : 0 ≤ nr ∧ nr ≤ 4) (hr_nl : 0 ≤ nl ∧ nl ≤ 4) (hr_sp_ : 0 ≤ sp_ ∧ sp_ ≤ 602) (hr_wtc : (-2147483648) ≤ wtc ∧ wtc ≤ 2147483647) (hr_wcl : 0 ≤ wcl ∧ wcl ≤ 95) (hr_ir : 0 ≤ ir ∧ ir ≤ 5) (hr_ip : (-2147483648) ≤ ip ∧ ip ≤ 2147483647) (hr_shu : (-2147483648) ≤ shu ∧ shu ≤ 2147483647) (hr_sfa : (-2147483648) ≤ sfa ∧ sfa ≤ 2147483647) (hr_swr : (-2147483648) ≤ swr ∧ swr ≤ 2147483647) (hr_k : 1 ≤ k ∧ k ≤ 4) (hf10 : BI f10) (hf12 : SI 8 f12) : mI9 l yX12_isNow vs_m_isNow ({ frames := 1, cells := 0, slots := 0, locals := 23 }) D cy sa sz [vR mm, vI k] [zO mm 12 [vI th, vR m1, vI tp, vI sz_, vI ap, vI bad, vI bk, vI opn, vI fp, vR m9, vR m10, vR m11, vR m12, vR m13, vR m14, vR m15, vI im, vI nr, vI nl, vR m19, vR m20, vR m21, vI sp_, vR m23, vR m24, vR m25, vR m26, vR m27, vR m28, vI wtc, vI wcl, vI ir, vI ip, vR m33, vI shu, vR m35, vI sfa, vI swr], zI m1 (cy 0) 4 f1, zI m10 (cy 0) 68 f10, zI m12 (cy 0) 389 f12] (fun (r : Int32) (u : SV) => r = iI (u.2.1 0) ∧ ((-2147483648) ≤ u.2.1 1 ∧ u.2.1 1 ≤ 2147483647) ∧ (0 ≤ u.2.1 0 ∧ u.2.1 0 ≤ 1) ∧ (u.2.1 0 = 1 → 0 < nz f10 0 ∧ 1 ≤ nz f10 1 ∧ nz f12 388 < 600) ∧ BI f10 ∧ SI 8 f12) (fun u : SV => [zO mm 12 [vI (u.2.1 1), vR m1, vI tp, vI sz_, vI ap, vI bad, vI bk, vI opn, vI fp, vR m9, vR m10, vR m11, vR m12, vR m13, vR m14, vR m15, vI im, vI nr, vI nl, vR m19, vR m20, vR m21, vI sp_, vR m23, vR m24, vR m25, vR m26, vR m27, vR m28, vI wtc, vI wcl, vI ir, vI ip, vR m33, vI shu, vR m35, vI sfa, vI swr], zI m1 (cy 0) 4 (u.2.2 0), zI m10 (cy 0) 68 f10, zI m12 (cy 0) 389 f12]) 0 0 := by
  refine Met.ofW (cc := cX12_isNow) (maxL := 2) (ret := (some .boolean)) (by decide) rfl ?_
  intro p e s m args below meth c s₁ B hml hv
  obtain ⟨rfl, hsz, hP, hG, hD0, hT⟩ := hv
  have hx := B.exec
  have hb := B.bytes
  have hr := B.returns
  have hts := atoms_spec (ws := vs_m_isNow) B.pre
  have hown : s.vm.findClass RX12 = some m.cls := findClass_of_methodNamed B.named
  have hlocks := B.notSynchronized
  subst hsz
  have hD := hD0.self (sz := s.heap.size)
  generalize hAe : va_A [zO mm 12 [vI th, vR m1, vI tp, vI sz_, vI ap, vI bad, vI bk, vI opn, vI fp, vR m9, vR m10, vR m11, vR m12, vR m13, vR m14, vR m15, vI im, vI nr, vI nl, vR m19, vR m20, vR m21, vI sp_, vR m23, vR m24, vR m25, vR m26, vR m27, vR m28, vI wtc, vI wcl, vI ir, vI ip, vR m33, vI shu, vR m35, vI sfa, vI swr], zI m1 (cy 0) 4 f1, zI m10 (cy 0) 68 f10, zI m12 (cy 0) 389 f12] s.heap.size = A at hD hT ⊢
  have hA : ∀ q : Nat, s.heap.size ≤ q → A q := fun q h => by rw [← hAe]; exact Or.inr h
  have hS : va_S A s.heap s.heap [] := va_S.rf
  have hl0 := lv_entry ([vR mm, vI k]) (n := 2) (Nat.le_of_ble_eq_true rfl)
  rw [lg_entry_eq]
  generalize (lg_sl ([vR mm, vI k]) ++ List.replicate (2 - (lg_sl ([vR mm, vI k])).length) Slot.unset).toArray = ls at hl0 ⊢
  have hlv : lv_has ls 2 [(0, vR mm), (1, vI k)] := hl0
  have lf23 := hts (.fieldLink RX12 23 "KerbSplashModel" "b" "[I") (List.mem_of_getElem? (i := 1) rfl)
  have hi12 : ∀ w ∈ wsX120, w ∈ vs_m_isNow := fun w h => List.mem_cons_of_mem _ (List.mem_append_right _ (List.mem_append_left _ h))
  have gg_1 : GoodIn vs_m_isNow (wsV RX12 175 RX12 yX12_may vs_m_may) := goodIn_sub (fun w h => List.mem_cons_of_mem _ (List.mem_append_right _ (List.mem_append_right _ (List.mem_append_left _ h)))) (gd_V gd_m_may (by decide +kernel))
  have lf29 := hts (.fieldLink RX12 29 "KerbSplashModel" "s" "[I") (List.mem_of_getElem? (i := 2) rfl)
  refine lv_aload_n hx hb dX12_isNow_0 rfl (lv_at hlv 0 rfl) ?_
  refine lv_aload_n hx hb dX12_isNow_1 rfl (lv_at hlv 0 rfl) ?_
  refine va_get (D := D) (ci := 12) (v := vR m10) (C := RX12) (T := TX12) (N := 38) hx hb hts hi12 hown hG.1 hP 0 rfl rfl 10 (by decide) lf23 (fun _ h9 => h9) rfl dX12_isNow_2 ?_
  refine lv_iconst (v := iI 0) hx hb dX12_isNow_5 (by decide) ?_
  refine va_iald hx hb hG.1 hP 2 0 rfl rfl (iI_in (by omega) (by decide)) dX12_isNow_6 ?_
  refine lt_nz (i := 0) (by omega) (fun z_1 hz_1 lz_1 uz_1 => ?_)
  have hz_1 : z_1 = nz f10 0 := hz_1
  have hbz_1_7 := hf10.1.1
  have hbz_1_8 := hf10.2.1
  have hbz_1_9 := hf10.2.2
  refine iz_le (tgt := 28) hx hb dX12_isNow_7 (by decide) (by omega) (fun c_2 => ?_) (fun c_2 => ?_)
  · refine lv_iconst (v := iI 0) hx hb dX12_isNow_28 (by decide) ?_
    refine lv_iload_n hx hb dX12_isNow_29 rfl (lv_at hlv 1 rfl) ?_
    refine lv_iconst (v := iI 3) hx hb dX12_isNow_30 (by decide) ?_
    refine cjr_i [false, false, true, true] (fun pre9 => (va_runV (As := [vI 0, vI k, vI 3]) (rest := []) ⟨hx, hb, hml, hown, hts⟩ (m_may l hl D cy sa mm m1 m9 m10 m11 m12 m13 m14 m15 m19 m20 m21 m23 m24 m25 m26 m27 m28 m33 m35 th tp sz_ ap bad bk opn fp im nr nl sp_ wtc wcl ir ip shu sfa swr f1 0 k 3 s.heap.size (by first | exact hr_th | omega) (by first | exact hr_tp | omega) (by first | exact hr_sz_ | omega) (by first | exact hr_ap | omega) (by first | exact hr_bad | omega) (by first | exact hr_bk | omega) (by first | exact hr_opn | omega) (by first | exact hr_fp | omega) (by first | exact hr_im | omega) (by first | exact hr_nr | omega) (by first | exact hr_nl | omega) (by first | exact hr_sp_ | omega) (by first | exact hr_wtc | omega) (by first | exact hr_wcl | omega) (by first | exact hr_ir | omega) (by first | exact hr_ip | omega) (by first | exact hr_shu | omega) (by first | exact hr_sfa | omega) (by first | exact hr_swr | omega) (by show (0 : Int) ≤ 0 ∧ (0 : Int) ≤ 1; decide) (by first | exact hr_k | omega) (by show (0 : Int) ≤ 3 ∧ (3 : Int) ≤ 3; decide)) (cwV 3 hts gg_1 rfl rfl rfl (by decide +kernel) ⟨Nat.le_of_ble_eq_true rfl, Nat.le_of_ble_eq_true rfl⟩) ⟨pcW.blind, (va_recv hG.1 hP (ci := 12) (q0 := 0) rfl rfl), pre9⟩ rfl rfl hlv.1 rfl (lv_room (Nat.le_of_ble_eq_true rfl)) dX12_isNow_31 ⟨Nat.le_of_ble_eq_true rfl, Nat.le_of_ble_eq_true rfl⟩)) hP hD hS hA hG hT [0, 1] rfl (by decide +kernel) (fun r1 u1 H locs hw1 hq9 hS => ?_)
    obtain ⟨rfl, hq1_1, hq1_2, hq1_3, hq1_4⟩ := hw1
    obtain ⟨hP, hD⟩ := pd9 [zI m10 (cy 0) 68 f10, zI m12 (cy 0) 389 f12, zO mm 12 [vI (u1.2.1 1), vR m1, vI tp, vI sz_, vI ap, vI bad, vI bk, vI opn, vI fp, vR m9, vR m10, vR m11, vR m12, vR m13, vR m14, vR m15, vI im, vI nr, vI nl, vR m19, vR m20, vR m21, vI sp_, vR m23, vR m24, vR m25, vR m26, vR m27, vR m28, vI wtc, vI wcl, vI ir, vI ip, vR m33, vI shu, vR m35, vI sfa, vI swr], zI m1 (cy 0) 4 (u1.2.2 0)] hq9
    refine lt_i (y := iI 0) (by rw [show (u1.2.1 0) = 0 by omega]) ?_
    refine W.widen (k := 0) (n := 0) (Nat.le_of_ble_eq_true rfl) (Nat.le_of_ble_eq_true rfl) ?_
    exact W.zret (v := iI 0) hx hb hr (by first | rfl | decide) (fun t ht hW => ⟨⟨iI 0, ((fun k => ([] : List Nat).getD k 0), (fun k => ([0, (u1.2.1 1)] : List Int).getD k 0), (fun k => ([(u1.2.2 0)] : List (Nat → Int32)).getD k (fun _ => 0))), rfl, ⟨rfl, (by show ((-2147483648) ≤ (u1.2.1 1) ∧ (u1.2.1 1) ≤ 2147483647); first | exact hq1_1 | omega), (by show (0 ≤ 0 ∧ 0 ≤ 1); show (0 : Int) ≤ 0 ∧ (0 : Int) ≤ 1; decide), (by show (0 = 1 → 0 < nz f10 0 ∧ 1 ≤ nz f10 1 ∧ nz f12 388 < 600); omega), hf10, hf12⟩, at9 ht hP hD [2, 3, 0, 1] (by decide +kernel) rfl⟩, hS.F ht⟩) hS.2.2 dX12_isNow_34
  · refine lv_aload_n hx hb dX12_isNow_10 rfl (lv_at hlv 0 rfl) ?_
    refine va_get (D := D) (ci := 12) (v := vR m12) (C := RX12) (T := TX12) (N := 38) hx hb hts hi12 hown hG.1 hP 0 rfl rfl 12 (by decide) lf29 (fun _ h9 => h9) rfl dX12_isNow_11 ?_
    refine lv_sipush (v := iI 388) hx hb dX12_isNow_14 (by decide) ?_
    refine va_iald hx hb hG.1 hP 3 0 rfl rfl (iI_in (by omega) (by decide)) dX12_isNow_17 ?_
    refine lt_nz (i := 388) (by omega) (fun z_3 hz_3 lz_3 uz_3 => ?_)
    have hz_3 : z_3 = nz f12 388 := hz_3
    have hbz_3_6 := hf12.2.2.2.2.2.2
    refine lv_sipush (v := iI 600) hx hb dX12_isNow_18 (by decide) ?_
    refine ir_ge (tgt := 28) hx hb dX12_isNow_21 (by decide) (by omega) (by show ((-2147483648) : Int) ≤ 600 ∧ (600 : Int) ≤ 2147483647; decide) (fun c_4 => ?_) (fun c_4 => ?_)
    · refine lv_iconst (v := iI 0) hx hb dX12_isNow_28 (by decide) ?_
      refine lv_iload_n hx hb dX12_isNow_29 rfl (lv_at hlv 1 rfl) ?_
      refine lv_iconst (v := iI 3) hx hb dX12_isNow_30 (by decide) ?_
      refine cjr_i [false, false, true, true] (fun pre9 => (va_runV (As := [vI 0, vI k, vI 3]) (rest := []) ⟨hx, hb, hml, hown, hts⟩ (m_may l hl D cy sa mm m1 m9 m10 m11 m12 m13 m14 m15 m19 m20 m21 m23 m24 m25 m26 m27 m28 m33 m35 th tp sz_ ap bad bk opn fp im nr nl sp_ wtc wcl ir ip shu sfa swr f1 0 k 3 s.heap.size (by first | exact hr_th | omega) (by first | exact hr_tp | omega) (by first | exact hr_sz_ | omega) (by first | exact hr_ap | omega) (by first | exact hr_bad | omega) (by first | exact hr_bk | omega) (by first | exact hr_opn | omega) (by first | exact hr_fp | omega) (by first | exact hr_im | omega) (by first | exact hr_nr | omega) (by first | exact hr_nl | omega) (by first | exact hr_sp_ | omega) (by first | exact hr_wtc | omega) (by first | exact hr_wcl | omega) (by first | exact hr_ir | omega) (by first | exact hr_ip | omega) (by first | exact hr_shu | omega) (by first | exact hr_sfa | omega) (by first | exact hr_swr | omega) (by show (0 : Int) ≤ 0 ∧ (0 : Int) ≤ 1; decide) (by first | exact hr_k | omega) (by show (0 : Int) ≤ 3 ∧ (3 : Int) ≤ 3; decide)) (cwV 3 hts gg_1 rfl rfl rfl (by decide +kernel) ⟨Nat.le_of_ble_eq_true rfl, Nat.le_of_ble_eq_true rfl⟩) ⟨pcW.blind, (va_recv hG.1 hP (ci := 12) (q0 := 0) rfl rfl), pre9⟩ rfl rfl hlv.1 rfl (lv_room (Nat.le_of_ble_eq_true rfl)) dX12_isNow_31 ⟨Nat.le_of_ble_eq_true rfl, Nat.le_of_ble_eq_true rfl⟩)) hP hD hS hA hG hT [0, 1] rfl (by decide +kernel) (fun r2 u2 H locs hw2 hq9 hS => ?_)
      obtain ⟨rfl, hq2_1, hq2_2, hq2_3, hq2_4⟩ := hw2
      obtain ⟨hP, hD⟩ := pd9 [zI m10 (cy 0) 68 f10, zI m12 (cy 0) 389 f12, zO mm 12 [vI (u2.2.1 1), vR m1, vI tp, vI sz_, vI ap, vI bad, vI bk, vI opn, vI fp, vR m9, vR m10, vR m11, vR m12, vR m13, vR m14, vR m15, vI im, vI nr, vI nl, vR m19, vR m20, vR m21, vI sp_, vR m23, vR m24, vR m25, vR m26, vR m27, vR m28, vI wtc, vI wcl, vI ir, vI ip, vR m33, vI shu, vR m35, vI sfa, vI swr], zI m1 (cy 0) 4 (u2.2.2 0)] hq9
      refine lt_i (y := iI 0) (by rw [show (u2.2.1 0) = 0 by omega]) ?_
      refine W.widen (k := 0) (n := 0) (Nat.le_of_ble_eq_true rfl) (Nat.le_of_ble_eq_true rfl) ?_
      exact W.zret (v := iI 0) hx hb hr (by first | rfl | decide) (fun t ht hW => ⟨⟨iI 0, ((fun k => ([] : List Nat).getD k 0), (fun k => ([0, (u2.2.1 1)] : List Int).getD k 0), (fun k => ([(u2.2.2 0)] : List (Nat → Int32)).getD k (fun _ => 0))), rfl, ⟨rfl, (by show ((-2147483648) ≤ (u2.2.1 1) ∧ (u2.2.1 1) ≤ 2147483647); first | exact hq2_1 | omega), (by show (0 ≤ 0 ∧ 0 ≤ 1); show (0 : Int) ≤ 0 ∧ (0 : Int) ≤ 1; decide), (by show (0 = 1 → 0 < nz f10 0 ∧ 1 ≤ nz f10 1 ∧ nz f12 388 < 600); omega), hf10, hf12⟩, at9 ht hP hD [2, 3, 0, 1] (by decide +kernel) rfl⟩, hS.F ht⟩) hS.2.2 dX12_isNow_34
    · refine lv_iconst (v := iI 1) hx hb dX12_isNow_24 (by decide) ?_
      refine lv_goto (tgt := 29) hx hb dX12_isNow_25 (by decide) ?_
      refine lv_iload_n hx hb dX12_isNow_29 rfl (lv_at hlv 1 rfl) ?_
      refine lv_iconst (v := iI 3) hx hb dX12_isNow_30 (by decide) ?_
      refine cjr_i [false, false, true, true] (fun pre9 => (va_runV (As := [vI 1, vI k, vI 3]) (rest := []) ⟨hx, hb, hml, hown, hts⟩ (m_may l hl D cy sa mm m1 m9 m10 m11 m12 m13 m14 m15 m19 m20 m21 m23 m24 m25 m26 m27 m28 m33 m35 th tp sz_ ap bad bk opn fp im nr nl sp_ wtc wcl ir ip shu sfa swr f1 1 k 3 s.heap.size (by first | exact hr_th | omega) (by first | exact hr_tp | omega) (by first | exact hr_sz_ | omega) (by first | exact hr_ap | omega) (by first | exact hr_bad | omega) (by first | exact hr_bk | omega) (by first | exact hr_opn | omega) (by first | exact hr_fp | omega) (by first | exact hr_im | omega) (by first | exact hr_nr | omega) (by first | exact hr_nl | omega) (by first | exact hr_sp_ | omega) (by first | exact hr_wtc | omega) (by first | exact hr_wcl | omega) (by first | exact hr_ir | omega) (by first | exact hr_ip | omega) (by first | exact hr_shu | omega) (by first | exact hr_sfa | omega) (by first | exact hr_swr | omega) (by show (0 : Int) ≤ 1 ∧ (1 : Int) ≤ 1; decide) (by first | exact hr_k | omega) (by show (0 : Int) ≤ 3 ∧ (3 : Int) ≤ 3; decide)) (cwV 3 hts gg_1 rfl rfl rfl (by decide +kernel) ⟨Nat.le_of_ble_eq_true rfl, Nat.le_of_ble_eq_true rfl⟩) ⟨pcW.blind, (va_recv hG.1 hP (ci := 12) (q0 := 0) rfl rfl), pre9⟩ rfl rfl hlv.1 rfl (lv_room (Nat.le_of_ble_eq_true rfl)) dX12_isNow_31 ⟨Nat.le_of_ble_eq_true rfl, Nat.le_of_ble_eq_true rfl⟩)) hP hD hS hA hG hT [0, 1] rfl (by decide +kernel) (fun r3 u3 H locs hw3 hq9 hS => ?_)
      obtain ⟨rfl, hq3_1, hq3_2, hq3_3, hq3_4⟩ := hw3
      obtain ⟨hP, hD⟩ := pd9 [zI m10 (cy 0) 68 f10, zI m12 (cy 0) 389 f12, zO mm 12 [vI (u3.2.1 1), vR m1, vI tp, vI sz_, vI ap, vI bad, vI bk, vI opn, vI fp, vR m9, vR m10, vR m11, vR m12, vR m13, vR m14, vR m15, vI im, vI nr, vI nl, vR m19, vR m20, vR m21, vI sp_, vR m23, vR m24, vR m25, vR m26, vR m27, vR m28, vI wtc, vI wcl, vI ir, vI ip, vR m33, vI shu, vR m35, vI sfa, vI swr], zI m1 (cy 0) 4 (u3.2.2 0)] hq9
      refine W.widen (k := 0) (n := 0) (Nat.le_of_ble_eq_true rfl) (Nat.le_of_ble_eq_true rfl) ?_
      exact W.zret (v := iI (u3.2.1 0)) hx hb hr (nar_b (by omega)) (fun t ht hW => ⟨⟨iI (u3.2.1 0), ((fun k => ([] : List Nat).getD k 0), (fun k => ([(u3.2.1 0), (u3.2.1 1)] : List Int).getD k 0), (fun k => ([(u3.2.2 0)] : List (Nat → Int32)).getD k (fun _ => 0))), rfl, ⟨rfl, (by show ((-2147483648) ≤ (u3.2.1 1) ∧ (u3.2.1 1) ≤ 2147483647); first | exact hq3_1 | omega), (by show (0 ≤ (u3.2.1 0) ∧ (u3.2.1 0) ≤ 1); first | exact hq3_2 | omega), (by show ((u3.2.1 0) = 1 → 0 < nz f10 0 ∧ 1 ≤ nz f10 1 ∧ nz f12 388 < 600); omega), hf10, hf12⟩, at9 ht hP hD [2, 3, 0, 1] (by decide +kernel) rfl⟩, hS.F ht⟩) hS.2.2 dX12_isNow_34
def vs_m_isWork : List Cond := .code yX12_isWork cX12_isWork 2 (some .boolean) :: (([.fieldLink RX12 23 "KerbSplashModel" "b" "[I"] : List Cond) ++ ((wsX120) ++ ((va_wsS RX12 279 yX12_within vs_m_within) ++ ((wsV RX12 175 RX12 yX12_may vs_m_may) ++ ([])))))
theorem gd_m_isWork : vs_m_isWork.all goodWord = true := gd_C (by decide +kernel) (gd_A (by decide +kernel) (gd_A (by decide +kernel) (gd_A (gd_S gd_m_within (by decide +kernel)) (gd_A (gd_V gd_m_may (by decide +kernel)) rfl))))
set_option maxHeartbeats 4000000 in
set_option maxRecDepth 100000 in
theorem m_isWork (l : Launch) (hl : l.stackTraces = false) (D : va_G) (cy : Nat → ClassId) (sa : Nat → Nat) (mm m1 m9 m10 m11 m12 m13 m14 m15 m19 m20 m21 m23 m24 m25 m26 m27 m28 m33 m35 : Nat) (th tp sz_ ap bad bk opn fp im nr nl sp_ wtc wcl ir ip shu sfa swr : Int) (f1 f10 : Nat → Int32) (n : Int) (sz : Nat) (hr_th : (-2147483648) ≤ th ∧ th ≤ 2147483647) (hr_tp : 0 ≤ tp ∧ tp ≤ 600) (hr_sz_ : 0 ≤ sz_ ∧ sz_ ≤ 600) (hr_ap : 0 ≤ ap ∧ ap ≤ 602) (hr_bad : (-1) ≤ bad ∧ bad ≤ 602) (hr_bk : 0 ≤ bk ∧ bk ≤ 4) (hr_opn : 0 ≤ opn ∧ opn ≤ 7) (hr_fp : (-2147483648) ≤ fp ∧ fp ≤ 2147483647) (hr_im : 0 ≤ im ∧ im ≤ 3) (hr_nr : 0 ≤ nr ∧ nr ≤ 4) (hr_nl : 0 ≤ nl ∧ nl ≤ 4) (hr_sp_ : 0 ≤ sp_ ∧ sp_ ≤ 602) (hr_wtc : (-2147483648) ≤ wtc ∧ wtc ≤ 2147483647) (hr_wcl : 0 ≤ wcl ∧ wcl ≤ 95) (hr_ir : 0 ≤ ir ∧ ir ≤ 5) (hr_ip : (-2147483648) ≤ ip ∧ ip ≤ 2147483647) (hr_shu : (-2147483648) ≤ shu ∧ shu ≤ 2147483647) (hr_sfa : (-2147483648) ≤ sfa ∧ sfa ≤ 2147483647) (hr_swr : (-2147483648) ≤ swr ∧ swr ≤ 2147483647) (hr_n : (-2147483648) ≤ n ∧ n ≤ 2147483647) (hf10 : BI f10) : mI9 l yX12_isWork vs_m_isWork ({ frames := 1, cells := 0, slots := 0, locals := 23 }) D cy sa sz [vR mm, vI n] [zO mm 12 [vI th, vR m1, vI tp, vI sz_, vI ap, vI bad, vI bk, vI opn, vI fp, vR m9, vR m10, vR m11, vR m12, vR m13, vR m14, vR m15, vI im, vI nr, vI nl, vR m19, vR m20, vR m21, vI sp_, vR m23, vR m24, vR m25, vR m26, vR m27, vR m28, vI wtc, vI wcl, vI ir, vI ip, vR m33, vI shu, vR m35, vI sfa, vI swr], zI m1 (cy 0) 4 f1, zI m10 (cy 0) 68 f10] (fun (r : Int32) (u : SV) => r = iI (u.2.1 0) ∧ ((-2147483648) ≤ u.2.1 1 ∧ u.2.1 1 ≤ 2147483647) ∧ (0 ≤ u.2.1 0 ∧ u.2.1 0 ≤ 1) ∧ (u.2.1 0 = 1 → 0 ≤ n ∧ n < nz f10 5 ∧ n ≤ 7) ∧ BI f10) (fun u : SV => [zO mm 12 [vI (u.2.1 1), vR m1, vI tp, vI sz_, vI ap, vI bad, vI bk, vI opn, vI fp, vR m9, vR m10, vR m11, vR m12, vR m13, vR m14, vR m15, vI im, vI nr, vI nl, vR m19, vR m20, vR m21, vI sp_, vR m23, vR m24, vR m25, vR m26, vR m27, vR m28, vI wtc, vI wcl, vI ir, vI ip, vR m33, vI shu, vR m35, vI sfa, vI swr], zI m1 (cy 0) 4 (u.2.2 0), zI m10 (cy 0) 68 f10]) 0 0 := by
  refine Met.ofW (cc := cX12_isWork) (maxL := 2) (ret := (some .boolean)) (by decide) rfl ?_
  intro p e s m args below meth c s₁ B hml hv
  obtain ⟨rfl, hsz, hP, hG, hD0, hT⟩ := hv
  have hx := B.exec
  have hb := B.bytes
  have hr := B.returns
  have hts := atoms_spec (ws := vs_m_isWork) B.pre
  have hown : s.vm.findClass RX12 = some m.cls := findClass_of_methodNamed B.named
  have hlocks := B.notSynchronized
  subst hsz
  have hD := hD0.self (sz := s.heap.size)
  generalize hAe : va_A [zO mm 12 [vI th, vR m1, vI tp, vI sz_, vI ap, vI bad, vI bk, vI opn, vI fp, vR m9, vR m10, vR m11, vR m12, vR m13, vR m14, vR m15, vI im, vI nr, vI nl, vR m19, vR m20, vR m21, vI sp_, vR m23, vR m24, vR m25, vR m26, vR m27, vR m28, vI wtc, vI wcl, vI ir, vI ip, vR m33, vI shu, vR m35, vI sfa, vI swr], zI m1 (cy 0) 4 f1, zI m10 (cy 0) 68 f10] s.heap.size = A at hD hT ⊢
  have hA : ∀ q : Nat, s.heap.size ≤ q → A q := fun q h => by rw [← hAe]; exact Or.inr h
  have hS : va_S A s.heap s.heap [] := va_S.rf
  have hl0 := lv_entry ([vR mm, vI n]) (n := 2) (Nat.le_of_ble_eq_true rfl)
  rw [lg_entry_eq]
  generalize (lg_sl ([vR mm, vI n]) ++ List.replicate (2 - (lg_sl ([vR mm, vI n])).length) Slot.unset).toArray = ls at hl0 ⊢
  have hlv : lv_has ls 2 [(0, vR mm), (1, vI n)] := hl0
  have lf23 := hts (.fieldLink RX12 23 "KerbSplashModel" "b" "[I") (List.mem_of_getElem? (i := 1) rfl)
  have hi12 : ∀ w ∈ wsX120, w ∈ vs_m_isWork := fun w h => List.mem_cons_of_mem _ (List.mem_append_right _ (List.mem_append_left _ h))
  have gg_1 : GoodIn vs_m_isWork (va_wsS RX12 279 yX12_within vs_m_within) := goodIn_sub (fun w h => List.mem_cons_of_mem _ (List.mem_append_right _ (List.mem_append_right _ (List.mem_append_left _ h)))) (gd_S gd_m_within (by decide +kernel))
  have gg_2 : GoodIn vs_m_isWork (wsV RX12 175 RX12 yX12_may vs_m_may) := goodIn_sub (fun w h => List.mem_cons_of_mem _ (List.mem_append_right _ (List.mem_append_right _ (List.mem_append_right _ (List.mem_append_left _ h))))) (gd_V gd_m_may (by decide +kernel))
  refine lv_aload_n hx hb dX12_isWork_0 rfl (lv_at hlv 0 rfl) ?_
  refine lv_iload_n hx hb dX12_isWork_1 rfl (lv_at hlv 1 rfl) ?_
  refine lv_iconst (v := iI 0) hx hb dX12_isWork_2 (by decide) ?_
  refine lv_aload_n hx hb dX12_isWork_3 rfl (lv_at hlv 0 rfl) ?_
  refine va_get (D := D) (ci := 12) (v := vR m10) (C := RX12) (T := TX12) (N := 38) hx hb hts hi12 hown hG.1 hP 0 rfl rfl 10 (by decide) lf23 (fun _ h9 => h9) rfl dX12_isWork_4 ?_
  refine lv_iconst (v := iI 5) hx hb dX12_isWork_7 (by decide) ?_
  refine va_iald hx hb hG.1 hP 2 0 rfl rfl (iI_in (by omega) (by decide)) dX12_isWork_8 ?_
  refine lt_nz (i := 5) (by omega) (fun z_1 hz_1 lz_1 uz_1 => ?_)
  have hz_1 : z_1 = nz f10 5 := hz_1
  have hbz_1_9 := hf10.1.2.2.2.2.2.1
  refine lv_iconst (v := iI 1) hx hb dX12_isWork_9 (by decide) ?_
  refine lv_isub hx hb dX12_isWork_10 ?_
  refine lt_e (e0 := z_1 - 1) (Int32.ofInt_sub _ _).symm (fun z_2 hz_2 => ?_)
  refine cjr_i [true, true, true] (fun pre9 => (va_runS (As := [vI n, vI 0, vI z_2]) (rest := [vR mm]) ⟨hx, hb, hml, hown, hts⟩ (m_within l hl D cy sa n 0 z_2 s.heap.size (by first | exact hr_n | omega) (by show ((-2147483648) : Int) ≤ 0 ∧ (0 : Int) ≤ 2147483647; decide) (by omega)) (va_cwS 3 hts gg_1 rfl rfl rfl (by decide +kernel) ⟨Nat.le_of_ble_eq_true rfl, Nat.le_of_ble_eq_true rfl⟩) ⟨pcW.blind, pre9⟩ rfl rfl hlv.1 rfl (lv_room (Nat.le_of_ble_eq_true rfl)) dX12_isWork_11 ⟨Nat.le_of_ble_eq_true rfl, Nat.le_of_ble_eq_true rfl⟩)) hP hD hS hA hG hT [] rfl (by decide +kernel) (fun r1 u1 H locs hw1 hq9 hS => ?_)
  obtain ⟨rfl, hq1_1, hq1_2, hq1_3⟩ := hw1
  obtain ⟨hP, hD⟩ := pd9 [zO mm 12 [vI th, vR m1, vI tp, vI sz_, vI ap, vI bad, vI bk, vI opn, vI fp, vR m9, vR m10, vR m11, vR m12, vR m13, vR m14, vR m15, vI im, vI nr, vI nl, vR m19, vR m20, vR m21, vI sp_, vR m23, vR m24, vR m25, vR m26, vR m27, vR m28, vI wtc, vI wcl, vI ir, vI ip, vR m33, vI shu, vR m35, vI sfa, vI swr], zI m1 (cy 0) 4 f1, zI m10 (cy 0) 68 f10] hq9
  refine lv_iconst (v := iI 1) hx hb dX12_isWork_14 (by decide) ?_
  refine lv_iconst (v := iI 1) hx hb dX12_isWork_15 (by decide) ?_
  refine cjr_i [false, false, true] (fun pre9 => (va_runV (As := [vI (u1.2.1 0), vI 1, vI 1]) (rest := []) ⟨hx, hb, hml, hown, hts⟩ (m_may l hl D cy sa mm m1 m9 m10 m11 m12 m13 m14 m15 m19 m20 m21 m23 m24 m25 m26 m27 m28 m33 m35 th tp sz_ ap bad bk opn fp im nr nl sp_ wtc wcl ir ip shu sfa swr f1 (u1.2.1 0) 1 1 H.size (by first | exact hr_th | omega) (by first | exact hr_tp | omega) (by first | exact hr_sz_ | omega) (by first | exact hr_ap | omega) (by first | exact hr_bad | omega) (by first | exact hr_bk | omega) (by first | exact hr_opn | omega) (by first | exact hr_fp | omega) (by first | exact hr_im | omega) (by first | exact hr_nr | omega) (by first | exact hr_nl | omega) (by first | exact hr_sp_ | omega) (by first | exact hr_wtc | omega) (by first | exact hr_wcl | omega) (by first | exact hr_ir | omega) (by first | exact hr_ip | omega) (by first | exact hr_shu | omega) (by first | exact hr_sfa | omega) (by first | exact hr_swr | omega) (by first | exact hq1_1 | omega) (by show (1 : Int) ≤ 1 ∧ (1 : Int) ≤ 4; decide) (by show (0 : Int) ≤ 1 ∧ (1 : Int) ≤ 3; decide)) (cwV 3 hts gg_2 rfl rfl rfl (by decide +kernel) ⟨Nat.le_of_ble_eq_true rfl, Nat.le_of_ble_eq_true rfl⟩) ⟨pcW.blind, (va_recv hG.1 hP (ci := 12) (q0 := 0) rfl rfl), pre9⟩ rfl rfl hlv.1 rfl (lv_room (Nat.le_of_ble_eq_true rfl)) dX12_isWork_16 ⟨Nat.le_of_ble_eq_true rfl, Nat.le_of_ble_eq_true rfl⟩)) hP hD hS hA hG hT [0, 1] rfl (by decide +kernel) (fun r2 u2 H locs hw2 hq9 hS => ?_)
  obtain ⟨rfl, hq2_1, hq2_2, hq2_3, hq2_4⟩ := hw2
  obtain ⟨hP, hD⟩ := pd9 [zI m10 (cy 0) 68 f10, zO mm 12 [vI (u2.2.1 1), vR m1, vI tp, vI sz_, vI ap, vI bad, vI bk, vI opn, vI fp, vR m9, vR m10, vR m11, vR m12, vR m13, vR m14, vR m15, vI im, vI nr, vI nl, vR m19, vR m20, vR m21, vI sp_, vR m23, vR m24, vR m25, vR m26, vR m27, vR m28, vI wtc, vI wcl, vI ir, vI ip, vR m33, vI shu, vR m35, vI sfa, vI swr], zI m1 (cy 0) 4 (u2.2.2 0)] hq9
  refine W.widen (k := 0) (n := 0) (Nat.le_of_ble_eq_true rfl) (Nat.le_of_ble_eq_true rfl) ?_
  exact W.zret (v := iI (u2.2.1 0)) hx hb hr (nar_b (by omega)) (fun t ht hW => ⟨⟨iI (u2.2.1 0), ((fun k => ([] : List Nat).getD k 0), (fun k => ([(u2.2.1 0), (u2.2.1 1)] : List Int).getD k 0), (fun k => ([(u2.2.2 0)] : List (Nat → Int32)).getD k (fun _ => 0))), rfl, ⟨rfl, (by show ((-2147483648) ≤ (u2.2.1 1) ∧ (u2.2.1 1) ≤ 2147483647); first | exact hq2_1 | omega), (by show (0 ≤ (u2.2.1 0) ∧ (u2.2.1 0) ≤ 1); first | exact hq2_2 | omega), (by show ((u2.2.1 0) = 1 → 0 ≤ n ∧ n < nz f10 5 ∧ n ≤ 7); omega), hf10⟩, at9 ht hP hD [1, 2, 0] (by decide +kernel) rfl⟩, hS.F ht⟩) hS.2.2 dX12_isWork_19
def vs_m_drains : List Cond := .code yX12_drains cX12_drains 1 (some .int) :: (([.fieldLink RX12 23 "KerbSplashModel" "b" "[I", .fieldLink RX12 29 "KerbSplashModel" "s" "[I"] : List Cond) ++ ((wsX120) ++ ([])))
theorem gd_m_drains : vs_m_drains.all goodWord = true := gd_C (by decide +kernel) (gd_A (by decide +kernel) (gd_A (by decide +kernel) rfl))
set_option maxHeartbeats 4000000 in
set_option maxRecDepth 100000 in
theorem m_drains (l : Launch) (hl : l.stackTraces = false) (D : va_G) (cy : Nat → ClassId) (sa : Nat → Nat) (mm m1 m9 m10 m11 m12 m13 m14 m15 m19 m20 m21 m23 m24 m25 m26 m27 m28 m33 m35 : Nat) (th tp sz_ ap bad bk opn fp im nr nl sp_ wtc wcl ir ip shu sfa swr : Int) (f10 f12 : Nat → Int32) (pm : Int) (sz : Nat) (hr_th : (-2147483648) ≤ th ∧ th ≤ 2147483647) (hr_tp : 0 ≤ tp ∧ tp ≤ 600) (hr_sz_ : 0 ≤ sz_ ∧ sz_ ≤ 600) (hr_ap : 0 ≤ ap ∧ ap ≤ 602) (hr_bad : (-1) ≤ bad ∧ bad ≤ 602) (hr_bk : 0 ≤ bk ∧ bk ≤ 4) (hr_opn : 0 ≤ opn ∧ opn ≤ 7) (hr_fp : (-2147483648) ≤ fp ∧ fp ≤ 2147483647) (hr_im : 0 ≤ im ∧ im ≤ 3) (hr_nr : 0 ≤ nr ∧ nr ≤ 4) (hr_nl : 0 ≤ nl ∧ nl ≤ 4) (hr_sp_ : 0 ≤ sp_ ∧ sp_ ≤ 602) (hr_wtc : (-2147483648) ≤ wtc ∧ wtc ≤ 2147483647) (hr_wcl : 0 ≤ wcl ∧ wcl ≤ 95) (hr_ir : 0 ≤ ir ∧ ir ≤ 5) (hr_ip : (-2147483648) ≤ ip ∧ ip ≤ 2147483647) (hr_shu : (-2147483648) ≤ shu ∧ shu ≤ 2147483647) (hr_sfa : (-2147483648) ≤ sfa ∧ sfa ≤ 2147483647) (hr_swr : (-2147483648) ≤ swr ∧ swr ≤ 2147483647) (hr_pm : 8 ≤ pm ∧ pm ≤ 9) (hf10 : BI f10) (hf12 : SI pm f12) : mI9 l yX12_drains vs_m_drains ({ frames := 0, cells := 0, slots := 0, locals := 0 }) D cy sa sz [vR mm] [zO mm 12 [vI th, vR m1, vI tp, vI sz_, vI ap, vI bad, vI bk, vI opn, vI fp, vR m9, vR m10, vR m11, vR m12, vR m13, vR m14, vR m15, vI im, vI nr, vI nl, vR m19, vR m20, vR m21, vI sp_, vR m23, vR m24, vR m25, vR m26, vR m27, vR m28, vI wtc, vI wcl, vI ir, vI ip, vR m33, vI shu, vR m35, vI sfa, vI swr], zI m10 (cy 0) 68 f10, zI m12 (cy 0) 389 f12] (fun (r : Int32) (u : SV) => r = iI (u.2.1 0) ∧ (0 ≤ u.2.1 0 ∧ u.2.1 0 ≤ 14) ∧ (u.2.1 0 = nz f10 2 + nz f12 206) ∧ BI f10 ∧ SI pm f12) (fun u : SV => [zO mm 12 [vI th, vR m1, vI tp, vI sz_, vI ap, vI bad, vI bk, vI opn, vI fp, vR m9, vR m10, vR m11, vR m12, vR m13, vR m14, vR m15, vI im, vI nr, vI nl, vR m19, vR m20, vR m21, vI sp_, vR m23, vR m24, vR m25, vR m26, vR m27, vR m28, vI wtc, vI wcl, vI ir, vI ip, vR m33, vI shu, vR m35, vI sfa, vI swr], zI m10 (cy 0) 68 f10, zI m12 (cy 0) 389 f12]) 0 0 := by
  refine Met.ofW (cc := cX12_drains) (maxL := 1) (ret := (some .int)) (by decide) rfl ?_
  intro p e s m args below meth c s₁ B hml hv
  obtain ⟨rfl, hsz, hP, hG, hD0, hT⟩ := hv
  have hx := B.exec
  have hb := B.bytes
  have hr := B.returns
  have hts := atoms_spec (ws := vs_m_drains) B.pre
  have hown : s.vm.findClass RX12 = some m.cls := findClass_of_methodNamed B.named
  have hlocks := B.notSynchronized
  subst hsz
  have hD := hD0.self (sz := s.heap.size)
  generalize hAe : va_A [zO mm 12 [vI th, vR m1, vI tp, vI sz_, vI ap, vI bad, vI bk, vI opn, vI fp, vR m9, vR m10, vR m11, vR m12, vR m13, vR m14, vR m15, vI im, vI nr, vI nl, vR m19, vR m20, vR m21, vI sp_, vR m23, vR m24, vR m25, vR m26, vR m27, vR m28, vI wtc, vI wcl, vI ir, vI ip, vR m33, vI shu, vR m35, vI sfa, vI swr], zI m10 (cy 0) 68 f10, zI m12 (cy 0) 389 f12] s.heap.size = A at hD hT ⊢
  have hA : ∀ q : Nat, s.heap.size ≤ q → A q := fun q h => by rw [← hAe]; exact Or.inr h
  have hS : va_S A s.heap s.heap [] := va_S.rf
  have hl0 := lv_entry ([vR mm]) (n := 1) (Nat.le_of_ble_eq_true rfl)
  rw [lg_entry_eq]
  generalize (lg_sl ([vR mm]) ++ List.replicate (1 - (lg_sl ([vR mm])).length) Slot.unset).toArray = ls at hl0 ⊢
  have hlv : lv_has ls 1 [(0, vR mm)] := hl0
  have lf23 := hts (.fieldLink RX12 23 "KerbSplashModel" "b" "[I") (List.mem_of_getElem? (i := 1) rfl)
  have hi12 : ∀ w ∈ wsX120, w ∈ vs_m_drains := fun w h => List.mem_cons_of_mem _ (List.mem_append_right _ (List.mem_append_left _ h))
  have lf29 := hts (.fieldLink RX12 29 "KerbSplashModel" "s" "[I") (List.mem_of_getElem? (i := 2) rfl)
  refine lv_aload_n hx hb dX12_drains_0 rfl (lv_at hlv 0 rfl) ?_
  refine va_get (D := D) (ci := 12) (v := vR m10) (C := RX12) (T := TX12) (N := 38) hx hb hts hi12 hown hG.1 hP 0 rfl rfl 10 (by decide) lf23 (fun _ h9 => h9) rfl dX12_drains_1 ?_
  refine lv_iconst (v := iI 2) hx hb dX12_drains_4 (by decide) ?_
  refine va_iald hx hb hG.1 hP 1 0 rfl rfl (iI_in (by omega) (by decide)) dX12_drains_5 ?_
  refine lt_nz (i := 2) (by omega) (fun z_1 hz_1 lz_1 uz_1 => ?_)
  have hz_1 : z_1 = nz f10 2 := hz_1
  have hbz_1_6 := hf10.1.2.2.1
  refine lv_aload_n hx hb dX12_drains_6 rfl (lv_at hlv 0 rfl) ?_
  refine va_get (D := D) (ci := 12) (v := vR m12) (C := RX12) (T := TX12) (N := 38) hx hb hts hi12 hown hG.1 hP 0 rfl rfl 12 (by decide) lf29 (fun _ h9 => h9) rfl dX12_drains_7 ?_
  refine lv_sipush (v := iI 206) hx hb dX12_drains_10 (by decide) ?_
  refine va_iald hx hb hG.1 hP 2 0 rfl rfl (iI_in (by omega) (by decide)) dX12_drains_13 ?_
  refine lt_nz (i := 206) (by omega) (fun z_2 hz_2 lz_2 uz_2 => ?_)
  have hz_2 : z_2 = nz f12 206 := hz_2
  have hbz_2_13 := hf12.1
  have hbz_2_14 := dcn_r f12
  refine lv_iadd hx hb dX12_drains_14 ?_
  refine lt_e (e0 := z_1 + z_2) (Int32.ofInt_add _ _).symm (fun z_3 hz_3 => ?_)
  refine W.widen (k := 0) (n := 0) (Nat.le_of_ble_eq_true rfl) (Nat.le_of_ble_eq_true rfl) ?_
  exact W.iret (v := iI z_3) hx hb hr (fun t ht hW => ⟨⟨iI z_3, ((fun k => ([] : List Nat).getD k 0), (fun k => ([z_3] : List Int).getD k 0), (fun k => ([] : List (Nat → Int32)).getD k (fun _ => 0))), rfl, ⟨rfl, (by show (0 ≤ z_3 ∧ z_3 ≤ 14); omega), (by show (z_3 = nz f10 2 + nz f12 206); omega), hf10, hf12⟩, at9 ht hP hD [0, 1, 2] (by decide +kernel) rfl⟩, hS.F ht⟩) hS.2.2 dX12_drains_15
def vs_m_drainTold0 : List Cond := .code yX12_drainTold cX12_drainTold 3 (some .int) :: (([.fieldLink RX12 23 "KerbSplashModel" "b" "[I", .fieldLink RX12 29 "KerbSplashModel" "s" "[I"] : List Cond) ++ ((wsX120) ++ ([])))
theorem gd_m_drainTold0 : vs_m_drainTold0.all goodWord = true := gd_C (by decide +kernel) (gd_A (by decide +kernel) (gd_A (by decide +kernel) rfl))
set_option maxHeartbeats 4000000 in
set_option maxRecDepth 100000 in
theorem m_drainTold0 (l : Launch) (hl : l.stackTraces = false) (D : va_G) (cy : Nat → ClassId) (sa : Nat → Nat) (mm m1 m9 m10 m11 m12 m13 m14 m15 m19 m20 m21 m23 m24 m25 m26 m27 m28 m33 m35 : Nat) (th tp sz_ ap bad bk opn fp im nr nl sp_ wtc wcl ir ip shu sfa swr : Int) (f10 f12 : Nat → Int32) (n : Int) (pm : Int) (sz : Nat) (hr_th : (-2147483648) ≤ th ∧ th ≤ 2147483647) (hr_tp : 0 ≤ tp ∧ tp ≤ 600) (hr_sz_ : 0 ≤ sz_ ∧ sz_ ≤ 600) (hr_ap : 0 ≤ ap ∧ ap ≤ 602) (hr_bad : (-1) ≤ bad ∧ bad ≤ 602) (hr_bk : 0 ≤ bk ∧ bk ≤ 4) (hr_opn : 0 ≤ opn ∧ opn ≤ 7) (hr_fp : (-2147483648) ≤ fp ∧ fp ≤ 2147483647) (hr_im : 0 ≤ im ∧ im ≤ 3) (hr_nr : 0 ≤ nr ∧ nr ≤ 4) (hr_nl : 0 ≤ nl ∧ nl ≤ 4) (hr_sp_ : 0 ≤ sp_ ∧ sp_ ≤ 602) (hr_wtc : (-2147483648) ≤ wtc ∧ wtc ≤ 2147483647) (hr_wcl : 0 ≤ wcl ∧ wcl ≤ 95) (hr_ir : 0 ≤ ir ∧ ir ≤ 5) (hr_ip : (-2147483648) ≤ ip ∧ ip ≤ 2147483647) (hr_shu : (-2147483648) ≤ shu ∧ shu ≤ 2147483647) (hr_sfa : (-2147483648) ≤ sfa ∧ sfa ≤ 2147483647) (hr_swr : (-2147483648) ≤ swr ∧ swr ≤ 2147483647) (hr_n : 0 ≤ n ∧ n ≤ 13) (hr_pm : 8 ≤ pm ∧ pm ≤ 9) (hp0 : n < nz f10 2 + nz f12 206) (hf10 : BI f10) (hf12 : SI pm f12) : mI9 l yX12_drainTold vs_m_drainTold0 ({ frames := 0, cells := 0, slots := 0, locals := 0 }) D cy sa sz [vR mm, vI n, vI 0] [zO mm 12 [vI th, vR m1, vI tp, vI sz_, vI ap, vI bad, vI bk, vI opn, vI fp, vR m9, vR m10, vR m11, vR m12, vR m13, vR m14, vR m15, vI im, vI nr, vI nl, vR m19, vR m20, vR m21, vI sp_, vR m23, vR m24, vR m25, vR m26, vR m27, vR m28, vI wtc, vI wcl, vI ir, vI ip, vR m33, vI shu, vR m35, vI sfa, vI swr], zI m10 (cy 0) 68 f10, zI m12 (cy 0) 389 f12] (fun (r : Int32) (u : SV) => r = iI (u.2.1 0) ∧ (0 ≤ u.2.1 0 ∧ u.2.1 0 ≤ 15) ∧ BI f10 ∧ SI pm f12) (fun u : SV => [zO mm 12 [vI th, vR m1, vI tp, vI sz_, vI ap, vI bad, vI bk, vI opn, vI fp, vR m9, vR m10, vR m11, vR m12, vR m13, vR m14, vR m15, vI im, vI nr, vI nl, vR m19, vR m20, vR m21, vI sp_, vR m23, vR m24, vR m25, vR m26, vR m27, vR m28, vI wtc, vI wcl, vI ir, vI ip, vR m33, vI shu, vR m35, vI sfa, vI swr], zI m10 (cy 0) 68 f10, zI m12 (cy 0) 389 f12]) 0 0 := by
  refine Met.ofW (cc := cX12_drainTold) (maxL := 3) (ret := (some .int)) (by decide) rfl ?_
  intro p e s m args below meth c s₁ B hml hv
  obtain ⟨rfl, hsz, hP, hG, hD0, hT⟩ := hv
  have hx := B.exec
  have hb := B.bytes
  have hr := B.returns
  have hts := atoms_spec (ws := vs_m_drainTold0) B.pre
  have hown : s.vm.findClass RX12 = some m.cls := findClass_of_methodNamed B.named
  have hlocks := B.notSynchronized
  subst hsz
  have hD := hD0.self (sz := s.heap.size)
  generalize hAe : va_A [zO mm 12 [vI th, vR m1, vI tp, vI sz_, vI ap, vI bad, vI bk, vI opn, vI fp, vR m9, vR m10, vR m11, vR m12, vR m13, vR m14, vR m15, vI im, vI nr, vI nl, vR m19, vR m20, vR m21, vI sp_, vR m23, vR m24, vR m25, vR m26, vR m27, vR m28, vI wtc, vI wcl, vI ir, vI ip, vR m33, vI shu, vR m35, vI sfa, vI swr], zI m10 (cy 0) 68 f10, zI m12 (cy 0) 389 f12] s.heap.size = A at hD hT ⊢
  have hA : ∀ q : Nat, s.heap.size ≤ q → A q := fun q h => by rw [← hAe]; exact Or.inr h
  have hS : va_S A s.heap s.heap [] := va_S.rf
  have hl0 := lv_entry ([vR mm, vI n, vI 0]) (n := 3) (Nat.le_of_ble_eq_true rfl)
  rw [lg_entry_eq]
  generalize (lg_sl ([vR mm, vI n, vI 0]) ++ List.replicate (3 - (lg_sl ([vR mm, vI n, vI 0])).length) Slot.unset).toArray = ls at hl0 ⊢
  have hlv : lv_has ls 3 [(0, vR mm), (1, vI n), (2, vI 0)] := hl0
  have lf23 := hts (.fieldLink RX12 23 "KerbSplashModel" "b" "[I") (List.mem_of_getElem? (i := 1) rfl)
  have hi12 : ∀ w ∈ wsX120, w ∈ vs_m_drainTold0 := fun w h => List.mem_cons_of_mem _ (List.mem_append_right _ (List.mem_append_left _ h))
  have lf29 := hts (.fieldLink RX12 29 "KerbSplashModel" "s" "[I") (List.mem_of_getElem? (i := 2) rfl)
  refine lv_iload_n hx hb dX12_drainTold_0 rfl (lv_at hlv 1 rfl) ?_
  refine lv_aload_n hx hb dX12_drainTold_1 rfl (lv_at hlv 0 rfl) ?_
  refine va_get (D := D) (ci := 12) (v := vR m10) (C := RX12) (T := TX12) (N := 38) hx hb hts hi12 hown hG.1 hP 0 rfl rfl 10 (by decide) lf23 (fun _ h9 => h9) rfl dX12_drainTold_2 ?_
  refine lv_iconst (v := iI 2) hx hb dX12_drainTold_5 (by decide) ?_
  refine va_iald hx hb hG.1 hP 1 0 rfl rfl (iI_in (by omega) (by decide)) dX12_drainTold_6 ?_
  refine lt_nz (i := 2) (by omega) (fun z_1 hz_1 lz_1 uz_1 => ?_)
  have hz_1 : z_1 = nz f10 2 := hz_1
  have hbz_1_7 := hf10.1.2.2.1
  refine ir_ge (tgt := 26) hx hb dX12_drainTold_7 (by decide) (by first | exact rgw hr_n (by decide) (by decide) | omega) (by omega) (fun c_2 => ?_) (fun c_2 => ?_)
  · have hd8 : nz f12 206 ≤ 8 := Int.le_trans hf12.1.2 (dcn_r f12).2
    refine lv_aload_n hx hb dX12_drainTold_26 rfl (lv_at hlv 0 rfl) ?_
    refine va_get (D := D) (ci := 12) (v := vR m10) (C := RX12) (T := TX12) (N := 38) hx hb hts hi12 hown hG.1 hP 0 rfl rfl 10 (by decide) lf23 (fun _ h9 => h9) rfl dX12_drainTold_27 ?_
    refine lv_bipush (v := iI 28) hx hb dX12_drainTold_30 (by decide) ?_
    refine lv_iconst (v := iI 5) hx hb dX12_drainTold_32 (by decide) ?_
    refine lv_aload_n hx hb dX12_drainTold_33 rfl (lv_at hlv 0 rfl) ?_
    refine va_get (D := D) (ci := 12) (v := vR m12) (C := RX12) (T := TX12) (N := 38) hx hb hts hi12 hown hG.1 hP 0 rfl rfl 12 (by decide) lf29 (fun _ h9 => h9) rfl dX12_drainTold_34 ?_
    refine lv_sipush (v := iI 207) hx hb dX12_drainTold_37 (by decide) ?_
    refine lv_iload_n hx hb dX12_drainTold_40 rfl (lv_at hlv 1 rfl) ?_
    refine lv_iadd hx hb dX12_drainTold_41 ?_
    refine lt_e (e0 := 207 + n) (Int32.ofInt_add _ _).symm (fun z_3 hz_3 => ?_)
    refine lv_aload_n hx hb dX12_drainTold_42 rfl (lv_at hlv 0 rfl) ?_
    refine va_get (D := D) (ci := 12) (v := vR m10) (C := RX12) (T := TX12) (N := 38) hx hb hts hi12 hown hG.1 hP 0 rfl rfl 10 (by decide) lf23 (fun _ h9 => h9) rfl dX12_drainTold_43 ?_
    refine lv_iconst (v := iI 2) hx hb dX12_drainTold_46 (by decide) ?_
    refine va_iald hx hb hG.1 hP 1 0 rfl rfl (iI_in (by omega) (by decide)) dX12_drainTold_47 ?_
    refine lt_nz (i := 2) (by omega) (fun z_4 hz_4 lz_4 uz_4 => ?_)
    have hz_4 : z_4 = nz f10 2 := hz_4
    have hbz_4_17 := hf10.1.2.2.1
    refine lv_isub hx hb dX12_drainTold_48 ?_
    refine lt_e (e0 := z_3 - z_4) (Int32.ofInt_sub _ _).symm (fun z_5 hz_5 => ?_)
    refine va_iald hx hb hG.1 hP 2 0 rfl rfl (iI_in (by omega) (by decide)) dX12_drainTold_49 ?_
    refine lt_nz (i := z_5) (by omega) (fun z_6 hz_6 lz_6 uz_6 => ?_)
    have hbz_6_22 := hf12.2.1 (z_5.toNat - 207) (by omega)
    rw [show 207 + (z_5.toNat - 207) = z_5.toNat by omega] at hbz_6_22
    refine lv_imul hx hb dX12_drainTold_50 ?_
    refine lt_e (e0 := 5 * z_6) (Int32.ofInt_mul _ _).symm (fun z_7 hz_7 => ?_)
    refine lv_iadd hx hb dX12_drainTold_51 ?_
    refine lt_e (e0 := 28 + z_7) (Int32.ofInt_add _ _).symm (fun z_8 hz_8 => ?_)
    refine lv_iconst (v := iI 1) hx hb dX12_drainTold_52 (by decide) ?_
    refine lv_iadd hx hb dX12_drainTold_53 ?_
    refine lt_e (e0 := z_8 + 1) (Int32.ofInt_add _ _).symm (fun z_9 hz_9 => ?_)
    refine lv_iload_n hx hb dX12_drainTold_54 rfl (lv_at hlv 2 rfl) ?_
    refine lv_iadd hx hb dX12_drainTold_55 ?_
    refine lt_i (y := iI z_9) (by rw [show iI z_9 + iI 0 = iI (z_9 + 0) from (Int32.ofInt_add _ _).symm, Int.add_zero]) ?_
    refine va_iald hx hb hG.1 hP 1 0 rfl rfl (iI_in (by omega) (by decide)) dX12_drainTold_56 ?_
    refine lt_nz (i := z_9) (by omega) (fun z_10 hz_10 lz_10 uz_10 => ?_)
    have hbz_10_36 := (hf10.1.2.2.2.2.2.2.2 z_6.toNat (by omega)).1
    rw [show 29 + 5 * z_6.toNat = z_9.toNat by omega] at hbz_10_36
    have hbz_10_38 := (hf10.1.2.2.2.2.2.2.2 z_6.toNat (by omega)).2.2
    refine W.widen (k := 0) (n := 0) (Nat.le_of_ble_eq_true rfl) (Nat.le_of_ble_eq_true rfl) ?_
    exact W.iret (v := iI z_10) hx hb hr (fun t ht hW => ⟨⟨iI z_10, ((fun k => ([] : List Nat).getD k 0), (fun k => ([z_10] : List Int).getD k 0), (fun k => ([] : List (Nat → Int32)).getD k (fun _ => 0))), rfl, ⟨rfl, (by show (0 ≤ z_10 ∧ z_10 ≤ 15); omega), hf10, hf12⟩, at9 ht hP hD [0, 1, 2] (by decide +kernel) rfl⟩, hS.F ht⟩) hS.2.2 dX12_drainTold_57
  · refine lv_aload_n hx hb dX12_drainTold_10 rfl (lv_at hlv 0 rfl) ?_
    refine va_get (D := D) (ci := 12) (v := vR m10) (C := RX12) (T := TX12) (N := 38) hx hb hts hi12 hown hG.1 hP 0 rfl rfl 10 (by decide) lf23 (fun _ h9 => h9) rfl dX12_drainTold_11 ?_
    refine lv_bipush (v := iI 6) hx hb dX12_drainTold_14 (by decide) ?_
    refine lv_iconst (v := iI 3) hx hb dX12_drainTold_16 (by decide) ?_
    refine lv_iload_n hx hb dX12_drainTold_17 rfl (lv_at hlv 1 rfl) ?_
    refine lv_imul hx hb dX12_drainTold_18 ?_
    refine lt_e (e0 := 3 * n) (Int32.ofInt_mul _ _).symm (fun z_11 hz_11 => ?_)
    refine lv_iadd hx hb dX12_drainTold_19 ?_
    refine lt_e (e0 := 6 + z_11) (Int32.ofInt_add _ _).symm (fun z_12 hz_12 => ?_)
    refine lv_iload_n hx hb dX12_drainTold_20 rfl (lv_at hlv 2 rfl) ?_
    refine lv_iadd hx hb dX12_drainTold_21 ?_
    refine lt_i (y := iI z_12) (by rw [show iI z_12 + iI 0 = iI (z_12 + 0) from (Int32.ofInt_add _ _).symm, Int.add_zero]) ?_
    refine va_iald hx hb hG.1 hP 1 0 rfl rfl (iI_in (by omega) (by decide)) dX12_drainTold_22 ?_
    refine lt_nz (i := z_12) (by omega) (fun z_13 hz_13 lz_13 uz_13 => ?_)
    have hbz_13_14 := (hf10.1.2.2.2.2.2.2.1 n.toNat (by omega)).1
    rw [show 6 + 3 * n.toNat = z_12.toNat by omega] at hbz_13_14
    refine lv_goto (tgt := 57) hx hb dX12_drainTold_23 (by decide) ?_
    refine W.widen (k := 0) (n := 0) (Nat.le_of_ble_eq_true rfl) (Nat.le_of_ble_eq_true rfl) ?_
    exact W.iret (v := iI z_13) hx hb hr (fun t ht hW => ⟨⟨iI z_13, ((fun k => ([] : List Nat).getD k 0), (fun k => ([z_13] : List Int).getD k 0), (fun k => ([] : List (Nat → Int32)).getD k (fun _ => 0))), rfl, ⟨rfl, (by show (0 ≤ z_13 ∧ z_13 ≤ 15); omega), hf10, hf12⟩, at9 ht hP hD [0, 1, 2] (by decide +kernel) rfl⟩, hS.F ht⟩) hS.2.2 dX12_drainTold_57
def vs_m_drainTold1 : List Cond := .code yX12_drainTold cX12_drainTold 3 (some .int) :: (([.fieldLink RX12 23 "KerbSplashModel" "b" "[I", .fieldLink RX12 29 "KerbSplashModel" "s" "[I"] : List Cond) ++ ((wsX120) ++ ([])))
theorem gd_m_drainTold1 : vs_m_drainTold1.all goodWord = true := gd_C (by decide +kernel) (gd_A (by decide +kernel) (gd_A (by decide +kernel) rfl))
set_option maxHeartbeats 4000000 in
set_option maxRecDepth 100000 in
theorem m_drainTold1 (l : Launch) (hl : l.stackTraces = false) (D : va_G) (cy : Nat → ClassId) (sa : Nat → Nat) (mm m1 m9 m10 m11 m12 m13 m14 m15 m19 m20 m21 m23 m24 m25 m26 m27 m28 m33 m35 : Nat) (th tp sz_ ap bad bk opn fp im nr nl sp_ wtc wcl ir ip shu sfa swr : Int) (f10 f12 : Nat → Int32) (n : Int) (pm : Int) (sz : Nat) (hr_th : (-2147483648) ≤ th ∧ th ≤ 2147483647) (hr_tp : 0 ≤ tp ∧ tp ≤ 600) (hr_sz_ : 0 ≤ sz_ ∧ sz_ ≤ 600) (hr_ap : 0 ≤ ap ∧ ap ≤ 602) (hr_bad : (-1) ≤ bad ∧ bad ≤ 602) (hr_bk : 0 ≤ bk ∧ bk ≤ 4) (hr_opn : 0 ≤ opn ∧ opn ≤ 7) (hr_fp : (-2147483648) ≤ fp ∧ fp ≤ 2147483647) (hr_im : 0 ≤ im ∧ im ≤ 3) (hr_nr : 0 ≤ nr ∧ nr ≤ 4) (hr_nl : 0 ≤ nl ∧ nl ≤ 4) (hr_sp_ : 0 ≤ sp_ ∧ sp_ ≤ 602) (hr_wtc : (-2147483648) ≤ wtc ∧ wtc ≤ 2147483647) (hr_wcl : 0 ≤ wcl ∧ wcl ≤ 95) (hr_ir : 0 ≤ ir ∧ ir ≤ 5) (hr_ip : (-2147483648) ≤ ip ∧ ip ≤ 2147483647) (hr_shu : (-2147483648) ≤ shu ∧ shu ≤ 2147483647) (hr_sfa : (-2147483648) ≤ sfa ∧ sfa ≤ 2147483647) (hr_swr : (-2147483648) ≤ swr ∧ swr ≤ 2147483647) (hr_n : 0 ≤ n ∧ n ≤ 13) (hr_pm : 8 ≤ pm ∧ pm ≤ 9) (hp0 : n < nz f10 2 + nz f12 206) (hf10 : BI f10) (hf12 : SI pm f12) : mI9 l yX12_drainTold vs_m_drainTold1 ({ frames := 0, cells := 0, slots := 0, locals := 0 }) D cy sa sz [vR mm, vI n, vI 1] [zO mm 12 [vI th, vR m1, vI tp, vI sz_, vI ap, vI bad, vI bk, vI opn, vI fp, vR m9, vR m10, vR m11, vR m12, vR m13, vR m14, vR m15, vI im, vI nr, vI nl, vR m19, vR m20, vR m21, vI sp_, vR m23, vR m24, vR m25, vR m26, vR m27, vR m28, vI wtc, vI wcl, vI ir, vI ip, vR m33, vI shu, vR m35, vI sfa, vI swr], zI m10 (cy 0) 68 f10, zI m12 (cy 0) 389 f12] (fun (r : Int32) (u : SV) => r = iI (u.2.1 0) ∧ (0 ≤ u.2.1 0 ∧ u.2.1 0 ≤ 5) ∧ BI f10 ∧ SI pm f12) (fun u : SV => [zO mm 12 [vI th, vR m1, vI tp, vI sz_, vI ap, vI bad, vI bk, vI opn, vI fp, vR m9, vR m10, vR m11, vR m12, vR m13, vR m14, vR m15, vI im, vI nr, vI nl, vR m19, vR m20, vR m21, vI sp_, vR m23, vR m24, vR m25, vR m26, vR m27, vR m28, vI wtc, vI wcl, vI ir, vI ip, vR m33, vI shu, vR m35, vI sfa, vI swr], zI m10 (cy 0) 68 f10, zI m12 (cy 0) 389 f12]) 0 0 := by
  refine Met.ofW (cc := cX12_drainTold) (maxL := 3) (ret := (some .int)) (by decide) rfl ?_
  intro p e s m args below meth c s₁ B hml hv
  obtain ⟨rfl, hsz, hP, hG, hD0, hT⟩ := hv
  have hx := B.exec
  have hb := B.bytes
  have hr := B.returns
  have hts := atoms_spec (ws := vs_m_drainTold1) B.pre
  have hown : s.vm.findClass RX12 = some m.cls := findClass_of_methodNamed B.named
  have hlocks := B.notSynchronized
  subst hsz
  have hD := hD0.self (sz := s.heap.size)
  generalize hAe : va_A [zO mm 12 [vI th, vR m1, vI tp, vI sz_, vI ap, vI bad, vI bk, vI opn, vI fp, vR m9, vR m10, vR m11, vR m12, vR m13, vR m14, vR m15, vI im, vI nr, vI nl, vR m19, vR m20, vR m21, vI sp_, vR m23, vR m24, vR m25, vR m26, vR m27, vR m28, vI wtc, vI wcl, vI ir, vI ip, vR m33, vI shu, vR m35, vI sfa, vI swr], zI m10 (cy 0) 68 f10, zI m12 (cy 0) 389 f12] s.heap.size = A at hD hT ⊢
  have hA : ∀ q : Nat, s.heap.size ≤ q → A q := fun q h => by rw [← hAe]; exact Or.inr h
  have hS : va_S A s.heap s.heap [] := va_S.rf
  have hl0 := lv_entry ([vR mm, vI n, vI 1]) (n := 3) (Nat.le_of_ble_eq_true rfl)
  rw [lg_entry_eq]
  generalize (lg_sl ([vR mm, vI n, vI 1]) ++ List.replicate (3 - (lg_sl ([vR mm, vI n, vI 1])).length) Slot.unset).toArray = ls at hl0 ⊢
  have hlv : lv_has ls 3 [(0, vR mm), (1, vI n), (2, vI 1)] := hl0
  have lf23 := hts (.fieldLink RX12 23 "KerbSplashModel" "b" "[I") (List.mem_of_getElem? (i := 1) rfl)
  have hi12 : ∀ w ∈ wsX120, w ∈ vs_m_drainTold1 := fun w h => List.mem_cons_of_mem _ (List.mem_append_right _ (List.mem_append_left _ h))
  have lf29 := hts (.fieldLink RX12 29 "KerbSplashModel" "s" "[I") (List.mem_of_getElem? (i := 2) rfl)
  refine lv_iload_n hx hb dX12_drainTold_0 rfl (lv_at hlv 1 rfl) ?_
  refine lv_aload_n hx hb dX12_drainTold_1 rfl (lv_at hlv 0 rfl) ?_
  refine va_get (D := D) (ci := 12) (v := vR m10) (C := RX12) (T := TX12) (N := 38) hx hb hts hi12 hown hG.1 hP 0 rfl rfl 10 (by decide) lf23 (fun _ h9 => h9) rfl dX12_drainTold_2 ?_
  refine lv_iconst (v := iI 2) hx hb dX12_drainTold_5 (by decide) ?_
  refine va_iald hx hb hG.1 hP 1 0 rfl rfl (iI_in (by omega) (by decide)) dX12_drainTold_6 ?_
  refine lt_nz (i := 2) (by omega) (fun z_1 hz_1 lz_1 uz_1 => ?_)
  have hz_1 : z_1 = nz f10 2 := hz_1
  have hbz_1_7 := hf10.1.2.2.1
  refine ir_ge (tgt := 26) hx hb dX12_drainTold_7 (by decide) (by first | exact rgw hr_n (by decide) (by decide) | omega) (by omega) (fun c_2 => ?_) (fun c_2 => ?_)
  · have hd8 : nz f12 206 ≤ 8 := Int.le_trans hf12.1.2 (dcn_r f12).2
    refine lv_aload_n hx hb dX12_drainTold_26 rfl (lv_at hlv 0 rfl) ?_
    refine va_get (D := D) (ci := 12) (v := vR m10) (C := RX12) (T := TX12) (N := 38) hx hb hts hi12 hown hG.1 hP 0 rfl rfl 10 (by decide) lf23 (fun _ h9 => h9) rfl dX12_drainTold_27 ?_
    refine lv_bipush (v := iI 28) hx hb dX12_drainTold_30 (by decide) ?_
    refine lv_iconst (v := iI 5) hx hb dX12_drainTold_32 (by decide) ?_
    refine lv_aload_n hx hb dX12_drainTold_33 rfl (lv_at hlv 0 rfl) ?_
    refine va_get (D := D) (ci := 12) (v := vR m12) (C := RX12) (T := TX12) (N := 38) hx hb hts hi12 hown hG.1 hP 0 rfl rfl 12 (by decide) lf29 (fun _ h9 => h9) rfl dX12_drainTold_34 ?_
    refine lv_sipush (v := iI 207) hx hb dX12_drainTold_37 (by decide) ?_
    refine lv_iload_n hx hb dX12_drainTold_40 rfl (lv_at hlv 1 rfl) ?_
    refine lv_iadd hx hb dX12_drainTold_41 ?_
    refine lt_e (e0 := 207 + n) (Int32.ofInt_add _ _).symm (fun z_3 hz_3 => ?_)
    refine lv_aload_n hx hb dX12_drainTold_42 rfl (lv_at hlv 0 rfl) ?_
    refine va_get (D := D) (ci := 12) (v := vR m10) (C := RX12) (T := TX12) (N := 38) hx hb hts hi12 hown hG.1 hP 0 rfl rfl 10 (by decide) lf23 (fun _ h9 => h9) rfl dX12_drainTold_43 ?_
    refine lv_iconst (v := iI 2) hx hb dX12_drainTold_46 (by decide) ?_
    refine va_iald hx hb hG.1 hP 1 0 rfl rfl (iI_in (by omega) (by decide)) dX12_drainTold_47 ?_
    refine lt_nz (i := 2) (by omega) (fun z_4 hz_4 lz_4 uz_4 => ?_)
    have hz_4 : z_4 = nz f10 2 := hz_4
    have hbz_4_17 := hf10.1.2.2.1
    refine lv_isub hx hb dX12_drainTold_48 ?_
    refine lt_e (e0 := z_3 - z_4) (Int32.ofInt_sub _ _).symm (fun z_5 hz_5 => ?_)
    refine va_iald hx hb hG.1 hP 2 0 rfl rfl (iI_in (by omega) (by decide)) dX12_drainTold_49 ?_
    refine lt_nz (i := z_5) (by omega) (fun z_6 hz_6 lz_6 uz_6 => ?_)
    have hbz_6_22 := hf12.2.1 (z_5.toNat - 207) (by omega)
    rw [show 207 + (z_5.toNat - 207) = z_5.toNat by omega] at hbz_6_22
    refine lv_imul hx hb dX12_drainTold_50 ?_
    refine lt_e (e0 := 5 * z_6) (Int32.ofInt_mul _ _).symm (fun z_7 hz_7 => ?_)
    refine lv_iadd hx hb dX12_drainTold_51 ?_
    refine lt_e (e0 := 28 + z_7) (Int32.ofInt_add _ _).symm (fun z_8 hz_8 => ?_)
    refine lv_iconst (v := iI 1) hx hb dX12_drainTold_52 (by decide) ?_
    refine lv_iadd hx hb dX12_drainTold_53 ?_
    refine lt_e (e0 := z_8 + 1) (Int32.ofInt_add _ _).symm (fun z_9 hz_9 => ?_)
    refine lv_iload_n hx hb dX12_drainTold_54 rfl (lv_at hlv 2 rfl) ?_
    refine lv_iadd hx hb dX12_drainTold_55 ?_
    refine lt_e (e0 := z_9 + 1) (Int32.ofInt_add _ _).symm (fun z_10 hz_10 => ?_)
    refine va_iald hx hb hG.1 hP 1 0 rfl rfl (iI_in (by omega) (by decide)) dX12_drainTold_56 ?_
    refine lt_nz (i := z_10) (by omega) (fun z_11 hz_11 lz_11 uz_11 => ?_)
    have hbz_11_36 := (hf10.1.2.2.2.2.2.2.2 z_6.toNat (by omega)).2.1
    rw [show 30 + 5 * z_6.toNat = z_10.toNat by omega] at hbz_11_36
    refine W.widen (k := 0) (n := 0) (Nat.le_of_ble_eq_true rfl) (Nat.le_of_ble_eq_true rfl) ?_
    exact W.iret (v := iI z_11) hx hb hr (fun t ht hW => ⟨⟨iI z_11, ((fun k => ([] : List Nat).getD k 0), (fun k => ([z_11] : List Int).getD k 0), (fun k => ([] : List (Nat → Int32)).getD k (fun _ => 0))), rfl, ⟨rfl, (by show (0 ≤ z_11 ∧ z_11 ≤ 5); omega), hf10, hf12⟩, at9 ht hP hD [0, 1, 2] (by decide +kernel) rfl⟩, hS.F ht⟩) hS.2.2 dX12_drainTold_57
  · refine lv_aload_n hx hb dX12_drainTold_10 rfl (lv_at hlv 0 rfl) ?_
    refine va_get (D := D) (ci := 12) (v := vR m10) (C := RX12) (T := TX12) (N := 38) hx hb hts hi12 hown hG.1 hP 0 rfl rfl 10 (by decide) lf23 (fun _ h9 => h9) rfl dX12_drainTold_11 ?_
    refine lv_bipush (v := iI 6) hx hb dX12_drainTold_14 (by decide) ?_
    refine lv_iconst (v := iI 3) hx hb dX12_drainTold_16 (by decide) ?_
    refine lv_iload_n hx hb dX12_drainTold_17 rfl (lv_at hlv 1 rfl) ?_
    refine lv_imul hx hb dX12_drainTold_18 ?_
    refine lt_e (e0 := 3 * n) (Int32.ofInt_mul _ _).symm (fun z_12 hz_12 => ?_)
    refine lv_iadd hx hb dX12_drainTold_19 ?_
    refine lt_e (e0 := 6 + z_12) (Int32.ofInt_add _ _).symm (fun z_13 hz_13 => ?_)
    refine lv_iload_n hx hb dX12_drainTold_20 rfl (lv_at hlv 2 rfl) ?_
    refine lv_iadd hx hb dX12_drainTold_21 ?_
    refine lt_e (e0 := z_13 + 1) (Int32.ofInt_add _ _).symm (fun z_14 hz_14 => ?_)
    refine va_iald hx hb hG.1 hP 1 0 rfl rfl (iI_in (by omega) (by decide)) dX12_drainTold_22 ?_
    refine lt_nz (i := z_14) (by omega) (fun z_15 hz_15 lz_15 uz_15 => ?_)
    have hbz_15_14 := (hf10.1.2.2.2.2.2.2.1 n.toNat (by omega)).2
    rw [show 7 + 3 * n.toNat = z_14.toNat by omega] at hbz_15_14
    refine lv_goto (tgt := 57) hx hb dX12_drainTold_23 (by decide) ?_
    refine W.widen (k := 0) (n := 0) (Nat.le_of_ble_eq_true rfl) (Nat.le_of_ble_eq_true rfl) ?_
    exact W.iret (v := iI z_15) hx hb hr (fun t ht hW => ⟨⟨iI z_15, ((fun k => ([] : List Nat).getD k 0), (fun k => ([z_15] : List Int).getD k 0), (fun k => ([] : List (Nat → Int32)).getD k (fun _ => 0))), rfl, ⟨rfl, (by show (0 ≤ z_15 ∧ z_15 ≤ 5); omega), hf10, hf12⟩, at9 ht hP hD [0, 1, 2] (by decide +kernel) rfl⟩, hS.F ht⟩) hS.2.2 dX12_drainTold_57
def vs_m_drainTold2 : List Cond := .code yX12_drainTold cX12_drainTold 3 (some .int) :: (([.fieldLink RX12 23 "KerbSplashModel" "b" "[I", .fieldLink RX12 29 "KerbSplashModel" "s" "[I"] : List Cond) ++ ((wsX120) ++ ([])))
theorem gd_m_drainTold2 : vs_m_drainTold2.all goodWord = true := gd_C (by decide +kernel) (gd_A (by decide +kernel) (gd_A (by decide +kernel) rfl))
set_option maxHeartbeats 4000000 in
set_option maxRecDepth 100000 in
theorem m_drainTold2 (l : Launch) (hl : l.stackTraces = false) (D : va_G) (cy : Nat → ClassId) (sa : Nat → Nat) (mm m1 m9 m10 m11 m12 m13 m14 m15 m19 m20 m21 m23 m24 m25 m26 m27 m28 m33 m35 : Nat) (th tp sz_ ap bad bk opn fp im nr nl sp_ wtc wcl ir ip shu sfa swr : Int) (f10 f12 : Nat → Int32) (n : Int) (pm : Int) (sz : Nat) (hr_th : (-2147483648) ≤ th ∧ th ≤ 2147483647) (hr_tp : 0 ≤ tp ∧ tp ≤ 600) (hr_sz_ : 0 ≤ sz_ ∧ sz_ ≤ 600) (hr_ap : 0 ≤ ap ∧ ap ≤ 602) (hr_bad : (-1) ≤ bad ∧ bad ≤ 602) (hr_bk : 0 ≤ bk ∧ bk ≤ 4) (hr_opn : 0 ≤ opn ∧ opn ≤ 7) (hr_fp : (-2147483648) ≤ fp ∧ fp ≤ 2147483647) (hr_im : 0 ≤ im ∧ im ≤ 3) (hr_nr : 0 ≤ nr ∧ nr ≤ 4) (hr_nl : 0 ≤ nl ∧ nl ≤ 4) (hr_sp_ : 0 ≤ sp_ ∧ sp_ ≤ 602) (hr_wtc : (-2147483648) ≤ wtc ∧ wtc ≤ 2147483647) (hr_wcl : 0 ≤ wcl ∧ wcl ≤ 95) (hr_ir : 0 ≤ ir ∧ ir ≤ 5) (hr_ip : (-2147483648) ≤ ip ∧ ip ≤ 2147483647) (hr_shu : (-2147483648) ≤ shu ∧ shu ≤ 2147483647) (hr_sfa : (-2147483648) ≤ sfa ∧ sfa ≤ 2147483647) (hr_swr : (-2147483648) ≤ swr ∧ swr ≤ 2147483647) (hr_n : 0 ≤ n ∧ n ≤ 13) (hr_pm : 8 ≤ pm ∧ pm ≤ 9) (hp0 : n < nz f10 2 + nz f12 206) (hf10 : BI f10) (hf12 : SI pm f12) : mI9 l yX12_drainTold vs_m_drainTold2 ({ frames := 0, cells := 0, slots := 0, locals := 0 }) D cy sa sz [vR mm, vI n, vI 2] [zO mm 12 [vI th, vR m1, vI tp, vI sz_, vI ap, vI bad, vI bk, vI opn, vI fp, vR m9, vR m10, vR m11, vR m12, vR m13, vR m14, vR m15, vI im, vI nr, vI nl, vR m19, vR m20, vR m21, vI sp_, vR m23, vR m24, vR m25, vR m26, vR m27, vR m28, vI wtc, vI wcl, vI ir, vI ip, vR m33, vI shu, vR m35, vI sfa, vI swr], zI m10 (cy 0) 68 f10, zI m12 (cy 0) 389 f12] (fun (r : Int32) (u : SV) => r = iI (u.2.1 0) ∧ ((-2147483648) ≤ u.2.1 0 ∧ u.2.1 0 ≤ 2147483647) ∧ BI f10 ∧ SI pm f12) (fun u : SV => [zO mm 12 [vI th, vR m1, vI tp, vI sz_, vI ap, vI bad, vI bk, vI opn, vI fp, vR m9, vR m10, vR m11, vR m12, vR m13, vR m14, vR m15, vI im, vI nr, vI nl, vR m19, vR m20, vR m21, vI sp_, vR m23, vR m24, vR m25, vR m26, vR m27, vR m28, vI wtc, vI wcl, vI ir, vI ip, vR m33, vI shu, vR m35, vI sfa, vI swr], zI m10 (cy 0) 68 f10, zI m12 (cy 0) 389 f12]) 0 0 := by
  refine Met.ofW (cc := cX12_drainTold) (maxL := 3) (ret := (some .int)) (by decide) rfl ?_
  intro p e s m args below meth c s₁ B hml hv
  obtain ⟨rfl, hsz, hP, hG, hD0, hT⟩ := hv
  have hx := B.exec
  have hb := B.bytes
  have hr := B.returns
  have hts := atoms_spec (ws := vs_m_drainTold2) B.pre
  have hown : s.vm.findClass RX12 = some m.cls := findClass_of_methodNamed B.named
  have hlocks := B.notSynchronized
  subst hsz
  have hD := hD0.self (sz := s.heap.size)
  generalize hAe : va_A [zO mm 12 [vI th, vR m1, vI tp, vI sz_, vI ap, vI bad, vI bk, vI opn, vI fp, vR m9, vR m10, vR m11, vR m12, vR m13, vR m14, vR m15, vI im, vI nr, vI nl, vR m19, vR m20, vR m21, vI sp_, vR m23, vR m24, vR m25, vR m26, vR m27, vR m28, vI wtc, vI wcl, vI ir, vI ip, vR m33, vI shu, vR m35, vI sfa, vI swr], zI m10 (cy 0) 68 f10, zI m12 (cy 0) 389 f12] s.heap.size = A at hD hT ⊢
  have hA : ∀ q : Nat, s.heap.size ≤ q → A q := fun q h => by rw [← hAe]; exact Or.inr h
  have hS : va_S A s.heap s.heap [] := va_S.rf
  have hl0 := lv_entry ([vR mm, vI n, vI 2]) (n := 3) (Nat.le_of_ble_eq_true rfl)
  rw [lg_entry_eq]
  generalize (lg_sl ([vR mm, vI n, vI 2]) ++ List.replicate (3 - (lg_sl ([vR mm, vI n, vI 2])).length) Slot.unset).toArray = ls at hl0 ⊢
  have hlv : lv_has ls 3 [(0, vR mm), (1, vI n), (2, vI 2)] := hl0
  have lf23 := hts (.fieldLink RX12 23 "KerbSplashModel" "b" "[I") (List.mem_of_getElem? (i := 1) rfl)
  have hi12 : ∀ w ∈ wsX120, w ∈ vs_m_drainTold2 := fun w h => List.mem_cons_of_mem _ (List.mem_append_right _ (List.mem_append_left _ h))
  have lf29 := hts (.fieldLink RX12 29 "KerbSplashModel" "s" "[I") (List.mem_of_getElem? (i := 2) rfl)
  refine lv_iload_n hx hb dX12_drainTold_0 rfl (lv_at hlv 1 rfl) ?_
  refine lv_aload_n hx hb dX12_drainTold_1 rfl (lv_at hlv 0 rfl) ?_
  refine va_get (D := D) (ci := 12) (v := vR m10) (C := RX12) (T := TX12) (N := 38) hx hb hts hi12 hown hG.1 hP 0 rfl rfl 10 (by decide) lf23 (fun _ h9 => h9) rfl dX12_drainTold_2 ?_
  refine lv_iconst (v := iI 2) hx hb dX12_drainTold_5 (by decide) ?_
  refine va_iald hx hb hG.1 hP 1 0 rfl rfl (iI_in (by omega) (by decide)) dX12_drainTold_6 ?_
  refine lt_nz (i := 2) (by omega) (fun z_1 hz_1 lz_1 uz_1 => ?_)
  have hz_1 : z_1 = nz f10 2 := hz_1
  have hbz_1_7 := hf10.1.2.2.1
  refine ir_ge (tgt := 26) hx hb dX12_drainTold_7 (by decide) (by first | exact rgw hr_n (by decide) (by decide) | omega) (by omega) (fun c_2 => ?_) (fun c_2 => ?_)
  · have hd8 : nz f12 206 ≤ 8 := Int.le_trans hf12.1.2 (dcn_r f12).2
    refine lv_aload_n hx hb dX12_drainTold_26 rfl (lv_at hlv 0 rfl) ?_
    refine va_get (D := D) (ci := 12) (v := vR m10) (C := RX12) (T := TX12) (N := 38) hx hb hts hi12 hown hG.1 hP 0 rfl rfl 10 (by decide) lf23 (fun _ h9 => h9) rfl dX12_drainTold_27 ?_
    refine lv_bipush (v := iI 28) hx hb dX12_drainTold_30 (by decide) ?_
    refine lv_iconst (v := iI 5) hx hb dX12_drainTold_32 (by decide) ?_
    refine lv_aload_n hx hb dX12_drainTold_33 rfl (lv_at hlv 0 rfl) ?_
    refine va_get (D := D) (ci := 12) (v := vR m12) (C := RX12) (T := TX12) (N := 38) hx hb hts hi12 hown hG.1 hP 0 rfl rfl 12 (by decide) lf29 (fun _ h9 => h9) rfl dX12_drainTold_34 ?_
    refine lv_sipush (v := iI 207) hx hb dX12_drainTold_37 (by decide) ?_
    refine lv_iload_n hx hb dX12_drainTold_40 rfl (lv_at hlv 1 rfl) ?_
    refine lv_iadd hx hb dX12_drainTold_41 ?_
    refine lt_e (e0 := 207 + n) (Int32.ofInt_add _ _).symm (fun z_3 hz_3 => ?_)
    refine lv_aload_n hx hb dX12_drainTold_42 rfl (lv_at hlv 0 rfl) ?_
    refine va_get (D := D) (ci := 12) (v := vR m10) (C := RX12) (T := TX12) (N := 38) hx hb hts hi12 hown hG.1 hP 0 rfl rfl 10 (by decide) lf23 (fun _ h9 => h9) rfl dX12_drainTold_43 ?_
    refine lv_iconst (v := iI 2) hx hb dX12_drainTold_46 (by decide) ?_
    refine va_iald hx hb hG.1 hP 1 0 rfl rfl (iI_in (by omega) (by decide)) dX12_drainTold_47 ?_
    refine lt_nz (i := 2) (by omega) (fun z_4 hz_4 lz_4 uz_4 => ?_)
    have hz_4 : z_4 = nz f10 2 := hz_4
    have hbz_4_17 := hf10.1.2.2.1
    refine lv_isub hx hb dX12_drainTold_48 ?_
    refine lt_e (e0 := z_3 - z_4) (Int32.ofInt_sub _ _).symm (fun z_5 hz_5 => ?_)
    refine va_iald hx hb hG.1 hP 2 0 rfl rfl (iI_in (by omega) (by decide)) dX12_drainTold_49 ?_
    refine lt_nz (i := z_5) (by omega) (fun z_6 hz_6 lz_6 uz_6 => ?_)
    have hbz_6_22 := hf12.2.1 (z_5.toNat - 207) (by omega)
    rw [show 207 + (z_5.toNat - 207) = z_5.toNat by omega] at hbz_6_22
    refine lv_imul hx hb dX12_drainTold_50 ?_
    refine lt_e (e0 := 5 * z_6) (Int32.ofInt_mul _ _).symm (fun z_7 hz_7 => ?_)
    refine lv_iadd hx hb dX12_drainTold_51 ?_
    refine lt_e (e0 := 28 + z_7) (Int32.ofInt_add _ _).symm (fun z_8 hz_8 => ?_)
    refine lv_iconst (v := iI 1) hx hb dX12_drainTold_52 (by decide) ?_
    refine lv_iadd hx hb dX12_drainTold_53 ?_
    refine lt_e (e0 := z_8 + 1) (Int32.ofInt_add _ _).symm (fun z_9 hz_9 => ?_)
    refine lv_iload_n hx hb dX12_drainTold_54 rfl (lv_at hlv 2 rfl) ?_
    refine lv_iadd hx hb dX12_drainTold_55 ?_
    refine lt_e (e0 := z_9 + 2) (Int32.ofInt_add _ _).symm (fun z_10 hz_10 => ?_)
    refine va_iald hx hb hG.1 hP 1 0 rfl rfl (iI_in (by omega) (by decide)) dX12_drainTold_56 ?_
    refine lt_nz (i := z_10) (by omega) (fun z_11 hz_11 lz_11 uz_11 => ?_)
    refine W.widen (k := 0) (n := 0) (Nat.le_of_ble_eq_true rfl) (Nat.le_of_ble_eq_true rfl) ?_
    exact W.iret (v := iI z_11) hx hb hr (fun t ht hW => ⟨⟨iI z_11, ((fun k => ([] : List Nat).getD k 0), (fun k => ([z_11] : List Int).getD k 0), (fun k => ([] : List (Nat → Int32)).getD k (fun _ => 0))), rfl, ⟨rfl, (by show ((-2147483648) ≤ z_11 ∧ z_11 ≤ 2147483647); omega), hf10, hf12⟩, at9 ht hP hD [0, 1, 2] (by decide +kernel) rfl⟩, hS.F ht⟩) hS.2.2 dX12_drainTold_57
  · refine lv_aload_n hx hb dX12_drainTold_10 rfl (lv_at hlv 0 rfl) ?_
    refine va_get (D := D) (ci := 12) (v := vR m10) (C := RX12) (T := TX12) (N := 38) hx hb hts hi12 hown hG.1 hP 0 rfl rfl 10 (by decide) lf23 (fun _ h9 => h9) rfl dX12_drainTold_11 ?_
    refine lv_bipush (v := iI 6) hx hb dX12_drainTold_14 (by decide) ?_
    refine lv_iconst (v := iI 3) hx hb dX12_drainTold_16 (by decide) ?_
    refine lv_iload_n hx hb dX12_drainTold_17 rfl (lv_at hlv 1 rfl) ?_
    refine lv_imul hx hb dX12_drainTold_18 ?_
    refine lt_e (e0 := 3 * n) (Int32.ofInt_mul _ _).symm (fun z_12 hz_12 => ?_)
    refine lv_iadd hx hb dX12_drainTold_19 ?_
    refine lt_e (e0 := 6 + z_12) (Int32.ofInt_add _ _).symm (fun z_13 hz_13 => ?_)
    refine lv_iload_n hx hb dX12_drainTold_20 rfl (lv_at hlv 2 rfl) ?_
    refine lv_iadd hx hb dX12_drainTold_21 ?_
    refine lt_e (e0 := z_13 + 2) (Int32.ofInt_add _ _).symm (fun z_14 hz_14 => ?_)
    refine va_iald hx hb hG.1 hP 1 0 rfl rfl (iI_in (by omega) (by decide)) dX12_drainTold_22 ?_
    refine lt_nz (i := z_14) (by omega) (fun z_15 hz_15 lz_15 uz_15 => ?_)
    refine lv_goto (tgt := 57) hx hb dX12_drainTold_23 (by decide) ?_
    refine W.widen (k := 0) (n := 0) (Nat.le_of_ble_eq_true rfl) (Nat.le_of_ble_eq_true rfl) ?_
    exact W.iret (v := iI z_15) hx hb hr (fun t ht hW => ⟨⟨iI z_15, ((fun k => ([] : List Nat).getD k 0), (fun k => ([z_15] : List Int).getD k 0), (fun k => ([] : List (Nat → Int32)).getD k (fun _ => 0))), rfl, ⟨rfl, (by show ((-2147483648) ≤ z_15 ∧ z_15 ≤ 2147483647); omega), hf10, hf12⟩, at9 ht hP hD [0, 1, 2] (by decide +kernel) rfl⟩, hS.F ht⟩) hS.2.2 dX12_drainTold_57
def vs_m_drainToldw : List Cond := .code yX12_drainTold cX12_drainTold 3 (some .int) :: (([.fieldLink RX12 23 "KerbSplashModel" "b" "[I", .fieldLink RX12 29 "KerbSplashModel" "s" "[I"] : List Cond) ++ ((wsX120) ++ ([])))
theorem gd_m_drainToldw : vs_m_drainToldw.all goodWord = true := gd_C (by decide +kernel) (gd_A (by decide +kernel) (gd_A (by decide +kernel) rfl))
set_option maxHeartbeats 4000000 in
set_option maxRecDepth 100000 in
theorem m_drainToldw (l : Launch) (hl : l.stackTraces = false) (D : va_G) (cy : Nat → ClassId) (sa : Nat → Nat) (mm m1 m9 m10 m11 m12 m13 m14 m15 m19 m20 m21 m23 m24 m25 m26 m27 m28 m33 m35 : Nat) (th tp sz_ ap bad bk opn fp im nr nl sp_ wtc wcl ir ip shu sfa swr : Int) (f10 f12 : Nat → Int32) (n w : Int) (pm : Int) (sz : Nat) (hr_th : (-2147483648) ≤ th ∧ th ≤ 2147483647) (hr_tp : 0 ≤ tp ∧ tp ≤ 600) (hr_sz_ : 0 ≤ sz_ ∧ sz_ ≤ 600) (hr_ap : 0 ≤ ap ∧ ap ≤ 602) (hr_bad : (-1) ≤ bad ∧ bad ≤ 602) (hr_bk : 0 ≤ bk ∧ bk ≤ 4) (hr_opn : 0 ≤ opn ∧ opn ≤ 7) (hr_fp : (-2147483648) ≤ fp ∧ fp ≤ 2147483647) (hr_im : 0 ≤ im ∧ im ≤ 3) (hr_nr : 0 ≤ nr ∧ nr ≤ 4) (hr_nl : 0 ≤ nl ∧ nl ≤ 4) (hr_sp_ : 0 ≤ sp_ ∧ sp_ ≤ 602) (hr_wtc : (-2147483648) ≤ wtc ∧ wtc ≤ 2147483647) (hr_wcl : 0 ≤ wcl ∧ wcl ≤ 95) (hr_ir : 0 ≤ ir ∧ ir ≤ 5) (hr_ip : (-2147483648) ≤ ip ∧ ip ≤ 2147483647) (hr_shu : (-2147483648) ≤ shu ∧ shu ≤ 2147483647) (hr_sfa : (-2147483648) ≤ sfa ∧ sfa ≤ 2147483647) (hr_swr : (-2147483648) ≤ swr ∧ swr ≤ 2147483647) (hr_n : 0 ≤ n ∧ n ≤ 13) (hr_w : 0 ≤ w ∧ w ≤ 2) (hr_pm : 8 ≤ pm ∧ pm ≤ 9) (hp0 : n < nz f10 2 + nz f12 206) (hf10 : BI f10) (hf12 : SI pm f12) : mI9 l yX12_drainTold vs_m_drainToldw ({ frames := 0, cells := 0, slots := 0, locals := 0 }) D cy sa sz [vR mm, vI n, vI w] [zO mm 12 [vI th, vR m1, vI tp, vI sz_, vI ap, vI bad, vI bk, vI opn, vI fp, vR m9, vR m10, vR m11, vR m12, vR m13, vR m14, vR m15, vI im, vI nr, vI nl, vR m19, vR m20, vR m21, vI sp_, vR m23, vR m24, vR m25, vR m26, vR m27, vR m28, vI wtc, vI wcl, vI ir, vI ip, vR m33, vI shu, vR m35, vI sfa, vI swr], zI m10 (cy 0) 68 f10, zI m12 (cy 0) 389 f12] (fun (r : Int32) (u : SV) => r = iI (u.2.1 0) ∧ ((-2147483648) ≤ u.2.1 0 ∧ u.2.1 0 ≤ 2147483647) ∧ BI f10 ∧ SI pm f12) (fun u : SV => [zO mm 12 [vI th, vR m1, vI tp, vI sz_, vI ap, vI bad, vI bk, vI opn, vI fp, vR m9, vR m10, vR m11, vR m12, vR m13, vR m14, vR m15, vI im, vI nr, vI nl, vR m19, vR m20, vR m21, vI sp_, vR m23, vR m24, vR m25, vR m26, vR m27, vR m28, vI wtc, vI wcl, vI ir, vI ip, vR m33, vI shu, vR m35, vI sfa, vI swr], zI m10 (cy 0) 68 f10, zI m12 (cy 0) 389 f12]) 0 0 := by
  refine Met.ofW (cc := cX12_drainTold) (maxL := 3) (ret := (some .int)) (by decide) rfl ?_
  intro p e s m args below meth c s₁ B hml hv
  obtain ⟨rfl, hsz, hP, hG, hD0, hT⟩ := hv
  have hx := B.exec
  have hb := B.bytes
  have hr := B.returns
  have hts := atoms_spec (ws := vs_m_drainToldw) B.pre
  have hown : s.vm.findClass RX12 = some m.cls := findClass_of_methodNamed B.named
  have hlocks := B.notSynchronized
  subst hsz
  have hD := hD0.self (sz := s.heap.size)
  generalize hAe : va_A [zO mm 12 [vI th, vR m1, vI tp, vI sz_, vI ap, vI bad, vI bk, vI opn, vI fp, vR m9, vR m10, vR m11, vR m12, vR m13, vR m14, vR m15, vI im, vI nr, vI nl, vR m19, vR m20, vR m21, vI sp_, vR m23, vR m24, vR m25, vR m26, vR m27, vR m28, vI wtc, vI wcl, vI ir, vI ip, vR m33, vI shu, vR m35, vI sfa, vI swr], zI m10 (cy 0) 68 f10, zI m12 (cy 0) 389 f12] s.heap.size = A at hD hT ⊢
  have hA : ∀ q : Nat, s.heap.size ≤ q → A q := fun q h => by rw [← hAe]; exact Or.inr h
  have hS : va_S A s.heap s.heap [] := va_S.rf
  have hl0 := lv_entry ([vR mm, vI n, vI w]) (n := 3) (Nat.le_of_ble_eq_true rfl)
  rw [lg_entry_eq]
  generalize (lg_sl ([vR mm, vI n, vI w]) ++ List.replicate (3 - (lg_sl ([vR mm, vI n, vI w])).length) Slot.unset).toArray = ls at hl0 ⊢
  have hlv : lv_has ls 3 [(0, vR mm), (1, vI n), (2, vI w)] := hl0
  have lf23 := hts (.fieldLink RX12 23 "KerbSplashModel" "b" "[I") (List.mem_of_getElem? (i := 1) rfl)
  have hi12 : ∀ w ∈ wsX120, w ∈ vs_m_drainToldw := fun w h => List.mem_cons_of_mem _ (List.mem_append_right _ (List.mem_append_left _ h))
  have lf29 := hts (.fieldLink RX12 29 "KerbSplashModel" "s" "[I") (List.mem_of_getElem? (i := 2) rfl)
  refine lv_iload_n hx hb dX12_drainTold_0 rfl (lv_at hlv 1 rfl) ?_
  refine lv_aload_n hx hb dX12_drainTold_1 rfl (lv_at hlv 0 rfl) ?_
  refine va_get (D := D) (ci := 12) (v := vR m10) (C := RX12) (T := TX12) (N := 38) hx hb hts hi12 hown hG.1 hP 0 rfl rfl 10 (by decide) lf23 (fun _ h9 => h9) rfl dX12_drainTold_2 ?_
  refine lv_iconst (v := iI 2) hx hb dX12_drainTold_5 (by decide) ?_
  refine va_iald hx hb hG.1 hP 1 0 rfl rfl (iI_in (by omega) (by decide)) dX12_drainTold_6 ?_
  refine lt_nz (i := 2) (by omega) (fun z_1 hz_1 lz_1 uz_1 => ?_)
  have hz_1 : z_1 = nz f10 2 := hz_1
  have hbz_1_7 := hf10.1.2.2.1
  refine ir_ge (tgt := 26) hx hb dX12_drainTold_7 (by decide) (by first | exact rgw hr_n (by decide) (by decide) | omega) (by omega) (fun c_2 => ?_) (fun c_2 => ?_)
  · have hd8 : nz f12 206 ≤ 8 := Int.le_trans hf12.1.2 (dcn_r f12).2
    refine lv_aload_n hx hb dX12_drainTold_26 rfl (lv_at hlv 0 rfl) ?_
    refine va_get (D := D) (ci := 12) (v := vR m10) (C := RX12) (T := TX12) (N := 38) hx hb hts hi12 hown hG.1 hP 0 rfl rfl 10 (by decide) lf23 (fun _ h9 => h9) rfl dX12_drainTold_27 ?_
    refine lv_bipush (v := iI 28) hx hb dX12_drainTold_30 (by decide) ?_
    refine lv_iconst (v := iI 5) hx hb dX12_drainTold_32 (by decide) ?_
    refine lv_aload_n hx hb dX12_drainTold_33 rfl (lv_at hlv 0 rfl) ?_
    refine va_get (D := D) (ci := 12) (v := vR m12) (C := RX12) (T := TX12) (N := 38) hx hb hts hi12 hown hG.1 hP 0 rfl rfl 12 (by decide) lf29 (fun _ h9 => h9) rfl dX12_drainTold_34 ?_
    refine lv_sipush (v := iI 207) hx hb dX12_drainTold_37 (by decide) ?_
    refine lv_iload_n hx hb dX12_drainTold_40 rfl (lv_at hlv 1 rfl) ?_
    refine lv_iadd hx hb dX12_drainTold_41 ?_
    refine lt_e (e0 := 207 + n) (Int32.ofInt_add _ _).symm (fun z_3 hz_3 => ?_)
    refine lv_aload_n hx hb dX12_drainTold_42 rfl (lv_at hlv 0 rfl) ?_
    refine va_get (D := D) (ci := 12) (v := vR m10) (C := RX12) (T := TX12) (N := 38) hx hb hts hi12 hown hG.1 hP 0 rfl rfl 10 (by decide) lf23 (fun _ h9 => h9) rfl dX12_drainTold_43 ?_
    refine lv_iconst (v := iI 2) hx hb dX12_drainTold_46 (by decide) ?_
    refine va_iald hx hb hG.1 hP 1 0 rfl rfl (iI_in (by omega) (by decide)) dX12_drainTold_47 ?_
    refine lt_nz (i := 2) (by omega) (fun z_4 hz_4 lz_4 uz_4 => ?_)
    have hz_4 : z_4 = nz f10 2 := hz_4
    have hbz_4_17 := hf10.1.2.2.1
    refine lv_isub hx hb dX12_drainTold_48 ?_
    refine lt_e (e0 := z_3 - z_4) (Int32.ofInt_sub _ _).symm (fun z_5 hz_5 => ?_)
    refine va_iald hx hb hG.1 hP 2 0 rfl rfl (iI_in (by omega) (by decide)) dX12_drainTold_49 ?_
    refine lt_nz (i := z_5) (by omega) (fun z_6 hz_6 lz_6 uz_6 => ?_)
    have hbz_6_22 := hf12.2.1 (z_5.toNat - 207) (by omega)
    rw [show 207 + (z_5.toNat - 207) = z_5.toNat by omega] at hbz_6_22
    refine lv_imul hx hb dX12_drainTold_50 ?_
    refine lt_e (e0 := 5 * z_6) (Int32.ofInt_mul _ _).symm (fun z_7 hz_7 => ?_)
    refine lv_iadd hx hb dX12_drainTold_51 ?_
    refine lt_e (e0 := 28 + z_7) (Int32.ofInt_add _ _).symm (fun z_8 hz_8 => ?_)
    refine lv_iconst (v := iI 1) hx hb dX12_drainTold_52 (by decide) ?_
    refine lv_iadd hx hb dX12_drainTold_53 ?_
    refine lt_e (e0 := z_8 + 1) (Int32.ofInt_add _ _).symm (fun z_9 hz_9 => ?_)
    refine lv_iload_n hx hb dX12_drainTold_54 rfl (lv_at hlv 2 rfl) ?_
    refine lv_iadd hx hb dX12_drainTold_55 ?_
    refine lt_e (e0 := z_9 + w) (Int32.ofInt_add _ _).symm (fun z_10 hz_10 => ?_)
    refine va_iald hx hb hG.1 hP 1 0 rfl rfl (iI_in (by omega) (by decide)) dX12_drainTold_56 ?_
    refine lt_nz (i := z_10) (by omega) (fun z_11 hz_11 lz_11 uz_11 => ?_)
    refine W.widen (k := 0) (n := 0) (Nat.le_of_ble_eq_true rfl) (Nat.le_of_ble_eq_true rfl) ?_
    exact W.iret (v := iI z_11) hx hb hr (fun t ht hW => ⟨⟨iI z_11, ((fun k => ([] : List Nat).getD k 0), (fun k => ([z_11] : List Int).getD k 0), (fun k => ([] : List (Nat → Int32)).getD k (fun _ => 0))), rfl, ⟨rfl, (by show ((-2147483648) ≤ z_11 ∧ z_11 ≤ 2147483647); omega), hf10, hf12⟩, at9 ht hP hD [0, 1, 2] (by decide +kernel) rfl⟩, hS.F ht⟩) hS.2.2 dX12_drainTold_57
  · refine lv_aload_n hx hb dX12_drainTold_10 rfl (lv_at hlv 0 rfl) ?_
    refine va_get (D := D) (ci := 12) (v := vR m10) (C := RX12) (T := TX12) (N := 38) hx hb hts hi12 hown hG.1 hP 0 rfl rfl 10 (by decide) lf23 (fun _ h9 => h9) rfl dX12_drainTold_11 ?_
    refine lv_bipush (v := iI 6) hx hb dX12_drainTold_14 (by decide) ?_
    refine lv_iconst (v := iI 3) hx hb dX12_drainTold_16 (by decide) ?_
    refine lv_iload_n hx hb dX12_drainTold_17 rfl (lv_at hlv 1 rfl) ?_
    refine lv_imul hx hb dX12_drainTold_18 ?_
    refine lt_e (e0 := 3 * n) (Int32.ofInt_mul _ _).symm (fun z_12 hz_12 => ?_)
    refine lv_iadd hx hb dX12_drainTold_19 ?_
    refine lt_e (e0 := 6 + z_12) (Int32.ofInt_add _ _).symm (fun z_13 hz_13 => ?_)
    refine lv_iload_n hx hb dX12_drainTold_20 rfl (lv_at hlv 2 rfl) ?_
    refine lv_iadd hx hb dX12_drainTold_21 ?_
    refine lt_e (e0 := z_13 + w) (Int32.ofInt_add _ _).symm (fun z_14 hz_14 => ?_)
    refine va_iald hx hb hG.1 hP 1 0 rfl rfl (iI_in (by omega) (by decide)) dX12_drainTold_22 ?_
    refine lt_nz (i := z_14) (by omega) (fun z_15 hz_15 lz_15 uz_15 => ?_)
    refine lv_goto (tgt := 57) hx hb dX12_drainTold_23 (by decide) ?_
    refine W.widen (k := 0) (n := 0) (Nat.le_of_ble_eq_true rfl) (Nat.le_of_ble_eq_true rfl) ?_
    exact W.iret (v := iI z_15) hx hb hr (fun t ht hW => ⟨⟨iI z_15, ((fun k => ([] : List Nat).getD k 0), (fun k => ([z_15] : List Int).getD k 0), (fun k => ([] : List (Nat → Int32)).getD k (fun _ => 0))), rfl, ⟨rfl, (by show ((-2147483648) ≤ z_15 ∧ z_15 ≤ 2147483647); omega), hf10, hf12⟩, at9 ht hP hD [0, 1, 2] (by decide +kernel) rfl⟩, hS.F ht⟩) hS.2.2 dX12_drainTold_57
def vs_m_leavesOf : List Cond := .code yX12_leavesOf cX12_leavesOf 2 (some .int) :: (([.fieldLink RX12 71 "KerbSplashModel" "shut" "I", .fieldLink RX12 23 "KerbSplashModel" "b" "[I", .fieldLink RX12 29 "KerbSplashModel" "s" "[I"] : List Cond) ++ ((wsX120) ++ ([])))
theorem gd_m_leavesOf : vs_m_leavesOf.all goodWord = true := gd_C (by decide +kernel) (gd_A (by decide +kernel) (gd_A (by decide +kernel) rfl))
set_option maxHeartbeats 4000000 in
set_option maxRecDepth 100000 in
theorem m_leavesOf (l : Launch) (hl : l.stackTraces = false) (D : va_G) (cy : Nat → ClassId) (sa : Nat → Nat) (mm m1 m9 m10 m11 m12 m13 m14 m15 m19 m20 m21 m23 m24 m25 m26 m27 m28 m33 m35 : Nat) (th tp sz_ ap bad bk opn fp im nr nl sp_ wtc wcl ir ip shu sfa swr : Int) (f10 f12 : Nat → Int32) (n : Int) (pm : Int) (sz : Nat) (hr_th : (-2147483648) ≤ th ∧ th ≤ 2147483647) (hr_tp : 0 ≤ tp ∧ tp ≤ 600) (hr_sz_ : 0 ≤ sz_ ∧ sz_ ≤ 600) (hr_ap : 0 ≤ ap ∧ ap ≤ 602) (hr_bad : (-1) ≤ bad ∧ bad ≤ 602) (hr_bk : 0 ≤ bk ∧ bk ≤ 4) (hr_opn : 0 ≤ opn ∧ opn ≤ 7) (hr_fp : (-2147483648) ≤ fp ∧ fp ≤ 2147483647) (hr_im : 0 ≤ im ∧ im ≤ 3) (hr_nr : 0 ≤ nr ∧ nr ≤ 4) (hr_nl : 0 ≤ nl ∧ nl ≤ 4) (hr_sp_ : 0 ≤ sp_ ∧ sp_ ≤ 602) (hr_wtc : (-2147483648) ≤ wtc ∧ wtc ≤ 2147483647) (hr_wcl : 0 ≤ wcl ∧ wcl ≤ 95) (hr_ir : 0 ≤ ir ∧ ir ≤ 5) (hr_ip : (-2147483648) ≤ ip ∧ ip ≤ 2147483647) (hr_shu : (-2147483648) ≤ shu ∧ shu ≤ 2147483647) (hr_sfa : (-2147483648) ≤ sfa ∧ sfa ≤ 2147483647) (hr_swr : (-2147483648) ≤ swr ∧ swr ≤ 2147483647) (hr_n : 0 ≤ n ∧ n ≤ 13) (hr_pm : 8 ≤ pm ∧ pm ≤ 9) (hf10 : BI f10) (hf12 : SI pm f12) : mI9 l yX12_leavesOf vs_m_leavesOf ({ frames := 0, cells := 0, slots := 0, locals := 0 }) D cy sa sz [vR mm, vI n] [zO mm 12 [vI th, vR m1, vI tp, vI sz_, vI ap, vI bad, vI bk, vI opn, vI fp, vR m9, vR m10, vR m11, vR m12, vR m13, vR m14, vR m15, vI im, vI nr, vI nl, vR m19, vR m20, vR m21, vI sp_, vR m23, vR m24, vR m25, vR m26, vR m27, vR m28, vI wtc, vI wcl, vI ir, vI ip, vR m33, vI shu, vR m35, vI sfa, vI swr], zI m10 (cy 0) 68 f10, zI m12 (cy 0) 389 f12] (fun (r : Int32) (u : SV) => r = iI (u.2.1 0) ∧ ((-2147483648) ≤ u.2.1 0 ∧ u.2.1 0 ≤ 2147483647) ∧ BI f10 ∧ SI pm f12) (fun u : SV => [zO mm 12 [vI th, vR m1, vI tp, vI sz_, vI ap, vI bad, vI bk, vI opn, vI fp, vR m9, vR m10, vR m11, vR m12, vR m13, vR m14, vR m15, vI im, vI nr, vI nl, vR m19, vR m20, vR m21, vI sp_, vR m23, vR m24, vR m25, vR m26, vR m27, vR m28, vI wtc, vI wcl, vI ir, vI ip, vR m33, vI shu, vR m35, vI sfa, vI swr], zI m10 (cy 0) 68 f10, zI m12 (cy 0) 389 f12]) 0 0 := by
  refine Met.ofW (cc := cX12_leavesOf) (maxL := 2) (ret := (some .int)) (by decide) rfl ?_
  intro p e s m args below meth c s₁ B hml hv
  obtain ⟨rfl, hsz, hP, hG, hD0, hT⟩ := hv
  have hx := B.exec
  have hb := B.bytes
  have hr := B.returns
  have hts := atoms_spec (ws := vs_m_leavesOf) B.pre
  have hown : s.vm.findClass RX12 = some m.cls := findClass_of_methodNamed B.named
  have hlocks := B.notSynchronized
  subst hsz
  have hD := hD0.self (sz := s.heap.size)
  generalize hAe : va_A [zO mm 12 [vI th, vR m1, vI tp, vI sz_, vI ap, vI bad, vI bk, vI opn, vI fp, vR m9, vR m10, vR m11, vR m12, vR m13, vR m14, vR m15, vI im, vI nr, vI nl, vR m19, vR m20, vR m21, vI sp_, vR m23, vR m24, vR m25, vR m26, vR m27, vR m28, vI wtc, vI wcl, vI ir, vI ip, vR m33, vI shu, vR m35, vI sfa, vI swr], zI m10 (cy 0) 68 f10, zI m12 (cy 0) 389 f12] s.heap.size = A at hD hT ⊢
  have hA : ∀ q : Nat, s.heap.size ≤ q → A q := fun q h => by rw [← hAe]; exact Or.inr h
  have hS : va_S A s.heap s.heap [] := va_S.rf
  have hl0 := lv_entry ([vR mm, vI n]) (n := 2) (Nat.le_of_ble_eq_true rfl)
  rw [lg_entry_eq]
  generalize (lg_sl ([vR mm, vI n]) ++ List.replicate (2 - (lg_sl ([vR mm, vI n])).length) Slot.unset).toArray = ls at hl0 ⊢
  have hlv : lv_has ls 2 [(0, vR mm), (1, vI n)] := hl0
  have lf71 := hts (.fieldLink RX12 71 "KerbSplashModel" "shut" "I") (List.mem_of_getElem? (i := 1) rfl)
  have hi12 : ∀ w ∈ wsX120, w ∈ vs_m_leavesOf := fun w h => List.mem_cons_of_mem _ (List.mem_append_right _ (List.mem_append_left _ h))
  have lf23 := hts (.fieldLink RX12 23 "KerbSplashModel" "b" "[I") (List.mem_of_getElem? (i := 2) rfl)
  have lf29 := hts (.fieldLink RX12 29 "KerbSplashModel" "s" "[I") (List.mem_of_getElem? (i := 3) rfl)
  refine lv_aload_n hx hb dX12_leavesOf_0 rfl (lv_at hlv 0 rfl) ?_
  refine va_get (D := D) (ci := 12) (v := vI shu) (C := RX12) (T := TX12) (N := 38) hx hb hts hi12 hown hG.1 hP 0 rfl rfl 34 (by decide) lf71 (fun _ h9 => h9) rfl dX12_leavesOf_1 ?_
  refine lv_iconst (v := iI (-1)) hx hb dX12_leavesOf_4 (by decide) ?_
  refine ir_eq (tgt := 25) hx hb dX12_leavesOf_5 (by decide) (by first | exact hr_shu | omega) (by show ((-2147483648) : Int) ≤ (-1) ∧ ((-1) : Int) ≤ 2147483647; decide) (fun c_1 => ?_) (fun c_1 => ?_)
  · refine lv_iload_n hx hb dX12_leavesOf_25 rfl (lv_at hlv 1 rfl) ?_
    refine lv_aload_n hx hb dX12_leavesOf_26 rfl (lv_at hlv 0 rfl) ?_
    refine va_get (D := D) (ci := 12) (v := vR m10) (C := RX12) (T := TX12) (N := 38) hx hb hts hi12 hown hG.1 hP 0 rfl rfl 10 (by decide) lf23 (fun _ h9 => h9) rfl dX12_leavesOf_27 ?_
    refine lv_iconst (v := iI 2) hx hb dX12_leavesOf_30 (by decide) ?_
    refine va_iald hx hb hG.1 hP 1 0 rfl rfl (iI_in (by omega) (by decide)) dX12_leavesOf_31 ?_
    refine lt_nz (i := 2) (by omega) (fun z_2 hz_2 lz_2 uz_2 => ?_)
    have hz_2 : z_2 = nz f10 2 := hz_2
    have hbz_2_7 := hf10.1.2.2.1
    refine ir_ge (tgt := 48) hx hb dX12_leavesOf_32 (by decide) (by first | exact rgw hr_n (by decide) (by decide) | omega) (by omega) (fun c_3 => ?_) (fun c_3 => ?_)
    · refine lv_iconst (v := iI 0) hx hb dX12_leavesOf_48 (by decide) ?_
      refine W.widen (k := 0) (n := 0) (Nat.le_of_ble_eq_true rfl) (Nat.le_of_ble_eq_true rfl) ?_
      exact W.iret (v := iI 0) hx hb hr (fun t ht hW => ⟨⟨iI 0, ((fun k => ([] : List Nat).getD k 0), (fun k => ([0] : List Int).getD k 0), (fun k => ([] : List (Nat → Int32)).getD k (fun _ => 0))), rfl, ⟨rfl, (by show ((-2147483648) ≤ 0 ∧ 0 ≤ 2147483647); show ((-2147483648) : Int) ≤ 0 ∧ (0 : Int) ≤ 2147483647; decide), hf10, hf12⟩, at9 ht hP hD [0, 1, 2] (by decide +kernel) rfl⟩, hS.F ht⟩) hS.2.2 dX12_leavesOf_49
    · refine lv_aload_n hx hb dX12_leavesOf_35 rfl (lv_at hlv 0 rfl) ?_
      refine va_get (D := D) (ci := 12) (v := vR m12) (C := RX12) (T := TX12) (N := 38) hx hb hts hi12 hown hG.1 hP 0 rfl rfl 12 (by decide) lf29 (fun _ h9 => h9) rfl dX12_leavesOf_36 ?_
      refine lv_sipush (v := iI 192) hx hb dX12_leavesOf_39 (by decide) ?_
      refine lv_iload_n hx hb dX12_leavesOf_42 rfl (lv_at hlv 1 rfl) ?_
      refine lv_iadd hx hb dX12_leavesOf_43 ?_
      refine lt_e (e0 := 192 + n) (Int32.ofInt_add _ _).symm (fun z_4 hz_4 => ?_)
      refine va_iald hx hb hG.1 hP 2 0 rfl rfl (iI_in (by omega) (by decide)) dX12_leavesOf_44 ?_
      refine lt_nz (i := z_4) (by omega) (fun z_5 hz_5 lz_5 uz_5 => ?_)
      refine lv_goto (tgt := 49) hx hb dX12_leavesOf_45 (by decide) ?_
      refine W.widen (k := 0) (n := 0) (Nat.le_of_ble_eq_true rfl) (Nat.le_of_ble_eq_true rfl) ?_
      exact W.iret (v := iI z_5) hx hb hr (fun t ht hW => ⟨⟨iI z_5, ((fun k => ([] : List Nat).getD k 0), (fun k => ([z_5] : List Int).getD k 0), (fun k => ([] : List (Nat → Int32)).getD k (fun _ => 0))), rfl, ⟨rfl, (by show ((-2147483648) ≤ z_5 ∧ z_5 ≤ 2147483647); omega), hf10, hf12⟩, at9 ht hP hD [0, 1, 2] (by decide +kernel) rfl⟩, hS.F ht⟩) hS.2.2 dX12_leavesOf_49
  · refine lv_iload_n hx hb dX12_leavesOf_8 rfl (lv_at hlv 1 rfl) ?_
    refine lv_aload_n hx hb dX12_leavesOf_9 rfl (lv_at hlv 0 rfl) ?_
    refine va_get (D := D) (ci := 12) (v := vI shu) (C := RX12) (T := TX12) (N := 38) hx hb hts hi12 hown hG.1 hP 0 rfl rfl 34 (by decide) lf71 (fun _ h9 => h9) rfl dX12_leavesOf_10 ?_
    refine ir_ne (tgt := 21) hx hb dX12_leavesOf_13 (by decide) (by first | exact rgw hr_n (by decide) (by decide) | omega) (by first | exact hr_shu | omega) (fun c_6 => ?_) (fun c_6 => ?_)
    · refine lv_iconst (v := iI 0) hx hb dX12_leavesOf_21 (by decide) ?_
      refine lv_goto (tgt := 49) hx hb dX12_leavesOf_22 (by decide) ?_
      refine W.widen (k := 0) (n := 0) (Nat.le_of_ble_eq_true rfl) (Nat.le_of_ble_eq_true rfl) ?_
      exact W.iret (v := iI 0) hx hb hr (fun t ht hW => ⟨⟨iI 0, ((fun k => ([] : List Nat).getD k 0), (fun k => ([0] : List Int).getD k 0), (fun k => ([] : List (Nat → Int32)).getD k (fun _ => 0))), rfl, ⟨rfl, (by show ((-2147483648) ≤ 0 ∧ 0 ≤ 2147483647); show ((-2147483648) : Int) ≤ 0 ∧ (0 : Int) ≤ 2147483647; decide), hf10, hf12⟩, at9 ht hP hD [0, 1, 2] (by decide +kernel) rfl⟩, hS.F ht⟩) hS.2.2 dX12_leavesOf_49
    · refine lv_bipush (v := iI 16) hx hb dX12_leavesOf_16 (by decide) ?_
      refine lv_goto (tgt := 49) hx hb dX12_leavesOf_18 (by decide) ?_
      refine W.widen (k := 0) (n := 0) (Nat.le_of_ble_eq_true rfl) (Nat.le_of_ble_eq_true rfl) ?_
      exact W.iret (v := iI 16) hx hb hr (fun t ht hW => ⟨⟨iI 16, ((fun k => ([] : List Nat).getD k 0), (fun k => ([16] : List Int).getD k 0), (fun k => ([] : List (Nat → Int32)).getD k (fun _ => 0))), rfl, ⟨rfl, (by show ((-2147483648) ≤ 16 ∧ 16 ≤ 2147483647); show ((-2147483648) : Int) ≤ 16 ∧ (16 : Int) ≤ 2147483647; decide), hf10, hf12⟩, at9 ht hP hD [0, 1, 2] (by decide +kernel) rfl⟩, hS.F ht⟩) hS.2.2 dX12_leavesOf_49
def vs_m_at : List Cond := .code yX12_at cX12_at 2 (some .int) :: (([] : List Cond) ++ ([]))
theorem gd_m_at : vs_m_at.all goodWord = true := gd_C (by decide +kernel) (gd_A (by decide +kernel) rfl)
set_option maxHeartbeats 4000000 in
set_option maxRecDepth 100000 in
theorem m_at (l : Launch) (hl : l.stackTraces = false) (D : va_G) (cy : Nat → ClassId) (sa : Nat → Nat) (x y : Int) (sz : Nat) (hr_x : 0 ≤ x ∧ x ≤ 15) (hr_y : 0 ≤ y ∧ y ≤ 5) : mI9 l yX12_at vs_m_at ({ frames := 0, cells := 0, slots := 0, locals := 0 }) D cy sa sz [vI x, vI y] [] (fun (r : Int32) (u : SV) => r = iI (u.2.1 0) ∧ (0 ≤ u.2.1 0 ∧ u.2.1 0 ≤ 95) ∧ (u.2.1 0 = 16 * y + x)) (fun u : SV => []) 0 0 := by
  refine Met.ofW (cc := cX12_at) (maxL := 2) (ret := (some .int)) (by decide) rfl ?_
  intro p e s m args below meth c s₁ B hml hv
  obtain ⟨rfl, hsz, hP, hG, hD0, hT⟩ := hv
  have hx := B.exec
  have hb := B.bytes
  have hr := B.returns
  have hts := atoms_spec (ws := vs_m_at) B.pre
  have hown : s.vm.findClass RX12 = some m.cls := findClass_of_methodNamed B.named
  have hlocks := B.notSynchronized
  subst hsz
  have hD := hD0.self (sz := s.heap.size)
  generalize hAe : va_A [] s.heap.size = A at hD hT ⊢
  have hA : ∀ q : Nat, s.heap.size ≤ q → A q := fun q h => by rw [← hAe]; exact Or.inr h
  have hS : va_S A s.heap s.heap [] := va_S.rf
  have hl0 := lv_entry ([vI x, vI y]) (n := 2) (Nat.le_of_ble_eq_true rfl)
  rw [lg_entry_eq]
  generalize (lg_sl ([vI x, vI y]) ++ List.replicate (2 - (lg_sl ([vI x, vI y])).length) Slot.unset).toArray = ls at hl0 ⊢
  have hlv : lv_has ls 2 [(0, vI x), (1, vI y)] := hl0
  refine lv_bipush (v := iI 16) hx hb dX12_at_0 (by decide) ?_
  refine lv_iload_n hx hb dX12_at_2 rfl (lv_at hlv 1 rfl) ?_
  refine lv_imul hx hb dX12_at_3 ?_
  refine lt_e (e0 := 16 * y) (Int32.ofInt_mul _ _).symm (fun z_1 hz_1 => ?_)
  refine lv_iload_n hx hb dX12_at_4 rfl (lv_at hlv 0 rfl) ?_
  refine lv_iadd hx hb dX12_at_5 ?_
  refine lt_e (e0 := z_1 + x) (Int32.ofInt_add _ _).symm (fun z_2 hz_2 => ?_)
  refine W.widen (k := 0) (n := 0) (Nat.le_of_ble_eq_true rfl) (Nat.le_of_ble_eq_true rfl) ?_
  exact W.iret (v := iI z_2) hx hb hr (fun t ht hW => ⟨⟨iI z_2, ((fun k => ([] : List Nat).getD k 0), (fun k => ([z_2] : List Int).getD k 0), (fun k => ([] : List (Nat → Int32)).getD k (fun _ => 0))), rfl, ⟨rfl, (by show (0 ≤ z_2 ∧ z_2 ≤ 95); omega), (by show (z_2 = 16 * y + x); omega)⟩, at9 ht hP hD [] (by decide +kernel) rfl⟩, hS.F ht⟩) hS.2.2 dX12_at_6
def vs_m_surface : List Cond := .code yX12_surface cX12_surface 2 (some .int) :: (([.fieldLink RX12 29 "KerbSplashModel" "s" "[I"] : List Cond) ++ ((wsX120) ++ ([])))
theorem gd_m_surface : vs_m_surface.all goodWord = true := gd_C (by decide +kernel) (gd_A (by decide +kernel) (gd_A (by decide +kernel) rfl))
set_option maxHeartbeats 4000000 in
set_option maxRecDepth 100000 in
theorem m_surface (l : Launch) (hl : l.stackTraces = false) (D : va_G) (cy : Nat → ClassId) (sa : Nat → Nat) (mm m1 m9 m10 m11 m12 m13 m14 m15 m19 m20 m21 m23 m24 m25 m26 m27 m28 m33 m35 : Nat) (th tp sz_ ap bad bk opn fp im nr nl sp_ wtc wcl ir ip shu sfa swr : Int) (f12 : Nat → Int32) (n : Int) (pm : Int) (sz : Nat) (hr_th : (-2147483648) ≤ th ∧ th ≤ 2147483647) (hr_tp : 0 ≤ tp ∧ tp ≤ 600) (hr_sz_ : 0 ≤ sz_ ∧ sz_ ≤ 600) (hr_ap : 0 ≤ ap ∧ ap ≤ 602) (hr_bad : (-1) ≤ bad ∧ bad ≤ 602) (hr_bk : 0 ≤ bk ∧ bk ≤ 4) (hr_opn : 0 ≤ opn ∧ opn ≤ 7) (hr_fp : (-2147483648) ≤ fp ∧ fp ≤ 2147483647) (hr_im : 0 ≤ im ∧ im ≤ 3) (hr_nr : 0 ≤ nr ∧ nr ≤ 4) (hr_nl : 0 ≤ nl ∧ nl ≤ 4) (hr_sp_ : 0 ≤ sp_ ∧ sp_ ≤ 602) (hr_wtc : (-2147483648) ≤ wtc ∧ wtc ≤ 2147483647) (hr_wcl : 0 ≤ wcl ∧ wcl ≤ 95) (hr_ir : 0 ≤ ir ∧ ir ≤ 5) (hr_ip : (-2147483648) ≤ ip ∧ ip ≤ 2147483647) (hr_shu : (-2147483648) ≤ shu ∧ shu ≤ 2147483647) (hr_sfa : (-2147483648) ≤ sfa ∧ sfa ≤ 2147483647) (hr_swr : (-2147483648) ≤ swr ∧ swr ≤ 2147483647) (hr_n : 0 ≤ n ∧ n ≤ 95) (hr_pm : 8 ≤ pm ∧ pm ≤ 9) (hf12 : SI pm f12) : mI9 l yX12_surface vs_m_surface ({ frames := 0, cells := 0, slots := 0, locals := 0 }) D cy sa sz [vR mm, vI n] [zO mm 12 [vI th, vR m1, vI tp, vI sz_, vI ap, vI bad, vI bk, vI opn, vI fp, vR m9, vR m10, vR m11, vR m12, vR m13, vR m14, vR m15, vI im, vI nr, vI nl, vR m19, vR m20, vR m21, vI sp_, vR m23, vR m24, vR m25, vR m26, vR m27, vR m28, vI wtc, vI wcl, vI ir, vI ip, vR m33, vI shu, vR m35, vI sfa, vI swr], zI m12 (cy 0) 389 f12] (fun (r : Int32) (u : SV) => r = iI (u.2.1 0) ∧ ((-2147483648) ≤ u.2.1 0 ∧ u.2.1 0 ≤ 2147483647) ∧ SI pm f12) (fun u : SV => [zO mm 12 [vI th, vR m1, vI tp, vI sz_, vI ap, vI bad, vI bk, vI opn, vI fp, vR m9, vR m10, vR m11, vR m12, vR m13, vR m14, vR m15, vI im, vI nr, vI nl, vR m19, vR m20, vR m21, vI sp_, vR m23, vR m24, vR m25, vR m26, vR m27, vR m28, vI wtc, vI wcl, vI ir, vI ip, vR m33, vI shu, vR m35, vI sfa, vI swr], zI m12 (cy 0) 389 f12]) 0 0 := by
  refine Met.ofW (cc := cX12_surface) (maxL := 2) (ret := (some .int)) (by decide) rfl ?_
  intro p e s m args below meth c s₁ B hml hv
  obtain ⟨rfl, hsz, hP, hG, hD0, hT⟩ := hv
  have hx := B.exec
  have hb := B.bytes
  have hr := B.returns
  have hts := atoms_spec (ws := vs_m_surface) B.pre
  have hown : s.vm.findClass RX12 = some m.cls := findClass_of_methodNamed B.named
  have hlocks := B.notSynchronized
  subst hsz
  have hD := hD0.self (sz := s.heap.size)
  generalize hAe : va_A [zO mm 12 [vI th, vR m1, vI tp, vI sz_, vI ap, vI bad, vI bk, vI opn, vI fp, vR m9, vR m10, vR m11, vR m12, vR m13, vR m14, vR m15, vI im, vI nr, vI nl, vR m19, vR m20, vR m21, vI sp_, vR m23, vR m24, vR m25, vR m26, vR m27, vR m28, vI wtc, vI wcl, vI ir, vI ip, vR m33, vI shu, vR m35, vI sfa, vI swr], zI m12 (cy 0) 389 f12] s.heap.size = A at hD hT ⊢
  have hA : ∀ q : Nat, s.heap.size ≤ q → A q := fun q h => by rw [← hAe]; exact Or.inr h
  have hS : va_S A s.heap s.heap [] := va_S.rf
  have hl0 := lv_entry ([vR mm, vI n]) (n := 2) (Nat.le_of_ble_eq_true rfl)
  rw [lg_entry_eq]
  generalize (lg_sl ([vR mm, vI n]) ++ List.replicate (2 - (lg_sl ([vR mm, vI n])).length) Slot.unset).toArray = ls at hl0 ⊢
  have hlv : lv_has ls 2 [(0, vR mm), (1, vI n)] := hl0
  have lf29 := hts (.fieldLink RX12 29 "KerbSplashModel" "s" "[I") (List.mem_of_getElem? (i := 1) rfl)
  have hi12 : ∀ w ∈ wsX120, w ∈ vs_m_surface := fun w h => List.mem_cons_of_mem _ (List.mem_append_right _ (List.mem_append_left _ h))
  refine lv_aload_n hx hb dX12_surface_0 rfl (lv_at hlv 0 rfl) ?_
  refine va_get (D := D) (ci := 12) (v := vR m12) (C := RX12) (T := TX12) (N := 38) hx hb hts hi12 hown hG.1 hP 0 rfl rfl 12 (by decide) lf29 (fun _ h9 => h9) rfl dX12_surface_1 ?_
  refine lv_iconst (v := iI 0) hx hb dX12_surface_4 (by decide) ?_
  refine lv_iload_n hx hb dX12_surface_5 rfl (lv_at hlv 1 rfl) ?_
  refine lv_iadd hx hb dX12_surface_6 ?_
  refine lt_e (e0 := 0 + n) (Int32.ofInt_add _ _).symm (fun z_1 hz_1 => ?_)
  refine va_iald hx hb hG.1 hP 1 0 rfl rfl (iI_in (by omega) (by decide)) dX12_surface_7 ?_
  refine lt_nz (i := z_1) (by omega) (fun z_2 hz_2 lz_2 uz_2 => ?_)
  refine lv_aload_n hx hb dX12_surface_8 rfl (lv_at hlv 0 rfl) ?_
  refine va_get (D := D) (ci := 12) (v := vR m12) (C := RX12) (T := TX12) (N := 38) hx hb hts hi12 hown hG.1 hP 0 rfl rfl 12 (by decide) lf29 (fun _ h9 => h9) rfl dX12_surface_9 ?_
  refine lv_bipush (v := iI 96) hx hb dX12_surface_12 (by decide) ?_
  refine lv_iload_n hx hb dX12_surface_14 rfl (lv_at hlv 1 rfl) ?_
  refine lv_iadd hx hb dX12_surface_15 ?_
  refine lt_e (e0 := 96 + n) (Int32.ofInt_add _ _).symm (fun z_3 hz_3 => ?_)
  refine va_iald hx hb hG.1 hP 1 0 rfl rfl (iI_in (by omega) (by decide)) dX12_surface_16 ?_
  refine lt_nz (i := z_3) (by omega) (fun z_4 hz_4 lz_4 uz_4 => ?_)
  refine lv_iadd hx hb dX12_surface_17 ?_
  refine lt_z (fun z_5 ez_5 lz_5 hz_5 => ?_)
  refine W.widen (k := 0) (n := 0) (Nat.le_of_ble_eq_true rfl) (Nat.le_of_ble_eq_true rfl) ?_
  exact W.iret (v := iI z_5) hx hb hr (fun t ht hW => ⟨⟨iI z_5, ((fun k => ([] : List Nat).getD k 0), (fun k => ([z_5] : List Int).getD k 0), (fun k => ([] : List (Nat → Int32)).getD k (fun _ => 0))), rfl, ⟨rfl, (by show ((-2147483648) ≤ z_5 ∧ z_5 ≤ 2147483647); omega), hf12⟩, at9 ht hP hD [0, 1] (by decide +kernel) rfl⟩, hS.F ht⟩) hS.2.2 dX12_surface_18
