theorem dX11_car_0 : decode cX11_car 0 = .ok (.aload_n 0, 1) := by decide +kernel
theorem dX11_car_1 : decode cX11_car 1 = .ok (.iload_n 1, 1) := by decide +kernel
theorem dX11_car_11 : decode cX11_car 11 = .ok (.iload 5, 2) := by decide +kernel
theorem dX11_car_13 : decode cX11_car 13 = .ok (.invokevirtual 243, 3) := by decide +kernel
theorem dX11_car_16 : decode cX11_car 16 = .ok (.invokevirtual 134, 3) := by decide +kernel
theorem dX11_car_19 : decode cX11_car 19 = .ok (.aload_n 0, 1) := by decide +kernel
theorem dX11_car_2 : decode cX11_car 2 = .ok (.invokevirtual 227, 3) := by decide +kernel
theorem dX11_car_20 : decode cX11_car 20 = .ok (.aload_n 0, 1) := by decide +kernel
theorem dX11_car_21 : decode cX11_car 21 = .ok (.getfield 31, 3) := by decide +kernel
theorem dX11_car_24 : decode cX11_car 24 = .ok (.invokevirtual 196, 3) := by decide +kernel
theorem dX11_car_27 : decode cX11_car 27 = .ok (.invokevirtual 202, 3) := by decide +kernel
theorem dX11_car_30 : decode cX11_car 30 = .ok (.aload_n 0, 1) := by decide +kernel
theorem dX11_car_31 : decode cX11_car 31 = .ok (.getfield 56, 3) := by decide +kernel
theorem dX11_car_34 : decode cX11_car 34 = .ok (.getfield 230, 3) := by decide +kernel
theorem dX11_car_37 : decode cX11_car 37 = .ok (.iload_n 2, 1) := by decide +kernel
theorem dX11_car_38 : decode cX11_car 38 = .ok (.iload_n 3, 1) := by decide +kernel
theorem dX11_car_39 : decode cX11_car 39 = .ok (.iload 4, 2) := by decide +kernel
theorem dX11_car_41 : decode cX11_car 41 = .ok (.iload 5, 2) := by decide +kernel
theorem dX11_car_43 : decode cX11_car 43 = .ok (.invokevirtual 247, 3) := by decide +kernel
theorem dX11_car_46 : decode cX11_car 46 = .ok (.aload_n 0, 1) := by decide +kernel
theorem dX11_car_47 : decode cX11_car 47 = .ok (.getfield 56, 3) := by decide +kernel
theorem dX11_car_5 : decode cX11_car 5 = .ok (.aload_n 0, 1) := by decide +kernel
theorem dX11_car_50 : decode cX11_car 50 = .ok (.getfield 230, 3) := by decide +kernel
theorem dX11_car_53 : decode cX11_car 53 = .ok (.aload_n 0, 1) := by decide +kernel
theorem dX11_car_54 : decode cX11_car 54 = .ok (.getfield 31, 3) := by decide +kernel
theorem dX11_car_57 : decode cX11_car 57 = .ok (.aload_n 0, 1) := by decide +kernel
theorem dX11_car_58 : decode cX11_car 58 = .ok (.getfield 24, 3) := by decide +kernel
theorem dX11_car_6 : decode cX11_car 6 = .ok (.aload_n 0, 1) := by decide +kernel
theorem dX11_car_61 : decode cX11_car 61 = .ok (.iload_n 1, 1) := by decide +kernel
theorem dX11_car_62 : decode cX11_car 62 = .ok (.aaload, 1) := by decide +kernel
theorem dX11_car_63 : decode cX11_car 63 = .ok (.invokevirtual 251, 3) := by decide +kernel
theorem dX11_car_66 : decode cX11_car 66 = .ok (.ireturn, 1) := by decide +kernel
theorem dX11_car_7 : decode cX11_car 7 = .ok (.iload_n 2, 1) := by decide +kernel
theorem dX11_car_8 : decode cX11_car 8 = .ok (.iload_n 3, 1) := by decide +kernel
theorem dX11_car_9 : decode cX11_car 9 = .ok (.iload 4, 2) := by decide +kernel
theorem dX11_clear_0 : decode cX11_clear 0 = .ok (.aload_n 0, 1) := by decide +kernel
theorem dX11_clear_1 : decode cX11_clear 1 = .ok (.getfield 41, 3) := by decide +kernel
theorem dX11_clear_12 : decode cX11_clear 12 = .ok (.iconst 0, 1) := by decide +kernel
theorem dX11_clear_13 : decode cX11_clear 13 = .ok (.putfield 263, 3) := by decide +kernel
theorem dX11_clear_16 : decode cX11_clear 16 = .ok (.iload_n 1, 1) := by decide +kernel
theorem dX11_clear_17 : decode cX11_clear 17 = .ok (.ireturn, 1) := by decide +kernel
theorem dX11_clear_4 : decode cX11_clear 4 = .ok (.getfield 263, 3) := by decide +kernel
theorem dX11_clear_7 : decode cX11_clear 7 = .ok (.istore_n 1, 1) := by decide +kernel
theorem dX11_clear_8 : decode cX11_clear 8 = .ok (.aload_n 0, 1) := by decide +kernel
theorem dX11_clear_9 : decode cX11_clear 9 = .ok (.getfield 41, 3) := by decide +kernel
theorem dX11_minutes_0 : decode cX11_minutes 0 = .ok (.aload_n 0, 1) := by decide +kernel
theorem dX11_minutes_1 : decode cX11_minutes 1 = .ok (.iload_n 1, 1) := by decide +kernel
theorem dX11_minutes_11 : decode cX11_minutes 11 = .ok (.iload_n 2, 1) := by decide +kernel
theorem dX11_minutes_12 : decode cX11_minutes 12 = .ok (.iconst 0, 1) := by decide +kernel
theorem dX11_minutes_13 : decode cX11_minutes 13 = .ok (.bipush 20, 2) := by decide +kernel
theorem dX11_minutes_15 : decode cX11_minutes 15 = .ok (.invokestatic 130, 3) := by decide +kernel
theorem dX11_minutes_18 : decode cX11_minutes 18 = .ok (.ifCond .eq 7, 3) := by decide +kernel
theorem dX11_minutes_2 : decode cX11_minutes 2 = .ok (.iconst 1, 1) := by decide +kernel
theorem dX11_minutes_21 : decode cX11_minutes 21 = .ok (.iconst 1, 1) := by decide +kernel
theorem dX11_minutes_22 : decode cX11_minutes 22 = .ok (.goto 4, 3) := by decide +kernel
theorem dX11_minutes_25 : decode cX11_minutes 25 = .ok (.iconst 0, 1) := by decide +kernel
theorem dX11_minutes_26 : decode cX11_minutes 26 = .ok (.invokevirtual 134, 3) := by decide +kernel
theorem dX11_minutes_29 : decode cX11_minutes 29 = .ok (.aload_n 0, 1) := by decide +kernel
theorem dX11_minutes_3 : decode cX11_minutes 3 = .ok (.bipush 60, 2) := by decide +kernel
theorem dX11_minutes_30 : decode cX11_minutes 30 = .ok (.aload_n 0, 1) := by decide +kernel
theorem dX11_minutes_31 : decode cX11_minutes 31 = .ok (.getfield 31, 3) := by decide +kernel
theorem dX11_minutes_34 : decode cX11_minutes 34 = .ok (.invokevirtual 196, 3) := by decide +kernel
theorem dX11_minutes_37 : decode cX11_minutes 37 = .ok (.ifCond .eq 17, 3) := by decide +kernel
theorem dX11_minutes_40 : decode cX11_minutes 40 = .ok (.aload_n 0, 1) := by decide +kernel
theorem dX11_minutes_41 : decode cX11_minutes 41 = .ok (.getfield 31, 3) := by decide +kernel
theorem dX11_minutes_44 : decode cX11_minutes 44 = .ok (.invokevirtual 199, 3) := by decide +kernel
theorem dX11_minutes_47 : decode cX11_minutes 47 = .ok (.ifCond .eq 7, 3) := by decide +kernel
theorem dX11_minutes_5 : decode cX11_minutes 5 = .ok (.invokestatic 130, 3) := by decide +kernel
theorem dX11_minutes_50 : decode cX11_minutes 50 = .ok (.iconst 1, 1) := by decide +kernel
theorem dX11_minutes_51 : decode cX11_minutes 51 = .ok (.goto 4, 3) := by decide +kernel
theorem dX11_minutes_54 : decode cX11_minutes 54 = .ok (.iconst 0, 1) := by decide +kernel
theorem dX11_minutes_55 : decode cX11_minutes 55 = .ok (.invokevirtual 202, 3) := by decide +kernel
theorem dX11_minutes_58 : decode cX11_minutes 58 = .ok (.aload_n 0, 1) := by decide +kernel
theorem dX11_minutes_59 : decode cX11_minutes 59 = .ok (.getfield 31, 3) := by decide +kernel
theorem dX11_minutes_62 : decode cX11_minutes 62 = .ok (.iload_n 1, 1) := by decide +kernel
theorem dX11_minutes_63 : decode cX11_minutes 63 = .ok (.iload_n 2, 1) := by decide +kernel
theorem dX11_minutes_64 : decode cX11_minutes 64 = .ok (.invokevirtual 205, 3) := by decide +kernel
theorem dX11_minutes_67 : decode cX11_minutes 67 = .ok (.ireturn, 1) := by decide +kernel
theorem dX11_minutes_8 : decode cX11_minutes 8 = .ok (.ifCond .eq 17, 3) := by decide +kernel
theorem dX11_pass_0 : decode cX11_pass 0 = .ok (.aload_n 0, 1) := by decide +kernel
theorem dX11_pass_1 : decode cX11_pass 1 = .ok (.iload_n 1, 1) := by decide +kernel
theorem dX11_pass_10 : decode cX11_pass 10 = .ok (.invokevirtual 196, 3) := by decide +kernel
theorem dX11_pass_13 : decode cX11_pass 13 = .ok (.invokevirtual 202, 3) := by decide +kernel
theorem dX11_pass_16 : decode cX11_pass 16 = .ok (.aload_n 0, 1) := by decide +kernel
theorem dX11_pass_17 : decode cX11_pass 17 = .ok (.getfield 56, 3) := by decide +kernel
theorem dX11_pass_2 : decode cX11_pass 2 = .ok (.invokevirtual 227, 3) := by decide +kernel
theorem dX11_pass_20 : decode cX11_pass 20 = .ok (.aload_n 0, 1) := by decide +kernel
theorem dX11_pass_21 : decode cX11_pass 21 = .ok (.getfield 31, 3) := by decide +kernel
theorem dX11_pass_24 : decode cX11_pass 24 = .ok (.aload_n 0, 1) := by decide +kernel
theorem dX11_pass_25 : decode cX11_pass 25 = .ok (.getfield 41, 3) := by decide +kernel
theorem dX11_pass_28 : decode cX11_pass 28 = .ok (.aload_n 0, 1) := by decide +kernel
theorem dX11_pass_29 : decode cX11_pass 29 = .ok (.getfield 24, 3) := by decide +kernel
theorem dX11_pass_32 : decode cX11_pass 32 = .ok (.iload_n 1, 1) := by decide +kernel
theorem dX11_pass_33 : decode cX11_pass 33 = .ok (.aaload, 1) := by decide +kernel
theorem dX11_pass_34 : decode cX11_pass 34 = .ok (.invokevirtual 259, 3) := by decide +kernel
theorem dX11_pass_37 : decode cX11_pass 37 = .ok (.ireturn, 1) := by decide +kernel
theorem dX11_pass_5 : decode cX11_pass 5 = .ok (.aload_n 0, 1) := by decide +kernel
theorem dX11_pass_6 : decode cX11_pass 6 = .ok (.aload_n 0, 1) := by decide +kernel
theorem dX11_pass_7 : decode cX11_pass 7 = .ok (.getfield 31, 3) := by decide +kernel
theorem dX11_says_0 : decode cX11_says 0 = .ok (.aload_n 0, 1) := by decide +kernel
theorem dX11_says_1 : decode cX11_says 1 = .ok (.iload_n 1, 1) := by decide +kernel
theorem dX11_says_12 : decode cX11_says 12 = .ok (.invokevirtual 134, 3) := by decide +kernel
theorem dX11_says_15 : decode cX11_says 15 = .ok (.aload_n 0, 1) := by decide +kernel
theorem dX11_says_16 : decode cX11_says 16 = .ok (.getfield 56, 3) := by decide +kernel
theorem dX11_says_19 : decode cX11_says 19 = .ok (.getfield 230, 3) := by decide +kernel
theorem dX11_says_2 : decode cX11_says 2 = .ok (.invokevirtual 227, 3) := by decide +kernel
theorem dX11_says_22 : decode cX11_says 22 = .ok (.getfield 234, 3) := by decide +kernel
theorem dX11_says_25 : decode cX11_says 25 = .ok (.astore 10, 2) := by decide +kernel
theorem dX11_says_27 : decode cX11_says 27 = .ok (.aload 10, 2) := by decide +kernel
theorem dX11_says_29 : decode cX11_says 29 = .ok (.iconst 0, 1) := by decide +kernel
theorem dX11_says_30 : decode cX11_says 30 = .ok (.iload_n 3, 1) := by decide +kernel
theorem dX11_says_31 : decode cX11_says 31 = .ok (.iastore, 1) := by decide +kernel
theorem dX11_says_32 : decode cX11_says 32 = .ok (.aload 10, 2) := by decide +kernel
theorem dX11_says_34 : decode cX11_says 34 = .ok (.iconst 1, 1) := by decide +kernel
theorem dX11_says_35 : decode cX11_says 35 = .ok (.iload 4, 2) := by decide +kernel
theorem dX11_says_37 : decode cX11_says 37 = .ok (.iastore, 1) := by decide +kernel
theorem dX11_says_38 : decode cX11_says 38 = .ok (.aload 10, 2) := by decide +kernel
theorem dX11_says_40 : decode cX11_says 40 = .ok (.iconst 2, 1) := by decide +kernel
theorem dX11_says_41 : decode cX11_says 41 = .ok (.iload 5, 2) := by decide +kernel
theorem dX11_says_43 : decode cX11_says 43 = .ok (.iastore, 1) := by decide +kernel
theorem dX11_says_44 : decode cX11_says 44 = .ok (.aload 10, 2) := by decide +kernel
theorem dX11_says_46 : decode cX11_says 46 = .ok (.iconst 3, 1) := by decide +kernel
theorem dX11_says_47 : decode cX11_says 47 = .ok (.iload 6, 2) := by decide +kernel
theorem dX11_says_49 : decode cX11_says 49 = .ok (.iastore, 1) := by decide +kernel
theorem dX11_says_5 : decode cX11_says 5 = .ok (.aload_n 0, 1) := by decide +kernel
theorem dX11_says_50 : decode cX11_says 50 = .ok (.aload 10, 2) := by decide +kernel
theorem dX11_says_52 : decode cX11_says 52 = .ok (.iconst 4, 1) := by decide +kernel
theorem dX11_says_53 : decode cX11_says 53 = .ok (.iload 7, 2) := by decide +kernel
theorem dX11_says_55 : decode cX11_says 55 = .ok (.iastore, 1) := by decide +kernel
theorem dX11_says_56 : decode cX11_says 56 = .ok (.aload 10, 2) := by decide +kernel
theorem dX11_says_58 : decode cX11_says 58 = .ok (.iconst 5, 1) := by decide +kernel
theorem dX11_says_59 : decode cX11_says 59 = .ok (.iload 8, 2) := by decide +kernel
theorem dX11_says_6 : decode cX11_says 6 = .ok (.iload_n 2, 1) := by decide +kernel
theorem dX11_says_61 : decode cX11_says 61 = .ok (.iastore, 1) := by decide +kernel
theorem dX11_says_62 : decode cX11_says 62 = .ok (.aload 10, 2) := by decide +kernel
theorem dX11_says_64 : decode cX11_says 64 = .ok (.bipush 6, 2) := by decide +kernel
theorem dX11_says_66 : decode cX11_says 66 = .ok (.iload 9, 2) := by decide +kernel
theorem dX11_says_68 : decode cX11_says 68 = .ok (.iastore, 1) := by decide +kernel
theorem dX11_says_69 : decode cX11_says 69 = .ok (.aload_n 0, 1) := by decide +kernel
theorem dX11_says_7 : decode cX11_says 7 = .ok (.iconst 0, 1) := by decide +kernel
theorem dX11_says_70 : decode cX11_says 70 = .ok (.getfield 24, 3) := by decide +kernel
theorem dX11_says_73 : decode cX11_says 73 = .ok (.iload_n 1, 1) := by decide +kernel
theorem dX11_says_74 : decode cX11_says 74 = .ok (.aaload, 1) := by decide +kernel
theorem dX11_says_75 : decode cX11_says 75 = .ok (.iload_n 2, 1) := by decide +kernel
theorem dX11_says_76 : decode cX11_says 76 = .ok (.aload 10, 2) := by decide +kernel
theorem dX11_says_78 : decode cX11_says 78 = .ok (.invokevirtual 239, 3) := by decide +kernel
theorem dX11_says_8 : decode cX11_says 8 = .ok (.iconst 4, 1) := by decide +kernel
theorem dX11_says_81 : decode cX11_says 81 = .ok (.ireturn, 1) := by decide +kernel
theorem dX11_says_9 : decode cX11_says 9 = .ok (.invokestatic 130, 3) := by decide +kernel
theorem dX11_shower_0 : decode cX11_shower 0 = .ok (.aload_n 0, 1) := by decide +kernel
theorem dX11_shower_1 : decode cX11_shower 1 = .ok (.iload_n 1, 1) := by decide +kernel
theorem dX11_shower_10 : decode cX11_shower 10 = .ok (.invokevirtual 196, 3) := by decide +kernel
theorem dX11_shower_13 : decode cX11_shower 13 = .ok (.ifCond .eq 17, 3) := by decide +kernel
theorem dX11_shower_16 : decode cX11_shower 16 = .ok (.aload_n 0, 1) := by decide +kernel
theorem dX11_shower_17 : decode cX11_shower 17 = .ok (.getfield 31, 3) := by decide +kernel
theorem dX11_shower_2 : decode cX11_shower 2 = .ok (.invokevirtual 208, 3) := by decide +kernel
theorem dX11_shower_20 : decode cX11_shower 20 = .ok (.invokevirtual 199, 3) := by decide +kernel
theorem dX11_shower_23 : decode cX11_shower 23 = .ok (.ifCond .eq 7, 3) := by decide +kernel
theorem dX11_shower_26 : decode cX11_shower 26 = .ok (.iconst 1, 1) := by decide +kernel
theorem dX11_shower_27 : decode cX11_shower 27 = .ok (.goto 4, 3) := by decide +kernel
theorem dX11_shower_30 : decode cX11_shower 30 = .ok (.iconst 0, 1) := by decide +kernel
theorem dX11_shower_31 : decode cX11_shower 31 = .ok (.invokevirtual 202, 3) := by decide +kernel
theorem dX11_shower_34 : decode cX11_shower 34 = .ok (.aload_n 0, 1) := by decide +kernel
theorem dX11_shower_35 : decode cX11_shower 35 = .ok (.getfield 31, 3) := by decide +kernel
theorem dX11_shower_38 : decode cX11_shower 38 = .ok (.aload_n 0, 1) := by decide +kernel
theorem dX11_shower_39 : decode cX11_shower 39 = .ok (.getfield 18, 3) := by decide +kernel
theorem dX11_shower_42 : decode cX11_shower 42 = .ok (.iload_n 1, 1) := by decide +kernel
theorem dX11_shower_43 : decode cX11_shower 43 = .ok (.aaload, 1) := by decide +kernel
theorem dX11_shower_44 : decode cX11_shower 44 = .ok (.invokevirtual 211, 3) := by decide +kernel
theorem dX11_shower_47 : decode cX11_shower 47 = .ok (.ireturn, 1) := by decide +kernel
theorem dX11_shower_5 : decode cX11_shower 5 = .ok (.aload_n 0, 1) := by decide +kernel
theorem dX11_shower_6 : decode cX11_shower 6 = .ok (.aload_n 0, 1) := by decide +kernel
theorem dX11_shower_7 : decode cX11_shower 7 = .ok (.getfield 31, 3) := by decide +kernel
theorem dX11_traffic_0 : decode cX11_traffic 0 = .ok (.aload_n 0, 1) := by decide +kernel
theorem dX11_traffic_1 : decode cX11_traffic 1 = .ok (.iload_n 1, 1) := by decide +kernel
theorem dX11_traffic_11 : decode cX11_traffic 11 = .ok (.aload_n 0, 1) := by decide +kernel
theorem dX11_traffic_12 : decode cX11_traffic 12 = .ok (.iload_n 2, 1) := by decide +kernel
theorem dX11_traffic_13 : decode cX11_traffic 13 = .ok (.iload_n 3, 1) := by decide +kernel
theorem dX11_traffic_14 : decode cX11_traffic 14 = .ok (.iload 4, 2) := by decide +kernel
theorem dX11_traffic_16 : decode cX11_traffic 16 = .ok (.iload 5, 2) := by decide +kernel
theorem dX11_traffic_18 : decode cX11_traffic 18 = .ok (.invokevirtual 243, 3) := by decide +kernel
theorem dX11_traffic_2 : decode cX11_traffic 2 = .ok (.iconst 0, 1) := by decide +kernel
theorem dX11_traffic_21 : decode cX11_traffic 21 = .ok (.ifCond .eq 7, 3) := by decide +kernel
theorem dX11_traffic_24 : decode cX11_traffic 24 = .ok (.iconst 1, 1) := by decide +kernel
theorem dX11_traffic_25 : decode cX11_traffic 25 = .ok (.goto 4, 3) := by decide +kernel
theorem dX11_traffic_28 : decode cX11_traffic 28 = .ok (.iconst 0, 1) := by decide +kernel
theorem dX11_traffic_29 : decode cX11_traffic 29 = .ok (.invokevirtual 134, 3) := by decide +kernel
theorem dX11_traffic_3 : decode cX11_traffic 3 = .ok (.bipush 99, 2) := by decide +kernel
theorem dX11_traffic_32 : decode cX11_traffic 32 = .ok (.aload_n 0, 1) := by decide +kernel
theorem dX11_traffic_33 : decode cX11_traffic 33 = .ok (.getfield 41, 3) := by decide +kernel
theorem dX11_traffic_36 : decode cX11_traffic 36 = .ok (.iload_n 1, 1) := by decide +kernel
theorem dX11_traffic_37 : decode cX11_traffic 37 = .ok (.iload_n 2, 1) := by decide +kernel
theorem dX11_traffic_38 : decode cX11_traffic 38 = .ok (.iload_n 3, 1) := by decide +kernel
theorem dX11_traffic_39 : decode cX11_traffic 39 = .ok (.iload 4, 2) := by decide +kernel
theorem dX11_traffic_41 : decode cX11_traffic 41 = .ok (.iload 5, 2) := by decide +kernel
theorem dX11_traffic_43 : decode cX11_traffic 43 = .ok (.invokevirtual 255, 3) := by decide +kernel
theorem dX11_traffic_46 : decode cX11_traffic 46 = .ok (.ireturn, 1) := by decide +kernel
theorem dX11_traffic_5 : decode cX11_traffic 5 = .ok (.invokestatic 130, 3) := by decide +kernel
theorem dX11_traffic_8 : decode cX11_traffic 8 = .ok (.ifCond .eq 20, 3) := by decide +kernel
def vs_k_minutes : List Cond := .code yX11_minutes cX11_minutes 3 (some .int) :: (([.fieldLink RX11 31 "KerbSplash" "now" "LKerbSplash$Street;", .initialized RX6, .instanceMethod yX6_isTold, .selects RX6 yX6_isTold yX6_isTold, .instanceMethod yX6_hasTime, .selects RX6 yX6_hasTime yX6_hasTime, .instanceMethod yX6_passMinutes, .selects RX6 yX6_passMinutes yX6_passMinutes] : List Cond) ++ ((va_wsS RX11 130 yX11_isWithin vs_s_within) ++ ((wsV RX11 134 RX11 yX11_needArgument vs_k_needArgument) ++ ((wsX110) ++ ((vs_s_isTold) ++ ((wsV RX11 202 RX11 yX11_needState vs_k_needState) ++ ((vs_s_hasTime) ++ ((vs_s_passMinutes) ++ ([])))))))))
theorem gd_k_minutes : vs_k_minutes.all goodWord = true := gd_C (by decide +kernel) (gd_A (by decide +kernel) (gd_A (gd_S gd_s_within (by decide +kernel)) (gd_A (gd_V gd_k_needArgument (by decide +kernel)) (gd_A (by decide +kernel) (gd_A gd_s_isTold (gd_A (gd_V gd_k_needState (by decide +kernel)) (gd_A gd_s_hasTime (gd_A gd_s_passMinutes rfl))))))))
set_option maxHeartbeats 4000000 in
set_option maxRecDepth 100000 in
theorem k_minutes (l : Launch) (hl : l.stackTraces = false) (D : va_G) (cy : Nat → ClassId) (sa : Nat → Nat) (kk ta kr kl sA dA pa ki kp wa or_ rq : Nat) (nr nw im : Int) (qf : Nat → Int32) (s2 s3 s6 s8 s11 s13 : Nat) (wi ro dr dt pe gu sh wo dn mi fl tk go : Int) (hf wf df : Nat → Int32) (n k : Int) (sz : Nat) (hr_nr : 0 ≤ nr ∧ nr ≤ 4) (hr_nw : 0 ≤ nw ∧ nw ≤ 4) (hr_im : 0 ≤ im ∧ im ≤ 3) (hr_wi : 0 ≤ wi ∧ wi ≤ 16) (hr_ro : 0 ≤ ro ∧ ro ≤ 6) (hr_dr : 0 ≤ dr ∧ dr ≤ 14) (hr_dt : 0 ≤ dt ∧ dt ≤ 6) (hr_pe : 0 ≤ pe ∧ pe ≤ 8) (hr_gu : 0 ≤ gu ∧ gu ≤ 20) (hr_sh : 0 ≤ sh ∧ sh ≤ 2) (hr_wo : 0 ≤ wo ∧ wo ≤ 8) (hr_dn : (-2147483648) ≤ dn ∧ dn ≤ 2147483647) (hr_mi : 0 ≤ mi ∧ mi ≤ 600) (hr_fl : (-2147483648) ≤ fl ∧ fl ≤ 2147483647) (hr_tk : (-2147483648) ≤ tk ∧ tk ≤ 2147483647) (hr_go : (-2147483648) ≤ go ∧ go ≤ 2147483647) (hr_n : (-2147483648) ≤ n ∧ n ≤ 2147483647) (hr_k : (-2147483648) ≤ k ∧ k ≤ 2147483647) (hhf : inv_ 96 0 99 hf) (hdf : tab_ 4 14 [0, 0, 0, 0] [15, 5, 99, 16] df) : xI9 l yX11_minutes vs_k_minutes ({ frames := 7, cells := 2, slots := 12, locals := 122 }) D cy sa sz [vR kk, vI n, vI k] [zO kk 11 [vR ta, vR kr, vR kl, vI nr, vI nw, vR sA, vR dA, vR pa, vR ki, vR kp, vI im, vR wa, vR or_, vR rq], zI rq (cy 0) 4 qf, zO sA 6 [vI wi, vI ro, vR s2, vR s3, vI dr, vI dt, vR s6, vI pe, vR s8, vI gu, vI sh, vR s11, vI wo, vR s13, vI dn, vI mi, vI fl, vI tk, vI go], zI s2 (cy 0) 96 hf, zI s3 (cy 0) 96 wf, zI s6 (cy 0) 56 df] (fun (r : Int32) (u : SV) => r = iI (u.2.1 0) ∧ ((-2147483648) ≤ u.2.1 0 ∧ u.2.1 0 ≤ 2147483647) ∧ (0 ≤ u.2.1 1 ∧ u.2.1 1 ≤ 600) ∧ ((-2147483648) ≤ u.2.1 2 ∧ u.2.1 2 ≤ 2147483647) ∧ ((-2147483648) ≤ u.2.1 3 ∧ u.2.1 3 ≤ 2147483647) ∧ inv_ 96 0 99 hf ∧ tab_ 4 14 [0, 0, 0, 0] [15, 5, 99, 16] df) (fun u : SV => [zO kk 11 [vR ta, vR kr, vR kl, vI nr, vI nw, vR sA, vR dA, vR pa, vR ki, vR kp, vI im, vR wa, vR or_, vR rq], zI rq (cy 0) 4 qf, zO sA 6 [vI wi, vI ro, vR s2, vR s3, vI dr, vI dt, vR s6, vI pe, vR s8, vI gu, vI sh, vR s11, vI wo, vR s13, vI dn, vI (u.2.1 1), vI (u.2.1 2), vI (u.2.1 3), vI go], zI s2 (cy 0) 96 hf, zI s3 (cy 0) 96 (u.2.2 0), zI s6 (cy 0) 56 df]) (fun (E : String) (u : SV) => (E = "java/lang/IllegalArgumentException" ∨ E = "java/lang/IllegalStateException")) (fun u : SV => [zO kk 11 [vR ta, vR kr, vR kl, vI nr, vI nw, vR sA, vR dA, vR pa, vR ki, vR kp, vI im, vR wa, vR or_, vR rq], zI rq (cy 0) 4 (u.2.2 0), zO sA 6 [vI wi, vI ro, vR s2, vR s3, vI dr, vI dt, vR s6, vI pe, vR s8, vI gu, vI sh, vR s11, vI wo, vR s13, vI dn, vI mi, vI fl, vI tk, vI go], zI s2 (cy 0) 96 hf, zI s3 (cy 0) 96 wf, zI s6 (cy 0) 56 df]) 2 12 := by
  refine vx_ofW (cc := cX11_minutes) (maxL := 3) (ret := (some .int)) (by decide) rfl ?_
  intro p e s m args below meth c s₁ B hml hex hv
  obtain ⟨rfl, hsz, hP, hG, hD0, hT⟩ := hv
  have hx := B.exec
  have hb := B.bytes
  have hr := B.returns
  have hts := atoms_spec (ws := vs_k_minutes) B.pre
  have hown : s.vm.findClass RX11 = some m.cls := findClass_of_methodNamed B.named
  have hlocks := B.notSynchronized
  subst hsz
  have hD := hD0.self (sz := s.heap.size)
  generalize hAe : va_A [zO kk 11 [vR ta, vR kr, vR kl, vI nr, vI nw, vR sA, vR dA, vR pa, vR ki, vR kp, vI im, vR wa, vR or_, vR rq], zI rq (cy 0) 4 qf, zO sA 6 [vI wi, vI ro, vR s2, vR s3, vI dr, vI dt, vR s6, vI pe, vR s8, vI gu, vI sh, vR s11, vI wo, vR s13, vI dn, vI mi, vI fl, vI tk, vI go], zI s2 (cy 0) 96 hf, zI s3 (cy 0) 96 wf, zI s6 (cy 0) 56 df] s.heap.size = A at hD hT ⊢
  have hA : ∀ q : Nat, s.heap.size ≤ q → A q := fun q h => by rw [← hAe]; exact Or.inr h
  have hS : va_S A s.heap s.heap [] := va_S.rf
  have hl0 := lv_entry ([vR kk, vI n, vI k]) (n := 3) (Nat.le_of_ble_eq_true rfl)
  rw [lg_entry_eq]
  generalize (lg_sl ([vR kk, vI n, vI k]) ++ List.replicate (3 - (lg_sl ([vR kk, vI n, vI k])).length) Slot.unset).toArray = ls at hl0 ⊢
  have hlv : lv_has ls 3 [(0, vR kk), (1, vI n), (2, vI k)] := hl0
  have gg_0 : GoodIn vs_k_minutes (va_wsS RX11 130 yX11_isWithin vs_s_within) := goodIn_sub (fun w h => List.mem_cons_of_mem _ (List.mem_append_right _ (List.mem_append_left _ h))) (gd_S gd_s_within (by decide +kernel))
  have gg_1 : GoodIn vs_k_minutes (wsV RX11 134 RX11 yX11_needArgument vs_k_needArgument) := goodIn_sub (fun w h => List.mem_cons_of_mem _ (List.mem_append_right _ (List.mem_append_right _ (List.mem_append_left _ h)))) (gd_V gd_k_needArgument (by decide +kernel))
  have lf31 := hts (.fieldLink RX11 31 "KerbSplash" "now" "LKerbSplash$Street;") (List.mem_of_getElem? (i := 1) rfl)
  have hi11 : ∀ w ∈ wsX110, w ∈ vs_k_minutes := fun w h => List.mem_cons_of_mem _ (List.mem_append_right _ (List.mem_append_right _ (List.mem_append_right _ (List.mem_append_left _ h))))
  have gg_3 : GoodIn vs_k_minutes (vs_s_isTold) := goodIn_sub (fun w h => List.mem_cons_of_mem _ (List.mem_append_right _ (List.mem_append_right _ (List.mem_append_right _ (List.mem_append_right _ (List.mem_append_left _ h)))))) gd_s_isTold
  have ini_RX6 := hts (.initialized RX6) (List.mem_of_getElem? (i := 2) rfl)
  have im_X6_isTold := hts (.instanceMethod yX6_isTold) (List.mem_of_getElem? (i := 3) rfl)
  have se_X6_isTold := hts (.selects RX6 yX6_isTold yX6_isTold) (List.mem_of_getElem? (i := 4) rfl)
  have gg_4 : GoodIn vs_k_minutes (wsV RX11 202 RX11 yX11_needState vs_k_needState) := goodIn_sub (fun w h => List.mem_cons_of_mem _ (List.mem_append_right _ (List.mem_append_right _ (List.mem_append_right _ (List.mem_append_right _ (List.mem_append_right _ (List.mem_append_left _ h))))))) (gd_V gd_k_needState (by decide +kernel))
  have gg_5 : GoodIn vs_k_minutes (vs_s_hasTime) := goodIn_sub (fun w h => List.mem_cons_of_mem _ (List.mem_append_right _ (List.mem_append_right _ (List.mem_append_right _ (List.mem_append_right _ (List.mem_append_right _ (List.mem_append_right _ (List.mem_append_left _ h)))))))) gd_s_hasTime
  have im_X6_hasTime := hts (.instanceMethod yX6_hasTime) (List.mem_of_getElem? (i := 5) rfl)
  have se_X6_hasTime := hts (.selects RX6 yX6_hasTime yX6_hasTime) (List.mem_of_getElem? (i := 6) rfl)
  have gg_6 : GoodIn vs_k_minutes (vs_s_passMinutes) := goodIn_sub (fun w h => List.mem_cons_of_mem _ (List.mem_append_right _ (List.mem_append_right _ (List.mem_append_right _ (List.mem_append_right _ (List.mem_append_right _ (List.mem_append_right _ (List.mem_append_right _ (List.mem_append_left _ h))))))))) gd_s_passMinutes
  have im_X6_passMinutes := hts (.instanceMethod yX6_passMinutes) (List.mem_of_getElem? (i := 7) rfl)
  have se_X6_passMinutes := hts (.selects RX6 yX6_passMinutes yX6_passMinutes) (List.mem_of_getElem? (i := 8) rfl)
  refine lv_aload_n hx hb dX11_minutes_0 rfl (lv_at hlv 0 rfl) ?_
  refine lv_iload_n hx hb dX11_minutes_1 rfl (lv_at hlv 1 rfl) ?_
  refine lv_iconst (v := iI 1) hx hb dX11_minutes_2 (by decide) ?_
  refine lv_bipush (v := iI 60) hx hb dX11_minutes_3 (by decide) ?_
  refine cjr_i [true, true, true, true, true, true] (fun pre9 => (va_runS (As := [vI n, vI 1, vI 60]) (rest := [vR kk]) ⟨hx, hb, hml, hown, hts⟩ (s_within l hl D cy sa n 1 60 s.heap.size (by first | exact hr_n | omega) (by show ((-2147483648) : Int) ≤ 1 ∧ (1 : Int) ≤ 2147483647; decide) (by show ((-2147483648) : Int) ≤ 60 ∧ (60 : Int) ≤ 2147483647; decide)) (va_cwS 3 hts gg_0 rfl rfl rfl (by decide +kernel) ⟨Nat.le_of_ble_eq_true rfl, Nat.le_of_ble_eq_true rfl⟩) ⟨pcW.blind, pre9⟩ rfl rfl hlv.1 rfl (lv_room (Nat.le_of_ble_eq_true rfl)) dX11_minutes_5 ⟨Nat.le_of_ble_eq_true rfl, Nat.le_of_ble_eq_true rfl⟩)) hP hD hS hA hG hT [] rfl (by decide +kernel) (fun r1 u1 H locs hw1 hq9 hS => ?_)
  obtain ⟨rfl, hq1_1, hq1_2, hq1_3⟩ := hw1
  obtain ⟨hP, hD⟩ := pd9 [zO kk 11 [vR ta, vR kr, vR kl, vI nr, vI nw, vR sA, vR dA, vR pa, vR ki, vR kp, vI im, vR wa, vR or_, vR rq], zI rq (cy 0) 4 qf, zO sA 6 [vI wi, vI ro, vR s2, vR s3, vI dr, vI dt, vR s6, vI pe, vR s8, vI gu, vI sh, vR s11, vI wo, vR s13, vI dn, vI mi, vI fl, vI tk, vI go], zI s2 (cy 0) 96 hf, zI s3 (cy 0) 96 wf, zI s6 (cy 0) 56 df] hq9
  refine iz_eq (tgt := 25) hx hb dX11_minutes_8 (by decide) (by first | exact rgw hq1_1 (by decide) (by decide) | omega) (fun c_1 => ?_) (fun c_1 => ?_)
  · refine lv_iconst (v := iI 0) hx hb dX11_minutes_25 (by decide) ?_
    refine cjrx_v [false, false, true, true, true, true] (fun pre9 => (vx_runV (As := [vI 0]) (rest := []) ⟨hx, hb, hml, hown, hts⟩ (k_needArgument l hl D cy sa kk ta kr kl sA dA pa ki kp wa or_ rq nr nw im qf 0 H.size (by first | exact hr_nr | omega) (by first | exact hr_nw | omega) (by first | exact hr_im | omega) (by show (0 : Int) ≤ 0 ∧ (0 : Int) ≤ 1; decide)) (cwV 1 hts gg_1 rfl rfl rfl (by decide +kernel) ⟨Nat.le_of_ble_eq_true rfl, Nat.le_of_ble_eq_true rfl⟩) ⟨pcW.blind, (va_recv hG.1 hP (ci := 11) (q0 := 0) rfl rfl), pre9⟩ rfl rfl hlv.1 rfl (lv_room (Nat.le_of_ble_eq_true rfl)) dX11_minutes_26 ⟨Nat.le_of_ble_eq_true rfl, Nat.le_of_ble_eq_true rfl⟩)) hP hD hS hA hG hT [0, 1] rfl (by decide +kernel) (fun E ux2 ce q9 H locs hp hq9 hS h1 h2 h3 => ?_) (fun u2 H locs hw2 hq9 hS => ?_)
    · obtain ⟨hP, hD⟩ := hq9
      obtain ⟨hp, hxg2⟩ := hp
      obtain rfl := hp
      exact vx_out (fun x h => (hex x h).elim) hlocks h1 h2 h3 (fun t ht hvm => ⟨((fun k => ([] : List Nat).getD k 0), (fun k => ([] : List Int).getD k 0), (fun k => ([(ux2.2.2 0)] : List (Nat → Int32)).getD k (fun _ => 0))), trivial, ⟨Or.inl rfl, at9 ht hP hD [4, 5, 0, 1, 2, 3] (by decide +kernel) rfl⟩, hS.F ht⟩) hS.2.2 (Nat.le_of_ble_eq_true rfl) (Nat.le_of_ble_eq_true rfl)
    have hq2_0 : ((0 : Int) = 1) := hw2
    obtain ⟨hP, hD⟩ := pd9 [zO sA 6 [vI wi, vI ro, vR s2, vR s3, vI dr, vI dt, vR s6, vI pe, vR s8, vI gu, vI sh, vR s11, vI wo, vR s13, vI dn, vI mi, vI fl, vI tk, vI go], zI s2 (cy 0) 96 hf, zI s3 (cy 0) 96 wf, zI s6 (cy 0) 56 df, zO kk 11 [vR ta, vR kr, vR kl, vI nr, vI nw, vR sA, vR dA, vR pa, vR ki, vR kp, vI im, vR wa, vR or_, vR rq], zI rq (cy 0) 4 qf] hq9
    exfalso; omega
  · refine lv_iload_n hx hb dX11_minutes_11 rfl (lv_at hlv 2 rfl) ?_
    refine lv_iconst (v := iI 0) hx hb dX11_minutes_12 (by decide) ?_
    refine lv_bipush (v := iI 20) hx hb dX11_minutes_13 (by decide) ?_
    refine cjr_i [true, true, true, true, true, true] (fun pre9 => (va_runS (As := [vI k, vI 0, vI 20]) (rest := [vR kk]) ⟨hx, hb, hml, hown, hts⟩ (s_within l hl D cy sa k 0 20 H.size (by first | exact hr_k | omega) (by show ((-2147483648) : Int) ≤ 0 ∧ (0 : Int) ≤ 2147483647; decide) (by show ((-2147483648) : Int) ≤ 20 ∧ (20 : Int) ≤ 2147483647; decide)) (va_cwS 3 hts gg_0 rfl rfl rfl (by decide +kernel) ⟨Nat.le_of_ble_eq_true rfl, Nat.le_of_ble_eq_true rfl⟩) ⟨pcW.blind, pre9⟩ rfl rfl hlv.1 rfl (lv_room (Nat.le_of_ble_eq_true rfl)) dX11_minutes_15 ⟨Nat.le_of_ble_eq_true rfl, Nat.le_of_ble_eq_true rfl⟩)) hP hD hS hA hG hT [] rfl (by decide +kernel) (fun r3 u3 H locs hw3 hq9 hS => ?_)
    obtain ⟨rfl, hq3_1, hq3_2, hq3_3⟩ := hw3
    obtain ⟨hP, hD⟩ := pd9 [zO kk 11 [vR ta, vR kr, vR kl, vI nr, vI nw, vR sA, vR dA, vR pa, vR ki, vR kp, vI im, vR wa, vR or_, vR rq], zI rq (cy 0) 4 qf, zO sA 6 [vI wi, vI ro, vR s2, vR s3, vI dr, vI dt, vR s6, vI pe, vR s8, vI gu, vI sh, vR s11, vI wo, vR s13, vI dn, vI mi, vI fl, vI tk, vI go], zI s2 (cy 0) 96 hf, zI s3 (cy 0) 96 wf, zI s6 (cy 0) 56 df] hq9
    refine iz_eq (tgt := 25) hx hb dX11_minutes_18 (by decide) (by first | exact rgw hq3_1 (by decide) (by decide) | omega) (fun c_2 => ?_) (fun c_2 => ?_)
    · refine lv_iconst (v := iI 0) hx hb dX11_minutes_25 (by decide) ?_
      refine cjrx_v [false, false, true, true, true, true] (fun pre9 => (vx_runV (As := [vI 0]) (rest := []) ⟨hx, hb, hml, hown, hts⟩ (k_needArgument l hl D cy sa kk ta kr kl sA dA pa ki kp wa or_ rq nr nw im qf 0 H.size (by first | exact hr_nr | omega) (by first | exact hr_nw | omega) (by first | exact hr_im | omega) (by show (0 : Int) ≤ 0 ∧ (0 : Int) ≤ 1; decide)) (cwV 1 hts gg_1 rfl rfl rfl (by decide +kernel) ⟨Nat.le_of_ble_eq_true rfl, Nat.le_of_ble_eq_true rfl⟩) ⟨pcW.blind, (va_recv hG.1 hP (ci := 11) (q0 := 0) rfl rfl), pre9⟩ rfl rfl hlv.1 rfl (lv_room (Nat.le_of_ble_eq_true rfl)) dX11_minutes_26 ⟨Nat.le_of_ble_eq_true rfl, Nat.le_of_ble_eq_true rfl⟩)) hP hD hS hA hG hT [0, 1] rfl (by decide +kernel) (fun E ux4 ce q9 H locs hp hq9 hS h1 h2 h3 => ?_) (fun u4 H locs hw4 hq9 hS => ?_)
      · obtain ⟨hP, hD⟩ := hq9
        obtain ⟨hp, hxg4⟩ := hp
        obtain rfl := hp
        exact vx_out (fun x h => (hex x h).elim) hlocks h1 h2 h3 (fun t ht hvm => ⟨((fun k => ([] : List Nat).getD k 0), (fun k => ([] : List Int).getD k 0), (fun k => ([(ux4.2.2 0)] : List (Nat → Int32)).getD k (fun _ => 0))), trivial, ⟨Or.inl rfl, at9 ht hP hD [4, 5, 0, 1, 2, 3] (by decide +kernel) rfl⟩, hS.F ht⟩) hS.2.2 (Nat.le_of_ble_eq_true rfl) (Nat.le_of_ble_eq_true rfl)
      have hq4_0 : ((0 : Int) = 1) := hw4
      obtain ⟨hP, hD⟩ := pd9 [zO sA 6 [vI wi, vI ro, vR s2, vR s3, vI dr, vI dt, vR s6, vI pe, vR s8, vI gu, vI sh, vR s11, vI wo, vR s13, vI dn, vI mi, vI fl, vI tk, vI go], zI s2 (cy 0) 96 hf, zI s3 (cy 0) 96 wf, zI s6 (cy 0) 56 df, zO kk 11 [vR ta, vR kr, vR kl, vI nr, vI nw, vR sA, vR dA, vR pa, vR ki, vR kp, vI im, vR wa, vR or_, vR rq], zI rq (cy 0) 4 qf] hq9
      exfalso; omega
    · refine lv_iconst (v := iI 1) hx hb dX11_minutes_21 (by decide) ?_
      refine lv_goto (tgt := 26) hx hb dX11_minutes_22 (by decide) ?_
      refine cjrx_v [false, false, true, true, true, true] (fun pre9 => (vx_runV (As := [vI 1]) (rest := []) ⟨hx, hb, hml, hown, hts⟩ (k_needArgument l hl D cy sa kk ta kr kl sA dA pa ki kp wa or_ rq nr nw im qf 1 H.size (by first | exact hr_nr | omega) (by first | exact hr_nw | omega) (by first | exact hr_im | omega) (by show (0 : Int) ≤ 1 ∧ (1 : Int) ≤ 1; decide)) (cwV 1 hts gg_1 rfl rfl rfl (by decide +kernel) ⟨Nat.le_of_ble_eq_true rfl, Nat.le_of_ble_eq_true rfl⟩) ⟨pcW.blind, (va_recv hG.1 hP (ci := 11) (q0 := 0) rfl rfl), pre9⟩ rfl rfl hlv.1 rfl (lv_room (Nat.le_of_ble_eq_true rfl)) dX11_minutes_26 ⟨Nat.le_of_ble_eq_true rfl, Nat.le_of_ble_eq_true rfl⟩)) hP hD hS hA hG hT [0, 1] rfl (by decide +kernel) (fun E ux5 ce q9 H locs hp hq9 hS h1 h2 h3 => ?_) (fun u5 H locs hw5 hq9 hS => ?_)
      · obtain ⟨hP, hD⟩ := hq9
        obtain ⟨hp, hxg5⟩ := hp
        obtain rfl := hp
        exact vx_out (fun x h => (hex x h).elim) hlocks h1 h2 h3 (fun t ht hvm => ⟨((fun k => ([] : List Nat).getD k 0), (fun k => ([] : List Int).getD k 0), (fun k => ([(ux5.2.2 0)] : List (Nat → Int32)).getD k (fun _ => 0))), trivial, ⟨Or.inl rfl, at9 ht hP hD [4, 5, 0, 1, 2, 3] (by decide +kernel) rfl⟩, hS.F ht⟩) hS.2.2 (Nat.le_of_ble_eq_true rfl) (Nat.le_of_ble_eq_true rfl)
      have hq5_0 : ((1 : Int) = 1) := hw5
      obtain ⟨hP, hD⟩ := pd9 [zO sA 6 [vI wi, vI ro, vR s2, vR s3, vI dr, vI dt, vR s6, vI pe, vR s8, vI gu, vI sh, vR s11, vI wo, vR s13, vI dn, vI mi, vI fl, vI tk, vI go], zI s2 (cy 0) 96 hf, zI s3 (cy 0) 96 wf, zI s6 (cy 0) 56 df, zO kk 11 [vR ta, vR kr, vR kl, vI nr, vI nw, vR sA, vR dA, vR pa, vR ki, vR kp, vI im, vR wa, vR or_, vR rq], zI rq (cy 0) 4 qf] hq9
      refine lv_aload_n hx hb dX11_minutes_29 rfl (lv_at hlv 0 rfl) ?_
      refine lv_aload_n hx hb dX11_minutes_30 rfl (lv_at hlv 0 rfl) ?_
      refine va_get (D := D) (ci := 11) (v := vR sA) (C := RX11) (T := TX11) (N := 14) hx hb hts hi11 hown hG.1 hP 4 rfl rfl 5 (by decide) lf31 (fun _ h9 => h9) rfl dX11_minutes_31 ?_
      refine cjr_i [false, true, true, true, true, true] (fun pre9 => (va_runVN (host := "KerbSplash") (As := []) (rest := [vR kk]) ⟨hx, hb, hml, hown, hts⟩ (s_isTold l hl D cy sa sA s2 s3 s6 s8 s11 s13 wi ro dr dt pe gu sh wo dn mi fl tk go H.size (by first | exact hr_wi | omega) (by first | exact hr_ro | omega) (by first | exact hr_dr | omega) (by first | exact hr_dt | omega) (by first | exact hr_pe | omega) (by first | exact hr_gu | omega) (by first | exact hr_sh | omega) (by first | exact hr_wo | omega) (by first | exact hr_dn | omega) (by first | exact hr_mi | omega) (by first | exact hr_fl | omega) (by first | exact hr_tk | omega) (by first | exact hr_go | omega)) ⟨va_cnB 0 hts gg_3 rfl rfl rfl (nM_K_196 hG.2.1) ini_RX6 (by decide +kernel) ⟨Nat.le_of_ble_eq_true rfl, Nat.le_of_ble_eq_true rfl⟩, im_X6_isTold, se_X6_isTold⟩ ⟨pcW.blind, (va_recv hG.1 hP (ci := 6) (q0 := 0) rfl rfl), pre9⟩ rfl rfl hlv.1 rfl (lv_room (Nat.le_of_ble_eq_true rfl)) dX11_minutes_34 ⟨Nat.le_of_ble_eq_true rfl, Nat.le_of_ble_eq_true rfl⟩)) hP hD hS hA hG hT [0] rfl (by decide +kernel) (fun r6 u6 H locs hw6 hq9 hS => ?_)
      obtain ⟨rfl, hq6_1, hq6_2⟩ := hw6
      obtain ⟨hP, hD⟩ := pd9 [zI s2 (cy 0) 96 hf, zI s3 (cy 0) 96 wf, zI s6 (cy 0) 56 df, zO kk 11 [vR ta, vR kr, vR kl, vI nr, vI nw, vR sA, vR dA, vR pa, vR ki, vR kp, vI im, vR wa, vR or_, vR rq], zI rq (cy 0) 4 qf, zO sA 6 [vI wi, vI ro, vR s2, vR s3, vI dr, vI dt, vR s6, vI pe, vR s8, vI gu, vI sh, vR s11, vI wo, vR s13, vI dn, vI mi, vI fl, vI tk, vI go]] hq9
      refine iz_eq (tgt := 54) hx hb dX11_minutes_37 (by decide) (by first | exact rgw hq6_1 (by decide) (by decide) | omega) (fun c_3 => ?_) (fun c_3 => ?_)
      · refine lv_iconst (v := iI 0) hx hb dX11_minutes_54 (by decide) ?_
        refine cjrx_v [true, true, true, false, false, true] (fun pre9 => (vx_runV (As := [vI 0]) (rest := []) ⟨hx, hb, hml, hown, hts⟩ (k_needState l hl D cy sa kk ta kr kl sA dA pa ki kp wa or_ rq nr nw im qf 0 H.size (by first | exact hr_nr | omega) (by first | exact hr_nw | omega) (by first | exact hr_im | omega) (by show (0 : Int) ≤ 0 ∧ (0 : Int) ≤ 1; decide)) (cwV 1 hts gg_4 rfl rfl rfl (by decide +kernel) ⟨Nat.le_of_ble_eq_true rfl, Nat.le_of_ble_eq_true rfl⟩) ⟨pcW.blind, (va_recv hG.1 hP (ci := 11) (q0 := 3) rfl rfl), pre9⟩ rfl rfl hlv.1 rfl (lv_room (Nat.le_of_ble_eq_true rfl)) dX11_minutes_55 ⟨Nat.le_of_ble_eq_true rfl, Nat.le_of_ble_eq_true rfl⟩)) hP hD hS hA hG hT [3, 4] rfl (by decide +kernel) (fun E ux7 ce q9 H locs hp hq9 hS h1 h2 h3 => ?_) (fun u7 H locs hw7 hq9 hS => ?_)
        · obtain ⟨hP, hD⟩ := hq9
          obtain ⟨hp, hxg7⟩ := hp
          obtain rfl := hp
          exact vx_out (fun x h => (hex x h).elim) hlocks h1 h2 h3 (fun t ht hvm => ⟨((fun k => ([] : List Nat).getD k 0), (fun k => ([] : List Int).getD k 0), (fun k => ([(ux7.2.2 0)] : List (Nat → Int32)).getD k (fun _ => 0))), trivial, ⟨Or.inr (rfl), at9 ht hP hD [4, 5, 3, 0, 1, 2] (by decide +kernel) rfl⟩, hS.F ht⟩) hS.2.2 (Nat.le_of_ble_eq_true rfl) (Nat.le_of_ble_eq_true rfl)
        have hq7_0 : ((0 : Int) = 1) := hw7
        obtain ⟨hP, hD⟩ := pd9 [zI s2 (cy 0) 96 hf, zI s3 (cy 0) 96 wf, zI s6 (cy 0) 56 df, zO sA 6 [vI wi, vI ro, vR s2, vR s3, vI dr, vI dt, vR s6, vI pe, vR s8, vI gu, vI sh, vR s11, vI wo, vR s13, vI dn, vI mi, vI fl, vI tk, vI go], zO kk 11 [vR ta, vR kr, vR kl, vI nr, vI nw, vR sA, vR dA, vR pa, vR ki, vR kp, vI im, vR wa, vR or_, vR rq], zI rq (cy 0) 4 qf] hq9
        exfalso; omega
      · refine lv_aload_n hx hb dX11_minutes_40 rfl (lv_at hlv 0 rfl) ?_
        refine va_get (D := D) (ci := 11) (v := vR sA) (C := RX11) (T := TX11) (N := 14) hx hb hts hi11 hown hG.1 hP 3 rfl rfl 5 (by decide) lf31 (fun _ h9 => h9) rfl dX11_minutes_41 ?_
        refine cjr_i [true, true, true, true, true, false] (fun pre9 => (va_runVN (host := "KerbSplash") (As := []) (rest := [vR kk]) ⟨hx, hb, hml, hown, hts⟩ (s_hasTime l hl D cy sa sA s2 s3 s6 s8 s11 s13 wi ro dr dt pe gu sh wo dn mi fl tk go H.size (by first | exact hr_wi | omega) (by first | exact hr_ro | omega) (by first | exact hr_dr | omega) (by first | exact hr_dt | omega) (by first | exact hr_pe | omega) (by first | exact hr_gu | omega) (by first | exact hr_sh | omega) (by first | exact hr_wo | omega) (by first | exact hr_dn | omega) (by first | exact hr_mi | omega) (by first | exact hr_fl | omega) (by first | exact hr_tk | omega) (by first | exact hr_go | omega)) ⟨va_cnB 0 hts gg_5 rfl rfl rfl (nM_K_199 hG.2.1) ini_RX6 (by decide +kernel) ⟨Nat.le_of_ble_eq_true rfl, Nat.le_of_ble_eq_true rfl⟩, im_X6_hasTime, se_X6_hasTime⟩ ⟨pcW.blind, (va_recv hG.1 hP (ci := 6) (q0 := 5) rfl rfl), pre9⟩ rfl rfl hlv.1 rfl (lv_room (Nat.le_of_ble_eq_true rfl)) dX11_minutes_44 ⟨Nat.le_of_ble_eq_true rfl, Nat.le_of_ble_eq_true rfl⟩)) hP hD hS hA hG hT [5] rfl (by decide +kernel) (fun r8 u8 H locs hw8 hq9 hS => ?_)
        obtain ⟨rfl, hq8_1, hq8_2⟩ := hw8
        obtain ⟨hP, hD⟩ := pd9 [zI s2 (cy 0) 96 hf, zI s3 (cy 0) 96 wf, zI s6 (cy 0) 56 df, zO kk 11 [vR ta, vR kr, vR kl, vI nr, vI nw, vR sA, vR dA, vR pa, vR ki, vR kp, vI im, vR wa, vR or_, vR rq], zI rq (cy 0) 4 qf, zO sA 6 [vI wi, vI ro, vR s2, vR s3, vI dr, vI dt, vR s6, vI pe, vR s8, vI gu, vI sh, vR s11, vI wo, vR s13, vI dn, vI mi, vI fl, vI tk, vI go]] hq9
        refine iz_eq (tgt := 54) hx hb dX11_minutes_47 (by decide) (by first | exact rgw hq8_1 (by decide) (by decide) | omega) (fun c_4 => ?_) (fun c_4 => ?_)
        · refine lv_iconst (v := iI 0) hx hb dX11_minutes_54 (by decide) ?_
          refine cjrx_v [true, true, true, false, false, true] (fun pre9 => (vx_runV (As := [vI 0]) (rest := []) ⟨hx, hb, hml, hown, hts⟩ (k_needState l hl D cy sa kk ta kr kl sA dA pa ki kp wa or_ rq nr nw im qf 0 H.size (by first | exact hr_nr | omega) (by first | exact hr_nw | omega) (by first | exact hr_im | omega) (by show (0 : Int) ≤ 0 ∧ (0 : Int) ≤ 1; decide)) (cwV 1 hts gg_4 rfl rfl rfl (by decide +kernel) ⟨Nat.le_of_ble_eq_true rfl, Nat.le_of_ble_eq_true rfl⟩) ⟨pcW.blind, (va_recv hG.1 hP (ci := 11) (q0 := 3) rfl rfl), pre9⟩ rfl rfl hlv.1 rfl (lv_room (Nat.le_of_ble_eq_true rfl)) dX11_minutes_55 ⟨Nat.le_of_ble_eq_true rfl, Nat.le_of_ble_eq_true rfl⟩)) hP hD hS hA hG hT [3, 4] rfl (by decide +kernel) (fun E ux9 ce q9 H locs hp hq9 hS h1 h2 h3 => ?_) (fun u9 H locs hw9 hq9 hS => ?_)
          · obtain ⟨hP, hD⟩ := hq9
            obtain ⟨hp, hxg9⟩ := hp
            obtain rfl := hp
            exact vx_out (fun x h => (hex x h).elim) hlocks h1 h2 h3 (fun t ht hvm => ⟨((fun k => ([] : List Nat).getD k 0), (fun k => ([] : List Int).getD k 0), (fun k => ([(ux9.2.2 0)] : List (Nat → Int32)).getD k (fun _ => 0))), trivial, ⟨Or.inr (rfl), at9 ht hP hD [4, 5, 3, 0, 1, 2] (by decide +kernel) rfl⟩, hS.F ht⟩) hS.2.2 (Nat.le_of_ble_eq_true rfl) (Nat.le_of_ble_eq_true rfl)
          have hq9_0 : ((0 : Int) = 1) := hw9
          obtain ⟨hP, hD⟩ := pd9 [zI s2 (cy 0) 96 hf, zI s3 (cy 0) 96 wf, zI s6 (cy 0) 56 df, zO sA 6 [vI wi, vI ro, vR s2, vR s3, vI dr, vI dt, vR s6, vI pe, vR s8, vI gu, vI sh, vR s11, vI wo, vR s13, vI dn, vI mi, vI fl, vI tk, vI go], zO kk 11 [vR ta, vR kr, vR kl, vI nr, vI nw, vR sA, vR dA, vR pa, vR ki, vR kp, vI im, vR wa, vR or_, vR rq], zI rq (cy 0) 4 qf] hq9
          exfalso; omega
        · refine lv_iconst (v := iI 1) hx hb dX11_minutes_50 (by decide) ?_
          refine lv_goto (tgt := 55) hx hb dX11_minutes_51 (by decide) ?_
          refine cjrx_v [true, true, true, false, false, true] (fun pre9 => (vx_runV (As := [vI 1]) (rest := []) ⟨hx, hb, hml, hown, hts⟩ (k_needState l hl D cy sa kk ta kr kl sA dA pa ki kp wa or_ rq nr nw im qf 1 H.size (by first | exact hr_nr | omega) (by first | exact hr_nw | omega) (by first | exact hr_im | omega) (by show (0 : Int) ≤ 1 ∧ (1 : Int) ≤ 1; decide)) (cwV 1 hts gg_4 rfl rfl rfl (by decide +kernel) ⟨Nat.le_of_ble_eq_true rfl, Nat.le_of_ble_eq_true rfl⟩) ⟨pcW.blind, (va_recv hG.1 hP (ci := 11) (q0 := 3) rfl rfl), pre9⟩ rfl rfl hlv.1 rfl (lv_room (Nat.le_of_ble_eq_true rfl)) dX11_minutes_55 ⟨Nat.le_of_ble_eq_true rfl, Nat.le_of_ble_eq_true rfl⟩)) hP hD hS hA hG hT [3, 4] rfl (by decide +kernel) (fun E ux10 ce q9 H locs hp hq9 hS h1 h2 h3 => ?_) (fun u10 H locs hw10 hq9 hS => ?_)
          · obtain ⟨hP, hD⟩ := hq9
            obtain ⟨hp, hxg10⟩ := hp
            obtain rfl := hp
            exact vx_out (fun x h => (hex x h).elim) hlocks h1 h2 h3 (fun t ht hvm => ⟨((fun k => ([] : List Nat).getD k 0), (fun k => ([] : List Int).getD k 0), (fun k => ([(ux10.2.2 0)] : List (Nat → Int32)).getD k (fun _ => 0))), trivial, ⟨Or.inr (rfl), at9 ht hP hD [4, 5, 3, 0, 1, 2] (by decide +kernel) rfl⟩, hS.F ht⟩) hS.2.2 (Nat.le_of_ble_eq_true rfl) (Nat.le_of_ble_eq_true rfl)
          have hq10_0 : ((1 : Int) = 1) := hw10
          obtain ⟨hP, hD⟩ := pd9 [zI s2 (cy 0) 96 hf, zI s3 (cy 0) 96 wf, zI s6 (cy 0) 56 df, zO sA 6 [vI wi, vI ro, vR s2, vR s3, vI dr, vI dt, vR s6, vI pe, vR s8, vI gu, vI sh, vR s11, vI wo, vR s13, vI dn, vI mi, vI fl, vI tk, vI go], zO kk 11 [vR ta, vR kr, vR kl, vI nr, vI nw, vR sA, vR dA, vR pa, vR ki, vR kp, vI im, vR wa, vR or_, vR rq], zI rq (cy 0) 4 qf] hq9
          refine lv_aload_n hx hb dX11_minutes_58 rfl (lv_at hlv 0 rfl) ?_
          refine va_get (D := D) (ci := 11) (v := vR sA) (C := RX11) (T := TX11) (N := 14) hx hb hts hi11 hown hG.1 hP 4 rfl rfl 5 (by decide) lf31 (fun _ h9 => h9) rfl dX11_minutes_59 ?_
          refine lv_iload_n hx hb dX11_minutes_62 rfl (lv_at hlv 1 rfl) ?_
          refine lv_iload_n hx hb dX11_minutes_63 rfl (lv_at hlv 2 rfl) ?_
          refine cjr_i [false, false, false, false, true, true] (fun pre9 => (va_runVN (host := "KerbSplash") (As := [vI n, vI k]) (rest := []) ⟨hx, hb, hml, hown, hts⟩ (s_passMinutes l hl D cy sa sA s2 s3 s6 s8 s11 s13 wi ro dr dt pe gu sh wo dn mi fl tk go hf wf df n k H.size (by first | exact hr_wi | omega) (by first | exact hr_ro | omega) (by first | exact hr_dr | omega) (by first | exact hr_dt | omega) (by first | exact hr_pe | omega) (by first | exact hr_gu | omega) (by first | exact hr_sh | omega) (by first | exact hr_wo | omega) (by first | exact hr_dn | omega) (by first | exact hr_mi | omega) (by first | exact hr_fl | omega) (by first | exact hr_tk | omega) (by first | exact hr_go | omega) (by omega) (by omega) hhf hdf) ⟨va_cnB 2 hts gg_6 rfl rfl rfl (nM_K_205 hG.2.1) ini_RX6 (by decide +kernel) ⟨Nat.le_of_ble_eq_true rfl, Nat.le_of_ble_eq_true rfl⟩, im_X6_passMinutes, se_X6_passMinutes⟩ ⟨pcW.blind, (va_recv hG.1 hP (ci := 6) (q0 := 3) rfl rfl), pre9⟩ rfl rfl hlv.1 rfl (lv_room (Nat.le_of_ble_eq_true rfl)) dX11_minutes_64 ⟨Nat.le_of_ble_eq_true rfl, Nat.le_of_ble_eq_true rfl⟩)) hP hD hS hA hG hT [3, 0, 1, 2] rfl (by decide +kernel) (fun r11 u11 H locs hw11 hq9 hS => ?_)
          obtain ⟨rfl, hq11_1, hq11_2, hq11_3, hq11_4, hq11_5, hq11_6⟩ := hw11
          obtain ⟨hP, hD⟩ := pd9 [zO kk 11 [vR ta, vR kr, vR kl, vI nr, vI nw, vR sA, vR dA, vR pa, vR ki, vR kp, vI im, vR wa, vR or_, vR rq], zI rq (cy 0) 4 qf, zO sA 6 [vI wi, vI ro, vR s2, vR s3, vI dr, vI dt, vR s6, vI pe, vR s8, vI gu, vI sh, vR s11, vI wo, vR s13, vI dn, vI (u11.2.1 0), vI (u11.2.1 1), vI (u11.2.1 2), vI go], zI s2 (cy 0) 96 hf, zI s3 (cy 0) 96 (u11.2.2 0), zI s6 (cy 0) 56 df] hq9
          refine W.widen (k := 2) (n := 12) (Nat.le_of_ble_eq_true rfl) (Nat.le_of_ble_eq_true rfl) ?_
          refine vx_ret ?_
          exact W.iret (v := iI (u11.2.1 3)) hx hb hr (fun t ht hW => ⟨⟨iI (u11.2.1 3), ((fun k => ([] : List Nat).getD k 0), (fun k => ([(u11.2.1 3), (u11.2.1 0), (u11.2.1 1), (u11.2.1 2)] : List Int).getD k 0), (fun k => ([(u11.2.2 0)] : List (Nat → Int32)).getD k (fun _ => 0))), rfl, ⟨rfl, (by show ((-2147483648) ≤ (u11.2.1 3) ∧ (u11.2.1 3) ≤ 2147483647); first | exact rgw hq11_4 (by decide) (by decide) | omega), (by show (0 ≤ (u11.2.1 0) ∧ (u11.2.1 0) ≤ 600); first | exact hq11_1 | omega), (by show ((-2147483648) ≤ (u11.2.1 1) ∧ (u11.2.1 1) ≤ 2147483647); first | exact hq11_2 | omega), (by show ((-2147483648) ≤ (u11.2.1 2) ∧ (u11.2.1 2) ≤ 2147483647); first | exact hq11_3 | omega), hq11_5, hq11_6⟩, at9 ht hP hD [0, 1, 2, 3, 4, 5] (by decide +kernel) rfl⟩, hS.F ht⟩) hS.2.2 dX11_minutes_67
def vs_k_shower : List Cond := .code yX11_shower cX11_shower 2 (some .int) :: (([.fieldLink RX11 31 "KerbSplash" "now" "LKerbSplash$Street;", .initialized RX6, .instanceMethod yX6_isTold, .selects RX6 yX6_isTold yX6_isTold, .instanceMethod yX6_hasTime, .selects RX6 yX6_hasTime yX6_hasTime, .fieldLink RX11 18 "KerbSplash" "rains" "[LKerbSplash$Rain;", .instanceMethod yX6_passRain, .selects RX6 yX6_passRain yX6_passRain] : List Cond) ++ ((wsV RX11 208 RX11 yX11_needRain vs_k_needRain) ++ ((wsX110) ++ ((vs_s_isTold) ++ ((wsV RX11 202 RX11 yX11_needState vs_k_needState) ++ ((vs_s_hasTime) ++ ((vs_s_passRain) ++ ([]))))))))
theorem gd_k_shower : vs_k_shower.all goodWord = true := gd_C (by decide +kernel) (gd_A (by decide +kernel) (gd_A (gd_V gd_k_needRain (by decide +kernel)) (gd_A (by decide +kernel) (gd_A gd_s_isTold (gd_A (gd_V gd_k_needState (by decide +kernel)) (gd_A gd_s_hasTime (gd_A gd_s_passRain rfl)))))))
set_option maxHeartbeats 4000000 in
set_option maxRecDepth 100000 in
theorem k_shower (l : Launch) (hl : l.stackTraces = false) (D : va_G) (cy : Nat → ClassId) (sa : Nat → Nat) (kk ta kr kl sA dA pa ki kp wa or_ rq : Nat) (nr nw im : Int) (qf : Nat → Int32) (s2 s3 s6 s8 s11 s13 : Nat) (wi ro dr dt pe gu sh wo dn mi fl tk go : Int) (hf wf df : Nat → Int32) (krf : Nat → Option Nat) (ra rf : Nat) (rm : Int) (ff : Nat → Int32) (n : Int) (sz : Nat) (hr_nr : 0 ≤ nr ∧ nr ≤ 4) (hr_nw : 0 ≤ nw ∧ nw ≤ 4) (hr_im : 0 ≤ im ∧ im ≤ 3) (hr_wi : 0 ≤ wi ∧ wi ≤ 16) (hr_ro : 0 ≤ ro ∧ ro ≤ 6) (hr_dr : 0 ≤ dr ∧ dr ≤ 14) (hr_dt : 0 ≤ dt ∧ dt ≤ 6) (hr_pe : 0 ≤ pe ∧ pe ≤ 8) (hr_gu : 0 ≤ gu ∧ gu ≤ 20) (hr_sh : 0 ≤ sh ∧ sh ≤ 2) (hr_wo : 0 ≤ wo ∧ wo ≤ 8) (hr_dn : (-2147483648) ≤ dn ∧ dn ≤ 2147483647) (hr_mi : 0 ≤ mi ∧ mi ≤ 600) (hr_fl : (-2147483648) ≤ fl ∧ fl ≤ 2147483647) (hr_tk : (-2147483648) ≤ tk ∧ tk ≤ 2147483647) (hr_go : (-2147483648) ≤ go ∧ go ≤ 2147483647) (hr_rm : 0 ≤ rm ∧ rm ≤ 240) (hr_n : (-2147483648) ≤ n ∧ n ≤ 2147483647) (hp0 : 0 ≤ n ∧ n < 4 → krf n.toNat = some ra) (hhf : inv_ 96 0 99 hf) (hdf : tab_ 4 14 [0, 0, 0, 0] [15, 5, 99, 16] df) (hff : inv_ 240 0 20 ff) : xI9 l yX11_shower vs_k_shower ({ frames := 8, cells := 2, slots := 12, locals := 142 }) D cy sa sz [vR kk, vI n] [zO kk 11 [vR ta, vR kr, vR kl, vI nr, vI nw, vR sA, vR dA, vR pa, vR ki, vR kp, vI im, vR wa, vR or_, vR rq], zI rq (cy 0) 4 qf, zO sA 6 [vI wi, vI ro, vR s2, vR s3, vI dr, vI dt, vR s6, vI pe, vR s8, vI gu, vI sh, vR s11, vI wo, vR s13, vI dn, vI mi, vI fl, vI tk, vI go], zI s2 (cy 0) 96 hf, zI s3 (cy 0) 96 wf, zI s6 (cy 0) 56 df, zQ kr (cy 4) 4 krf, zO ra 5 [vR rf, vI rm], zI rf (cy 0) 240 ff] (fun (r : Int32) (u : SV) => r = iI (u.2.1 0) ∧ ((-2147483648) ≤ u.2.1 0 ∧ u.2.1 0 ≤ 2147483647) ∧ (0 ≤ u.2.1 1 ∧ u.2.1 1 ≤ 600) ∧ ((-2147483648) ≤ u.2.1 2 ∧ u.2.1 2 ≤ 2147483647) ∧ ((-2147483648) ≤ u.2.1 3 ∧ u.2.1 3 ≤ 2147483647) ∧ inv_ 96 0 99 hf ∧ tab_ 4 14 [0, 0, 0, 0] [15, 5, 99, 16] df ∧ inv_ 240 0 20 ff) (fun u : SV => [zO kk 11 [vR ta, vR kr, vR kl, vI nr, vI nw, vR sA, vR dA, vR pa, vR ki, vR kp, vI im, vR wa, vR or_, vR rq], zI rq (cy 0) 4 qf, zO sA 6 [vI wi, vI ro, vR s2, vR s3, vI dr, vI dt, vR s6, vI pe, vR s8, vI gu, vI sh, vR s11, vI wo, vR s13, vI dn, vI (u.2.1 1), vI (u.2.1 2), vI (u.2.1 3), vI go], zI s2 (cy 0) 96 hf, zI s3 (cy 0) 96 (u.2.2 0), zI s6 (cy 0) 56 df, zQ kr (cy 4) 4 krf, zO ra 5 [vR rf, vI rm], zI rf (cy 0) 240 ff]) (fun (E : String) (u : SV) => (E = "java/util/NoSuchElementException" ∨ E = "java/lang/IllegalStateException")) (fun u : SV => [zO kk 11 [vR ta, vR kr, vR kl, vI nr, vI nw, vR sA, vR dA, vR pa, vR ki, vR kp, vI im, vR wa, vR or_, vR rq], zI rq (cy 0) 4 (u.2.2 0), zO sA 6 [vI wi, vI ro, vR s2, vR s3, vI dr, vI dt, vR s6, vI pe, vR s8, vI gu, vI sh, vR s11, vI wo, vR s13, vI dn, vI mi, vI fl, vI tk, vI go], zI s2 (cy 0) 96 hf, zI s3 (cy 0) 96 wf, zI s6 (cy 0) 56 df, zQ kr (cy 4) 4 krf, zO ra 5 [vR rf, vI rm], zI rf (cy 0) 240 ff]) 2 12 := by
  refine vx_ofW (cc := cX11_shower) (maxL := 2) (ret := (some .int)) (by decide) rfl ?_
  intro p e s m args below meth c s₁ B hml hex hv
  obtain ⟨rfl, hsz, hP, hG, hD0, hT⟩ := hv
  have hx := B.exec
  have hb := B.bytes
  have hr := B.returns
  have hts := atoms_spec (ws := vs_k_shower) B.pre
  have hown : s.vm.findClass RX11 = some m.cls := findClass_of_methodNamed B.named
  have hlocks := B.notSynchronized
  subst hsz
  have hD := hD0.self (sz := s.heap.size)
  generalize hAe : va_A [zO kk 11 [vR ta, vR kr, vR kl, vI nr, vI nw, vR sA, vR dA, vR pa, vR ki, vR kp, vI im, vR wa, vR or_, vR rq], zI rq (cy 0) 4 qf, zO sA 6 [vI wi, vI ro, vR s2, vR s3, vI dr, vI dt, vR s6, vI pe, vR s8, vI gu, vI sh, vR s11, vI wo, vR s13, vI dn, vI mi, vI fl, vI tk, vI go], zI s2 (cy 0) 96 hf, zI s3 (cy 0) 96 wf, zI s6 (cy 0) 56 df, zQ kr (cy 4) 4 krf, zO ra 5 [vR rf, vI rm], zI rf (cy 0) 240 ff] s.heap.size = A at hD hT ⊢
  have hA : ∀ q : Nat, s.heap.size ≤ q → A q := fun q h => by rw [← hAe]; exact Or.inr h
  have hS : va_S A s.heap s.heap [] := va_S.rf
  have hl0 := lv_entry ([vR kk, vI n]) (n := 2) (Nat.le_of_ble_eq_true rfl)
  rw [lg_entry_eq]
  generalize (lg_sl ([vR kk, vI n]) ++ List.replicate (2 - (lg_sl ([vR kk, vI n])).length) Slot.unset).toArray = ls at hl0 ⊢
  have hlv : lv_has ls 2 [(0, vR kk), (1, vI n)] := hl0
  have gg_0 : GoodIn vs_k_shower (wsV RX11 208 RX11 yX11_needRain vs_k_needRain) := goodIn_sub (fun w h => List.mem_cons_of_mem _ (List.mem_append_right _ (List.mem_append_left _ h))) (gd_V gd_k_needRain (by decide +kernel))
  have lf31 := hts (.fieldLink RX11 31 "KerbSplash" "now" "LKerbSplash$Street;") (List.mem_of_getElem? (i := 1) rfl)
  have hi11 : ∀ w ∈ wsX110, w ∈ vs_k_shower := fun w h => List.mem_cons_of_mem _ (List.mem_append_right _ (List.mem_append_right _ (List.mem_append_left _ h)))
  have gg_2 : GoodIn vs_k_shower (vs_s_isTold) := goodIn_sub (fun w h => List.mem_cons_of_mem _ (List.mem_append_right _ (List.mem_append_right _ (List.mem_append_right _ (List.mem_append_left _ h))))) gd_s_isTold
  have ini_RX6 := hts (.initialized RX6) (List.mem_of_getElem? (i := 2) rfl)
  have im_X6_isTold := hts (.instanceMethod yX6_isTold) (List.mem_of_getElem? (i := 3) rfl)
  have se_X6_isTold := hts (.selects RX6 yX6_isTold yX6_isTold) (List.mem_of_getElem? (i := 4) rfl)
  have gg_3 : GoodIn vs_k_shower (wsV RX11 202 RX11 yX11_needState vs_k_needState) := goodIn_sub (fun w h => List.mem_cons_of_mem _ (List.mem_append_right _ (List.mem_append_right _ (List.mem_append_right _ (List.mem_append_right _ (List.mem_append_left _ h)))))) (gd_V gd_k_needState (by decide +kernel))
  have gg_4 : GoodIn vs_k_shower (vs_s_hasTime) := goodIn_sub (fun w h => List.mem_cons_of_mem _ (List.mem_append_right _ (List.mem_append_right _ (List.mem_append_right _ (List.mem_append_right _ (List.mem_append_right _ (List.mem_append_left _ h))))))) gd_s_hasTime
  have im_X6_hasTime := hts (.instanceMethod yX6_hasTime) (List.mem_of_getElem? (i := 5) rfl)
  have se_X6_hasTime := hts (.selects RX6 yX6_hasTime yX6_hasTime) (List.mem_of_getElem? (i := 6) rfl)
  have lf18 := hts (.fieldLink RX11 18 "KerbSplash" "rains" "[LKerbSplash$Rain;") (List.mem_of_getElem? (i := 7) rfl)
  have gg_5 : GoodIn vs_k_shower (vs_s_passRain) := goodIn_sub (fun w h => List.mem_cons_of_mem _ (List.mem_append_right _ (List.mem_append_right _ (List.mem_append_right _ (List.mem_append_right _ (List.mem_append_right _ (List.mem_append_right _ (List.mem_append_left _ h)))))))) gd_s_passRain
  have im_X6_passRain := hts (.instanceMethod yX6_passRain) (List.mem_of_getElem? (i := 8) rfl)
  have se_X6_passRain := hts (.selects RX6 yX6_passRain yX6_passRain) (List.mem_of_getElem? (i := 9) rfl)
  refine lv_aload_n hx hb dX11_shower_0 rfl (lv_at hlv 0 rfl) ?_
  refine lv_iload_n hx hb dX11_shower_1 rfl (lv_at hlv 1 rfl) ?_
  refine cjrx_v [false, false, true, true, true, true, true, true, true] (fun pre9 => (vx_runV (As := [vI n]) (rest := []) ⟨hx, hb, hml, hown, hts⟩ (k_needRain l hl D cy sa kk ta kr kl sA dA pa ki kp wa or_ rq nr nw im qf n s.heap.size (by first | exact hr_nr | omega) (by first | exact hr_nw | omega) (by first | exact hr_im | omega) (by first | exact hr_n | omega)) (cwV 1 hts gg_0 rfl rfl rfl (by decide +kernel) ⟨Nat.le_of_ble_eq_true rfl, Nat.le_of_ble_eq_true rfl⟩) ⟨pcW.blind, (va_recv hG.1 hP (ci := 11) (q0 := 0) rfl rfl), pre9⟩ rfl rfl hlv.1 rfl (lv_room (Nat.le_of_ble_eq_true rfl)) dX11_shower_2 ⟨Nat.le_of_ble_eq_true rfl, Nat.le_of_ble_eq_true rfl⟩)) hP hD hS hA hG hT [0, 1] rfl (by decide +kernel) (fun E ux1 ce q9 H locs hp hq9 hS h1 h2 h3 => ?_) (fun u1 H locs hw1 hq9 hS => ?_)
  · obtain ⟨hP, hD⟩ := hq9
    obtain rfl := hp
    exact vx_out (fun x h => (hex x h).elim) hlocks h1 h2 h3 (fun t ht hvm => ⟨((fun k => ([] : List Nat).getD k 0), (fun k => ([] : List Int).getD k 0), (fun k => ([(ux1.2.2 0)] : List (Nat → Int32)).getD k (fun _ => 0))), trivial, ⟨Or.inl rfl, at9 ht hP hD [7, 8, 0, 1, 2, 3, 4, 5, 6] (by decide +kernel) rfl⟩, hS.F ht⟩) hS.2.2 (Nat.le_of_ble_eq_true rfl) (Nat.le_of_ble_eq_true rfl)
  have hq1_0 : ((0 : Int) ≤ n ∧ n < nr) := hw1
  obtain ⟨hP, hD⟩ := pd9 [zO sA 6 [vI wi, vI ro, vR s2, vR s3, vI dr, vI dt, vR s6, vI pe, vR s8, vI gu, vI sh, vR s11, vI wo, vR s13, vI dn, vI mi, vI fl, vI tk, vI go], zI s2 (cy 0) 96 hf, zI s3 (cy 0) 96 wf, zI s6 (cy 0) 56 df, zQ kr (cy 4) 4 krf, zO ra 5 [vR rf, vI rm], zI rf (cy 0) 240 ff, zO kk 11 [vR ta, vR kr, vR kl, vI nr, vI nw, vR sA, vR dA, vR pa, vR ki, vR kp, vI im, vR wa, vR or_, vR rq], zI rq (cy 0) 4 qf] hq9
  refine lv_aload_n hx hb dX11_shower_5 rfl (lv_at hlv 0 rfl) ?_
  refine lv_aload_n hx hb dX11_shower_6 rfl (lv_at hlv 0 rfl) ?_
  refine va_get (D := D) (ci := 11) (v := vR sA) (C := RX11) (T := TX11) (N := 14) hx hb hts hi11 hown hG.1 hP 7 rfl rfl 5 (by decide) lf31 (fun _ h9 => h9) rfl dX11_shower_7 ?_
  refine cjr_i [false, true, true, true, true, true, true, true, true] (fun pre9 => (va_runVN (host := "KerbSplash") (As := []) (rest := [vR kk]) ⟨hx, hb, hml, hown, hts⟩ (s_isTold l hl D cy sa sA s2 s3 s6 s8 s11 s13 wi ro dr dt pe gu sh wo dn mi fl tk go H.size (by first | exact hr_wi | omega) (by first | exact hr_ro | omega) (by first | exact hr_dr | omega) (by first | exact hr_dt | omega) (by first | exact hr_pe | omega) (by first | exact hr_gu | omega) (by first | exact hr_sh | omega) (by first | exact hr_wo | omega) (by first | exact hr_dn | omega) (by first | exact hr_mi | omega) (by first | exact hr_fl | omega) (by first | exact hr_tk | omega) (by first | exact hr_go | omega)) ⟨va_cnB 0 hts gg_2 rfl rfl rfl (nM_K_196 hG.2.1) ini_RX6 (by decide +kernel) ⟨Nat.le_of_ble_eq_true rfl, Nat.le_of_ble_eq_true rfl⟩, im_X6_isTold, se_X6_isTold⟩ ⟨pcW.blind, (va_recv hG.1 hP (ci := 6) (q0 := 0) rfl rfl), pre9⟩ rfl rfl hlv.1 rfl (lv_room (Nat.le_of_ble_eq_true rfl)) dX11_shower_10 ⟨Nat.le_of_ble_eq_true rfl, Nat.le_of_ble_eq_true rfl⟩)) hP hD hS hA hG hT [0] rfl (by decide +kernel) (fun r2 u2 H locs hw2 hq9 hS => ?_)
  obtain ⟨rfl, hq2_1, hq2_2⟩ := hw2
  obtain ⟨hP, hD⟩ := pd9 [zI s2 (cy 0) 96 hf, zI s3 (cy 0) 96 wf, zI s6 (cy 0) 56 df, zQ kr (cy 4) 4 krf, zO ra 5 [vR rf, vI rm], zI rf (cy 0) 240 ff, zO kk 11 [vR ta, vR kr, vR kl, vI nr, vI nw, vR sA, vR dA, vR pa, vR ki, vR kp, vI im, vR wa, vR or_, vR rq], zI rq (cy 0) 4 qf, zO sA 6 [vI wi, vI ro, vR s2, vR s3, vI dr, vI dt, vR s6, vI pe, vR s8, vI gu, vI sh, vR s11, vI wo, vR s13, vI dn, vI mi, vI fl, vI tk, vI go]] hq9
  refine iz_eq (tgt := 30) hx hb dX11_shower_13 (by decide) (by first | exact rgw hq2_1 (by decide) (by decide) | omega) (fun c_1 => ?_) (fun c_1 => ?_)
  · refine lv_iconst (v := iI 0) hx hb dX11_shower_30 (by decide) ?_
    refine cjrx_v [true, true, true, true, true, true, false, false, true] (fun pre9 => (vx_runV (As := [vI 0]) (rest := []) ⟨hx, hb, hml, hown, hts⟩ (k_needState l hl D cy sa kk ta kr kl sA dA pa ki kp wa or_ rq nr nw im qf 0 H.size (by first | exact hr_nr | omega) (by first | exact hr_nw | omega) (by first | exact hr_im | omega) (by show (0 : Int) ≤ 0 ∧ (0 : Int) ≤ 1; decide)) (cwV 1 hts gg_3 rfl rfl rfl (by decide +kernel) ⟨Nat.le_of_ble_eq_true rfl, Nat.le_of_ble_eq_true rfl⟩) ⟨pcW.blind, (va_recv hG.1 hP (ci := 11) (q0 := 6) rfl rfl), pre9⟩ rfl rfl hlv.1 rfl (lv_room (Nat.le_of_ble_eq_true rfl)) dX11_shower_31 ⟨Nat.le_of_ble_eq_true rfl, Nat.le_of_ble_eq_true rfl⟩)) hP hD hS hA hG hT [6, 7] rfl (by decide +kernel) (fun E ux3 ce q9 H locs hp hq9 hS h1 h2 h3 => ?_) (fun u3 H locs hw3 hq9 hS => ?_)
    · obtain ⟨hP, hD⟩ := hq9
      obtain ⟨hp, hxg3⟩ := hp
      obtain rfl := hp
      exact vx_out (fun x h => (hex x h).elim) hlocks h1 h2 h3 (fun t ht hvm => ⟨((fun k => ([] : List Nat).getD k 0), (fun k => ([] : List Int).getD k 0), (fun k => ([(ux3.2.2 0)] : List (Nat → Int32)).getD k (fun _ => 0))), trivial, ⟨Or.inr (rfl), at9 ht hP hD [7, 8, 6, 0, 1, 2, 3, 4, 5] (by decide +kernel) rfl⟩, hS.F ht⟩) hS.2.2 (Nat.le_of_ble_eq_true rfl) (Nat.le_of_ble_eq_true rfl)
    have hq3_0 : ((0 : Int) = 1) := hw3
    obtain ⟨hP, hD⟩ := pd9 [zI s2 (cy 0) 96 hf, zI s3 (cy 0) 96 wf, zI s6 (cy 0) 56 df, zQ kr (cy 4) 4 krf, zO ra 5 [vR rf, vI rm], zI rf (cy 0) 240 ff, zO sA 6 [vI wi, vI ro, vR s2, vR s3, vI dr, vI dt, vR s6, vI pe, vR s8, vI gu, vI sh, vR s11, vI wo, vR s13, vI dn, vI mi, vI fl, vI tk, vI go], zO kk 11 [vR ta, vR kr, vR kl, vI nr, vI nw, vR sA, vR dA, vR pa, vR ki, vR kp, vI im, vR wa, vR or_, vR rq], zI rq (cy 0) 4 qf] hq9
    exfalso; omega
  · refine lv_aload_n hx hb dX11_shower_16 rfl (lv_at hlv 0 rfl) ?_
    refine va_get (D := D) (ci := 11) (v := vR sA) (C := RX11) (T := TX11) (N := 14) hx hb hts hi11 hown hG.1 hP 6 rfl rfl 5 (by decide) lf31 (fun _ h9 => h9) rfl dX11_shower_17 ?_
    refine cjr_i [true, true, true, true, true, true, true, true, false] (fun pre9 => (va_runVN (host := "KerbSplash") (As := []) (rest := [vR kk]) ⟨hx, hb, hml, hown, hts⟩ (s_hasTime l hl D cy sa sA s2 s3 s6 s8 s11 s13 wi ro dr dt pe gu sh wo dn mi fl tk go H.size (by first | exact hr_wi | omega) (by first | exact hr_ro | omega) (by first | exact hr_dr | omega) (by first | exact hr_dt | omega) (by first | exact hr_pe | omega) (by first | exact hr_gu | omega) (by first | exact hr_sh | omega) (by first | exact hr_wo | omega) (by first | exact hr_dn | omega) (by first | exact hr_mi | omega) (by first | exact hr_fl | omega) (by first | exact hr_tk | omega) (by first | exact hr_go | omega)) ⟨va_cnB 0 hts gg_4 rfl rfl rfl (nM_K_199 hG.2.1) ini_RX6 (by decide +kernel) ⟨Nat.le_of_ble_eq_true rfl, Nat.le_of_ble_eq_true rfl⟩, im_X6_hasTime, se_X6_hasTime⟩ ⟨pcW.blind, (va_recv hG.1 hP (ci := 6) (q0 := 8) rfl rfl), pre9⟩ rfl rfl hlv.1 rfl (lv_room (Nat.le_of_ble_eq_true rfl)) dX11_shower_20 ⟨Nat.le_of_ble_eq_true rfl, Nat.le_of_ble_eq_true rfl⟩)) hP hD hS hA hG hT [8] rfl (by decide +kernel) (fun r4 u4 H locs hw4 hq9 hS => ?_)
    obtain ⟨rfl, hq4_1, hq4_2⟩ := hw4
    obtain ⟨hP, hD⟩ := pd9 [zI s2 (cy 0) 96 hf, zI s3 (cy 0) 96 wf, zI s6 (cy 0) 56 df, zQ kr (cy 4) 4 krf, zO ra 5 [vR rf, vI rm], zI rf (cy 0) 240 ff, zO kk 11 [vR ta, vR kr, vR kl, vI nr, vI nw, vR sA, vR dA, vR pa, vR ki, vR kp, vI im, vR wa, vR or_, vR rq], zI rq (cy 0) 4 qf, zO sA 6 [vI wi, vI ro, vR s2, vR s3, vI dr, vI dt, vR s6, vI pe, vR s8, vI gu, vI sh, vR s11, vI wo, vR s13, vI dn, vI mi, vI fl, vI tk, vI go]] hq9
    refine iz_eq (tgt := 30) hx hb dX11_shower_23 (by decide) (by first | exact rgw hq4_1 (by decide) (by decide) | omega) (fun c_2 => ?_) (fun c_2 => ?_)
    · refine lv_iconst (v := iI 0) hx hb dX11_shower_30 (by decide) ?_
      refine cjrx_v [true, true, true, true, true, true, false, false, true] (fun pre9 => (vx_runV (As := [vI 0]) (rest := []) ⟨hx, hb, hml, hown, hts⟩ (k_needState l hl D cy sa kk ta kr kl sA dA pa ki kp wa or_ rq nr nw im qf 0 H.size (by first | exact hr_nr | omega) (by first | exact hr_nw | omega) (by first | exact hr_im | omega) (by show (0 : Int) ≤ 0 ∧ (0 : Int) ≤ 1; decide)) (cwV 1 hts gg_3 rfl rfl rfl (by decide +kernel) ⟨Nat.le_of_ble_eq_true rfl, Nat.le_of_ble_eq_true rfl⟩) ⟨pcW.blind, (va_recv hG.1 hP (ci := 11) (q0 := 6) rfl rfl), pre9⟩ rfl rfl hlv.1 rfl (lv_room (Nat.le_of_ble_eq_true rfl)) dX11_shower_31 ⟨Nat.le_of_ble_eq_true rfl, Nat.le_of_ble_eq_true rfl⟩)) hP hD hS hA hG hT [6, 7] rfl (by decide +kernel) (fun E ux5 ce q9 H locs hp hq9 hS h1 h2 h3 => ?_) (fun u5 H locs hw5 hq9 hS => ?_)
      · obtain ⟨hP, hD⟩ := hq9
        obtain ⟨hp, hxg5⟩ := hp
        obtain rfl := hp
        exact vx_out (fun x h => (hex x h).elim) hlocks h1 h2 h3 (fun t ht hvm => ⟨((fun k => ([] : List Nat).getD k 0), (fun k => ([] : List Int).getD k 0), (fun k => ([(ux5.2.2 0)] : List (Nat → Int32)).getD k (fun _ => 0))), trivial, ⟨Or.inr (rfl), at9 ht hP hD [7, 8, 6, 0, 1, 2, 3, 4, 5] (by decide +kernel) rfl⟩, hS.F ht⟩) hS.2.2 (Nat.le_of_ble_eq_true rfl) (Nat.le_of_ble_eq_true rfl)
      have hq5_0 : ((0 : Int) = 1) := hw5
      obtain ⟨hP, hD⟩ := pd9 [zI s2 (cy 0) 96 hf, zI s3 (cy 0) 96 wf, zI s6 (cy 0) 56 df, zQ kr (cy 4) 4 krf, zO ra 5 [vR rf, vI rm], zI rf (cy 0) 240 ff, zO sA 6 [vI wi, vI ro, vR s2, vR s3, vI dr, vI dt, vR s6, vI pe, vR s8, vI gu, vI sh, vR s11, vI wo, vR s13, vI dn, vI mi, vI fl, vI tk, vI go], zO kk 11 [vR ta, vR kr, vR kl, vI nr, vI nw, vR sA, vR dA, vR pa, vR ki, vR kp, vI im, vR wa, vR or_, vR rq], zI rq (cy 0) 4 qf] hq9
      exfalso; omega
    · refine lv_iconst (v := iI 1) hx hb dX11_shower_26 (by decide) ?_
      refine lv_goto (tgt := 31) hx hb dX11_shower_27 (by decide) ?_
      refine cjrx_v [true, true, true, true, true, true, false, false, true] (fun pre9 => (vx_runV (As := [vI 1]) (rest := []) ⟨hx, hb, hml, hown, hts⟩ (k_needState l hl D cy sa kk ta kr kl sA dA pa ki kp wa or_ rq nr nw im qf 1 H.size (by first | exact hr_nr | omega) (by first | exact hr_nw | omega) (by first | exact hr_im | omega) (by show (0 : Int) ≤ 1 ∧ (1 : Int) ≤ 1; decide)) (cwV 1 hts gg_3 rfl rfl rfl (by decide +kernel) ⟨Nat.le_of_ble_eq_true rfl, Nat.le_of_ble_eq_true rfl⟩) ⟨pcW.blind, (va_recv hG.1 hP (ci := 11) (q0 := 6) rfl rfl), pre9⟩ rfl rfl hlv.1 rfl (lv_room (Nat.le_of_ble_eq_true rfl)) dX11_shower_31 ⟨Nat.le_of_ble_eq_true rfl, Nat.le_of_ble_eq_true rfl⟩)) hP hD hS hA hG hT [6, 7] rfl (by decide +kernel) (fun E ux6 ce q9 H locs hp hq9 hS h1 h2 h3 => ?_) (fun u6 H locs hw6 hq9 hS => ?_)
      · obtain ⟨hP, hD⟩ := hq9
        obtain ⟨hp, hxg6⟩ := hp
        obtain rfl := hp
        exact vx_out (fun x h => (hex x h).elim) hlocks h1 h2 h3 (fun t ht hvm => ⟨((fun k => ([] : List Nat).getD k 0), (fun k => ([] : List Int).getD k 0), (fun k => ([(ux6.2.2 0)] : List (Nat → Int32)).getD k (fun _ => 0))), trivial, ⟨Or.inr (rfl), at9 ht hP hD [7, 8, 6, 0, 1, 2, 3, 4, 5] (by decide +kernel) rfl⟩, hS.F ht⟩) hS.2.2 (Nat.le_of_ble_eq_true rfl) (Nat.le_of_ble_eq_true rfl)
      have hq6_0 : ((1 : Int) = 1) := hw6
      obtain ⟨hP, hD⟩ := pd9 [zI s2 (cy 0) 96 hf, zI s3 (cy 0) 96 wf, zI s6 (cy 0) 56 df, zQ kr (cy 4) 4 krf, zO ra 5 [vR rf, vI rm], zI rf (cy 0) 240 ff, zO sA 6 [vI wi, vI ro, vR s2, vR s3, vI dr, vI dt, vR s6, vI pe, vR s8, vI gu, vI sh, vR s11, vI wo, vR s13, vI dn, vI mi, vI fl, vI tk, vI go], zO kk 11 [vR ta, vR kr, vR kl, vI nr, vI nw, vR sA, vR dA, vR pa, vR ki, vR kp, vI im, vR wa, vR or_, vR rq], zI rq (cy 0) 4 qf] hq9
      refine lv_aload_n hx hb dX11_shower_34 rfl (lv_at hlv 0 rfl) ?_
      refine va_get (D := D) (ci := 11) (v := vR sA) (C := RX11) (T := TX11) (N := 14) hx hb hts hi11 hown hG.1 hP 7 rfl rfl 5 (by decide) lf31 (fun _ h9 => h9) rfl dX11_shower_35 ?_
      refine lv_aload_n hx hb dX11_shower_38 rfl (lv_at hlv 0 rfl) ?_
      refine va_get (D := D) (ci := 11) (v := vR kr) (C := RX11) (T := TX11) (N := 14) hx hb hts hi11 hown hG.1 hP 7 rfl rfl 1 (by decide) lf18 (fun _ h9 => h9) rfl dX11_shower_39 ?_
      refine lv_iload_n hx hb dX11_shower_42 rfl (lv_at hlv 1 rfl) ?_
      refine va_aldq hx hb hG.1 hP 3 4 rfl rfl (iI_in (by omega) (by decide)) dX11_shower_43 ?_
      refine ltv (y := vR ra) (by rw [iI_cl (by omega) (by omega), hp0 (by omega)]; rfl) ?_
      refine cjr_i [false, false, false, true, false, false, false, true, true] (fun pre9 => (va_runVN (host := "KerbSplash") (As := [vR ra]) (rest := []) ⟨hx, hb, hml, hown, hts⟩ (s_passRain l hl D cy sa sA s2 s3 s6 s8 s11 s13 wi ro dr dt pe gu sh wo dn mi fl tk go hf wf df ff ra rf rm H.size (by first | exact hr_wi | omega) (by first | exact hr_ro | omega) (by first | exact hr_dr | omega) (by first | exact hr_dt | omega) (by first | exact hr_pe | omega) (by first | exact hr_gu | omega) (by first | exact hr_sh | omega) (by first | exact hr_wo | omega) (by first | exact hr_dn | omega) (by first | exact hr_mi | omega) (by first | exact hr_fl | omega) (by first | exact hr_tk | omega) (by first | exact hr_go | omega) (by first | exact hr_rm | omega) hhf hdf hff) ⟨va_cnB 1 hts gg_5 rfl rfl rfl (nM_K_211 hG.2.1) ini_RX6 (by decide +kernel) ⟨Nat.le_of_ble_eq_true rfl, Nat.le_of_ble_eq_true rfl⟩, im_X6_passRain, se_X6_passRain⟩ ⟨pcW.blind, (va_recv hG.1 hP (ci := 6) (q0 := 6) rfl rfl), pre9⟩ rfl rfl hlv.1 rfl (lv_room (Nat.le_of_ble_eq_true rfl)) dX11_shower_44 ⟨Nat.le_of_ble_eq_true rfl, Nat.le_of_ble_eq_true rfl⟩)) hP hD hS hA hG hT [6, 0, 1, 2, 4, 5] rfl (by decide +kernel) (fun r7 u7 H locs hw7 hq9 hS => ?_)
      obtain ⟨rfl, hq7_1, hq7_2, hq7_3, hq7_4, hq7_5, hq7_6, hq7_7⟩ := hw7
      obtain ⟨hP, hD⟩ := pd9 [zQ kr (cy 4) 4 krf, zO kk 11 [vR ta, vR kr, vR kl, vI nr, vI nw, vR sA, vR dA, vR pa, vR ki, vR kp, vI im, vR wa, vR or_, vR rq], zI rq (cy 0) 4 qf, zO sA 6 [vI wi, vI ro, vR s2, vR s3, vI dr, vI dt, vR s6, vI pe, vR s8, vI gu, vI sh, vR s11, vI wo, vR s13, vI dn, vI (u7.2.1 0), vI (u7.2.1 1), vI (u7.2.1 2), vI go], zI s2 (cy 0) 96 hf, zI s3 (cy 0) 96 (u7.2.2 0), zI s6 (cy 0) 56 df, zO ra 5 [vR rf, vI rm], zI rf (cy 0) 240 ff] hq9
      refine W.widen (k := 2) (n := 12) (Nat.le_of_ble_eq_true rfl) (Nat.le_of_ble_eq_true rfl) ?_
      refine vx_ret ?_
      exact W.iret (v := iI (u7.2.1 3)) hx hb hr (fun t ht hW => ⟨⟨iI (u7.2.1 3), ((fun k => ([] : List Nat).getD k 0), (fun k => ([(u7.2.1 3), (u7.2.1 0), (u7.2.1 1), (u7.2.1 2)] : List Int).getD k 0), (fun k => ([(u7.2.2 0)] : List (Nat → Int32)).getD k (fun _ => 0))), rfl, ⟨rfl, (by show ((-2147483648) ≤ (u7.2.1 3) ∧ (u7.2.1 3) ≤ 2147483647); first | exact rgw hq7_4 (by decide) (by decide) | omega), (by show (0 ≤ (u7.2.1 0) ∧ (u7.2.1 0) ≤ 600); first | exact hq7_1 | omega), (by show ((-2147483648) ≤ (u7.2.1 1) ∧ (u7.2.1 1) ≤ 2147483647); first | exact hq7_2 | omega), (by show ((-2147483648) ≤ (u7.2.1 2) ∧ (u7.2.1 2) ≤ 2147483647); first | exact hq7_3 | omega), hq7_5, hq7_6, hq7_7⟩, at9 ht hP hD [1, 2, 3, 4, 5, 6, 0, 7, 8] (by decide +kernel) rfl⟩, hS.F ht⟩) hS.2.2 dX11_shower_47
def vs_k_says : List Cond := .code yX11_says cX11_says 11 (some .int) :: (([.fieldLink RX11 56 "KerbSplash" "whatIf" "LKerbSplash$WhatIf;", .fieldLink RX11 24 "KerbSplash" "laws" "[LKerbSplash$Law;", .initialized RX1, .instanceMethod yX1_value, .selects RX1 yX1_value yX1_value] : List Cond) ++ ((wsV RX11 227 RX11 yX11_needLaw vs_k_needLaw) ++ ((va_wsS RX11 130 yX11_isWithin vs_s_within) ++ ((wsV RX11 134 RX11 yX11_needArgument vs_k_needArgument) ++ ((wsX110) ++ ((wsX90) ++ ((wsX00) ++ ((vs_w_value) ++ ([])))))))))
theorem gd_k_says : vs_k_says.all goodWord = true := gd_C (by decide +kernel) (gd_A (by decide +kernel) (gd_A (gd_V gd_k_needLaw (by decide +kernel)) (gd_A (gd_S gd_s_within (by decide +kernel)) (gd_A (gd_V gd_k_needArgument (by decide +kernel)) (gd_A (by decide +kernel) (gd_A (by decide +kernel) (gd_A (by decide +kernel) (gd_A gd_w_value rfl))))))))
set_option maxHeartbeats 4000000 in
set_option maxRecDepth 100000 in
theorem k_says (l : Launch) (hl : l.stackTraces = false) (D : va_G) (cy : Nat → ClassId) (sa : Nat → Nat) (kk ta kr kl sA dA pa ki kp wa or_ rq : Nat) (nr nw im : Int) (qf : Nat → Int32) (klf : Nat → Option Nat) (la l0 l2 l3 : Nat) (size : Int) (st sf vf : Nat → Int32) (se : Nat) (fo wth : Int) (tA : Nat) (ca na : Nat) (crow cpace ctyre ckind crt cpt : Int) (nf : Nat → Int32) (n w_ a0 a1 a2 a3 a4 a5 a6 : Int) (sz : Nat) (hr_nr : 0 ≤ nr ∧ nr ≤ 4) (hr_nw : 0 ≤ nw ∧ nw ≤ 4) (hr_im : 0 ≤ im ∧ im ≤ 3) (hr_size : 0 ≤ size ∧ size ≤ 600) (hr_fo : (-2147483648) ≤ fo ∧ fo ≤ 2147483647) (hr_wth : (-2147483648) ≤ wth ∧ wth ≤ 2147483647) (hr_crow : 0 ≤ crow ∧ crow ≤ 5) (hr_cpace : (-2147483648) ≤ cpace ∧ cpace ≤ 2147483647) (hr_ctyre : (-2147483648) ≤ ctyre ∧ ctyre ≤ 2147483647) (hr_ckind : (-2147483648) ≤ ckind ∧ ckind ≤ 2147483647) (hr_crt : 0 ≤ crt ∧ crt ≤ 5) (hr_cpt : (-2147483648) ≤ cpt ∧ cpt ≤ 2147483647) (hr_n : (-2147483648) ≤ n ∧ n ≤ 2147483647) (hr_w_ : (-2147483648) ≤ w_ ∧ w_ ≤ 2147483647) (hr_a0 : (-2147483648) ≤ a0 ∧ a0 ≤ 2147483647) (hr_a1 : (-2147483648) ≤ a1 ∧ a1 ≤ 2147483647) (hr_a2 : (-2147483648) ≤ a2 ∧ a2 ≤ 2147483647) (hr_a3 : (-2147483648) ≤ a3 ∧ a3 ≤ 2147483647) (hr_a4 : (-2147483648) ≤ a4 ∧ a4 ≤ 2147483647) (hr_a5 : (-2147483648) ≤ a5 ∧ a5 ≤ 2147483647) (hr_a6 : (-2147483648) ≤ a6 ∧ a6 ≤ 2147483647) (hp0 : 0 ≤ n ∧ n < 4 → klf n.toNat = some la) (hst : inv_ 600 0 2147483647 st) : xI9 l yX11_says vs_k_says ({ frames := 8, cells := 2, slots := 12, locals := 142 }) D cy sa sz [vR kk, vI n, vI w_, vI a0, vI a1, vI a2, vI a3, vI a4, vI a5, vI a6] [zO kk 11 [vR ta, vR kr, vR kl, vI nr, vI nw, vR sA, vR dA, vR pa, vR ki, vR kp, vI im, vR wa, vR or_, vR rq], zI rq (cy 0) 4 qf, zQ kl (cy 5) 4 klf, zO la 1 [vR l0, vI size, vR l2, vR l3], zI l0 (cy 0) 600 st, zI l2 (cy 0) 5 sf, zI l3 (cy 0) 40 vf, zO wa 9 [vR tA, vR ca, vR se, vI fo, vI wth], zO ca 0 [vR na, vI crow, vI cpace, vI ctyre, vI ckind, vI crt, vI cpt], zI na (cy 0) 7 nf] (fun (r : Int32) (u : SV) => r = iI (u.2.1 0) ∧ ((-2147483648) ≤ u.2.1 0 ∧ u.2.1 0 ≤ 2147483647) ∧ inv_ 600 0 2147483647 st) (fun u : SV => [zO kk 11 [vR ta, vR kr, vR kl, vI nr, vI nw, vR sA, vR dA, vR pa, vR ki, vR kp, vI im, vR wa, vR or_, vR rq], zI rq (cy 0) 4 qf, zQ kl (cy 5) 4 klf, zO la 1 [vR l0, vI size, vR l2, vR l3], zI l0 (cy 0) 600 st, zI l2 (cy 0) 5 sf, zI l3 (cy 0) 40 (u.2.2 0), zO wa 9 [vR tA, vR ca, vR se, vI fo, vI wth], zO ca 0 [vR na, vI crow, vI cpace, vI ctyre, vI ckind, vI crt, vI cpt], zI na (cy 0) 7 (u.2.2 1)]) (fun (E : String) (u : SV) => (E = "java/util/NoSuchElementException" ∨ E = "java/lang/IllegalArgumentException")) (fun u : SV => [zO kk 11 [vR ta, vR kr, vR kl, vI nr, vI nw, vR sA, vR dA, vR pa, vR ki, vR kp, vI im, vR wa, vR or_, vR rq], zI rq (cy 0) 4 (u.2.2 0), zQ kl (cy 5) 4 klf, zO la 1 [vR l0, vI size, vR l2, vR l3], zI l0 (cy 0) 600 st, zI l2 (cy 0) 5 sf, zI l3 (cy 0) 40 vf, zO wa 9 [vR tA, vR ca, vR se, vI fo, vI wth], zO ca 0 [vR na, vI crow, vI cpace, vI ctyre, vI ckind, vI crt, vI cpt], zI na (cy 0) 7 nf]) 2 12 := by
  refine vx_ofW (cc := cX11_says) (maxL := 11) (ret := (some .int)) (by decide) rfl ?_
  intro p e s m args below meth c s₁ B hml hex hv
  obtain ⟨rfl, hsz, hP, hG, hD0, hT⟩ := hv
  have hx := B.exec
  have hb := B.bytes
  have hr := B.returns
  have hts := atoms_spec (ws := vs_k_says) B.pre
  have hown : s.vm.findClass RX11 = some m.cls := findClass_of_methodNamed B.named
  have hlocks := B.notSynchronized
  subst hsz
  have hD := hD0.self (sz := s.heap.size)
  generalize hAe : va_A [zO kk 11 [vR ta, vR kr, vR kl, vI nr, vI nw, vR sA, vR dA, vR pa, vR ki, vR kp, vI im, vR wa, vR or_, vR rq], zI rq (cy 0) 4 qf, zQ kl (cy 5) 4 klf, zO la 1 [vR l0, vI size, vR l2, vR l3], zI l0 (cy 0) 600 st, zI l2 (cy 0) 5 sf, zI l3 (cy 0) 40 vf, zO wa 9 [vR tA, vR ca, vR se, vI fo, vI wth], zO ca 0 [vR na, vI crow, vI cpace, vI ctyre, vI ckind, vI crt, vI cpt], zI na (cy 0) 7 nf] s.heap.size = A at hD hT ⊢
  have hA : ∀ q : Nat, s.heap.size ≤ q → A q := fun q h => by rw [← hAe]; exact Or.inr h
  have hS : va_S A s.heap s.heap [] := va_S.rf
  have hl0 := lv_entry ([vR kk, vI n, vI w_, vI a0, vI a1, vI a2, vI a3, vI a4, vI a5, vI a6]) (n := 11) (Nat.le_of_ble_eq_true rfl)
  rw [lg_entry_eq]
  generalize (lg_sl ([vR kk, vI n, vI w_, vI a0, vI a1, vI a2, vI a3, vI a4, vI a5, vI a6]) ++ List.replicate (11 - (lg_sl ([vR kk, vI n, vI w_, vI a0, vI a1, vI a2, vI a3, vI a4, vI a5, vI a6])).length) Slot.unset).toArray = ls at hl0 ⊢
  have hlv : lv_has ls 11 [(0, vR kk), (1, vI n), (2, vI w_), (3, vI a0), (4, vI a1), (5, vI a2), (6, vI a3), (7, vI a4), (8, vI a5), (9, vI a6)] := hl0
  have gg_0 : GoodIn vs_k_says (wsV RX11 227 RX11 yX11_needLaw vs_k_needLaw) := goodIn_sub (fun w h => List.mem_cons_of_mem _ (List.mem_append_right _ (List.mem_append_left _ h))) (gd_V gd_k_needLaw (by decide +kernel))
  have gg_1 : GoodIn vs_k_says (va_wsS RX11 130 yX11_isWithin vs_s_within) := goodIn_sub (fun w h => List.mem_cons_of_mem _ (List.mem_append_right _ (List.mem_append_right _ (List.mem_append_left _ h)))) (gd_S gd_s_within (by decide +kernel))
  have gg_2 : GoodIn vs_k_says (wsV RX11 134 RX11 yX11_needArgument vs_k_needArgument) := goodIn_sub (fun w h => List.mem_cons_of_mem _ (List.mem_append_right _ (List.mem_append_right _ (List.mem_append_right _ (List.mem_append_left _ h))))) (gd_V gd_k_needArgument (by decide +kernel))
  have lf56 := hts (.fieldLink RX11 56 "KerbSplash" "whatIf" "LKerbSplash$WhatIf;") (List.mem_of_getElem? (i := 1) rfl)
  have hi11 : ∀ w ∈ wsX110, w ∈ vs_k_says := fun w h => List.mem_cons_of_mem _ (List.mem_append_right _ (List.mem_append_right _ (List.mem_append_right _ (List.mem_append_right _ (List.mem_append_left _ h)))))
  have hi9 : ∀ w ∈ wsX90, w ∈ vs_k_says := fun w h => List.mem_cons_of_mem _ (List.mem_append_right _ (List.mem_append_right _ (List.mem_append_right _ (List.mem_append_right _ (List.mem_append_right _ (List.mem_append_left _ h))))))
  have hi0 : ∀ w ∈ wsX00, w ∈ vs_k_says := fun w h => List.mem_cons_of_mem _ (List.mem_append_right _ (List.mem_append_right _ (List.mem_append_right _ (List.mem_append_right _ (List.mem_append_right _ (List.mem_append_right _ (List.mem_append_left _ h)))))))
  have lf24 := hts (.fieldLink RX11 24 "KerbSplash" "laws" "[LKerbSplash$Law;") (List.mem_of_getElem? (i := 2) rfl)
  have gg_6 : GoodIn vs_k_says (vs_w_value) := goodIn_sub (fun w h => List.mem_cons_of_mem _ (List.mem_append_right _ (List.mem_append_right _ (List.mem_append_right _ (List.mem_append_right _ (List.mem_append_right _ (List.mem_append_right _ (List.mem_append_right _ (List.mem_append_left _ h))))))))) gd_w_value
  have ini_RX1 := hts (.initialized RX1) (List.mem_of_getElem? (i := 3) rfl)
  have im_X1_value := hts (.instanceMethod yX1_value) (List.mem_of_getElem? (i := 4) rfl)
  have se_X1_value := hts (.selects RX1 yX1_value yX1_value) (List.mem_of_getElem? (i := 5) rfl)
  refine lv_aload_n hx hb dX11_says_0 rfl (lv_at hlv 0 rfl) ?_
  refine lv_iload_n hx hb dX11_says_1 rfl (lv_at hlv 1 rfl) ?_
  refine cjrx_v [false, false, true, true, true, true, true, true, true, true] (fun pre9 => (vx_runV (As := [vI n]) (rest := []) ⟨hx, hb, hml, hown, hts⟩ (k_needLaw l hl D cy sa kk ta kr kl sA dA pa ki kp wa or_ rq nr nw im qf n s.heap.size (by first | exact hr_nr | omega) (by first | exact hr_nw | omega) (by first | exact hr_im | omega) (by first | exact hr_n | omega)) (cwV 1 hts gg_0 rfl rfl rfl (by decide +kernel) ⟨Nat.le_of_ble_eq_true rfl, Nat.le_of_ble_eq_true rfl⟩) ⟨pcW.blind, (va_recv hG.1 hP (ci := 11) (q0 := 0) rfl rfl), pre9⟩ rfl rfl hlv.1 rfl (lv_room (Nat.le_of_ble_eq_true rfl)) dX11_says_2 ⟨Nat.le_of_ble_eq_true rfl, Nat.le_of_ble_eq_true rfl⟩)) hP hD hS hA hG hT [0, 1] rfl (by decide +kernel) (fun E ux1 ce q9 H locs hp hq9 hS h1 h2 h3 => ?_) (fun u1 H locs hw1 hq9 hS => ?_)
  · obtain ⟨hP, hD⟩ := hq9
    obtain rfl := hp
    exact vx_out (fun x h => (hex x h).elim) hlocks h1 h2 h3 (fun t ht hvm => ⟨((fun k => ([] : List Nat).getD k 0), (fun k => ([] : List Int).getD k 0), (fun k => ([(ux1.2.2 0)] : List (Nat → Int32)).getD k (fun _ => 0))), trivial, ⟨Or.inl rfl, at9 ht hP hD [8, 9, 0, 1, 2, 3, 4, 5, 6, 7] (by decide +kernel) rfl⟩, hS.F ht⟩) hS.2.2 (Nat.le_of_ble_eq_true rfl) (Nat.le_of_ble_eq_true rfl)
  have hq1_0 : ((0 : Int) ≤ n ∧ n < nw) := hw1
  obtain ⟨hP, hD⟩ := pd9 [zQ kl (cy 5) 4 klf, zO la 1 [vR l0, vI size, vR l2, vR l3], zI l0 (cy 0) 600 st, zI l2 (cy 0) 5 sf, zI l3 (cy 0) 40 vf, zO wa 9 [vR tA, vR ca, vR se, vI fo, vI wth], zO ca 0 [vR na, vI crow, vI cpace, vI ctyre, vI ckind, vI crt, vI cpt], zI na (cy 0) 7 nf, zO kk 11 [vR ta, vR kr, vR kl, vI nr, vI nw, vR sA, vR dA, vR pa, vR ki, vR kp, vI im, vR wa, vR or_, vR rq], zI rq (cy 0) 4 qf] hq9
  refine lv_aload_n hx hb dX11_says_5 rfl (lv_at hlv 0 rfl) ?_
  refine lv_iload_n hx hb dX11_says_6 rfl (lv_at hlv 2 rfl) ?_
  refine lv_iconst (v := iI 0) hx hb dX11_says_7 (by decide) ?_
  refine lv_iconst (v := iI 4) hx hb dX11_says_8 (by decide) ?_
  refine cjr_i [true, true, true, true, true, true, true, true, true, true] (fun pre9 => (va_runS (As := [vI w_, vI 0, vI 4]) (rest := [vR kk]) ⟨hx, hb, hml, hown, hts⟩ (s_within l hl D cy sa w_ 0 4 H.size (by first | exact hr_w_ | omega) (by show ((-2147483648) : Int) ≤ 0 ∧ (0 : Int) ≤ 2147483647; decide) (by show ((-2147483648) : Int) ≤ 4 ∧ (4 : Int) ≤ 2147483647; decide)) (va_cwS 3 hts gg_1 rfl rfl rfl (by decide +kernel) ⟨Nat.le_of_ble_eq_true rfl, Nat.le_of_ble_eq_true rfl⟩) ⟨pcW.blind, pre9⟩ rfl rfl hlv.1 rfl (lv_room (Nat.le_of_ble_eq_true rfl)) dX11_says_9 ⟨Nat.le_of_ble_eq_true rfl, Nat.le_of_ble_eq_true rfl⟩)) hP hD hS hA hG hT [] rfl (by decide +kernel) (fun r2 u2 H locs hw2 hq9 hS => ?_)
  obtain ⟨rfl, hq2_1, hq2_2, hq2_3⟩ := hw2
  obtain ⟨hP, hD⟩ := pd9 [zQ kl (cy 5) 4 klf, zO la 1 [vR l0, vI size, vR l2, vR l3], zI l0 (cy 0) 600 st, zI l2 (cy 0) 5 sf, zI l3 (cy 0) 40 vf, zO wa 9 [vR tA, vR ca, vR se, vI fo, vI wth], zO ca 0 [vR na, vI crow, vI cpace, vI ctyre, vI ckind, vI crt, vI cpt], zI na (cy 0) 7 nf, zO kk 11 [vR ta, vR kr, vR kl, vI nr, vI nw, vR sA, vR dA, vR pa, vR ki, vR kp, vI im, vR wa, vR or_, vR rq], zI rq (cy 0) 4 qf] hq9
  refine cjrx_v [true, true, true, true, true, true, true, true, false, false] (fun pre9 => (vx_runV (As := [vI (u2.2.1 0)]) (rest := []) ⟨hx, hb, hml, hown, hts⟩ (k_needArgument l hl D cy sa kk ta kr kl sA dA pa ki kp wa or_ rq nr nw im qf (u2.2.1 0) H.size (by first | exact hr_nr | omega) (by first | exact hr_nw | omega) (by first | exact hr_im | omega) (by first | exact hq2_1 | omega)) (cwV 1 hts gg_2 rfl rfl rfl (by decide +kernel) ⟨Nat.le_of_ble_eq_true rfl, Nat.le_of_ble_eq_true rfl⟩) ⟨pcW.blind, (va_recv hG.1 hP (ci := 11) (q0 := 8) rfl rfl), pre9⟩ rfl rfl hlv.1 rfl (lv_room (Nat.le_of_ble_eq_true rfl)) dX11_says_12 ⟨Nat.le_of_ble_eq_true rfl, Nat.le_of_ble_eq_true rfl⟩)) hP hD hS hA hG hT [8, 9] rfl (by decide +kernel) (fun E ux3 ce q9 H locs hp hq9 hS h1 h2 h3 => ?_) (fun u3 H locs hw3 hq9 hS => ?_)
  · obtain ⟨hP, hD⟩ := hq9
    obtain ⟨hp, hxg3⟩ := hp
    obtain rfl := hp
    exact vx_out (fun x h => (hex x h).elim) hlocks h1 h2 h3 (fun t ht hvm => ⟨((fun k => ([] : List Nat).getD k 0), (fun k => ([] : List Int).getD k 0), (fun k => ([(ux3.2.2 0)] : List (Nat → Int32)).getD k (fun _ => 0))), trivial, ⟨Or.inr (rfl), at9 ht hP hD [8, 9, 0, 1, 2, 3, 4, 5, 6, 7] (by decide +kernel) rfl⟩, hS.F ht⟩) hS.2.2 (Nat.le_of_ble_eq_true rfl) (Nat.le_of_ble_eq_true rfl)
  have hq3_0 : ((u2.2.1 0) = 1) := hw3
  obtain ⟨hP, hD⟩ := pd9 [zQ kl (cy 5) 4 klf, zO la 1 [vR l0, vI size, vR l2, vR l3], zI l0 (cy 0) 600 st, zI l2 (cy 0) 5 sf, zI l3 (cy 0) 40 vf, zO wa 9 [vR tA, vR ca, vR se, vI fo, vI wth], zO ca 0 [vR na, vI crow, vI cpace, vI ctyre, vI ckind, vI crt, vI cpt], zI na (cy 0) 7 nf, zO kk 11 [vR ta, vR kr, vR kl, vI nr, vI nw, vR sA, vR dA, vR pa, vR ki, vR kp, vI im, vR wa, vR or_, vR rq], zI rq (cy 0) 4 qf] hq9
  refine lv_aload_n hx hb dX11_says_15 rfl (lv_at hlv 0 rfl) ?_
  refine va_get (D := D) (ci := 11) (v := vR wa) (C := RX11) (T := TX11) (N := 14) hx hb hts hi11 hown hG.1 hP 8 rfl rfl 11 (by decide) lf56 (fun _ h9 => h9) rfl dX11_says_16 ?_
  refine va_getN (D := D) (ci := 9) (v := vR ca) (C := RX9) (T := TX9) (N := 5) hx hb hts hi9 hown hG.1 hP 5 rfl rfl 1 (by decide) (va_Nw.use rfl (nF_K_230 hG.2.1)) (fun _ h9 => h9) rfl dX11_says_19 ?_
  refine va_getN (D := D) (ci := 0) (v := vR na) (C := RX0) (T := TX0) (N := 7) hx hb hts hi0 hown hG.1 hP 6 rfl rfl 0 (by decide) (va_Nw.use rfl (nF_K_234 hG.2.1)) (fun _ h9 => h9) rfl dX11_says_22 ?_
  refine lv_astore (lv' := [(10, vR na), (0, vR kk), (1, vI n), (2, vI w_), (3, vI a0), (4, vI a1), (5, vI a2), (6, vI a3), (7, vI a4), (8, vI a5), (9, vI a6)]) hx hb dX11_says_25 hlv (by decide) rfl (fun ls hlv => ?_)
  refine lv_aload hx hb dX11_says_27 (lv_at hlv 0 rfl) ?_
  refine lv_iconst (v := iI 0) hx hb dX11_says_29 (by decide) ?_
  refine lv_iload_n hx hb dX11_says_30 rfl (lv_at hlv 4 rfl) ?_
  refine va_iast hx hb hG.1 hP hD hS 7 0 rfl rfl (iI_in (by omega) (by decide)) dX11_says_31 (fun H locs hP hD hS => ?_)
  obtain ⟨f_1, hP, hD⟩ := pe9 (fun f_1 => [zQ kl (cy 5) 4 klf, zO la 1 [vR l0, vI size, vR l2, vR l3], zI l0 (cy 0) 600 st, zI l2 (cy 0) 5 sf, zI l3 (cy 0) 40 vf, zO wa 9 [vR tA, vR ca, vR se, vI fo, vI wth], zO ca 0 [vR na, vI crow, vI cpace, vI ctyre, vI ckind, vI crt, vI cpt], zI na (cy 0) 7 f_1, zO kk 11 [vR ta, vR kr, vR kl, vI nr, vI nw, vR sA, vR dA, vR pa, vR ki, vR kp, vI im, vR wa, vR or_, vR rq], zI rq (cy 0) 4 qf]) _ hP hD
  refine lv_aload hx hb dX11_says_32 (lv_at hlv 0 rfl) ?_
  refine lv_iconst (v := iI 1) hx hb dX11_says_34 (by decide) ?_
  refine lv_iload hx hb dX11_says_35 (lv_at hlv 5 rfl) ?_
  refine va_iast hx hb hG.1 hP hD hS 7 0 rfl rfl (iI_in (by omega) (by decide)) dX11_says_37 (fun H locs hP hD hS => ?_)
  obtain ⟨f_2, hP, hD⟩ := pe9 (fun f_2 => [zQ kl (cy 5) 4 klf, zO la 1 [vR l0, vI size, vR l2, vR l3], zI l0 (cy 0) 600 st, zI l2 (cy 0) 5 sf, zI l3 (cy 0) 40 vf, zO wa 9 [vR tA, vR ca, vR se, vI fo, vI wth], zO ca 0 [vR na, vI crow, vI cpace, vI ctyre, vI ckind, vI crt, vI cpt], zI na (cy 0) 7 f_2, zO kk 11 [vR ta, vR kr, vR kl, vI nr, vI nw, vR sA, vR dA, vR pa, vR ki, vR kp, vI im, vR wa, vR or_, vR rq], zI rq (cy 0) 4 qf]) _ hP hD
  refine lv_aload hx hb dX11_says_38 (lv_at hlv 0 rfl) ?_
  refine lv_iconst (v := iI 2) hx hb dX11_says_40 (by decide) ?_
  refine lv_iload hx hb dX11_says_41 (lv_at hlv 6 rfl) ?_
  refine va_iast hx hb hG.1 hP hD hS 7 0 rfl rfl (iI_in (by omega) (by decide)) dX11_says_43 (fun H locs hP hD hS => ?_)
  obtain ⟨f_3, hP, hD⟩ := pe9 (fun f_3 => [zQ kl (cy 5) 4 klf, zO la 1 [vR l0, vI size, vR l2, vR l3], zI l0 (cy 0) 600 st, zI l2 (cy 0) 5 sf, zI l3 (cy 0) 40 vf, zO wa 9 [vR tA, vR ca, vR se, vI fo, vI wth], zO ca 0 [vR na, vI crow, vI cpace, vI ctyre, vI ckind, vI crt, vI cpt], zI na (cy 0) 7 f_3, zO kk 11 [vR ta, vR kr, vR kl, vI nr, vI nw, vR sA, vR dA, vR pa, vR ki, vR kp, vI im, vR wa, vR or_, vR rq], zI rq (cy 0) 4 qf]) _ hP hD
  refine lv_aload hx hb dX11_says_44 (lv_at hlv 0 rfl) ?_
  refine lv_iconst (v := iI 3) hx hb dX11_says_46 (by decide) ?_
  refine lv_iload hx hb dX11_says_47 (lv_at hlv 7 rfl) ?_
  refine va_iast hx hb hG.1 hP hD hS 7 0 rfl rfl (iI_in (by omega) (by decide)) dX11_says_49 (fun H locs hP hD hS => ?_)
  obtain ⟨f_4, hP, hD⟩ := pe9 (fun f_4 => [zQ kl (cy 5) 4 klf, zO la 1 [vR l0, vI size, vR l2, vR l3], zI l0 (cy 0) 600 st, zI l2 (cy 0) 5 sf, zI l3 (cy 0) 40 vf, zO wa 9 [vR tA, vR ca, vR se, vI fo, vI wth], zO ca 0 [vR na, vI crow, vI cpace, vI ctyre, vI ckind, vI crt, vI cpt], zI na (cy 0) 7 f_4, zO kk 11 [vR ta, vR kr, vR kl, vI nr, vI nw, vR sA, vR dA, vR pa, vR ki, vR kp, vI im, vR wa, vR or_, vR rq], zI rq (cy 0) 4 qf]) _ hP hD
  refine lv_aload hx hb dX11_says_50 (lv_at hlv 0 rfl) ?_
  refine lv_iconst (v := iI 4) hx hb dX11_says_52 (by decide) ?_
  refine lv_iload hx hb dX11_says_53 (lv_at hlv 8 rfl) ?_
  refine va_iast hx hb hG.1 hP hD hS 7 0 rfl rfl (iI_in (by omega) (by decide)) dX11_says_55 (fun H locs hP hD hS => ?_)
  obtain ⟨f_5, hP, hD⟩ := pe9 (fun f_5 => [zQ kl (cy 5) 4 klf, zO la 1 [vR l0, vI size, vR l2, vR l3], zI l0 (cy 0) 600 st, zI l2 (cy 0) 5 sf, zI l3 (cy 0) 40 vf, zO wa 9 [vR tA, vR ca, vR se, vI fo, vI wth], zO ca 0 [vR na, vI crow, vI cpace, vI ctyre, vI ckind, vI crt, vI cpt], zI na (cy 0) 7 f_5, zO kk 11 [vR ta, vR kr, vR kl, vI nr, vI nw, vR sA, vR dA, vR pa, vR ki, vR kp, vI im, vR wa, vR or_, vR rq], zI rq (cy 0) 4 qf]) _ hP hD
  refine lv_aload hx hb dX11_says_56 (lv_at hlv 0 rfl) ?_
  refine lv_iconst (v := iI 5) hx hb dX11_says_58 (by decide) ?_
  refine lv_iload hx hb dX11_says_59 (lv_at hlv 9 rfl) ?_
  refine va_iast hx hb hG.1 hP hD hS 7 0 rfl rfl (iI_in (by omega) (by decide)) dX11_says_61 (fun H locs hP hD hS => ?_)
  obtain ⟨f_6, hP, hD⟩ := pe9 (fun f_6 => [zQ kl (cy 5) 4 klf, zO la 1 [vR l0, vI size, vR l2, vR l3], zI l0 (cy 0) 600 st, zI l2 (cy 0) 5 sf, zI l3 (cy 0) 40 vf, zO wa 9 [vR tA, vR ca, vR se, vI fo, vI wth], zO ca 0 [vR na, vI crow, vI cpace, vI ctyre, vI ckind, vI crt, vI cpt], zI na (cy 0) 7 f_6, zO kk 11 [vR ta, vR kr, vR kl, vI nr, vI nw, vR sA, vR dA, vR pa, vR ki, vR kp, vI im, vR wa, vR or_, vR rq], zI rq (cy 0) 4 qf]) _ hP hD
  refine lv_aload hx hb dX11_says_62 (lv_at hlv 0 rfl) ?_
  refine lv_bipush (v := iI 6) hx hb dX11_says_64 (by decide) ?_
  refine lv_iload hx hb dX11_says_66 (lv_at hlv 10 rfl) ?_
  refine va_iast hx hb hG.1 hP hD hS 7 0 rfl rfl (iI_in (by omega) (by decide)) dX11_says_68 (fun H locs hP hD hS => ?_)
  obtain ⟨f_7, hP, hD⟩ := pe9 (fun f_7 => [zQ kl (cy 5) 4 klf, zO la 1 [vR l0, vI size, vR l2, vR l3], zI l0 (cy 0) 600 st, zI l2 (cy 0) 5 sf, zI l3 (cy 0) 40 vf, zO wa 9 [vR tA, vR ca, vR se, vI fo, vI wth], zO ca 0 [vR na, vI crow, vI cpace, vI ctyre, vI ckind, vI crt, vI cpt], zI na (cy 0) 7 f_7, zO kk 11 [vR ta, vR kr, vR kl, vI nr, vI nw, vR sA, vR dA, vR pa, vR ki, vR kp, vI im, vR wa, vR or_, vR rq], zI rq (cy 0) 4 qf]) _ hP hD
  refine lv_aload_n hx hb dX11_says_69 rfl (lv_at hlv 1 rfl) ?_
  refine va_get (D := D) (ci := 11) (v := vR kl) (C := RX11) (T := TX11) (N := 14) hx hb hts hi11 hown hG.1 hP 8 rfl rfl 2 (by decide) lf24 (fun _ h9 => h9) rfl dX11_says_70 ?_
  refine lv_iload_n hx hb dX11_says_73 rfl (lv_at hlv 2 rfl) ?_
  refine va_aldq hx hb hG.1 hP 0 5 rfl rfl (iI_in (by omega) (by decide)) dX11_says_74 ?_
  refine ltv (y := vR la) (by rw [iI_cl (by omega) (by omega), hp0 (by omega)]; rfl) ?_
  refine lv_iload_n hx hb dX11_says_75 rfl (lv_at hlv 3 rfl) ?_
  refine lv_aload hx hb dX11_says_76 (lv_at hlv 0 rfl) ?_
  refine cjr_i [true, false, false, false, false, true, true, false, true, true] (fun pre9 => (va_runVN (host := "KerbSplash") (As := [vI w_, vR na]) (rest := []) ⟨hx, hb, hml, hown, hts⟩ (w_value l hl D cy sa la l0 l2 l3 na size st sf vf f_7 w_ H.size (by first | exact hr_size | omega) (by omega) hst) ⟨va_cnB 2 hts gg_6 rfl rfl rfl (nM_K_239 hG.2.1) ini_RX1 (by decide +kernel) ⟨Nat.le_of_ble_eq_true rfl, Nat.le_of_ble_eq_true rfl⟩, im_X1_value, se_X1_value⟩ ⟨pcW.blind, (va_recv hG.1 hP (ci := 1) (q0 := 1) rfl rfl), pre9⟩ rfl rfl hlv.1 rfl (lv_room (Nat.le_of_ble_eq_true rfl)) dX11_says_78 ⟨Nat.le_of_ble_eq_true rfl, Nat.le_of_ble_eq_true rfl⟩)) hP hD hS hA hG hT [1, 2, 3, 4, 7] rfl (by decide +kernel) (fun r4 u4 H locs hw4 hq9 hS => ?_)
  obtain ⟨rfl, hq4_1, hq4_2⟩ := hw4
  obtain ⟨hP, hD⟩ := pd9 [zQ kl (cy 5) 4 klf, zO wa 9 [vR tA, vR ca, vR se, vI fo, vI wth], zO ca 0 [vR na, vI crow, vI cpace, vI ctyre, vI ckind, vI crt, vI cpt], zO kk 11 [vR ta, vR kr, vR kl, vI nr, vI nw, vR sA, vR dA, vR pa, vR ki, vR kp, vI im, vR wa, vR or_, vR rq], zI rq (cy 0) 4 qf, zO la 1 [vR l0, vI size, vR l2, vR l3], zI l0 (cy 0) 600 st, zI l2 (cy 0) 5 sf, zI l3 (cy 0) 40 (u4.2.2 0), zI na (cy 0) 7 f_7] hq9
  refine W.widen (k := 2) (n := 12) (Nat.le_of_ble_eq_true rfl) (Nat.le_of_ble_eq_true rfl) ?_
  refine vx_ret ?_
  exact W.iret (v := iI (u4.2.1 0)) hx hb hr (fun t ht hW => ⟨⟨iI (u4.2.1 0), ((fun k => ([] : List Nat).getD k 0), (fun k => ([(u4.2.1 0)] : List Int).getD k 0), (fun k => ([(u4.2.2 0), f_7] : List (Nat → Int32)).getD k (fun _ => 0))), rfl, ⟨rfl, (by show ((-2147483648) ≤ (u4.2.1 0) ∧ (u4.2.1 0) ≤ 2147483647); first | exact hq4_1 | omega), hq4_2⟩, at9 ht hP hD [3, 4, 0, 5, 6, 7, 8, 1, 2, 9] (by decide +kernel) rfl⟩, hS.F ht⟩) hS.2.2 dX11_says_81
def vs_k_car : List Cond := .code yX11_car cX11_car 6 (some .int) :: (([.fieldLink RX11 31 "KerbSplash" "now" "LKerbSplash$Street;", .initialized RX6, .instanceMethod yX6_isTold, .selects RX6 yX6_isTold yX6_isTold, .fieldLink RX11 56 "KerbSplash" "whatIf" "LKerbSplash$WhatIf;", .initialized RX0, .instanceMethod yX0_become, .selects RX0 yX0_become yX0_become, .fieldLink RX11 24 "KerbSplash" "laws" "[LKerbSplash$Law;", .instanceMethod yX0_drive, .selects RX0 yX0_drive yX0_drive] : List Cond) ++ ((wsV RX11 227 RX11 yX11_needLaw vs_k_needLaw) ++ ((wsV RX11 243 RX11 yX11_isCar vs_k_isCar) ++ ((wsV RX11 134 RX11 yX11_needArgument vs_k_needArgument) ++ ((wsX110) ++ ((vs_s_isTold) ++ ((wsV RX11 202 RX11 yX11_needState vs_k_needState) ++ ((wsX90) ++ ((vs_c_become) ++ ((vs_c_drive) ++ ([])))))))))))
theorem gd_k_car : vs_k_car.all goodWord = true := gd_C (by decide +kernel) (gd_A (by decide +kernel) (gd_A (gd_V gd_k_needLaw (by decide +kernel)) (gd_A (gd_V gd_k_isCar (by decide +kernel)) (gd_A (gd_V gd_k_needArgument (by decide +kernel)) (gd_A (by decide +kernel) (gd_A gd_s_isTold (gd_A (gd_V gd_k_needState (by decide +kernel)) (gd_A (by decide +kernel) (gd_A gd_c_become (gd_A gd_c_drive rfl))))))))))
set_option maxHeartbeats 4000000 in
set_option maxRecDepth 100000 in
theorem k_car (l : Launch) (hl : l.stackTraces = false) (D : va_G) (cy : Nat → ClassId) (sa : Nat → Nat) (kk ta kr kl sA dA pa ki kp wa or_ rq : Nat) (nr nw im : Int) (qf : Nat → Int32) (klf : Nat → Option Nat) (la l0 l2 l3 : Nat) (size : Int) (st sf vf : Nat → Int32) (se : Nat) (fo wth : Int) (tA : Nat) (ca na : Nat) (crow cpace ctyre ckind crt cpt : Int) (nf : Nat → Int32) (s2 s3 s6 s8 s11 s13 : Nat) (wi ro dr dt pe gu sh wo dn mi fl tk go : Int) (wf pf shf : Nat → Int32) (n p1 p2 p3 p4 : Int) (sz : Nat) (hr_nr : 0 ≤ nr ∧ nr ≤ 4) (hr_nw : 0 ≤ nw ∧ nw ≤ 4) (hr_im : 0 ≤ im ∧ im ≤ 3) (hr_size : 0 ≤ size ∧ size ≤ 600) (hr_fo : (-2147483648) ≤ fo ∧ fo ≤ 2147483647) (hr_wth : (-2147483648) ≤ wth ∧ wth ≤ 2147483647) (hr_crow : 0 ≤ crow ∧ crow ≤ 5) (hr_cpace : (-2147483648) ≤ cpace ∧ cpace ≤ 2147483647) (hr_ctyre : (-2147483648) ≤ ctyre ∧ ctyre ≤ 2147483647) (hr_ckind : (-2147483648) ≤ ckind ∧ ckind ≤ 2147483647) (hr_crt : 0 ≤ crt ∧ crt ≤ 5) (hr_cpt : (-2147483648) ≤ cpt ∧ cpt ≤ 2147483647) (hr_wi : 0 ≤ wi ∧ wi ≤ 16) (hr_ro : 0 ≤ ro ∧ ro ≤ 6) (hr_dr : 0 ≤ dr ∧ dr ≤ 14) (hr_dt : 0 ≤ dt ∧ dt ≤ 6) (hr_pe : 0 ≤ pe ∧ pe ≤ 8) (hr_gu : 0 ≤ gu ∧ gu ≤ 20) (hr_sh : 0 ≤ sh ∧ sh ≤ 2) (hr_wo : 0 ≤ wo ∧ wo ≤ 8) (hr_dn : (-2147483648) ≤ dn ∧ dn ≤ 2147483647) (hr_mi : 0 ≤ mi ∧ mi ≤ 600) (hr_fl : (-2147483648) ≤ fl ∧ fl ≤ 2147483647) (hr_tk : (-2147483648) ≤ tk ∧ tk ≤ 2147483647) (hr_go : (-2147483648) ≤ go ∧ go ≤ 2147483647) (hr_n : (-2147483648) ≤ n ∧ n ≤ 2147483647) (hr_p1 : (-2147483648) ≤ p1 ∧ p1 ≤ 2147483647) (hr_p2 : (-2147483648) ≤ p2 ∧ p2 ≤ 2147483647) (hr_p3 : (-2147483648) ≤ p3 ∧ p3 ≤ 2147483647) (hr_p4 : (-2147483648) ≤ p4 ∧ p4 ≤ 2147483647) (hp0 : 0 ≤ n ∧ n < 4 → klf n.toNat = some la) (hst : inv_ 600 0 2147483647 st) (hpf : tab_ 4 28 [0, 0, (-2147483648), (-2147483648)] [15, 19, 2147483647, 2147483647] pf) : xI9 l yX11_car vs_k_car ({ frames := 8, cells := 3, slots := 18, locals := 142 }) D cy sa sz [vR kk, vI n, vI p1, vI p2, vI p3, vI p4] [zO kk 11 [vR ta, vR kr, vR kl, vI nr, vI nw, vR sA, vR dA, vR pa, vR ki, vR kp, vI im, vR wa, vR or_, vR rq], zI rq (cy 0) 4 qf, zQ kl (cy 5) 4 klf, zO la 1 [vR l0, vI size, vR l2, vR l3], zI l0 (cy 0) 600 st, zI l2 (cy 0) 5 sf, zI l3 (cy 0) 40 vf, zO wa 9 [vR tA, vR ca, vR se, vI fo, vI wth], zO ca 0 [vR na, vI crow, vI cpace, vI ctyre, vI ckind, vI crt, vI cpt], zI na (cy 0) 7 nf, zO sA 6 [vI wi, vI ro, vR s2, vR s3, vI dr, vI dt, vR s6, vI pe, vR s8, vI gu, vI sh, vR s11, vI wo, vR s13, vI dn, vI mi, vI fl, vI tk, vI go], zI s3 (cy 0) 96 wf, zI s8 (cy 0) 112 pf, zI s11 (cy 0) 4 shf] (fun (r : Int32) (u : SV) => r = iI (u.2.1 0) ∧ ((-2147483648) ≤ u.2.1 0 ∧ u.2.1 0 ≤ 2147483647) ∧ (0 ≤ u.2.1 1 ∧ u.2.1 1 ≤ 5) ∧ ((-2147483648) ≤ u.2.1 2 ∧ u.2.1 2 ≤ 2147483647) ∧ ((-2147483648) ≤ u.2.1 3 ∧ u.2.1 3 ≤ 2147483647) ∧ ((-2147483648) ≤ u.2.1 4 ∧ u.2.1 4 ≤ 2147483647) ∧ (0 ≤ u.2.1 5 ∧ u.2.1 5 ≤ 5) ∧ ((-2147483648) ≤ u.2.1 6 ∧ u.2.1 6 ≤ 2147483647) ∧ ((-2147483648) ≤ u.2.1 7 ∧ u.2.1 7 ≤ 2147483647) ∧ inv_ 600 0 2147483647 st ∧ tab_ 4 28 [0, 0, (-2147483648), (-2147483648)] [15, 19, 2147483647, 2147483647] (u.2.2 3)) (fun u : SV => [zO kk 11 [vR ta, vR kr, vR kl, vI nr, vI nw, vR sA, vR dA, vR pa, vR ki, vR kp, vI im, vR wa, vR or_, vR rq], zI rq (cy 0) 4 qf, zQ kl (cy 5) 4 klf, zO la 1 [vR l0, vI size, vR l2, vR l3], zI l0 (cy 0) 600 st, zI l2 (cy 0) 5 sf, zI l3 (cy 0) 40 (u.2.2 0), zO wa 9 [vR tA, vR ca, vR se, vI fo, vI wth], zO ca 0 [vR na, vI (u.2.1 1), vI (u.2.1 2), vI (u.2.1 3), vI (u.2.1 4), vI (u.2.1 5), vI (u.2.1 6)], zI na (cy 0) 7 (u.2.2 1), zO sA 6 [vI wi, vI ro, vR s2, vR s3, vI dr, vI dt, vR s6, vI pe, vR s8, vI gu, vI sh, vR s11, vI wo, vR s13, vI dn, vI mi, vI fl, vI tk, vI (u.2.1 7)], zI s3 (cy 0) 96 (u.2.2 2), zI s8 (cy 0) 112 (u.2.2 3), zI s11 (cy 0) 4 shf]) (fun (E : String) (u : SV) => (E = "java/util/NoSuchElementException" ∨ E = "java/lang/IllegalArgumentException" ∨ E = "java/lang/IllegalStateException")) (fun u : SV => [zO kk 11 [vR ta, vR kr, vR kl, vI nr, vI nw, vR sA, vR dA, vR pa, vR ki, vR kp, vI im, vR wa, vR or_, vR rq], zI rq (cy 0) 4 (u.2.2 0), zQ kl (cy 5) 4 klf, zO la 1 [vR l0, vI size, vR l2, vR l3], zI l0 (cy 0) 600 st, zI l2 (cy 0) 5 sf, zI l3 (cy 0) 40 vf, zO wa 9 [vR tA, vR ca, vR se, vI fo, vI wth], zO ca 0 [vR na, vI crow, vI cpace, vI ctyre, vI ckind, vI crt, vI cpt], zI na (cy 0) 7 nf, zO sA 6 [vI wi, vI ro, vR s2, vR s3, vI dr, vI dt, vR s6, vI pe, vR s8, vI gu, vI sh, vR s11, vI wo, vR s13, vI dn, vI mi, vI fl, vI tk, vI go], zI s3 (cy 0) 96 wf, zI s8 (cy 0) 112 pf, zI s11 (cy 0) 4 shf]) 3 18 := by
  refine vx_ofW (cc := cX11_car) (maxL := 6) (ret := (some .int)) (by decide) rfl ?_
  intro p e s m args below meth c s₁ B hml hex hv
  obtain ⟨rfl, hsz, hP, hG, hD0, hT⟩ := hv
  have hx := B.exec
  have hb := B.bytes
  have hr := B.returns
  have hts := atoms_spec (ws := vs_k_car) B.pre
  have hown : s.vm.findClass RX11 = some m.cls := findClass_of_methodNamed B.named
  have hlocks := B.notSynchronized
  subst hsz
  have hD := hD0.self (sz := s.heap.size)
  generalize hAe : va_A [zO kk 11 [vR ta, vR kr, vR kl, vI nr, vI nw, vR sA, vR dA, vR pa, vR ki, vR kp, vI im, vR wa, vR or_, vR rq], zI rq (cy 0) 4 qf, zQ kl (cy 5) 4 klf, zO la 1 [vR l0, vI size, vR l2, vR l3], zI l0 (cy 0) 600 st, zI l2 (cy 0) 5 sf, zI l3 (cy 0) 40 vf, zO wa 9 [vR tA, vR ca, vR se, vI fo, vI wth], zO ca 0 [vR na, vI crow, vI cpace, vI ctyre, vI ckind, vI crt, vI cpt], zI na (cy 0) 7 nf, zO sA 6 [vI wi, vI ro, vR s2, vR s3, vI dr, vI dt, vR s6, vI pe, vR s8, vI gu, vI sh, vR s11, vI wo, vR s13, vI dn, vI mi, vI fl, vI tk, vI go], zI s3 (cy 0) 96 wf, zI s8 (cy 0) 112 pf, zI s11 (cy 0) 4 shf] s.heap.size = A at hD hT ⊢
  have hA : ∀ q : Nat, s.heap.size ≤ q → A q := fun q h => by rw [← hAe]; exact Or.inr h
  have hS : va_S A s.heap s.heap [] := va_S.rf
  have hl0 := lv_entry ([vR kk, vI n, vI p1, vI p2, vI p3, vI p4]) (n := 6) (Nat.le_of_ble_eq_true rfl)
  rw [lg_entry_eq]
  generalize (lg_sl ([vR kk, vI n, vI p1, vI p2, vI p3, vI p4]) ++ List.replicate (6 - (lg_sl ([vR kk, vI n, vI p1, vI p2, vI p3, vI p4])).length) Slot.unset).toArray = ls at hl0 ⊢
  have hlv : lv_has ls 6 [(0, vR kk), (1, vI n), (2, vI p1), (3, vI p2), (4, vI p3), (5, vI p4)] := hl0
  have gg_0 : GoodIn vs_k_car (wsV RX11 227 RX11 yX11_needLaw vs_k_needLaw) := goodIn_sub (fun w h => List.mem_cons_of_mem _ (List.mem_append_right _ (List.mem_append_left _ h))) (gd_V gd_k_needLaw (by decide +kernel))
  have gg_1 : GoodIn vs_k_car (wsV RX11 243 RX11 yX11_isCar vs_k_isCar) := goodIn_sub (fun w h => List.mem_cons_of_mem _ (List.mem_append_right _ (List.mem_append_right _ (List.mem_append_left _ h)))) (gd_V gd_k_isCar (by decide +kernel))
  have gg_2 : GoodIn vs_k_car (wsV RX11 134 RX11 yX11_needArgument vs_k_needArgument) := goodIn_sub (fun w h => List.mem_cons_of_mem _ (List.mem_append_right _ (List.mem_append_right _ (List.mem_append_right _ (List.mem_append_left _ h))))) (gd_V gd_k_needArgument (by decide +kernel))
  have lf31 := hts (.fieldLink RX11 31 "KerbSplash" "now" "LKerbSplash$Street;") (List.mem_of_getElem? (i := 1) rfl)
  have hi11 : ∀ w ∈ wsX110, w ∈ vs_k_car := fun w h => List.mem_cons_of_mem _ (List.mem_append_right _ (List.mem_append_right _ (List.mem_append_right _ (List.mem_append_right _ (List.mem_append_left _ h)))))
  have gg_4 : GoodIn vs_k_car (vs_s_isTold) := goodIn_sub (fun w h => List.mem_cons_of_mem _ (List.mem_append_right _ (List.mem_append_right _ (List.mem_append_right _ (List.mem_append_right _ (List.mem_append_right _ (List.mem_append_left _ h))))))) gd_s_isTold
  have ini_RX6 := hts (.initialized RX6) (List.mem_of_getElem? (i := 2) rfl)
  have im_X6_isTold := hts (.instanceMethod yX6_isTold) (List.mem_of_getElem? (i := 3) rfl)
  have se_X6_isTold := hts (.selects RX6 yX6_isTold yX6_isTold) (List.mem_of_getElem? (i := 4) rfl)
  have gg_5 : GoodIn vs_k_car (wsV RX11 202 RX11 yX11_needState vs_k_needState) := goodIn_sub (fun w h => List.mem_cons_of_mem _ (List.mem_append_right _ (List.mem_append_right _ (List.mem_append_right _ (List.mem_append_right _ (List.mem_append_right _ (List.mem_append_right _ (List.mem_append_left _ h)))))))) (gd_V gd_k_needState (by decide +kernel))
  have lf56 := hts (.fieldLink RX11 56 "KerbSplash" "whatIf" "LKerbSplash$WhatIf;") (List.mem_of_getElem? (i := 5) rfl)
  have hi9 : ∀ w ∈ wsX90, w ∈ vs_k_car := fun w h => List.mem_cons_of_mem _ (List.mem_append_right _ (List.mem_append_right _ (List.mem_append_right _ (List.mem_append_right _ (List.mem_append_right _ (List.mem_append_right _ (List.mem_append_right _ (List.mem_append_left _ h))))))))
  have gg_7 : GoodIn vs_k_car (vs_c_become) := goodIn_sub (fun w h => List.mem_cons_of_mem _ (List.mem_append_right _ (List.mem_append_right _ (List.mem_append_right _ (List.mem_append_right _ (List.mem_append_right _ (List.mem_append_right _ (List.mem_append_right _ (List.mem_append_right _ (List.mem_append_left _ h)))))))))) gd_c_become
  have ini_RX0 := hts (.initialized RX0) (List.mem_of_getElem? (i := 6) rfl)
  have im_X0_become := hts (.instanceMethod yX0_become) (List.mem_of_getElem? (i := 7) rfl)
  have se_X0_become := hts (.selects RX0 yX0_become yX0_become) (List.mem_of_getElem? (i := 8) rfl)
  have lf24 := hts (.fieldLink RX11 24 "KerbSplash" "laws" "[LKerbSplash$Law;") (List.mem_of_getElem? (i := 9) rfl)
  have gg_8 : GoodIn vs_k_car (vs_c_drive) := goodIn_sub (fun w h => List.mem_cons_of_mem _ (List.mem_append_right _ (List.mem_append_right _ (List.mem_append_right _ (List.mem_append_right _ (List.mem_append_right _ (List.mem_append_right _ (List.mem_append_right _ (List.mem_append_right _ (List.mem_append_right _ (List.mem_append_left _ h))))))))))) gd_c_drive
  have im_X0_drive := hts (.instanceMethod yX0_drive) (List.mem_of_getElem? (i := 10) rfl)
  have se_X0_drive := hts (.selects RX0 yX0_drive yX0_drive) (List.mem_of_getElem? (i := 11) rfl)
  refine lv_aload_n hx hb dX11_car_0 rfl (lv_at hlv 0 rfl) ?_
  refine lv_iload_n hx hb dX11_car_1 rfl (lv_at hlv 1 rfl) ?_
  refine cjrx_v [false, false, true, true, true, true, true, true, true, true, true, true, true, true] (fun pre9 => (vx_runV (As := [vI n]) (rest := []) ⟨hx, hb, hml, hown, hts⟩ (k_needLaw l hl D cy sa kk ta kr kl sA dA pa ki kp wa or_ rq nr nw im qf n s.heap.size (by first | exact hr_nr | omega) (by first | exact hr_nw | omega) (by first | exact hr_im | omega) (by first | exact hr_n | omega)) (cwV 1 hts gg_0 rfl rfl rfl (by decide +kernel) ⟨Nat.le_of_ble_eq_true rfl, Nat.le_of_ble_eq_true rfl⟩) ⟨pcW.blind, (va_recv hG.1 hP (ci := 11) (q0 := 0) rfl rfl), pre9⟩ rfl rfl hlv.1 rfl (lv_room (Nat.le_of_ble_eq_true rfl)) dX11_car_2 ⟨Nat.le_of_ble_eq_true rfl, Nat.le_of_ble_eq_true rfl⟩)) hP hD hS hA hG hT [0, 1] rfl (by decide +kernel) (fun E ux1 ce q9 H locs hp hq9 hS h1 h2 h3 => ?_) (fun u1 H locs hw1 hq9 hS => ?_)
  · obtain ⟨hP, hD⟩ := hq9
    obtain rfl := hp
    exact vx_out (fun x h => (hex x h).elim) hlocks h1 h2 h3 (fun t ht hvm => ⟨((fun k => ([] : List Nat).getD k 0), (fun k => ([] : List Int).getD k 0), (fun k => ([(ux1.2.2 0)] : List (Nat → Int32)).getD k (fun _ => 0))), trivial, ⟨Or.inl rfl, at9 ht hP hD [12, 13, 0, 1, 2, 3, 4, 5, 6, 7, 8, 9, 10, 11] (by decide +kernel) rfl⟩, hS.F ht⟩) hS.2.2 (Nat.le_of_ble_eq_true rfl) (Nat.le_of_ble_eq_true rfl)
  have hq1_0 : ((0 : Int) ≤ n ∧ n < nw) := hw1
  obtain ⟨hP, hD⟩ := pd9 [zQ kl (cy 5) 4 klf, zO la 1 [vR l0, vI size, vR l2, vR l3], zI l0 (cy 0) 600 st, zI l2 (cy 0) 5 sf, zI l3 (cy 0) 40 vf, zO wa 9 [vR tA, vR ca, vR se, vI fo, vI wth], zO ca 0 [vR na, vI crow, vI cpace, vI ctyre, vI ckind, vI crt, vI cpt], zI na (cy 0) 7 nf, zO sA 6 [vI wi, vI ro, vR s2, vR s3, vI dr, vI dt, vR s6, vI pe, vR s8, vI gu, vI sh, vR s11, vI wo, vR s13, vI dn, vI mi, vI fl, vI tk, vI go], zI s3 (cy 0) 96 wf, zI s8 (cy 0) 112 pf, zI s11 (cy 0) 4 shf, zO kk 11 [vR ta, vR kr, vR kl, vI nr, vI nw, vR sA, vR dA, vR pa, vR ki, vR kp, vI im, vR wa, vR or_, vR rq], zI rq (cy 0) 4 qf] hq9
  refine lv_aload_n hx hb dX11_car_5 rfl (lv_at hlv 0 rfl) ?_
  refine lv_aload_n hx hb dX11_car_6 rfl (lv_at hlv 0 rfl) ?_
  refine lv_iload_n hx hb dX11_car_7 rfl (lv_at hlv 2 rfl) ?_
  refine lv_iload_n hx hb dX11_car_8 rfl (lv_at hlv 3 rfl) ?_
  refine lv_iload hx hb dX11_car_9 (lv_at hlv 4 rfl) ?_
  refine lv_iload hx hb dX11_car_11 (lv_at hlv 5 rfl) ?_
  refine cjr_i [true, true, true, true, true, true, true, true, false, true, true, true, false, true] (fun pre9 => (va_runV (As := [vI p1, vI p2, vI p3, vI p4]) (rest := [vR kk]) ⟨hx, hb, hml, hown, hts⟩ (k_isCar l hl D cy sa kk ta kr kl sA dA pa ki kp wa or_ rq nr nw im s2 s3 s6 s8 s11 s13 wi ro dr dt pe gu sh wo dn mi fl tk go p1 p2 p3 p4 H.size (by first | exact hr_nr | omega) (by first | exact hr_nw | omega) (by first | exact hr_im | omega) (by first | exact hr_wi | omega) (by first | exact hr_ro | omega) (by first | exact hr_dr | omega) (by first | exact hr_dt | omega) (by first | exact hr_pe | omega) (by first | exact hr_gu | omega) (by first | exact hr_sh | omega) (by first | exact hr_wo | omega) (by first | exact hr_dn | omega) (by first | exact hr_mi | omega) (by first | exact hr_fl | omega) (by first | exact hr_tk | omega) (by first | exact hr_go | omega) (by first | exact hr_p1 | omega) (by first | exact hr_p2 | omega) (by first | exact hr_p3 | omega) (by first | exact hr_p4 | omega)) (cwV 4 hts gg_1 rfl rfl rfl (by decide +kernel) ⟨Nat.le_of_ble_eq_true rfl, Nat.le_of_ble_eq_true rfl⟩) ⟨pcW.blind, (va_recv hG.1 hP (ci := 11) (q0 := 12) rfl rfl), pre9⟩ rfl rfl hlv.1 rfl (lv_room (Nat.le_of_ble_eq_true rfl)) dX11_car_13 ⟨Nat.le_of_ble_eq_true rfl, Nat.le_of_ble_eq_true rfl⟩)) hP hD hS hA hG hT [12, 8] rfl (by decide +kernel) (fun r2 u2 H locs hw2 hq9 hS => ?_)
  obtain ⟨rfl, hq2_1, hq2_2⟩ := hw2
  obtain ⟨hP, hD⟩ := pd9 [zQ kl (cy 5) 4 klf, zO la 1 [vR l0, vI size, vR l2, vR l3], zI l0 (cy 0) 600 st, zI l2 (cy 0) 5 sf, zI l3 (cy 0) 40 vf, zO wa 9 [vR tA, vR ca, vR se, vI fo, vI wth], zO ca 0 [vR na, vI crow, vI cpace, vI ctyre, vI ckind, vI crt, vI cpt], zI na (cy 0) 7 nf, zI s3 (cy 0) 96 wf, zI s8 (cy 0) 112 pf, zI s11 (cy 0) 4 shf, zI rq (cy 0) 4 qf, zO kk 11 [vR ta, vR kr, vR kl, vI nr, vI nw, vR sA, vR dA, vR pa, vR ki, vR kp, vI im, vR wa, vR or_, vR rq], zO sA 6 [vI wi, vI ro, vR s2, vR s3, vI dr, vI dt, vR s6, vI pe, vR s8, vI gu, vI sh, vR s11, vI wo, vR s13, vI dn, vI mi, vI fl, vI tk, vI go]] hq9
  refine cjrx_v [true, true, true, true, true, true, true, true, true, true, true, false, false, true] (fun pre9 => (vx_runV (As := [vI (u2.2.1 0)]) (rest := []) ⟨hx, hb, hml, hown, hts⟩ (k_needArgument l hl D cy sa kk ta kr kl sA dA pa ki kp wa or_ rq nr nw im qf (u2.2.1 0) H.size (by first | exact hr_nr | omega) (by first | exact hr_nw | omega) (by first | exact hr_im | omega) (by first | exact hq2_1 | omega)) (cwV 1 hts gg_2 rfl rfl rfl (by decide +kernel) ⟨Nat.le_of_ble_eq_true rfl, Nat.le_of_ble_eq_true rfl⟩) ⟨pcW.blind, (va_recv hG.1 hP (ci := 11) (q0 := 12) rfl rfl), pre9⟩ rfl rfl hlv.1 rfl (lv_room (Nat.le_of_ble_eq_true rfl)) dX11_car_16 ⟨Nat.le_of_ble_eq_true rfl, Nat.le_of_ble_eq_true rfl⟩)) hP hD hS hA hG hT [12, 11] rfl (by decide +kernel) (fun E ux3 ce q9 H locs hp hq9 hS h1 h2 h3 => ?_) (fun u3 H locs hw3 hq9 hS => ?_)
  · obtain ⟨hP, hD⟩ := hq9
    obtain ⟨hp, hxg3⟩ := hp
    obtain rfl := hp
    exact vx_out (fun x h => (hex x h).elim) hlocks h1 h2 h3 (fun t ht hvm => ⟨((fun k => ([] : List Nat).getD k 0), (fun k => ([] : List Int).getD k 0), (fun k => ([(ux3.2.2 0)] : List (Nat → Int32)).getD k (fun _ => 0))), trivial, ⟨Or.inr (Or.inl rfl), at9 ht hP hD [12, 13, 0, 1, 2, 3, 4, 5, 6, 7, 11, 8, 9, 10] (by decide +kernel) rfl⟩, hS.F ht⟩) hS.2.2 (Nat.le_of_ble_eq_true rfl) (Nat.le_of_ble_eq_true rfl)
  have hq3_0 : ((u2.2.1 0) = 1) := hw3
  obtain ⟨hP, hD⟩ := pd9 [zQ kl (cy 5) 4 klf, zO la 1 [vR l0, vI size, vR l2, vR l3], zI l0 (cy 0) 600 st, zI l2 (cy 0) 5 sf, zI l3 (cy 0) 40 vf, zO wa 9 [vR tA, vR ca, vR se, vI fo, vI wth], zO ca 0 [vR na, vI crow, vI cpace, vI ctyre, vI ckind, vI crt, vI cpt], zI na (cy 0) 7 nf, zI s3 (cy 0) 96 wf, zI s8 (cy 0) 112 pf, zI s11 (cy 0) 4 shf, zO sA 6 [vI wi, vI ro, vR s2, vR s3, vI dr, vI dt, vR s6, vI pe, vR s8, vI gu, vI sh, vR s11, vI wo, vR s13, vI dn, vI mi, vI fl, vI tk, vI go], zO kk 11 [vR ta, vR kr, vR kl, vI nr, vI nw, vR sA, vR dA, vR pa, vR ki, vR kp, vI im, vR wa, vR or_, vR rq], zI rq (cy 0) 4 qf] hq9
  refine lv_aload_n hx hb dX11_car_19 rfl (lv_at hlv 0 rfl) ?_
  refine lv_aload_n hx hb dX11_car_20 rfl (lv_at hlv 0 rfl) ?_
  refine va_get (D := D) (ci := 11) (v := vR sA) (C := RX11) (T := TX11) (N := 14) hx hb hts hi11 hown hG.1 hP 12 rfl rfl 5 (by decide) lf31 (fun _ h9 => h9) rfl dX11_car_21 ?_
  refine cjr_i [true, true, true, true, true, true, true, true, true, true, true, false, true, true] (fun pre9 => (va_runVN (host := "KerbSplash") (As := []) (rest := [vR kk]) ⟨hx, hb, hml, hown, hts⟩ (s_isTold l hl D cy sa sA s2 s3 s6 s8 s11 s13 wi ro dr dt pe gu sh wo dn mi fl tk go H.size (by first | exact hr_wi | omega) (by first | exact hr_ro | omega) (by first | exact hr_dr | omega) (by first | exact hr_dt | omega) (by first | exact hr_pe | omega) (by first | exact hr_gu | omega) (by first | exact hr_sh | omega) (by first | exact hr_wo | omega) (by first | exact hr_dn | omega) (by first | exact hr_mi | omega) (by first | exact hr_fl | omega) (by first | exact hr_tk | omega) (by first | exact hr_go | omega)) ⟨va_cnB 0 hts gg_4 rfl rfl rfl (nM_K_196 hG.2.1) ini_RX6 (by decide +kernel) ⟨Nat.le_of_ble_eq_true rfl, Nat.le_of_ble_eq_true rfl⟩, im_X6_isTold, se_X6_isTold⟩ ⟨pcW.blind, (va_recv hG.1 hP (ci := 6) (q0 := 11) rfl rfl), pre9⟩ rfl rfl hlv.1 rfl (lv_room (Nat.le_of_ble_eq_true rfl)) dX11_car_24 ⟨Nat.le_of_ble_eq_true rfl, Nat.le_of_ble_eq_true rfl⟩)) hP hD hS hA hG hT [11] rfl (by decide +kernel) (fun r4 u4 H locs hw4 hq9 hS => ?_)
  obtain ⟨rfl, hq4_1, hq4_2⟩ := hw4
  obtain ⟨hP, hD⟩ := pd9 [zQ kl (cy 5) 4 klf, zO la 1 [vR l0, vI size, vR l2, vR l3], zI l0 (cy 0) 600 st, zI l2 (cy 0) 5 sf, zI l3 (cy 0) 40 vf, zO wa 9 [vR tA, vR ca, vR se, vI fo, vI wth], zO ca 0 [vR na, vI crow, vI cpace, vI ctyre, vI ckind, vI crt, vI cpt], zI na (cy 0) 7 nf, zI s3 (cy 0) 96 wf, zI s8 (cy 0) 112 pf, zI s11 (cy 0) 4 shf, zO kk 11 [vR ta, vR kr, vR kl, vI nr, vI nw, vR sA, vR dA, vR pa, vR ki, vR kp, vI im, vR wa, vR or_, vR rq], zI rq (cy 0) 4 qf, zO sA 6 [vI wi, vI ro, vR s2, vR s3, vI dr, vI dt, vR s6, vI pe, vR s8, vI gu, vI sh, vR s11, vI wo, vR s13, vI dn, vI mi, vI fl, vI tk, vI go]] hq9
  refine cjrx_v [true, true, true, true, true, true, true, true, true, true, true, false, false, true] (fun pre9 => (vx_runV (As := [vI (u4.2.1 0)]) (rest := []) ⟨hx, hb, hml, hown, hts⟩ (k_needState l hl D cy sa kk ta kr kl sA dA pa ki kp wa or_ rq nr nw im qf (u4.2.1 0) H.size (by first | exact hr_nr | omega) (by first | exact hr_nw | omega) (by first | exact hr_im | omega) (by first | exact hq4_1 | omega)) (cwV 1 hts gg_5 rfl rfl rfl (by decide +kernel) ⟨Nat.le_of_ble_eq_true rfl, Nat.le_of_ble_eq_true rfl⟩) ⟨pcW.blind, (va_recv hG.1 hP (ci := 11) (q0 := 11) rfl rfl), pre9⟩ rfl rfl hlv.1 rfl (lv_room (Nat.le_of_ble_eq_true rfl)) dX11_car_27 ⟨Nat.le_of_ble_eq_true rfl, Nat.le_of_ble_eq_true rfl⟩)) hP hD hS hA hG hT [11, 12] rfl (by decide +kernel) (fun E ux5 ce q9 H locs hp hq9 hS h1 h2 h3 => ?_) (fun u5 H locs hw5 hq9 hS => ?_)
  · obtain ⟨hP, hD⟩ := hq9
    obtain ⟨hp, hxg5⟩ := hp
    obtain rfl := hp
    exact vx_out (fun x h => (hex x h).elim) hlocks h1 h2 h3 (fun t ht hvm => ⟨((fun k => ([] : List Nat).getD k 0), (fun k => ([] : List Int).getD k 0), (fun k => ([(ux5.2.2 0)] : List (Nat → Int32)).getD k (fun _ => 0))), trivial, ⟨Or.inr (Or.inr (rfl)), at9 ht hP hD [12, 13, 0, 1, 2, 3, 4, 5, 6, 7, 11, 8, 9, 10] (by decide +kernel) rfl⟩, hS.F ht⟩) hS.2.2 (Nat.le_of_ble_eq_true rfl) (Nat.le_of_ble_eq_true rfl)
  have hq5_0 : ((u4.2.1 0) = 1) := hw5
  obtain ⟨hP, hD⟩ := pd9 [zQ kl (cy 5) 4 klf, zO la 1 [vR l0, vI size, vR l2, vR l3], zI l0 (cy 0) 600 st, zI l2 (cy 0) 5 sf, zI l3 (cy 0) 40 vf, zO wa 9 [vR tA, vR ca, vR se, vI fo, vI wth], zO ca 0 [vR na, vI crow, vI cpace, vI ctyre, vI ckind, vI crt, vI cpt], zI na (cy 0) 7 nf, zI s3 (cy 0) 96 wf, zI s8 (cy 0) 112 pf, zI s11 (cy 0) 4 shf, zO sA 6 [vI wi, vI ro, vR s2, vR s3, vI dr, vI dt, vR s6, vI pe, vR s8, vI gu, vI sh, vR s11, vI wo, vR s13, vI dn, vI mi, vI fl, vI tk, vI go], zO kk 11 [vR ta, vR kr, vR kl, vI nr, vI nw, vR sA, vR dA, vR pa, vR ki, vR kp, vI im, vR wa, vR or_, vR rq], zI rq (cy 0) 4 qf] hq9
  refine lv_aload_n hx hb dX11_car_30 rfl (lv_at hlv 0 rfl) ?_
  refine va_get (D := D) (ci := 11) (v := vR wa) (C := RX11) (T := TX11) (N := 14) hx hb hts hi11 hown hG.1 hP 12 rfl rfl 11 (by decide) lf56 (fun _ h9 => h9) rfl dX11_car_31 ?_
  refine va_getN (D := D) (ci := 9) (v := vR ca) (C := RX9) (T := TX9) (N := 5) hx hb hts hi9 hown hG.1 hP 5 rfl rfl 1 (by decide) (va_Nw.use rfl (nF_K_230 hG.2.1)) (fun _ h9 => h9) rfl dX11_car_34 ?_
  refine lv_iload_n hx hb dX11_car_37 rfl (lv_at hlv 2 rfl) ?_
  refine lv_iload_n hx hb dX11_car_38 rfl (lv_at hlv 3 rfl) ?_
  refine lv_iload hx hb dX11_car_39 (lv_at hlv 4 rfl) ?_
  refine lv_iload hx hb dX11_car_41 (lv_at hlv 5 rfl) ?_
  refine cjr_v [true, true, true, true, true, true, false, true, true, true, true, true, true, true] (fun pre9 => (va_runVN (host := "KerbSplash") (As := [vI p1, vI p2, vI p3, vI p4]) (rest := []) ⟨hx, hb, hml, hown, hts⟩ (c_become l hl D cy sa ca na crow cpace ctyre ckind crt cpt p1 p2 p3 p4 H.size (by first | exact hr_crow | omega) (by first | exact hr_cpace | omega) (by first | exact hr_ctyre | omega) (by first | exact hr_ckind | omega) (by first | exact hr_crt | omega) (by first | exact hr_cpt | omega) (by omega) (by first | exact hr_p2 | omega) (by first | exact hr_p3 | omega) (by first | exact hr_p4 | omega)) ⟨va_cnB 4 hts gg_7 rfl rfl rfl (nM_K_247 hG.2.1) ini_RX0 (by decide +kernel) ⟨Nat.le_of_ble_eq_true rfl, Nat.le_of_ble_eq_true rfl⟩, im_X0_become, se_X0_become⟩ ⟨pcW.blind, (va_recv hG.1 hP (ci := 0) (q0 := 6) rfl rfl), pre9⟩ rfl rfl hlv.1 rfl (lv_room (Nat.le_of_ble_eq_true rfl)) dX11_car_43 ⟨Nat.le_of_ble_eq_true rfl, Nat.le_of_ble_eq_true rfl⟩)) hP hD hS hA hG hT [6] rfl (by decide +kernel) (fun u6 H locs hw6 hq9 hS => ?_)
  obtain ⟨hP, hD⟩ := pd9 [zQ kl (cy 5) 4 klf, zO la 1 [vR l0, vI size, vR l2, vR l3], zI l0 (cy 0) 600 st, zI l2 (cy 0) 5 sf, zI l3 (cy 0) 40 vf, zO wa 9 [vR tA, vR ca, vR se, vI fo, vI wth], zI na (cy 0) 7 nf, zI s3 (cy 0) 96 wf, zI s8 (cy 0) 112 pf, zI s11 (cy 0) 4 shf, zO sA 6 [vI wi, vI ro, vR s2, vR s3, vI dr, vI dt, vR s6, vI pe, vR s8, vI gu, vI sh, vR s11, vI wo, vR s13, vI dn, vI mi, vI fl, vI tk, vI go], zO kk 11 [vR ta, vR kr, vR kl, vI nr, vI nw, vR sA, vR dA, vR pa, vR ki, vR kp, vI im, vR wa, vR or_, vR rq], zI rq (cy 0) 4 qf, zO ca 0 [vR na, vI p1, vI p2, vI p3, vI p4, vI crt, vI cpt]] hq9
  refine lv_aload_n hx hb dX11_car_46 rfl (lv_at hlv 0 rfl) ?_
  refine va_get (D := D) (ci := 11) (v := vR wa) (C := RX11) (T := TX11) (N := 14) hx hb hts hi11 hown hG.1 hP 11 rfl rfl 11 (by decide) lf56 (fun _ h9 => h9) rfl dX11_car_47 ?_
  refine va_getN (D := D) (ci := 9) (v := vR ca) (C := RX9) (T := TX9) (N := 5) hx hb hts hi9 hown hG.1 hP 5 rfl rfl 1 (by decide) (va_Nw.use rfl (nF_K_230 hG.2.1)) (fun _ h9 => h9) rfl dX11_car_50 ?_
  refine lv_aload_n hx hb dX11_car_53 rfl (lv_at hlv 0 rfl) ?_
  refine va_get (D := D) (ci := 11) (v := vR sA) (C := RX11) (T := TX11) (N := 14) hx hb hts hi11 hown hG.1 hP 11 rfl rfl 5 (by decide) lf31 (fun _ h9 => h9) rfl dX11_car_54 ?_
  refine lv_aload_n hx hb dX11_car_57 rfl (lv_at hlv 0 rfl) ?_
  refine va_get (D := D) (ci := 11) (v := vR kl) (C := RX11) (T := TX11) (N := 14) hx hb hts hi11 hown hG.1 hP 11 rfl rfl 2 (by decide) lf24 (fun _ h9 => h9) rfl dX11_car_58 ?_
  refine lv_iload_n hx hb dX11_car_61 rfl (lv_at hlv 1 rfl) ?_
  refine va_aldq hx hb hG.1 hP 0 5 rfl rfl (iI_in (by omega) (by decide)) dX11_car_62 ?_
  refine ltv (y := vR la) (by rw [iI_cl (by omega) (by omega), hp0 (by omega)]; rfl) ?_
  refine cjr_i [true, false, false, false, false, true, false, false, false, false, false, true, true, false] (fun pre9 => (va_runVN (host := "KerbSplash") (As := [vR sA, vR la]) (rest := []) ⟨hx, hb, hml, hown, hts⟩ (c_drive l hl D cy sa ca na p1 p2 p3 p4 crt cpt sA s2 s3 s6 s8 s11 s13 wi ro dr dt pe gu sh wo dn mi fl tk go 0 15 nf wf pf shf la l0 l2 l3 size st sf vf H.size (by omega) (by first | exact hr_p2 | omega) (by first | exact hr_p3 | omega) (by first | exact hr_p4 | omega) (by first | exact hr_crt | omega) (by first | exact hr_cpt | omega) (by first | exact hr_wi | omega) (by omega) (by first | exact hr_dr | omega) (by first | exact hr_dt | omega) (by first | exact hr_pe | omega) (by first | exact hr_gu | omega) (by first | exact hr_sh | omega) (by first | exact hr_wo | omega) (by first | exact hr_dn | omega) (by first | exact hr_mi | omega) (by first | exact hr_fl | omega) (by first | exact hr_tk | omega) (by first | exact hr_go | omega) (by show ((-2147483648) : Int) ≤ 0 ∧ (0 : Int) ≤ 0; decide) (by show (15 : Int) ≤ 15 ∧ (15 : Int) ≤ 2147483647; decide) (by first | exact hr_size | omega) hpf hst) ⟨va_cnB 2 hts gg_8 rfl rfl rfl (nM_K_251 hG.2.1) ini_RX0 (by decide +kernel) ⟨Nat.le_of_ble_eq_true rfl, Nat.le_of_ble_eq_true rfl⟩, im_X0_drive, se_X0_drive⟩ ⟨pcW.blind, (va_recv hG.1 hP (ci := 0) (q0 := 13) rfl rfl), pre9⟩ rfl rfl hlv.1 rfl (lv_room (Nat.le_of_ble_eq_true rfl)) dX11_car_63 ⟨Nat.le_of_ble_eq_true rfl, Nat.le_of_ble_eq_true rfl⟩)) hP hD hS hA hG hT [13, 6, 10, 7, 8, 9, 1, 2, 3, 4] rfl (by decide +kernel) (fun r7 u7 H locs hw7 hq9 hS => ?_)
  obtain ⟨rfl, hq7_1, hq7_2, hq7_3, hq7_4, hq7_5, hq7_6⟩ := hw7
  obtain ⟨hP, hD⟩ := pd9 [zQ kl (cy 5) 4 klf, zO wa 9 [vR tA, vR ca, vR se, vI fo, vI wth], zO kk 11 [vR ta, vR kr, vR kl, vI nr, vI nw, vR sA, vR dA, vR pa, vR ki, vR kp, vI im, vR wa, vR or_, vR rq], zI rq (cy 0) 4 qf, zO ca 0 [vR na, vI p1, vI p2, vI p3, vI p4, vI (u7.2.1 1), vI (u7.2.1 2)], zI na (cy 0) 7 (u7.2.2 0), zO sA 6 [vI wi, vI ro, vR s2, vR s3, vI dr, vI dt, vR s6, vI pe, vR s8, vI gu, vI sh, vR s11, vI wo, vR s13, vI dn, vI mi, vI fl, vI tk, vI (u7.2.1 3)], zI s3 (cy 0) 96 (u7.2.2 2), zI s8 (cy 0) 112 (u7.2.2 3), zI s11 (cy 0) 4 shf, zO la 1 [vR l0, vI size, vR l2, vR l3], zI l0 (cy 0) 600 st, zI l2 (cy 0) 5 sf, zI l3 (cy 0) 40 (u7.2.2 1)] hq9
  refine W.widen (k := 3) (n := 18) (Nat.le_of_ble_eq_true rfl) (Nat.le_of_ble_eq_true rfl) ?_
  refine vx_ret ?_
  exact W.iret (v := iI (u7.2.1 0)) hx hb hr (fun t ht hW => ⟨⟨iI (u7.2.1 0), ((fun k => ([] : List Nat).getD k 0), (fun k => ([(u7.2.1 0), p1, p2, p3, p4, (u7.2.1 1), (u7.2.1 2), (u7.2.1 3)] : List Int).getD k 0), (fun k => ([(u7.2.2 1), (u7.2.2 0), (u7.2.2 2), (u7.2.2 3)] : List (Nat → Int32)).getD k (fun _ => 0))), rfl, ⟨rfl, (by show ((-2147483648) ≤ (u7.2.1 0) ∧ (u7.2.1 0) ≤ 2147483647); first | exact hq7_1 | omega), (by show (0 ≤ p1 ∧ p1 ≤ 5); omega), (by show ((-2147483648) ≤ p2 ∧ p2 ≤ 2147483647); first | exact hr_p2 | omega), (by show ((-2147483648) ≤ p3 ∧ p3 ≤ 2147483647); first | exact hr_p3 | omega), (by show ((-2147483648) ≤ p4 ∧ p4 ≤ 2147483647); first | exact hr_p4 | omega), (by show (0 ≤ (u7.2.1 1) ∧ (u7.2.1 1) ≤ 5); first | exact hq7_2 | omega), (by show ((-2147483648) ≤ (u7.2.1 2) ∧ (u7.2.1 2) ≤ 2147483647); first | exact hq7_3 | omega), (by show ((-2147483648) ≤ (u7.2.1 3) ∧ (u7.2.1 3) ≤ 2147483647); first | exact hq7_4 | omega), hq7_6, hq7_5⟩, at9 ht hP hD [2, 3, 0, 10, 11, 12, 13, 1, 4, 5, 6, 7, 8, 9] (by decide +kernel) rfl⟩, hS.F ht⟩) hS.2.2 dX11_car_66
def vs_k_pass : List Cond := .code yX11_pass cX11_pass 2 (some .int) :: (([.fieldLink RX11 31 "KerbSplash" "now" "LKerbSplash$Street;", .initialized RX6, .instanceMethod yX6_isTold, .selects RX6 yX6_isTold yX6_isTold, .fieldLink RX11 56 "KerbSplash" "whatIf" "LKerbSplash$WhatIf;", .fieldLink RX11 41 "KerbSplash" "plan" "LKerbSplash$Plan;", .fieldLink RX11 24 "KerbSplash" "laws" "[LKerbSplash$Law;", .initialized RX9, .instanceMethod yX9_passTraffic, .selects RX9 yX9_passTraffic yX9_passTraffic] : List Cond) ++ ((wsV RX11 227 RX11 yX11_needLaw vs_k_needLaw) ++ ((wsX110) ++ ((vs_s_isTold) ++ ((wsV RX11 202 RX11 yX11_needState vs_k_needState) ++ ((vs_i_pass) ++ ([])))))))
theorem gd_k_pass : vs_k_pass.all goodWord = true := gd_C (by decide +kernel) (gd_A (by decide +kernel) (gd_A (gd_V gd_k_needLaw (by decide +kernel)) (gd_A (by decide +kernel) (gd_A gd_s_isTold (gd_A (gd_V gd_k_needState (by decide +kernel)) (gd_A gd_i_pass rfl))))))
set_option maxHeartbeats 4000000 in
set_option maxRecDepth 100000 in
theorem k_pass (l : Launch) (hl : l.stackTraces = false) (D : va_G) (cy : Nat → ClassId) (sa : Nat → Nat) (kk ta kr kl sA dA pa ki kp wa or_ rq : Nat) (nr nw im : Int) (qf : Nat → Int32) (klf : Nat → Option Nat) (la l0 l2 l3 : Nat) (size : Int) (st sf vf : Nat → Int32) (se : Nat) (fo wth : Int) (tA : Nat) (ca na : Nat) (crow cpace ctyre ckind crt cpt : Int) (nf : Nat → Int32) (s2 s3 s6 s8 s11 s13 : Nat) (wi ro dr dt pe gu sh wo dn mi fl tk go : Int) (hf wf pf shf : Nat → Int32) (pt pd ps : Nat) (cars dips : Int) (tf df : Nat → Int32) (n : Int) (sz : Nat) (hr_nr : 0 ≤ nr ∧ nr ≤ 4) (hr_nw : 0 ≤ nw ∧ nw ≤ 4) (hr_im : 0 ≤ im ∧ im ≤ 3) (hr_size : 0 ≤ size ∧ size ≤ 600) (hr_fo : (-2147483648) ≤ fo ∧ fo ≤ 2147483647) (hr_wth : (-2147483648) ≤ wth ∧ wth ≤ 2147483647) (hr_crow : 0 ≤ crow ∧ crow ≤ 5) (hr_cpace : (-2147483648) ≤ cpace ∧ cpace ≤ 2147483647) (hr_ctyre : (-2147483648) ≤ ctyre ∧ ctyre ≤ 2147483647) (hr_ckind : (-2147483648) ≤ ckind ∧ ckind ≤ 2147483647) (hr_crt : 0 ≤ crt ∧ crt ≤ 5) (hr_cpt : (-2147483648) ≤ cpt ∧ cpt ≤ 2147483647) (hr_wi : 0 ≤ wi ∧ wi ≤ 16) (hr_ro : 0 ≤ ro ∧ ro ≤ 6) (hr_dr : 0 ≤ dr ∧ dr ≤ 14) (hr_dt : 0 ≤ dt ∧ dt ≤ 6) (hr_pe : 0 ≤ pe ∧ pe ≤ 8) (hr_gu : 0 ≤ gu ∧ gu ≤ 20) (hr_sh : 0 ≤ sh ∧ sh ≤ 2) (hr_wo : 0 ≤ wo ∧ wo ≤ 8) (hr_dn : (-2147483648) ≤ dn ∧ dn ≤ 2147483647) (hr_mi : 0 ≤ mi ∧ mi ≤ 600) (hr_fl : (-2147483648) ≤ fl ∧ fl ≤ 2147483647) (hr_tk : (-2147483648) ≤ tk ∧ tk ≤ 2147483647) (hr_go : (-2147483648) ≤ go ∧ go ≤ 2147483647) (hr_cars : 0 ≤ cars ∧ cars ≤ 20) (hr_dips : 0 ≤ dips ∧ dips ≤ 9) (hr_n : (-2147483648) ≤ n ∧ n ≤ 2147483647) (hp0 : 0 ≤ n ∧ n < 4 → klf n.toNat = some la) (hp1 : 0 < wi → 1 ≤ ro) (hst : inv_ 600 0 2147483647 st) (hhf : inv_ 96 0 99 hf) (hpf : tab_ 4 28 [0, 0, (-2147483648), (-2147483648)] [15, 19, 2147483647, 2147483647] pf) (htf : tab_ 5 20 [0, 0, (-2147483648), (-2147483648), (-2147483648)] [99, 5, 2147483647, 2147483647, 2147483647] tf) : xI9 l yX11_pass vs_k_pass ({ frames := 8, cells := 2, slots := 12, locals := 142 }) D cy sa sz [vR kk, vI n] [zO kk 11 [vR ta, vR kr, vR kl, vI nr, vI nw, vR sA, vR dA, vR pa, vR ki, vR kp, vI im, vR wa, vR or_, vR rq], zI rq (cy 0) 4 qf, zQ kl (cy 5) 4 klf, zO la 1 [vR l0, vI size, vR l2, vR l3], zI l0 (cy 0) 600 st, zI l2 (cy 0) 5 sf, zI l3 (cy 0) 40 vf, zO wa 9 [vR tA, vR ca, vR se, vI fo, vI wth], zO ca 0 [vR na, vI crow, vI cpace, vI ctyre, vI ckind, vI crt, vI cpt], zI na (cy 0) 7 nf, zO sA 6 [vI wi, vI ro, vR s2, vR s3, vI dr, vI dt, vR s6, vI pe, vR s8, vI gu, vI sh, vR s11, vI wo, vR s13, vI dn, vI mi, vI fl, vI tk, vI go], zI s2 (cy 0) 96 hf, zI s3 (cy 0) 96 wf, zI s8 (cy 0) 112 pf, zI s11 (cy 0) 4 shf, zO pa 4 [vI cars, vR pt, vI dips, vR pd, vR ps], zI pt (cy 0) 100 tf] (fun (r : Int32) (u : SV) => r = iI (u.2.1 0) ∧ ((-2147483648) ≤ u.2.1 0 ∧ u.2.1 0 ≤ 2147483647) ∧ (0 ≤ u.2.1 1 ∧ u.2.1 1 ≤ 5) ∧ ((-2147483648) ≤ u.2.1 2 ∧ u.2.1 2 ≤ 2147483647) ∧ ((-2147483648) ≤ u.2.1 3 ∧ u.2.1 3 ≤ 2147483647) ∧ ((-2147483648) ≤ u.2.1 4 ∧ u.2.1 4 ≤ 2147483647) ∧ (0 ≤ u.2.1 5 ∧ u.2.1 5 ≤ 5) ∧ ((-2147483648) ≤ u.2.1 6 ∧ u.2.1 6 ≤ 2147483647) ∧ ((-2147483648) ≤ u.2.1 7 ∧ u.2.1 7 ≤ 2147483647) ∧ inv_ 600 0 2147483647 st ∧ inv_ 96 0 99 hf ∧ tab_ 4 28 [0, 0, (-2147483648), (-2147483648)] [15, 19, 2147483647, 2147483647] (u.2.2 3) ∧ tab_ 5 20 [0, 0, (-2147483648), (-2147483648), (-2147483648)] [99, 5, 2147483647, 2147483647, 2147483647] tf) (fun u : SV => [zO kk 11 [vR ta, vR kr, vR kl, vI nr, vI nw, vR sA, vR dA, vR pa, vR ki, vR kp, vI im, vR wa, vR or_, vR rq], zI rq (cy 0) 4 qf, zQ kl (cy 5) 4 klf, zO la 1 [vR l0, vI size, vR l2, vR l3], zI l0 (cy 0) 600 st, zI l2 (cy 0) 5 sf, zI l3 (cy 0) 40 (u.2.2 0), zO wa 9 [vR tA, vR ca, vR se, vI fo, vI wth], zO ca 0 [vR na, vI (u.2.1 1), vI (u.2.1 2), vI (u.2.1 3), vI (u.2.1 4), vI (u.2.1 5), vI (u.2.1 6)], zI na (cy 0) 7 (u.2.2 1), zO sA 6 [vI wi, vI ro, vR s2, vR s3, vI dr, vI dt, vR s6, vI pe, vR s8, vI gu, vI sh, vR s11, vI wo, vR s13, vI dn, vI mi, vI fl, vI tk, vI (u.2.1 7)], zI s2 (cy 0) 96 hf, zI s3 (cy 0) 96 (u.2.2 2), zI s8 (cy 0) 112 (u.2.2 3), zI s11 (cy 0) 4 shf, zO pa 4 [vI cars, vR pt, vI dips, vR pd, vR ps], zI pt (cy 0) 100 tf]) (fun (E : String) (u : SV) => (E = "java/util/NoSuchElementException" ∨ E = "java/lang/IllegalStateException")) (fun u : SV => [zO kk 11 [vR ta, vR kr, vR kl, vI nr, vI nw, vR sA, vR dA, vR pa, vR ki, vR kp, vI im, vR wa, vR or_, vR rq], zI rq (cy 0) 4 (u.2.2 0), zQ kl (cy 5) 4 klf, zO la 1 [vR l0, vI size, vR l2, vR l3], zI l0 (cy 0) 600 st, zI l2 (cy 0) 5 sf, zI l3 (cy 0) 40 vf, zO wa 9 [vR tA, vR ca, vR se, vI fo, vI wth], zO ca 0 [vR na, vI crow, vI cpace, vI ctyre, vI ckind, vI crt, vI cpt], zI na (cy 0) 7 nf, zO sA 6 [vI wi, vI ro, vR s2, vR s3, vI dr, vI dt, vR s6, vI pe, vR s8, vI gu, vI sh, vR s11, vI wo, vR s13, vI dn, vI mi, vI fl, vI tk, vI go], zI s2 (cy 0) 96 hf, zI s3 (cy 0) 96 wf, zI s8 (cy 0) 112 pf, zI s11 (cy 0) 4 shf, zO pa 4 [vI cars, vR pt, vI dips, vR pd, vR ps], zI pt (cy 0) 100 tf]) 2 12 := by
  refine vx_ofW (cc := cX11_pass) (maxL := 2) (ret := (some .int)) (by decide) rfl ?_
  intro p e s m args below meth c s₁ B hml hex hv
  obtain ⟨rfl, hsz, hP, hG, hD0, hT⟩ := hv
  have hx := B.exec
  have hb := B.bytes
  have hr := B.returns
  have hts := atoms_spec (ws := vs_k_pass) B.pre
  have hown : s.vm.findClass RX11 = some m.cls := findClass_of_methodNamed B.named
  have hlocks := B.notSynchronized
  subst hsz
  have hD := hD0.self (sz := s.heap.size)
  generalize hAe : va_A [zO kk 11 [vR ta, vR kr, vR kl, vI nr, vI nw, vR sA, vR dA, vR pa, vR ki, vR kp, vI im, vR wa, vR or_, vR rq], zI rq (cy 0) 4 qf, zQ kl (cy 5) 4 klf, zO la 1 [vR l0, vI size, vR l2, vR l3], zI l0 (cy 0) 600 st, zI l2 (cy 0) 5 sf, zI l3 (cy 0) 40 vf, zO wa 9 [vR tA, vR ca, vR se, vI fo, vI wth], zO ca 0 [vR na, vI crow, vI cpace, vI ctyre, vI ckind, vI crt, vI cpt], zI na (cy 0) 7 nf, zO sA 6 [vI wi, vI ro, vR s2, vR s3, vI dr, vI dt, vR s6, vI pe, vR s8, vI gu, vI sh, vR s11, vI wo, vR s13, vI dn, vI mi, vI fl, vI tk, vI go], zI s2 (cy 0) 96 hf, zI s3 (cy 0) 96 wf, zI s8 (cy 0) 112 pf, zI s11 (cy 0) 4 shf, zO pa 4 [vI cars, vR pt, vI dips, vR pd, vR ps], zI pt (cy 0) 100 tf] s.heap.size = A at hD hT ⊢
  have hA : ∀ q : Nat, s.heap.size ≤ q → A q := fun q h => by rw [← hAe]; exact Or.inr h
  have hS : va_S A s.heap s.heap [] := va_S.rf
  have hl0 := lv_entry ([vR kk, vI n]) (n := 2) (Nat.le_of_ble_eq_true rfl)
  rw [lg_entry_eq]
  generalize (lg_sl ([vR kk, vI n]) ++ List.replicate (2 - (lg_sl ([vR kk, vI n])).length) Slot.unset).toArray = ls at hl0 ⊢
  have hlv : lv_has ls 2 [(0, vR kk), (1, vI n)] := hl0
  have gg_0 : GoodIn vs_k_pass (wsV RX11 227 RX11 yX11_needLaw vs_k_needLaw) := goodIn_sub (fun w h => List.mem_cons_of_mem _ (List.mem_append_right _ (List.mem_append_left _ h))) (gd_V gd_k_needLaw (by decide +kernel))
  have lf31 := hts (.fieldLink RX11 31 "KerbSplash" "now" "LKerbSplash$Street;") (List.mem_of_getElem? (i := 1) rfl)
  have hi11 : ∀ w ∈ wsX110, w ∈ vs_k_pass := fun w h => List.mem_cons_of_mem _ (List.mem_append_right _ (List.mem_append_right _ (List.mem_append_left _ h)))
  have gg_2 : GoodIn vs_k_pass (vs_s_isTold) := goodIn_sub (fun w h => List.mem_cons_of_mem _ (List.mem_append_right _ (List.mem_append_right _ (List.mem_append_right _ (List.mem_append_left _ h))))) gd_s_isTold
  have ini_RX6 := hts (.initialized RX6) (List.mem_of_getElem? (i := 2) rfl)
  have im_X6_isTold := hts (.instanceMethod yX6_isTold) (List.mem_of_getElem? (i := 3) rfl)
  have se_X6_isTold := hts (.selects RX6 yX6_isTold yX6_isTold) (List.mem_of_getElem? (i := 4) rfl)
  have gg_3 : GoodIn vs_k_pass (wsV RX11 202 RX11 yX11_needState vs_k_needState) := goodIn_sub (fun w h => List.mem_cons_of_mem _ (List.mem_append_right _ (List.mem_append_right _ (List.mem_append_right _ (List.mem_append_right _ (List.mem_append_left _ h)))))) (gd_V gd_k_needState (by decide +kernel))
  have lf56 := hts (.fieldLink RX11 56 "KerbSplash" "whatIf" "LKerbSplash$WhatIf;") (List.mem_of_getElem? (i := 5) rfl)
  have lf41 := hts (.fieldLink RX11 41 "KerbSplash" "plan" "LKerbSplash$Plan;") (List.mem_of_getElem? (i := 6) rfl)
  have lf24 := hts (.fieldLink RX11 24 "KerbSplash" "laws" "[LKerbSplash$Law;") (List.mem_of_getElem? (i := 7) rfl)
  have gg_4 : GoodIn vs_k_pass (vs_i_pass) := goodIn_sub (fun w h => List.mem_cons_of_mem _ (List.mem_append_right _ (List.mem_append_right _ (List.mem_append_right _ (List.mem_append_right _ (List.mem_append_right _ (List.mem_append_left _ h))))))) gd_i_pass
  have ini_RX9 := hts (.initialized RX9) (List.mem_of_getElem? (i := 8) rfl)
  have im_X9_passTraffic := hts (.instanceMethod yX9_passTraffic) (List.mem_of_getElem? (i := 9) rfl)
  have se_X9_passTraffic := hts (.selects RX9 yX9_passTraffic yX9_passTraffic) (List.mem_of_getElem? (i := 10) rfl)
  refine lv_aload_n hx hb dX11_pass_0 rfl (lv_at hlv 0 rfl) ?_
  refine lv_iload_n hx hb dX11_pass_1 rfl (lv_at hlv 1 rfl) ?_
  refine cjrx_v [false, false, true, true, true, true, true, true, true, true, true, true, true, true, true, true, true] (fun pre9 => (vx_runV (As := [vI n]) (rest := []) ⟨hx, hb, hml, hown, hts⟩ (k_needLaw l hl D cy sa kk ta kr kl sA dA pa ki kp wa or_ rq nr nw im qf n s.heap.size (by first | exact hr_nr | omega) (by first | exact hr_nw | omega) (by first | exact hr_im | omega) (by first | exact hr_n | omega)) (cwV 1 hts gg_0 rfl rfl rfl (by decide +kernel) ⟨Nat.le_of_ble_eq_true rfl, Nat.le_of_ble_eq_true rfl⟩) ⟨pcW.blind, (va_recv hG.1 hP (ci := 11) (q0 := 0) rfl rfl), pre9⟩ rfl rfl hlv.1 rfl (lv_room (Nat.le_of_ble_eq_true rfl)) dX11_pass_2 ⟨Nat.le_of_ble_eq_true rfl, Nat.le_of_ble_eq_true rfl⟩)) hP hD hS hA hG hT [0, 1] rfl (by decide +kernel) (fun E ux1 ce q9 H locs hp hq9 hS h1 h2 h3 => ?_) (fun u1 H locs hw1 hq9 hS => ?_)
  · obtain ⟨hP, hD⟩ := hq9
    obtain rfl := hp
    exact vx_out (fun x h => (hex x h).elim) hlocks h1 h2 h3 (fun t ht hvm => ⟨((fun k => ([] : List Nat).getD k 0), (fun k => ([] : List Int).getD k 0), (fun k => ([(ux1.2.2 0)] : List (Nat → Int32)).getD k (fun _ => 0))), trivial, ⟨Or.inl rfl, at9 ht hP hD [15, 16, 0, 1, 2, 3, 4, 5, 6, 7, 8, 9, 10, 11, 12, 13, 14] (by decide +kernel) rfl⟩, hS.F ht⟩) hS.2.2 (Nat.le_of_ble_eq_true rfl) (Nat.le_of_ble_eq_true rfl)
  have hq1_0 : ((0 : Int) ≤ n ∧ n < nw) := hw1
  obtain ⟨hP, hD⟩ := pd9 [zQ kl (cy 5) 4 klf, zO la 1 [vR l0, vI size, vR l2, vR l3], zI l0 (cy 0) 600 st, zI l2 (cy 0) 5 sf, zI l3 (cy 0) 40 vf, zO wa 9 [vR tA, vR ca, vR se, vI fo, vI wth], zO ca 0 [vR na, vI crow, vI cpace, vI ctyre, vI ckind, vI crt, vI cpt], zI na (cy 0) 7 nf, zO sA 6 [vI wi, vI ro, vR s2, vR s3, vI dr, vI dt, vR s6, vI pe, vR s8, vI gu, vI sh, vR s11, vI wo, vR s13, vI dn, vI mi, vI fl, vI tk, vI go], zI s2 (cy 0) 96 hf, zI s3 (cy 0) 96 wf, zI s8 (cy 0) 112 pf, zI s11 (cy 0) 4 shf, zO pa 4 [vI cars, vR pt, vI dips, vR pd, vR ps], zI pt (cy 0) 100 tf, zO kk 11 [vR ta, vR kr, vR kl, vI nr, vI nw, vR sA, vR dA, vR pa, vR ki, vR kp, vI im, vR wa, vR or_, vR rq], zI rq (cy 0) 4 qf] hq9
  refine lv_aload_n hx hb dX11_pass_5 rfl (lv_at hlv 0 rfl) ?_
  refine lv_aload_n hx hb dX11_pass_6 rfl (lv_at hlv 0 rfl) ?_
  refine va_get (D := D) (ci := 11) (v := vR sA) (C := RX11) (T := TX11) (N := 14) hx hb hts hi11 hown hG.1 hP 15 rfl rfl 5 (by decide) lf31 (fun _ h9 => h9) rfl dX11_pass_7 ?_
  refine cjr_i [true, true, true, true, true, true, true, true, false, true, true, true, true, true, true, true, true] (fun pre9 => (va_runVN (host := "KerbSplash") (As := []) (rest := [vR kk]) ⟨hx, hb, hml, hown, hts⟩ (s_isTold l hl D cy sa sA s2 s3 s6 s8 s11 s13 wi ro dr dt pe gu sh wo dn mi fl tk go H.size (by first | exact hr_wi | omega) (by first | exact hr_ro | omega) (by first | exact hr_dr | omega) (by first | exact hr_dt | omega) (by first | exact hr_pe | omega) (by first | exact hr_gu | omega) (by first | exact hr_sh | omega) (by first | exact hr_wo | omega) (by first | exact hr_dn | omega) (by first | exact hr_mi | omega) (by first | exact hr_fl | omega) (by first | exact hr_tk | omega) (by first | exact hr_go | omega)) ⟨va_cnB 0 hts gg_2 rfl rfl rfl (nM_K_196 hG.2.1) ini_RX6 (by decide +kernel) ⟨Nat.le_of_ble_eq_true rfl, Nat.le_of_ble_eq_true rfl⟩, im_X6_isTold, se_X6_isTold⟩ ⟨pcW.blind, (va_recv hG.1 hP (ci := 6) (q0 := 8) rfl rfl), pre9⟩ rfl rfl hlv.1 rfl (lv_room (Nat.le_of_ble_eq_true rfl)) dX11_pass_10 ⟨Nat.le_of_ble_eq_true rfl, Nat.le_of_ble_eq_true rfl⟩)) hP hD hS hA hG hT [8] rfl (by decide +kernel) (fun r2 u2 H locs hw2 hq9 hS => ?_)
  obtain ⟨rfl, hq2_1, hq2_2⟩ := hw2
  obtain ⟨hP, hD⟩ := pd9 [zQ kl (cy 5) 4 klf, zO la 1 [vR l0, vI size, vR l2, vR l3], zI l0 (cy 0) 600 st, zI l2 (cy 0) 5 sf, zI l3 (cy 0) 40 vf, zO wa 9 [vR tA, vR ca, vR se, vI fo, vI wth], zO ca 0 [vR na, vI crow, vI cpace, vI ctyre, vI ckind, vI crt, vI cpt], zI na (cy 0) 7 nf, zI s2 (cy 0) 96 hf, zI s3 (cy 0) 96 wf, zI s8 (cy 0) 112 pf, zI s11 (cy 0) 4 shf, zO pa 4 [vI cars, vR pt, vI dips, vR pd, vR ps], zI pt (cy 0) 100 tf, zO kk 11 [vR ta, vR kr, vR kl, vI nr, vI nw, vR sA, vR dA, vR pa, vR ki, vR kp, vI im, vR wa, vR or_, vR rq], zI rq (cy 0) 4 qf, zO sA 6 [vI wi, vI ro, vR s2, vR s3, vI dr, vI dt, vR s6, vI pe, vR s8, vI gu, vI sh, vR s11, vI wo, vR s13, vI dn, vI mi, vI fl, vI tk, vI go]] hq9
  refine cjrx_v [true, true, true, true, true, true, true, true, true, true, true, true, true, true, false, false, true] (fun pre9 => (vx_runV (As := [vI (u2.2.1 0)]) (rest := []) ⟨hx, hb, hml, hown, hts⟩ (k_needState l hl D cy sa kk ta kr kl sA dA pa ki kp wa or_ rq nr nw im qf (u2.2.1 0) H.size (by first | exact hr_nr | omega) (by first | exact hr_nw | omega) (by first | exact hr_im | omega) (by first | exact hq2_1 | omega)) (cwV 1 hts gg_3 rfl rfl rfl (by decide +kernel) ⟨Nat.le_of_ble_eq_true rfl, Nat.le_of_ble_eq_true rfl⟩) ⟨pcW.blind, (va_recv hG.1 hP (ci := 11) (q0 := 14) rfl rfl), pre9⟩ rfl rfl hlv.1 rfl (lv_room (Nat.le_of_ble_eq_true rfl)) dX11_pass_13 ⟨Nat.le_of_ble_eq_true rfl, Nat.le_of_ble_eq_true rfl⟩)) hP hD hS hA hG hT [14, 15] rfl (by decide +kernel) (fun E ux3 ce q9 H locs hp hq9 hS h1 h2 h3 => ?_) (fun u3 H locs hw3 hq9 hS => ?_)
  · obtain ⟨hP, hD⟩ := hq9
    obtain ⟨hp, hxg3⟩ := hp
    obtain rfl := hp
    exact vx_out (fun x h => (hex x h).elim) hlocks h1 h2 h3 (fun t ht hvm => ⟨((fun k => ([] : List Nat).getD k 0), (fun k => ([] : List Int).getD k 0), (fun k => ([(ux3.2.2 0)] : List (Nat → Int32)).getD k (fun _ => 0))), trivial, ⟨Or.inr (rfl), at9 ht hP hD [15, 16, 0, 1, 2, 3, 4, 5, 6, 7, 14, 8, 9, 10, 11, 12, 13] (by decide +kernel) rfl⟩, hS.F ht⟩) hS.2.2 (Nat.le_of_ble_eq_true rfl) (Nat.le_of_ble_eq_true rfl)
  have hq3_0 : ((u2.2.1 0) = 1) := hw3
  obtain ⟨hP, hD⟩ := pd9 [zQ kl (cy 5) 4 klf, zO la 1 [vR l0, vI size, vR l2, vR l3], zI l0 (cy 0) 600 st, zI l2 (cy 0) 5 sf, zI l3 (cy 0) 40 vf, zO wa 9 [vR tA, vR ca, vR se, vI fo, vI wth], zO ca 0 [vR na, vI crow, vI cpace, vI ctyre, vI ckind, vI crt, vI cpt], zI na (cy 0) 7 nf, zI s2 (cy 0) 96 hf, zI s3 (cy 0) 96 wf, zI s8 (cy 0) 112 pf, zI s11 (cy 0) 4 shf, zO pa 4 [vI cars, vR pt, vI dips, vR pd, vR ps], zI pt (cy 0) 100 tf, zO sA 6 [vI wi, vI ro, vR s2, vR s3, vI dr, vI dt, vR s6, vI pe, vR s8, vI gu, vI sh, vR s11, vI wo, vR s13, vI dn, vI mi, vI fl, vI tk, vI go], zO kk 11 [vR ta, vR kr, vR kl, vI nr, vI nw, vR sA, vR dA, vR pa, vR ki, vR kp, vI im, vR wa, vR or_, vR rq], zI rq (cy 0) 4 qf] hq9
  refine lv_aload_n hx hb dX11_pass_16 rfl (lv_at hlv 0 rfl) ?_
  refine va_get (D := D) (ci := 11) (v := vR wa) (C := RX11) (T := TX11) (N := 14) hx hb hts hi11 hown hG.1 hP 15 rfl rfl 11 (by decide) lf56 (fun _ h9 => h9) rfl dX11_pass_17 ?_
  refine lv_aload_n hx hb dX11_pass_20 rfl (lv_at hlv 0 rfl) ?_
  refine va_get (D := D) (ci := 11) (v := vR sA) (C := RX11) (T := TX11) (N := 14) hx hb hts hi11 hown hG.1 hP 15 rfl rfl 5 (by decide) lf31 (fun _ h9 => h9) rfl dX11_pass_21 ?_
  refine lv_aload_n hx hb dX11_pass_24 rfl (lv_at hlv 0 rfl) ?_
  refine va_get (D := D) (ci := 11) (v := vR pa) (C := RX11) (T := TX11) (N := 14) hx hb hts hi11 hown hG.1 hP 15 rfl rfl 7 (by decide) lf41 (fun _ h9 => h9) rfl dX11_pass_25 ?_
  refine lv_aload_n hx hb dX11_pass_28 rfl (lv_at hlv 0 rfl) ?_
  refine va_get (D := D) (ci := 11) (v := vR kl) (C := RX11) (T := TX11) (N := 14) hx hb hts hi11 hown hG.1 hP 15 rfl rfl 2 (by decide) lf24 (fun _ h9 => h9) rfl dX11_pass_29 ?_
  refine lv_iload_n hx hb dX11_pass_32 rfl (lv_at hlv 1 rfl) ?_
  refine va_aldq hx hb hG.1 hP 0 5 rfl rfl (iI_in (by omega) (by decide)) dX11_pass_33 ?_
  refine ltv (y := vR la) (by rw [iI_cl (by omega) (by omega), hp0 (by omega)]; rfl) ?_
  refine cjr_i [true, false, false, false, false, false, false, false, false, false, false, false, false, false, false, true, true] (fun pre9 => (va_runVN (host := "KerbSplash") (As := [vR sA, vR pa, vR la]) (rest := []) ⟨hx, hb, hml, hown, hts⟩ (i_pass l hl D cy sa wa tA se fo wth ca na crow cpace ctyre ckind crt cpt sA s2 s3 s6 s8 s11 s13 wi ro dr dt pe gu sh wo dn mi fl tk go 0 15 nf hf wf pf shf tf pa pt pd ps cars dips la l0 l2 l3 size st sf vf H.size (by first | exact hr_fo | omega) (by first | exact hr_wth | omega) (by first | exact hr_crow | omega) (by first | exact hr_cpace | omega) (by first | exact hr_ctyre | omega) (by first | exact hr_ckind | omega) (by first | exact hr_crt | omega) (by first | exact hr_cpt | omega) (by first | exact hr_wi | omega) (by omega) (by first | exact hr_dr | omega) (by first | exact hr_dt | omega) (by first | exact hr_pe | omega) (by first | exact hr_gu | omega) (by first | exact hr_sh | omega) (by first | exact hr_wo | omega) (by first | exact hr_dn | omega) (by first | exact hr_mi | omega) (by first | exact hr_fl | omega) (by first | exact hr_tk | omega) (by first | exact hr_go | omega) (by show ((-2147483648) : Int) ≤ 0 ∧ (0 : Int) ≤ 0; decide) (by show (15 : Int) ≤ 15 ∧ (15 : Int) ≤ 2147483647; decide) (by first | exact hr_cars | omega) (by first | exact hr_dips | omega) (by first | exact hr_size | omega) hhf hpf htf hst) ⟨va_cnB 3 hts gg_4 rfl rfl rfl (nM_K_259 hG.2.1) ini_RX9 (by decide +kernel) ⟨Nat.le_of_ble_eq_true rfl, Nat.le_of_ble_eq_true rfl⟩, im_X9_passTraffic, se_X9_passTraffic⟩ ⟨pcW.blind, (va_recv hG.1 hP (ci := 9) (q0 := 5) rfl rfl), pre9⟩ rfl rfl hlv.1 rfl (lv_room (Nat.le_of_ble_eq_true rfl)) dX11_pass_34 ⟨Nat.le_of_ble_eq_true rfl, Nat.le_of_ble_eq_true rfl⟩)) hP hD hS hA hG hT [5, 6, 7, 14, 8, 9, 10, 11, 12, 13, 1, 2, 3, 4] rfl (by decide +kernel) (fun r4 u4 H locs hw4 hq9 hS => ?_)
  obtain ⟨rfl, hq4_1, hq4_2, hq4_3, hq4_4, hq4_5, hq4_6, hq4_7, hq4_8, hq4_9, hq4_10, hq4_11, hq4_12⟩ := hw4
  obtain ⟨hP, hD⟩ := pd9 [zQ kl (cy 5) 4 klf, zO kk 11 [vR ta, vR kr, vR kl, vI nr, vI nw, vR sA, vR dA, vR pa, vR ki, vR kp, vI im, vR wa, vR or_, vR rq], zI rq (cy 0) 4 qf, zO wa 9 [vR tA, vR ca, vR se, vI fo, vI wth], zO ca 0 [vR na, vI (u4.2.1 1), vI (u4.2.1 2), vI (u4.2.1 3), vI (u4.2.1 4), vI (u4.2.1 5), vI (u4.2.1 6)], zI na (cy 0) 7 (u4.2.2 0), zO sA 6 [vI wi, vI ro, vR s2, vR s3, vI dr, vI dt, vR s6, vI pe, vR s8, vI gu, vI sh, vR s11, vI wo, vR s13, vI dn, vI mi, vI fl, vI tk, vI (u4.2.1 7)], zI s2 (cy 0) 96 hf, zI s3 (cy 0) 96 (u4.2.2 2), zI s8 (cy 0) 112 (u4.2.2 3), zI s11 (cy 0) 4 shf, zO pa 4 [vI cars, vR pt, vI dips, vR pd, vR ps], zI pt (cy 0) 100 tf, zO la 1 [vR l0, vI size, vR l2, vR l3], zI l0 (cy 0) 600 st, zI l2 (cy 0) 5 sf, zI l3 (cy 0) 40 (u4.2.2 1)] hq9
  refine W.widen (k := 2) (n := 12) (Nat.le_of_ble_eq_true rfl) (Nat.le_of_ble_eq_true rfl) ?_
  refine vx_ret ?_
  exact W.iret (v := iI (u4.2.1 0)) hx hb hr (fun t ht hW => ⟨⟨iI (u4.2.1 0), ((fun k => ([] : List Nat).getD k 0), (fun k => ([(u4.2.1 0), (u4.2.1 1), (u4.2.1 2), (u4.2.1 3), (u4.2.1 4), (u4.2.1 5), (u4.2.1 6), (u4.2.1 7)] : List Int).getD k 0), (fun k => ([(u4.2.2 1), (u4.2.2 0), (u4.2.2 2), (u4.2.2 3)] : List (Nat → Int32)).getD k (fun _ => 0))), rfl, ⟨rfl, (by show ((-2147483648) ≤ (u4.2.1 0) ∧ (u4.2.1 0) ≤ 2147483647); first | exact hq4_1 | omega), (by show (0 ≤ (u4.2.1 1) ∧ (u4.2.1 1) ≤ 5); first | exact hq4_2 | omega), (by show ((-2147483648) ≤ (u4.2.1 2) ∧ (u4.2.1 2) ≤ 2147483647); first | exact hq4_3 | omega), (by show ((-2147483648) ≤ (u4.2.1 3) ∧ (u4.2.1 3) ≤ 2147483647); first | exact hq4_4 | omega), (by show ((-2147483648) ≤ (u4.2.1 4) ∧ (u4.2.1 4) ≤ 2147483647); first | exact hq4_5 | omega), (by show (0 ≤ (u4.2.1 5) ∧ (u4.2.1 5) ≤ 5); first | exact hq4_6 | omega), (by show ((-2147483648) ≤ (u4.2.1 6) ∧ (u4.2.1 6) ≤ 2147483647); first | exact hq4_7 | omega), (by show ((-2147483648) ≤ (u4.2.1 7) ∧ (u4.2.1 7) ≤ 2147483647); first | exact hq4_8 | omega), hq4_12, hq4_9, hq4_10, hq4_11⟩, at9 ht hP hD [1, 2, 0, 13, 14, 15, 16, 3, 4, 5, 6, 7, 8, 9, 10, 11, 12] (by decide +kernel) rfl⟩, hS.F ht⟩) hS.2.2 dX11_pass_37