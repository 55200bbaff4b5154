section
theorem dX12_minutes_0 : decode cX12_minutes 0 = .ok (.aload_n 0, 1) := by decide +kernel
theorem dX12_minutes_1 : decode cX12_minutes 1 = .ok (.iconst 0, 1) := by decide +kernel
theorem dX12_minutes_10 : decode cX12_minutes 10 = .ok (.invokestatic 279, 3) := by decide +kernel
theorem dX12_minutes_13 : decode cX12_minutes 13 = .ok (.ifCond .eq 17, 3) := by decide +kernel
theorem dX12_minutes_16 : decode cX12_minutes 16 = .ok (.iload_n 2, 1) := by decide +kernel
theorem dX12_minutes_17 : decode cX12_minutes 17 = .ok (.iconst 0, 1) := by decide +kernel
theorem dX12_minutes_18 : decode cX12_minutes 18 = .ok (.bipush 20, 2) := by decide +kernel
theorem dX12_minutes_2 : decode cX12_minutes 2 = .ok (.putfield 1, 3) := by decide +kernel
theorem dX12_minutes_20 : decode cX12_minutes 20 = .ok (.invokestatic 279, 3) := by decide +kernel
theorem dX12_minutes_23 : decode cX12_minutes 23 = .ok (.ifCond .eq 7, 3) := by decide +kernel
theorem dX12_minutes_26 : decode cX12_minutes 26 = .ok (.iconst 1, 1) := by decide +kernel
theorem dX12_minutes_27 : decode cX12_minutes 27 = .ok (.goto 4, 3) := by decide +kernel
theorem dX12_minutes_30 : decode cX12_minutes 30 = .ok (.iconst 0, 1) := by decide +kernel
theorem dX12_minutes_31 : decode cX12_minutes 31 = .ok (.iconst 1, 1) := by decide +kernel
theorem dX12_minutes_32 : decode cX12_minutes 32 = .ok (.iconst 2, 1) := by decide +kernel
theorem dX12_minutes_33 : decode cX12_minutes 33 = .ok (.invokevirtual 175, 3) := by decide +kernel
theorem dX12_minutes_36 : decode cX12_minutes 36 = .ok (.ifCond .eq 11, 3) := by decide +kernel
theorem dX12_minutes_39 : decode cX12_minutes 39 = .ok (.aload_n 0, 1) := by decide +kernel
theorem dX12_minutes_40 : decode cX12_minutes 40 = .ok (.iconst 2, 1) := by decide +kernel
theorem dX12_minutes_41 : decode cX12_minutes 41 = .ok (.invokevirtual 312, 3) := by decide +kernel
theorem dX12_minutes_44 : decode cX12_minutes 44 = .ok (.ifCond .ne 5, 3) := by decide +kernel
theorem dX12_minutes_47 : decode cX12_minutes 47 = .ok (.iconst 0, 1) := by decide +kernel
theorem dX12_minutes_48 : decode cX12_minutes 48 = .ok (.ireturn, 1) := by decide +kernel
theorem dX12_minutes_49 : decode cX12_minutes 49 = .ok (.iconst 0, 1) := by decide +kernel
theorem dX12_minutes_5 : decode cX12_minutes 5 = .ok (.aload_n 0, 1) := by decide +kernel
theorem dX12_minutes_50 : decode cX12_minutes 50 = .ok (.istore_n 3, 1) := by decide +kernel
theorem dX12_minutes_51 : decode cX12_minutes 51 = .ok (.iload_n 3, 1) := by decide +kernel
theorem dX12_minutes_52 : decode cX12_minutes 52 = .ok (.iload_n 1, 1) := by decide +kernel
theorem dX12_minutes_53 : decode cX12_minutes 53 = .ok (.if_icmp .ge 28, 3) := by decide +kernel
theorem dX12_minutes_56 : decode cX12_minutes 56 = .ok (.aload_n 0, 1) := by decide +kernel
theorem dX12_minutes_57 : decode cX12_minutes 57 = .ok (.getfield 29, 3) := by decide +kernel
theorem dX12_minutes_6 : decode cX12_minutes 6 = .ok (.iload_n 1, 1) := by decide +kernel
theorem dX12_minutes_60 : decode cX12_minutes 60 = .ok (.sipush 388, 3) := by decide +kernel
theorem dX12_minutes_63 : decode cX12_minutes 63 = .ok (.iaload, 1) := by decide +kernel
theorem dX12_minutes_64 : decode cX12_minutes 64 = .ok (.sipush 600, 3) := by decide +kernel
theorem dX12_minutes_67 : decode cX12_minutes 67 = .ok (.if_icmp .ge 14, 3) := by decide +kernel
theorem dX12_minutes_7 : decode cX12_minutes 7 = .ok (.iconst 1, 1) := by decide +kernel
theorem dX12_minutes_70 : decode cX12_minutes 70 = .ok (.aload_n 0, 1) := by decide +kernel
theorem dX12_minutes_71 : decode cX12_minutes 71 = .ok (.iload_n 2, 1) := by decide +kernel
theorem dX12_minutes_72 : decode cX12_minutes 72 = .ok (.invokevirtual 315, 3) := by decide +kernel
theorem dX12_minutes_75 : decode cX12_minutes 75 = .ok (.iinc 3 1, 3) := by decide +kernel
theorem dX12_minutes_78 : decode cX12_minutes 78 = .ok (.goto (-27), 3) := by decide +kernel
theorem dX12_minutes_8 : decode cX12_minutes 8 = .ok (.bipush 60, 2) := by decide +kernel
theorem dX12_minutes_81 : decode cX12_minutes 81 = .ok (.iload_n 3, 1) := by decide +kernel
theorem dX12_minutes_82 : decode cX12_minutes 82 = .ok (.ireturn, 1) := by decide +kernel
theorem dX12_shower_0 : decode cX12_shower 0 = .ok (.aload_n 0, 1) := by decide +kernel
theorem dX12_shower_1 : decode cX12_shower 1 = .ok (.iconst 0, 1) := by decide +kernel
theorem dX12_shower_11 : decode cX12_shower 11 = .ok (.ifCond .eq 11, 3) := by decide +kernel
theorem dX12_shower_14 : decode cX12_shower 14 = .ok (.aload_n 0, 1) := by decide +kernel
theorem dX12_shower_15 : decode cX12_shower 15 = .ok (.iconst 2, 1) := by decide +kernel
theorem dX12_shower_16 : decode cX12_shower 16 = .ok (.invokevirtual 312, 3) := by decide +kernel
theorem dX12_shower_19 : decode cX12_shower 19 = .ok (.ifCond .ne 5, 3) := by decide +kernel
theorem dX12_shower_2 : decode cX12_shower 2 = .ok (.putfield 1, 3) := by decide +kernel
theorem dX12_shower_22 : decode cX12_shower 22 = .ok (.iconst 0, 1) := by decide +kernel
theorem dX12_shower_23 : decode cX12_shower 23 = .ok (.ireturn, 1) := by decide +kernel
theorem dX12_shower_24 : decode cX12_shower 24 = .ok (.aload_n 0, 1) := by decide +kernel
theorem dX12_shower_25 : decode cX12_shower 25 = .ok (.iload_n 1, 1) := by decide +kernel
theorem dX12_shower_26 : decode cX12_shower 26 = .ok (.invokevirtual 328, 3) := by decide +kernel
theorem dX12_shower_29 : decode cX12_shower 29 = .ok (.ireturn, 1) := by decide +kernel
theorem dX12_shower_5 : decode cX12_shower 5 = .ok (.aload_n 0, 1) := by decide +kernel
theorem dX12_shower_6 : decode cX12_shower 6 = .ok (.iload_n 1, 1) := by decide +kernel
theorem dX12_shower_7 : decode cX12_shower 7 = .ok (.iconst 1, 1) := by decide +kernel
theorem dX12_shower_8 : decode cX12_shower 8 = .ok (.invokevirtual 324, 3) := by decide +kernel
theorem dX12_showers_0 : decode cX12_showers 0 = .ok (.iconst 0, 1) := by decide +kernel
theorem dX12_showers_1 : decode cX12_showers 1 = .ok (.istore_n 2, 1) := by decide +kernel
theorem dX12_showers_10 : decode cX12_showers 10 = .ok (.iload_n 1, 1) := by decide +kernel
theorem dX12_showers_100 : decode cX12_showers 100 = .ok (.goto (-93), 3) := by decide +kernel
theorem dX12_showers_103 : decode cX12_showers 103 = .ok (.iload_n 2, 1) := by decide +kernel
theorem dX12_showers_104 : decode cX12_showers 104 = .ok (.ireturn, 1) := by decide +kernel
theorem dX12_showers_11 : decode cX12_showers 11 = .ok (.imul, 1) := by decide +kernel
theorem dX12_showers_12 : decode cX12_showers 12 = .ok (.aload_n 0, 1) := by decide +kernel
theorem dX12_showers_13 : decode cX12_showers 13 = .ok (.getfield 41, 3) := by decide +kernel
theorem dX12_showers_16 : decode cX12_showers 16 = .ok (.iload_n 1, 1) := by decide +kernel
theorem dX12_showers_17 : decode cX12_showers 17 = .ok (.iaload, 1) := by decide +kernel
theorem dX12_showers_18 : decode cX12_showers 18 = .ok (.iadd, 1) := by decide +kernel
theorem dX12_showers_19 : decode cX12_showers 19 = .ok (.if_icmp .ge 84, 3) := by decide +kernel
theorem dX12_showers_2 : decode cX12_showers 2 = .ok (.bipush 8, 2) := by decide +kernel
theorem dX12_showers_22 : decode cX12_showers 22 = .ok (.iconst 0, 1) := by decide +kernel
theorem dX12_showers_23 : decode cX12_showers 23 = .ok (.istore 4, 2) := by decide +kernel
theorem dX12_showers_25 : decode cX12_showers 25 = .ok (.iload 4, 2) := by decide +kernel
theorem dX12_showers_27 : decode cX12_showers 27 = .ok (.aload_n 0, 1) := by decide +kernel
theorem dX12_showers_28 : decode cX12_showers 28 = .ok (.getfield 47, 3) := by decide +kernel
theorem dX12_showers_31 : decode cX12_showers 31 = .ok (.iload_n 3, 1) := by decide +kernel
theorem dX12_showers_32 : decode cX12_showers 32 = .ok (.iaload, 1) := by decide +kernel
theorem dX12_showers_33 : decode cX12_showers 33 = .ok (.if_icmp .ge 64, 3) := by decide +kernel
theorem dX12_showers_36 : decode cX12_showers 36 = .ok (.aload_n 0, 1) := by decide +kernel
theorem dX12_showers_37 : decode cX12_showers 37 = .ok (.getfield 29, 3) := by decide +kernel
theorem dX12_showers_4 : decode cX12_showers 4 = .ok (.iload_n 1, 1) := by decide +kernel
theorem dX12_showers_40 : decode cX12_showers 40 = .ok (.sipush 388, 3) := by decide +kernel
theorem dX12_showers_43 : decode cX12_showers 43 = .ok (.iaload, 1) := by decide +kernel
theorem dX12_showers_44 : decode cX12_showers 44 = .ok (.sipush 600, 3) := by decide +kernel
theorem dX12_showers_47 : decode cX12_showers 47 = .ok (.if_icmp .ge 50, 3) := by decide +kernel
theorem dX12_showers_5 : decode cX12_showers 5 = .ok (.imul, 1) := by decide +kernel
theorem dX12_showers_50 : decode cX12_showers 50 = .ok (.aload_n 0, 1) := by decide +kernel
theorem dX12_showers_51 : decode cX12_showers 51 = .ok (.aload_n 0, 1) := by decide +kernel
theorem dX12_showers_52 : decode cX12_showers 52 = .ok (.getfield 44, 3) := by decide +kernel
theorem dX12_showers_55 : decode cX12_showers 55 = .ok (.iload_n 3, 1) := by decide +kernel
theorem dX12_showers_56 : decode cX12_showers 56 = .ok (.iaload, 1) := by decide +kernel
theorem dX12_showers_57 : decode cX12_showers 57 = .ok (.invokevirtual 315, 3) := by decide +kernel
theorem dX12_showers_6 : decode cX12_showers 6 = .ok (.istore_n 3, 1) := by decide +kernel
theorem dX12_showers_60 : decode cX12_showers 60 = .ok (.iinc 2 1, 3) := by decide +kernel
theorem dX12_showers_63 : decode cX12_showers 63 = .ok (.aload_n 0, 1) := by decide +kernel
theorem dX12_showers_64 : decode cX12_showers 64 = .ok (.getfield 318, 3) := by decide +kernel
theorem dX12_showers_67 : decode cX12_showers 67 = .ok (.ifCond .le 24, 3) := by decide +kernel
theorem dX12_showers_7 : decode cX12_showers 7 = .ok (.iload_n 3, 1) := by decide +kernel
theorem dX12_showers_70 : decode cX12_showers 70 = .ok (.aload_n 0, 1) := by decide +kernel
theorem dX12_showers_71 : decode cX12_showers 71 = .ok (.getfield 29, 3) := by decide +kernel
theorem dX12_showers_74 : decode cX12_showers 74 = .ok (.bipush 96, 2) := by decide +kernel
theorem dX12_showers_76 : decode cX12_showers 76 = .ok (.aload_n 0, 1) := by decide +kernel
theorem dX12_showers_77 : decode cX12_showers 77 = .ok (.getfield 321, 3) := by decide +kernel
theorem dX12_showers_8 : decode cX12_showers 8 = .ok (.bipush 8, 2) := by decide +kernel
theorem dX12_showers_80 : decode cX12_showers 80 = .ok (.iadd, 1) := by decide +kernel
theorem dX12_showers_81 : decode cX12_showers 81 = .ok (.iaload, 1) := by decide +kernel
theorem dX12_showers_82 : decode cX12_showers 82 = .ok (.aload_n 0, 1) := by decide +kernel
theorem dX12_showers_83 : decode cX12_showers 83 = .ok (.getfield 318, 3) := by decide +kernel
theorem dX12_showers_86 : decode cX12_showers 86 = .ok (.if_icmp .lt 5, 3) := by decide +kernel
theorem dX12_showers_89 : decode cX12_showers 89 = .ok (.iload_n 2, 1) := by decide +kernel
theorem dX12_showers_90 : decode cX12_showers 90 = .ok (.ireturn, 1) := by decide +kernel
theorem dX12_showers_91 : decode cX12_showers 91 = .ok (.iinc 4 1, 3) := by decide +kernel
theorem dX12_showers_94 : decode cX12_showers 94 = .ok (.goto (-69), 3) := by decide +kernel
theorem dX12_showers_97 : decode cX12_showers 97 = .ok (.iinc 3 1, 3) := by decide +kernel
theorem dX12_standing_0 : decode cX12_standing 0 = .ok (.iconst 0, 1) := by decide +kernel
theorem dX12_standing_1 : decode cX12_standing 1 = .ok (.istore_n 1, 1) := by decide +kernel
theorem dX12_standing_12 : decode cX12_standing 12 = .ok (.iload_n 1, 1) := by decide +kernel
theorem dX12_standing_13 : decode cX12_standing 13 = .ok (.aload_n 0, 1) := by decide +kernel
theorem dX12_standing_14 : decode cX12_standing 14 = .ok (.getfield 29, 3) := by decide +kernel
theorem dX12_standing_17 : decode cX12_standing 17 = .ok (.iload_n 2, 1) := by decide +kernel
theorem dX12_standing_18 : decode cX12_standing 18 = .ok (.iaload, 1) := by decide +kernel
theorem dX12_standing_19 : decode cX12_standing 19 = .ok (.iadd, 1) := by decide +kernel
theorem dX12_standing_2 : decode cX12_standing 2 = .ok (.bipush 96, 2) := by decide +kernel
theorem dX12_standing_20 : decode cX12_standing 20 = .ok (.istore_n 1, 1) := by decide +kernel
theorem dX12_standing_21 : decode cX12_standing 21 = .ok (.iinc 2 1, 3) := by decide +kernel
theorem dX12_standing_24 : decode cX12_standing 24 = .ok (.goto (-19), 3) := by decide +kernel
theorem dX12_standing_27 : decode cX12_standing 27 = .ok (.iload_n 1, 1) := by decide +kernel
theorem dX12_standing_28 : decode cX12_standing 28 = .ok (.ireturn, 1) := by decide +kernel
theorem dX12_standing_4 : decode cX12_standing 4 = .ok (.istore_n 2, 1) := by decide +kernel
theorem dX12_standing_5 : decode cX12_standing 5 = .ok (.iload_n 2, 1) := by decide +kernel
theorem dX12_standing_6 : decode cX12_standing 6 = .ok (.sipush 192, 3) := by decide +kernel
theorem dX12_standing_9 : decode cX12_standing 9 = .ok (.if_icmp .ge 18, 3) := by decide +kernel
theorem dX12_sums_0 : decode cX12_sums 0 = .ok (.aload_n 0, 1) := by decide +kernel
theorem dX12_sums_1 : decode cX12_sums 1 = .ok (.iconst 0, 1) := by decide +kernel
theorem dX12_sums_12 : decode cX12_sums 12 = .ok (.iconst 1, 1) := by decide +kernel
theorem dX12_sums_13 : decode cX12_sums 13 = .ok (.iconst 2, 1) := by decide +kernel
theorem dX12_sums_14 : decode cX12_sums 14 = .ok (.invokevirtual 175, 3) := by decide +kernel
theorem dX12_sums_17 : decode cX12_sums 17 = .ok (.ifCond .ne 5, 3) := by decide +kernel
theorem dX12_sums_2 : decode cX12_sums 2 = .ok (.putfield 1, 3) := by decide +kernel
theorem dX12_sums_20 : decode cX12_sums 20 = .ok (.iconst 0, 1) := by decide +kernel
theorem dX12_sums_21 : decode cX12_sums 21 = .ok (.ireturn, 1) := by decide +kernel
theorem dX12_sums_22 : decode cX12_sums 22 = .ok (.iload_n 1, 1) := by decide +kernel
theorem dX12_sums_23 : decode cX12_sums 23 = .ok (.iconst 3, 1) := by decide +kernel
theorem dX12_sums_24 : decode cX12_sums 24 = .ok (.if_icmp .ge 16, 3) := by decide +kernel
theorem dX12_sums_27 : decode cX12_sums 27 = .ok (.aload_n 0, 1) := by decide +kernel
theorem dX12_sums_28 : decode cX12_sums 28 = .ok (.getfield 29, 3) := by decide +kernel
theorem dX12_sums_31 : decode cX12_sums 31 = .ok (.sipush 385, 3) := by decide +kernel
theorem dX12_sums_34 : decode cX12_sums 34 = .ok (.iload_n 1, 1) := by decide +kernel
theorem dX12_sums_35 : decode cX12_sums 35 = .ok (.iadd, 1) := by decide +kernel
theorem dX12_sums_36 : decode cX12_sums 36 = .ok (.iaload, 1) := by decide +kernel
theorem dX12_sums_37 : decode cX12_sums 37 = .ok (.goto 7, 3) := by decide +kernel
theorem dX12_sums_40 : decode cX12_sums 40 = .ok (.aload_n 0, 1) := by decide +kernel
theorem dX12_sums_41 : decode cX12_sums 41 = .ok (.invokevirtual 331, 3) := by decide +kernel
theorem dX12_sums_44 : decode cX12_sums 44 = .ok (.ireturn, 1) := by decide +kernel
theorem dX12_sums_5 : decode cX12_sums 5 = .ok (.aload_n 0, 1) := by decide +kernel
theorem dX12_sums_6 : decode cX12_sums 6 = .ok (.iload_n 1, 1) := by decide +kernel
theorem dX12_sums_7 : decode cX12_sums 7 = .ok (.iconst 0, 1) := by decide +kernel
theorem dX12_sums_8 : decode cX12_sums 8 = .ok (.iconst 3, 1) := by decide +kernel
theorem dX12_sums_9 : decode cX12_sums 9 = .ok (.invokestatic 279, 3) := by decide +kernel
def vs_m_minutes : List Cond := .code yX12_minutes cX12_minutes 4 (some .int) :: (([.fieldLink RX12 1 "KerbSplashModel" "thrown" "I", .fieldLink RX12 29 "KerbSplashModel" "s" "[I"] : List Cond) ++ ((wsX120) ++ ((va_wsS RX12 279 yX12_within vs_m_within) ++ ((wsV RX12 175 RX12 yX12_may vs_m_may) ++ ((wsV RX12 312 RX12 yX12_isNow vs_m_isNow) ++ ((wsV RX12 315 RX12 yX12_minute vs_m_minute) ++ ([])))))))
set_option maxHeartbeats 4000000 in
set_option maxRecDepth 100000 in
theorem m_minutes (l : Launch) (hl : l.stackTraces = false) (D : va_G) (cy : Nat → ClassId) (sa : Nat → Nat) (mm m1 m9 m10 m11 m12 m13 m14 m15 m19 m20 m21 m23 m24 m25 m26 m27 m28 m33 m35 : Nat) (th tp sz_ ap bad bk opn fp im nr nl sp_ wtc wcl ir ip shu sfa swr : Int) (f1 f10 f12 : Nat → Int32) (n k : Int) (qs : Nat → Int) (sz : Nat) (hr_th : (-2147483648) ≤ th ∧ th ≤ 2147483647) (hr_tp : 0 ≤ tp ∧ tp ≤ 600) (hr_sz_ : 0 ≤ sz_ ∧ sz_ ≤ 600) (hr_ap : 0 ≤ ap ∧ ap ≤ 602) (hr_bad : (-1) ≤ bad ∧ bad ≤ 602) (hr_bk : 0 ≤ bk ∧ bk ≤ 4) (hr_opn : 0 ≤ opn ∧ opn ≤ 7) (hr_fp : (-2147483648) ≤ fp ∧ fp ≤ 2147483647) (hr_im : 0 ≤ im ∧ im ≤ 3) (hr_nr : 0 ≤ nr ∧ nr ≤ 4) (hr_nl : 0 ≤ nl ∧ nl ≤ 4) (hr_sp_ : 0 ≤ sp_ ∧ sp_ ≤ 602) (hr_wtc : (-2147483648) ≤ wtc ∧ wtc ≤ 2147483647) (hr_wcl : 0 ≤ wcl ∧ wcl ≤ 95) (hr_ir : 0 ≤ ir ∧ ir ≤ 5) (hr_ip : (-2147483648) ≤ ip ∧ ip ≤ 2147483647) (hr_shu : (-2147483648) ≤ shu ∧ shu ≤ 2147483647) (hr_sfa : (-2147483648) ≤ sfa ∧ sfa ≤ 2147483647) (hr_swr : (-2147483648) ≤ swr ∧ swr ≤ 2147483647) (hr_n : (-2147483648) ≤ n ∧ n ≤ 2147483647) (hr_k : (-2147483648) ≤ k ∧ k ≤ 2147483647) (hf10 : BI f10) (hf12 : SQ qs 8 f12) : mI9 l yX12_minutes vs_m_minutes ({ frames := 4, cells := 0, slots := 0, locals := 95 }) D cy sa sz [vR mm, vI n, vI k] [zO mm 12 [vI th, vR m1, vI tp, vI sz_, vI ap, vI bad, vI bk, vI opn, vI fp, vR m9, vR m10, vR m11, vR m12, vR m13, vR m14, vR m15, vI im, vI nr, vI nl, vR m19, vR m20, vR m21, vI sp_, vR m23, vR m24, vR m25, vR m26, vR m27, vR m28, vI wtc, vI wcl, vI ir, vI ip, vR m33, vI shu, vR m35, vI sfa, vI swr], zI m1 (cy 0) 4 f1, zI m10 (cy 0) 68 f10, zI m12 (cy 0) 389 f12] (fun (r : Int32) (u : SV) => r = iI (u.2.1 0) ∧ ((-2147483648) ≤ u.2.1 1 ∧ u.2.1 1 ≤ 2147483647) ∧ ((-2147483648) ≤ u.2.1 0 ∧ u.2.1 0 ≤ 2147483647) ∧ BI f10 ∧ SQ qs 8 (u.2.2 1)) (fun u : SV => [zO mm 12 [vI (u.2.1 1), vR m1, vI tp, vI sz_, vI ap, vI bad, vI bk, vI opn, vI fp, vR m9, vR m10, vR m11, vR m12, vR m13, vR m14, vR m15, vI im, vI nr, vI nl, vR m19, vR m20, vR m21, vI sp_, vR m23, vR m24, vR m25, vR m26, vR m27, vR m28, vI wtc, vI wcl, vI ir, vI ip, vR m33, vI shu, vR m35, vI sfa, vI swr], zI m1 (cy 0) 4 (u.2.2 0), zI m10 (cy 0) 68 f10, zI m12 (cy 0) 389 (u.2.2 1)]) 0 0 := by
  refine Met.ofW (cc := cX12_minutes) (maxL := 4) (ret := (some .int)) (by decide) rfl ?_
  intro p e s m args below meth c s₁ B hml hv
  obtain ⟨rfl, hsz, hP, hG, hD0, hT⟩ := hv
  have hx := B.exec
  have hb := B.bytes
  have hr := B.returns
  have hts := atoms_spec (ws := vs_m_minutes) B.pre
  have hown : s.vm.findClass RX12 = some m.cls := findClass_of_methodNamed B.named
  have hlocks := B.notSynchronized
  subst hsz
  have hD := hD0.self (sz := s.heap.size)
  generalize hAe : va_A [zO mm 12 [vI th, vR m1, vI tp, vI sz_, vI ap, vI bad, vI bk, vI opn, vI fp, vR m9, vR m10, vR m11, vR m12, vR m13, vR m14, vR m15, vI im, vI nr, vI nl, vR m19, vR m20, vR m21, vI sp_, vR m23, vR m24, vR m25, vR m26, vR m27, vR m28, vI wtc, vI wcl, vI ir, vI ip, vR m33, vI shu, vR m35, vI sfa, vI swr], zI m1 (cy 0) 4 f1, zI m10 (cy 0) 68 f10, zI m12 (cy 0) 389 f12] s.heap.size = A at hD hT ⊢
  have hA : ∀ q : Nat, s.heap.size ≤ q → A q := fun q h => by rw [← hAe]; exact Or.inr h
  have hS : va_S A s.heap s.heap [] := va_S.rf
  have hl0 := lv_entry ([vR mm, vI n, vI k]) (n := 4) (Nat.le_of_ble_eq_true rfl)
  rw [lg_entry_eq]
  generalize (lg_sl ([vR mm, vI n, vI k]) ++ List.replicate (4 - (lg_sl ([vR mm, vI n, vI k])).length) Slot.unset).toArray = ls at hl0 ⊢
  have hlv : lv_has ls 4 [(0, vR mm), (1, vI n), (2, vI k)] := hl0
  have lf1 := hts (.fieldLink RX12 1 "KerbSplashModel" "thrown" "I") (List.mem_of_getElem? (i := 1) rfl)
  have hi12 : ∀ w ∈ wsX120, w ∈ vs_m_minutes := fun w h => List.mem_cons_of_mem _ (List.mem_append_right _ (List.mem_append_left _ h))
  have gg_1 : GoodIn vs_m_minutes (va_wsS RX12 279 yX12_within vs_m_within) := goodIn_sub (fun w h => List.mem_cons_of_mem _ (List.mem_append_right _ (List.mem_append_right _ (List.mem_append_left _ h)))) (gd_S gd_m_within (by decide +kernel))
  have gg_2 : GoodIn vs_m_minutes (wsV RX12 175 RX12 yX12_may vs_m_may) := goodIn_sub (fun w h => List.mem_cons_of_mem _ (List.mem_append_right _ (List.mem_append_right _ (List.mem_append_right _ (List.mem_append_left _ h))))) (gd_V gd_m_may (by decide +kernel))
  have gg_3 : GoodIn vs_m_minutes (wsV RX12 312 RX12 yX12_isNow vs_m_isNow) := goodIn_sub (fun w h => List.mem_cons_of_mem _ (List.mem_append_right _ (List.mem_append_right _ (List.mem_append_right _ (List.mem_append_right _ (List.mem_append_left _ h)))))) (gd_V gd_m_isNow (by decide +kernel))
  have lf29 := hts (.fieldLink RX12 29 "KerbSplashModel" "s" "[I") (List.mem_of_getElem? (i := 2) rfl)
  have gg_4 : GoodIn vs_m_minutes (wsV RX12 315 RX12 yX12_minute vs_m_minute) := goodIn_sub (fun w h => List.mem_cons_of_mem _ (List.mem_append_right _ (List.mem_append_right _ (List.mem_append_right _ (List.mem_append_right _ (List.mem_append_right _ (List.mem_append_left _ h))))))) (gd_V gd_m_minute (by decide +kernel))
  refine lv_aload_n hx hb dX12_minutes_0 rfl (lv_at hlv 0 rfl) ?_
  refine lv_iconst (v := iI 0) hx hb dX12_minutes_1 (by decide) ?_
  refine va_put (D := D) (ci := 12) (v := vI 0) (ty := .int) (C := RX12) (T := TX12) (N := 38) hx hb hts hi12 tyX12 tyX12_ok nmX12 hown hG.1 hP hD hS 0 rfl rfl 0 (by decide) lf1 (fun _ h9 => h9) rfl (by decide +kernel) rfl rfl (Nat.le_of_ble_eq_true rfl) dX12_minutes_2 (fun H locs hP hD hS => ?_)
  obtain ⟨hP, hD⟩ := pw9 [zO mm 12 [vI 0, vR m1, vI tp, vI sz_, vI ap, vI bad, vI bk, vI opn, vI fp, vR m9, vR m10, vR m11, vR m12, vR m13, vR m14, vR m15, vI im, vI nr, vI nl, vR m19, vR m20, vR m21, vI sp_, vR m23, vR m24, vR m25, vR m26, vR m27, vR m28, vI wtc, vI wcl, vI ir, vI ip, vR m33, vI shu, vR m35, vI sfa, vI swr], zI m1 (cy 0) 4 f1, zI m10 (cy 0) 68 f10, zI m12 (cy 0) 389 f12] hP hD
  refine lv_aload_n hx hb dX12_minutes_5 rfl (lv_at hlv 0 rfl) ?_
  refine lv_iload_n hx hb dX12_minutes_6 rfl (lv_at hlv 1 rfl) ?_
  refine lv_iconst (v := iI 1) hx hb dX12_minutes_7 (by decide) ?_
  refine lv_bipush (v := iI 60) hx hb dX12_minutes_8 (by decide) ?_
  refine cjr_i [true, true, true, true] (fun pre9 => (va_runS (As := [vI n, vI 1, vI 60]) (rest := [vR mm]) ⟨hx, hb, hml, hown, hts⟩ (m_within l hl D cy sa n 1 60 H.size (by first | exact hr_n | omega) (by show ((-2147483648) : Int) ≤ 1 ∧ (1 : Int) ≤ 2147483647; decide) (by show ((-2147483648) : Int) ≤ 60 ∧ (60 : Int) ≤ 2147483647; decide)) (va_cwS 3 hts gg_1 rfl rfl rfl (by decide +kernel) ⟨Nat.le_of_ble_eq_true rfl, Nat.le_of_ble_eq_true rfl⟩) ⟨pcW.blind, pre9⟩ rfl rfl hlv.1 rfl (lv_room (Nat.le_of_ble_eq_true rfl)) dX12_minutes_10 ⟨Nat.le_of_ble_eq_true rfl, Nat.le_of_ble_eq_true rfl⟩)) hP hD hS hA hG hT [] rfl (by decide +kernel) (fun r1 u1 H locs hw1 hq9 hS => ?_)
  obtain ⟨rfl, hq1_1, hq1_2, hq1_3⟩ := hw1
  obtain ⟨hP, hD⟩ := pd9 [zO mm 12 [vI 0, vR m1, vI tp, vI sz_, vI ap, vI bad, vI bk, vI opn, vI fp, vR m9, vR m10, vR m11, vR m12, vR m13, vR m14, vR m15, vI im, vI nr, vI nl, vR m19, vR m20, vR m21, vI sp_, vR m23, vR m24, vR m25, vR m26, vR m27, vR m28, vI wtc, vI wcl, vI ir, vI ip, vR m33, vI shu, vR m35, vI sfa, vI swr], zI m1 (cy 0) 4 f1, zI m10 (cy 0) 68 f10, zI m12 (cy 0) 389 f12] hq9
  refine iz_eq (tgt := 30) hx hb dX12_minutes_13 (by decide) (by first | exact rgw hq1_1 (by decide) (by decide) | omega) (fun c_1 => ?_) (fun c_1 => ?_)
  · refine lv_iconst (v := iI 0) hx hb dX12_minutes_30 (by decide) ?_
    refine lv_iconst (v := iI 1) hx hb dX12_minutes_31 (by decide) ?_
    refine lv_iconst (v := iI 2) hx hb dX12_minutes_32 (by decide) ?_
    refine cjr_i [false, false, true, true] (fun pre9 => (va_runV (As := [vI 0, vI 1, vI 2]) (rest := []) ⟨hx, hb, hml, hown, hts⟩ (m_may l hl D cy sa mm m1 m9 m10 m11 m12 m13 m14 m15 m19 m20 m21 m23 m24 m25 m26 m27 m28 m33 m35 0 tp sz_ ap bad bk opn fp im nr nl sp_ wtc wcl ir ip shu sfa swr f1 0 1 2 H.size (by show ((-2147483648) : Int) ≤ 0 ∧ (0 : Int) ≤ 2147483647; decide) (by first | exact hr_tp | omega) (by first | exact hr_sz_ | omega) (by first | exact hr_ap | omega) (by first | exact hr_bad | omega) (by first | exact hr_bk | omega) (by first | exact hr_opn | omega) (by first | exact hr_fp | omega) (by first | exact hr_im | omega) (by first | exact hr_nr | omega) (by first | exact hr_nl | omega) (by first | exact hr_sp_ | omega) (by first | exact hr_wtc | omega) (by first | exact hr_wcl | omega) (by first | exact hr_ir | omega) (by first | exact hr_ip | omega) (by first | exact hr_shu | omega) (by first | exact hr_sfa | omega) (by first | exact hr_swr | omega) (by show (0 : Int) ≤ 0 ∧ (0 : Int) ≤ 1; decide) (by show (1 : Int) ≤ 1 ∧ (1 : Int) ≤ 4; decide) (by show (0 : Int) ≤ 2 ∧ (2 : Int) ≤ 3; decide)) (cwV 3 hts gg_2 rfl rfl rfl (by decide +kernel) ⟨Nat.le_of_ble_eq_true rfl, Nat.le_of_ble_eq_true rfl⟩) ⟨pcW.blind, (va_recv hG.1 hP (ci := 12) (q0 := 0) rfl rfl), pre9⟩ rfl rfl hlv.1 rfl (lv_room (Nat.le_of_ble_eq_true rfl)) dX12_minutes_33 ⟨Nat.le_of_ble_eq_true rfl, Nat.le_of_ble_eq_true rfl⟩)) hP hD hS hA hG hT [0, 1] rfl (by decide +kernel) (fun r2 u2 H locs hw2 hq9 hS => ?_)
    obtain ⟨rfl, hq2_1, hq2_2, hq2_3, hq2_4⟩ := hw2
    obtain ⟨hP, hD⟩ := pd9 [zI m10 (cy 0) 68 f10, zI m12 (cy 0) 389 f12, zO mm 12 [vI (u2.2.1 1), vR m1, vI tp, vI sz_, vI ap, vI bad, vI bk, vI opn, vI fp, vR m9, vR m10, vR m11, vR m12, vR m13, vR m14, vR m15, vI im, vI nr, vI nl, vR m19, vR m20, vR m21, vI sp_, vR m23, vR m24, vR m25, vR m26, vR m27, vR m28, vI wtc, vI wcl, vI ir, vI ip, vR m33, vI shu, vR m35, vI sfa, vI swr], zI m1 (cy 0) 4 (u2.2.2 0)] hq9
    refine lt_i (y := iI 0) (by rw [show (u2.2.1 0) = 0 by omega]) ?_
    refine iz_eq (tgt := 47) hx hb dX12_minutes_36 (by decide) (by show ((-2147483648) : Int) ≤ 0 ∧ (0 : Int) ≤ 2147483647; decide) (fun c_2 => ?_) (fun c_2 => by exfalso; omega)
    refine lv_iconst (v := iI 0) hx hb dX12_minutes_47 (by decide) ?_
    refine W.widen (k := 0) (n := 0) (Nat.le_of_ble_eq_true rfl) (Nat.le_of_ble_eq_true rfl) ?_
    exact W.iret (v := iI 0) hx hb hr (fun t ht hW => ⟨⟨iI 0, ((fun k => ([] : List Nat).getD k 0), (fun k => ([0, (u2.2.1 1)] : List Int).getD k 0), (fun k => ([(u2.2.2 0), f12] : List (Nat → Int32)).getD k (fun _ => 0))), rfl, ⟨rfl, (by show ((-2147483648) ≤ (u2.2.1 1) ∧ (u2.2.1 1) ≤ 2147483647); first | exact hq2_1 | omega), (by show ((-2147483648) ≤ 0 ∧ 0 ≤ 2147483647); show ((-2147483648) : Int) ≤ 0 ∧ (0 : Int) ≤ 2147483647; decide), hf10, hf12⟩, at9 ht hP hD [2, 3, 0, 1] (by decide +kernel) rfl⟩, hS.F ht⟩) hS.2.2 dX12_minutes_48
  · refine lv_iload_n hx hb dX12_minutes_16 rfl (lv_at hlv 2 rfl) ?_
    refine lv_iconst (v := iI 0) hx hb dX12_minutes_17 (by decide) ?_
    refine lv_bipush (v := iI 20) hx hb dX12_minutes_18 (by decide) ?_
    refine cjr_i [true, true, true, true] (fun pre9 => (va_runS (As := [vI k, vI 0, vI 20]) (rest := [vR mm]) ⟨hx, hb, hml, hown, hts⟩ (m_within l hl D cy sa k 0 20 H.size (by first | exact hr_k | omega) (by show ((-2147483648) : Int) ≤ 0 ∧ (0 : Int) ≤ 2147483647; decide) (by show ((-2147483648) : Int) ≤ 20 ∧ (20 : Int) ≤ 2147483647; decide)) (va_cwS 3 hts gg_1 rfl rfl rfl (by decide +kernel) ⟨Nat.le_of_ble_eq_true rfl, Nat.le_of_ble_eq_true rfl⟩) ⟨pcW.blind, pre9⟩ rfl rfl hlv.1 rfl (lv_room (Nat.le_of_ble_eq_true rfl)) dX12_minutes_20 ⟨Nat.le_of_ble_eq_true rfl, Nat.le_of_ble_eq_true rfl⟩)) hP hD hS hA hG hT [] rfl (by decide +kernel) (fun r3 u3 H locs hw3 hq9 hS => ?_)
    obtain ⟨rfl, hq3_1, hq3_2, hq3_3⟩ := hw3
    obtain ⟨hP, hD⟩ := pd9 [zO mm 12 [vI 0, vR m1, vI tp, vI sz_, vI ap, vI bad, vI bk, vI opn, vI fp, vR m9, vR m10, vR m11, vR m12, vR m13, vR m14, vR m15, vI im, vI nr, vI nl, vR m19, vR m20, vR m21, vI sp_, vR m23, vR m24, vR m25, vR m26, vR m27, vR m28, vI wtc, vI wcl, vI ir, vI ip, vR m33, vI shu, vR m35, vI sfa, vI swr], zI m1 (cy 0) 4 f1, zI m10 (cy 0) 68 f10, zI m12 (cy 0) 389 f12] hq9
    refine iz_eq (tgt := 30) hx hb dX12_minutes_23 (by decide) (by first | exact rgw hq3_1 (by decide) (by decide) | omega) (fun c_3 => ?_) (fun c_3 => ?_)
    · refine lv_iconst (v := iI 0) hx hb dX12_minutes_30 (by decide) ?_
      refine lv_iconst (v := iI 1) hx hb dX12_minutes_31 (by decide) ?_
      refine lv_iconst (v := iI 2) hx hb dX12_minutes_32 (by decide) ?_
      refine cjr_i [false, false, true, true] (fun pre9 => (va_runV (As := [vI 0, vI 1, vI 2]) (rest := []) ⟨hx, hb, hml, hown, hts⟩ (m_may l hl D cy sa mm m1 m9 m10 m11 m12 m13 m14 m15 m19 m20 m21 m23 m24 m25 m26 m27 m28 m33 m35 0 tp sz_ ap bad bk opn fp im nr nl sp_ wtc wcl ir ip shu sfa swr f1 0 1 2 H.size (by show ((-2147483648) : Int) ≤ 0 ∧ (0 : Int) ≤ 2147483647; decide) (by first | exact hr_tp | omega) (by first | exact hr_sz_ | omega) (by first | exact hr_ap | omega) (by first | exact hr_bad | omega) (by first | exact hr_bk | omega) (by first | exact hr_opn | omega) (by first | exact hr_fp | omega) (by first | exact hr_im | omega) (by first | exact hr_nr | omega) (by first | exact hr_nl | omega) (by first | exact hr_sp_ | omega) (by first | exact hr_wtc | omega) (by first | exact hr_wcl | omega) (by first | exact hr_ir | omega) (by first | exact hr_ip | omega) (by first | exact hr_shu | omega) (by first | exact hr_sfa | omega) (by first | exact hr_swr | omega) (by show (0 : Int) ≤ 0 ∧ (0 : Int) ≤ 1; decide) (by show (1 : Int) ≤ 1 ∧ (1 : Int) ≤ 4; decide) (by show (0 : Int) ≤ 2 ∧ (2 : Int) ≤ 3; decide)) (cwV 3 hts gg_2 rfl rfl rfl (by decide +kernel) ⟨Nat.le_of_ble_eq_true rfl, Nat.le_of_ble_eq_true rfl⟩) ⟨pcW.blind, (va_recv hG.1 hP (ci := 12) (q0 := 0) rfl rfl), pre9⟩ rfl rfl hlv.1 rfl (lv_room (Nat.le_of_ble_eq_true rfl)) dX12_minutes_33 ⟨Nat.le_of_ble_eq_true rfl, Nat.le_of_ble_eq_true rfl⟩)) hP hD hS hA hG hT [0, 1] rfl (by decide +kernel) (fun r4 u4 H locs hw4 hq9 hS => ?_)
      obtain ⟨rfl, hq4_1, hq4_2, hq4_3, hq4_4⟩ := hw4
      obtain ⟨hP, hD⟩ := pd9 [zI m10 (cy 0) 68 f10, zI m12 (cy 0) 389 f12, zO mm 12 [vI (u4.2.1 1), vR m1, vI tp, vI sz_, vI ap, vI bad, vI bk, vI opn, vI fp, vR m9, vR m10, vR m11, vR m12, vR m13, vR m14, vR m15, vI im, vI nr, vI nl, vR m19, vR m20, vR m21, vI sp_, vR m23, vR m24, vR m25, vR m26, vR m27, vR m28, vI wtc, vI wcl, vI ir, vI ip, vR m33, vI shu, vR m35, vI sfa, vI swr], zI m1 (cy 0) 4 (u4.2.2 0)] hq9
      refine lt_i (y := iI 0) (by rw [show (u4.2.1 0) = 0 by omega]) ?_
      refine iz_eq (tgt := 47) hx hb dX12_minutes_36 (by decide) (by show ((-2147483648) : Int) ≤ 0 ∧ (0 : Int) ≤ 2147483647; decide) (fun c_4 => ?_) (fun c_4 => by exfalso; omega)
      refine lv_iconst (v := iI 0) hx hb dX12_minutes_47 (by decide) ?_
      refine W.widen (k := 0) (n := 0) (Nat.le_of_ble_eq_true rfl) (Nat.le_of_ble_eq_true rfl) ?_
      exact W.iret (v := iI 0) hx hb hr (fun t ht hW => ⟨⟨iI 0, ((fun k => ([] : List Nat).getD k 0), (fun k => ([0, (u4.2.1 1)] : List Int).getD k 0), (fun k => ([(u4.2.2 0), f12] : List (Nat → Int32)).getD k (fun _ => 0))), rfl, ⟨rfl, (by show ((-2147483648) ≤ (u4.2.1 1) ∧ (u4.2.1 1) ≤ 2147483647); first | exact hq4_1 | omega), (by show ((-2147483648) ≤ 0 ∧ 0 ≤ 2147483647); show ((-2147483648) : Int) ≤ 0 ∧ (0 : Int) ≤ 2147483647; decide), hf10, hf12⟩, at9 ht hP hD [2, 3, 0, 1] (by decide +kernel) rfl⟩, hS.F ht⟩) hS.2.2 dX12_minutes_48
    · refine lv_iconst (v := iI 1) hx hb dX12_minutes_26 (by decide) ?_
      refine lv_goto (tgt := 31) hx hb dX12_minutes_27 (by decide) ?_
      refine lv_iconst (v := iI 1) hx hb dX12_minutes_31 (by decide) ?_
      refine lv_iconst (v := iI 2) hx hb dX12_minutes_32 (by decide) ?_
      refine cjr_i [false, false, true, true] (fun pre9 => (va_runV (As := [vI 1, vI 1, vI 2]) (rest := []) ⟨hx, hb, hml, hown, hts⟩ (m_may l hl D cy sa mm m1 m9 m10 m11 m12 m13 m14 m15 m19 m20 m21 m23 m24 m25 m26 m27 m28 m33 m35 0 tp sz_ ap bad bk opn fp im nr nl sp_ wtc wcl ir ip shu sfa swr f1 1 1 2 H.size (by show ((-2147483648) : Int) ≤ 0 ∧ (0 : Int) ≤ 2147483647; decide) (by first | exact hr_tp | omega) (by first | exact hr_sz_ | omega) (by first | exact hr_ap | omega) (by first | exact hr_bad | omega) (by first | exact hr_bk | omega) (by first | exact hr_opn | omega) (by first | exact hr_fp | omega) (by first | exact hr_im | omega) (by first | exact hr_nr | omega) (by first | exact hr_nl | omega) (by first | exact hr_sp_ | omega) (by first | exact hr_wtc | omega) (by first | exact hr_wcl | omega) (by first | exact hr_ir | omega) (by first | exact hr_ip | omega) (by first | exact hr_shu | omega) (by first | exact hr_sfa | omega) (by first | exact hr_swr | omega) (by show (0 : Int) ≤ 1 ∧ (1 : Int) ≤ 1; decide) (by show (1 : Int) ≤ 1 ∧ (1 : Int) ≤ 4; decide) (by show (0 : Int) ≤ 2 ∧ (2 : Int) ≤ 3; decide)) (cwV 3 hts gg_2 rfl rfl rfl (by decide +kernel) ⟨Nat.le_of_ble_eq_true rfl, Nat.le_of_ble_eq_true rfl⟩) ⟨pcW.blind, (va_recv hG.1 hP (ci := 12) (q0 := 0) rfl rfl), pre9⟩ rfl rfl hlv.1 rfl (lv_room (Nat.le_of_ble_eq_true rfl)) dX12_minutes_33 ⟨Nat.le_of_ble_eq_true rfl, Nat.le_of_ble_eq_true rfl⟩)) hP hD hS hA hG hT [0, 1] rfl (by decide +kernel) (fun r5 u5 H locs hw5 hq9 hS => ?_)
      obtain ⟨rfl, hq5_1, hq5_2, hq5_3, hq5_4⟩ := hw5
      obtain ⟨hP, hD⟩ := pd9 [zI m10 (cy 0) 68 f10, zI m12 (cy 0) 389 f12, zO mm 12 [vI (u5.2.1 1), vR m1, vI tp, vI sz_, vI ap, vI bad, vI bk, vI opn, vI fp, vR m9, vR m10, vR m11, vR m12, vR m13, vR m14, vR m15, vI im, vI nr, vI nl, vR m19, vR m20, vR m21, vI sp_, vR m23, vR m24, vR m25, vR m26, vR m27, vR m28, vI wtc, vI wcl, vI ir, vI ip, vR m33, vI shu, vR m35, vI sfa, vI swr], zI m1 (cy 0) 4 (u5.2.2 0)] hq9
      refine lt_i (y := iI 1) (by rw [show (u5.2.1 0) = 1 by omega]) ?_
      refine iz_eq (tgt := 47) hx hb dX12_minutes_36 (by decide) (by show ((-2147483648) : Int) ≤ 1 ∧ (1 : Int) ≤ 2147483647; decide) (fun c_5 => by exfalso; omega) (fun c_5 => ?_)
      refine lv_aload_n hx hb dX12_minutes_39 rfl (lv_at hlv 0 rfl) ?_
      refine lv_iconst (v := iI 2) hx hb dX12_minutes_40 (by decide) ?_
      refine cjr_i [false, false, false, false] (fun pre9 => (va_runV (As := [vI 2]) (rest := []) ⟨hx, hb, hml, hown, hts⟩ (m_isNow l hl D cy sa mm m1 m9 m10 m11 m12 m13 m14 m15 m19 m20 m21 m23 m24 m25 m26 m27 m28 m33 m35 (u5.2.1 1) tp sz_ ap bad bk opn fp im nr nl sp_ wtc wcl ir ip shu sfa swr (u5.2.2 0) f10 f12 2 H.size (by first | exact hq5_1 | omega) (by first | exact hr_tp | omega) (by first | exact hr_sz_ | omega) (by first | exact hr_ap | omega) (by first | exact hr_bad | omega) (by first | exact hr_bk | omega) (by first | exact hr_opn | omega) (by first | exact hr_fp | omega) (by first | exact hr_im | omega) (by first | exact hr_nr | omega) (by first | exact hr_nl | omega) (by first | exact hr_sp_ | omega) (by first | exact hr_wtc | omega) (by first | exact hr_wcl | omega) (by first | exact hr_ir | omega) (by first | exact hr_ip | omega) (by first | exact hr_shu | omega) (by first | exact hr_sfa | omega) (by first | exact hr_swr | omega) (by show (1 : Int) ≤ 2 ∧ (2 : Int) ≤ 4; decide) hf10 (hf12.1)) (cwV 1 hts gg_3 rfl rfl rfl (by decide +kernel) ⟨Nat.le_of_ble_eq_true rfl, Nat.le_of_ble_eq_true rfl⟩) ⟨pcW.blind, (va_recv hG.1 hP (ci := 12) (q0 := 2) rfl rfl), pre9⟩ rfl rfl hlv.1 rfl (lv_room (Nat.le_of_ble_eq_true rfl)) dX12_minutes_41 ⟨Nat.le_of_ble_eq_true rfl, Nat.le_of_ble_eq_true rfl⟩)) hP hD hS hA hG hT [2, 3, 0, 1] rfl (by decide +kernel) (fun r6 u6 H locs hw6 hq9 hS => ?_)
      obtain ⟨rfl, hq6_1, hq6_2, hq6_3, hq6_4, hq6_5⟩ := hw6
      obtain ⟨hP, hD⟩ := pd9 [zO mm 12 [vI (u6.2.1 1), vR m1, vI tp, vI sz_, vI ap, vI bad, vI bk, vI opn, vI fp, vR m9, vR m10, vR m11, vR m12, vR m13, vR m14, vR m15, vI im, vI nr, vI nl, vR m19, vR m20, vR m21, vI sp_, vR m23, vR m24, vR m25, vR m26, vR m27, vR m28, vI wtc, vI wcl, vI ir, vI ip, vR m33, vI shu, vR m35, vI sfa, vI swr], zI m1 (cy 0) 4 (u6.2.2 0), zI m10 (cy 0) 68 f10, zI m12 (cy 0) 389 f12] hq9
      refine iz_ne (tgt := 49) hx hb dX12_minutes_44 (by decide) (by first | exact rgw hq6_2 (by decide) (by decide) | omega) (fun c_6 => ?_) (fun c_6 => ?_)
      · refine lv_iconst (v := iI 0) hx hb dX12_minutes_49 (by decide) ?_
        refine lv_istore_n (lv' := [(3, vI 0), (0, vR mm), (1, vI n), (2, vI k)]) hx hb dX12_minutes_50 rfl hlv (by decide) rfl (fun ls hlv => ?_)
        refine (?_ : ∀ (fu : Nat) (q3 : Int) (wg : Nat → Int32) (H : Heap) (locs : List Loc) (ls : Array Slot), 60 - q3 < (fu : Int) → (0 ≤ q3 ∧ q3 ≤ 60) → SQ qs 8 wg → va_P D vwCl [zO mm 12 [vI (u6.2.1 1), vR m1, vI tp, vI sz_, vI ap, vI bad, vI bk, vI opn, vI fp, vR m9, vR m10, vR m11, vR m12, vR m13, vR m14, vR m15, vI im, vI nr, vI nl, vR m19, vR m20, vR m21, vI sp_, vR m23, vR m24, vR m25, vR m26, vR m27, vR m28, vI wtc, vI wcl, vI ir, vI ip, vR m33, vI shu, vR m35, vI sfa, vI swr], zI m1 (cy 0) 4 (u6.2.2 0), zI m10 (cy 0) 68 f10, zI m12 (cy 0) 389 wg] H → va_D A [zO mm 12 [vI (u6.2.1 1), vR m1, vI tp, vI sz_, vI ap, vI bad, vI bk, vI opn, vI fp, vR m9, vR m10, vR m11, vR m12, vR m13, vR m14, vR m15, vI im, vI nr, vI nl, vR m19, vR m20, vR m21, vI sp_, vR m23, vR m24, vR m25, vR m26, vR m27, vR m28, vI wtc, vI wcl, vI ir, vI ip, vR m33, vI shu, vR m35, vI sfa, vI swr], zI m1 (cy 0) 4 (u6.2.2 0), zI m10 (cy 0) 68 f10, zI m12 (cy 0) 389 wg] → va_S A s.heap H locs → lv_has ls 4 [(3, vI q3), (0, vR mm), (1, vI n), (2, vI k)] → W p l e _ s m _ below meth c H locs _ _ _ (F0 m 51 ls [])) (((60 - 0) + 1 : Int)).toNat 0 f12 _ _ _ (by omega) (by show (0 : Int) ≤ 0 ∧ (0 : Int) ≤ 60; decide) hf12 hP hD hS hlv
        clear hP hD hS hlv
        intro fu
        induction fu with
        | zero => intro q3 wg H locs ls hm51 hl51_0 hiwg hP hD hS hlv; omega
        | succ fu ih51 =>
          intro q3 wg H locs ls hm51 hl51_0 hiwg hP hD hS hlv
          refine lv_iload_n hx hb dX12_minutes_51 rfl (lv_at hlv 0 rfl) ?_
          refine lv_iload_n hx hb dX12_minutes_52 rfl (lv_at hlv 2 rfl) ?_
          refine ir_ge (tgt := 81) hx hb dX12_minutes_53 (by decide) (by first | exact rgw hl51_0 (by decide) (by decide) | omega) (by first | exact hr_n | omega) (fun c_7 => ?_) (fun c_7 => ?_)
          · refine lv_iload_n hx hb dX12_minutes_81 rfl (lv_at hlv 0 rfl) ?_
            refine W.widen (k := 0) (n := 0) (Nat.le_of_ble_eq_true rfl) (Nat.le_of_ble_eq_true rfl) ?_
            exact W.iret (v := iI q3) hx hb hr (fun t ht hW => ⟨⟨iI q3, ((fun k => ([] : List Nat).getD k 0), (fun k => ([q3, (u6.2.1 1)] : List Int).getD k 0), (fun k => ([(u6.2.2 0), wg] : List (Nat → Int32)).getD k (fun _ => 0))), rfl, ⟨rfl, (by show ((-2147483648) ≤ (u6.2.1 1) ∧ (u6.2.1 1) ≤ 2147483647); first | exact hq6_1 | omega), (by show ((-2147483648) ≤ q3 ∧ q3 ≤ 2147483647); first | exact rgw hl51_0 (by decide) (by decide) | omega), hq6_4, hiwg⟩, at9 ht hP hD [0, 1, 2, 3] (by decide +kernel) rfl⟩, hS.F ht⟩) hS.2.2 dX12_minutes_82
          · refine lv_aload_n hx hb dX12_minutes_56 rfl (lv_at hlv 1 rfl) ?_
            refine va_get (D := D) (ci := 12) (v := vR m12) (C := RX12) (T := TX12) (N := 38) hx hb hts hi12 hown hG.1 hP 0 rfl rfl 12 (by decide) lf29 (fun _ h9 => h9) rfl dX12_minutes_57 ?_
            refine lv_sipush (v := iI 388) hx hb dX12_minutes_60 (by decide) ?_
            refine va_iald hx hb hG.1 hP 3 0 rfl rfl (iI_in (by omega) (by decide)) dX12_minutes_63 ?_
            refine lt_nz (i := 388) (by omega) (fun z_8 hz_8 lz_8 uz_8 => ?_)
            have hz_8 : z_8 = nz wg 388 := hz_8
            have hbz_8_6 := (hiwg.1).2.2.2.2.2.2
            refine lv_sipush (v := iI 600) hx hb dX12_minutes_64 (by decide) ?_
            refine ir_ge (tgt := 81) hx hb dX12_minutes_67 (by decide) (by omega) (by show ((-2147483648) : Int) ≤ 600 ∧ (600 : Int) ≤ 2147483647; decide) (fun c_9 => ?_) (fun c_9 => ?_)
            · refine lv_iload_n hx hb dX12_minutes_81 rfl (lv_at hlv 0 rfl) ?_
              refine W.widen (k := 0) (n := 0) (Nat.le_of_ble_eq_true rfl) (Nat.le_of_ble_eq_true rfl) ?_
              exact W.iret (v := iI q3) hx hb hr (fun t ht hW => ⟨⟨iI q3, ((fun k => ([] : List Nat).getD k 0), (fun k => ([q3, (u6.2.1 1)] : List Int).getD k 0), (fun k => ([(u6.2.2 0), wg] : List (Nat → Int32)).getD k (fun _ => 0))), rfl, ⟨rfl, (by show ((-2147483648) ≤ (u6.2.1 1) ∧ (u6.2.1 1) ≤ 2147483647); first | exact hq6_1 | omega), (by show ((-2147483648) ≤ q3 ∧ q3 ≤ 2147483647); first | exact rgw hl51_0 (by decide) (by decide) | omega), hq6_4, hiwg⟩, at9 ht hP hD [0, 1, 2, 3] (by decide +kernel) rfl⟩, hS.F ht⟩) hS.2.2 dX12_minutes_82
            · refine lv_aload_n hx hb dX12_minutes_70 rfl (lv_at hlv 1 rfl) ?_
              refine lv_iload_n hx hb dX12_minutes_71 rfl (lv_at hlv 3 rfl) ?_
              refine cjr_v [false, true, false, false] (fun pre9 => (va_runV (As := [vI k]) (rest := []) ⟨hx, hb, hml, hown, hts⟩ (m_minute l hl D cy sa mm m1 m9 m10 m11 m12 m13 m14 m15 m19 m20 m21 m23 m24 m25 m26 m27 m28 m33 m35 (u6.2.1 1) tp sz_ ap bad bk opn fp im nr nl sp_ wtc wcl ir ip shu sfa swr f10 wg k qs 8 H.size (by first | exact hq6_1 | omega) (by first | exact hr_tp | omega) (by first | exact hr_sz_ | omega) (by first | exact hr_ap | omega) (by first | exact hr_bad | omega) (by first | exact hr_bk | omega) (by first | exact hr_opn | omega) (by first | exact hr_fp | omega) (by first | exact hr_im | omega) (by first | exact hr_nr | omega) (by first | exact hr_nl | omega) (by first | exact hr_sp_ | omega) (by first | exact hr_wtc | omega) (by first | exact hr_wcl | omega) (by first | exact hr_ir | omega) (by first | exact hr_ip | omega) (by first | exact hr_shu | omega) (by first | exact hr_sfa | omega) (by first | exact hr_swr | omega) (by first | exact hr_k | omega) (by show (8 : Int) ≤ 8 ∧ (8 : Int) ≤ 9; decide) (by omega) hq6_4 hiwg) (cwV 1 hts gg_4 rfl rfl rfl (by decide +kernel) ⟨Nat.le_of_ble_eq_true rfl, Nat.le_of_ble_eq_true rfl⟩) ⟨pcW.blind, (va_recv hG.1 hP (ci := 12) (q0 := 0) rfl rfl), pre9⟩ rfl rfl hlv.1 rfl (lv_room (Nat.le_of_ble_eq_true rfl)) dX12_minutes_72 ⟨Nat.le_of_ble_eq_true rfl, Nat.le_of_ble_eq_true rfl⟩)) hP hD hS hA hG hT [0, 2, 3] rfl (by decide +kernel) (fun u7 H locs hw7 hq9 hS => ?_)
              obtain ⟨hq7_0, hq7_1, hq7_2⟩ := hw7
              obtain ⟨hP, hD⟩ := pd9 [zI m1 (cy 0) 4 (u6.2.2 0), zO mm 12 [vI (u6.2.1 1), vR m1, vI tp, vI sz_, vI ap, vI bad, vI bk, vI opn, vI fp, vR m9, vR m10, vR m11, vR m12, vR m13, vR m14, vR m15, vI im, vI nr, vI nl, vR m19, vR m20, vR m21, vI sp_, vR m23, vR m24, vR m25, vR m26, vR m27, vR m28, vI wtc, vI wcl, vI ir, vI ip, vR m33, vI shu, vR m35, vI sfa, vI swr], zI m10 (cy 0) 68 f10, zI m12 (cy 0) 389 (u7.2.2 0)] hq9
              obtain ⟨z_10, hz_10⟩ : ∃ z : Int, z = q3 + 1 := ⟨_, rfl⟩
              refine lv_iinc (v := iI z_10) (lv' := [(3, vI z_10), (0, vR mm), (1, vI n), (2, vI k)]) hx hb dX12_minutes_75 hlv (k := 0) rfl (by rw [hz_10]; exact (Int32.ofInt_add _ _).symm) (by decide) rfl (fun ls hlv => ?_)
              refine lv_goto (tgt := 51) hx hb dX12_minutes_78 (by decide) ?_
              exact ih51 z_10 (u7.2.2 0) H locs ls (by omega) (by omega) hq7_2 (hP.sub [1, 0, 2, 3] rfl) (hD.sub [1, 0, 2, 3] (by decide) rfl) hS (lv_sub hlv [0, 1, 2, 3] rfl)
      · refine lv_iconst (v := iI 0) hx hb dX12_minutes_47 (by decide) ?_
        refine W.widen (k := 0) (n := 0) (Nat.le_of_ble_eq_true rfl) (Nat.le_of_ble_eq_true rfl) ?_
        exact W.iret (v := iI 0) hx hb hr (fun t ht hW => ⟨⟨iI 0, ((fun k => ([] : List Nat).getD k 0), (fun k => ([0, (u6.2.1 1)] : List Int).getD k 0), (fun k => ([(u6.2.2 0), f12] : List (Nat → Int32)).getD k (fun _ => 0))), rfl, ⟨rfl, (by show ((-2147483648) ≤ (u6.2.1 1) ∧ (u6.2.1 1) ≤ 2147483647); first | exact hq6_1 | omega), (by show ((-2147483648) ≤ 0 ∧ 0 ≤ 2147483647); show ((-2147483648) : Int) ≤ 0 ∧ (0 : Int) ≤ 2147483647; decide), hq6_4, hf12⟩, at9 ht hP hD [0, 1, 2, 3] (by decide +kernel) rfl⟩, hS.F ht⟩) hS.2.2 dX12_minutes_48
def vs_m_showers : List Cond := .code yX12_showers cX12_showers 5 (some .int) :: (([.fieldLink RX12 41 "KerbSplashModel" "falls" "[I", .fieldLink RX12 47 "KerbSplashModel" "rainTimes" "[I", .fieldLink RX12 29 "KerbSplashModel" "s" "[I", .fieldLink RX12 44 "KerbSplashModel" "rainMany" "[I", .fieldLink RX12 318 "KerbSplashModel" "watch" "I", .fieldLink RX12 321 "KerbSplashModel" "watchCell" "I"] : List Cond) ++ ((wsX120) ++ ((wsV RX12 315 RX12 yX12_minute vs_m_minute) ++ ([]))))
theorem gd_m_showers : vs_m_showers.all goodWord = true := gd_C (by decide +kernel) (gd_A (by decide +kernel) (gd_A (by decide +kernel) (gd_A (gd_V gd_m_minute (by decide +kernel)) rfl)))
set_option maxHeartbeats 4000000 in
set_option maxRecDepth 100000 in
theorem m_showers (l : Launch) (hl : l.stackTraces = false) (D : va_G) (cy : Nat → ClassId) (sa : Nat → Nat) (mm m1 m9 m10 m11 m12 m13 m14 m15 m19 m20 m21 m23 m24 m25 m26 m27 m28 m33 m35 : Nat) (th tp sz_ ap bad bk opn fp im nr nl sp_ wtc wcl ir ip shu sfa swr : Int) (f10 f12 f19 f20 f21 : Nat → Int32) (n : Int) (qs : Nat → Int) (sz : Nat) (hr_th : (-2147483648) ≤ th ∧ th ≤ 2147483647) (hr_tp : 0 ≤ tp ∧ tp ≤ 600) (hr_sz_ : 0 ≤ sz_ ∧ sz_ ≤ 600) (hr_ap : 0 ≤ ap ∧ ap ≤ 602) (hr_bad : (-1) ≤ bad ∧ bad ≤ 602) (hr_bk : 0 ≤ bk ∧ bk ≤ 4) (hr_opn : 0 ≤ opn ∧ opn ≤ 7) (hr_fp : (-2147483648) ≤ fp ∧ fp ≤ 2147483647) (hr_im : 0 ≤ im ∧ im ≤ 3) (hr_nr : 0 ≤ nr ∧ nr ≤ 4) (hr_nl : 0 ≤ nl ∧ nl ≤ 4) (hr_sp_ : 0 ≤ sp_ ∧ sp_ ≤ 602) (hr_wtc : (-2147483648) ≤ wtc ∧ wtc ≤ 2147483647) (hr_wcl : 0 ≤ wcl ∧ wcl ≤ 95) (hr_ir : 0 ≤ ir ∧ ir ≤ 5) (hr_ip : (-2147483648) ≤ ip ∧ ip ≤ 2147483647) (hr_shu : (-2147483648) ≤ shu ∧ shu ≤ 2147483647) (hr_sfa : (-2147483648) ≤ sfa ∧ sfa ≤ 2147483647) (hr_swr : (-2147483648) ≤ swr ∧ swr ≤ 2147483647) (hr_n : 0 ≤ n ∧ n ≤ 3) (hf10 : BI f10) (hf12 : SQ qs 8 f12) (hf19 : inv_ 4 0 8 f19) : mI9 l yX12_showers vs_m_showers ({ frames := 4, cells := 0, slots := 0, locals := 95 }) D cy sa sz [vR mm, vI n] [zO mm 12 [vI th, vR m1, vI tp, vI sz_, vI ap, vI bad, vI bk, vI opn, vI fp, vR m9, vR m10, vR m11, vR m12, vR m13, vR m14, vR m15, vI im, vI nr, vI nl, vR m19, vR m20, vR m21, vI sp_, vR m23, vR m24, vR m25, vR m26, vR m27, vR m28, vI wtc, vI wcl, vI ir, vI ip, vR m33, vI shu, vR m35, vI sfa, vI swr], zI m10 (cy 0) 68 f10, zI m12 (cy 0) 389 f12, zI m19 (cy 0) 4 f19, zI m20 (cy 0) 32 f20, zI m21 (cy 0) 32 f21] (fun (r : Int32) (u : SV) => r = iI (u.2.1 0) ∧ ((-2147483648) ≤ u.2.1 0 ∧ u.2.1 0 ≤ 2147483647) ∧ BI f10 ∧ SQ qs 8 (u.2.2 0) ∧ inv_ 4 0 8 f19) (fun u : SV => [zO mm 12 [vI th, vR m1, vI tp, vI sz_, vI ap, vI bad, vI bk, vI opn, vI fp, vR m9, vR m10, vR m11, vR m12, vR m13, vR m14, vR m15, vI im, vI nr, vI nl, vR m19, vR m20, vR m21, vI sp_, vR m23, vR m24, vR m25, vR m26, vR m27, vR m28, vI wtc, vI wcl, vI ir, vI ip, vR m33, vI shu, vR m35, vI sfa, vI swr], zI m10 (cy 0) 68 f10, zI m12 (cy 0) 389 (u.2.2 0), zI m19 (cy 0) 4 f19, zI m20 (cy 0) 32 f20, zI m21 (cy 0) 32 f21]) 0 0 := by
  refine Met.ofW (cc := cX12_showers) (maxL := 5) (ret := (some .int)) (by decide) rfl ?_
  intro p e s m args below meth c s₁ B hml hv
  obtain ⟨rfl, hsz, hP, hG, hD0, hT⟩ := hv
  have hx := B.exec
  have hb := B.bytes
  have hr := B.returns
  have hts := atoms_spec (ws := vs_m_showers) B.pre
  have hown : s.vm.findClass RX12 = some m.cls := findClass_of_methodNamed B.named
  have hlocks := B.notSynchronized
  subst hsz
  have hD := hD0.self (sz := s.heap.size)
  generalize hAe : va_A [zO mm 12 [vI th, vR m1, vI tp, vI sz_, vI ap, vI bad, vI bk, vI opn, vI fp, vR m9, vR m10, vR m11, vR m12, vR m13, vR m14, vR m15, vI im, vI nr, vI nl, vR m19, vR m20, vR m21, vI sp_, vR m23, vR m24, vR m25, vR m26, vR m27, vR m28, vI wtc, vI wcl, vI ir, vI ip, vR m33, vI shu, vR m35, vI sfa, vI swr], zI m10 (cy 0) 68 f10, zI m12 (cy 0) 389 f12, zI m19 (cy 0) 4 f19, zI m20 (cy 0) 32 f20, zI m21 (cy 0) 32 f21] s.heap.size = A at hD hT ⊢
  have hA : ∀ q : Nat, s.heap.size ≤ q → A q := fun q h => by rw [← hAe]; exact Or.inr h
  have hS : va_S A s.heap s.heap [] := va_S.rf
  have hl0 := lv_entry ([vR mm, vI n]) (n := 5) (Nat.le_of_ble_eq_true rfl)
  rw [lg_entry_eq]
  generalize (lg_sl ([vR mm, vI n]) ++ List.replicate (5 - (lg_sl ([vR mm, vI n])).length) Slot.unset).toArray = ls at hl0 ⊢
  have hlv : lv_has ls 5 [(0, vR mm), (1, vI n)] := hl0
  have lf41 := hts (.fieldLink RX12 41 "KerbSplashModel" "falls" "[I") (List.mem_of_getElem? (i := 1) rfl)
  have hi12 : ∀ w ∈ wsX120, w ∈ vs_m_showers := fun w h => List.mem_cons_of_mem _ (List.mem_append_right _ (List.mem_append_left _ h))
  have lf47 := hts (.fieldLink RX12 47 "KerbSplashModel" "rainTimes" "[I") (List.mem_of_getElem? (i := 2) rfl)
  have lf29 := hts (.fieldLink RX12 29 "KerbSplashModel" "s" "[I") (List.mem_of_getElem? (i := 3) rfl)
  have lf44 := hts (.fieldLink RX12 44 "KerbSplashModel" "rainMany" "[I") (List.mem_of_getElem? (i := 4) rfl)
  have gg_1 : GoodIn vs_m_showers (wsV RX12 315 RX12 yX12_minute vs_m_minute) := goodIn_sub (fun w h => List.mem_cons_of_mem _ (List.mem_append_right _ (List.mem_append_right _ (List.mem_append_left _ h)))) (gd_V gd_m_minute (by decide +kernel))
  have lf318 := hts (.fieldLink RX12 318 "KerbSplashModel" "watch" "I") (List.mem_of_getElem? (i := 5) rfl)
  have lf321 := hts (.fieldLink RX12 321 "KerbSplashModel" "watchCell" "I") (List.mem_of_getElem? (i := 6) rfl)
  refine lv_iconst (v := iI 0) hx hb dX12_showers_0 (by decide) ?_
  refine lv_istore_n (lv' := [(2, vI 0), (0, vR mm), (1, vI n)]) hx hb dX12_showers_1 rfl hlv (by decide) rfl (fun ls hlv => ?_)
  refine lv_bipush (v := iI 8) hx hb dX12_showers_2 (by decide) ?_
  refine lv_iload_n hx hb dX12_showers_4 rfl (lv_at hlv 2 rfl) ?_
  refine lv_imul hx hb dX12_showers_5 ?_
  refine lt_e (e0 := 8 * n) (Int32.ofInt_mul _ _).symm (fun z_1 hz_1 => ?_)
  refine lv_istore_n (lv' := [(3, vI z_1), (2, vI 0), (0, vR mm), (1, vI n)]) hx hb dX12_showers_6 rfl hlv (by decide) rfl (fun ls hlv => ?_)
  have h388 := hf12.1.2.2.2.2.2.2
  refine (?_ : ∀ (fu : Nat) (q2 : Int) (q3 : Int) (wg : Nat → Int32) (H : Heap) (locs : List Loc) (ls : Array Slot), 32 - q3 < (fu : Int) → (0 ≤ q2 ∧ q2 ≤ 600) → (0 ≤ q3 ∧ q3 ≤ 32) → (8 * n ≤ q3) → (q3 ≤ 8 * n + 8) → (q2 ≤ nz wg 388) → SQ qs 8 wg → va_P D vwCl [zO mm 12 [vI th, vR m1, vI tp, vI sz_, vI ap, vI bad, vI bk, vI opn, vI fp, vR m9, vR m10, vR m11, vR m12, vR m13, vR m14, vR m15, vI im, vI nr, vI nl, vR m19, vR m20, vR m21, vI sp_, vR m23, vR m24, vR m25, vR m26, vR m27, vR m28, vI wtc, vI wcl, vI ir, vI ip, vR m33, vI shu, vR m35, vI sfa, vI swr], zI m10 (cy 0) 68 f10, zI m12 (cy 0) 389 wg, zI m19 (cy 0) 4 f19, zI m20 (cy 0) 32 f20, zI m21 (cy 0) 32 f21] H → va_D A [zO mm 12 [vI th, vR m1, vI tp, vI sz_, vI ap, vI bad, vI bk, vI opn, vI fp, vR m9, vR m10, vR m11, vR m12, vR m13, vR m14, vR m15, vI im, vI nr, vI nl, vR m19, vR m20, vR m21, vI sp_, vR m23, vR m24, vR m25, vR m26, vR m27, vR m28, vI wtc, vI wcl, vI ir, vI ip, vR m33, vI shu, vR m35, vI sfa, vI swr], zI m10 (cy 0) 68 f10, zI m12 (cy 0) 389 wg, zI m19 (cy 0) 4 f19, zI m20 (cy 0) 32 f20, zI m21 (cy 0) 32 f21] → va_S A s.heap H locs → lv_has ls 5 [(3, vI q3), (2, vI q2), (0, vR mm), (1, vI n)] → W p l e _ s m _ below meth c H locs _ _ _ (F0 m 7 ls [])) (((32 - z_1) + 1 : Int)).toNat 0 z_1 f12 _ _ _ (by omega) (by show (0 : Int) ≤ 0 ∧ (0 : Int) ≤ 600; decide) (by omega) (by omega) (by omega) (by omega) hf12 hP hD hS hlv
  clear hP hD hS hlv
  intro fu
  induction fu with
  | zero => intro q2 q3 wg H locs ls hm7 hl7_0 hl7_1 hl7_2 hl7_3 hl7_4 hiwg hP hD hS hlv; omega
  | succ fu ih7 =>
    intro q2 q3 wg H locs ls hm7 hl7_0 hl7_1 hl7_2 hl7_3 hl7_4 hiwg hP hD hS hlv
    refine lv_iload_n hx hb dX12_showers_7 rfl (lv_at hlv 0 rfl) ?_
    refine lv_bipush (v := iI 8) hx hb dX12_showers_8 (by decide) ?_
    refine lv_iload_n hx hb dX12_showers_10 rfl (lv_at hlv 3 rfl) ?_
    refine lv_imul hx hb dX12_showers_11 ?_
    refine lt_e (e0 := 8 * n) (Int32.ofInt_mul _ _).symm (fun z_2 hz_2 => ?_)
    refine lv_aload_n hx hb dX12_showers_12 rfl (lv_at hlv 2 rfl) ?_
    refine va_get (D := D) (ci := 12) (v := vR m19) (C := RX12) (T := TX12) (N := 38) hx hb hts hi12 hown hG.1 hP 0 rfl rfl 19 (by decide) lf41 (fun _ h9 => h9) rfl dX12_showers_13 ?_
    refine lv_iload_n hx hb dX12_showers_16 rfl (lv_at hlv 3 rfl) ?_
    refine va_iald hx hb hG.1 hP 3 0 rfl rfl (iI_in (by omega) (by decide)) dX12_showers_17 ?_
    obtain ⟨z_3, ez_3, hz_3, lz_3⟩ := inv_rd hf19 (e := n) (by omega) (by decide)
    refine lt_i (y := iI z_3) ez_3 ?_
    refine lv_iadd hx hb dX12_showers_18 ?_
    refine lt_e (e0 := z_2 + z_3) (Int32.ofInt_add _ _).symm (fun z_4 hz_4 => ?_)
    refine ir_ge (tgt := 103) hx hb dX12_showers_19 (by decide) (by first | exact rgw hl7_1 (by decide) (by decide) | omega) (by omega) (fun c_5 => ?_) (fun c_5 => ?_)
    · refine lv_iload_n hx hb dX12_showers_103 rfl (lv_at hlv 1 rfl) ?_
      refine W.widen (k := 0) (n := 0) (Nat.le_of_ble_eq_true rfl) (Nat.le_of_ble_eq_true rfl) ?_
      exact W.iret (v := iI q2) hx hb hr (fun t ht hW => ⟨⟨iI q2, ((fun k => ([] : List Nat).getD k 0), (fun k => ([q2] : List Int).getD k 0), (fun k => ([wg] : List (Nat → Int32)).getD k (fun _ => 0))), rfl, ⟨rfl, (by show ((-2147483648) ≤ q2 ∧ q2 ≤ 2147483647); first | exact rgw hl7_0 (by decide) (by decide) | omega), hf10, hiwg, hf19⟩, at9 ht hP hD [0, 1, 2, 3, 4, 5] (by decide +kernel) rfl⟩, hS.F ht⟩) hS.2.2 dX12_showers_104
    · refine lv_iconst (v := iI 0) hx hb dX12_showers_22 (by decide) ?_
      refine lv_istore (lv' := [(4, vI 0), (3, vI q3), (2, vI q2), (0, vR mm), (1, vI n)]) hx hb dX12_showers_23 hlv (by decide) rfl (fun ls hlv => ?_)
      have h388b := hiwg.1.2.2.2.2.2.2
      refine (?_ : ∀ (fu : Nat) (r2 : Int) (r4 : Int) (wh : Nat → Int32) (H : Heap) (locs : List Loc) (ls : Array Slot), 600 - nz wh 388 < (fu : Int) → (0 ≤ r2 ∧ r2 ≤ 600) → (0 ≤ r4 ∧ r4 ≤ 2147483647) → (r2 ≤ nz wh 388) → (nz wh 388 ≤ 600) → SQ qs 8 wh → va_P D vwCl [zO mm 12 [vI th, vR m1, vI tp, vI sz_, vI ap, vI bad, vI bk, vI opn, vI fp, vR m9, vR m10, vR m11, vR m12, vR m13, vR m14, vR m15, vI im, vI nr, vI nl, vR m19, vR m20, vR m21, vI sp_, vR m23, vR m24, vR m25, vR m26, vR m27, vR m28, vI wtc, vI wcl, vI ir, vI ip, vR m33, vI shu, vR m35, vI sfa, vI swr], zI m10 (cy 0) 68 f10, zI m12 (cy 0) 389 wh, zI m19 (cy 0) 4 f19, zI m20 (cy 0) 32 f20, zI m21 (cy 0) 32 f21] H → va_D A [zO mm 12 [vI th, vR m1, vI tp, vI sz_, vI ap, vI bad, vI bk, vI opn, vI fp, vR m9, vR m10, vR m11, vR m12, vR m13, vR m14, vR m15, vI im, vI nr, vI nl, vR m19, vR m20, vR m21, vI sp_, vR m23, vR m24, vR m25, vR m26, vR m27, vR m28, vI wtc, vI wcl, vI ir, vI ip, vR m33, vI shu, vR m35, vI sfa, vI swr], zI m10 (cy 0) 68 f10, zI m12 (cy 0) 389 wh, zI m19 (cy 0) 4 f19, zI m20 (cy 0) 32 f20, zI m21 (cy 0) 32 f21] → va_S A s.heap H locs → lv_has ls 5 [(4, vI r4), (3, vI q3), (2, vI r2), (0, vR mm), (1, vI n)] → W p l e _ s m _ below meth c H locs _ _ _ (F0 m 25 ls [])) (((600 - nz wg 388) + 1 : Int)).toNat q2 0 wg _ _ _ (by omega) (by first | exact hl7_0 | omega) (by show (0 : Int) ≤ 0 ∧ (0 : Int) ≤ 2147483647; decide) (by omega) (by omega) hiwg hP hD hS hlv
      clear hP hD hS hlv
      intro fu
      induction fu with
      | zero => intro r2 r4 wh H locs ls hm25 hl25_0 hl25_1 hl25_2 hl25_3 hiwh hP hD hS hlv; omega
      | succ fu ih25 =>
        intro r2 r4 wh H locs ls hm25 hl25_0 hl25_1 hl25_2 hl25_3 hiwh hP hD hS hlv
        refine lv_iload hx hb dX12_showers_25 (lv_at hlv 0 rfl) ?_
        refine lv_aload_n hx hb dX12_showers_27 rfl (lv_at hlv 3 rfl) ?_
        refine va_get (D := D) (ci := 12) (v := vR m21) (C := RX12) (T := TX12) (N := 38) hx hb hts hi12 hown hG.1 hP 0 rfl rfl 21 (by decide) lf47 (fun _ h9 => h9) rfl dX12_showers_28 ?_
        refine lv_iload_n hx hb dX12_showers_31 rfl (lv_at hlv 1 rfl) ?_
        refine va_iald hx hb hG.1 hP 5 0 rfl rfl (iI_in (by omega) (by decide)) dX12_showers_32 ?_
        refine lt_z (fun z_6 ez_6 lz_6 hz_6 => ?_)
        refine ir_ge (tgt := 97) hx hb dX12_showers_33 (by decide) (by first | exact rgw hl25_1 (by decide) (by decide) | omega) (by omega) (fun c_7 => ?_) (fun c_7 => ?_)
        · obtain ⟨z_8, hz_8⟩ : ∃ z : Int, z = q3 + 1 := ⟨_, rfl⟩
          refine lv_iinc (v := iI z_8) (lv' := [(3, vI z_8), (4, vI r4), (2, vI r2), (0, vR mm), (1, vI n)]) hx hb dX12_showers_97 hlv (k := 1) rfl (by rw [hz_8]; exact (Int32.ofInt_add _ _).symm) (by decide) rfl (fun ls hlv => ?_)
          refine lv_goto (tgt := 7) hx hb dX12_showers_100 (by decide) ?_
          exact ih7 r2 z_8 wh H locs ls (by omega) (by first | exact hl25_0 | omega) (by omega) (by omega) (by omega) (by omega) hiwh (hP.sub [0, 1, 2, 3, 4, 5] rfl) (hD.sub [0, 1, 2, 3, 4, 5] (by decide) rfl) hS (lv_sub hlv [0, 2, 3, 4] rfl)
        · refine lv_aload_n hx hb dX12_showers_36 rfl (lv_at hlv 3 rfl) ?_
          refine va_get (D := D) (ci := 12) (v := vR m12) (C := RX12) (T := TX12) (N := 38) hx hb hts hi12 hown hG.1 hP 0 rfl rfl 12 (by decide) lf29 (fun _ h9 => h9) rfl dX12_showers_37 ?_
          refine lv_sipush (v := iI 388) hx hb dX12_showers_40 (by decide) ?_
          refine va_iald hx hb hG.1 hP 2 0 rfl rfl (iI_in (by omega) (by decide)) dX12_showers_43 ?_
          refine lt_nz (i := 388) (by omega) (fun z_9 hz_9 lz_9 uz_9 => ?_)
          have hz_9 : z_9 = nz wh 388 := hz_9
          have hbz_9_6 := (hiwh.1).2.2.2.2.2.2
          refine lv_sipush (v := iI 600) hx hb dX12_showers_44 (by decide) ?_
          refine ir_ge (tgt := 97) hx hb dX12_showers_47 (by decide) (by omega) (by show ((-2147483648) : Int) ≤ 600 ∧ (600 : Int) ≤ 2147483647; decide) (fun c_10 => ?_) (fun c_10 => ?_)
          · obtain ⟨z_11, hz_11⟩ : ∃ z : Int, z = q3 + 1 := ⟨_, rfl⟩
            refine lv_iinc (v := iI z_11) (lv' := [(3, vI z_11), (4, vI r4), (2, vI r2), (0, vR mm), (1, vI n)]) hx hb dX12_showers_97 hlv (k := 1) rfl (by rw [hz_11]; exact (Int32.ofInt_add _ _).symm) (by decide) rfl (fun ls hlv => ?_)
            refine lv_goto (tgt := 7) hx hb dX12_showers_100 (by decide) ?_
            exact ih7 r2 z_11 wh H locs ls (by omega) (by first | exact hl25_0 | omega) (by omega) (by omega) (by omega) (by omega) hiwh (hP.sub [0, 1, 2, 3, 4, 5] rfl) (hD.sub [0, 1, 2, 3, 4, 5] (by decide) rfl) hS (lv_sub hlv [0, 2, 3, 4] rfl)
          · refine lv_aload_n hx hb dX12_showers_50 rfl (lv_at hlv 3 rfl) ?_
            refine lv_aload_n hx hb dX12_showers_51 rfl (lv_at hlv 3 rfl) ?_
            refine va_get (D := D) (ci := 12) (v := vR m20) (C := RX12) (T := TX12) (N := 38) hx hb hts hi12 hown hG.1 hP 0 rfl rfl 20 (by decide) lf44 (fun _ h9 => h9) rfl dX12_showers_52 ?_
            refine lv_iload_n hx hb dX12_showers_55 rfl (lv_at hlv 1 rfl) ?_
            refine va_iald hx hb hG.1 hP 4 0 rfl rfl (iI_in (by omega) (by decide)) dX12_showers_56 ?_
            refine lt_z (fun z_12 ez_12 lz_12 hz_12 => ?_)
            refine cjr_v [false, false, false, true, true, true] (fun pre9 => (va_runV (As := [vI z_12]) (rest := []) ⟨hx, hb, hml, hown, hts⟩ (m_minute l hl D cy sa mm m1 m9 m10 m11 m12 m13 m14 m15 m19 m20 m21 m23 m24 m25 m26 m27 m28 m33 m35 th tp sz_ ap bad bk opn fp im nr nl sp_ wtc wcl ir ip shu sfa swr f10 wh z_12 qs 8 H.size (by first | exact hr_th | omega) (by first | exact hr_tp | omega) (by first | exact hr_sz_ | omega) (by first | exact hr_ap | omega) (by first | exact hr_bad | omega) (by first | exact hr_bk | omega) (by first | exact hr_opn | omega) (by first | exact hr_fp | omega) (by first | exact hr_im | omega) (by first | exact hr_nr | omega) (by first | exact hr_nl | omega) (by first | exact hr_sp_ | omega) (by first | exact hr_wtc | omega) (by first | exact hr_wcl | omega) (by first | exact hr_ir | omega) (by first | exact hr_ip | omega) (by first | exact hr_shu | omega) (by first | exact hr_sfa | omega) (by first | exact hr_swr | omega) (by omega) (by show (8 : Int) ≤ 8 ∧ (8 : Int) ≤ 9; decide) (by omega) hf10 hiwh) (cwV 1 hts gg_1 rfl rfl rfl (by decide +kernel) ⟨Nat.le_of_ble_eq_true rfl, Nat.le_of_ble_eq_true rfl⟩) ⟨pcW.blind, (va_recv hG.1 hP (ci := 12) (q0 := 0) rfl rfl), pre9⟩ rfl rfl hlv.1 rfl (lv_room (Nat.le_of_ble_eq_true rfl)) dX12_showers_57 ⟨Nat.le_of_ble_eq_true rfl, Nat.le_of_ble_eq_true rfl⟩)) hP hD hS hA hG hT [0, 1, 2] rfl (by decide +kernel) (fun u1 H locs hw1 hq9 hS => ?_)
            obtain ⟨hq1_0, hq1_1, hq1_2⟩ := hw1
            obtain ⟨hP, hD⟩ := pd9 [zI m19 (cy 0) 4 f19, zI m20 (cy 0) 32 f20, zI m21 (cy 0) 32 f21, zO mm 12 [vI th, vR m1, vI tp, vI sz_, vI ap, vI bad, vI bk, vI opn, vI fp, vR m9, vR m10, vR m11, vR m12, vR m13, vR m14, vR m15, vI im, vI nr, vI nl, vR m19, vR m20, vR m21, vI sp_, vR m23, vR m24, vR m25, vR m26, vR m27, vR m28, vI wtc, vI wcl, vI ir, vI ip, vR m33, vI shu, vR m35, vI sfa, vI swr], zI m10 (cy 0) 68 f10, zI m12 (cy 0) 389 (u1.2.2 0)] hq9
            obtain ⟨z_13, hz_13⟩ : ∃ z : Int, z = r2 + 1 := ⟨_, rfl⟩
            refine lv_iinc (v := iI z_13) (lv' := [(2, vI z_13), (4, vI r4), (3, vI q3), (0, vR mm), (1, vI n)]) hx hb dX12_showers_60 hlv (k := 2) rfl (by rw [hz_13]; exact (Int32.ofInt_add _ _).symm) (by decide) rfl (fun ls hlv => ?_)
            refine lv_aload_n hx hb dX12_showers_63 rfl (lv_at hlv 3 rfl) ?_
            refine va_get (D := D) (ci := 12) (v := vI wtc) (C := RX12) (T := TX12) (N := 38) hx hb hts hi12 hown hG.1 hP 3 rfl rfl 29 (by decide) lf318 (fun _ h9 => h9) rfl dX12_showers_64 ?_
            refine iz_le (tgt := 91) hx hb dX12_showers_67 (by decide) (by first | exact hr_wtc | omega) (fun c_14 => ?_) (fun c_14 => ?_)
            · obtain ⟨z_15, hz_15⟩ : ∃ z : Int, z = r4 + 1 := ⟨_, rfl⟩
              refine lv_iinc (v := iI z_15) (lv' := [(4, vI z_15), (2, vI z_13), (3, vI q3), (0, vR mm), (1, vI n)]) hx hb dX12_showers_91 hlv (k := 1) rfl (by rw [hz_15]; exact (Int32.ofInt_add _ _).symm) (by decide) rfl (fun ls hlv => ?_)
              refine lv_goto (tgt := 25) hx hb dX12_showers_94 (by decide) ?_
              exact ih25 z_13 z_15 (u1.2.2 0) H locs ls (by omega) (by omega) (by omega) (by omega) (by omega) hq1_2 (hP.sub [3, 4, 5, 0, 1, 2] rfl) (hD.sub [3, 4, 5, 0, 1, 2] (by decide) rfl) hS (lv_sub hlv [0, 2, 1, 3, 4] rfl)
            · refine lv_aload_n hx hb dX12_showers_70 rfl (lv_at hlv 3 rfl) ?_
              refine va_get (D := D) (ci := 12) (v := vR m12) (C := RX12) (T := TX12) (N := 38) hx hb hts hi12 hown hG.1 hP 3 rfl rfl 12 (by decide) lf29 (fun _ h9 => h9) rfl dX12_showers_71 ?_
              refine lv_bipush (v := iI 96) hx hb dX12_showers_74 (by decide) ?_
              refine lv_aload_n hx hb dX12_showers_76 rfl (lv_at hlv 3 rfl) ?_
              refine va_get (D := D) (ci := 12) (v := vI wcl) (C := RX12) (T := TX12) (N := 38) hx hb hts hi12 hown hG.1 hP 3 rfl rfl 30 (by decide) lf321 (fun _ h9 => h9) rfl dX12_showers_77 ?_
              refine lv_iadd hx hb dX12_showers_80 ?_
              refine lt_e (e0 := 96 + wcl) (Int32.ofInt_add _ _).symm (fun z_16 hz_16 => ?_)
              refine va_iald hx hb hG.1 hP 5 0 rfl rfl (iI_in (by omega) (by decide)) dX12_showers_81 ?_
              refine lt_nz (i := z_16) (by omega) (fun z_17 hz_17 lz_17 uz_17 => ?_)
              refine lv_aload_n hx hb dX12_showers_82 rfl (lv_at hlv 3 rfl) ?_
              refine va_get (D := D) (ci := 12) (v := vI wtc) (C := RX12) (T := TX12) (N := 38) hx hb hts hi12 hown hG.1 hP 3 rfl rfl 29 (by decide) lf318 (fun _ h9 => h9) rfl dX12_showers_83 ?_
              refine ir_lt (tgt := 91) hx hb dX12_showers_86 (by decide) (by omega) (by first | exact hr_wtc | omega) (fun c_18 => ?_) (fun c_18 => ?_)
              · obtain ⟨z_19, hz_19⟩ : ∃ z : Int, z = r4 + 1 := ⟨_, rfl⟩
                refine lv_iinc (v := iI z_19) (lv' := [(4, vI z_19), (2, vI z_13), (3, vI q3), (0, vR mm), (1, vI n)]) hx hb dX12_showers_91 hlv (k := 1) rfl (by rw [hz_19]; exact (Int32.ofInt_add _ _).symm) (by decide) rfl (fun ls hlv => ?_)
                refine lv_goto (tgt := 25) hx hb dX12_showers_94 (by decide) ?_
                exact ih25 z_13 z_19 (u1.2.2 0) H locs ls (by omega) (by omega) (by omega) (by omega) (by omega) hq1_2 (hP.sub [3, 4, 5, 0, 1, 2] rfl) (hD.sub [3, 4, 5, 0, 1, 2] (by decide) rfl) hS (lv_sub hlv [0, 2, 1, 3, 4] rfl)
              · refine lv_iload_n hx hb dX12_showers_89 rfl (lv_at hlv 0 rfl) ?_
                refine W.widen (k := 0) (n := 0) (Nat.le_of_ble_eq_true rfl) (Nat.le_of_ble_eq_true rfl) ?_
                exact W.iret (v := iI z_13) hx hb hr (fun t ht hW => ⟨⟨iI z_13, ((fun k => ([] : List Nat).getD k 0), (fun k => ([z_13] : List Int).getD k 0), (fun k => ([(u1.2.2 0)] : List (Nat → Int32)).getD k (fun _ => 0))), rfl, ⟨rfl, (by show ((-2147483648) ≤ z_13 ∧ z_13 ≤ 2147483647); omega), hq1_1, hq1_2, hf19⟩, at9 ht hP hD [3, 4, 5, 0, 1, 2] (by decide +kernel) rfl⟩, hS.F ht⟩) hS.2.2 dX12_showers_90
def vs_m_shower : List Cond := .code yX12_shower cX12_shower 2 (some .int) :: (([.fieldLink RX12 1 "KerbSplashModel" "thrown" "I"] : List Cond) ++ ((wsX120) ++ ((wsV RX12 324 RX12 yX12_isRain vs_m_isRain) ++ ((wsV RX12 312 RX12 yX12_isNow vs_m_isNow) ++ ((wsV RX12 328 RX12 yX12_showers vs_m_showers) ++ ([]))))))
set_option maxHeartbeats 4000000 in
set_option maxRecDepth 100000 in
theorem m_shower (l : Launch) (hl : l.stackTraces = false) (D : va_G) (cy : Nat → ClassId) (sa : Nat → Nat) (mm m1 m9 m10 m11 m12 m13 m14 m15 m19 m20 m21 m23 m24 m25 m26 m27 m28 m33 m35 : Nat) (th tp sz_ ap bad bk opn fp im nr nl sp_ wtc wcl ir ip shu sfa swr : Int) (f1 f10 f12 f19 f20 f21 : Nat → Int32) (n : Int) (qs : Nat → Int) (sz : Nat) (hr_th : (-2147483648) ≤ th ∧ th ≤ 2147483647) (hr_tp : 0 ≤ tp ∧ tp ≤ 600) (hr_sz_ : 0 ≤ sz_ ∧ sz_ ≤ 600) (hr_ap : 0 ≤ ap ∧ ap ≤ 602) (hr_bad : (-1) ≤ bad ∧ bad ≤ 602) (hr_bk : 0 ≤ bk ∧ bk ≤ 4) (hr_opn : 0 ≤ opn ∧ opn ≤ 7) (hr_fp : (-2147483648) ≤ fp ∧ fp ≤ 2147483647) (hr_im : 0 ≤ im ∧ im ≤ 3) (hr_nr : 0 ≤ nr ∧ nr ≤ 4) (hr_nl : 0 ≤ nl ∧ nl ≤ 4) (hr_sp_ : 0 ≤ sp_ ∧ sp_ ≤ 602) (hr_wtc : (-2147483648) ≤ wtc ∧ wtc ≤ 2147483647) (hr_wcl : 0 ≤ wcl ∧ wcl ≤ 95) (hr_ir : 0 ≤ ir ∧ ir ≤ 5) (hr_ip : (-2147483648) ≤ ip ∧ ip ≤ 2147483647) (hr_shu : (-2147483648) ≤ shu ∧ shu ≤ 2147483647) (hr_sfa : (-2147483648) ≤ sfa ∧ sfa ≤ 2147483647) (hr_swr : (-2147483648) ≤ swr ∧ swr ≤ 2147483647) (hr_n : (-2147483648) ≤ n ∧ n ≤ 2147483647) (hf10 : BI f10) (hf12 : SQ qs 8 f12) (hf19 : inv_ 4 0 8 f19) : mI9 l yX12_shower vs_m_shower ({ frames := 5, cells := 0, slots := 0, locals := 119 }) D cy sa sz [vR mm, vI n] [zO mm 12 [vI th, vR m1, vI tp, vI sz_, vI ap, vI bad, vI bk, vI opn, vI fp, vR m9, vR m10, vR m11, vR m12, vR m13, vR m14, vR m15, vI im, vI nr, vI nl, vR m19, vR m20, vR m21, vI sp_, vR m23, vR m24, vR m25, vR m26, vR m27, vR m28, vI wtc, vI wcl, vI ir, vI ip, vR m33, vI shu, vR m35, vI sfa, vI swr], zI m1 (cy 0) 4 f1, zI m10 (cy 0) 68 f10, zI m12 (cy 0) 389 f12, zI m19 (cy 0) 4 f19, zI m20 (cy 0) 32 f20, zI m21 (cy 0) 32 f21] (fun (r : Int32) (u : SV) => r = iI (u.2.1 0) ∧ ((-2147483648) ≤ u.2.1 1 ∧ u.2.1 1 ≤ 2147483647) ∧ ((-2147483648) ≤ u.2.1 0 ∧ u.2.1 0 ≤ 2147483647) ∧ BI f10 ∧ SQ qs 8 (u.2.2 1) ∧ inv_ 4 0 8 f19) (fun u : SV => [zO mm 12 [vI (u.2.1 1), vR m1, vI tp, vI sz_, vI ap, vI bad, vI bk, vI opn, vI fp, vR m9, vR m10, vR m11, vR m12, vR m13, vR m14, vR m15, vI im, vI nr, vI nl, vR m19, vR m20, vR m21, vI sp_, vR m23, vR m24, vR m25, vR m26, vR m27, vR m28, vI wtc, vI wcl, vI ir, vI ip, vR m33, vI shu, vR m35, vI sfa, vI swr], zI m1 (cy 0) 4 (u.2.2 0), zI m10 (cy 0) 68 f10, zI m12 (cy 0) 389 (u.2.2 1), zI m19 (cy 0) 4 f19, zI m20 (cy 0) 32 f20, zI m21 (cy 0) 32 f21]) 0 0 := by
  refine Met.ofW (cc := cX12_shower) (maxL := 2) (ret := (some .int)) (by decide) rfl ?_
  intro p e s m args below meth c s₁ B hml hv
  obtain ⟨rfl, hsz, hP, hG, hD0, hT⟩ := hv
  have hx := B.exec
  have hb := B.bytes
  have hr := B.returns
  have hts := atoms_spec (ws := vs_m_shower) B.pre
  have hown : s.vm.findClass RX12 = some m.cls := findClass_of_methodNamed B.named
  have hlocks := B.notSynchronized
  subst hsz
  have hD := hD0.self (sz := s.heap.size)
  generalize hAe : va_A [zO mm 12 [vI th, vR m1, vI tp, vI sz_, vI ap, vI bad, vI bk, vI opn, vI fp, vR m9, vR m10, vR m11, vR m12, vR m13, vR m14, vR m15, vI im, vI nr, vI nl, vR m19, vR m20, vR m21, vI sp_, vR m23, vR m24, vR m25, vR m26, vR m27, vR m28, vI wtc, vI wcl, vI ir, vI ip, vR m33, vI shu, vR m35, vI sfa, vI swr], zI m1 (cy 0) 4 f1, zI m10 (cy 0) 68 f10, zI m12 (cy 0) 389 f12, zI m19 (cy 0) 4 f19, zI m20 (cy 0) 32 f20, zI m21 (cy 0) 32 f21] s.heap.size = A at hD hT ⊢
  have hA : ∀ q : Nat, s.heap.size ≤ q → A q := fun q h => by rw [← hAe]; exact Or.inr h
  have hS : va_S A s.heap s.heap [] := va_S.rf
  have hl0 := lv_entry ([vR mm, vI n]) (n := 2) (Nat.le_of_ble_eq_true rfl)
  rw [lg_entry_eq]
  generalize (lg_sl ([vR mm, vI n]) ++ List.replicate (2 - (lg_sl ([vR mm, vI n])).length) Slot.unset).toArray = ls at hl0 ⊢
  have hlv : lv_has ls 2 [(0, vR mm), (1, vI n)] := hl0
  have lf1 := hts (.fieldLink RX12 1 "KerbSplashModel" "thrown" "I") (List.mem_of_getElem? (i := 1) rfl)
  have hi12 : ∀ w ∈ wsX120, w ∈ vs_m_shower := fun w h => List.mem_cons_of_mem _ (List.mem_append_right _ (List.mem_append_left _ h))
  have gg_1 : GoodIn vs_m_shower (wsV RX12 324 RX12 yX12_isRain vs_m_isRain) := goodIn_sub (fun w h => List.mem_cons_of_mem _ (List.mem_append_right _ (List.mem_append_right _ (List.mem_append_left _ h)))) (gd_V gd_m_isRain (by decide +kernel))
  have gg_2 : GoodIn vs_m_shower (wsV RX12 312 RX12 yX12_isNow vs_m_isNow) := goodIn_sub (fun w h => List.mem_cons_of_mem _ (List.mem_append_right _ (List.mem_append_right _ (List.mem_append_right _ (List.mem_append_left _ h))))) (gd_V gd_m_isNow (by decide +kernel))
  have gg_3 : GoodIn vs_m_shower (wsV RX12 328 RX12 yX12_showers vs_m_showers) := goodIn_sub (fun w h => List.mem_cons_of_mem _ (List.mem_append_right _ (List.mem_append_right _ (List.mem_append_right _ (List.mem_append_right _ (List.mem_append_left _ h)))))) (gd_V gd_m_showers (by decide +kernel))
  refine lv_aload_n hx hb dX12_shower_0 rfl (lv_at hlv 0 rfl) ?_
  refine lv_iconst (v := iI 0) hx hb dX12_shower_1 (by decide) ?_
  refine va_put (D := D) (ci := 12) (v := vI 0) (ty := .int) (C := RX12) (T := TX12) (N := 38) hx hb hts hi12 tyX12 tyX12_ok nmX12 hown hG.1 hP hD hS 0 rfl rfl 0 (by decide) lf1 (fun _ h9 => h9) rfl (by decide +kernel) rfl rfl (Nat.le_of_ble_eq_true rfl) dX12_shower_2 (fun H locs hP hD hS => ?_)
  obtain ⟨hP, hD⟩ := pw9 [zO mm 12 [vI 0, vR m1, vI tp, vI sz_, vI ap, vI bad, vI bk, vI opn, vI fp, vR m9, vR m10, vR m11, vR m12, vR m13, vR m14, vR m15, vI im, vI nr, vI nl, vR m19, vR m20, vR m21, vI sp_, vR m23, vR m24, vR m25, vR m26, vR m27, vR m28, vI wtc, vI wcl, vI ir, vI ip, vR m33, vI shu, vR m35, vI sfa, vI swr], zI m1 (cy 0) 4 f1, zI m10 (cy 0) 68 f10, zI m12 (cy 0) 389 f12, zI m19 (cy 0) 4 f19, zI m20 (cy 0) 32 f20, zI m21 (cy 0) 32 f21] hP hD
  refine lv_aload_n hx hb dX12_shower_5 rfl (lv_at hlv 0 rfl) ?_
  refine lv_iload_n hx hb dX12_shower_6 rfl (lv_at hlv 1 rfl) ?_
  refine lv_iconst (v := iI 1) hx hb dX12_shower_7 (by decide) ?_
  refine cjr_i [false, false, true, true, true, true, true] (fun pre9 => (va_runV (As := [vI n, vI 1]) (rest := []) ⟨hx, hb, hml, hown, hts⟩ (m_isRain l hl D cy sa mm m1 m9 m10 m11 m12 m13 m14 m15 m19 m20 m21 m23 m24 m25 m26 m27 m28 m33 m35 0 tp sz_ ap bad bk opn fp im nr nl sp_ wtc wcl ir ip shu sfa swr f1 n 1 H.size (by show ((-2147483648) : Int) ≤ 0 ∧ (0 : Int) ≤ 2147483647; decide) (by first | exact hr_tp | omega) (by first | exact hr_sz_ | omega) (by first | exact hr_ap | omega) (by first | exact hr_bad | omega) (by first | exact hr_bk | omega) (by first | exact hr_opn | omega) (by first | exact hr_fp | omega) (by first | exact hr_im | omega) (by first | exact hr_nr | omega) (by first | exact hr_nl | omega) (by first | exact hr_sp_ | omega) (by first | exact hr_wtc | omega) (by first | exact hr_wcl | omega) (by first | exact hr_ir | omega) (by first | exact hr_ip | omega) (by first | exact hr_shu | omega) (by first | exact hr_sfa | omega) (by first | exact hr_swr | omega) (by first | exact hr_n | omega) (by show (1 : Int) ≤ 1 ∧ (1 : Int) ≤ 4; decide)) (cwV 2 hts gg_1 rfl rfl rfl (by decide +kernel) ⟨Nat.le_of_ble_eq_true rfl, Nat.le_of_ble_eq_true rfl⟩) ⟨pcW.blind, (va_recv hG.1 hP (ci := 12) (q0 := 0) rfl rfl), pre9⟩ rfl rfl hlv.1 rfl (lv_room (Nat.le_of_ble_eq_true rfl)) dX12_shower_8 ⟨Nat.le_of_ble_eq_true rfl, Nat.le_of_ble_eq_true rfl⟩)) hP hD hS hA hG hT [0, 1] rfl (by decide +kernel) (fun r1 u1 H locs hw1 hq9 hS => ?_)
  obtain ⟨rfl, hq1_1, hq1_2, hq1_3⟩ := hw1
  obtain ⟨hP, hD⟩ := pd9 [zI m10 (cy 0) 68 f10, zI m12 (cy 0) 389 f12, zI m19 (cy 0) 4 f19, zI m20 (cy 0) 32 f20, zI m21 (cy 0) 32 f21, zO mm 12 [vI (u1.2.1 1), vR m1, vI tp, vI sz_, vI ap, vI bad, vI bk, vI opn, vI fp, vR m9, vR m10, vR m11, vR m12, vR m13, vR m14, vR m15, vI im, vI nr, vI nl, vR m19, vR m20, vR m21, vI sp_, vR m23, vR m24, vR m25, vR m26, vR m27, vR m28, vI wtc, vI wcl, vI ir, vI ip, vR m33, vI shu, vR m35, vI sfa, vI swr], zI m1 (cy 0) 4 (u1.2.2 0)] hq9
  refine iz_eq (tgt := 22) hx hb dX12_shower_11 (by decide) (by first | exact rgw hq1_2 (by decide) (by decide) | omega) (fun c_1 => ?_) (fun c_1 => ?_)
  · refine lv_iconst (v := iI 0) hx hb dX12_shower_22 (by decide) ?_
    refine W.widen (k := 0) (n := 0) (Nat.le_of_ble_eq_true rfl) (Nat.le_of_ble_eq_true rfl) ?_
    exact W.iret (v := iI 0) hx hb hr (fun t ht hW => ⟨⟨iI 0, ((fun k => ([] : List Nat).getD k 0), (fun k => ([0, (u1.2.1 1)] : List Int).getD k 0), (fun k => ([(u1.2.2 0), f12] : List (Nat → Int32)).getD k (fun _ => 0))), rfl, ⟨rfl, (by show ((-2147483648) ≤ (u1.2.1 1) ∧ (u1.2.1 1) ≤ 2147483647); first | exact hq1_1 | omega), (by show ((-2147483648) ≤ 0 ∧ 0 ≤ 2147483647); show ((-2147483648) : Int) ≤ 0 ∧ (0 : Int) ≤ 2147483647; decide), hf10, hf12, hf19⟩, at9 ht hP hD [5, 6, 0, 1, 2, 3, 4] (by decide +kernel) rfl⟩, hS.F ht⟩) hS.2.2 dX12_shower_23
  · refine lv_aload_n hx hb dX12_shower_14 rfl (lv_at hlv 0 rfl) ?_
    refine lv_iconst (v := iI 2) hx hb dX12_shower_15 (by decide) ?_
    refine cjr_i [false, false, true, true, true, false, false] (fun pre9 => (va_runV (As := [vI 2]) (rest := []) ⟨hx, hb, hml, hown, hts⟩ (m_isNow l hl D cy sa mm m1 m9 m10 m11 m12 m13 m14 m15 m19 m20 m21 m23 m24 m25 m26 m27 m28 m33 m35 (u1.2.1 1) tp sz_ ap bad bk opn fp im nr nl sp_ wtc wcl ir ip shu sfa swr (u1.2.2 0) f10 f12 2 H.size (by first | exact hq1_1 | omega) (by first | exact hr_tp | omega) (by first | exact hr_sz_ | omega) (by first | exact hr_ap | omega) (by first | exact hr_bad | omega) (by first | exact hr_bk | omega) (by first | exact hr_opn | omega) (by first | exact hr_fp | omega) (by first | exact hr_im | omega) (by first | exact hr_nr | omega) (by first | exact hr_nl | omega) (by first | exact hr_sp_ | omega) (by first | exact hr_wtc | omega) (by first | exact hr_wcl | omega) (by first | exact hr_ir | omega) (by first | exact hr_ip | omega) (by first | exact hr_shu | omega) (by first | exact hr_sfa | omega) (by first | exact hr_swr | omega) (by show (1 : Int) ≤ 2 ∧ (2 : Int) ≤ 4; decide) hf10 (hf12.1)) (cwV 1 hts gg_2 rfl rfl rfl (by decide +kernel) ⟨Nat.le_of_ble_eq_true rfl, Nat.le_of_ble_eq_true rfl⟩) ⟨pcW.blind, (va_recv hG.1 hP (ci := 12) (q0 := 5) rfl rfl), pre9⟩ rfl rfl hlv.1 rfl (lv_room (Nat.le_of_ble_eq_true rfl)) dX12_shower_16 ⟨Nat.le_of_ble_eq_true rfl, Nat.le_of_ble_eq_true rfl⟩)) hP hD hS hA hG hT [5, 6, 0, 1] rfl (by decide +kernel) (fun r2 u2 H locs hw2 hq9 hS => ?_)
    obtain ⟨rfl, hq2_1, hq2_2, hq2_3, hq2_4, hq2_5⟩ := hw2
    obtain ⟨hP, hD⟩ := pd9 [zI m19 (cy 0) 4 f19, zI m20 (cy 0) 32 f20, zI m21 (cy 0) 32 f21, zO mm 12 [vI (u2.2.1 1), vR m1, vI tp, vI sz_, vI ap, vI bad, vI bk, vI opn, vI fp, vR m9, vR m10, vR m11, vR m12, vR m13, vR m14, vR m15, vI im, vI nr, vI nl, vR m19, vR m20, vR m21, vI sp_, vR m23, vR m24, vR m25, vR m26, vR m27, vR m28, vI wtc, vI wcl, vI ir, vI ip, vR m33, vI shu, vR m35, vI sfa, vI swr], zI m1 (cy 0) 4 (u2.2.2 0), zI m10 (cy 0) 68 f10, zI m12 (cy 0) 389 f12] hq9
    refine iz_ne (tgt := 24) hx hb dX12_shower_19 (by decide) (by first | exact rgw hq2_2 (by decide) (by decide) | omega) (fun c_2 => ?_) (fun c_2 => ?_)
    · refine lv_aload_n hx hb dX12_shower_24 rfl (lv_at hlv 0 rfl) ?_
      refine lv_iload_n hx hb dX12_shower_25 rfl (lv_at hlv 1 rfl) ?_
      refine cjr_i [false, false, false, false, true, false, false] (fun pre9 => (va_runV (As := [vI n]) (rest := []) ⟨hx, hb, hml, hown, hts⟩ (m_showers l hl D cy sa mm m1 m9 m10 m11 m12 m13 m14 m15 m19 m20 m21 m23 m24 m25 m26 m27 m28 m33 m35 (u2.2.1 1) tp sz_ ap bad bk opn fp im nr nl sp_ wtc wcl ir ip shu sfa swr f10 f12 f19 f20 f21 n qs H.size (by first | exact hq2_1 | omega) (by first | exact hr_tp | omega) (by first | exact hr_sz_ | omega) (by first | exact hr_ap | omega) (by first | exact hr_bad | omega) (by first | exact hr_bk | omega) (by first | exact hr_opn | omega) (by first | exact hr_fp | omega) (by first | exact hr_im | omega) (by first | exact hr_nr | omega) (by first | exact hr_nl | omega) (by first | exact hr_sp_ | omega) (by first | exact hr_wtc | omega) (by first | exact hr_wcl | omega) (by first | exact hr_ir | omega) (by first | exact hr_ip | omega) (by first | exact hr_shu | omega) (by first | exact hr_sfa | omega) (by first | exact hr_swr | omega) (by omega) hq2_4 hf12 hf19) (cwV 1 hts gg_3 rfl rfl rfl (by decide +kernel) ⟨Nat.le_of_ble_eq_true rfl, Nat.le_of_ble_eq_true rfl⟩) ⟨pcW.blind, (va_recv hG.1 hP (ci := 12) (q0 := 3) rfl rfl), pre9⟩ rfl rfl hlv.1 rfl (lv_room (Nat.le_of_ble_eq_true rfl)) dX12_shower_26 ⟨Nat.le_of_ble_eq_true rfl, Nat.le_of_ble_eq_true rfl⟩)) hP hD hS hA hG hT [3, 5, 6, 0, 1, 2] rfl (by decide +kernel) (fun r3 u3 H locs hw3 hq9 hS => ?_)
      obtain ⟨rfl, hq3_1, hq3_2, hq3_3, hq3_4⟩ := hw3
      obtain ⟨hP, hD⟩ := pd9 [zI m1 (cy 0) 4 (u2.2.2 0), zO mm 12 [vI (u2.2.1 1), vR m1, vI tp, vI sz_, vI ap, vI bad, vI bk, vI opn, vI fp, vR m9, vR m10, vR m11, vR m12, vR m13, vR m14, vR m15, vI im, vI nr, vI nl, vR m19, vR m20, vR m21, vI sp_, vR m23, vR m24, vR m25, vR m26, vR m27, vR m28, vI wtc, vI wcl, vI ir, vI ip, vR m33, vI shu, vR m35, vI sfa, vI swr], zI m10 (cy 0) 68 f10, zI m12 (cy 0) 389 (u3.2.2 0), zI m19 (cy 0) 4 f19, zI m20 (cy 0) 32 f20, zI m21 (cy 0) 32 f21] hq9
      refine W.widen (k := 0) (n := 0) (Nat.le_of_ble_eq_true rfl) (Nat.le_of_ble_eq_true rfl) ?_
      exact W.iret (v := iI (u3.2.1 0)) hx hb hr (fun t ht hW => ⟨⟨iI (u3.2.1 0), ((fun k => ([] : List Nat).getD k 0), (fun k => ([(u3.2.1 0), (u2.2.1 1)] : List Int).getD k 0), (fun k => ([(u2.2.2 0), (u3.2.2 0)] : List (Nat → Int32)).getD k (fun _ => 0))), rfl, ⟨rfl, (by show ((-2147483648) ≤ (u2.2.1 1) ∧ (u2.2.1 1) ≤ 2147483647); first | exact hq2_1 | omega), (by show ((-2147483648) ≤ (u3.2.1 0) ∧ (u3.2.1 0) ≤ 2147483647); first | exact hq3_1 | omega), hq3_2, hq3_3, hq3_4⟩, at9 ht hP hD [1, 0, 2, 3, 4, 5, 6] (by decide +kernel) rfl⟩, hS.F ht⟩) hS.2.2 dX12_shower_29
    · refine lv_iconst (v := iI 0) hx hb dX12_shower_22 (by decide) ?_
      refine W.widen (k := 0) (n := 0) (Nat.le_of_ble_eq_true rfl) (Nat.le_of_ble_eq_true rfl) ?_
      exact W.iret (v := iI 0) hx hb hr (fun t ht hW => ⟨⟨iI 0, ((fun k => ([] : List Nat).getD k 0), (fun k => ([0, (u2.2.1 1)] : List Int).getD k 0), (fun k => ([(u2.2.2 0), f12] : List (Nat → Int32)).getD k (fun _ => 0))), rfl, ⟨rfl, (by show ((-2147483648) ≤ (u2.2.1 1) ∧ (u2.2.1 1) ≤ 2147483647); first | exact hq2_1 | omega), (by show ((-2147483648) ≤ 0 ∧ 0 ≤ 2147483647); show ((-2147483648) : Int) ≤ 0 ∧ (0 : Int) ≤ 2147483647; decide), hq2_4, hf12, hf19⟩, at9 ht hP hD [3, 4, 5, 6, 0, 1, 2] (by decide +kernel) rfl⟩, hS.F ht⟩) hS.2.2 dX12_shower_23
def vs_m_standing : List Cond := .code yX12_standing cX12_standing 3 (some .int) :: (([.fieldLink RX12 29 "KerbSplashModel" "s" "[I"] : List Cond) ++ ((wsX120) ++ ([])))
theorem gd_m_standing : vs_m_standing.all goodWord = true := gd_C (by decide +kernel) (gd_A (by decide +kernel) (gd_A (by decide +kernel) rfl))
set_option maxHeartbeats 4000000 in
set_option maxRecDepth 100000 in
theorem m_standing (l : Launch) (hl : l.stackTraces = false) (D : va_G) (cy : Nat → ClassId) (sa : Nat → Nat) (mm m1 m9 m10 m11 m12 m13 m14 m15 m19 m20 m21 m23 m24 m25 m26 m27 m28 m33 m35 : Nat) (th tp sz_ ap bad bk opn fp im nr nl sp_ wtc wcl ir ip shu sfa swr : Int) (f12 : Nat → Int32) (sz : Nat) (hr_th : (-2147483648) ≤ th ∧ th ≤ 2147483647) (hr_tp : 0 ≤ tp ∧ tp ≤ 600) (hr_sz_ : 0 ≤ sz_ ∧ sz_ ≤ 600) (hr_ap : 0 ≤ ap ∧ ap ≤ 602) (hr_bad : (-1) ≤ bad ∧ bad ≤ 602) (hr_bk : 0 ≤ bk ∧ bk ≤ 4) (hr_opn : 0 ≤ opn ∧ opn ≤ 7) (hr_fp : (-2147483648) ≤ fp ∧ fp ≤ 2147483647) (hr_im : 0 ≤ im ∧ im ≤ 3) (hr_nr : 0 ≤ nr ∧ nr ≤ 4) (hr_nl : 0 ≤ nl ∧ nl ≤ 4) (hr_sp_ : 0 ≤ sp_ ∧ sp_ ≤ 602) (hr_wtc : (-2147483648) ≤ wtc ∧ wtc ≤ 2147483647) (hr_wcl : 0 ≤ wcl ∧ wcl ≤ 95) (hr_ir : 0 ≤ ir ∧ ir ≤ 5) (hr_ip : (-2147483648) ≤ ip ∧ ip ≤ 2147483647) (hr_shu : (-2147483648) ≤ shu ∧ shu ≤ 2147483647) (hr_sfa : (-2147483648) ≤ sfa ∧ sfa ≤ 2147483647) (hr_swr : (-2147483648) ≤ swr ∧ swr ≤ 2147483647) (hf12 : SI 8 f12) : mI9 l yX12_standing vs_m_standing ({ frames := 0, cells := 0, slots := 0, locals := 0 }) D cy sa sz [vR mm] [zO mm 12 [vI th, vR m1, vI tp, vI sz_, vI ap, vI bad, vI bk, vI opn, vI fp, vR m9, vR m10, vR m11, vR m12, vR m13, vR m14, vR m15, vI im, vI nr, vI nl, vR m19, vR m20, vR m21, vI sp_, vR m23, vR m24, vR m25, vR m26, vR m27, vR m28, vI wtc, vI wcl, vI ir, vI ip, vR m33, vI shu, vR m35, vI sfa, vI swr], zI m12 (cy 0) 389 f12] (fun (r : Int32) (u : SV) => r = iI (u.2.1 0) ∧ ((-2147483648) ≤ u.2.1 0 ∧ u.2.1 0 ≤ 2147483647) ∧ SI 8 f12) (fun u : SV => [zO mm 12 [vI th, vR m1, vI tp, vI sz_, vI ap, vI bad, vI bk, vI opn, vI fp, vR m9, vR m10, vR m11, vR m12, vR m13, vR m14, vR m15, vI im, vI nr, vI nl, vR m19, vR m20, vR m21, vI sp_, vR m23, vR m24, vR m25, vR m26, vR m27, vR m28, vI wtc, vI wcl, vI ir, vI ip, vR m33, vI shu, vR m35, vI sfa, vI swr], zI m12 (cy 0) 389 f12]) 0 0 := by
  refine Met.ofW (cc := cX12_standing) (maxL := 3) (ret := (some .int)) (by decide) rfl ?_
  intro p e s m args below meth c s₁ B hml hv
  obtain ⟨rfl, hsz, hP, hG, hD0, hT⟩ := hv
  have hx := B.exec
  have hb := B.bytes
  have hr := B.returns
  have hts := atoms_spec (ws := vs_m_standing) B.pre
  have hown : s.vm.findClass RX12 = some m.cls := findClass_of_methodNamed B.named
  have hlocks := B.notSynchronized
  subst hsz
  have hD := hD0.self (sz := s.heap.size)
  generalize hAe : va_A [zO mm 12 [vI th, vR m1, vI tp, vI sz_, vI ap, vI bad, vI bk, vI opn, vI fp, vR m9, vR m10, vR m11, vR m12, vR m13, vR m14, vR m15, vI im, vI nr, vI nl, vR m19, vR m20, vR m21, vI sp_, vR m23, vR m24, vR m25, vR m26, vR m27, vR m28, vI wtc, vI wcl, vI ir, vI ip, vR m33, vI shu, vR m35, vI sfa, vI swr], zI m12 (cy 0) 389 f12] s.heap.size = A at hD hT ⊢
  have hA : ∀ q : Nat, s.heap.size ≤ q → A q := fun q h => by rw [← hAe]; exact Or.inr h
  have hS : va_S A s.heap s.heap [] := va_S.rf
  have hl0 := lv_entry ([vR mm]) (n := 3) (Nat.le_of_ble_eq_true rfl)
  rw [lg_entry_eq]
  generalize (lg_sl ([vR mm]) ++ List.replicate (3 - (lg_sl ([vR mm])).length) Slot.unset).toArray = ls at hl0 ⊢
  have hlv : lv_has ls 3 [(0, vR mm)] := hl0
  have lf29 := hts (.fieldLink RX12 29 "KerbSplashModel" "s" "[I") (List.mem_of_getElem? (i := 1) rfl)
  have hi12 : ∀ w ∈ wsX120, w ∈ vs_m_standing := fun w h => List.mem_cons_of_mem _ (List.mem_append_right _ (List.mem_append_left _ h))
  refine lv_iconst (v := iI 0) hx hb dX12_standing_0 (by decide) ?_
  refine lv_istore_n (lv' := [(1, vI 0), (0, vR mm)]) hx hb dX12_standing_1 rfl hlv (by decide) rfl (fun ls hlv => ?_)
  refine lv_bipush (v := iI 96) hx hb dX12_standing_2 (by decide) ?_
  refine lv_istore_n (lv' := [(2, vI 96), (1, vI 0), (0, vR mm)]) hx hb dX12_standing_4 rfl hlv (by decide) rfl (fun ls hlv => ?_)
  refine (?_ : ∀ (fu : Nat) (q1 : Int) (q2 : Int) (H : Heap) (locs : List Loc) (ls : Array Slot), 192 - q2 < (fu : Int) → ((-2147483648) ≤ q1 ∧ q1 ≤ 2147483647) → (96 ≤ q2 ∧ q2 ≤ 192) → va_P D vwCl [zO mm 12 [vI th, vR m1, vI tp, vI sz_, vI ap, vI bad, vI bk, vI opn, vI fp, vR m9, vR m10, vR m11, vR m12, vR m13, vR m14, vR m15, vI im, vI nr, vI nl, vR m19, vR m20, vR m21, vI sp_, vR m23, vR m24, vR m25, vR m26, vR m27, vR m28, vI wtc, vI wcl, vI ir, vI ip, vR m33, vI shu, vR m35, vI sfa, vI swr], zI m12 (cy 0) 389 f12] H → va_D A [zO mm 12 [vI th, vR m1, vI tp, vI sz_, vI ap, vI bad, vI bk, vI opn, vI fp, vR m9, vR m10, vR m11, vR m12, vR m13, vR m14, vR m15, vI im, vI nr, vI nl, vR m19, vR m20, vR m21, vI sp_, vR m23, vR m24, vR m25, vR m26, vR m27, vR m28, vI wtc, vI wcl, vI ir, vI ip, vR m33, vI shu, vR m35, vI sfa, vI swr], zI m12 (cy 0) 389 f12] → va_S A s.heap H locs → lv_has ls 3 [(2, vI q2), (1, vI q1), (0, vR mm)] → W p l e _ s m _ below meth c H locs _ _ _ (F0 m 5 ls [])) (((192 - 96) + 1 : Int)).toNat 0 96 _ _ _ (by omega) (by show ((-2147483648) : Int) ≤ 0 ∧ (0 : Int) ≤ 2147483647; decide) (by show (96 : Int) ≤ 96 ∧ (96 : Int) ≤ 192; decide)  hP hD hS hlv
  clear hP hD hS hlv
  intro fu
  induction fu with
  | zero => intro q1 q2 H locs ls hm5 hl5_0 hl5_1  hP hD hS hlv; omega
  | succ fu ih5 =>
    intro q1 q2 H locs ls hm5 hl5_0 hl5_1  hP hD hS hlv
    refine lv_iload_n hx hb dX12_standing_5 rfl (lv_at hlv 0 rfl) ?_
    refine lv_sipush (v := iI 192) hx hb dX12_standing_6 (by decide) ?_
    refine ir_ge (tgt := 27) hx hb dX12_standing_9 (by decide) (by first | exact rgw hl5_1 (by decide) (by decide) | omega) (by show ((-2147483648) : Int) ≤ 192 ∧ (192 : Int) ≤ 2147483647; decide) (fun c_1 => ?_) (fun c_1 => ?_)
    · refine lv_iload_n hx hb dX12_standing_27 rfl (lv_at hlv 1 rfl) ?_
      refine W.widen (k := 0) (n := 0) (Nat.le_of_ble_eq_true rfl) (Nat.le_of_ble_eq_true rfl) ?_
      exact W.iret (v := iI q1) hx hb hr (fun t ht hW => ⟨⟨iI q1, ((fun k => ([] : List Nat).getD k 0), (fun k => ([q1] : List Int).getD k 0), (fun k => ([] : List (Nat → Int32)).getD k (fun _ => 0))), rfl, ⟨rfl, (by show ((-2147483648) ≤ q1 ∧ q1 ≤ 2147483647); first | exact hl5_0 | omega), hf12⟩, at9 ht hP hD [0, 1] (by decide +kernel) rfl⟩, hS.F ht⟩) hS.2.2 dX12_standing_28
    · refine lv_iload_n hx hb dX12_standing_12 rfl (lv_at hlv 1 rfl) ?_
      refine lv_aload_n hx hb dX12_standing_13 rfl (lv_at hlv 2 rfl) ?_
      refine va_get (D := D) (ci := 12) (v := vR m12) (C := RX12) (T := TX12) (N := 38) hx hb hts hi12 hown hG.1 hP 0 rfl rfl 12 (by decide) lf29 (fun _ h9 => h9) rfl dX12_standing_14 ?_
      refine lv_iload_n hx hb dX12_standing_17 rfl (lv_at hlv 0 rfl) ?_
      refine va_iald hx hb hG.1 hP 1 0 rfl rfl (iI_in (by omega) (by decide)) dX12_standing_18 ?_
      refine lt_nz (i := q2) (by omega) (fun z_2 hz_2 lz_2 uz_2 => ?_)
      refine lv_iadd hx hb dX12_standing_19 ?_
      refine lt_z (fun z_3 ez_3 lz_3 hz_3 => ?_)
      refine lv_istore_n (lv' := [(1, vI z_3), (2, vI q2), (0, vR mm)]) hx hb dX12_standing_20 rfl hlv (by decide) rfl (fun ls hlv => ?_)
      obtain ⟨z_4, hz_4⟩ : ∃ z : Int, z = q2 + 1 := ⟨_, rfl⟩
      refine lv_iinc (v := iI z_4) (lv' := [(2, vI z_4), (1, vI z_3), (0, vR mm)]) hx hb dX12_standing_21 hlv (k := 1) rfl (by rw [hz_4]; exact (Int32.ofInt_add _ _).symm) (by decide) rfl (fun ls hlv => ?_)
      refine lv_goto (tgt := 5) hx hb dX12_standing_24 (by decide) ?_
      exact ih5 z_3 z_4 H locs ls (by omega) (by omega) (by omega)  (hP.sub [0, 1] rfl) (hD.sub [0, 1] (by decide) rfl) hS (lv_sub hlv [0, 1, 2] rfl)
def vs_m_sums : List Cond := .code yX12_sums cX12_sums 2 (some .int) :: (([.fieldLink RX12 1 "KerbSplashModel" "thrown" "I", .fieldLink RX12 29 "KerbSplashModel" "s" "[I"] : List Cond) ++ ((wsX120) ++ ((va_wsS RX12 279 yX12_within vs_m_within) ++ ((wsV RX12 175 RX12 yX12_may vs_m_may) ++ ((wsV RX12 331 RX12 yX12_standing vs_m_standing) ++ ([]))))))
set_option maxHeartbeats 4000000 in
set_option maxRecDepth 100000 in
theorem m_sums (l : Launch) (hl : l.stackTraces = false) (D : va_G) (cy : Nat → ClassId) (sa : Nat → Nat) (mm m1 m9 m10 m11 m12 m13 m14 m15 m19 m20 m21 m23 m24 m25 m26 m27 m28 m33 m35 : Nat) (th tp sz_ ap bad bk opn fp im nr nl sp_ wtc wcl ir ip shu sfa swr : Int) (f1 f12 : Nat → Int32) (n : Int) (sz : Nat) (hr_th : (-2147483648) ≤ th ∧ th ≤ 2147483647) (hr_tp : 0 ≤ tp ∧ tp ≤ 600) (hr_sz_ : 0 ≤ sz_ ∧ sz_ ≤ 600) (hr_ap : 0 ≤ ap ∧ ap ≤ 602) (hr_bad : (-1) ≤ bad ∧ bad ≤ 602) (hr_bk : 0 ≤ bk ∧ bk ≤ 4) (hr_opn : 0 ≤ opn ∧ opn ≤ 7) (hr_fp : (-2147483648) ≤ fp ∧ fp ≤ 2147483647) (hr_im : 0 ≤ im ∧ im ≤ 3) (hr_nr : 0 ≤ nr ∧ nr ≤ 4) (hr_nl : 0 ≤ nl ∧ nl ≤ 4) (hr_sp_ : 0 ≤ sp_ ∧ sp_ ≤ 602) (hr_wtc : (-2147483648) ≤ wtc ∧ wtc ≤ 2147483647) (hr_wcl : 0 ≤ wcl ∧ wcl ≤ 95) (hr_ir : 0 ≤ ir ∧ ir ≤ 5) (hr_ip : (-2147483648) ≤ ip ∧ ip ≤ 2147483647) (hr_shu : (-2147483648) ≤ shu ∧ shu ≤ 2147483647) (hr_sfa : (-2147483648) ≤ sfa ∧ sfa ≤ 2147483647) (hr_swr : (-2147483648) ≤ swr ∧ swr ≤ 2147483647) (hr_n : (-2147483648) ≤ n ∧ n ≤ 2147483647) (hf12 : SI 8 f12) : mI9 l yX12_sums vs_m_sums ({ frames := 1, cells := 0, slots := 0, locals := 23 }) D cy sa sz [vR mm, vI n] [zO mm 12 [vI th, vR m1, vI tp, vI sz_, vI ap, vI bad, vI bk, vI opn, vI fp, vR m9, vR m10, vR m11, vR m12, vR m13, vR m14, vR m15, vI im, vI nr, vI nl, vR m19, vR m20, vR m21, vI sp_, vR m23, vR m24, vR m25, vR m26, vR m27, vR m28, vI wtc, vI wcl, vI ir, vI ip, vR m33, vI shu, vR m35, vI sfa, vI swr], zI m1 (cy 0) 4 f1, zI m12 (cy 0) 389 f12] (fun (r : Int32) (u : SV) => r = iI (u.2.1 0) ∧ ((-2147483648) ≤ u.2.1 1 ∧ u.2.1 1 ≤ 2147483647) ∧ ((-2147483648) ≤ u.2.1 0 ∧ u.2.1 0 ≤ 2147483647) ∧ SI 8 f12) (fun u : SV => [zO mm 12 [vI (u.2.1 1), vR m1, vI tp, vI sz_, vI ap, vI bad, vI bk, vI opn, vI fp, vR m9, vR m10, vR m11, vR m12, vR m13, vR m14, vR m15, vI im, vI nr, vI nl, vR m19, vR m20, vR m21, vI sp_, vR m23, vR m24, vR m25, vR m26, vR m27, vR m28, vI wtc, vI wcl, vI ir, vI ip, vR m33, vI shu, vR m35, vI sfa, vI swr], zI m1 (cy 0) 4 (u.2.2 0), zI m12 (cy 0) 389 f12]) 0 0 := by
  refine Met.ofW (cc := cX12_sums) (maxL := 2) (ret := (some .int)) (by decide) rfl ?_
  intro p e s m args below meth c s₁ B hml hv
  obtain ⟨rfl, hsz, hP, hG, hD0, hT⟩ := hv
  have hx := B.exec
  have hb := B.bytes
  have hr := B.returns
  have hts := atoms_spec (ws := vs_m_sums) B.pre
  have hown : s.vm.findClass RX12 = some m.cls := findClass_of_methodNamed B.named
  have hlocks := B.notSynchronized
  subst hsz
  have hD := hD0.self (sz := s.heap.size)
  generalize hAe : va_A [zO mm 12 [vI th, vR m1, vI tp, vI sz_, vI ap, vI bad, vI bk, vI opn, vI fp, vR m9, vR m10, vR m11, vR m12, vR m13, vR m14, vR m15, vI im, vI nr, vI nl, vR m19, vR m20, vR m21, vI sp_, vR m23, vR m24, vR m25, vR m26, vR m27, vR m28, vI wtc, vI wcl, vI ir, vI ip, vR m33, vI shu, vR m35, vI sfa, vI swr], zI m1 (cy 0) 4 f1, zI m12 (cy 0) 389 f12] s.heap.size = A at hD hT ⊢
  have hA : ∀ q : Nat, s.heap.size ≤ q → A q := fun q h => by rw [← hAe]; exact Or.inr h
  have hS : va_S A s.heap s.heap [] := va_S.rf
  have hl0 := lv_entry ([vR mm, vI n]) (n := 2) (Nat.le_of_ble_eq_true rfl)
  rw [lg_entry_eq]
  generalize (lg_sl ([vR mm, vI n]) ++ List.replicate (2 - (lg_sl ([vR mm, vI n])).length) Slot.unset).toArray = ls at hl0 ⊢
  have hlv : lv_has ls 2 [(0, vR mm), (1, vI n)] := hl0
  have lf1 := hts (.fieldLink RX12 1 "KerbSplashModel" "thrown" "I") (List.mem_of_getElem? (i := 1) rfl)
  have hi12 : ∀ w ∈ wsX120, w ∈ vs_m_sums := fun w h => List.mem_cons_of_mem _ (List.mem_append_right _ (List.mem_append_left _ h))
  have gg_1 : GoodIn vs_m_sums (va_wsS RX12 279 yX12_within vs_m_within) := goodIn_sub (fun w h => List.mem_cons_of_mem _ (List.mem_append_right _ (List.mem_append_right _ (List.mem_append_left _ h)))) (gd_S gd_m_within (by decide +kernel))
  have gg_2 : GoodIn vs_m_sums (wsV RX12 175 RX12 yX12_may vs_m_may) := goodIn_sub (fun w h => List.mem_cons_of_mem _ (List.mem_append_right _ (List.mem_append_right _ (List.mem_append_right _ (List.mem_append_left _ h))))) (gd_V gd_m_may (by decide +kernel))
  have gg_3 : GoodIn vs_m_sums (wsV RX12 331 RX12 yX12_standing vs_m_standing) := goodIn_sub (fun w h => List.mem_cons_of_mem _ (List.mem_append_right _ (List.mem_append_right _ (List.mem_append_right _ (List.mem_append_right _ (List.mem_append_left _ h)))))) (gd_V gd_m_standing (by decide +kernel))
  have lf29 := hts (.fieldLink RX12 29 "KerbSplashModel" "s" "[I") (List.mem_of_getElem? (i := 2) rfl)
  refine lv_aload_n hx hb dX12_sums_0 rfl (lv_at hlv 0 rfl) ?_
  refine lv_iconst (v := iI 0) hx hb dX12_sums_1 (by decide) ?_
  refine va_put (D := D) (ci := 12) (v := vI 0) (ty := .int) (C := RX12) (T := TX12) (N := 38) hx hb hts hi12 tyX12 tyX12_ok nmX12 hown hG.1 hP hD hS 0 rfl rfl 0 (by decide) lf1 (fun _ h9 => h9) rfl (by decide +kernel) rfl rfl (Nat.le_of_ble_eq_true rfl) dX12_sums_2 (fun H locs hP hD hS => ?_)
  obtain ⟨hP, hD⟩ := pw9 [zO mm 12 [vI 0, vR m1, vI tp, vI sz_, vI ap, vI bad, vI bk, vI opn, vI fp, vR m9, vR m10, vR m11, vR m12, vR m13, vR m14, vR m15, vI im, vI nr, vI nl, vR m19, vR m20, vR m21, vI sp_, vR m23, vR m24, vR m25, vR m26, vR m27, vR m28, vI wtc, vI wcl, vI ir, vI ip, vR m33, vI shu, vR m35, vI sfa, vI swr], zI m1 (cy 0) 4 f1, zI m12 (cy 0) 389 f12] hP hD
  refine lv_aload_n hx hb dX12_sums_5 rfl (lv_at hlv 0 rfl) ?_
  refine lv_iload_n hx hb dX12_sums_6 rfl (lv_at hlv 1 rfl) ?_
  refine lv_iconst (v := iI 0) hx hb dX12_sums_7 (by decide) ?_
  refine lv_iconst (v := iI 3) hx hb dX12_sums_8 (by decide) ?_
  refine cjr_i [true, true, true] (fun pre9 => (va_runS (As := [vI n, vI 0, vI 3]) (rest := [vR mm]) ⟨hx, hb, hml, hown, hts⟩ (m_within l hl D cy sa n 0 3 H.size (by first | exact hr_n | omega) (by show ((-2147483648) : Int) ≤ 0 ∧ (0 : Int) ≤ 2147483647; decide) (by show ((-2147483648) : Int) ≤ 3 ∧ (3 : Int) ≤ 2147483647; decide)) (va_cwS 3 hts gg_1 rfl rfl rfl (by decide +kernel) ⟨Nat.le_of_ble_eq_true rfl, Nat.le_of_ble_eq_true rfl⟩) ⟨pcW.blind, pre9⟩ rfl rfl hlv.1 rfl (lv_room (Nat.le_of_ble_eq_true rfl)) dX12_sums_9 ⟨Nat.le_of_ble_eq_true rfl, Nat.le_of_ble_eq_true rfl⟩)) hP hD hS hA hG hT [] rfl (by decide +kernel) (fun r1 u1 H locs hw1 hq9 hS => ?_)
  obtain ⟨rfl, hq1_1, hq1_2, hq1_3⟩ := hw1
  obtain ⟨hP, hD⟩ := pd9 [zO mm 12 [vI 0, vR m1, vI tp, vI sz_, vI ap, vI bad, vI bk, vI opn, vI fp, vR m9, vR m10, vR m11, vR m12, vR m13, vR m14, vR m15, vI im, vI nr, vI nl, vR m19, vR m20, vR m21, vI sp_, vR m23, vR m24, vR m25, vR m26, vR m27, vR m28, vI wtc, vI wcl, vI ir, vI ip, vR m33, vI shu, vR m35, vI sfa, vI swr], zI m1 (cy 0) 4 f1, zI m12 (cy 0) 389 f12] hq9
  refine lv_iconst (v := iI 1) hx hb dX12_sums_12 (by decide) ?_
  refine lv_iconst (v := iI 2) hx hb dX12_sums_13 (by decide) ?_
  refine cjr_i [false, false, true] (fun pre9 => (va_runV (As := [vI (u1.2.1 0), vI 1, vI 2]) (rest := []) ⟨hx, hb, hml, hown, hts⟩ (m_may l hl D cy sa mm m1 m9 m10 m11 m12 m13 m14 m15 m19 m20 m21 m23 m24 m25 m26 m27 m28 m33 m35 0 tp sz_ ap bad bk opn fp im nr nl sp_ wtc wcl ir ip shu sfa swr f1 (u1.2.1 0) 1 2 H.size (by show ((-2147483648) : Int) ≤ 0 ∧ (0 : Int) ≤ 2147483647; decide) (by first | exact hr_tp | omega) (by first | exact hr_sz_ | omega) (by first | exact hr_ap | omega) (by first | exact hr_bad | omega) (by first | exact hr_bk | omega) (by first | exact hr_opn | omega) (by first | exact hr_fp | omega) (by first | exact hr_im | omega) (by first | exact hr_nr | omega) (by first | exact hr_nl | omega) (by first | exact hr_sp_ | omega) (by first | exact hr_wtc | omega) (by first | exact hr_wcl | omega) (by first | exact hr_ir | omega) (by first | exact hr_ip | omega) (by first | exact hr_shu | omega) (by first | exact hr_sfa | omega) (by first | exact hr_swr | omega) (by first | exact hq1_1 | omega) (by show (1 : Int) ≤ 1 ∧ (1 : Int) ≤ 4; decide) (by show (0 : Int) ≤ 2 ∧ (2 : Int) ≤ 3; decide)) (cwV 3 hts gg_2 rfl rfl rfl (by decide +kernel) ⟨Nat.le_of_ble_eq_true rfl, Nat.le_of_ble_eq_true rfl⟩) ⟨pcW.blind, (va_recv hG.1 hP (ci := 12) (q0 := 0) rfl rfl), pre9⟩ rfl rfl hlv.1 rfl (lv_room (Nat.le_of_ble_eq_true rfl)) dX12_sums_14 ⟨Nat.le_of_ble_eq_true rfl, Nat.le_of_ble_eq_true rfl⟩)) hP hD hS hA hG hT [0, 1] rfl (by decide +kernel) (fun r2 u2 H locs hw2 hq9 hS => ?_)
  obtain ⟨rfl, hq2_1, hq2_2, hq2_3, hq2_4⟩ := hw2
  obtain ⟨hP, hD⟩ := pd9 [zI m12 (cy 0) 389 f12, zO mm 12 [vI (u2.2.1 1), vR m1, vI tp, vI sz_, vI ap, vI bad, vI bk, vI opn, vI fp, vR m9, vR m10, vR m11, vR m12, vR m13, vR m14, vR m15, vI im, vI nr, vI nl, vR m19, vR m20, vR m21, vI sp_, vR m23, vR m24, vR m25, vR m26, vR m27, vR m28, vI wtc, vI wcl, vI ir, vI ip, vR m33, vI shu, vR m35, vI sfa, vI swr], zI m1 (cy 0) 4 (u2.2.2 0)] hq9
  refine iz_ne (tgt := 22) hx hb dX12_sums_17 (by decide) (by first | exact rgw hq2_2 (by decide) (by decide) | omega) (fun c_1 => ?_) (fun c_1 => ?_)
  · refine lv_iload_n hx hb dX12_sums_22 rfl (lv_at hlv 1 rfl) ?_
    refine lv_iconst (v := iI 3) hx hb dX12_sums_23 (by decide) ?_
    refine ir_ge (tgt := 40) hx hb dX12_sums_24 (by decide) (by first | exact hr_n | omega) (by show ((-2147483648) : Int) ≤ 3 ∧ (3 : Int) ≤ 2147483647; decide) (fun c_2 => ?_) (fun c_2 => ?_)
    · refine lv_aload_n hx hb dX12_sums_40 rfl (lv_at hlv 0 rfl) ?_
      refine cjr_i [false, false, true] (fun pre9 => (va_runV (As := []) (rest := []) ⟨hx, hb, hml, hown, hts⟩ (m_standing l hl D cy sa mm m1 m9 m10 m11 m12 m13 m14 m15 m19 m20 m21 m23 m24 m25 m26 m27 m28 m33 m35 (u2.2.1 1) tp sz_ ap bad bk opn fp im nr nl sp_ wtc wcl ir ip shu sfa swr f12 H.size (by first | exact hq2_1 | omega) (by first | exact hr_tp | omega) (by first | exact hr_sz_ | omega) (by first | exact hr_ap | omega) (by first | exact hr_bad | omega) (by first | exact hr_bk | omega) (by first | exact hr_opn | omega) (by first | exact hr_fp | omega) (by first | exact hr_im | omega) (by first | exact hr_nr | omega) (by first | exact hr_nl | omega) (by first | exact hr_sp_ | omega) (by first | exact hr_wtc | omega) (by first | exact hr_wcl | omega) (by first | exact hr_ir | omega) (by first | exact hr_ip | omega) (by first | exact hr_shu | omega) (by first | exact hr_sfa | omega) (by first | exact hr_swr | omega) hf12) (cwV 0 hts gg_3 rfl rfl rfl (by decide +kernel) ⟨Nat.le_of_ble_eq_true rfl, Nat.le_of_ble_eq_true rfl⟩) ⟨pcW.blind, (va_recv hG.1 hP (ci := 12) (q0 := 1) rfl rfl), pre9⟩ rfl rfl hlv.1 rfl (lv_room (Nat.le_of_ble_eq_true rfl)) dX12_sums_41 ⟨Nat.le_of_ble_eq_true rfl, Nat.le_of_ble_eq_true rfl⟩)) hP hD hS hA hG hT [1, 0] rfl (by decide +kernel) (fun r3 u3 H locs hw3 hq9 hS => ?_)
      obtain ⟨rfl, hq3_1, hq3_2⟩ := hw3
      obtain ⟨hP, hD⟩ := pd9 [zI m1 (cy 0) 4 (u2.2.2 0), zO mm 12 [vI (u2.2.1 1), vR m1, vI tp, vI sz_, vI ap, vI bad, vI bk, vI opn, vI fp, vR m9, vR m10, vR m11, vR m12, vR m13, vR m14, vR m15, vI im, vI nr, vI nl, vR m19, vR m20, vR m21, vI sp_, vR m23, vR m24, vR m25, vR m26, vR m27, vR m28, vI wtc, vI wcl, vI ir, vI ip, vR m33, vI shu, vR m35, vI sfa, vI swr], zI m12 (cy 0) 389 f12] hq9
      refine W.widen (k := 0) (n := 0) (Nat.le_of_ble_eq_true rfl) (Nat.le_of_ble_eq_true rfl) ?_
      exact W.iret (v := iI (u3.2.1 0)) hx hb hr (fun t ht hW => ⟨⟨iI (u3.2.1 0), ((fun k => ([] : List Nat).getD k 0), (fun k => ([(u3.2.1 0), (u2.2.1 1)] : List Int).getD k 0), (fun k => ([(u2.2.2 0)] : List (Nat → Int32)).getD k (fun _ => 0))), rfl, ⟨rfl, (by show ((-2147483648) ≤ (u2.2.1 1) ∧ (u2.2.1 1) ≤ 2147483647); first | exact hq2_1 | omega), (by show ((-2147483648) ≤ (u3.2.1 0) ∧ (u3.2.1 0) ≤ 2147483647); first | exact hq3_1 | omega), hq3_2⟩, at9 ht hP hD [1, 0, 2] (by decide +kernel) rfl⟩, hS.F ht⟩) hS.2.2 dX12_sums_44
    · refine lv_aload_n hx hb dX12_sums_27 rfl (lv_at hlv 0 rfl) ?_
      refine va_get (D := D) (ci := 12) (v := vR m12) (C := RX12) (T := TX12) (N := 38) hx hb hts hi12 hown hG.1 hP 1 rfl rfl 12 (by decide) lf29 (fun _ h9 => h9) rfl dX12_sums_28 ?_
      refine lv_sipush (v := iI 385) hx hb dX12_sums_31 (by decide) ?_
      refine lv_iload_n hx hb dX12_sums_34 rfl (lv_at hlv 1 rfl) ?_
      refine lv_iadd hx hb dX12_sums_35 ?_
      refine lt_e (e0 := 385 + n) (Int32.ofInt_add _ _).symm (fun z_3 hz_3 => ?_)
      refine va_iald hx hb hG.1 hP 0 0 rfl rfl (iI_in (by omega) (by decide)) dX12_sums_36 ?_
      refine lt_nz (i := z_3) (by omega) (fun z_4 hz_4 lz_4 uz_4 => ?_)
      refine lv_goto (tgt := 44) hx hb dX12_sums_37 (by decide) ?_
      refine W.widen (k := 0) (n := 0) (Nat.le_of_ble_eq_true rfl) (Nat.le_of_ble_eq_true rfl) ?_
      exact W.iret (v := iI z_4) hx hb hr (fun t ht hW => ⟨⟨iI z_4, ((fun k => ([] : List Nat).getD k 0), (fun k => ([z_4, (u2.2.1 1)] : List Int).getD k 0), (fun k => ([(u2.2.2 0)] : List (Nat → Int32)).getD k (fun _ => 0))), rfl, ⟨rfl, (by show ((-2147483648) ≤ (u2.2.1 1) ∧ (u2.2.1 1) ≤ 2147483647); first | exact hq2_1 | omega), (by show ((-2147483648) ≤ z_4 ∧ z_4 ≤ 2147483647); omega), hf12⟩, at9 ht hP hD [1, 2, 0] (by decide +kernel) rfl⟩, hS.F ht⟩) hS.2.2 dX12_sums_44
  · refine lv_iconst (v := iI 0) hx hb dX12_sums_20 (by decide) ?_
    refine W.widen (k := 0) (n := 0) (Nat.le_of_ble_eq_true rfl) (Nat.le_of_ble_eq_true rfl) ?_
    exact W.iret (v := iI 0) hx hb hr (fun t ht hW => ⟨⟨iI 0, ((fun k => ([] : List Nat).getD k 0), (fun k => ([0, (u2.2.1 1)] : List Int).getD k 0), (fun k => ([(u2.2.2 0)] : List (Nat → Int32)).getD k (fun _ => 0))), rfl, ⟨rfl, (by show ((-2147483648) ≤ (u2.2.1 1) ∧ (u2.2.1 1) ≤ 2147483647); first | exact hq2_1 | omega), (by show ((-2147483648) ≤ 0 ∧ 0 ≤ 2147483647); show ((-2147483648) : Int) ≤ 0 ∧ (0 : Int) ≤ 2147483647; decide), hf12⟩, at9 ht hP hD [1, 2, 0] (by decide +kernel) rfl⟩, hS.F ht⟩) hS.2.2 dX12_sums_21
end
section
theorem dX12_emit_0 : decode cX12_emit 0 = .ok (.aload_n 0, 1) := by decide +kernel
theorem dX12_emit_1 : decode cX12_emit 1 = .ok (.invokevirtual 109, 3) := by decide +kernel
theorem dX12_emit_12 : decode cX12_emit 12 = .ok (.sipush 620, 3) := by decide +kernel
theorem dX12_emit_15 : decode cX12_emit 15 = .ok (.aload_n 0, 1) := by decide +kernel
theorem dX12_emit_16 : decode cX12_emit 16 = .ok (.getfield 209, 3) := by decide +kernel
theorem dX12_emit_19 : decode cX12_emit 19 = .ok (.imul, 1) := by decide +kernel
theorem dX12_emit_20 : decode cX12_emit 20 = .ok (.aload_n 0, 1) := by decide +kernel
theorem dX12_emit_21 : decode cX12_emit 21 = .ok (.getfield 212, 3) := by decide +kernel
theorem dX12_emit_24 : decode cX12_emit 24 = .ok (.iadd, 1) := by decide +kernel
theorem dX12_emit_25 : decode cX12_emit 25 = .ok (.iload_n 1, 1) := by decide +kernel
theorem dX12_emit_26 : decode cX12_emit 26 = .ok (.iastore, 1) := by decide +kernel
theorem dX12_emit_27 : decode cX12_emit 27 = .ok (.aload_n 0, 1) := by decide +kernel
theorem dX12_emit_28 : decode cX12_emit 28 = .ok (.getfield 53, 3) := by decide +kernel
theorem dX12_emit_31 : decode cX12_emit 31 = .ok (.sipush 620, 3) := by decide +kernel
theorem dX12_emit_34 : decode cX12_emit 34 = .ok (.aload_n 0, 1) := by decide +kernel
theorem dX12_emit_35 : decode cX12_emit 35 = .ok (.getfield 209, 3) := by decide +kernel
theorem dX12_emit_38 : decode cX12_emit 38 = .ok (.imul, 1) := by decide +kernel
theorem dX12_emit_39 : decode cX12_emit 39 = .ok (.aload_n 0, 1) := by decide +kernel
theorem dX12_emit_4 : decode cX12_emit 4 = .ok (.ifCond .ne 4, 3) := by decide +kernel
theorem dX12_emit_40 : decode cX12_emit 40 = .ok (.getfield 212, 3) := by decide +kernel
theorem dX12_emit_43 : decode cX12_emit 43 = .ok (.iadd, 1) := by decide +kernel
theorem dX12_emit_44 : decode cX12_emit 44 = .ok (.iload_n 2, 1) := by decide +kernel
theorem dX12_emit_45 : decode cX12_emit 45 = .ok (.iastore, 1) := by decide +kernel
theorem dX12_emit_46 : decode cX12_emit 46 = .ok (.aload_n 0, 1) := by decide +kernel
theorem dX12_emit_47 : decode cX12_emit 47 = .ok (.dup, 1) := by decide +kernel
theorem dX12_emit_48 : decode cX12_emit 48 = .ok (.getfield 212, 3) := by decide +kernel
theorem dX12_emit_51 : decode cX12_emit 51 = .ok (.iconst 1, 1) := by decide +kernel
theorem dX12_emit_52 : decode cX12_emit 52 = .ok (.iadd, 1) := by decide +kernel
theorem dX12_emit_53 : decode cX12_emit 53 = .ok (.putfield 212, 3) := by decide +kernel
theorem dX12_emit_56 : decode cX12_emit 56 = .ok (.return_, 1) := by decide +kernel
theorem dX12_emit_7 : decode cX12_emit 7 = .ok (.return_, 1) := by decide +kernel
theorem dX12_emit_8 : decode cX12_emit 8 = .ok (.aload_n 0, 1) := by decide +kernel
theorem dX12_emit_9 : decode cX12_emit 9 = .ok (.getfield 50, 3) := by decide +kernel
theorem dX12_keyword_0 : decode cX12_keyword 0 = .ok (.aload_n 0, 1) := by decide +kernel
theorem dX12_keyword_1 : decode cX12_keyword 1 = .ok (.invokevirtual 109, 3) := by decide +kernel
theorem dX12_keyword_11 : decode cX12_keyword 11 = .ok (.iload_n 1, 1) := by decide +kernel
theorem dX12_keyword_12 : decode cX12_keyword 12 = .ok (.if_icmp .eq 12, 3) := by decide +kernel
theorem dX12_keyword_15 : decode cX12_keyword 15 = .ok (.aload_n 0, 1) := by decide +kernel
theorem dX12_keyword_16 : decode cX12_keyword 16 = .ok (.iconst 1, 1) := by decide +kernel
theorem dX12_keyword_17 : decode cX12_keyword 17 = .ok (.aload_n 0, 1) := by decide +kernel
theorem dX12_keyword_18 : decode cX12_keyword 18 = .ok (.getfield 86, 3) := by decide +kernel
theorem dX12_keyword_21 : decode cX12_keyword 21 = .ok (.invokevirtual 116, 3) := by decide +kernel
theorem dX12_keyword_24 : decode cX12_keyword 24 = .ok (.aload_n 0, 1) := by decide +kernel
theorem dX12_keyword_25 : decode cX12_keyword 25 = .ok (.invokevirtual 109, 3) := by decide +kernel
theorem dX12_keyword_28 : decode cX12_keyword 28 = .ok (.ifCond .eq 7, 3) := by decide +kernel
theorem dX12_keyword_31 : decode cX12_keyword 31 = .ok (.aload_n 0, 1) := by decide +kernel
theorem dX12_keyword_32 : decode cX12_keyword 32 = .ok (.invokevirtual 148, 3) := by decide +kernel
theorem dX12_keyword_35 : decode cX12_keyword 35 = .ok (.return_, 1) := by decide +kernel
theorem dX12_keyword_4 : decode cX12_keyword 4 = .ok (.ifCond .eq 20, 3) := by decide +kernel
theorem dX12_keyword_7 : decode cX12_keyword 7 = .ok (.aload_n 0, 1) := by decide +kernel
theorem dX12_keyword_8 : decode cX12_keyword 8 = .ok (.invokevirtual 145, 3) := by decide +kernel
theorem dX12_nameHere_0 : decode cX12_nameHere 0 = .ok (.aload_n 0, 1) := by decide +kernel
theorem dX12_nameHere_1 : decode cX12_nameHere 1 = .ok (.invokevirtual 145, 3) := by decide +kernel
theorem dX12_nameHere_11 : decode cX12_nameHere 11 = .ok (.if_icmp .ne 5, 3) := by decide +kernel
theorem dX12_nameHere_14 : decode cX12_nameHere 14 = .ok (.iconst 0, 1) := by decide +kernel
theorem dX12_nameHere_15 : decode cX12_nameHere 15 = .ok (.ireturn, 1) := by decide +kernel
theorem dX12_nameHere_16 : decode cX12_nameHere 16 = .ok (.iload_n 1, 1) := by decide +kernel
theorem dX12_nameHere_17 : decode cX12_nameHere 17 = .ok (.ldc 217, 2) := by decide +kernel
theorem dX12_nameHere_19 : decode cX12_nameHere 19 = .ok (.invokestatic 135, 3) := by decide +kernel
theorem dX12_nameHere_22 : decode cX12_nameHere 22 = .ok (.if_icmp .ne 5, 3) := by decide +kernel
theorem dX12_nameHere_25 : decode cX12_nameHere 25 = .ok (.iconst 1, 1) := by decide +kernel
theorem dX12_nameHere_26 : decode cX12_nameHere 26 = .ok (.ireturn, 1) := by decide +kernel
theorem dX12_nameHere_27 : decode cX12_nameHere 27 = .ok (.iload_n 1, 1) := by decide +kernel
theorem dX12_nameHere_28 : decode cX12_nameHere 28 = .ok (.ldc 219, 2) := by decide +kernel
theorem dX12_nameHere_30 : decode cX12_nameHere 30 = .ok (.invokestatic 135, 3) := by decide +kernel
theorem dX12_nameHere_33 : decode cX12_nameHere 33 = .ok (.if_icmp .ne 5, 3) := by decide +kernel
theorem dX12_nameHere_36 : decode cX12_nameHere 36 = .ok (.iconst 2, 1) := by decide +kernel
theorem dX12_nameHere_37 : decode cX12_nameHere 37 = .ok (.ireturn, 1) := by decide +kernel
theorem dX12_nameHere_38 : decode cX12_nameHere 38 = .ok (.iload_n 1, 1) := by decide +kernel
theorem dX12_nameHere_39 : decode cX12_nameHere 39 = .ok (.ldc 221, 2) := by decide +kernel
theorem dX12_nameHere_4 : decode cX12_nameHere 4 = .ok (.istore_n 1, 1) := by decide +kernel
theorem dX12_nameHere_41 : decode cX12_nameHere 41 = .ok (.invokestatic 135, 3) := by decide +kernel
theorem dX12_nameHere_44 : decode cX12_nameHere 44 = .ok (.if_icmp .ne 5, 3) := by decide +kernel
theorem dX12_nameHere_47 : decode cX12_nameHere 47 = .ok (.iconst 3, 1) := by decide +kernel
theorem dX12_nameHere_48 : decode cX12_nameHere 48 = .ok (.ireturn, 1) := by decide +kernel
theorem dX12_nameHere_49 : decode cX12_nameHere 49 = .ok (.iload_n 1, 1) := by decide +kernel
theorem dX12_nameHere_5 : decode cX12_nameHere 5 = .ok (.iload_n 1, 1) := by decide +kernel
theorem dX12_nameHere_50 : decode cX12_nameHere 50 = .ok (.ldc 223, 2) := by decide +kernel
theorem dX12_nameHere_52 : decode cX12_nameHere 52 = .ok (.invokestatic 135, 3) := by decide +kernel
theorem dX12_nameHere_55 : decode cX12_nameHere 55 = .ok (.if_icmp .ne 5, 3) := by decide +kernel
theorem dX12_nameHere_58 : decode cX12_nameHere 58 = .ok (.iconst 4, 1) := by decide +kernel
theorem dX12_nameHere_59 : decode cX12_nameHere 59 = .ok (.ireturn, 1) := by decide +kernel
theorem dX12_nameHere_6 : decode cX12_nameHere 6 = .ok (.ldc 215, 2) := by decide +kernel
theorem dX12_nameHere_60 : decode cX12_nameHere 60 = .ok (.iload_n 1, 1) := by decide +kernel
theorem dX12_nameHere_61 : decode cX12_nameHere 61 = .ok (.ldc 225, 2) := by decide +kernel
theorem dX12_nameHere_63 : decode cX12_nameHere 63 = .ok (.invokestatic 135, 3) := by decide +kernel
theorem dX12_nameHere_66 : decode cX12_nameHere 66 = .ok (.if_icmp .ne 5, 3) := by decide +kernel
theorem dX12_nameHere_69 : decode cX12_nameHere 69 = .ok (.iconst 5, 1) := by decide +kernel
theorem dX12_nameHere_70 : decode cX12_nameHere 70 = .ok (.ireturn, 1) := by decide +kernel
theorem dX12_nameHere_71 : decode cX12_nameHere 71 = .ok (.aload_n 0, 1) := by decide +kernel
theorem dX12_nameHere_72 : decode cX12_nameHere 72 = .ok (.ldc 185, 2) := by decide +kernel
theorem dX12_nameHere_74 : decode cX12_nameHere 74 = .ok (.invokevirtual 187, 3) := by decide +kernel
theorem dX12_nameHere_77 : decode cX12_nameHere 77 = .ok (.ifCond .eq 8, 3) := by decide +kernel
theorem dX12_nameHere_8 : decode cX12_nameHere 8 = .ok (.invokestatic 135, 3) := by decide +kernel
theorem dX12_nameHere_80 : decode cX12_nameHere 80 = .ok (.bipush 6, 2) := by decide +kernel
theorem dX12_nameHere_82 : decode cX12_nameHere 82 = .ok (.goto 4, 3) := by decide +kernel
theorem dX12_nameHere_85 : decode cX12_nameHere 85 = .ok (.iconst (-1), 1) := by decide +kernel
theorem dX12_nameHere_86 : decode cX12_nameHere 86 = .ok (.ireturn, 1) := by decide +kernel
theorem dX12_opensOne_0 : decode cX12_opensOne 0 = .ok (.aload_n 0, 1) := by decide +kernel
theorem dX12_opensOne_1 : decode cX12_opensOne 1 = .ok (.invokevirtual 109, 3) := by decide +kernel
theorem dX12_opensOne_11 : decode cX12_opensOne 11 = .ok (.bipush 6, 2) := by decide +kernel
theorem dX12_opensOne_13 : decode cX12_opensOne 13 = .ok (.if_icmp .ne 12, 3) := by decide +kernel
theorem dX12_opensOne_16 : decode cX12_opensOne 16 = .ok (.aload_n 0, 1) := by decide +kernel
theorem dX12_opensOne_17 : decode cX12_opensOne 17 = .ok (.iconst 3, 1) := by decide +kernel
theorem dX12_opensOne_18 : decode cX12_opensOne 18 = .ok (.aload_n 0, 1) := by decide +kernel
theorem dX12_opensOne_19 : decode cX12_opensOne 19 = .ok (.getfield 86, 3) := by decide +kernel
theorem dX12_opensOne_22 : decode cX12_opensOne 22 = .ok (.invokevirtual 116, 3) := by decide +kernel
theorem dX12_opensOne_25 : decode cX12_opensOne 25 = .ok (.aload_n 0, 1) := by decide +kernel
theorem dX12_opensOne_26 : decode cX12_opensOne 26 = .ok (.invokevirtual 109, 3) := by decide +kernel
theorem dX12_opensOne_29 : decode cX12_opensOne 29 = .ok (.ifCond .eq 13, 3) := by decide +kernel
theorem dX12_opensOne_32 : decode cX12_opensOne 32 = .ok (.aload_n 0, 1) := by decide +kernel
theorem dX12_opensOne_33 : decode cX12_opensOne 33 = .ok (.dup, 1) := by decide +kernel
theorem dX12_opensOne_34 : decode cX12_opensOne 34 = .ok (.getfield 86, 3) := by decide +kernel
theorem dX12_opensOne_37 : decode cX12_opensOne 37 = .ok (.iload_n 1, 1) := by decide +kernel
theorem dX12_opensOne_38 : decode cX12_opensOne 38 = .ok (.iadd, 1) := by decide +kernel
theorem dX12_opensOne_39 : decode cX12_opensOne 39 = .ok (.putfield 86, 3) := by decide +kernel
theorem dX12_opensOne_4 : decode cX12_opensOne 4 = .ok (.ifCond .eq 21, 3) := by decide +kernel
theorem dX12_opensOne_42 : decode cX12_opensOne 42 = .ok (.aload_n 0, 1) := by decide +kernel
theorem dX12_opensOne_43 : decode cX12_opensOne 43 = .ok (.dup, 1) := by decide +kernel
theorem dX12_opensOne_44 : decode cX12_opensOne 44 = .ok (.getfield 120, 3) := by decide +kernel
theorem dX12_opensOne_47 : decode cX12_opensOne 47 = .ok (.iconst 1, 1) := by decide +kernel
theorem dX12_opensOne_48 : decode cX12_opensOne 48 = .ok (.iadd, 1) := by decide +kernel
theorem dX12_opensOne_49 : decode cX12_opensOne 49 = .ok (.putfield 120, 3) := by decide +kernel
theorem dX12_opensOne_52 : decode cX12_opensOne 52 = .ok (.return_, 1) := by decide +kernel
theorem dX12_opensOne_7 : decode cX12_opensOne 7 = .ok (.aload_n 0, 1) := by decide +kernel
theorem dX12_opensOne_8 : decode cX12_opensOne 8 = .ok (.getfield 120, 3) := by decide +kernel
def vs_m_emit : List Cond := .code yX12_emit cX12_emit 3 none :: (([.fieldLink RX12 50 "KerbSplashModel" "step" "[I", .fieldLink RX12 209 "KerbSplashModel" "laws" "I", .fieldLink RX12 212 "KerbSplashModel" "steps" "I", .fieldLink RX12 53 "KerbSplashModel" "stepValue" "[I"] : List Cond) ++ ((wsV RX12 109 RX12 yX12_fine vs_m_fine) ++ ((wsX120) ++ ([]))))
theorem gd_m_emit : vs_m_emit.all goodWord = true := gd_C (by decide +kernel) (gd_A (by decide +kernel) (gd_A (gd_V gd_m_fine (by decide +kernel)) (gd_A (by decide +kernel) rfl)))
set_option maxHeartbeats 4000000 in
set_option maxRecDepth 100000 in
theorem m_emit (l : Launch) (hl : l.stackTraces = false) (D : va_G) (cy : Nat → ClassId) (sa : Nat → Nat) (mm m1 m9 m10 m11 m12 m13 m14 m15 m19 m20 m21 m23 m24 m25 m26 m27 m28 m33 m35 : Nat) (th tp sz_ ap bad bk opn fp im nr nl sp_ wtc wcl ir ip shu sfa swr : Int) (f23 f24 : Nat → Int32) (k n : Int) (sz : Nat) (hr_th : (-2147483648) ≤ th ∧ th ≤ 2147483647) (hr_tp : 0 ≤ tp ∧ tp ≤ 600) (hr_sz_ : 0 ≤ sz_ ∧ sz_ ≤ 600) (hr_ap : 0 ≤ ap ∧ ap ≤ 602) (hr_bad : (-1) ≤ bad ∧ bad ≤ 602) (hr_bk : 0 ≤ bk ∧ bk ≤ 4) (hr_opn : 0 ≤ opn ∧ opn ≤ 7) (hr_fp : (-2147483648) ≤ fp ∧ fp ≤ 2147483647) (hr_im : 0 ≤ im ∧ im ≤ 3) (hr_nr : 0 ≤ nr ∧ nr ≤ 4) (hr_nl : 0 ≤ nl ∧ nl ≤ 3) (hr_sp_ : 0 ≤ sp_ ∧ sp_ ≤ 602) (hr_wtc : (-2147483648) ≤ wtc ∧ wtc ≤ 2147483647) (hr_wcl : 0 ≤ wcl ∧ wcl ≤ 95) (hr_ir : 0 ≤ ir ∧ ir ≤ 5) (hr_ip : (-2147483648) ≤ ip ∧ ip ≤ 2147483647) (hr_shu : (-2147483648) ≤ shu ∧ shu ≤ 2147483647) (hr_sfa : (-2147483648) ≤ sfa ∧ sfa ≤ 2147483647) (hr_swr : (-2147483648) ≤ swr ∧ swr ≤ 2147483647) (hr_k : 0 ≤ k ∧ k ≤ 12) (hr_n : (-2147483648) ≤ n ∧ n ≤ 2147483647) (hp0 : bad = -1 → sp_ ≤ 601) : mV9 l yX12_emit vs_m_emit ({ frames := 1, cells := 0, slots := 0, locals := 20 }) D cy sa sz [vR mm, vI k, vI n] [zO mm 12 [vI th, vR m1, vI tp, vI sz_, vI ap, vI bad, vI bk, vI opn, vI fp, vR m9, vR m10, vR m11, vR m12, vR m13, vR m14, vR m15, vI im, vI nr, vI nl, vR m19, vR m20, vR m21, vI sp_, vR m23, vR m24, vR m25, vR m26, vR m27, vR m28, vI wtc, vI wcl, vI ir, vI ip, vR m33, vI shu, vR m35, vI sfa, vI swr], zI m23 (cy 0) 2480 f23, zI m24 (cy 0) 2480 f24] (fun u : SV => (0 ≤ u.2.1 0 ∧ u.2.1 0 ≤ 602) ∧ (bad = -1 → u.2.1 0 = sp_ + 1 ∧ u.2.2 0 = upd f23 (620 * nl + sp_).toNat (iI k) ∧ u.2.2 1 = upd f24 (620 * nl + sp_).toNat (iI n)) ∧ (bad ≠ -1 → u.2.1 0 = sp_ ∧ u.2.2 0 = f23 ∧ u.2.2 1 = f24)) (fun u : SV => [zO mm 12 [vI th, vR m1, vI tp, vI sz_, vI ap, vI bad, vI bk, vI opn, vI fp, vR m9, vR m10, vR m11, vR m12, vR m13, vR m14, vR m15, vI im, vI nr, vI nl, vR m19, vR m20, vR m21, vI (u.2.1 0), vR m23, vR m24, vR m25, vR m26, vR m27, vR m28, vI wtc, vI wcl, vI ir, vI ip, vR m33, vI shu, vR m35, vI sfa, vI swr], zI m23 (cy 0) 2480 (u.2.2 0), zI m24 (cy 0) 2480 (u.2.2 1)]) 0 0 := by
  refine Met.ofW (cc := cX12_emit) (maxL := 3) (ret := none) (by decide) rfl ?_
  intro p e s m args below meth c s₁ B hml hv
  obtain ⟨rfl, hsz, hP, hG, hD0, hT⟩ := hv
  have hx := B.exec
  have hb := B.bytes
  have hr := B.returns
  have hts := atoms_spec (ws := vs_m_emit) B.pre
  have hown : s.vm.findClass RX12 = some m.cls := findClass_of_methodNamed B.named
  have hlocks := B.notSynchronized
  subst hsz
  have hD := hD0.self (sz := s.heap.size)
  generalize hAe : va_A [zO mm 12 [vI th, vR m1, vI tp, vI sz_, vI ap, vI bad, vI bk, vI opn, vI fp, vR m9, vR m10, vR m11, vR m12, vR m13, vR m14, vR m15, vI im, vI nr, vI nl, vR m19, vR m20, vR m21, vI sp_, vR m23, vR m24, vR m25, vR m26, vR m27, vR m28, vI wtc, vI wcl, vI ir, vI ip, vR m33, vI shu, vR m35, vI sfa, vI swr], zI m23 (cy 0) 2480 f23, zI m24 (cy 0) 2480 f24] s.heap.size = A at hD hT ⊢
  have hA : ∀ q : Nat, s.heap.size ≤ q → A q := fun q h => by rw [← hAe]; exact Or.inr h
  have hS : va_S A s.heap s.heap [] := va_S.rf
  have hl0 := lv_entry ([vR mm, vI k, vI n]) (n := 3) (Nat.le_of_ble_eq_true rfl)
  rw [lg_entry_eq]
  generalize (lg_sl ([vR mm, vI k, vI n]) ++ List.replicate (3 - (lg_sl ([vR mm, vI k, vI n])).length) Slot.unset).toArray = ls at hl0 ⊢
  have hlv : lv_has ls 3 [(0, vR mm), (1, vI k), (2, vI n)] := hl0
  have gg_0 : GoodIn vs_m_emit (wsV RX12 109 RX12 yX12_fine vs_m_fine) := goodIn_sub (fun w h => List.mem_cons_of_mem _ (List.mem_append_right _ (List.mem_append_left _ h))) (gd_V gd_m_fine (by decide +kernel))
  have lf50 := hts (.fieldLink RX12 50 "KerbSplashModel" "step" "[I") (List.mem_of_getElem? (i := 1) rfl)
  have hi12 : ∀ w ∈ wsX120, w ∈ vs_m_emit := fun w h => List.mem_cons_of_mem _ (List.mem_append_right _ (List.mem_append_right _ (List.mem_append_left _ h)))
  have lf209 := hts (.fieldLink RX12 209 "KerbSplashModel" "laws" "I") (List.mem_of_getElem? (i := 2) rfl)
  have lf212 := hts (.fieldLink RX12 212 "KerbSplashModel" "steps" "I") (List.mem_of_getElem? (i := 3) rfl)
  have lf53 := hts (.fieldLink RX12 53 "KerbSplashModel" "stepValue" "[I") (List.mem_of_getElem? (i := 4) rfl)
  refine lv_aload_n hx hb dX12_emit_0 rfl (lv_at hlv 0 rfl) ?_
  refine cjr_i [false, true, true] (fun pre9 => (va_runV (As := []) (rest := []) ⟨hx, hb, hml, hown, hts⟩ (m_fine l hl D cy sa mm m1 m9 m10 m11 m12 m13 m14 m15 m19 m20 m21 m23 m24 m25 m26 m27 m28 m33 m35 th tp sz_ ap bad bk opn fp im nr nl sp_ wtc wcl ir ip shu sfa swr s.heap.size (by first | exact hr_th | omega) (by first | exact hr_tp | omega) (by first | exact hr_sz_ | omega) (by first | exact hr_ap | omega) (by first | exact hr_bad | omega) (by first | exact hr_bk | omega) (by first | exact hr_opn | omega) (by first | exact hr_fp | omega) (by first | exact hr_im | omega) (by first | exact hr_nr | omega) (by first | exact rgw hr_nl (by decide) (by decide) | omega) (by first | exact hr_sp_ | omega) (by first | exact hr_wtc | omega) (by first | exact hr_wcl | omega) (by first | exact hr_ir | omega) (by first | exact hr_ip | omega) (by first | exact hr_shu | omega) (by first | exact hr_sfa | omega) (by first | exact hr_swr | omega)) (cwV 0 hts gg_0 rfl rfl rfl (by decide +kernel) ⟨Nat.le_of_ble_eq_true rfl, Nat.le_of_ble_eq_true rfl⟩) ⟨pcW.blind, (va_recv hG.1 hP (ci := 12) (q0 := 0) rfl rfl), pre9⟩ rfl rfl hlv.1 rfl (lv_room (Nat.le_of_ble_eq_true rfl)) dX12_emit_1 ⟨Nat.le_of_ble_eq_true rfl, Nat.le_of_ble_eq_true rfl⟩)) hP hD hS hA hG hT [0] rfl (by decide +kernel) (fun r1 u1 H locs hw1 hq9 hS => ?_)
  obtain ⟨rfl, hq1_1, hq1_2, hq1_3⟩ := hw1
  obtain ⟨hP, hD⟩ := pd9 [zI m23 (cy 0) 2480 f23, zI m24 (cy 0) 2480 f24, zO mm 12 [vI th, vR m1, vI tp, vI sz_, vI ap, vI bad, vI bk, vI opn, vI fp, vR m9, vR m10, vR m11, vR m12, vR m13, vR m14, vR m15, vI im, vI nr, vI nl, vR m19, vR m20, vR m21, vI sp_, vR m23, vR m24, vR m25, vR m26, vR m27, vR m28, vI wtc, vI wcl, vI ir, vI ip, vR m33, vI shu, vR m35, vI sfa, vI swr]] hq9
  refine iz_ne (tgt := 8) hx hb dX12_emit_4 (by decide) (by first | exact rgw hq1_1 (by decide) (by decide) | omega) (fun c_1 => ?_) (fun c_1 => ?_)
  · refine lv_aload_n hx hb dX12_emit_8 rfl (lv_at hlv 0 rfl) ?_
    refine va_get (D := D) (ci := 12) (v := vR m23) (C := RX12) (T := TX12) (N := 38) hx hb hts hi12 hown hG.1 hP 2 rfl rfl 23 (by decide) lf50 (fun _ h9 => h9) rfl dX12_emit_9 ?_
    refine lv_sipush (v := iI 620) hx hb dX12_emit_12 (by decide) ?_
    refine lv_aload_n hx hb dX12_emit_15 rfl (lv_at hlv 0 rfl) ?_
    refine va_get (D := D) (ci := 12) (v := vI nl) (C := RX12) (T := TX12) (N := 38) hx hb hts hi12 hown hG.1 hP 2 rfl rfl 18 (by decide) lf209 (fun _ h9 => h9) rfl dX12_emit_16 ?_
    refine lv_imul hx hb dX12_emit_19 ?_
    refine lt_e (e0 := 620 * nl) (Int32.ofInt_mul _ _).symm (fun z_2 hz_2 => ?_)
    refine lv_aload_n hx hb dX12_emit_20 rfl (lv_at hlv 0 rfl) ?_
    refine va_get (D := D) (ci := 12) (v := vI sp_) (C := RX12) (T := TX12) (N := 38) hx hb hts hi12 hown hG.1 hP 2 rfl rfl 22 (by decide) lf212 (fun _ h9 => h9) rfl dX12_emit_21 ?_
    refine lv_iadd hx hb dX12_emit_24 ?_
    refine lt_e (e0 := z_2 + sp_) (Int32.ofInt_add _ _).symm (fun z_3 hz_3 => ?_)
    refine lv_iload_n hx hb dX12_emit_25 rfl (lv_at hlv 1 rfl) ?_
    refine va_iast hx hb hG.1 hP hD hS 0 0 rfl rfl (iI_in (by omega) (by decide)) dX12_emit_26 (fun H locs hP hD hS => ?_)
    obtain ⟨f_4, hdf_4, hP, hD⟩ := pe9e (fun f_4 => [zI m23 (cy 0) 2480 f_4, zI m24 (cy 0) 2480 f24, zO mm 12 [vI th, vR m1, vI tp, vI sz_, vI ap, vI bad, vI bk, vI opn, vI fp, vR m9, vR m10, vR m11, vR m12, vR m13, vR m14, vR m15, vI im, vI nr, vI nl, vR m19, vR m20, vR m21, vI sp_, vR m23, vR m24, vR m25, vR m26, vR m27, vR m28, vI wtc, vI wcl, vI ir, vI ip, vR m33, vI shu, vR m35, vI sfa, vI swr]]) (upd f23 (iI z_3).toNatClampNeg (iI k)) hP hD
    refine lv_aload_n hx hb dX12_emit_27 rfl (lv_at hlv 0 rfl) ?_
    refine va_get (D := D) (ci := 12) (v := vR m24) (C := RX12) (T := TX12) (N := 38) hx hb hts hi12 hown hG.1 hP 2 rfl rfl 24 (by decide) lf53 (fun _ h9 => h9) rfl dX12_emit_28 ?_
    refine lv_sipush (v := iI 620) hx hb dX12_emit_31 (by decide) ?_
    refine lv_aload_n hx hb dX12_emit_34 rfl (lv_at hlv 0 rfl) ?_
    refine va_get (D := D) (ci := 12) (v := vI nl) (C := RX12) (T := TX12) (N := 38) hx hb hts hi12 hown hG.1 hP 2 rfl rfl 18 (by decide) lf209 (fun _ h9 => h9) rfl dX12_emit_35 ?_
    refine lv_imul hx hb dX12_emit_38 ?_
    refine lt_e (e0 := 620 * nl) (Int32.ofInt_mul _ _).symm (fun z_5 hz_5 => ?_)
    refine lv_aload_n hx hb dX12_emit_39 rfl (lv_at hlv 0 rfl) ?_
    refine va_get (D := D) (ci := 12) (v := vI sp_) (C := RX12) (T := TX12) (N := 38) hx hb hts hi12 hown hG.1 hP 2 rfl rfl 22 (by decide) lf212 (fun _ h9 => h9) rfl dX12_emit_40 ?_
    refine lv_iadd hx hb dX12_emit_43 ?_
    refine lt_e (e0 := z_5 + sp_) (Int32.ofInt_add _ _).symm (fun z_6 hz_6 => ?_)
    refine lv_iload_n hx hb dX12_emit_44 rfl (lv_at hlv 2 rfl) ?_
    refine va_iast hx hb hG.1 hP hD hS 1 0 rfl rfl (iI_in (by omega) (by decide)) dX12_emit_45 (fun H locs hP hD hS => ?_)
    obtain ⟨f_7, hdf_7, hP, hD⟩ := pe9e (fun f_7 => [zI m23 (cy 0) 2480 f_4, zI m24 (cy 0) 2480 f_7, zO mm 12 [vI th, vR m1, vI tp, vI sz_, vI ap, vI bad, vI bk, vI opn, vI fp, vR m9, vR m10, vR m11, vR m12, vR m13, vR m14, vR m15, vI im, vI nr, vI nl, vR m19, vR m20, vR m21, vI sp_, vR m23, vR m24, vR m25, vR m26, vR m27, vR m28, vI wtc, vI wcl, vI ir, vI ip, vR m33, vI shu, vR m35, vI sfa, vI swr]]) (upd f24 (iI z_6).toNatClampNeg (iI n)) hP hD
    refine lv_aload_n hx hb dX12_emit_46 rfl (lv_at hlv 0 rfl) ?_
    refine lv_dup hx hb dX12_emit_47 rfl ?_
    refine va_get (D := D) (ci := 12) (v := vI sp_) (C := RX12) (T := TX12) (N := 38) hx hb hts hi12 hown hG.1 hP 2 rfl rfl 22 (by decide) lf212 (fun _ h9 => h9) rfl dX12_emit_48 ?_
    refine lv_iconst (v := iI 1) hx hb dX12_emit_51 (by decide) ?_
    refine lv_iadd hx hb dX12_emit_52 ?_
    refine lt_e (e0 := sp_ + 1) (Int32.ofInt_add _ _).symm (fun z_8 hz_8 => ?_)
    refine va_put (D := D) (ci := 12) (v := vI z_8) (ty := .int) (C := RX12) (T := TX12) (N := 38) hx hb hts hi12 tyX12 tyX12_ok nmX12 hown hG.1 hP hD hS 2 rfl rfl 22 (by decide) lf212 (fun _ h9 => h9) rfl (by decide +kernel) rfl rfl (Nat.le_of_ble_eq_true rfl) dX12_emit_53 (fun H locs hP hD hS => ?_)
    obtain ⟨hP, hD⟩ := pw9 [zI m23 (cy 0) 2480 f_4, zI m24 (cy 0) 2480 f_7, zO mm 12 [vI th, vR m1, vI tp, vI sz_, vI ap, vI bad, vI bk, vI opn, vI fp, vR m9, vR m10, vR m11, vR m12, vR m13, vR m14, vR m15, vI im, vI nr, vI nl, vR m19, vR m20, vR m21, vI z_8, vR m23, vR m24, vR m25, vR m26, vR m27, vR m28, vI wtc, vI wcl, vI ir, vI ip, vR m33, vI shu, vR m35, vI sfa, vI swr]] hP hD
    refine W.widen (k := 0) (n := 0) (Nat.le_of_ble_eq_true rfl) (Nat.le_of_ble_eq_true rfl) ?_
    exact W.vret hx hb hr (fun t ht hW => ⟨⟨((fun k => ([] : List Nat).getD k 0), (fun k => ([z_8] : List Int).getD k 0), (fun k => ([f_4, f_7] : List (Nat → Int32)).getD k (fun _ => 0))), rfl, ⟨(by show (0 ≤ z_8 ∧ z_8 ≤ 602); omega), (by show (bad = -1 → z_8 = sp_ + 1 ∧ f_4 = upd f23 (620 * nl + sp_).toNat (iI k) ∧ f_7 = upd f24 (620 * nl + sp_).toNat (iI n)); exact (fun h => ⟨by omega, by rw [hdf_4, iI_cl (by omega) (by omega), show z_3.toNat = (620 * nl + sp_).toNat by omega], by rw [hdf_7, iI_cl (by omega) (by omega), show z_6.toNat = (620 * nl + sp_).toNat by omega]⟩)), (by show (bad ≠ -1 → z_8 = sp_ ∧ f_4 = f23 ∧ f_7 = f24); exact (fun h => absurd h (by omega)))⟩, at9 ht hP hD [2, 0, 1] (by decide +kernel) rfl⟩, hS.F ht⟩) hS.2.2 dX12_emit_56
  · refine W.widen (k := 0) (n := 0) (Nat.le_of_ble_eq_true rfl) (Nat.le_of_ble_eq_true rfl) ?_
    exact W.vret hx hb hr (fun t ht hW => ⟨⟨((fun k => ([] : List Nat).getD k 0), (fun k => ([sp_] : List Int).getD k 0), (fun k => ([f23, f24] : List (Nat → Int32)).getD k (fun _ => 0))), rfl, ⟨(by show (0 ≤ sp_ ∧ sp_ ≤ 602); first | exact hr_sp_ | omega), (by show (bad = -1 → sp_ = sp_ + 1 ∧ f23 = upd f23 (620 * nl + sp_).toNat (iI k) ∧ f24 = upd f24 (620 * nl + sp_).toNat (iI n)); exact (fun h => absurd h (by omega))), (by show (bad ≠ -1 → sp_ = sp_ ∧ f23 = f23 ∧ f24 = f24); exact (fun h => ⟨by omega, rfl, rfl⟩))⟩, at9 ht hP hD [2, 0, 1] (by decide +kernel) rfl⟩, hS.F ht⟩) hS.2.2 dX12_emit_7
def vs_m_opensOne : List Cond := .code yX12_opensOne cX12_opensOne 2 none :: (([.fieldLink RX12 120 "KerbSplashModel" "opens" "I", .fieldLink RX12 86 "KerbSplashModel" "at" "I"] : List Cond) ++ ((wsV RX12 109 RX12 yX12_fine vs_m_fine) ++ ((wsX120) ++ ((wsV RX12 116 RX12 yX12_wrong vs_m_wrong) ++ ([])))))
theorem gd_m_opensOne : vs_m_opensOne.all goodWord = true := gd_C (by decide +kernel) (gd_A (by decide +kernel) (gd_A (gd_V gd_m_fine (by decide +kernel)) (gd_A (by decide +kernel) (gd_A (gd_V gd_m_wrong (by decide +kernel)) rfl))))
set_option maxHeartbeats 4000000 in
set_option maxRecDepth 100000 in
theorem m_opensOne (l : Launch) (hl : l.stackTraces = false) (D : va_G) (cy : Nat → ClassId) (sa : Nat → Nat) (mm m1 m9 m10 m11 m12 m13 m14 m15 m19 m20 m21 m23 m24 m25 m26 m27 m28 m33 m35 : Nat) (th tp sz_ ap bad bk opn fp im nr nl sp_ wtc wcl ir ip shu sfa swr : Int) (n : Int) (sz : Nat) (hr_th : (-2147483648) ≤ th ∧ th ≤ 2147483647) (hr_tp : 0 ≤ tp ∧ tp ≤ 600) (hr_sz_ : 0 ≤ sz_ ∧ sz_ ≤ 600) (hr_ap : 0 ≤ ap ∧ ap ≤ 602) (hr_bad : (-1) ≤ bad ∧ bad ≤ 602) (hr_bk : 0 ≤ bk ∧ bk ≤ 4) (hr_opn : 0 ≤ opn ∧ opn ≤ 6) (hr_fp : (-2147483648) ≤ fp ∧ fp ≤ 2147483647) (hr_im : 0 ≤ im ∧ im ≤ 3) (hr_nr : 0 ≤ nr ∧ nr ≤ 4) (hr_nl : 0 ≤ nl ∧ nl ≤ 4) (hr_sp_ : 0 ≤ sp_ ∧ sp_ ≤ 602) (hr_wtc : (-2147483648) ≤ wtc ∧ wtc ≤ 2147483647) (hr_wcl : 0 ≤ wcl ∧ wcl ≤ 95) (hr_ir : 0 ≤ ir ∧ ir ≤ 5) (hr_ip : (-2147483648) ≤ ip ∧ ip ≤ 2147483647) (hr_shu : (-2147483648) ≤ shu ∧ shu ≤ 2147483647) (hr_sfa : (-2147483648) ≤ sfa ∧ sfa ≤ 2147483647) (hr_swr : (-2147483648) ≤ swr ∧ swr ≤ 2147483647) (hr_n : 1 ≤ n ∧ n ≤ 3) (hp0 : bad = -1 → ap + n ≤ 602) : mV9 l yX12_opensOne vs_m_opensOne ({ frames := 1, cells := 0, slots := 0, locals := 22 }) D cy sa sz [vR mm, vI n] [zO mm 12 [vI th, vR m1, vI tp, vI sz_, vI ap, vI bad, vI bk, vI opn, vI fp, vR m9, vR m10, vR m11, vR m12, vR m13, vR m14, vR m15, vI im, vI nr, vI nl, vR m19, vR m20, vR m21, vI sp_, vR m23, vR m24, vR m25, vR m26, vR m27, vR m28, vI wtc, vI wcl, vI ir, vI ip, vR m33, vI shu, vR m35, vI sfa, vI swr]] (fun u : SV => (0 ≤ u.2.1 0 ∧ u.2.1 0 ≤ 602) ∧ ((-1) ≤ u.2.1 1 ∧ u.2.1 1 ≤ 602) ∧ (0 ≤ u.2.1 2 ∧ u.2.1 2 ≤ 4) ∧ (0 ≤ u.2.1 3 ∧ u.2.1 3 ≤ 7) ∧ (u.2.1 3 = opn + 1) ∧ (u.2.1 1 = -1 → bad = -1 ∧ opn ≤ 5 ∧ u.2.1 0 = ap + n) ∧ (ap ≤ u.2.1 0)) (fun u : SV => [zO mm 12 [vI th, vR m1, vI tp, vI sz_, vI (u.2.1 0), vI (u.2.1 1), vI (u.2.1 2), vI (u.2.1 3), vI fp, vR m9, vR m10, vR m11, vR m12, vR m13, vR m14, vR m15, vI im, vI nr, vI nl, vR m19, vR m20, vR m21, vI sp_, vR m23, vR m24, vR m25, vR m26, vR m27, vR m28, vI wtc, vI wcl, vI ir, vI ip, vR m33, vI shu, vR m35, vI sfa, vI swr]]) 0 0 := by
  refine Met.ofW (cc := cX12_opensOne) (maxL := 2) (ret := none) (by decide) rfl ?_
  intro p e s m args below meth c s₁ B hml hv
  obtain ⟨rfl, hsz, hP, hG, hD0, hT⟩ := hv
  have hx := B.exec
  have hb := B.bytes
  have hr := B.returns
  have hts := atoms_spec (ws := vs_m_opensOne) B.pre
  have hown : s.vm.findClass RX12 = some m.cls := findClass_of_methodNamed B.named
  have hlocks := B.notSynchronized
  subst hsz
  have hD := hD0.self (sz := s.heap.size)
  generalize hAe : va_A [zO mm 12 [vI th, vR m1, vI tp, vI sz_, vI ap, vI bad, vI bk, vI opn, vI fp, vR m9, vR m10, vR m11, vR m12, vR m13, vR m14, vR m15, vI im, vI nr, vI nl, vR m19, vR m20, vR m21, vI sp_, vR m23, vR m24, vR m25, vR m26, vR m27, vR m28, vI wtc, vI wcl, vI ir, vI ip, vR m33, vI shu, vR m35, vI sfa, vI swr]] s.heap.size = A at hD hT ⊢
  have hA : ∀ q : Nat, s.heap.size ≤ q → A q := fun q h => by rw [← hAe]; exact Or.inr h
  have hS : va_S A s.heap s.heap [] := va_S.rf
  have hl0 := lv_entry ([vR mm, vI n]) (n := 2) (Nat.le_of_ble_eq_true rfl)
  rw [lg_entry_eq]
  generalize (lg_sl ([vR mm, vI n]) ++ List.replicate (2 - (lg_sl ([vR mm, vI n])).length) Slot.unset).toArray = ls at hl0 ⊢
  have hlv : lv_has ls 2 [(0, vR mm), (1, vI n)] := hl0
  have gg_0 : GoodIn vs_m_opensOne (wsV RX12 109 RX12 yX12_fine vs_m_fine) := goodIn_sub (fun w h => List.mem_cons_of_mem _ (List.mem_append_right _ (List.mem_append_left _ h))) (gd_V gd_m_fine (by decide +kernel))
  have lf120 := hts (.fieldLink RX12 120 "KerbSplashModel" "opens" "I") (List.mem_of_getElem? (i := 1) rfl)
  have hi12 : ∀ w ∈ wsX120, w ∈ vs_m_opensOne := fun w h => List.mem_cons_of_mem _ (List.mem_append_right _ (List.mem_append_right _ (List.mem_append_left _ h)))
  have lf86 := hts (.fieldLink RX12 86 "KerbSplashModel" "at" "I") (List.mem_of_getElem? (i := 2) rfl)
  have gg_2 : GoodIn vs_m_opensOne (wsV RX12 116 RX12 yX12_wrong vs_m_wrong) := goodIn_sub (fun w h => List.mem_cons_of_mem _ (List.mem_append_right _ (List.mem_append_right _ (List.mem_append_right _ (List.mem_append_left _ h))))) (gd_V gd_m_wrong (by decide +kernel))
  refine lv_aload_n hx hb dX12_opensOne_0 rfl (lv_at hlv 0 rfl) ?_
  refine cjr_i [false] (fun pre9 => (va_runV (As := []) (rest := []) ⟨hx, hb, hml, hown, hts⟩ (m_fine l hl D cy sa mm m1 m9 m10 m11 m12 m13 m14 m15 m19 m20 m21 m23 m24 m25 m26 m27 m28 m33 m35 th tp sz_ ap bad bk opn fp im nr nl sp_ wtc wcl ir ip shu sfa swr s.heap.size (by first | exact hr_th | omega) (by first | exact hr_tp | omega) (by first | exact hr_sz_ | omega) (by first | exact hr_ap | omega) (by first | exact hr_bad | omega) (by first | exact hr_bk | omega) (by first | exact rgw hr_opn (by decide) (by decide) | omega) (by first | exact hr_fp | omega) (by first | exact hr_im | omega) (by first | exact hr_nr | omega) (by first | exact hr_nl | omega) (by first | exact hr_sp_ | omega) (by first | exact hr_wtc | omega) (by first | exact hr_wcl | omega) (by first | exact hr_ir | omega) (by first | exact hr_ip | omega) (by first | exact hr_shu | omega) (by first | exact hr_sfa | omega) (by first | exact hr_swr | omega)) (cwV 0 hts gg_0 rfl rfl rfl (by decide +kernel) ⟨Nat.le_of_ble_eq_true rfl, Nat.le_of_ble_eq_true rfl⟩) ⟨pcW.blind, (va_recv hG.1 hP (ci := 12) (q0 := 0) rfl rfl), pre9⟩ rfl rfl hlv.1 rfl (lv_room (Nat.le_of_ble_eq_true rfl)) dX12_opensOne_1 ⟨Nat.le_of_ble_eq_true rfl, Nat.le_of_ble_eq_true rfl⟩)) hP hD hS hA hG hT [0] rfl (by decide +kernel) (fun r1 u1 H locs hw1 hq9 hS => ?_)
  obtain ⟨rfl, hq1_1, hq1_2, hq1_3⟩ := hw1
  obtain ⟨hP, hD⟩ := pd9 [zO mm 12 [vI th, vR m1, vI tp, vI sz_, vI ap, vI bad, vI bk, vI opn, vI fp, vR m9, vR m10, vR m11, vR m12, vR m13, vR m14, vR m15, vI im, vI nr, vI nl, vR m19, vR m20, vR m21, vI sp_, vR m23, vR m24, vR m25, vR m26, vR m27, vR m28, vI wtc, vI wcl, vI ir, vI ip, vR m33, vI shu, vR m35, vI sfa, vI swr]] hq9
  refine iz_eq (tgt := 25) hx hb dX12_opensOne_4 (by decide) (by first | exact rgw hq1_1 (by decide) (by decide) | omega) (fun c_1 => ?_) (fun c_1 => ?_)
  · refine lv_aload_n hx hb dX12_opensOne_25 rfl (lv_at hlv 0 rfl) ?_
    refine cjr_i [false] (fun pre9 => (va_runV (As := []) (rest := []) ⟨hx, hb, hml, hown, hts⟩ (m_fine l hl D cy sa mm m1 m9 m10 m11 m12 m13 m14 m15 m19 m20 m21 m23 m24 m25 m26 m27 m28 m33 m35 th tp sz_ ap bad bk opn fp im nr nl sp_ wtc wcl ir ip shu sfa swr H.size (by first | exact hr_th | omega) (by first | exact hr_tp | omega) (by first | exact hr_sz_ | omega) (by first | exact hr_ap | omega) (by first | exact hr_bad | omega) (by first | exact hr_bk | omega) (by first | exact rgw hr_opn (by decide) (by decide) | omega) (by first | exact hr_fp | omega) (by first | exact hr_im | omega) (by first | exact hr_nr | omega) (by first | exact hr_nl | omega) (by first | exact hr_sp_ | omega) (by first | exact hr_wtc | omega) (by first | exact hr_wcl | omega) (by first | exact hr_ir | omega) (by first | exact hr_ip | omega) (by first | exact hr_shu | omega) (by first | exact hr_sfa | omega) (by first | exact hr_swr | omega)) (cwV 0 hts gg_0 rfl rfl rfl (by decide +kernel) ⟨Nat.le_of_ble_eq_true rfl, Nat.le_of_ble_eq_true rfl⟩) ⟨pcW.blind, (va_recv hG.1 hP (ci := 12) (q0 := 0) rfl rfl), pre9⟩ rfl rfl hlv.1 rfl (lv_room (Nat.le_of_ble_eq_true rfl)) dX12_opensOne_26 ⟨Nat.le_of_ble_eq_true rfl, Nat.le_of_ble_eq_true rfl⟩)) hP hD hS hA hG hT [0] rfl (by decide +kernel) (fun r2 u2 H locs hw2 hq9 hS => ?_)
    obtain ⟨rfl, hq2_1, hq2_2, hq2_3⟩ := hw2
    obtain ⟨hP, hD⟩ := pd9 [zO mm 12 [vI th, vR m1, vI tp, vI sz_, vI ap, vI bad, vI bk, vI opn, vI fp, vR m9, vR m10, vR m11, vR m12, vR m13, vR m14, vR m15, vI im, vI nr, vI nl, vR m19, vR m20, vR m21, vI sp_, vR m23, vR m24, vR m25, vR m26, vR m27, vR m28, vI wtc, vI wcl, vI ir, vI ip, vR m33, vI shu, vR m35, vI sfa, vI swr]] hq9
    refine lt_i (y := iI 0) (by rw [show (u2.2.1 0) = 0 by omega]) ?_
    refine iz_eq (tgt := 42) hx hb dX12_opensOne_29 (by decide) (by show ((-2147483648) : Int) ≤ 0 ∧ (0 : Int) ≤ 2147483647; decide) (fun c_2 => ?_) (fun c_2 => by exfalso; omega)
    refine lv_aload_n hx hb dX12_opensOne_42 rfl (lv_at hlv 0 rfl) ?_
    refine lv_dup hx hb dX12_opensOne_43 rfl ?_
    refine va_get (D := D) (ci := 12) (v := vI opn) (C := RX12) (T := TX12) (N := 38) hx hb hts hi12 hown hG.1 hP 0 rfl rfl 7 (by decide) lf120 (fun _ h9 => h9) rfl dX12_opensOne_44 ?_
    refine lv_iconst (v := iI 1) hx hb dX12_opensOne_47 (by decide) ?_
    refine lv_iadd hx hb dX12_opensOne_48 ?_
    refine lt_e (e0 := opn + 1) (Int32.ofInt_add _ _).symm (fun z_3 hz_3 => ?_)
    refine va_put (D := D) (ci := 12) (v := vI z_3) (ty := .int) (C := RX12) (T := TX12) (N := 38) hx hb hts hi12 tyX12 tyX12_ok nmX12 hown hG.1 hP hD hS 0 rfl rfl 7 (by decide) lf120 (fun _ h9 => h9) rfl (by decide +kernel) rfl rfl (Nat.le_of_ble_eq_true rfl) dX12_opensOne_49 (fun H locs hP hD hS => ?_)
    obtain ⟨hP, hD⟩ := pw9 [zO mm 12 [vI th, vR m1, vI tp, vI sz_, vI ap, vI bad, vI bk, vI z_3, vI fp, vR m9, vR m10, vR m11, vR m12, vR m13, vR m14, vR m15, vI im, vI nr, vI nl, vR m19, vR m20, vR m21, vI sp_, vR m23, vR m24, vR m25, vR m26, vR m27, vR m28, vI wtc, vI wcl, vI ir, vI ip, vR m33, vI shu, vR m35, vI sfa, vI swr]] hP hD
    refine W.widen (k := 0) (n := 0) (Nat.le_of_ble_eq_true rfl) (Nat.le_of_ble_eq_true rfl) ?_
    exact W.vret hx hb hr (fun t ht hW => ⟨⟨((fun k => ([] : List Nat).getD k 0), (fun k => ([ap, bad, bk, z_3] : List Int).getD k 0), (fun k => ([] : List (Nat → Int32)).getD k (fun _ => 0))), rfl, ⟨(by show (0 ≤ ap ∧ ap ≤ 602); first | exact hr_ap | omega), (by show ((-1) ≤ bad ∧ bad ≤ 602); first | exact hr_bad | omega), (by show (0 ≤ bk ∧ bk ≤ 4); first | exact hr_bk | omega), (by show (0 ≤ z_3 ∧ z_3 ≤ 7); omega), (by show (z_3 = opn + 1); omega), (by show (bad = -1 → bad = -1 ∧ opn ≤ 5 ∧ ap = ap + n); omega), (by show (ap ≤ ap); omega)⟩, at9 ht hP hD [0] (by decide +kernel) rfl⟩, hS.F ht⟩) hS.2.2 dX12_opensOne_52
  · refine lv_aload_n hx hb dX12_opensOne_7 rfl (lv_at hlv 0 rfl) ?_
    refine va_get (D := D) (ci := 12) (v := vI opn) (C := RX12) (T := TX12) (N := 38) hx hb hts hi12 hown hG.1 hP 0 rfl rfl 7 (by decide) lf120 (fun _ h9 => h9) rfl dX12_opensOne_8 ?_
    refine lv_bipush (v := iI 6) hx hb dX12_opensOne_11 (by decide) ?_
    refine ir_ne (tgt := 25) hx hb dX12_opensOne_13 (by decide) (by first | exact rgw hr_opn (by decide) (by decide) | omega) (by show ((-2147483648) : Int) ≤ 6 ∧ (6 : Int) ≤ 2147483647; decide) (fun c_4 => ?_) (fun c_4 => ?_)
    · refine lv_aload_n hx hb dX12_opensOne_25 rfl (lv_at hlv 0 rfl) ?_
      refine cjr_i [false] (fun pre9 => (va_runV (As := []) (rest := []) ⟨hx, hb, hml, hown, hts⟩ (m_fine l hl D cy sa mm m1 m9 m10 m11 m12 m13 m14 m15 m19 m20 m21 m23 m24 m25 m26 m27 m28 m33 m35 th tp sz_ ap bad bk opn fp im nr nl sp_ wtc wcl ir ip shu sfa swr H.size (by first | exact hr_th | omega) (by first | exact hr_tp | omega) (by first | exact hr_sz_ | omega) (by first | exact hr_ap | omega) (by first | exact hr_bad | omega) (by first | exact hr_bk | omega) (by first | exact rgw hr_opn (by decide) (by decide) | omega) (by first | exact hr_fp | omega) (by first | exact hr_im | omega) (by first | exact hr_nr | omega) (by first | exact hr_nl | omega) (by first | exact hr_sp_ | omega) (by first | exact hr_wtc | omega) (by first | exact hr_wcl | omega) (by first | exact hr_ir | omega) (by first | exact hr_ip | omega) (by first | exact hr_shu | omega) (by first | exact hr_sfa | omega) (by first | exact hr_swr | omega)) (cwV 0 hts gg_0 rfl rfl rfl (by decide +kernel) ⟨Nat.le_of_ble_eq_true rfl, Nat.le_of_ble_eq_true rfl⟩) ⟨pcW.blind, (va_recv hG.1 hP (ci := 12) (q0 := 0) rfl rfl), pre9⟩ rfl rfl hlv.1 rfl (lv_room (Nat.le_of_ble_eq_true rfl)) dX12_opensOne_26 ⟨Nat.le_of_ble_eq_true rfl, Nat.le_of_ble_eq_true rfl⟩)) hP hD hS hA hG hT [0] rfl (by decide +kernel) (fun r3 u3 H locs hw3 hq9 hS => ?_)
      obtain ⟨rfl, hq3_1, hq3_2, hq3_3⟩ := hw3
      obtain ⟨hP, hD⟩ := pd9 [zO mm 12 [vI th, vR m1, vI tp, vI sz_, vI ap, vI bad, vI bk, vI opn, vI fp, vR m9, vR m10, vR m11, vR m12, vR m13, vR m14, vR m15, vI im, vI nr, vI nl, vR m19, vR m20, vR m21, vI sp_, vR m23, vR m24, vR m25, vR m26, vR m27, vR m28, vI wtc, vI wcl, vI ir, vI ip, vR m33, vI shu, vR m35, vI sfa, vI swr]] hq9
      refine lt_i (y := iI 1) (by rw [show (u3.2.1 0) = 1 by omega]) ?_
      refine iz_eq (tgt := 42) hx hb dX12_opensOne_29 (by decide) (by show ((-2147483648) : Int) ≤ 1 ∧ (1 : Int) ≤ 2147483647; decide) (fun c_5 => by exfalso; omega) (fun c_5 => ?_)
      refine lv_aload_n hx hb dX12_opensOne_32 rfl (lv_at hlv 0 rfl) ?_
      refine lv_dup hx hb dX12_opensOne_33 rfl ?_
      refine va_get (D := D) (ci := 12) (v := vI ap) (C := RX12) (T := TX12) (N := 38) hx hb hts hi12 hown hG.1 hP 0 rfl rfl 4 (by decide) lf86 (fun _ h9 => h9) rfl dX12_opensOne_34 ?_
      refine lv_iload_n hx hb dX12_opensOne_37 rfl (lv_at hlv 1 rfl) ?_
      refine lv_iadd hx hb dX12_opensOne_38 ?_
      refine lt_e (e0 := ap + n) (Int32.ofInt_add _ _).symm (fun z_6 hz_6 => ?_)
      refine va_put (D := D) (ci := 12) (v := vI z_6) (ty := .int) (C := RX12) (T := TX12) (N := 38) hx hb hts hi12 tyX12 tyX12_ok nmX12 hown hG.1 hP hD hS 0 rfl rfl 4 (by decide) lf86 (fun _ h9 => h9) rfl (by decide +kernel) rfl rfl (Nat.le_of_ble_eq_true rfl) dX12_opensOne_39 (fun H locs hP hD hS => ?_)
      obtain ⟨hP, hD⟩ := pw9 [zO mm 12 [vI th, vR m1, vI tp, vI sz_, vI z_6, vI bad, vI bk, vI opn, vI fp, vR m9, vR m10, vR m11, vR m12, vR m13, vR m14, vR m15, vI im, vI nr, vI nl, vR m19, vR m20, vR m21, vI sp_, vR m23, vR m24, vR m25, vR m26, vR m27, vR m28, vI wtc, vI wcl, vI ir, vI ip, vR m33, vI shu, vR m35, vI sfa, vI swr]] hP hD
      refine lv_aload_n hx hb dX12_opensOne_42 rfl (lv_at hlv 0 rfl) ?_
      refine lv_dup hx hb dX12_opensOne_43 rfl ?_
      refine va_get (D := D) (ci := 12) (v := vI opn) (C := RX12) (T := TX12) (N := 38) hx hb hts hi12 hown hG.1 hP 0 rfl rfl 7 (by decide) lf120 (fun _ h9 => h9) rfl dX12_opensOne_44 ?_
      refine lv_iconst (v := iI 1) hx hb dX12_opensOne_47 (by decide) ?_
      refine lv_iadd hx hb dX12_opensOne_48 ?_
      refine lt_e (e0 := opn + 1) (Int32.ofInt_add _ _).symm (fun z_7 hz_7 => ?_)
      refine va_put (D := D) (ci := 12) (v := vI z_7) (ty := .int) (C := RX12) (T := TX12) (N := 38) hx hb hts hi12 tyX12 tyX12_ok nmX12 hown hG.1 hP hD hS 0 rfl rfl 7 (by decide) lf120 (fun _ h9 => h9) rfl (by decide +kernel) rfl rfl (Nat.le_of_ble_eq_true rfl) dX12_opensOne_49 (fun H locs hP hD hS => ?_)
      obtain ⟨hP, hD⟩ := pw9 [zO mm 12 [vI th, vR m1, vI tp, vI sz_, vI z_6, vI bad, vI bk, vI z_7, vI fp, vR m9, vR m10, vR m11, vR m12, vR m13, vR m14, vR m15, vI im, vI nr, vI nl, vR m19, vR m20, vR m21, vI sp_, vR m23, vR m24, vR m25, vR m26, vR m27, vR m28, vI wtc, vI wcl, vI ir, vI ip, vR m33, vI shu, vR m35, vI sfa, vI swr]] hP hD
      refine W.widen (k := 0) (n := 0) (Nat.le_of_ble_eq_true rfl) (Nat.le_of_ble_eq_true rfl) ?_
      exact W.vret hx hb hr (fun t ht hW => ⟨⟨((fun k => ([] : List Nat).getD k 0), (fun k => ([z_6, bad, bk, z_7] : List Int).getD k 0), (fun k => ([] : List (Nat → Int32)).getD k (fun _ => 0))), rfl, ⟨(by show (0 ≤ z_6 ∧ z_6 ≤ 602); omega), (by show ((-1) ≤ bad ∧ bad ≤ 602); first | exact hr_bad | omega), (by show (0 ≤ bk ∧ bk ≤ 4); first | exact hr_bk | omega), (by show (0 ≤ z_7 ∧ z_7 ≤ 7); omega), (by show (z_7 = opn + 1); omega), (by show (bad = -1 → bad = -1 ∧ opn ≤ 5 ∧ z_6 = ap + n); omega), (by show (ap ≤ z_6); omega)⟩, at9 ht hP hD [0] (by decide +kernel) rfl⟩, hS.F ht⟩) hS.2.2 dX12_opensOne_52
    · refine lv_aload_n hx hb dX12_opensOne_16 rfl (lv_at hlv 0 rfl) ?_
      refine lv_iconst (v := iI 3) hx hb dX12_opensOne_17 (by decide) ?_
      refine lv_aload_n hx hb dX12_opensOne_18 rfl (lv_at hlv 0 rfl) ?_
      refine va_get (D := D) (ci := 12) (v := vI ap) (C := RX12) (T := TX12) (N := 38) hx hb hts hi12 hown hG.1 hP 0 rfl rfl 4 (by decide) lf86 (fun _ h9 => h9) rfl dX12_opensOne_19 ?_
      refine cjr_v [false] (fun pre9 => (va_runV (As := [vI 3, vI ap]) (rest := []) ⟨hx, hb, hml, hown, hts⟩ (m_wrong l hl D cy sa mm m1 m9 m10 m11 m12 m13 m14 m15 m19 m20 m21 m23 m24 m25 m26 m27 m28 m33 m35 th tp sz_ ap bad bk opn fp im nr nl sp_ wtc wcl ir ip shu sfa swr 3 ap H.size (by first | exact hr_th | omega) (by first | exact hr_tp | omega) (by first | exact hr_sz_ | omega) (by first | exact hr_ap | omega) (by first | exact hr_bad | omega) (by first | exact hr_bk | omega) (by first | exact rgw hr_opn (by decide) (by decide) | omega) (by first | exact hr_fp | omega) (by first | exact hr_im | omega) (by first | exact hr_nr | omega) (by first | exact hr_nl | omega) (by first | exact hr_sp_ | omega) (by first | exact hr_wtc | omega) (by first | exact hr_wcl | omega) (by first | exact hr_ir | omega) (by first | exact hr_ip | omega) (by first | exact hr_shu | omega) (by first | exact hr_sfa | omega) (by first | exact hr_swr | omega) (by show (1 : Int) ≤ 3 ∧ (3 : Int) ≤ 4; decide) (by first | exact hr_ap | omega)) (cwV 2 hts gg_2 rfl rfl rfl (by decide +kernel) ⟨Nat.le_of_ble_eq_true rfl, Nat.le_of_ble_eq_true rfl⟩) ⟨pcW.blind, (va_recv hG.1 hP (ci := 12) (q0 := 0) rfl rfl), pre9⟩ rfl rfl hlv.1 rfl (lv_room (Nat.le_of_ble_eq_true rfl)) dX12_opensOne_22 ⟨Nat.le_of_ble_eq_true rfl, Nat.le_of_ble_eq_true rfl⟩)) hP hD hS hA hG hT [0] rfl (by decide +kernel) (fun u4 H locs hw4 hq9 hS => ?_)
      obtain ⟨hq4_0, hq4_1, hq4_2, hq4_3⟩ := hw4
      obtain ⟨hP, hD⟩ := pd9 [zO mm 12 [vI th, vR m1, vI tp, vI sz_, vI ap, vI (u4.2.1 0), vI (u4.2.1 1), vI opn, vI fp, vR m9, vR m10, vR m11, vR m12, vR m13, vR m14, vR m15, vI im, vI nr, vI nl, vR m19, vR m20, vR m21, vI sp_, vR m23, vR m24, vR m25, vR m26, vR m27, vR m28, vI wtc, vI wcl, vI ir, vI ip, vR m33, vI shu, vR m35, vI sfa, vI swr]] hq9
      refine lv_aload_n hx hb dX12_opensOne_25 rfl (lv_at hlv 0 rfl) ?_
      refine cjr_i [false] (fun pre9 => (va_runV (As := []) (rest := []) ⟨hx, hb, hml, hown, hts⟩ (m_fine l hl D cy sa mm m1 m9 m10 m11 m12 m13 m14 m15 m19 m20 m21 m23 m24 m25 m26 m27 m28 m33 m35 th tp sz_ ap (u4.2.1 0) (u4.2.1 1) opn fp im nr nl sp_ wtc wcl ir ip shu sfa swr H.size (by first | exact hr_th | omega) (by first | exact hr_tp | omega) (by first | exact hr_sz_ | omega) (by first | exact hr_ap | omega) (by first | exact rgw hq4_0 (by decide) (by decide) | omega) (by first | exact hq4_1 | omega) (by first | exact rgw hr_opn (by decide) (by decide) | omega) (by first | exact hr_fp | omega) (by first | exact hr_im | omega) (by first | exact hr_nr | omega) (by first | exact hr_nl | omega) (by first | exact hr_sp_ | omega) (by first | exact hr_wtc | omega) (by first | exact hr_wcl | omega) (by first | exact hr_ir | omega) (by first | exact hr_ip | omega) (by first | exact hr_shu | omega) (by first | exact hr_sfa | omega) (by first | exact hr_swr | omega)) (cwV 0 hts gg_0 rfl rfl rfl (by decide +kernel) ⟨Nat.le_of_ble_eq_true rfl, Nat.le_of_ble_eq_true rfl⟩) ⟨pcW.blind, (va_recv hG.1 hP (ci := 12) (q0 := 0) rfl rfl), pre9⟩ rfl rfl hlv.1 rfl (lv_room (Nat.le_of_ble_eq_true rfl)) dX12_opensOne_26 ⟨Nat.le_of_ble_eq_true rfl, Nat.le_of_ble_eq_true rfl⟩)) hP hD hS hA hG hT [0] rfl (by decide +kernel) (fun r5 u5 H locs hw5 hq9 hS => ?_)
      obtain ⟨rfl, hq5_1, hq5_2, hq5_3⟩ := hw5
      obtain ⟨hP, hD⟩ := pd9 [zO mm 12 [vI th, vR m1, vI tp, vI sz_, vI ap, vI (u4.2.1 0), vI (u4.2.1 1), vI opn, vI fp, vR m9, vR m10, vR m11, vR m12, vR m13, vR m14, vR m15, vI im, vI nr, vI nl, vR m19, vR m20, vR m21, vI sp_, vR m23, vR m24, vR m25, vR m26, vR m27, vR m28, vI wtc, vI wcl, vI ir, vI ip, vR m33, vI shu, vR m35, vI sfa, vI swr]] hq9
      refine lt_i (y := iI 0) (by rw [show (u5.2.1 0) = 0 by omega]) ?_
      refine iz_eq (tgt := 42) hx hb dX12_opensOne_29 (by decide) (by show ((-2147483648) : Int) ≤ 0 ∧ (0 : Int) ≤ 2147483647; decide) (fun c_8 => ?_) (fun c_8 => by exfalso; omega)
      refine lv_aload_n hx hb dX12_opensOne_42 rfl (lv_at hlv 0 rfl) ?_
      refine lv_dup hx hb dX12_opensOne_43 rfl ?_
      refine va_get (D := D) (ci := 12) (v := vI opn) (C := RX12) (T := TX12) (N := 38) hx hb hts hi12 hown hG.1 hP 0 rfl rfl 7 (by decide) lf120 (fun _ h9 => h9) rfl dX12_opensOne_44 ?_
      refine lv_iconst (v := iI 1) hx hb dX12_opensOne_47 (by decide) ?_
      refine lv_iadd hx hb dX12_opensOne_48 ?_
      refine lt_e (e0 := opn + 1) (Int32.ofInt_add _ _).symm (fun z_9 hz_9 => ?_)
      refine va_put (D := D) (ci := 12) (v := vI z_9) (ty := .int) (C := RX12) (T := TX12) (N := 38) hx hb hts hi12 tyX12 tyX12_ok nmX12 hown hG.1 hP hD hS 0 rfl rfl 7 (by decide) lf120 (fun _ h9 => h9) rfl (by decide +kernel) rfl rfl (Nat.le_of_ble_eq_true rfl) dX12_opensOne_49 (fun H locs hP hD hS => ?_)
      obtain ⟨hP, hD⟩ := pw9 [zO mm 12 [vI th, vR m1, vI tp, vI sz_, vI ap, vI (u4.2.1 0), vI (u4.2.1 1), vI z_9, vI fp, vR m9, vR m10, vR m11, vR m12, vR m13, vR m14, vR m15, vI im, vI nr, vI nl, vR m19, vR m20, vR m21, vI sp_, vR m23, vR m24, vR m25, vR m26, vR m27, vR m28, vI wtc, vI wcl, vI ir, vI ip, vR m33, vI shu, vR m35, vI sfa, vI swr]] hP hD
      refine W.widen (k := 0) (n := 0) (Nat.le_of_ble_eq_true rfl) (Nat.le_of_ble_eq_true rfl) ?_
      exact W.vret hx hb hr (fun t ht hW => ⟨⟨((fun k => ([] : List Nat).getD k 0), (fun k => ([ap, (u4.2.1 0), (u4.2.1 1), z_9] : List Int).getD k 0), (fun k => ([] : List (Nat → Int32)).getD k (fun _ => 0))), rfl, ⟨(by show (0 ≤ ap ∧ ap ≤ 602); first | exact hr_ap | omega), (by show ((-1) ≤ (u4.2.1 0) ∧ (u4.2.1 0) ≤ 602); first | exact rgw hq4_0 (by decide) (by decide) | omega), (by show (0 ≤ (u4.2.1 1) ∧ (u4.2.1 1) ≤ 4); first | exact hq4_1 | omega), (by show (0 ≤ z_9 ∧ z_9 ≤ 7); omega), (by show (z_9 = opn + 1); omega), (by show ((u4.2.1 0) = -1 → bad = -1 ∧ opn ≤ 5 ∧ ap = ap + n); omega), (by show (ap ≤ ap); omega)⟩, at9 ht hP hD [0] (by decide +kernel) rfl⟩, hS.F ht⟩) hS.2.2 dX12_opensOne_52
def vs_m_keyword : List Cond := .code yX12_keyword cX12_keyword 2 none :: (([.fieldLink RX12 86 "KerbSplashModel" "at" "I"] : List Cond) ++ ((wsV RX12 109 RX12 yX12_fine vs_m_fine) ++ ((wsV RX12 145 RX12 yX12_word vs_m_word) ++ ((wsV RX12 148 RX12 yX12_pass vs_m_pass) ++ ((wsX120) ++ ((wsV RX12 116 RX12 yX12_wrong vs_m_wrong) ++ ([])))))))
theorem gd_m_keyword : vs_m_keyword.all goodWord = true := gd_C (by decide +kernel) (gd_A (by decide +kernel) (gd_A (gd_V gd_m_fine (by decide +kernel)) (gd_A (gd_V gd_m_word (by decide +kernel)) (gd_A (gd_V gd_m_pass (by decide +kernel)) (gd_A (by decide +kernel) (gd_A (gd_V gd_m_wrong (by decide +kernel)) rfl))))))
set_option maxHeartbeats 4000000 in
set_option maxRecDepth 100000 in
theorem m_keyword (l : Launch) (hl : l.stackTraces = false) (D : va_G) (cy : Nat → ClassId) (sa : Nat → Nat) (mm m1 m9 m10 m11 m12 m13 m14 m15 m19 m20 m21 m23 m24 m25 m26 m27 m28 m33 m35 : Nat) (th tp sz_ ap bad bk opn fp im nr nl sp_ wtc wcl ir ip shu sfa swr : Int) (f9 : Nat → Int32) (w : Int) (sz : Nat) (hr_th : (-2147483648) ≤ th ∧ th ≤ 2147483647) (hr_tp : 0 ≤ tp ∧ tp ≤ 600) (hr_sz_ : 0 ≤ sz_ ∧ sz_ ≤ 600) (hr_ap : 0 ≤ ap ∧ ap ≤ 602) (hr_bad : (-1) ≤ bad ∧ bad ≤ 602) (hr_bk : 0 ≤ bk ∧ bk ≤ 4) (hr_opn : 0 ≤ opn ∧ opn ≤ 7) (hr_fp : (-2147483648) ≤ fp ∧ fp ≤ 2147483647) (hr_im : 0 ≤ im ∧ im ≤ 3) (hr_nr : 0 ≤ nr ∧ nr ≤ 4) (hr_nl : 0 ≤ nl ∧ nl ≤ 4) (hr_sp_ : 0 ≤ sp_ ∧ sp_ ≤ 602) (hr_wtc : (-2147483648) ≤ wtc ∧ wtc ≤ 2147483647) (hr_wcl : 0 ≤ wcl ∧ wcl ≤ 95) (hr_ir : 0 ≤ ir ∧ ir ≤ 5) (hr_ip : (-2147483648) ≤ ip ∧ ip ≤ 2147483647) (hr_shu : (-2147483648) ≤ shu ∧ shu ≤ 2147483647) (hr_sfa : (-2147483648) ≤ sfa ∧ sfa ≤ 2147483647) (hr_swr : (-2147483648) ≤ swr ∧ swr ≤ 2147483647) (hr_w : (-2147483648) ≤ w ∧ w ≤ 2147483647) (hf9 : inv_ 600 0 255 f9) : mV9 l yX12_keyword vs_m_keyword ({ frames := 2, cells := 0, slots := 0, locals := 43 }) D cy sa sz [vR mm, vI w] [zO mm 12 [vI th, vR m1, vI tp, vI sz_, vI ap, vI bad, vI bk, vI opn, vI fp, vR m9, vR m10, vR m11, vR m12, vR m13, vR m14, vR m15, vI im, vI nr, vI nl, vR m19, vR m20, vR m21, vI sp_, vR m23, vR m24, vR m25, vR m26, vR m27, vR m28, vI wtc, vI wcl, vI ir, vI ip, vR m33, vI shu, vR m35, vI sfa, vI swr], zI m9 (cy 0) 600 f9] (fun u : SV => (0 ≤ u.2.1 0 ∧ u.2.1 0 ≤ 602) ∧ ((-1) ≤ u.2.1 1 ∧ u.2.1 1 ≤ 602) ∧ (0 ≤ u.2.1 2 ∧ u.2.1 2 ≤ 4) ∧ (ap ≤ u.2.1 0) ∧ (u.2.1 1 = -1 → bad = -1) ∧ inv_ 600 0 255 f9) (fun u : SV => [zO mm 12 [vI th, vR m1, vI tp, vI sz_, vI (u.2.1 0), vI (u.2.1 1), vI (u.2.1 2), vI opn, vI fp, vR m9, vR m10, vR m11, vR m12, vR m13, vR m14, vR m15, vI im, vI nr, vI nl, vR m19, vR m20, vR m21, vI sp_, vR m23, vR m24, vR m25, vR m26, vR m27, vR m28, vI wtc, vI wcl, vI ir, vI ip, vR m33, vI shu, vR m35, vI sfa, vI swr], zI m9 (cy 0) 600 f9]) 0 0 := by
  refine Met.ofW (cc := cX12_keyword) (maxL := 2) (ret := none) (by decide) rfl ?_
  intro p e s m args below meth c s₁ B hml hv
  obtain ⟨rfl, hsz, hP, hG, hD0, hT⟩ := hv
  have hx := B.exec
  have hb := B.bytes
  have hr := B.returns
  have hts := atoms_spec (ws := vs_m_keyword) B.pre
  have hown : s.vm.findClass RX12 = some m.cls := findClass_of_methodNamed B.named
  have hlocks := B.notSynchronized
  subst hsz
  have hD := hD0.self (sz := s.heap.size)
  generalize hAe : va_A [zO mm 12 [vI th, vR m1, vI tp, vI sz_, vI ap, vI bad, vI bk, vI opn, vI fp, vR m9, vR m10, vR m11, vR m12, vR m13, vR m14, vR m15, vI im, vI nr, vI nl, vR m19, vR m20, vR m21, vI sp_, vR m23, vR m24, vR m25, vR m26, vR m27, vR m28, vI wtc, vI wcl, vI ir, vI ip, vR m33, vI shu, vR m35, vI sfa, vI swr], zI m9 (cy 0) 600 f9] s.heap.size = A at hD hT ⊢
  have hA : ∀ q : Nat, s.heap.size ≤ q → A q := fun q h => by rw [← hAe]; exact Or.inr h
  have hS : va_S A s.heap s.heap [] := va_S.rf
  have hl0 := lv_entry ([vR mm, vI w]) (n := 2) (Nat.le_of_ble_eq_true rfl)
  rw [lg_entry_eq]
  generalize (lg_sl ([vR mm, vI w]) ++ List.replicate (2 - (lg_sl ([vR mm, vI w])).length) Slot.unset).toArray = ls at hl0 ⊢
  have hlv : lv_has ls 2 [(0, vR mm), (1, vI w)] := hl0
  have gg_0 : GoodIn vs_m_keyword (wsV RX12 109 RX12 yX12_fine vs_m_fine) := goodIn_sub (fun w h => List.mem_cons_of_mem _ (List.mem_append_right _ (List.mem_append_left _ h))) (gd_V gd_m_fine (by decide +kernel))
  have gg_1 : GoodIn vs_m_keyword (wsV RX12 145 RX12 yX12_word vs_m_word) := goodIn_sub (fun w h => List.mem_cons_of_mem _ (List.mem_append_right _ (List.mem_append_right _ (List.mem_append_left _ h)))) (gd_V gd_m_word (by decide +kernel))
  have gg_2 : GoodIn vs_m_keyword (wsV RX12 148 RX12 yX12_pass vs_m_pass) := goodIn_sub (fun w h => List.mem_cons_of_mem _ (List.mem_append_right _ (List.mem_append_right _ (List.mem_append_right _ (List.mem_append_left _ h))))) (gd_V gd_m_pass (by decide +kernel))
  have lf86 := hts (.fieldLink RX12 86 "KerbSplashModel" "at" "I") (List.mem_of_getElem? (i := 1) rfl)
  have hi12 : ∀ w ∈ wsX120, w ∈ vs_m_keyword := fun w h => List.mem_cons_of_mem _ (List.mem_append_right _ (List.mem_append_right _ (List.mem_append_right _ (List.mem_append_right _ (List.mem_append_left _ h)))))
  have gg_4 : GoodIn vs_m_keyword (wsV RX12 116 RX12 yX12_wrong vs_m_wrong) := goodIn_sub (fun w h => List.mem_cons_of_mem _ (List.mem_append_right _ (List.mem_append_right _ (List.mem_append_right _ (List.mem_append_right _ (List.mem_append_right _ (List.mem_append_left _ h))))))) (gd_V gd_m_wrong (by decide +kernel))
  refine lv_aload_n hx hb dX12_keyword_0 rfl (lv_at hlv 0 rfl) ?_
  refine cjr_i [false, true] (fun pre9 => (va_runV (As := []) (rest := []) ⟨hx, hb, hml, hown, hts⟩ (m_fine l hl D cy sa mm m1 m9 m10 m11 m12 m13 m14 m15 m19 m20 m21 m23 m24 m25 m26 m27 m28 m33 m35 th tp sz_ ap bad bk opn fp im nr nl sp_ wtc wcl ir ip shu sfa swr s.heap.size (by first | exact hr_th | omega) (by first | exact hr_tp | omega) (by first | exact hr_sz_ | omega) (by first | exact hr_ap | omega) (by first | exact hr_bad | omega) (by first | exact hr_bk | omega) (by first | exact hr_opn | omega) (by first | exact hr_fp | omega) (by first | exact hr_im | omega) (by first | exact hr_nr | omega) (by first | exact hr_nl | omega) (by first | exact hr_sp_ | omega) (by first | exact hr_wtc | omega) (by first | exact hr_wcl | omega) (by first | exact hr_ir | omega) (by first | exact hr_ip | omega) (by first | exact hr_shu | omega) (by first | exact hr_sfa | omega) (by first | exact hr_swr | omega)) (cwV 0 hts gg_0 rfl rfl rfl (by decide +kernel) ⟨Nat.le_of_ble_eq_true rfl, Nat.le_of_ble_eq_true rfl⟩) ⟨pcW.blind, (va_recv hG.1 hP (ci := 12) (q0 := 0) rfl rfl), pre9⟩ rfl rfl hlv.1 rfl (lv_room (Nat.le_of_ble_eq_true rfl)) dX12_keyword_1 ⟨Nat.le_of_ble_eq_true rfl, Nat.le_of_ble_eq_true rfl⟩)) hP hD hS hA hG hT [0] rfl (by decide +kernel) (fun r1 u1 H locs hw1 hq9 hS => ?_)
  obtain ⟨rfl, hq1_1, hq1_2, hq1_3⟩ := hw1
  obtain ⟨hP, hD⟩ := pd9 [zI m9 (cy 0) 600 f9, zO mm 12 [vI th, vR m1, vI tp, vI sz_, vI ap, vI bad, vI bk, vI opn, vI fp, vR m9, vR m10, vR m11, vR m12, vR m13, vR m14, vR m15, vI im, vI nr, vI nl, vR m19, vR m20, vR m21, vI sp_, vR m23, vR m24, vR m25, vR m26, vR m27, vR m28, vI wtc, vI wcl, vI ir, vI ip, vR m33, vI shu, vR m35, vI sfa, vI swr]] hq9
  refine iz_eq (tgt := 24) hx hb dX12_keyword_4 (by decide) (by first | exact rgw hq1_1 (by decide) (by decide) | omega) (fun c_1 => ?_) (fun c_1 => ?_)
  · refine lv_aload_n hx hb dX12_keyword_24 rfl (lv_at hlv 0 rfl) ?_
    refine cjr_i [true, false] (fun pre9 => (va_runV (As := []) (rest := []) ⟨hx, hb, hml, hown, hts⟩ (m_fine l hl D cy sa mm m1 m9 m10 m11 m12 m13 m14 m15 m19 m20 m21 m23 m24 m25 m26 m27 m28 m33 m35 th tp sz_ ap bad bk opn fp im nr nl sp_ wtc wcl ir ip shu sfa swr H.size (by first | exact hr_th | omega) (by first | exact hr_tp | omega) (by first | exact hr_sz_ | omega) (by first | exact hr_ap | omega) (by first | exact hr_bad | omega) (by first | exact hr_bk | omega) (by first | exact hr_opn | omega) (by first | exact hr_fp | omega) (by first | exact hr_im | omega) (by first | exact hr_nr | omega) (by first | exact hr_nl | omega) (by first | exact hr_sp_ | omega) (by first | exact hr_wtc | omega) (by first | exact hr_wcl | omega) (by first | exact hr_ir | omega) (by first | exact hr_ip | omega) (by first | exact hr_shu | omega) (by first | exact hr_sfa | omega) (by first | exact hr_swr | omega)) (cwV 0 hts gg_0 rfl rfl rfl (by decide +kernel) ⟨Nat.le_of_ble_eq_true rfl, Nat.le_of_ble_eq_true rfl⟩) ⟨pcW.blind, (va_recv hG.1 hP (ci := 12) (q0 := 1) rfl rfl), pre9⟩ rfl rfl hlv.1 rfl (lv_room (Nat.le_of_ble_eq_true rfl)) dX12_keyword_25 ⟨Nat.le_of_ble_eq_true rfl, Nat.le_of_ble_eq_true rfl⟩)) hP hD hS hA hG hT [1] rfl (by decide +kernel) (fun r2 u2 H locs hw2 hq9 hS => ?_)
    obtain ⟨rfl, hq2_1, hq2_2, hq2_3⟩ := hw2
    obtain ⟨hP, hD⟩ := pd9 [zI m9 (cy 0) 600 f9, zO mm 12 [vI th, vR m1, vI tp, vI sz_, vI ap, vI bad, vI bk, vI opn, vI fp, vR m9, vR m10, vR m11, vR m12, vR m13, vR m14, vR m15, vI im, vI nr, vI nl, vR m19, vR m20, vR m21, vI sp_, vR m23, vR m24, vR m25, vR m26, vR m27, vR m28, vI wtc, vI wcl, vI ir, vI ip, vR m33, vI shu, vR m35, vI sfa, vI swr]] hq9
    refine lt_i (y := iI 0) (by rw [show (u2.2.1 0) = 0 by omega]) ?_
    refine iz_eq (tgt := 35) hx hb dX12_keyword_28 (by decide) (by show ((-2147483648) : Int) ≤ 0 ∧ (0 : Int) ≤ 2147483647; decide) (fun c_2 => ?_) (fun c_2 => by exfalso; omega)
    refine W.widen (k := 0) (n := 0) (Nat.le_of_ble_eq_true rfl) (Nat.le_of_ble_eq_true rfl) ?_
    exact W.vret hx hb hr (fun t ht hW => ⟨⟨((fun k => ([] : List Nat).getD k 0), (fun k => ([ap, bad, bk] : List Int).getD k 0), (fun k => ([] : List (Nat → Int32)).getD k (fun _ => 0))), rfl, ⟨(by show (0 ≤ ap ∧ ap ≤ 602); first | exact hr_ap | omega), (by show ((-1) ≤ bad ∧ bad ≤ 602); first | exact hr_bad | omega), (by show (0 ≤ bk ∧ bk ≤ 4); first | exact hr_bk | omega), (by show (ap ≤ ap); omega), (by show (bad = -1 → bad = -1); omega), hf9⟩, at9 ht hP hD [1, 0] (by decide +kernel) rfl⟩, hS.F ht⟩) hS.2.2 dX12_keyword_35
  · refine lv_aload_n hx hb dX12_keyword_7 rfl (lv_at hlv 0 rfl) ?_
    refine cjr_i [false, false] (fun pre9 => (va_runV (As := []) (rest := []) ⟨hx, hb, hml, hown, hts⟩ (m_word l hl D cy sa mm m1 m9 m10 m11 m12 m13 m14 m15 m19 m20 m21 m23 m24 m25 m26 m27 m28 m33 m35 th tp sz_ ap bad bk opn fp im nr nl sp_ wtc wcl ir ip shu sfa swr f9 H.size (by first | exact hr_th | omega) (by first | exact hr_tp | omega) (by first | exact hr_sz_ | omega) (by first | exact hr_ap | omega) (by first | exact hr_bad | omega) (by first | exact hr_bk | omega) (by first | exact hr_opn | omega) (by first | exact hr_fp | omega) (by first | exact hr_im | omega) (by first | exact hr_nr | omega) (by first | exact hr_nl | omega) (by first | exact hr_sp_ | omega) (by first | exact hr_wtc | omega) (by first | exact hr_wcl | omega) (by first | exact hr_ir | omega) (by first | exact hr_ip | omega) (by first | exact hr_shu | omega) (by first | exact hr_sfa | omega) (by first | exact hr_swr | omega) hf9) (cwV 0 hts gg_1 rfl rfl rfl (by decide +kernel) ⟨Nat.le_of_ble_eq_true rfl, Nat.le_of_ble_eq_true rfl⟩) ⟨pcW.blind, (va_recv hG.1 hP (ci := 12) (q0 := 1) rfl rfl), pre9⟩ rfl rfl hlv.1 rfl (lv_room (Nat.le_of_ble_eq_true rfl)) dX12_keyword_8 ⟨Nat.le_of_ble_eq_true rfl, Nat.le_of_ble_eq_true rfl⟩)) hP hD hS hA hG hT [1, 0] rfl (by decide +kernel) (fun r3 u3 H locs hw3 hq9 hS => ?_)
    obtain ⟨rfl, hq3_1, hq3_2, hq3_3, hq3_4, hq3_5, hq3_6, hq3_7, hq3_8, hq3_9⟩ := hw3
    obtain ⟨hP, hD⟩ := pd9 [zO mm 12 [vI th, vR m1, vI tp, vI sz_, vI (u3.2.1 1), vI bad, vI bk, vI opn, vI fp, vR m9, vR m10, vR m11, vR m12, vR m13, vR m14, vR m15, vI im, vI nr, vI nl, vR m19, vR m20, vR m21, vI sp_, vR m23, vR m24, vR m25, vR m26, vR m27, vR m28, vI wtc, vI wcl, vI ir, vI ip, vR m33, vI shu, vR m35, vI sfa, vI swr], zI m9 (cy 0) 600 f9] hq9
    refine lv_iload_n hx hb dX12_keyword_11 rfl (lv_at hlv 1 rfl) ?_
    refine ir_eq (tgt := 24) hx hb dX12_keyword_12 (by decide) (by first | exact hq3_2 | omega) (by first | exact hr_w | omega) (fun c_3 => ?_) (fun c_3 => ?_)
    · refine lv_aload_n hx hb dX12_keyword_24 rfl (lv_at hlv 0 rfl) ?_
      refine cjr_i [false, true] (fun pre9 => (va_runV (As := []) (rest := []) ⟨hx, hb, hml, hown, hts⟩ (m_fine l hl D cy sa mm m1 m9 m10 m11 m12 m13 m14 m15 m19 m20 m21 m23 m24 m25 m26 m27 m28 m33 m35 th tp sz_ (u3.2.1 1) bad bk opn fp im nr nl sp_ wtc wcl ir ip shu sfa swr H.size (by first | exact hr_th | omega) (by first | exact hr_tp | omega) (by first | exact hr_sz_ | omega) (by first | exact hq3_1 | omega) (by first | exact hr_bad | omega) (by first | exact hr_bk | omega) (by first | exact hr_opn | omega) (by first | exact hr_fp | omega) (by first | exact hr_im | omega) (by first | exact hr_nr | omega) (by first | exact hr_nl | omega) (by first | exact hr_sp_ | omega) (by first | exact hr_wtc | omega) (by first | exact hr_wcl | omega) (by first | exact hr_ir | omega) (by first | exact hr_ip | omega) (by first | exact hr_shu | omega) (by first | exact hr_sfa | omega) (by first | exact hr_swr | omega)) (cwV 0 hts gg_0 rfl rfl rfl (by decide +kernel) ⟨Nat.le_of_ble_eq_true rfl, Nat.le_of_ble_eq_true rfl⟩) ⟨pcW.blind, (va_recv hG.1 hP (ci := 12) (q0 := 0) rfl rfl), pre9⟩ rfl rfl hlv.1 rfl (lv_room (Nat.le_of_ble_eq_true rfl)) dX12_keyword_25 ⟨Nat.le_of_ble_eq_true rfl, Nat.le_of_ble_eq_true rfl⟩)) hP hD hS hA hG hT [0] rfl (by decide +kernel) (fun r4 u4 H locs hw4 hq9 hS => ?_)
      obtain ⟨rfl, hq4_1, hq4_2, hq4_3⟩ := hw4
      obtain ⟨hP, hD⟩ := pd9 [zI m9 (cy 0) 600 f9, zO mm 12 [vI th, vR m1, vI tp, vI sz_, vI (u3.2.1 1), vI bad, vI bk, vI opn, vI fp, vR m9, vR m10, vR m11, vR m12, vR m13, vR m14, vR m15, vI im, vI nr, vI nl, vR m19, vR m20, vR m21, vI sp_, vR m23, vR m24, vR m25, vR m26, vR m27, vR m28, vI wtc, vI wcl, vI ir, vI ip, vR m33, vI shu, vR m35, vI sfa, vI swr]] hq9
      refine lt_i (y := iI 1) (by rw [show (u4.2.1 0) = 1 by omega]) ?_
      refine iz_eq (tgt := 35) hx hb dX12_keyword_28 (by decide) (by show ((-2147483648) : Int) ≤ 1 ∧ (1 : Int) ≤ 2147483647; decide) (fun c_4 => by exfalso; omega) (fun c_4 => ?_)
      refine lv_aload_n hx hb dX12_keyword_31 rfl (lv_at hlv 0 rfl) ?_
      refine cjr_v [false, false] (fun pre9 => (va_runV (As := []) (rest := []) ⟨hx, hb, hml, hown, hts⟩ (m_pass l hl D cy sa mm m1 m9 m10 m11 m12 m13 m14 m15 m19 m20 m21 m23 m24 m25 m26 m27 m28 m33 m35 th tp sz_ (u3.2.1 1) bad bk opn fp im nr nl sp_ wtc wcl ir ip shu sfa swr f9 H.size (by first | exact hr_th | omega) (by first | exact hr_tp | omega) (by first | exact hr_sz_ | omega) (by first | exact hq3_1 | omega) (by first | exact hr_bad | omega) (by first | exact hr_bk | omega) (by first | exact hr_opn | omega) (by first | exact hr_fp | omega) (by first | exact hr_im | omega) (by first | exact hr_nr | omega) (by first | exact hr_nl | omega) (by first | exact hr_sp_ | omega) (by first | exact hr_wtc | omega) (by first | exact hr_wcl | omega) (by first | exact hr_ir | omega) (by first | exact hr_ip | omega) (by first | exact hr_shu | omega) (by first | exact hr_sfa | omega) (by first | exact hr_swr | omega) hq3_9) (cwV 0 hts gg_2 rfl rfl rfl (by decide +kernel) ⟨Nat.le_of_ble_eq_true rfl, Nat.le_of_ble_eq_true rfl⟩) ⟨pcW.blind, (va_recv hG.1 hP (ci := 12) (q0 := 1) rfl rfl), pre9⟩ rfl rfl hlv.1 rfl (lv_room (Nat.le_of_ble_eq_true rfl)) dX12_keyword_32 ⟨Nat.le_of_ble_eq_true rfl, Nat.le_of_ble_eq_true rfl⟩)) hP hD hS hA hG hT [1, 0] rfl (by decide +kernel) (fun u5 H locs hw5 hq9 hS => ?_)
      obtain ⟨hq5_0, hq5_1, hq5_2, hq5_3, hq5_4⟩ := hw5
      obtain ⟨hP, hD⟩ := pd9 [zO mm 12 [vI th, vR m1, vI tp, vI sz_, vI (u5.2.1 0), vI bad, vI bk, vI opn, vI fp, vR m9, vR m10, vR m11, vR m12, vR m13, vR m14, vR m15, vI im, vI nr, vI nl, vR m19, vR m20, vR m21, vI sp_, vR m23, vR m24, vR m25, vR m26, vR m27, vR m28, vI wtc, vI wcl, vI ir, vI ip, vR m33, vI shu, vR m35, vI sfa, vI swr], zI m9 (cy 0) 600 f9] hq9
      refine W.widen (k := 0) (n := 0) (Nat.le_of_ble_eq_true rfl) (Nat.le_of_ble_eq_true rfl) ?_
      exact W.vret hx hb hr (fun t ht hW => ⟨⟨((fun k => ([] : List Nat).getD k 0), (fun k => ([(u5.2.1 0), bad, bk] : List Int).getD k 0), (fun k => ([] : List (Nat → Int32)).getD k (fun _ => 0))), rfl, ⟨(by show (0 ≤ (u5.2.1 0) ∧ (u5.2.1 0) ≤ 602); first | exact hq5_0 | omega), (by show ((-1) ≤ bad ∧ bad ≤ 602); first | exact hr_bad | omega), (by show (0 ≤ bk ∧ bk ≤ 4); first | exact hr_bk | omega), (by show (ap ≤ (u5.2.1 0)); omega), (by show (bad = -1 → bad = -1); omega), hq5_4⟩, at9 ht hP hD [0, 1] (by decide +kernel) rfl⟩, hS.F ht⟩) hS.2.2 dX12_keyword_35
    · refine lv_aload_n hx hb dX12_keyword_15 rfl (lv_at hlv 0 rfl) ?_
      refine lv_iconst (v := iI 1) hx hb dX12_keyword_16 (by decide) ?_
      refine lv_aload_n hx hb dX12_keyword_17 rfl (lv_at hlv 0 rfl) ?_
      refine va_get (D := D) (ci := 12) (v := vI (u3.2.1 1)) (C := RX12) (T := TX12) (N := 38) hx hb hts hi12 hown hG.1 hP 0 rfl rfl 4 (by decide) lf86 (fun _ h9 => h9) rfl dX12_keyword_18 ?_
      refine cjr_v [false, true] (fun pre9 => (va_runV (As := [vI 1, vI (u3.2.1 1)]) (rest := []) ⟨hx, hb, hml, hown, hts⟩ (m_wrong l hl D cy sa mm m1 m9 m10 m11 m12 m13 m14 m15 m19 m20 m21 m23 m24 m25 m26 m27 m28 m33 m35 th tp sz_ (u3.2.1 1) bad bk opn fp im nr nl sp_ wtc wcl ir ip shu sfa swr 1 (u3.2.1 1) H.size (by first | exact hr_th | omega) (by first | exact hr_tp | omega) (by first | exact hr_sz_ | omega) (by first | exact hq3_1 | omega) (by first | exact hr_bad | omega) (by first | exact hr_bk | omega) (by first | exact hr_opn | omega) (by first | exact hr_fp | omega) (by first | exact hr_im | omega) (by first | exact hr_nr | omega) (by first | exact hr_nl | omega) (by first | exact hr_sp_ | omega) (by first | exact hr_wtc | omega) (by first | exact hr_wcl | omega) (by first | exact hr_ir | omega) (by first | exact hr_ip | omega) (by first | exact hr_shu | omega) (by first | exact hr_sfa | omega) (by first | exact hr_swr | omega) (by show (1 : Int) ≤ 1 ∧ (1 : Int) ≤ 4; decide) (by first | exact hq3_1 | omega)) (cwV 2 hts gg_4 rfl rfl rfl (by decide +kernel) ⟨Nat.le_of_ble_eq_true rfl, Nat.le_of_ble_eq_true rfl⟩) ⟨pcW.blind, (va_recv hG.1 hP (ci := 12) (q0 := 0) rfl rfl), pre9⟩ rfl rfl hlv.1 rfl (lv_room (Nat.le_of_ble_eq_true rfl)) dX12_keyword_21 ⟨Nat.le_of_ble_eq_true rfl, Nat.le_of_ble_eq_true rfl⟩)) hP hD hS hA hG hT [0] rfl (by decide +kernel) (fun u6 H locs hw6 hq9 hS => ?_)
      obtain ⟨hq6_0, hq6_1, hq6_2, hq6_3⟩ := hw6
      obtain ⟨hP, hD⟩ := pd9 [zI m9 (cy 0) 600 f9, zO mm 12 [vI th, vR m1, vI tp, vI sz_, vI (u3.2.1 1), vI (u6.2.1 0), vI (u6.2.1 1), vI opn, vI fp, vR m9, vR m10, vR m11, vR m12, vR m13, vR m14, vR m15, vI im, vI nr, vI nl, vR m19, vR m20, vR m21, vI sp_, vR m23, vR m24, vR m25, vR m26, vR m27, vR m28, vI wtc, vI wcl, vI ir, vI ip, vR m33, vI shu, vR m35, vI sfa, vI swr]] hq9
      refine lv_aload_n hx hb dX12_keyword_24 rfl (lv_at hlv 0 rfl) ?_
      refine cjr_i [true, false] (fun pre9 => (va_runV (As := []) (rest := []) ⟨hx, hb, hml, hown, hts⟩ (m_fine l hl D cy sa mm m1 m9 m10 m11 m12 m13 m14 m15 m19 m20 m21 m23 m24 m25 m26 m27 m28 m33 m35 th tp sz_ (u3.2.1 1) (u6.2.1 0) (u6.2.1 1) opn fp im nr nl sp_ wtc wcl ir ip shu sfa swr H.size (by first | exact hr_th | omega) (by first | exact hr_tp | omega) (by first | exact hr_sz_ | omega) (by first | exact hq3_1 | omega) (by first | exact rgw hq6_0 (by decide) (by decide) | omega) (by first | exact hq6_1 | omega) (by first | exact hr_opn | omega) (by first | exact hr_fp | omega) (by first | exact hr_im | omega) (by first | exact hr_nr | omega) (by first | exact hr_nl | omega) (by first | exact hr_sp_ | omega) (by first | exact hr_wtc | omega) (by first | exact hr_wcl | omega) (by first | exact hr_ir | omega) (by first | exact hr_ip | omega) (by first | exact hr_shu | omega) (by first | exact hr_sfa | omega) (by first | exact hr_swr | omega)) (cwV 0 hts gg_0 rfl rfl rfl (by decide +kernel) ⟨Nat.le_of_ble_eq_true rfl, Nat.le_of_ble_eq_true rfl⟩) ⟨pcW.blind, (va_recv hG.1 hP (ci := 12) (q0 := 1) rfl rfl), pre9⟩ rfl rfl hlv.1 rfl (lv_room (Nat.le_of_ble_eq_true rfl)) dX12_keyword_25 ⟨Nat.le_of_ble_eq_true rfl, Nat.le_of_ble_eq_true rfl⟩)) hP hD hS hA hG hT [1] rfl (by decide +kernel) (fun r7 u7 H locs hw7 hq9 hS => ?_)
      obtain ⟨rfl, hq7_1, hq7_2, hq7_3⟩ := hw7
      obtain ⟨hP, hD⟩ := pd9 [zI m9 (cy 0) 600 f9, zO mm 12 [vI th, vR m1, vI tp, vI sz_, vI (u3.2.1 1), vI (u6.2.1 0), vI (u6.2.1 1), vI opn, vI fp, vR m9, vR m10, vR m11, vR m12, vR m13, vR m14, vR m15, vI im, vI nr, vI nl, vR m19, vR m20, vR m21, vI sp_, vR m23, vR m24, vR m25, vR m26, vR m27, vR m28, vI wtc, vI wcl, vI ir, vI ip, vR m33, vI shu, vR m35, vI sfa, vI swr]] hq9
      refine lt_i (y := iI 0) (by rw [show (u7.2.1 0) = 0 by omega]) ?_
      refine iz_eq (tgt := 35) hx hb dX12_keyword_28 (by decide) (by show ((-2147483648) : Int) ≤ 0 ∧ (0 : Int) ≤ 2147483647; decide) (fun c_5 => ?_) (fun c_5 => by exfalso; omega)
      refine W.widen (k := 0) (n := 0) (Nat.le_of_ble_eq_true rfl) (Nat.le_of_ble_eq_true rfl) ?_
      exact W.vret hx hb hr (fun t ht hW => ⟨⟨((fun k => ([] : List Nat).getD k 0), (fun k => ([(u3.2.1 1), (u6.2.1 0), (u6.2.1 1)] : List Int).getD k 0), (fun k => ([] : List (Nat → Int32)).getD k (fun _ => 0))), rfl, ⟨(by show (0 ≤ (u3.2.1 1) ∧ (u3.2.1 1) ≤ 602); first | exact hq3_1 | omega), (by show ((-1) ≤ (u6.2.1 0) ∧ (u6.2.1 0) ≤ 602); first | exact rgw hq6_0 (by decide) (by decide) | omega), (by show (0 ≤ (u6.2.1 1) ∧ (u6.2.1 1) ≤ 4); first | exact hq6_1 | omega), (by show (ap ≤ (u3.2.1 1)); omega), (by show ((u6.2.1 0) = -1 → bad = -1); omega), hq3_9⟩, at9 ht hP hD [1, 0] (by decide +kernel) rfl⟩, hS.F ht⟩) hS.2.2 dX12_keyword_35
def vs_m_nameHere : List Cond := .code yX12_nameHere cX12_nameHere 2 (some .int) :: (([] : List Cond) ++ ((wsV RX12 145 RX12 yX12_word vs_m_word) ++ ((va_wsS RX12 135 yX12_of vs_m_of22) ++ ((va_wsS RX12 135 yX12_of vs_m_of23) ++ ((va_wsS RX12 135 yX12_of vs_m_of24) ++ ((va_wsS RX12 135 yX12_of vs_m_of25) ++ ((va_wsS RX12 135 yX12_of vs_m_of26) ++ ((va_wsS RX12 135 yX12_of vs_m_of27) ++ ((wsV RX12 187 RX12 yX12_isWord vs_m_isWord) ++ ([]))))))))))
theorem gd_m_nameHere : vs_m_nameHere.all goodWord = true := gd_C (by decide +kernel) (gd_A (by decide +kernel) (gd_A (gd_V gd_m_word (by decide +kernel)) (gd_A (gd_S gd_m_of22 (by decide +kernel)) (gd_A (gd_S gd_m_of23 (by decide +kernel)) (gd_A (gd_S gd_m_of24 (by decide +kernel)) (gd_A (gd_S gd_m_of25 (by decide +kernel)) (gd_A (gd_S gd_m_of26 (by decide +kernel)) (gd_A (gd_S gd_m_of27 (by decide +kernel)) (gd_A (gd_V gd_m_isWord (by decide +kernel)) rfl)))))))))
set_option maxHeartbeats 4000000 in
set_option maxRecDepth 100000 in
theorem m_nameHere (l : Launch) (hl : l.stackTraces = false) (D : va_G) (cy : Nat → ClassId) (sa : Nat → Nat) (mm m1 m9 m10 m11 m12 m13 m14 m15 m19 m20 m21 m23 m24 m25 m26 m27 m28 m33 m35 : Nat) (th tp sz_ ap bad bk opn fp im nr nl sp_ wtc wcl ir ip shu sfa swr : Int) (f9 : Nat → Int32) (sz : Nat) (hr_th : (-2147483648) ≤ th ∧ th ≤ 2147483647) (hr_tp : 0 ≤ tp ∧ tp ≤ 600) (hr_sz_ : 0 ≤ sz_ ∧ sz_ ≤ 600) (hr_ap : 0 ≤ ap ∧ ap ≤ 602) (hr_bad : (-1) ≤ bad ∧ bad ≤ 602) (hr_bk : 0 ≤ bk ∧ bk ≤ 4) (hr_opn : 0 ≤ opn ∧ opn ≤ 7) (hr_fp : (-2147483648) ≤ fp ∧ fp ≤ 2147483647) (hr_im : 0 ≤ im ∧ im ≤ 3) (hr_nr : 0 ≤ nr ∧ nr ≤ 4) (hr_nl : 0 ≤ nl ∧ nl ≤ 4) (hr_sp_ : 0 ≤ sp_ ∧ sp_ ≤ 602) (hr_wtc : (-2147483648) ≤ wtc ∧ wtc ≤ 2147483647) (hr_wcl : 0 ≤ wcl ∧ wcl ≤ 95) (hr_ir : 0 ≤ ir ∧ ir ≤ 5) (hr_ip : (-2147483648) ≤ ip ∧ ip ≤ 2147483647) (hr_shu : (-2147483648) ≤ shu ∧ shu ≤ 2147483647) (hr_sfa : (-2147483648) ≤ sfa ∧ sfa ≤ 2147483647) (hr_swr : (-2147483648) ≤ swr ∧ swr ≤ 2147483647) (hf9 : inv_ 600 0 255 f9) : mI9 l yX12_nameHere vs_m_nameHere ({ frames := 5, cells := 0, slots := 0, locals := 107 }) D cy sa sz [vR mm] [zO mm 12 [vI th, vR m1, vI tp, vI sz_, vI ap, vI bad, vI bk, vI opn, vI fp, vR m9, vR m10, vR m11, vR m12, vR m13, vR m14, vR m15, vI im, vI nr, vI nl, vR m19, vR m20, vR m21, vI sp_, vR m23, vR m24, vR m25, vR m26, vR m27, vR m28, vI wtc, vI wcl, vI ir, vI ip, vR m33, vI shu, vR m35, vI sfa, vI swr], zI m9 (cy 0) 600 f9] (fun (r : Int32) (u : SV) => r = iI (u.2.1 0) ∧ (0 ≤ u.2.1 1 ∧ u.2.1 1 ≤ 602) ∧ ((-1) ≤ u.2.1 0 ∧ u.2.1 0 ≤ 6) ∧ (ap ≤ u.2.1 1) ∧ (0 ≤ u.2.1 0 → u.2.1 1 < sz_ ∧ 97 ≤ nz f9 (u.2.1 1).toNat ∧ nz f9 (u.2.1 1).toNat ≤ 122) ∧ inv_ 600 0 255 f9) (fun u : SV => [zO mm 12 [vI th, vR m1, vI tp, vI sz_, vI (u.2.1 1), vI bad, vI bk, vI opn, vI fp, vR m9, vR m10, vR m11, vR m12, vR m13, vR m14, vR m15, vI im, vI nr, vI nl, vR m19, vR m20, vR m21, vI sp_, vR m23, vR m24, vR m25, vR m26, vR m27, vR m28, vI wtc, vI wcl, vI ir, vI ip, vR m33, vI shu, vR m35, vI sfa, vI swr], zI m9 (cy 0) 600 f9]) 0 0 := by
  refine Met.ofW (cc := cX12_nameHere) (maxL := 2) (ret := (some .int)) (by decide) rfl ?_
  intro p e s m args below meth c s₁ B hml hv
  obtain ⟨rfl, hsz, hP, hG, hD0, hT⟩ := hv
  have hx := B.exec
  have hb := B.bytes
  have hr := B.returns
  have hts := atoms_spec (ws := vs_m_nameHere) B.pre
  have hown : s.vm.findClass RX12 = some m.cls := findClass_of_methodNamed B.named
  have hlocks := B.notSynchronized
  subst hsz
  have hD := hD0.self (sz := s.heap.size)
  generalize hAe : va_A [zO mm 12 [vI th, vR m1, vI tp, vI sz_, vI ap, vI bad, vI bk, vI opn, vI fp, vR m9, vR m10, vR m11, vR m12, vR m13, vR m14, vR m15, vI im, vI nr, vI nl, vR m19, vR m20, vR m21, vI sp_, vR m23, vR m24, vR m25, vR m26, vR m27, vR m28, vI wtc, vI wcl, vI ir, vI ip, vR m33, vI shu, vR m35, vI sfa, vI swr], zI m9 (cy 0) 600 f9] s.heap.size = A at hD hT ⊢
  have hA : ∀ q : Nat, s.heap.size ≤ q → A q := fun q h => by rw [← hAe]; exact Or.inr h
  have hS : va_S A s.heap s.heap [] := va_S.rf
  have hl0 := lv_entry ([vR mm]) (n := 2) (Nat.le_of_ble_eq_true rfl)
  rw [lg_entry_eq]
  generalize (lg_sl ([vR mm]) ++ List.replicate (2 - (lg_sl ([vR mm])).length) Slot.unset).toArray = ls at hl0 ⊢
  have hlv : lv_has ls 2 [(0, vR mm)] := hl0
  have gg_0 : GoodIn vs_m_nameHere (wsV RX12 145 RX12 yX12_word vs_m_word) := goodIn_sub (fun w h => List.mem_cons_of_mem _ (List.mem_append_right _ (List.mem_append_left _ h))) (gd_V gd_m_word (by decide +kernel))
  have gg_1 : GoodIn vs_m_nameHere (va_wsS RX12 135 yX12_of vs_m_of22) := goodIn_sub (fun w h => List.mem_cons_of_mem _ (List.mem_append_right _ (List.mem_append_right _ (List.mem_append_left _ h)))) (gd_S gd_m_of22 (by decide +kernel))
  have gg_2 : GoodIn vs_m_nameHere (va_wsS RX12 135 yX12_of vs_m_of23) := goodIn_sub (fun w h => List.mem_cons_of_mem _ (List.mem_append_right _ (List.mem_append_right _ (List.mem_append_right _ (List.mem_append_left _ h))))) (gd_S gd_m_of23 (by decide +kernel))
  have gg_3 : GoodIn vs_m_nameHere (va_wsS RX12 135 yX12_of vs_m_of24) := goodIn_sub (fun w h => List.mem_cons_of_mem _ (List.mem_append_right _ (List.mem_append_right _ (List.mem_append_right _ (List.mem_append_right _ (List.mem_append_left _ h)))))) (gd_S gd_m_of24 (by decide +kernel))
  have gg_4 : GoodIn vs_m_nameHere (va_wsS RX12 135 yX12_of vs_m_of25) := goodIn_sub (fun w h => List.mem_cons_of_mem _ (List.mem_append_right _ (List.mem_append_right _ (List.mem_append_right _ (List.mem_append_right _ (List.mem_append_right _ (List.mem_append_left _ h))))))) (gd_S gd_m_of25 (by decide +kernel))
  have gg_5 : GoodIn vs_m_nameHere (va_wsS RX12 135 yX12_of vs_m_of26) := goodIn_sub (fun w h => List.mem_cons_of_mem _ (List.mem_append_right _ (List.mem_append_right _ (List.mem_append_right _ (List.mem_append_right _ (List.mem_append_right _ (List.mem_append_right _ (List.mem_append_left _ h)))))))) (gd_S gd_m_of26 (by decide +kernel))
  have gg_6 : GoodIn vs_m_nameHere (va_wsS RX12 135 yX12_of vs_m_of27) := goodIn_sub (fun w h => List.mem_cons_of_mem _ (List.mem_append_right _ (List.mem_append_right _ (List.mem_append_right _ (List.mem_append_right _ (List.mem_append_right _ (List.mem_append_right _ (List.mem_append_right _ (List.mem_append_left _ h))))))))) (gd_S gd_m_of27 (by decide +kernel))
  have gg_7 : GoodIn vs_m_nameHere (wsV RX12 187 RX12 yX12_isWord vs_m_isWord) := goodIn_sub (fun w h => List.mem_cons_of_mem _ (List.mem_append_right _ (List.mem_append_right _ (List.mem_append_right _ (List.mem_append_right _ (List.mem_append_right _ (List.mem_append_right _ (List.mem_append_right _ (List.mem_append_right _ (List.mem_append_left _ h)))))))))) (gd_V gd_m_isWord (by decide +kernel))
  refine lv_aload_n hx hb dX12_nameHere_0 rfl (lv_at hlv 0 rfl) ?_
  refine cjr_i [false, false] (fun pre9 => (va_runV (As := []) (rest := []) ⟨hx, hb, hml, hown, hts⟩ (m_word l hl D cy sa mm m1 m9 m10 m11 m12 m13 m14 m15 m19 m20 m21 m23 m24 m25 m26 m27 m28 m33 m35 th tp sz_ ap bad bk opn fp im nr nl sp_ wtc wcl ir ip shu sfa swr f9 s.heap.size (by first | exact hr_th | omega) (by first | exact hr_tp | omega) (by first | exact hr_sz_ | omega) (by first | exact hr_ap | omega) (by first | exact hr_bad | omega) (by first | exact hr_bk | omega) (by first | exact hr_opn | omega) (by first | exact hr_fp | omega) (by first | exact hr_im | omega) (by first | exact hr_nr | omega) (by first | exact hr_nl | omega) (by first | exact hr_sp_ | omega) (by first | exact hr_wtc | omega) (by first | exact hr_wcl | omega) (by first | exact hr_ir | omega) (by first | exact hr_ip | omega) (by first | exact hr_shu | omega) (by first | exact hr_sfa | omega) (by first | exact hr_swr | omega) hf9) (cwV 0 hts gg_0 rfl rfl rfl (by decide +kernel) ⟨Nat.le_of_ble_eq_true rfl, Nat.le_of_ble_eq_true rfl⟩) ⟨pcW.blind, (va_recv hG.1 hP (ci := 12) (q0 := 0) rfl rfl), pre9⟩ rfl rfl hlv.1 rfl (lv_room (Nat.le_of_ble_eq_true rfl)) dX12_nameHere_1 ⟨Nat.le_of_ble_eq_true rfl, Nat.le_of_ble_eq_true rfl⟩)) hP hD hS hA hG hT [0, 1] rfl (by decide +kernel) (fun r1 u1 H locs hw1 hq9 hS => ?_)
  obtain ⟨rfl, hq1_1, hq1_2, hq1_3, hq1_4, hq1_5, hq1_6, hq1_7, hq1_8, hq1_9⟩ := hw1
  obtain ⟨hP, hD⟩ := pd9 [zO mm 12 [vI th, vR m1, vI tp, vI sz_, vI (u1.2.1 1), vI bad, vI bk, vI opn, vI fp, vR m9, vR m10, vR m11, vR m12, vR m13, vR m14, vR m15, vI im, vI nr, vI nl, vR m19, vR m20, vR m21, vI sp_, vR m23, vR m24, vR m25, vR m26, vR m27, vR m28, vI wtc, vI wcl, vI ir, vI ip, vR m33, vI shu, vR m35, vI sfa, vI swr], zI m9 (cy 0) 600 f9] hq9
  refine lv_istore_n (lv' := [(1, vI (u1.2.1 0)), (0, vR mm)]) hx hb dX12_nameHere_4 rfl hlv (by decide) rfl (fun ls hlv => ?_)
  refine lv_iload_n hx hb dX12_nameHere_5 rfl (lv_at hlv 0 rfl) ?_
  refine va_ldcS (q := sn sa 50) hx hb hown (st_14 hG) dX12_nameHere_6 ?_
  refine cjr_i [true, true] (fun pre9 => (va_runS (As := [.ref (sn sa 50)]) (rest := [vI (u1.2.1 0)]) ⟨hx, hb, hml, hown, hts⟩ (m_of22 l hl D cy sa  H.size) (va_cwS 1 hts gg_1 rfl rfl rfl (by decide +kernel) ⟨Nat.le_of_ble_eq_true rfl, Nat.le_of_ble_eq_true rfl⟩) ⟨pcW.blind, pre9⟩ rfl rfl hlv.1 rfl (lv_room (Nat.le_of_ble_eq_true rfl)) dX12_nameHere_8 ⟨Nat.le_of_ble_eq_true rfl, Nat.le_of_ble_eq_true rfl⟩)) hP hD hS hA hG hT [] rfl (by decide +kernel) (fun r2 u2 H locs hw2 hq9 hS => ?_)
  obtain ⟨rfl, hq2_1⟩ := hw2
  obtain ⟨hP, hD⟩ := pd9 [zO mm 12 [vI th, vR m1, vI tp, vI sz_, vI (u1.2.1 1), vI bad, vI bk, vI opn, vI fp, vR m9, vR m10, vR m11, vR m12, vR m13, vR m14, vR m15, vI im, vI nr, vI nl, vR m19, vR m20, vR m21, vI sp_, vR m23, vR m24, vR m25, vR m26, vR m27, vR m28, vI wtc, vI wcl, vI ir, vI ip, vR m33, vI shu, vR m35, vI sfa, vI swr], zI m9 (cy 0) 600 f9] hq9
  refine lt_i (y := iI 4375176) (by rw [show (u2.2.1 0) = 4375176 by omega]) ?_
  refine ir_ne (tgt := 16) hx hb dX12_nameHere_11 (by decide) (by first | exact hq1_2 | omega) (by show ((-2147483648) : Int) ≤ 4375176 ∧ (4375176 : Int) ≤ 2147483647; decide) (fun c_1 => ?_) (fun c_1 => ?_)
  · refine lv_iload_n hx hb dX12_nameHere_16 rfl (lv_at hlv 0 rfl) ?_
    refine va_ldcS (q := sn sa 51) hx hb hown (st_15 hG) dX12_nameHere_17 ?_
    refine cjr_i [true, true] (fun pre9 => (va_runS (As := [.ref (sn sa 51)]) (rest := [vI (u1.2.1 0)]) ⟨hx, hb, hml, hown, hts⟩ (m_of23 l hl D cy sa  H.size) (va_cwS 1 hts gg_2 rfl rfl rfl (by decide +kernel) ⟨Nat.le_of_ble_eq_true rfl, Nat.le_of_ble_eq_true rfl⟩) ⟨pcW.blind, pre9⟩ rfl rfl hlv.1 rfl (lv_room (Nat.le_of_ble_eq_true rfl)) dX12_nameHere_19 ⟨Nat.le_of_ble_eq_true rfl, Nat.le_of_ble_eq_true rfl⟩)) hP hD hS hA hG hT [] rfl (by decide +kernel) (fun r3 u3 H locs hw3 hq9 hS => ?_)
    obtain ⟨rfl, hq3_1⟩ := hw3
    obtain ⟨hP, hD⟩ := pd9 [zO mm 12 [vI th, vR m1, vI tp, vI sz_, vI (u1.2.1 1), vI bad, vI bk, vI opn, vI fp, vR m9, vR m10, vR m11, vR m12, vR m13, vR m14, vR m15, vI im, vI nr, vI nl, vR m19, vR m20, vR m21, vI sp_, vR m23, vR m24, vR m25, vR m26, vR m27, vR m28, vI wtc, vI wcl, vI ir, vI ip, vR m33, vI shu, vR m35, vI sfa, vI swr], zI m9 (cy 0) 600 f9] hq9
    refine lt_i (y := iI 525413) (by rw [show (u3.2.1 0) = 525413 by omega]) ?_
    refine ir_ne (tgt := 27) hx hb dX12_nameHere_22 (by decide) (by first | exact hq1_2 | omega) (by show ((-2147483648) : Int) ≤ 525413 ∧ (525413 : Int) ≤ 2147483647; decide) (fun c_2 => ?_) (fun c_2 => ?_)
    · refine lv_iload_n hx hb dX12_nameHere_27 rfl (lv_at hlv 0 rfl) ?_
      refine va_ldcS (q := sn sa 52) hx hb hown (st_16 hG) dX12_nameHere_28 ?_
      refine cjr_i [true, true] (fun pre9 => (va_runS (As := [.ref (sn sa 52)]) (rest := [vI (u1.2.1 0)]) ⟨hx, hb, hml, hown, hts⟩ (m_of24 l hl D cy sa  H.size) (va_cwS 1 hts gg_3 rfl rfl rfl (by decide +kernel) ⟨Nat.le_of_ble_eq_true rfl, Nat.le_of_ble_eq_true rfl⟩) ⟨pcW.blind, pre9⟩ rfl rfl hlv.1 rfl (lv_room (Nat.le_of_ble_eq_true rfl)) dX12_nameHere_30 ⟨Nat.le_of_ble_eq_true rfl, Nat.le_of_ble_eq_true rfl⟩)) hP hD hS hA hG hT [] rfl (by decide +kernel) (fun r4 u4 H locs hw4 hq9 hS => ?_)
      obtain ⟨rfl, hq4_1⟩ := hw4
      obtain ⟨hP, hD⟩ := pd9 [zO mm 12 [vI th, vR m1, vI tp, vI sz_, vI (u1.2.1 1), vI bad, vI bk, vI opn, vI fp, vR m9, vR m10, vR m11, vR m12, vR m13, vR m14, vR m15, vI im, vI nr, vI nl, vR m19, vR m20, vR m21, vI sp_, vR m23, vR m24, vR m25, vR m26, vR m27, vR m28, vI wtc, vI wcl, vI ir, vI ip, vR m33, vI shu, vR m35, vI sfa, vI swr], zI m9 (cy 0) 600 f9] hq9
      refine lt_i (y := iI 681541) (by rw [show (u4.2.1 0) = 681541 by omega]) ?_
      refine ir_ne (tgt := 38) hx hb dX12_nameHere_33 (by decide) (by first | exact hq1_2 | omega) (by show ((-2147483648) : Int) ≤ 681541 ∧ (681541 : Int) ≤ 2147483647; decide) (fun c_3 => ?_) (fun c_3 => ?_)
      · refine lv_iload_n hx hb dX12_nameHere_38 rfl (lv_at hlv 0 rfl) ?_
        refine va_ldcS (q := sn sa 53) hx hb hown (st_17 hG) dX12_nameHere_39 ?_
        refine cjr_i [true, true] (fun pre9 => (va_runS (As := [.ref (sn sa 53)]) (rest := [vI (u1.2.1 0)]) ⟨hx, hb, hml, hown, hts⟩ (m_of25 l hl D cy sa  H.size) (va_cwS 1 hts gg_4 rfl rfl rfl (by decide +kernel) ⟨Nat.le_of_ble_eq_true rfl, Nat.le_of_ble_eq_true rfl⟩) ⟨pcW.blind, pre9⟩ rfl rfl hlv.1 rfl (lv_room (Nat.le_of_ble_eq_true rfl)) dX12_nameHere_41 ⟨Nat.le_of_ble_eq_true rfl, Nat.le_of_ble_eq_true rfl⟩)) hP hD hS hA hG hT [] rfl (by decide +kernel) (fun r5 u5 H locs hw5 hq9 hS => ?_)
        obtain ⟨rfl, hq5_1⟩ := hw5
        obtain ⟨hP, hD⟩ := pd9 [zO mm 12 [vI th, vR m1, vI tp, vI sz_, vI (u1.2.1 1), vI bad, vI bk, vI opn, vI fp, vR m9, vR m10, vR m11, vR m12, vR m13, vR m14, vR m15, vI im, vI nr, vI nl, vR m19, vR m20, vR m21, vI sp_, vR m23, vR m24, vR m25, vR m26, vR m27, vR m28, vI wtc, vI wcl, vI ir, vI ip, vR m33, vI shu, vR m35, vI sfa, vI swr], zI m9 (cy 0) 600 f9] hq9
        refine lt_i (y := iI 18935) (by rw [show (u5.2.1 0) = 18935 by omega]) ?_
        refine ir_ne (tgt := 49) hx hb dX12_nameHere_44 (by decide) (by first | exact hq1_2 | omega) (by show ((-2147483648) : Int) ≤ 18935 ∧ (18935 : Int) ≤ 2147483647; decide) (fun c_4 => ?_) (fun c_4 => ?_)
        · refine lv_iload_n hx hb dX12_nameHere_49 rfl (lv_at hlv 0 rfl) ?_
          refine va_ldcS (q := sn sa 54) hx hb hown (st_18 hG) dX12_nameHere_50 ?_
          refine cjr_i [true, true] (fun pre9 => (va_runS (As := [.ref (sn sa 54)]) (rest := [vI (u1.2.1 0)]) ⟨hx, hb, hml, hown, hts⟩ (m_of26 l hl D cy sa  H.size) (va_cwS 1 hts gg_5 rfl rfl rfl (by decide +kernel) ⟨Nat.le_of_ble_eq_true rfl, Nat.le_of_ble_eq_true rfl⟩) ⟨pcW.blind, pre9⟩ rfl rfl hlv.1 rfl (lv_room (Nat.le_of_ble_eq_true rfl)) dX12_nameHere_52 ⟨Nat.le_of_ble_eq_true rfl, Nat.le_of_ble_eq_true rfl⟩)) hP hD hS hA hG hT [] rfl (by decide +kernel) (fun r6 u6 H locs hw6 hq9 hS => ?_)
          obtain ⟨rfl, hq6_1⟩ := hw6
          obtain ⟨hP, hD⟩ := pd9 [zO mm 12 [vI th, vR m1, vI tp, vI sz_, vI (u1.2.1 1), vI bad, vI bk, vI opn, vI fp, vR m9, vR m10, vR m11, vR m12, vR m13, vR m14, vR m15, vI im, vI nr, vI nl, vR m19, vR m20, vR m21, vI sp_, vR m23, vR m24, vR m25, vR m26, vR m27, vR m28, vI wtc, vI wcl, vI ir, vI ip, vR m33, vI shu, vR m35, vI sfa, vI swr], zI m9 (cy 0) 600 f9] hq9
          refine lt_i (y := iI 6194) (by rw [show (u6.2.1 0) = 6194 by omega]) ?_
          refine ir_ne (tgt := 60) hx hb dX12_nameHere_55 (by decide) (by first | exact hq1_2 | omega) (by show ((-2147483648) : Int) ≤ 6194 ∧ (6194 : Int) ≤ 2147483647; decide) (fun c_5 => ?_) (fun c_5 => ?_)
          · refine lv_iload_n hx hb dX12_nameHere_60 rfl (lv_at hlv 0 rfl) ?_
            refine va_ldcS (q := sn sa 55) hx hb hown (st_19 hG) dX12_nameHere_61 ?_
            refine cjr_i [true, true] (fun pre9 => (va_runS (As := [.ref (sn sa 55)]) (rest := [vI (u1.2.1 0)]) ⟨hx, hb, hml, hown, hts⟩ (m_of27 l hl D cy sa  H.size) (va_cwS 1 hts gg_6 rfl rfl rfl (by decide +kernel) ⟨Nat.le_of_ble_eq_true rfl, Nat.le_of_ble_eq_true rfl⟩) ⟨pcW.blind, pre9⟩ rfl rfl hlv.1 rfl (lv_room (Nat.le_of_ble_eq_true rfl)) dX12_nameHere_63 ⟨Nat.le_of_ble_eq_true rfl, Nat.le_of_ble_eq_true rfl⟩)) hP hD hS hA hG hT [] rfl (by decide +kernel) (fun r7 u7 H locs hw7 hq9 hS => ?_)
            obtain ⟨rfl, hq7_1⟩ := hw7
            obtain ⟨hP, hD⟩ := pd9 [zO mm 12 [vI th, vR m1, vI tp, vI sz_, vI (u1.2.1 1), vI bad, vI bk, vI opn, vI fp, vR m9, vR m10, vR m11, vR m12, vR m13, vR m14, vR m15, vI im, vI nr, vI nl, vR m19, vR m20, vR m21, vI sp_, vR m23, vR m24, vR m25, vR m26, vR m27, vR m28, vI wtc, vI wcl, vI ir, vI ip, vR m33, vI shu, vR m35, vI sfa, vI swr], zI m9 (cy 0) 600 f9] hq9
            refine lt_i (y := iI 542622085) (by rw [show (u7.2.1 0) = 542622085 by omega]) ?_
            refine ir_ne (tgt := 71) hx hb dX12_nameHere_66 (by decide) (by first | exact hq1_2 | omega) (by show ((-2147483648) : Int) ≤ 542622085 ∧ (542622085 : Int) ≤ 2147483647; decide) (fun c_6 => ?_) (fun c_6 => ?_)
            · refine lv_aload_n hx hb dX12_nameHere_71 rfl (lv_at hlv 1 rfl) ?_
              refine va_ldcS (q := sn sa 33) hx hb hown (st_12 hG) dX12_nameHere_72 ?_
              refine cjr_i [false, false] (fun pre9 => (va_runV (As := [.ref (sn sa 33)]) (rest := []) ⟨hx, hb, hml, hown, hts⟩ (m_isWord l hl D cy sa mm m1 m9 m10 m11 m12 m13 m14 m15 m19 m20 m21 m23 m24 m25 m26 m27 m28 m33 m35 th tp sz_ (u1.2.1 1) bad bk opn fp im nr nl sp_ wtc wcl ir ip shu sfa swr f9 H.size (by first | exact hr_th | omega) (by first | exact hr_tp | omega) (by first | exact hr_sz_ | omega) (by first | exact hq1_1 | omega) (by first | exact hr_bad | omega) (by first | exact hr_bk | omega) (by first | exact hr_opn | omega) (by first | exact hr_fp | omega) (by first | exact hr_im | omega) (by first | exact hr_nr | omega) (by first | exact hr_nl | omega) (by first | exact hr_sp_ | omega) (by first | exact hr_wtc | omega) (by first | exact hr_wcl | omega) (by first | exact hr_ir | omega) (by first | exact hr_ip | omega) (by first | exact hr_shu | omega) (by first | exact hr_sfa | omega) (by first | exact hr_swr | omega) hq1_9) (cwV 1 hts gg_7 rfl rfl rfl (by decide +kernel) ⟨Nat.le_of_ble_eq_true rfl, Nat.le_of_ble_eq_true rfl⟩) ⟨pcW.blind, (va_recv hG.1 hP (ci := 12) (q0 := 0) rfl rfl), pre9⟩ rfl rfl hlv.1 rfl (lv_room (Nat.le_of_ble_eq_true rfl)) dX12_nameHere_74 ⟨Nat.le_of_ble_eq_true rfl, Nat.le_of_ble_eq_true rfl⟩)) hP hD hS hA hG hT [0, 1] rfl (by decide +kernel) (fun r8 u8 H locs hw8 hq9 hS => ?_)
              obtain ⟨rfl, hq8_1, hq8_2, hq8_3, hq8_4, hq8_5, hq8_6, hq8_7, hq8_8⟩ := hw8
              obtain ⟨hP, hD⟩ := pd9 [zO mm 12 [vI th, vR m1, vI tp, vI sz_, vI (u8.2.1 1), vI bad, vI bk, vI opn, vI fp, vR m9, vR m10, vR m11, vR m12, vR m13, vR m14, vR m15, vI im, vI nr, vI nl, vR m19, vR m20, vR m21, vI sp_, vR m23, vR m24, vR m25, vR m26, vR m27, vR m28, vI wtc, vI wcl, vI ir, vI ip, vR m33, vI shu, vR m35, vI sfa, vI swr], zI m9 (cy 0) 600 f9] hq9
              refine iz_eq (tgt := 85) hx hb dX12_nameHere_77 (by decide) (by first | exact rgw hq8_2 (by decide) (by decide) | omega) (fun c_7 => ?_) (fun c_7 => ?_)
              · refine lv_iconst (v := iI (-1)) hx hb dX12_nameHere_85 (by decide) ?_
                refine W.widen (k := 0) (n := 0) (Nat.le_of_ble_eq_true rfl) (Nat.le_of_ble_eq_true rfl) ?_
                exact W.iret (v := iI (-1)) hx hb hr (fun t ht hW => ⟨⟨iI (-1), ((fun k => ([] : List Nat).getD k 0), (fun k => ([(-1), (u8.2.1 1)] : List Int).getD k 0), (fun k => ([] : List (Nat → Int32)).getD k (fun _ => 0))), rfl, ⟨rfl, (by show (0 ≤ (u8.2.1 1) ∧ (u8.2.1 1) ≤ 602); first | exact hq8_1 | omega), (by show ((-1) ≤ (-1) ∧ (-1) ≤ 6); show ((-1) : Int) ≤ (-1) ∧ ((-1) : Int) ≤ 6; decide), (by show (ap ≤ (u8.2.1 1)); omega), (by show (0 ≤ (-1) → (u8.2.1 1) < sz_ ∧ 97 ≤ nz f9 ((u8.2.1 1)).toNat ∧ nz f9 ((u8.2.1 1)).toNat ≤ 122); omega), hq8_8⟩, at9 ht hP hD [0, 1] (by decide +kernel) rfl⟩, hS.F ht⟩) hS.2.2 dX12_nameHere_86
              · refine lv_bipush (v := iI 6) hx hb dX12_nameHere_80 (by decide) ?_
                refine lv_goto (tgt := 86) hx hb dX12_nameHere_82 (by decide) ?_
                refine W.widen (k := 0) (n := 0) (Nat.le_of_ble_eq_true rfl) (Nat.le_of_ble_eq_true rfl) ?_
                exact W.iret (v := iI 6) hx hb hr (fun t ht hW => ⟨⟨iI 6, ((fun k => ([] : List Nat).getD k 0), (fun k => ([6, (u8.2.1 1)] : List Int).getD k 0), (fun k => ([] : List (Nat → Int32)).getD k (fun _ => 0))), rfl, ⟨rfl, (by show (0 ≤ (u8.2.1 1) ∧ (u8.2.1 1) ≤ 602); first | exact hq8_1 | omega), (by show ((-1) ≤ 6 ∧ 6 ≤ 6); show ((-1) : Int) ≤ 6 ∧ (6 : Int) ≤ 6; decide), (by show (ap ≤ (u8.2.1 1)); omega), (by show (0 ≤ 6 → (u8.2.1 1) < sz_ ∧ 97 ≤ nz f9 ((u8.2.1 1)).toNat ∧ nz f9 ((u8.2.1 1)).toNat ≤ 122); omega), hq8_8⟩, at9 ht hP hD [0, 1] (by decide +kernel) rfl⟩, hS.F ht⟩) hS.2.2 dX12_nameHere_86
            · refine lv_iconst (v := iI 5) hx hb dX12_nameHere_69 (by decide) ?_
              refine W.widen (k := 0) (n := 0) (Nat.le_of_ble_eq_true rfl) (Nat.le_of_ble_eq_true rfl) ?_
              exact W.iret (v := iI 5) hx hb hr (fun t ht hW => ⟨⟨iI 5, ((fun k => ([] : List Nat).getD k 0), (fun k => ([5, (u1.2.1 1)] : List Int).getD k 0), (fun k => ([] : List (Nat → Int32)).getD k (fun _ => 0))), rfl, ⟨rfl, (by show (0 ≤ (u1.2.1 1) ∧ (u1.2.1 1) ≤ 602); first | exact hq1_1 | omega), (by show ((-1) ≤ 5 ∧ 5 ≤ 6); show ((-1) : Int) ≤ 5 ∧ (5 : Int) ≤ 6; decide), (by show (ap ≤ (u1.2.1 1)); omega), (by show (0 ≤ 5 → (u1.2.1 1) < sz_ ∧ 97 ≤ nz f9 ((u1.2.1 1)).toNat ∧ nz f9 ((u1.2.1 1)).toNat ≤ 122); omega), hq1_9⟩, at9 ht hP hD [0, 1] (by decide +kernel) rfl⟩, hS.F ht⟩) hS.2.2 dX12_nameHere_70
          · refine lv_iconst (v := iI 4) hx hb dX12_nameHere_58 (by decide) ?_
            refine W.widen (k := 0) (n := 0) (Nat.le_of_ble_eq_true rfl) (Nat.le_of_ble_eq_true rfl) ?_
            exact W.iret (v := iI 4) hx hb hr (fun t ht hW => ⟨⟨iI 4, ((fun k => ([] : List Nat).getD k 0), (fun k => ([4, (u1.2.1 1)] : List Int).getD k 0), (fun k => ([] : List (Nat → Int32)).getD k (fun _ => 0))), rfl, ⟨rfl, (by show (0 ≤ (u1.2.1 1) ∧ (u1.2.1 1) ≤ 602); first | exact hq1_1 | omega), (by show ((-1) ≤ 4 ∧ 4 ≤ 6); show ((-1) : Int) ≤ 4 ∧ (4 : Int) ≤ 6; decide), (by show (ap ≤ (u1.2.1 1)); omega), (by show (0 ≤ 4 → (u1.2.1 1) < sz_ ∧ 97 ≤ nz f9 ((u1.2.1 1)).toNat ∧ nz f9 ((u1.2.1 1)).toNat ≤ 122); omega), hq1_9⟩, at9 ht hP hD [0, 1] (by decide +kernel) rfl⟩, hS.F ht⟩) hS.2.2 dX12_nameHere_59
        · refine lv_iconst (v := iI 3) hx hb dX12_nameHere_47 (by decide) ?_
          refine W.widen (k := 0) (n := 0) (Nat.le_of_ble_eq_true rfl) (Nat.le_of_ble_eq_true rfl) ?_
          exact W.iret (v := iI 3) hx hb hr (fun t ht hW => ⟨⟨iI 3, ((fun k => ([] : List Nat).getD k 0), (fun k => ([3, (u1.2.1 1)] : List Int).getD k 0), (fun k => ([] : List (Nat → Int32)).getD k (fun _ => 0))), rfl, ⟨rfl, (by show (0 ≤ (u1.2.1 1) ∧ (u1.2.1 1) ≤ 602); first | exact hq1_1 | omega), (by show ((-1) ≤ 3 ∧ 3 ≤ 6); show ((-1) : Int) ≤ 3 ∧ (3 : Int) ≤ 6; decide), (by show (ap ≤ (u1.2.1 1)); omega), (by show (0 ≤ 3 → (u1.2.1 1) < sz_ ∧ 97 ≤ nz f9 ((u1.2.1 1)).toNat ∧ nz f9 ((u1.2.1 1)).toNat ≤ 122); omega), hq1_9⟩, at9 ht hP hD [0, 1] (by decide +kernel) rfl⟩, hS.F ht⟩) hS.2.2 dX12_nameHere_48
      · refine lv_iconst (v := iI 2) hx hb dX12_nameHere_36 (by decide) ?_
        refine W.widen (k := 0) (n := 0) (Nat.le_of_ble_eq_true rfl) (Nat.le_of_ble_eq_true rfl) ?_
        exact W.iret (v := iI 2) hx hb hr (fun t ht hW => ⟨⟨iI 2, ((fun k => ([] : List Nat).getD k 0), (fun k => ([2, (u1.2.1 1)] : List Int).getD k 0), (fun k => ([] : List (Nat → Int32)).getD k (fun _ => 0))), rfl, ⟨rfl, (by show (0 ≤ (u1.2.1 1) ∧ (u1.2.1 1) ≤ 602); first | exact hq1_1 | omega), (by show ((-1) ≤ 2 ∧ 2 ≤ 6); show ((-1) : Int) ≤ 2 ∧ (2 : Int) ≤ 6; decide), (by show (ap ≤ (u1.2.1 1)); omega), (by show (0 ≤ 2 → (u1.2.1 1) < sz_ ∧ 97 ≤ nz f9 ((u1.2.1 1)).toNat ∧ nz f9 ((u1.2.1 1)).toNat ≤ 122); omega), hq1_9⟩, at9 ht hP hD [0, 1] (by decide +kernel) rfl⟩, hS.F ht⟩) hS.2.2 dX12_nameHere_37
    · refine lv_iconst (v := iI 1) hx hb dX12_nameHere_25 (by decide) ?_
      refine W.widen (k := 0) (n := 0) (Nat.le_of_ble_eq_true rfl) (Nat.le_of_ble_eq_true rfl) ?_
      exact W.iret (v := iI 1) hx hb hr (fun t ht hW => ⟨⟨iI 1, ((fun k => ([] : List Nat).getD k 0), (fun k => ([1, (u1.2.1 1)] : List Int).getD k 0), (fun k => ([] : List (Nat → Int32)).getD k (fun _ => 0))), rfl, ⟨rfl, (by show (0 ≤ (u1.2.1 1) ∧ (u1.2.1 1) ≤ 602); first | exact hq1_1 | omega), (by show ((-1) ≤ 1 ∧ 1 ≤ 6); show ((-1) : Int) ≤ 1 ∧ (1 : Int) ≤ 6; decide), (by show (ap ≤ (u1.2.1 1)); omega), (by show (0 ≤ 1 → (u1.2.1 1) < sz_ ∧ 97 ≤ nz f9 ((u1.2.1 1)).toNat ∧ nz f9 ((u1.2.1 1)).toNat ≤ 122); omega), hq1_9⟩, at9 ht hP hD [0, 1] (by decide +kernel) rfl⟩, hS.F ht⟩) hS.2.2 dX12_nameHere_26
  · refine lv_iconst (v := iI 0) hx hb dX12_nameHere_14 (by decide) ?_
    refine W.widen (k := 0) (n := 0) (Nat.le_of_ble_eq_true rfl) (Nat.le_of_ble_eq_true rfl) ?_
    exact W.iret (v := iI 0) hx hb hr (fun t ht hW => ⟨⟨iI 0, ((fun k => ([] : List Nat).getD k 0), (fun k => ([0, (u1.2.1 1)] : List Int).getD k 0), (fun k => ([] : List (Nat → Int32)).getD k (fun _ => 0))), rfl, ⟨rfl, (by show (0 ≤ (u1.2.1 1) ∧ (u1.2.1 1) ≤ 602); first | exact hq1_1 | omega), (by show ((-1) ≤ 0 ∧ 0 ≤ 6); show ((-1) : Int) ≤ 0 ∧ (0 : Int) ≤ 6; decide), (by show (ap ≤ (u1.2.1 1)); omega), (by show (0 ≤ 0 → (u1.2.1 1) < sz_ ∧ 97 ≤ nz f9 ((u1.2.1 1)).toNat ∧ nz f9 ((u1.2.1 1)).toNat ≤ 122); omega), hq1_9⟩, at9 ht hP hD [0, 1] (by decide +kernel) rfl⟩, hS.F ht⟩) hS.2.2 dX12_nameHere_15
end
