theorem dX12_dip_0 : decode cX12_dip 0 = .ok (.aload_n 0, 1) := by decide +kernel
theorem dX12_dip_1 : decode cX12_dip 1 = .ok (.iconst 0, 1) := by decide +kernel
theorem dX12_dip_10 : decode cX12_dip 10 = .ok (.invokestatic 279, 3) := by decide +kernel
theorem dX12_dip_100 : decode cX12_dip 100 = .ok (.aload_n 0, 1) := by decide +kernel
theorem dX12_dip_101 : decode cX12_dip 101 = .ok (.getfield 29, 3) := by decide +kernel
theorem dX12_dip_104 : decode cX12_dip 104 = .ok (.iload 4, 2) := by decide +kernel
theorem dX12_dip_106 : decode cX12_dip 106 = .ok (.iconst 2, 1) := by decide +kernel
theorem dX12_dip_107 : decode cX12_dip 107 = .ok (.iadd, 1) := by decide +kernel
theorem dX12_dip_108 : decode cX12_dip 108 = .ok (.iload_n 3, 1) := by decide +kernel
theorem dX12_dip_109 : decode cX12_dip 109 = .ok (.iastore, 1) := by decide +kernel
theorem dX12_dip_110 : decode cX12_dip 110 = .ok (.aload_n 0, 1) := by decide +kernel
theorem dX12_dip_111 : decode cX12_dip 111 = .ok (.getfield 29, 3) := by decide +kernel
theorem dX12_dip_114 : decode cX12_dip 114 = .ok (.sipush 357, 3) := by decide +kernel
theorem dX12_dip_117 : decode cX12_dip 117 = .ok (.dup2, 1) := by decide +kernel
theorem dX12_dip_118 : decode cX12_dip 118 = .ok (.iaload, 1) := by decide +kernel
theorem dX12_dip_119 : decode cX12_dip 119 = .ok (.iconst 1, 1) := by decide +kernel
theorem dX12_dip_120 : decode cX12_dip 120 = .ok (.iadd, 1) := by decide +kernel
theorem dX12_dip_121 : decode cX12_dip 121 = .ok (.iastore, 1) := by decide +kernel
theorem dX12_dip_122 : decode cX12_dip 122 = .ok (.aload_n 0, 1) := by decide +kernel
theorem dX12_dip_123 : decode cX12_dip 123 = .ok (.getfield 29, 3) := by decide +kernel
theorem dX12_dip_126 : decode cX12_dip 126 = .ok (.sipush 357, 3) := by decide +kernel
theorem dX12_dip_129 : decode cX12_dip 129 = .ok (.iaload, 1) := by decide +kernel
theorem dX12_dip_13 : decode cX12_dip 13 = .ok (.ifCond .eq 27, 3) := by decide +kernel
theorem dX12_dip_130 : decode cX12_dip 130 = .ok (.ireturn, 1) := by decide +kernel
theorem dX12_dip_16 : decode cX12_dip 16 = .ok (.iload_n 2, 1) := by decide +kernel
theorem dX12_dip_17 : decode cX12_dip 17 = .ok (.iconst 1, 1) := by decide +kernel
theorem dX12_dip_18 : decode cX12_dip 18 = .ok (.bipush 30, 2) := by decide +kernel
theorem dX12_dip_2 : decode cX12_dip 2 = .ok (.putfield 1, 3) := by decide +kernel
theorem dX12_dip_20 : decode cX12_dip 20 = .ok (.invokestatic 279, 3) := by decide +kernel
theorem dX12_dip_23 : decode cX12_dip 23 = .ok (.ifCond .eq 17, 3) := by decide +kernel
theorem dX12_dip_26 : decode cX12_dip 26 = .ok (.iload_n 3, 1) := by decide +kernel
theorem dX12_dip_27 : decode cX12_dip 27 = .ok (.iconst 1, 1) := by decide +kernel
theorem dX12_dip_28 : decode cX12_dip 28 = .ok (.bipush 99, 2) := by decide +kernel
theorem dX12_dip_30 : decode cX12_dip 30 = .ok (.invokestatic 279, 3) := by decide +kernel
theorem dX12_dip_33 : decode cX12_dip 33 = .ok (.ifCond .eq 7, 3) := by decide +kernel
theorem dX12_dip_36 : decode cX12_dip 36 = .ok (.iconst 1, 1) := by decide +kernel
theorem dX12_dip_37 : decode cX12_dip 37 = .ok (.goto 4, 3) := by decide +kernel
theorem dX12_dip_40 : decode cX12_dip 40 = .ok (.iconst 0, 1) := by decide +kernel
theorem dX12_dip_41 : decode cX12_dip 41 = .ok (.iconst 1, 1) := by decide +kernel
theorem dX12_dip_42 : decode cX12_dip 42 = .ok (.iconst 2, 1) := by decide +kernel
theorem dX12_dip_43 : decode cX12_dip 43 = .ok (.invokevirtual 175, 3) := by decide +kernel
theorem dX12_dip_46 : decode cX12_dip 46 = .ok (.ifCond .ne 5, 3) := by decide +kernel
theorem dX12_dip_49 : decode cX12_dip 49 = .ok (.iconst 0, 1) := by decide +kernel
theorem dX12_dip_5 : decode cX12_dip 5 = .ok (.aload_n 0, 1) := by decide +kernel
theorem dX12_dip_50 : decode cX12_dip 50 = .ok (.ireturn, 1) := by decide +kernel
theorem dX12_dip_51 : decode cX12_dip 51 = .ok (.aload_n 0, 1) := by decide +kernel
theorem dX12_dip_52 : decode cX12_dip 52 = .ok (.getfield 29, 3) := by decide +kernel
theorem dX12_dip_55 : decode cX12_dip 55 = .ok (.sipush 357, 3) := by decide +kernel
theorem dX12_dip_58 : decode cX12_dip 58 = .ok (.iaload, 1) := by decide +kernel
theorem dX12_dip_59 : decode cX12_dip 59 = .ok (.bipush 9, 2) := by decide +kernel
theorem dX12_dip_6 : decode cX12_dip 6 = .ok (.iload_n 1, 1) := by decide +kernel
theorem dX12_dip_61 : decode cX12_dip 61 = .ok (.if_icmp .ne 5, 3) := by decide +kernel
theorem dX12_dip_66 : decode cX12_dip 66 = .ok (.sipush 358, 3) := by decide +kernel
theorem dX12_dip_69 : decode cX12_dip 69 = .ok (.iconst 3, 1) := by decide +kernel
theorem dX12_dip_7 : decode cX12_dip 7 = .ok (.iconst 1, 1) := by decide +kernel
theorem dX12_dip_70 : decode cX12_dip 70 = .ok (.aload_n 0, 1) := by decide +kernel
theorem dX12_dip_71 : decode cX12_dip 71 = .ok (.getfield 29, 3) := by decide +kernel
theorem dX12_dip_74 : decode cX12_dip 74 = .ok (.sipush 357, 3) := by decide +kernel
theorem dX12_dip_77 : decode cX12_dip 77 = .ok (.iaload, 1) := by decide +kernel
theorem dX12_dip_78 : decode cX12_dip 78 = .ok (.imul, 1) := by decide +kernel
theorem dX12_dip_79 : decode cX12_dip 79 = .ok (.iadd, 1) := by decide +kernel
theorem dX12_dip_8 : decode cX12_dip 8 = .ok (.bipush 99, 2) := by decide +kernel
theorem dX12_dip_80 : decode cX12_dip 80 = .ok (.istore 4, 2) := by decide +kernel
theorem dX12_dip_82 : decode cX12_dip 82 = .ok (.aload_n 0, 1) := by decide +kernel
theorem dX12_dip_83 : decode cX12_dip 83 = .ok (.getfield 29, 3) := by decide +kernel
theorem dX12_dip_86 : decode cX12_dip 86 = .ok (.iload 4, 2) := by decide +kernel
theorem dX12_dip_88 : decode cX12_dip 88 = .ok (.iload_n 1, 1) := by decide +kernel
theorem dX12_dip_89 : decode cX12_dip 89 = .ok (.iastore, 1) := by decide +kernel
theorem dX12_dip_90 : decode cX12_dip 90 = .ok (.aload_n 0, 1) := by decide +kernel
theorem dX12_dip_91 : decode cX12_dip 91 = .ok (.getfield 29, 3) := by decide +kernel
theorem dX12_dip_94 : decode cX12_dip 94 = .ok (.iload 4, 2) := by decide +kernel
theorem dX12_dip_96 : decode cX12_dip 96 = .ok (.iconst 1, 1) := by decide +kernel
theorem dX12_dip_97 : decode cX12_dip 97 = .ok (.iadd, 1) := by decide +kernel
theorem dX12_dip_98 : decode cX12_dip 98 = .ok (.iload_n 2, 1) := by decide +kernel
theorem dX12_dip_99 : decode cX12_dip 99 = .ok (.iastore, 1) := by decide +kernel
theorem dX12_feed_0 : decode cX12_feed 0 = .ok (.aload_n 0, 1) := by decide +kernel
theorem dX12_feed_1 : decode cX12_feed 1 = .ok (.iconst 0, 1) := by decide +kernel
theorem dX12_feed_102 : decode cX12_feed 102 = .ok (.iand, 1) := by decide +kernel
theorem dX12_feed_103 : decode cX12_feed 103 = .ok (.iastore, 1) := by decide +kernel
theorem dX12_feed_104 : decode cX12_feed 104 = .ok (.aload_n 0, 1) := by decide +kernel
theorem dX12_feed_105 : decode cX12_feed 105 = .ok (.dup, 1) := by decide +kernel
theorem dX12_feed_106 : decode cX12_feed 106 = .ok (.getfield 77, 3) := by decide +kernel
theorem dX12_feed_109 : decode cX12_feed 109 = .ok (.iconst 1, 1) := by decide +kernel
theorem dX12_feed_11 : decode cX12_feed 11 = .ok (.iadd, 1) := by decide +kernel
theorem dX12_feed_110 : decode cX12_feed 110 = .ok (.iadd, 1) := by decide +kernel
theorem dX12_feed_111 : decode cX12_feed 111 = .ok (.putfield 77, 3) := by decide +kernel
theorem dX12_feed_114 : decode cX12_feed 114 = .ok (.iinc 6 1, 3) := by decide +kernel
theorem dX12_feed_117 : decode cX12_feed 117 = .ok (.goto (-94), 3) := by decide +kernel
theorem dX12_feed_12 : decode cX12_feed 12 = .ok (.sipush 600, 3) := by decide +kernel
theorem dX12_feed_120 : decode cX12_feed 120 = .ok (.aload_n 0, 1) := by decide +kernel
theorem dX12_feed_121 : decode cX12_feed 121 = .ok (.getfield 77, 3) := by decide +kernel
theorem dX12_feed_124 : decode cX12_feed 124 = .ok (.ireturn, 1) := by decide +kernel
theorem dX12_feed_15 : decode cX12_feed 15 = .ok (.if_icmp .le 5, 3) := by decide +kernel
theorem dX12_feed_2 : decode cX12_feed 2 = .ok (.putfield 1, 3) := by decide +kernel
theorem dX12_feed_20 : decode cX12_feed 20 = .ok (.iconst 0, 1) := by decide +kernel
theorem dX12_feed_21 : decode cX12_feed 21 = .ok (.istore 6, 2) := by decide +kernel
theorem dX12_feed_23 : decode cX12_feed 23 = .ok (.iload 6, 2) := by decide +kernel
theorem dX12_feed_25 : decode cX12_feed 25 = .ok (.bipush 20, 2) := by decide +kernel
theorem dX12_feed_27 : decode cX12_feed 27 = .ok (.if_icmp .ge 93, 3) := by decide +kernel
theorem dX12_feed_30 : decode cX12_feed 30 = .ok (.iload 6, 2) := by decide +kernel
theorem dX12_feed_32 : decode cX12_feed 32 = .ok (.iconst 4, 1) := by decide +kernel
theorem dX12_feed_33 : decode cX12_feed 33 = .ok (.if_icmp .ge 7, 3) := by decide +kernel
theorem dX12_feed_36 : decode cX12_feed 36 = .ok (.iload_n 1, 1) := by decide +kernel
theorem dX12_feed_37 : decode cX12_feed 37 = .ok (.goto 39, 3) := by decide +kernel
theorem dX12_feed_40 : decode cX12_feed 40 = .ok (.iload 6, 2) := by decide +kernel
theorem dX12_feed_42 : decode cX12_feed 42 = .ok (.bipush 8, 2) := by decide +kernel
theorem dX12_feed_44 : decode cX12_feed 44 = .ok (.if_icmp .ge 7, 3) := by decide +kernel
theorem dX12_feed_47 : decode cX12_feed 47 = .ok (.iload_n 2, 1) := by decide +kernel
theorem dX12_feed_48 : decode cX12_feed 48 = .ok (.goto 28, 3) := by decide +kernel
theorem dX12_feed_5 : decode cX12_feed 5 = .ok (.aload_n 0, 1) := by decide +kernel
theorem dX12_feed_51 : decode cX12_feed 51 = .ok (.iload 6, 2) := by decide +kernel
theorem dX12_feed_53 : decode cX12_feed 53 = .ok (.bipush 12, 2) := by decide +kernel
theorem dX12_feed_55 : decode cX12_feed 55 = .ok (.if_icmp .ge 7, 3) := by decide +kernel
theorem dX12_feed_58 : decode cX12_feed 58 = .ok (.iload_n 3, 1) := by decide +kernel
theorem dX12_feed_59 : decode cX12_feed 59 = .ok (.goto 17, 3) := by decide +kernel
theorem dX12_feed_6 : decode cX12_feed 6 = .ok (.getfield 77, 3) := by decide +kernel
theorem dX12_feed_62 : decode cX12_feed 62 = .ok (.iload 6, 2) := by decide +kernel
theorem dX12_feed_64 : decode cX12_feed 64 = .ok (.bipush 16, 2) := by decide +kernel
theorem dX12_feed_66 : decode cX12_feed 66 = .ok (.if_icmp .ge 8, 3) := by decide +kernel
theorem dX12_feed_69 : decode cX12_feed 69 = .ok (.iload 4, 2) := by decide +kernel
theorem dX12_feed_71 : decode cX12_feed 71 = .ok (.goto 5, 3) := by decide +kernel
theorem dX12_feed_74 : decode cX12_feed 74 = .ok (.iload 5, 2) := by decide +kernel
theorem dX12_feed_76 : decode cX12_feed 76 = .ok (.istore 7, 2) := by decide +kernel
theorem dX12_feed_78 : decode cX12_feed 78 = .ok (.aload_n 0, 1) := by decide +kernel
theorem dX12_feed_79 : decode cX12_feed 79 = .ok (.getfield 20, 3) := by decide +kernel
theorem dX12_feed_82 : decode cX12_feed 82 = .ok (.aload_n 0, 1) := by decide +kernel
theorem dX12_feed_83 : decode cX12_feed 83 = .ok (.getfield 77, 3) := by decide +kernel
theorem dX12_feed_86 : decode cX12_feed 86 = .ok (.iload 7, 2) := by decide +kernel
theorem dX12_feed_88 : decode cX12_feed 88 = .ok (.bipush 24, 2) := by decide +kernel
theorem dX12_feed_9 : decode cX12_feed 9 = .ok (.bipush 20, 2) := by decide +kernel
theorem dX12_feed_90 : decode cX12_feed 90 = .ok (.bipush 8, 2) := by decide +kernel
theorem dX12_feed_92 : decode cX12_feed 92 = .ok (.iload 6, 2) := by decide +kernel
theorem dX12_feed_94 : decode cX12_feed 94 = .ok (.iconst 4, 1) := by decide +kernel
theorem dX12_feed_95 : decode cX12_feed 95 = .ok (.irem, 1) := by decide +kernel
theorem dX12_feed_96 : decode cX12_feed 96 = .ok (.imul, 1) := by decide +kernel
theorem dX12_feed_97 : decode cX12_feed 97 = .ok (.isub, 1) := by decide +kernel
theorem dX12_feed_98 : decode cX12_feed 98 = .ok (.ishr, 1) := by decide +kernel
theorem dX12_feed_99 : decode cX12_feed 99 = .ok (.sipush 255, 3) := by decide +kernel
theorem dX12_share_0 : decode cX12_share 0 = .ok (.aload_n 0, 1) := by decide +kernel
theorem dX12_share_1 : decode cX12_share 1 = .ok (.iconst 0, 1) := by decide +kernel
theorem dX12_share_12 : decode cX12_share 12 = .ok (.ifCond .eq 17, 3) := by decide +kernel
theorem dX12_share_15 : decode cX12_share 15 = .ok (.iload_n 2, 1) := by decide +kernel
theorem dX12_share_16 : decode cX12_share 16 = .ok (.iconst 0, 1) := by decide +kernel
theorem dX12_share_17 : decode cX12_share 17 = .ok (.bipush 99, 2) := by decide +kernel
theorem dX12_share_19 : decode cX12_share 19 = .ok (.invokestatic 279, 3) := by decide +kernel
theorem dX12_share_2 : decode cX12_share 2 = .ok (.putfield 1, 3) := by decide +kernel
theorem dX12_share_22 : decode cX12_share 22 = .ok (.ifCond .eq 7, 3) := by decide +kernel
theorem dX12_share_25 : decode cX12_share 25 = .ok (.iconst 1, 1) := by decide +kernel
theorem dX12_share_26 : decode cX12_share 26 = .ok (.goto 4, 3) := by decide +kernel
theorem dX12_share_29 : decode cX12_share 29 = .ok (.iconst 0, 1) := by decide +kernel
theorem dX12_share_30 : decode cX12_share 30 = .ok (.iconst 1, 1) := by decide +kernel
theorem dX12_share_31 : decode cX12_share 31 = .ok (.iconst 2, 1) := by decide +kernel
theorem dX12_share_32 : decode cX12_share 32 = .ok (.invokevirtual 175, 3) := by decide +kernel
theorem dX12_share_35 : decode cX12_share 35 = .ok (.ifCond .ne 5, 3) := by decide +kernel
theorem dX12_share_38 : decode cX12_share 38 = .ok (.iconst 0, 1) := by decide +kernel
theorem dX12_share_39 : decode cX12_share 39 = .ok (.ireturn, 1) := by decide +kernel
theorem dX12_share_40 : decode cX12_share 40 = .ok (.aload_n 0, 1) := by decide +kernel
theorem dX12_share_41 : decode cX12_share 41 = .ok (.getfield 29, 3) := by decide +kernel
theorem dX12_share_44 : decode cX12_share 44 = .ok (.sipush 353, 3) := by decide +kernel
theorem dX12_share_47 : decode cX12_share 47 = .ok (.iload_n 1, 1) := by decide +kernel
theorem dX12_share_48 : decode cX12_share 48 = .ok (.iadd, 1) := by decide +kernel
theorem dX12_share_49 : decode cX12_share 49 = .ok (.iaload, 1) := by decide +kernel
theorem dX12_share_5 : decode cX12_share 5 = .ok (.aload_n 0, 1) := by decide +kernel
theorem dX12_share_50 : decode cX12_share 50 = .ok (.istore_n 3, 1) := by decide +kernel
theorem dX12_share_51 : decode cX12_share 51 = .ok (.aload_n 0, 1) := by decide +kernel
theorem dX12_share_52 : decode cX12_share 52 = .ok (.getfield 29, 3) := by decide +kernel
theorem dX12_share_55 : decode cX12_share 55 = .ok (.sipush 353, 3) := by decide +kernel
theorem dX12_share_58 : decode cX12_share 58 = .ok (.iload_n 1, 1) := by decide +kernel
theorem dX12_share_59 : decode cX12_share 59 = .ok (.iadd, 1) := by decide +kernel
theorem dX12_share_6 : decode cX12_share 6 = .ok (.iload_n 1, 1) := by decide +kernel
theorem dX12_share_60 : decode cX12_share 60 = .ok (.iload_n 2, 1) := by decide +kernel
theorem dX12_share_61 : decode cX12_share 61 = .ok (.iastore, 1) := by decide +kernel
theorem dX12_share_62 : decode cX12_share 62 = .ok (.iload_n 3, 1) := by decide +kernel
theorem dX12_share_63 : decode cX12_share 63 = .ok (.ireturn, 1) := by decide +kernel
theorem dX12_share_7 : decode cX12_share 7 = .ok (.iconst 0, 1) := by decide +kernel
theorem dX12_share_8 : decode cX12_share 8 = .ok (.iconst 3, 1) := by decide +kernel
theorem dX12_share_9 : decode cX12_share 9 = .ok (.invokestatic 279, 3) := by decide +kernel
def vs_m_share0 : List Cond := .code yX12_share cX12_share 4 (some .int) :: (([.fieldLink RX12 1 "KerbSplashModel" "thrown" "I", .fieldLink RX12 29 "KerbSplashModel" "s" "[I"] : List Cond) ++ ((wsX120) ++ ((va_wsS RX12 279 yX12_within vs_c_within) ++ ((wsV RX12 175 RX12 yX12_may vs_c_may1) ++ ((wsV RX12 175 RX12 yX12_may vs_c_may0_2) ++ ([]))))))
set_option maxHeartbeats 4000000 in
set_option maxRecDepth 100000 in
theorem m_share0 (l : Launch) (hl : l.stackTraces = false) (D : va_G) (cy : Nat → ClassId) (sa : Nat → Nat) (mo : Nat) (ma : Nat → Nat) (p1 : Int32) (sz : Nat) : Met l yX12_share vs_m_share0 ({ frames := 1, cells := 0, slots := 0, locals := 23 }) (va_Pc [.ref mo, .int 0, .int p1] (pcW D cy sa sz [(mo, .inr (12, [.int 0, .ref (ma 1), .int 0, .int 0, .int 0, .int 0, .int 0, .int 0, .int (-1), .ref (ma 9), .ref (ma 10), .ref (ma 11), .ref (ma 12), .ref (ma 13), .ref (ma 14), .ref (ma 15), .int 0, .int 0, .int 0, .ref (ma 19), .ref (ma 20), .ref (ma 21), .int 0, .ref (ma 23), .ref (ma 24), .ref (ma 25), .ref (ma 26), .ref (ma 27), .ref (ma 28), .int 0, .int 0, .int 0, .int 0, .ref (ma 33), .int (-1), .ref (ma 35), .int 0, .int 0])), ((ma 1), .inl (cy 0, 4, .inl (fun _ => 0))), ((ma 12), .inl (cy 0, 389, .inl sF))])) (va_Qi (fun (r : Int32) (u : SU) => ((¬ (0 ≤ p1 ∧ p1 ≤ 99)) ∧ r = 0 ∧ (u.2.1 0) = 1) ∨ (((0 ≤ p1 ∧ p1 ≤ 99)) ∧ r = 1 ∧ (u.2.1 0) = 0)) (fun u t => atW D (va_A [(mo, .inr (12, [.int 0, .ref (ma 1), .int 0, .int 0, .int 0, .int 0, .int 0, .int 0, .int (-1), .ref (ma 9), .ref (ma 10), .ref (ma 11), .ref (ma 12), .ref (ma 13), .ref (ma 14), .ref (ma 15), .int 0, .int 0, .int 0, .ref (ma 19), .ref (ma 20), .ref (ma 21), .int 0, .ref (ma 23), .ref (ma 24), .ref (ma 25), .ref (ma 26), .ref (ma 27), .ref (ma 28), .int 0, .int 0, .int 0, .int 0, .ref (ma 33), .int (-1), .ref (ma 35), .int 0, .int 0])), ((ma 1), .inl (cy 0, 4, .inl (fun _ => 0))), ((ma 12), .inl (cy 0, 389, .inl sF))] sz) [(mo, .inr (12, [.int (u.2.1 0), .ref (ma 1), .int 0, .int 0, .int 0, .int 0, .int 0, .int 0, .int (-1), .ref (ma 9), .ref (ma 10), .ref (ma 11), .ref (ma 12), .ref (ma 13), .ref (ma 14), .ref (ma 15), .int 0, .int 0, .int 0, .ref (ma 19), .ref (ma 20), .ref (ma 21), .int 0, .ref (ma 23), .ref (ma 24), .ref (ma 25), .ref (ma 26), .ref (ma 27), .ref (ma 28), .int 0, .int 0, .int 0, .int 0, .ref (ma 33), .int (-1), .ref (ma 35), .int 0, .int 0]))] t) (va_A [(mo, .inr (12, [.int 0, .ref (ma 1), .int 0, .int 0, .int 0, .int 0, .int 0, .int 0, .int (-1), .ref (ma 9), .ref (ma 10), .ref (ma 11), .ref (ma 12), .ref (ma 13), .ref (ma 14), .ref (ma 15), .int 0, .int 0, .int 0, .ref (ma 19), .ref (ma 20), .ref (ma 21), .int 0, .ref (ma 23), .ref (ma 24), .ref (ma 25), .ref (ma 26), .ref (ma 27), .ref (ma 28), .int 0, .int 0, .int 0, .int 0, .ref (ma 33), .int (-1), .ref (ma 35), .int 0, .int 0])), ((ma 1), .inl (cy 0, 4, .inl (fun _ => 0))), ((ma 12), .inl (cy 0, 389, .inl sF))] sz)) 0 0 (va_A [(mo, .inr (12, [.int 0, .ref (ma 1), .int 0, .int 0, .int 0, .int 0, .int 0, .int 0, .int (-1), .ref (ma 9), .ref (ma 10), .ref (ma 11), .ref (ma 12), .ref (ma 13), .ref (ma 14), .ref (ma 15), .int 0, .int 0, .int 0, .ref (ma 19), .ref (ma 20), .ref (ma 21), .int 0, .ref (ma 23), .ref (ma 24), .ref (ma 25), .ref (ma 26), .ref (ma 27), .ref (ma 28), .int 0, .int 0, .int 0, .int 0, .ref (ma 33), .int (-1), .ref (ma 35), .int 0, .int 0])), ((ma 1), .inl (cy 0, 4, .inl (fun _ => 0))), ((ma 12), .inl (cy 0, 389, .inl sF))] sz) := by
  refine Met.ofW (cc := cX12_share) (maxL := 4) (ret := (some .int)) (by decide) rfl ?_
  intro p e s m args below meth c s₁ B hml hv
  obtain ⟨rfl, hsz, hP, hG, hD0, hT⟩ := hv
  have hx := B.exec
  have hb := B.bytes
  have hr := B.returns
  have hts := atoms_spec (ws := vs_m_share0) B.pre
  have hown : s.vm.findClass RX12 = some m.cls := findClass_of_methodNamed B.named
  have hlocks := B.notSynchronized
  subst hsz
  have hD := hD0.self (sz := s.heap.size)
  generalize hAe : va_A [(mo, .inr (12, [.int 0, .ref (ma 1), .int 0, .int 0, .int 0, .int 0, .int 0, .int 0, .int (-1), .ref (ma 9), .ref (ma 10), .ref (ma 11), .ref (ma 12), .ref (ma 13), .ref (ma 14), .ref (ma 15), .int 0, .int 0, .int 0, .ref (ma 19), .ref (ma 20), .ref (ma 21), .int 0, .ref (ma 23), .ref (ma 24), .ref (ma 25), .ref (ma 26), .ref (ma 27), .ref (ma 28), .int 0, .int 0, .int 0, .int 0, .ref (ma 33), .int (-1), .ref (ma 35), .int 0, .int 0])), ((ma 1), .inl (cy 0, 4, .inl (fun _ => 0))), ((ma 12), .inl (cy 0, 389, .inl sF))] s.heap.size = A at hD hT ⊢
  have hA : ∀ q : Nat, s.heap.size ≤ q → A q := fun q h => by rw [← hAe]; exact Or.inr h
  have hS : va_S A s.heap s.heap [] := va_S.rf
  have hl0 := lv_entry ([.ref mo, .int 0, .int p1]) (n := 4) (Nat.le_of_ble_eq_true rfl)
  rw [lg_entry_eq]
  generalize (lg_sl ([.ref mo, .int 0, .int p1]) ++ List.replicate (4 - (lg_sl ([.ref mo, .int 0, .int p1])).length) Slot.unset).toArray = ls at hl0 ⊢
  have hlv : lv_has ls 4 [(0, .ref mo), (1, .int 0), (2, .int p1)] := hl0
  have lf1 := hts (.fieldLink RX12 1 "KerbSplashModel" "thrown" "I") (List.mem_of_getElem? (i := 1) rfl)
  have hi12 : ∀ w ∈ wsX120, w ∈ vs_m_share0 := fun w h => List.mem_cons_of_mem _ (List.mem_append_right _ (List.mem_append_left _ h))
  have gg_1 : GoodIn vs_m_share0 (va_wsS RX12 279 yX12_within vs_c_within) := goodIn_sub (fun w h => List.mem_cons_of_mem _ (List.mem_append_right _ (List.mem_append_right _ (List.mem_append_left _ h)))) (by decide +kernel)
  have gg_2 : GoodIn vs_m_share0 (wsV RX12 175 RX12 yX12_may vs_c_may1) := goodIn_sub (fun w h => List.mem_cons_of_mem _ (List.mem_append_right _ (List.mem_append_right _ (List.mem_append_right _ (List.mem_append_left _ h))))) (by decide +kernel)
  have lf29 := hts (.fieldLink RX12 29 "KerbSplashModel" "s" "[I") (List.mem_of_getElem? (i := 2) rfl)
  have gg_3 : GoodIn vs_m_share0 (wsV RX12 175 RX12 yX12_may vs_c_may0_2) := goodIn_sub (fun w h => List.mem_cons_of_mem _ (List.mem_append_right _ (List.mem_append_right _ (List.mem_append_right _ (List.mem_append_right _ (List.mem_append_left _ h)))))) (by decide +kernel)
  refine lv_aload_n hx hb dX12_share_0 rfl (lv_at hlv 0 rfl) ?_
  refine lv_iconst (v := 0) hx hb dX12_share_1 (by decide) ?_
  refine va_put (D := D) (ci := 12) (v := .int 0) (ty := .int) (C := RX12) (T := TX12) (N := 38) hx hb hts hi12 tyX12 tyX12_ok nmX12 hown hG.1 hP hD hS 0 rfl rfl 0 (by decide) lf1 (fun _ h9 => h9) rfl (by decide +kernel) rfl rfl (Nat.le_of_ble_eq_true rfl) dX12_share_2 (fun H locs hP hD hS => ?_)
  have hP : va_P D vwCl [(mo, .inr (12, [.int 0, .ref (ma 1), .int 0, .int 0, .int 0, .int 0, .int 0, .int 0, .int (-1), .ref (ma 9), .ref (ma 10), .ref (ma 11), .ref (ma 12), .ref (ma 13), .ref (ma 14), .ref (ma 15), .int 0, .int 0, .int 0, .ref (ma 19), .ref (ma 20), .ref (ma 21), .int 0, .ref (ma 23), .ref (ma 24), .ref (ma 25), .ref (ma 26), .ref (ma 27), .ref (ma 28), .int 0, .int 0, .int 0, .int 0, .ref (ma 33), .int (-1), .ref (ma 35), .int 0, .int 0])), ((ma 1), .inl (cy 0, 4, .inl (fun _ => 0))), ((ma 12), .inl (cy 0, 389, .inl sF))] H := hP
  have hD : va_D A [(mo, .inr (12, [.int 0, .ref (ma 1), .int 0, .int 0, .int 0, .int 0, .int 0, .int 0, .int (-1), .ref (ma 9), .ref (ma 10), .ref (ma 11), .ref (ma 12), .ref (ma 13), .ref (ma 14), .ref (ma 15), .int 0, .int 0, .int 0, .ref (ma 19), .ref (ma 20), .ref (ma 21), .int 0, .ref (ma 23), .ref (ma 24), .ref (ma 25), .ref (ma 26), .ref (ma 27), .ref (ma 28), .int 0, .int 0, .int 0, .int 0, .ref (ma 33), .int (-1), .ref (ma 35), .int 0, .int 0])), ((ma 1), .inl (cy 0, 4, .inl (fun _ => 0))), ((ma 12), .inl (cy 0, 389, .inl sF))] := hD
  refine lv_aload_n hx hb dX12_share_5 rfl (lv_at hlv 0 rfl) ?_
  refine lv_iload_n hx hb dX12_share_6 rfl (lv_at hlv 1 rfl) ?_
  refine lv_iconst (v := 0) hx hb dX12_share_7 (by decide) ?_
  refine lv_iconst (v := 3) hx hb dX12_share_8 (by decide) ?_
  refine cj_i (wr := [(mo, .inr (12, [.int 0, .ref (ma 1), .int 0, .int 0, .int 0, .int 0, .int 0, .int 0, .int (-1), .ref (ma 9), .ref (ma 10), .ref (ma 11), .ref (ma 12), .ref (ma 13), .ref (ma 14), .ref (ma 15), .int 0, .int 0, .int 0, .ref (ma 19), .ref (ma 20), .ref (ma 21), .int 0, .ref (ma 23), .ref (ma 24), .ref (ma 25), .ref (ma 26), .ref (ma 27), .ref (ma 28), .int 0, .int 0, .int 0, .int 0, .ref (ma 33), .int (-1), .ref (ma 35), .int 0, .int 0])), ((ma 1), .inl (cy 0, 4, .inl (fun _ => 0))), ((ma 12), .inl (cy 0, 389, .inl sF))]) (va_runS (As := [.int 0, .int 0, .int 3]) (rest := [.ref mo]) ⟨hx, hb, hml, hown, hts⟩ (c_within l hl D cy sa 0 0 3 H.size) (va_cwS 3 hts gg_1 rfl rfl rfl (by decide +kernel) ⟨Nat.le_of_ble_eq_true rfl, Nat.le_of_ble_eq_true rfl⟩) ⟨pcW.blind, (pcW.mk hP hD hS hA hG hT [] rfl (by decide))⟩ rfl rfl hlv.1 rfl (lv_room (Nat.le_of_ble_eq_true rfl)) dX12_share_9 ⟨Nat.le_of_ble_eq_true rfl, Nat.le_of_ble_eq_true rfl⟩) hP hD hS hA [] [0, 1, 2] rfl rfl (by decide) (by decide) (fun r1 u1 H locs hw1 hP hD hS => ?_)
  rcases hw1 with ⟨hg1, rfl⟩ | ⟨hg1, rfl⟩
  · have hP : va_P D vwCl [(mo, .inr (12, [.int 0, .ref (ma 1), .int 0, .int 0, .int 0, .int 0, .int 0, .int 0, .int (-1), .ref (ma 9), .ref (ma 10), .ref (ma 11), .ref (ma 12), .ref (ma 13), .ref (ma 14), .ref (ma 15), .int 0, .int 0, .int 0, .ref (ma 19), .ref (ma 20), .ref (ma 21), .int 0, .ref (ma 23), .ref (ma 24), .ref (ma 25), .ref (ma 26), .ref (ma 27), .ref (ma 28), .int 0, .int 0, .int 0, .int 0, .ref (ma 33), .int (-1), .ref (ma 35), .int 0, .int 0])), ((ma 1), .inl (cy 0, 4, .inl (fun _ => 0))), ((ma 12), .inl (cy 0, 389, .inl sF))] H := hP
    have hD : va_D A [(mo, .inr (12, [.int 0, .ref (ma 1), .int 0, .int 0, .int 0, .int 0, .int 0, .int 0, .int (-1), .ref (ma 9), .ref (ma 10), .ref (ma 11), .ref (ma 12), .ref (ma 13), .ref (ma 14), .ref (ma 15), .int 0, .int 0, .int 0, .ref (ma 19), .ref (ma 20), .ref (ma 21), .int 0, .ref (ma 23), .ref (ma 24), .ref (ma 25), .ref (ma 26), .ref (ma 27), .ref (ma 28), .int 0, .int 0, .int 0, .int 0, .ref (ma 33), .int (-1), .ref (ma 35), .int 0, .int 0])), ((ma 1), .inl (cy 0, 4, .inl (fun _ => 0))), ((ma 12), .inl (cy 0, 389, .inl sF))] := hD
    refine lv_if_eq (tgt := 29) hx hb dX12_share_12 (by decide) (fun c => absurd c (by decide)) (fun _ => ?_)
    refine lv_iload_n hx hb dX12_share_15 rfl (lv_at hlv 2 rfl) ?_
    refine lv_iconst (v := 0) hx hb dX12_share_16 (by decide) ?_
    refine lv_bipush (v := 99) hx hb dX12_share_17 (by decide) ?_
    refine cj_i (wr := [(mo, .inr (12, [.int 0, .ref (ma 1), .int 0, .int 0, .int 0, .int 0, .int 0, .int 0, .int (-1), .ref (ma 9), .ref (ma 10), .ref (ma 11), .ref (ma 12), .ref (ma 13), .ref (ma 14), .ref (ma 15), .int 0, .int 0, .int 0, .ref (ma 19), .ref (ma 20), .ref (ma 21), .int 0, .ref (ma 23), .ref (ma 24), .ref (ma 25), .ref (ma 26), .ref (ma 27), .ref (ma 28), .int 0, .int 0, .int 0, .int 0, .ref (ma 33), .int (-1), .ref (ma 35), .int 0, .int 0])), ((ma 1), .inl (cy 0, 4, .inl (fun _ => 0))), ((ma 12), .inl (cy 0, 389, .inl sF))]) (va_runS (As := [.int p1, .int 0, .int 99]) (rest := [.ref mo]) ⟨hx, hb, hml, hown, hts⟩ (c_within l hl D cy sa p1 0 99 H.size) (va_cwS 3 hts gg_1 rfl rfl rfl (by decide +kernel) ⟨Nat.le_of_ble_eq_true rfl, Nat.le_of_ble_eq_true rfl⟩) ⟨pcW.blind, (pcW.mk hP hD hS hA hG hT [] rfl (by decide))⟩ rfl rfl hlv.1 rfl (lv_room (Nat.le_of_ble_eq_true rfl)) dX12_share_19 ⟨Nat.le_of_ble_eq_true rfl, Nat.le_of_ble_eq_true rfl⟩) hP hD hS hA [] [0, 1, 2] rfl rfl (by decide) (by decide) (fun r2 u2 H locs hw2 hP hD hS => ?_)
    rcases hw2 with ⟨hg2, rfl⟩ | ⟨hg2, rfl⟩
    · have hP : va_P D vwCl [(mo, .inr (12, [.int 0, .ref (ma 1), .int 0, .int 0, .int 0, .int 0, .int 0, .int 0, .int (-1), .ref (ma 9), .ref (ma 10), .ref (ma 11), .ref (ma 12), .ref (ma 13), .ref (ma 14), .ref (ma 15), .int 0, .int 0, .int 0, .ref (ma 19), .ref (ma 20), .ref (ma 21), .int 0, .ref (ma 23), .ref (ma 24), .ref (ma 25), .ref (ma 26), .ref (ma 27), .ref (ma 28), .int 0, .int 0, .int 0, .int 0, .ref (ma 33), .int (-1), .ref (ma 35), .int 0, .int 0])), ((ma 1), .inl (cy 0, 4, .inl (fun _ => 0))), ((ma 12), .inl (cy 0, 389, .inl sF))] H := hP
      have hD : va_D A [(mo, .inr (12, [.int 0, .ref (ma 1), .int 0, .int 0, .int 0, .int 0, .int 0, .int 0, .int (-1), .ref (ma 9), .ref (ma 10), .ref (ma 11), .ref (ma 12), .ref (ma 13), .ref (ma 14), .ref (ma 15), .int 0, .int 0, .int 0, .ref (ma 19), .ref (ma 20), .ref (ma 21), .int 0, .ref (ma 23), .ref (ma 24), .ref (ma 25), .ref (ma 26), .ref (ma 27), .ref (ma 28), .int 0, .int 0, .int 0, .int 0, .ref (ma 33), .int (-1), .ref (ma 35), .int 0, .int 0])), ((ma 1), .inl (cy 0, 4, .inl (fun _ => 0))), ((ma 12), .inl (cy 0, 389, .inl sF))] := hD
      refine lv_if_eq (tgt := 29) hx hb dX12_share_22 (by decide) (fun c => absurd c (by decide)) (fun _ => ?_)
      refine lv_iconst (v := 1) hx hb dX12_share_25 (by decide) ?_
      refine lv_goto (tgt := 30) hx hb dX12_share_26 (by decide) ?_
      refine lv_iconst (v := 1) hx hb dX12_share_30 (by decide) ?_
      refine lv_iconst (v := 2) hx hb dX12_share_31 (by decide) ?_
      refine cj_i (wr := [((ma 1), .inl (cy 0, 4, .inl (fun _ => 0))), ((ma 12), .inl (cy 0, 389, .inl sF))]) (va_runV (As := [.int 1, .int 1, .int 2]) (rest := []) ⟨hx, hb, hml, hown, hts⟩ (c_may1 l hl D cy sa mo ma 1 2 H.size) (cwV 3 hts gg_2 rfl rfl rfl (by decide +kernel) ⟨Nat.le_of_ble_eq_true rfl, Nat.le_of_ble_eq_true rfl⟩) ⟨pcW.blind, (va_recv hG.1 hP (ci := 12) (q0 := 0) rfl rfl), (pcW.mk hP hD hS hA hG hT [0] rfl (by decide))⟩ rfl rfl hlv.1 rfl (lv_room (Nat.le_of_ble_eq_true rfl)) dX12_share_32 ⟨Nat.le_of_ble_eq_true rfl, Nat.le_of_ble_eq_true rfl⟩) hP hD hS hA [0] [1, 2] rfl rfl (by decide) (by decide) (fun r3 u3 H locs hw3 hP hD hS => ?_)
      obtain rfl := hw3
      have hP : va_P D vwCl [((ma 1), .inl (cy 0, 4, .inl (fun _ => 0))), ((ma 12), .inl (cy 0, 389, .inl sF)), (mo, .inr (12, [.int 0, .ref (ma 1), .int 0, .int 0, .int 0, .int 0, .int 0, .int 0, .int (-1), .ref (ma 9), .ref (ma 10), .ref (ma 11), .ref (ma 12), .ref (ma 13), .ref (ma 14), .ref (ma 15), .int 0, .int 0, .int 0, .ref (ma 19), .ref (ma 20), .ref (ma 21), .int 0, .ref (ma 23), .ref (ma 24), .ref (ma 25), .ref (ma 26), .ref (ma 27), .ref (ma 28), .int 0, .int 0, .int 0, .int 0, .ref (ma 33), .int (-1), .ref (ma 35), .int 0, .int 0]))] H := hP
      have hD : va_D A [((ma 1), .inl (cy 0, 4, .inl (fun _ => 0))), ((ma 12), .inl (cy 0, 389, .inl sF)), (mo, .inr (12, [.int 0, .ref (ma 1), .int 0, .int 0, .int 0, .int 0, .int 0, .int 0, .int (-1), .ref (ma 9), .ref (ma 10), .ref (ma 11), .ref (ma 12), .ref (ma 13), .ref (ma 14), .ref (ma 15), .int 0, .int 0, .int 0, .ref (ma 19), .ref (ma 20), .ref (ma 21), .int 0, .ref (ma 23), .ref (ma 24), .ref (ma 25), .ref (ma 26), .ref (ma 27), .ref (ma 28), .int 0, .int 0, .int 0, .int 0, .ref (ma 33), .int (-1), .ref (ma 35), .int 0, .int 0]))] := hD
      refine lv_if_ne (tgt := 40) hx hb dX12_share_35 (by decide) (fun _ => ?_) (fun c => absurd c (by decide))
      refine lv_aload_n hx hb dX12_share_40 rfl (lv_at hlv 0 rfl) ?_
      refine va_get (D := D) (ci := 12) (v := .ref (ma 12)) (C := RX12) (T := TX12) (N := 38) hx hb hts hi12 hown hG.1 hP 2 rfl rfl 12 (by decide) lf29 (fun _ h9 => h9) rfl dX12_share_41 ?_
      refine lv_sipush (v := 353) hx hb dX12_share_44 (by decide) ?_
      refine lv_iload_n hx hb dX12_share_47 rfl (lv_at hlv 1 rfl) ?_
      refine lv_iadd hx hb dX12_share_48 ?_
      refine lt_i (y := 353) (by decide) ?_
      refine va_iald hx hb hG.1 hP 1 0 rfl rfl (vpd (by decide)) dX12_share_49 ?_
      refine lt_i (y := 1) (by first | rfl | decide +kernel) ?_
      refine lv_istore_n (lv' := [(3, .int 1), (0, .ref mo), (1, .int 0), (2, .int p1)]) hx hb dX12_share_50 rfl hlv (by decide) rfl (fun ls hlv => ?_)
      refine lv_aload_n hx hb dX12_share_51 rfl (lv_at hlv 1 rfl) ?_
      refine va_get (D := D) (ci := 12) (v := .ref (ma 12)) (C := RX12) (T := TX12) (N := 38) hx hb hts hi12 hown hG.1 hP 2 rfl rfl 12 (by decide) lf29 (fun _ h9 => h9) rfl dX12_share_52 ?_
      refine lv_sipush (v := 353) hx hb dX12_share_55 (by decide) ?_
      refine lv_iload_n hx hb dX12_share_58 rfl (lv_at hlv 2 rfl) ?_
      refine lv_iadd hx hb dX12_share_59 ?_
      refine lt_i (y := 353) (by decide) ?_
      refine lv_iload_n hx hb dX12_share_60 rfl (lv_at hlv 3 rfl) ?_
      refine va_iast hx hb hG.1 hP hD hS 1 0 rfl rfl (vpd (by decide)) dX12_share_61 (fun H locs hP hD hS => ?_)
      have ⟨f_1, hP, hD⟩ : ∃ f_1 : Nat → Int32, va_P D vwCl [((ma 1), .inl (cy 0, 4, .inl (fun _ => 0))), ((ma 12), .inl (cy 0, 389, .inl f_1)), (mo, .inr (12, [.int 0, .ref (ma 1), .int 0, .int 0, .int 0, .int 0, .int 0, .int 0, .int (-1), .ref (ma 9), .ref (ma 10), .ref (ma 11), .ref (ma 12), .ref (ma 13), .ref (ma 14), .ref (ma 15), .int 0, .int 0, .int 0, .ref (ma 19), .ref (ma 20), .ref (ma 21), .int 0, .ref (ma 23), .ref (ma 24), .ref (ma 25), .ref (ma 26), .ref (ma 27), .ref (ma 28), .int 0, .int 0, .int 0, .int 0, .ref (ma 33), .int (-1), .ref (ma 35), .int 0, .int 0]))] H ∧ va_D A [((ma 1), .inl (cy 0, 4, .inl (fun _ => 0))), ((ma 12), .inl (cy 0, 389, .inl f_1)), (mo, .inr (12, [.int 0, .ref (ma 1), .int 0, .int 0, .int 0, .int 0, .int 0, .int 0, .int (-1), .ref (ma 9), .ref (ma 10), .ref (ma 11), .ref (ma 12), .ref (ma 13), .ref (ma 14), .ref (ma 15), .int 0, .int 0, .int 0, .ref (ma 19), .ref (ma 20), .ref (ma 21), .int 0, .ref (ma 23), .ref (ma 24), .ref (ma 25), .ref (ma 26), .ref (ma 27), .ref (ma 28), .int 0, .int 0, .int 0, .int 0, .ref (ma 33), .int (-1), .ref (ma 35), .int 0, .int 0]))] := ⟨_, hP, hD⟩
      refine lv_iload_n hx hb dX12_share_62 rfl (lv_at hlv 0 rfl) ?_
      refine W.widen (k := 0) (n := 0) (Nat.le_of_ble_eq_true rfl) (Nat.le_of_ble_eq_true rfl) ?_
      exact W.iret (v := 1) hx hb hr (fun t ht hW => ⟨⟨1, ((fun k => ([] : List Nat).getD k 0), (fun k => ([0] : List Int32).getD k 0), (fun k => ([] : List (Nat → Int32)).getD k (fun _ => 0))), rfl, (by first | (right; exact ⟨hg2, by rfl, by rfl⟩)), by rw [ht]; exact hP.sub [2] rfl, hD.sub [2] (by decide) rfl⟩, hS.F ht⟩) hS.2.2 dX12_share_63
    · have hP : va_P D vwCl [(mo, .inr (12, [.int 0, .ref (ma 1), .int 0, .int 0, .int 0, .int 0, .int 0, .int 0, .int (-1), .ref (ma 9), .ref (ma 10), .ref (ma 11), .ref (ma 12), .ref (ma 13), .ref (ma 14), .ref (ma 15), .int 0, .int 0, .int 0, .ref (ma 19), .ref (ma 20), .ref (ma 21), .int 0, .ref (ma 23), .ref (ma 24), .ref (ma 25), .ref (ma 26), .ref (ma 27), .ref (ma 28), .int 0, .int 0, .int 0, .int 0, .ref (ma 33), .int (-1), .ref (ma 35), .int 0, .int 0])), ((ma 1), .inl (cy 0, 4, .inl (fun _ => 0))), ((ma 12), .inl (cy 0, 389, .inl sF))] H := hP
      have hD : va_D A [(mo, .inr (12, [.int 0, .ref (ma 1), .int 0, .int 0, .int 0, .int 0, .int 0, .int 0, .int (-1), .ref (ma 9), .ref (ma 10), .ref (ma 11), .ref (ma 12), .ref (ma 13), .ref (ma 14), .ref (ma 15), .int 0, .int 0, .int 0, .ref (ma 19), .ref (ma 20), .ref (ma 21), .int 0, .ref (ma 23), .ref (ma 24), .ref (ma 25), .ref (ma 26), .ref (ma 27), .ref (ma 28), .int 0, .int 0, .int 0, .int 0, .ref (ma 33), .int (-1), .ref (ma 35), .int 0, .int 0])), ((ma 1), .inl (cy 0, 4, .inl (fun _ => 0))), ((ma 12), .inl (cy 0, 389, .inl sF))] := hD
      refine lv_if_eq (tgt := 29) hx hb dX12_share_22 (by decide) (fun _ => ?_) (fun c => absurd (by decide) c)
      refine lv_iconst (v := 0) hx hb dX12_share_29 (by decide) ?_
      refine lv_iconst (v := 1) hx hb dX12_share_30 (by decide) ?_
      refine lv_iconst (v := 2) hx hb dX12_share_31 (by decide) ?_
      refine cj_i (wr := [((ma 12), .inl (cy 0, 389, .inl sF))]) (va_runV (As := [.int 0, .int 1, .int 2]) (rest := []) ⟨hx, hb, hml, hown, hts⟩ (c_may0_2 l hl D cy sa mo ma 1 H.size (by decide)) (cwV 3 hts gg_3 rfl rfl rfl (by decide +kernel) ⟨Nat.le_of_ble_eq_true rfl, Nat.le_of_ble_eq_true rfl⟩) ⟨pcW.blind, (va_recv hG.1 hP (ci := 12) (q0 := 0) rfl rfl), (pcW.mk hP hD hS hA hG hT [0, 1] rfl (by decide))⟩ rfl rfl hlv.1 rfl (lv_room (Nat.le_of_ble_eq_true rfl)) dX12_share_32 ⟨Nat.le_of_ble_eq_true rfl, Nat.le_of_ble_eq_true rfl⟩) hP hD hS hA [0, 1] [2] rfl rfl (by decide) (by decide) (fun r4 u4 H locs hw4 hP hD hS => ?_)
      obtain rfl := hw4
      have hP : va_P D vwCl [((ma 12), .inl (cy 0, 389, .inl sF)), (mo, .inr (12, [.int 1, .ref (ma 1), .int 0, .int 0, .int 0, .int 0, .int 0, .int 0, .int (-1), .ref (ma 9), .ref (ma 10), .ref (ma 11), .ref (ma 12), .ref (ma 13), .ref (ma 14), .ref (ma 15), .int 0, .int 0, .int 0, .ref (ma 19), .ref (ma 20), .ref (ma 21), .int 0, .ref (ma 23), .ref (ma 24), .ref (ma 25), .ref (ma 26), .ref (ma 27), .ref (ma 28), .int 0, .int 0, .int 0, .int 0, .ref (ma 33), .int (-1), .ref (ma 35), .int 0, .int 0]))] H := hP
      have hD : va_D A [((ma 12), .inl (cy 0, 389, .inl sF)), (mo, .inr (12, [.int 1, .ref (ma 1), .int 0, .int 0, .int 0, .int 0, .int 0, .int 0, .int (-1), .ref (ma 9), .ref (ma 10), .ref (ma 11), .ref (ma 12), .ref (ma 13), .ref (ma 14), .ref (ma 15), .int 0, .int 0, .int 0, .ref (ma 19), .ref (ma 20), .ref (ma 21), .int 0, .ref (ma 23), .ref (ma 24), .ref (ma 25), .ref (ma 26), .ref (ma 27), .ref (ma 28), .int 0, .int 0, .int 0, .int 0, .ref (ma 33), .int (-1), .ref (ma 35), .int 0, .int 0]))] := hD
      refine lv_if_ne (tgt := 40) hx hb dX12_share_35 (by decide) (fun c => absurd (by decide) c) (fun _ => ?_)
      refine lv_iconst (v := 0) hx hb dX12_share_38 (by decide) ?_
      refine W.widen (k := 0) (n := 0) (Nat.le_of_ble_eq_true rfl) (Nat.le_of_ble_eq_true rfl) ?_
      exact W.iret (v := 0) hx hb hr (fun t ht hW => ⟨⟨0, ((fun k => ([] : List Nat).getD k 0), (fun k => ([1] : List Int32).getD k 0), (fun k => ([] : List (Nat → Int32)).getD k (fun _ => 0))), rfl, (by first | (left; exact ⟨hg2, by rfl, by rfl⟩)), by rw [ht]; exact hP.sub [1] rfl, hD.sub [1] (by decide) rfl⟩, hS.F ht⟩) hS.2.2 dX12_share_39
  · exact absurd hg1 (fun q => absurd (by decide) q)
def vs_m_share1 : List Cond := .code yX12_share cX12_share 4 (some .int) :: (([.fieldLink RX12 1 "KerbSplashModel" "thrown" "I", .fieldLink RX12 29 "KerbSplashModel" "s" "[I"] : List Cond) ++ ((wsX120) ++ ((va_wsS RX12 279 yX12_within vs_c_within) ++ ((wsV RX12 175 RX12 yX12_may vs_c_may1) ++ ((wsV RX12 175 RX12 yX12_may vs_c_may0_2) ++ ([]))))))
set_option maxHeartbeats 4000000 in
set_option maxRecDepth 100000 in
theorem m_share1 (l : Launch) (hl : l.stackTraces = false) (D : va_G) (cy : Nat → ClassId) (sa : Nat → Nat) (mo : Nat) (ma : Nat → Nat) (p1 : Int32) (sz : Nat) : Met l yX12_share vs_m_share1 ({ frames := 1, cells := 0, slots := 0, locals := 23 }) (va_Pc [.ref mo, .int 1, .int p1] (pcW D cy sa sz [(mo, .inr (12, [.int 0, .ref (ma 1), .int 0, .int 0, .int 0, .int 0, .int 0, .int 0, .int (-1), .ref (ma 9), .ref (ma 10), .ref (ma 11), .ref (ma 12), .ref (ma 13), .ref (ma 14), .ref (ma 15), .int 0, .int 0, .int 0, .ref (ma 19), .ref (ma 20), .ref (ma 21), .int 0, .ref (ma 23), .ref (ma 24), .ref (ma 25), .ref (ma 26), .ref (ma 27), .ref (ma 28), .int 0, .int 0, .int 0, .int 0, .ref (ma 33), .int (-1), .ref (ma 35), .int 0, .int 0])), ((ma 1), .inl (cy 0, 4, .inl (fun _ => 0))), ((ma 12), .inl (cy 0, 389, .inl sF))])) (va_Qi (fun (r : Int32) (u : SU) => ((¬ (0 ≤ p1 ∧ p1 ≤ 99)) ∧ r = 0 ∧ (u.2.1 0) = 1) ∨ (((0 ≤ p1 ∧ p1 ≤ 99)) ∧ r = 1 ∧ (u.2.1 0) = 0)) (fun u t => atW D (va_A [(mo, .inr (12, [.int 0, .ref (ma 1), .int 0, .int 0, .int 0, .int 0, .int 0, .int 0, .int (-1), .ref (ma 9), .ref (ma 10), .ref (ma 11), .ref (ma 12), .ref (ma 13), .ref (ma 14), .ref (ma 15), .int 0, .int 0, .int 0, .ref (ma 19), .ref (ma 20), .ref (ma 21), .int 0, .ref (ma 23), .ref (ma 24), .ref (ma 25), .ref (ma 26), .ref (ma 27), .ref (ma 28), .int 0, .int 0, .int 0, .int 0, .ref (ma 33), .int (-1), .ref (ma 35), .int 0, .int 0])), ((ma 1), .inl (cy 0, 4, .inl (fun _ => 0))), ((ma 12), .inl (cy 0, 389, .inl sF))] sz) [(mo, .inr (12, [.int (u.2.1 0), .ref (ma 1), .int 0, .int 0, .int 0, .int 0, .int 0, .int 0, .int (-1), .ref (ma 9), .ref (ma 10), .ref (ma 11), .ref (ma 12), .ref (ma 13), .ref (ma 14), .ref (ma 15), .int 0, .int 0, .int 0, .ref (ma 19), .ref (ma 20), .ref (ma 21), .int 0, .ref (ma 23), .ref (ma 24), .ref (ma 25), .ref (ma 26), .ref (ma 27), .ref (ma 28), .int 0, .int 0, .int 0, .int 0, .ref (ma 33), .int (-1), .ref (ma 35), .int 0, .int 0]))] t) (va_A [(mo, .inr (12, [.int 0, .ref (ma 1), .int 0, .int 0, .int 0, .int 0, .int 0, .int 0, .int (-1), .ref (ma 9), .ref (ma 10), .ref (ma 11), .ref (ma 12), .ref (ma 13), .ref (ma 14), .ref (ma 15), .int 0, .int 0, .int 0, .ref (ma 19), .ref (ma 20), .ref (ma 21), .int 0, .ref (ma 23), .ref (ma 24), .ref (ma 25), .ref (ma 26), .ref (ma 27), .ref (ma 28), .int 0, .int 0, .int 0, .int 0, .ref (ma 33), .int (-1), .ref (ma 35), .int 0, .int 0])), ((ma 1), .inl (cy 0, 4, .inl (fun _ => 0))), ((ma 12), .inl (cy 0, 389, .inl sF))] sz)) 0 0 (va_A [(mo, .inr (12, [.int 0, .ref (ma 1), .int 0, .int 0, .int 0, .int 0, .int 0, .int 0, .int (-1), .ref (ma 9), .ref (ma 10), .ref (ma 11), .ref (ma 12), .ref (ma 13), .ref (ma 14), .ref (ma 15), .int 0, .int 0, .int 0, .ref (ma 19), .ref (ma 20), .ref (ma 21), .int 0, .ref (ma 23), .ref (ma 24), .ref (ma 25), .ref (ma 26), .ref (ma 27), .ref (ma 28), .int 0, .int 0, .int 0, .int 0, .ref (ma 33), .int (-1), .ref (ma 35), .int 0, .int 0])), ((ma 1), .inl (cy 0, 4, .inl (fun _ => 0))), ((ma 12), .inl (cy 0, 389, .inl sF))] sz) := by
  refine Met.ofW (cc := cX12_share) (maxL := 4) (ret := (some .int)) (by decide) rfl ?_
  intro p e s m args below meth c s₁ B hml hv
  obtain ⟨rfl, hsz, hP, hG, hD0, hT⟩ := hv
  have hx := B.exec
  have hb := B.bytes
  have hr := B.returns
  have hts := atoms_spec (ws := vs_m_share1) B.pre
  have hown : s.vm.findClass RX12 = some m.cls := findClass_of_methodNamed B.named
  have hlocks := B.notSynchronized
  subst hsz
  have hD := hD0.self (sz := s.heap.size)
  generalize hAe : va_A [(mo, .inr (12, [.int 0, .ref (ma 1), .int 0, .int 0, .int 0, .int 0, .int 0, .int 0, .int (-1), .ref (ma 9), .ref (ma 10), .ref (ma 11), .ref (ma 12), .ref (ma 13), .ref (ma 14), .ref (ma 15), .int 0, .int 0, .int 0, .ref (ma 19), .ref (ma 20), .ref (ma 21), .int 0, .ref (ma 23), .ref (ma 24), .ref (ma 25), .ref (ma 26), .ref (ma 27), .ref (ma 28), .int 0, .int 0, .int 0, .int 0, .ref (ma 33), .int (-1), .ref (ma 35), .int 0, .int 0])), ((ma 1), .inl (cy 0, 4, .inl (fun _ => 0))), ((ma 12), .inl (cy 0, 389, .inl sF))] s.heap.size = A at hD hT ⊢
  have hA : ∀ q : Nat, s.heap.size ≤ q → A q := fun q h => by rw [← hAe]; exact Or.inr h
  have hS : va_S A s.heap s.heap [] := va_S.rf
  have hl0 := lv_entry ([.ref mo, .int 1, .int p1]) (n := 4) (Nat.le_of_ble_eq_true rfl)
  rw [lg_entry_eq]
  generalize (lg_sl ([.ref mo, .int 1, .int p1]) ++ List.replicate (4 - (lg_sl ([.ref mo, .int 1, .int p1])).length) Slot.unset).toArray = ls at hl0 ⊢
  have hlv : lv_has ls 4 [(0, .ref mo), (1, .int 1), (2, .int p1)] := hl0
  have lf1 := hts (.fieldLink RX12 1 "KerbSplashModel" "thrown" "I") (List.mem_of_getElem? (i := 1) rfl)
  have hi12 : ∀ w ∈ wsX120, w ∈ vs_m_share1 := fun w h => List.mem_cons_of_mem _ (List.mem_append_right _ (List.mem_append_left _ h))
  have gg_1 : GoodIn vs_m_share1 (va_wsS RX12 279 yX12_within vs_c_within) := goodIn_sub (fun w h => List.mem_cons_of_mem _ (List.mem_append_right _ (List.mem_append_right _ (List.mem_append_left _ h)))) (by decide +kernel)
  have gg_2 : GoodIn vs_m_share1 (wsV RX12 175 RX12 yX12_may vs_c_may1) := goodIn_sub (fun w h => List.mem_cons_of_mem _ (List.mem_append_right _ (List.mem_append_right _ (List.mem_append_right _ (List.mem_append_left _ h))))) (by decide +kernel)
  have lf29 := hts (.fieldLink RX12 29 "KerbSplashModel" "s" "[I") (List.mem_of_getElem? (i := 2) rfl)
  have gg_3 : GoodIn vs_m_share1 (wsV RX12 175 RX12 yX12_may vs_c_may0_2) := goodIn_sub (fun w h => List.mem_cons_of_mem _ (List.mem_append_right _ (List.mem_append_right _ (List.mem_append_right _ (List.mem_append_right _ (List.mem_append_left _ h)))))) (by decide +kernel)
  refine lv_aload_n hx hb dX12_share_0 rfl (lv_at hlv 0 rfl) ?_
  refine lv_iconst (v := 0) hx hb dX12_share_1 (by decide) ?_
  refine va_put (D := D) (ci := 12) (v := .int 0) (ty := .int) (C := RX12) (T := TX12) (N := 38) hx hb hts hi12 tyX12 tyX12_ok nmX12 hown hG.1 hP hD hS 0 rfl rfl 0 (by decide) lf1 (fun _ h9 => h9) rfl (by decide +kernel) rfl rfl (Nat.le_of_ble_eq_true rfl) dX12_share_2 (fun H locs hP hD hS => ?_)
  have hP : va_P D vwCl [(mo, .inr (12, [.int 0, .ref (ma 1), .int 0, .int 0, .int 0, .int 0, .int 0, .int 0, .int (-1), .ref (ma 9), .ref (ma 10), .ref (ma 11), .ref (ma 12), .ref (ma 13), .ref (ma 14), .ref (ma 15), .int 0, .int 0, .int 0, .ref (ma 19), .ref (ma 20), .ref (ma 21), .int 0, .ref (ma 23), .ref (ma 24), .ref (ma 25), .ref (ma 26), .ref (ma 27), .ref (ma 28), .int 0, .int 0, .int 0, .int 0, .ref (ma 33), .int (-1), .ref (ma 35), .int 0, .int 0])), ((ma 1), .inl (cy 0, 4, .inl (fun _ => 0))), ((ma 12), .inl (cy 0, 389, .inl sF))] H := hP
  have hD : va_D A [(mo, .inr (12, [.int 0, .ref (ma 1), .int 0, .int 0, .int 0, .int 0, .int 0, .int 0, .int (-1), .ref (ma 9), .ref (ma 10), .ref (ma 11), .ref (ma 12), .ref (ma 13), .ref (ma 14), .ref (ma 15), .int 0, .int 0, .int 0, .ref (ma 19), .ref (ma 20), .ref (ma 21), .int 0, .ref (ma 23), .ref (ma 24), .ref (ma 25), .ref (ma 26), .ref (ma 27), .ref (ma 28), .int 0, .int 0, .int 0, .int 0, .ref (ma 33), .int (-1), .ref (ma 35), .int 0, .int 0])), ((ma 1), .inl (cy 0, 4, .inl (fun _ => 0))), ((ma 12), .inl (cy 0, 389, .inl sF))] := hD
  refine lv_aload_n hx hb dX12_share_5 rfl (lv_at hlv 0 rfl) ?_
  refine lv_iload_n hx hb dX12_share_6 rfl (lv_at hlv 1 rfl) ?_
  refine lv_iconst (v := 0) hx hb dX12_share_7 (by decide) ?_
  refine lv_iconst (v := 3) hx hb dX12_share_8 (by decide) ?_
  refine cj_i (wr := [(mo, .inr (12, [.int 0, .ref (ma 1), .int 0, .int 0, .int 0, .int 0, .int 0, .int 0, .int (-1), .ref (ma 9), .ref (ma 10), .ref (ma 11), .ref (ma 12), .ref (ma 13), .ref (ma 14), .ref (ma 15), .int 0, .int 0, .int 0, .ref (ma 19), .ref (ma 20), .ref (ma 21), .int 0, .ref (ma 23), .ref (ma 24), .ref (ma 25), .ref (ma 26), .ref (ma 27), .ref (ma 28), .int 0, .int 0, .int 0, .int 0, .ref (ma 33), .int (-1), .ref (ma 35), .int 0, .int 0])), ((ma 1), .inl (cy 0, 4, .inl (fun _ => 0))), ((ma 12), .inl (cy 0, 389, .inl sF))]) (va_runS (As := [.int 1, .int 0, .int 3]) (rest := [.ref mo]) ⟨hx, hb, hml, hown, hts⟩ (c_within l hl D cy sa 1 0 3 H.size) (va_cwS 3 hts gg_1 rfl rfl rfl (by decide +kernel) ⟨Nat.le_of_ble_eq_true rfl, Nat.le_of_ble_eq_true rfl⟩) ⟨pcW.blind, (pcW.mk hP hD hS hA hG hT [] rfl (by decide))⟩ rfl rfl hlv.1 rfl (lv_room (Nat.le_of_ble_eq_true rfl)) dX12_share_9 ⟨Nat.le_of_ble_eq_true rfl, Nat.le_of_ble_eq_true rfl⟩) hP hD hS hA [] [0, 1, 2] rfl rfl (by decide) (by decide) (fun r1 u1 H locs hw1 hP hD hS => ?_)
  rcases hw1 with ⟨hg1, rfl⟩ | ⟨hg1, rfl⟩
  · have hP : va_P D vwCl [(mo, .inr (12, [.int 0, .ref (ma 1), .int 0, .int 0, .int 0, .int 0, .int 0, .int 0, .int (-1), .ref (ma 9), .ref (ma 10), .ref (ma 11), .ref (ma 12), .ref (ma 13), .ref (ma 14), .ref (ma 15), .int 0, .int 0, .int 0, .ref (ma 19), .ref (ma 20), .ref (ma 21), .int 0, .ref (ma 23), .ref (ma 24), .ref (ma 25), .ref (ma 26), .ref (ma 27), .ref (ma 28), .int 0, .int 0, .int 0, .int 0, .ref (ma 33), .int (-1), .ref (ma 35), .int 0, .int 0])), ((ma 1), .inl (cy 0, 4, .inl (fun _ => 0))), ((ma 12), .inl (cy 0, 389, .inl sF))] H := hP
    have hD : va_D A [(mo, .inr (12, [.int 0, .ref (ma 1), .int 0, .int 0, .int 0, .int 0, .int 0, .int 0, .int (-1), .ref (ma 9), .ref (ma 10), .ref (ma 11), .ref (ma 12), .ref (ma 13), .ref (ma 14), .ref (ma 15), .int 0, .int 0, .int 0, .ref (ma 19), .ref (ma 20), .ref (ma 21), .int 0, .ref (ma 23), .ref (ma 24), .ref (ma 25), .ref (ma 26), .ref (ma 27), .ref (ma 28), .int 0, .int 0, .int 0, .int 0, .ref (ma 33), .int (-1), .ref (ma 35), .int 0, .int 0])), ((ma 1), .inl (cy 0, 4, .inl (fun _ => 0))), ((ma 12), .inl (cy 0, 389, .inl sF))] := hD
    refine lv_if_eq (tgt := 29) hx hb dX12_share_12 (by decide) (fun c => absurd c (by decide)) (fun _ => ?_)
    refine lv_iload_n hx hb dX12_share_15 rfl (lv_at hlv 2 rfl) ?_
    refine lv_iconst (v := 0) hx hb dX12_share_16 (by decide) ?_
    refine lv_bipush (v := 99) hx hb dX12_share_17 (by decide) ?_
    refine cj_i (wr := [(mo, .inr (12, [.int 0, .ref (ma 1), .int 0, .int 0, .int 0, .int 0, .int 0, .int 0, .int (-1), .ref (ma 9), .ref (ma 10), .ref (ma 11), .ref (ma 12), .ref (ma 13), .ref (ma 14), .ref (ma 15), .int 0, .int 0, .int 0, .ref (ma 19), .ref (ma 20), .ref (ma 21), .int 0, .ref (ma 23), .ref (ma 24), .ref (ma 25), .ref (ma 26), .ref (ma 27), .ref (ma 28), .int 0, .int 0, .int 0, .int 0, .ref (ma 33), .int (-1), .ref (ma 35), .int 0, .int 0])), ((ma 1), .inl (cy 0, 4, .inl (fun _ => 0))), ((ma 12), .inl (cy 0, 389, .inl sF))]) (va_runS (As := [.int p1, .int 0, .int 99]) (rest := [.ref mo]) ⟨hx, hb, hml, hown, hts⟩ (c_within l hl D cy sa p1 0 99 H.size) (va_cwS 3 hts gg_1 rfl rfl rfl (by decide +kernel) ⟨Nat.le_of_ble_eq_true rfl, Nat.le_of_ble_eq_true rfl⟩) ⟨pcW.blind, (pcW.mk hP hD hS hA hG hT [] rfl (by decide))⟩ rfl rfl hlv.1 rfl (lv_room (Nat.le_of_ble_eq_true rfl)) dX12_share_19 ⟨Nat.le_of_ble_eq_true rfl, Nat.le_of_ble_eq_true rfl⟩) hP hD hS hA [] [0, 1, 2] rfl rfl (by decide) (by decide) (fun r2 u2 H locs hw2 hP hD hS => ?_)
    rcases hw2 with ⟨hg2, rfl⟩ | ⟨hg2, rfl⟩
    · have hP : va_P D vwCl [(mo, .inr (12, [.int 0, .ref (ma 1), .int 0, .int 0, .int 0, .int 0, .int 0, .int 0, .int (-1), .ref (ma 9), .ref (ma 10), .ref (ma 11), .ref (ma 12), .ref (ma 13), .ref (ma 14), .ref (ma 15), .int 0, .int 0, .int 0, .ref (ma 19), .ref (ma 20), .ref (ma 21), .int 0, .ref (ma 23), .ref (ma 24), .ref (ma 25), .ref (ma 26), .ref (ma 27), .ref (ma 28), .int 0, .int 0, .int 0, .int 0, .ref (ma 33), .int (-1), .ref (ma 35), .int 0, .int 0])), ((ma 1), .inl (cy 0, 4, .inl (fun _ => 0))), ((ma 12), .inl (cy 0, 389, .inl sF))] H := hP
      have hD : va_D A [(mo, .inr (12, [.int 0, .ref (ma 1), .int 0, .int 0, .int 0, .int 0, .int 0, .int 0, .int (-1), .ref (ma 9), .ref (ma 10), .ref (ma 11), .ref (ma 12), .ref (ma 13), .ref (ma 14), .ref (ma 15), .int 0, .int 0, .int 0, .ref (ma 19), .ref (ma 20), .ref (ma 21), .int 0, .ref (ma 23), .ref (ma 24), .ref (ma 25), .ref (ma 26), .ref (ma 27), .ref (ma 28), .int 0, .int 0, .int 0, .int 0, .ref (ma 33), .int (-1), .ref (ma 35), .int 0, .int 0])), ((ma 1), .inl (cy 0, 4, .inl (fun _ => 0))), ((ma 12), .inl (cy 0, 389, .inl sF))] := hD
      refine lv_if_eq (tgt := 29) hx hb dX12_share_22 (by decide) (fun c => absurd c (by decide)) (fun _ => ?_)
      refine lv_iconst (v := 1) hx hb dX12_share_25 (by decide) ?_
      refine lv_goto (tgt := 30) hx hb dX12_share_26 (by decide) ?_
      refine lv_iconst (v := 1) hx hb dX12_share_30 (by decide) ?_
      refine lv_iconst (v := 2) hx hb dX12_share_31 (by decide) ?_
      refine cj_i (wr := [((ma 1), .inl (cy 0, 4, .inl (fun _ => 0))), ((ma 12), .inl (cy 0, 389, .inl sF))]) (va_runV (As := [.int 1, .int 1, .int 2]) (rest := []) ⟨hx, hb, hml, hown, hts⟩ (c_may1 l hl D cy sa mo ma 1 2 H.size) (cwV 3 hts gg_2 rfl rfl rfl (by decide +kernel) ⟨Nat.le_of_ble_eq_true rfl, Nat.le_of_ble_eq_true rfl⟩) ⟨pcW.blind, (va_recv hG.1 hP (ci := 12) (q0 := 0) rfl rfl), (pcW.mk hP hD hS hA hG hT [0] rfl (by decide))⟩ rfl rfl hlv.1 rfl (lv_room (Nat.le_of_ble_eq_true rfl)) dX12_share_32 ⟨Nat.le_of_ble_eq_true rfl, Nat.le_of_ble_eq_true rfl⟩) hP hD hS hA [0] [1, 2] rfl rfl (by decide) (by decide) (fun r3 u3 H locs hw3 hP hD hS => ?_)
      obtain rfl := hw3
      have hP : va_P D vwCl [((ma 1), .inl (cy 0, 4, .inl (fun _ => 0))), ((ma 12), .inl (cy 0, 389, .inl sF)), (mo, .inr (12, [.int 0, .ref (ma 1), .int 0, .int 0, .int 0, .int 0, .int 0, .int 0, .int (-1), .ref (ma 9), .ref (ma 10), .ref (ma 11), .ref (ma 12), .ref (ma 13), .ref (ma 14), .ref (ma 15), .int 0, .int 0, .int 0, .ref (ma 19), .ref (ma 20), .ref (ma 21), .int 0, .ref (ma 23), .ref (ma 24), .ref (ma 25), .ref (ma 26), .ref (ma 27), .ref (ma 28), .int 0, .int 0, .int 0, .int 0, .ref (ma 33), .int (-1), .ref (ma 35), .int 0, .int 0]))] H := hP
      have hD : va_D A [((ma 1), .inl (cy 0, 4, .inl (fun _ => 0))), ((ma 12), .inl (cy 0, 389, .inl sF)), (mo, .inr (12, [.int 0, .ref (ma 1), .int 0, .int 0, .int 0, .int 0, .int 0, .int 0, .int (-1), .ref (ma 9), .ref (ma 10), .ref (ma 11), .ref (ma 12), .ref (ma 13), .ref (ma 14), .ref (ma 15), .int 0, .int 0, .int 0, .ref (ma 19), .ref (ma 20), .ref (ma 21), .int 0, .ref (ma 23), .ref (ma 24), .ref (ma 25), .ref (ma 26), .ref (ma 27), .ref (ma 28), .int 0, .int 0, .int 0, .int 0, .ref (ma 33), .int (-1), .ref (ma 35), .int 0, .int 0]))] := hD
      refine lv_if_ne (tgt := 40) hx hb dX12_share_35 (by decide) (fun _ => ?_) (fun c => absurd c (by decide))
      refine lv_aload_n hx hb dX12_share_40 rfl (lv_at hlv 0 rfl) ?_
      refine va_get (D := D) (ci := 12) (v := .ref (ma 12)) (C := RX12) (T := TX12) (N := 38) hx hb hts hi12 hown hG.1 hP 2 rfl rfl 12 (by decide) lf29 (fun _ h9 => h9) rfl dX12_share_41 ?_
      refine lv_sipush (v := 353) hx hb dX12_share_44 (by decide) ?_
      refine lv_iload_n hx hb dX12_share_47 rfl (lv_at hlv 1 rfl) ?_
      refine lv_iadd hx hb dX12_share_48 ?_
      refine lt_i (y := 354) (by decide) ?_
      refine va_iald hx hb hG.1 hP 1 0 rfl rfl (vpd (by decide)) dX12_share_49 ?_
      refine lt_i (y := 1) (by first | rfl | decide +kernel) ?_
      refine lv_istore_n (lv' := [(3, .int 1), (0, .ref mo), (1, .int 1), (2, .int p1)]) hx hb dX12_share_50 rfl hlv (by decide) rfl (fun ls hlv => ?_)
      refine lv_aload_n hx hb dX12_share_51 rfl (lv_at hlv 1 rfl) ?_
      refine va_get (D := D) (ci := 12) (v := .ref (ma 12)) (C := RX12) (T := TX12) (N := 38) hx hb hts hi12 hown hG.1 hP 2 rfl rfl 12 (by decide) lf29 (fun _ h9 => h9) rfl dX12_share_52 ?_
      refine lv_sipush (v := 353) hx hb dX12_share_55 (by decide) ?_
      refine lv_iload_n hx hb dX12_share_58 rfl (lv_at hlv 2 rfl) ?_
      refine lv_iadd hx hb dX12_share_59 ?_
      refine lt_i (y := 354) (by decide) ?_
      refine lv_iload_n hx hb dX12_share_60 rfl (lv_at hlv 3 rfl) ?_
      refine va_iast hx hb hG.1 hP hD hS 1 0 rfl rfl (vpd (by decide)) dX12_share_61 (fun H locs hP hD hS => ?_)
      have ⟨f_1, hP, hD⟩ : ∃ f_1 : Nat → Int32, va_P D vwCl [((ma 1), .inl (cy 0, 4, .inl (fun _ => 0))), ((ma 12), .inl (cy 0, 389, .inl f_1)), (mo, .inr (12, [.int 0, .ref (ma 1), .int 0, .int 0, .int 0, .int 0, .int 0, .int 0, .int (-1), .ref (ma 9), .ref (ma 10), .ref (ma 11), .ref (ma 12), .ref (ma 13), .ref (ma 14), .ref (ma 15), .int 0, .int 0, .int 0, .ref (ma 19), .ref (ma 20), .ref (ma 21), .int 0, .ref (ma 23), .ref (ma 24), .ref (ma 25), .ref (ma 26), .ref (ma 27), .ref (ma 28), .int 0, .int 0, .int 0, .int 0, .ref (ma 33), .int (-1), .ref (ma 35), .int 0, .int 0]))] H ∧ va_D A [((ma 1), .inl (cy 0, 4, .inl (fun _ => 0))), ((ma 12), .inl (cy 0, 389, .inl f_1)), (mo, .inr (12, [.int 0, .ref (ma 1), .int 0, .int 0, .int 0, .int 0, .int 0, .int 0, .int (-1), .ref (ma 9), .ref (ma 10), .ref (ma 11), .ref (ma 12), .ref (ma 13), .ref (ma 14), .ref (ma 15), .int 0, .int 0, .int 0, .ref (ma 19), .ref (ma 20), .ref (ma 21), .int 0, .ref (ma 23), .ref (ma 24), .ref (ma 25), .ref (ma 26), .ref (ma 27), .ref (ma 28), .int 0, .int 0, .int 0, .int 0, .ref (ma 33), .int (-1), .ref (ma 35), .int 0, .int 0]))] := ⟨_, hP, hD⟩
      refine lv_iload_n hx hb dX12_share_62 rfl (lv_at hlv 0 rfl) ?_
      refine W.widen (k := 0) (n := 0) (Nat.le_of_ble_eq_true rfl) (Nat.le_of_ble_eq_true rfl) ?_
      exact W.iret (v := 1) hx hb hr (fun t ht hW => ⟨⟨1, ((fun k => ([] : List Nat).getD k 0), (fun k => ([0] : List Int32).getD k 0), (fun k => ([] : List (Nat → Int32)).getD k (fun _ => 0))), rfl, (by first | (right; exact ⟨hg2, by rfl, by rfl⟩)), by rw [ht]; exact hP.sub [2] rfl, hD.sub [2] (by decide) rfl⟩, hS.F ht⟩) hS.2.2 dX12_share_63
    · have hP : va_P D vwCl [(mo, .inr (12, [.int 0, .ref (ma 1), .int 0, .int 0, .int 0, .int 0, .int 0, .int 0, .int (-1), .ref (ma 9), .ref (ma 10), .ref (ma 11), .ref (ma 12), .ref (ma 13), .ref (ma 14), .ref (ma 15), .int 0, .int 0, .int 0, .ref (ma 19), .ref (ma 20), .ref (ma 21), .int 0, .ref (ma 23), .ref (ma 24), .ref (ma 25), .ref (ma 26), .ref (ma 27), .ref (ma 28), .int 0, .int 0, .int 0, .int 0, .ref (ma 33), .int (-1), .ref (ma 35), .int 0, .int 0])), ((ma 1), .inl (cy 0, 4, .inl (fun _ => 0))), ((ma 12), .inl (cy 0, 389, .inl sF))] H := hP
      have hD : va_D A [(mo, .inr (12, [.int 0, .ref (ma 1), .int 0, .int 0, .int 0, .int 0, .int 0, .int 0, .int (-1), .ref (ma 9), .ref (ma 10), .ref (ma 11), .ref (ma 12), .ref (ma 13), .ref (ma 14), .ref (ma 15), .int 0, .int 0, .int 0, .ref (ma 19), .ref (ma 20), .ref (ma 21), .int 0, .ref (ma 23), .ref (ma 24), .ref (ma 25), .ref (ma 26), .ref (ma 27), .ref (ma 28), .int 0, .int 0, .int 0, .int 0, .ref (ma 33), .int (-1), .ref (ma 35), .int 0, .int 0])), ((ma 1), .inl (cy 0, 4, .inl (fun _ => 0))), ((ma 12), .inl (cy 0, 389, .inl sF))] := hD
      refine lv_if_eq (tgt := 29) hx hb dX12_share_22 (by decide) (fun _ => ?_) (fun c => absurd (by decide) c)
      refine lv_iconst (v := 0) hx hb dX12_share_29 (by decide) ?_
      refine lv_iconst (v := 1) hx hb dX12_share_30 (by decide) ?_
      refine lv_iconst (v := 2) hx hb dX12_share_31 (by decide) ?_
      refine cj_i (wr := [((ma 12), .inl (cy 0, 389, .inl sF))]) (va_runV (As := [.int 0, .int 1, .int 2]) (rest := []) ⟨hx, hb, hml, hown, hts⟩ (c_may0_2 l hl D cy sa mo ma 1 H.size (by decide)) (cwV 3 hts gg_3 rfl rfl rfl (by decide +kernel) ⟨Nat.le_of_ble_eq_true rfl, Nat.le_of_ble_eq_true rfl⟩) ⟨pcW.blind, (va_recv hG.1 hP (ci := 12) (q0 := 0) rfl rfl), (pcW.mk hP hD hS hA hG hT [0, 1] rfl (by decide))⟩ rfl rfl hlv.1 rfl (lv_room (Nat.le_of_ble_eq_true rfl)) dX12_share_32 ⟨Nat.le_of_ble_eq_true rfl, Nat.le_of_ble_eq_true rfl⟩) hP hD hS hA [0, 1] [2] rfl rfl (by decide) (by decide) (fun r4 u4 H locs hw4 hP hD hS => ?_)
      obtain rfl := hw4
      have hP : va_P D vwCl [((ma 12), .inl (cy 0, 389, .inl sF)), (mo, .inr (12, [.int 1, .ref (ma 1), .int 0, .int 0, .int 0, .int 0, .int 0, .int 0, .int (-1), .ref (ma 9), .ref (ma 10), .ref (ma 11), .ref (ma 12), .ref (ma 13), .ref (ma 14), .ref (ma 15), .int 0, .int 0, .int 0, .ref (ma 19), .ref (ma 20), .ref (ma 21), .int 0, .ref (ma 23), .ref (ma 24), .ref (ma 25), .ref (ma 26), .ref (ma 27), .ref (ma 28), .int 0, .int 0, .int 0, .int 0, .ref (ma 33), .int (-1), .ref (ma 35), .int 0, .int 0]))] H := hP
      have hD : va_D A [((ma 12), .inl (cy 0, 389, .inl sF)), (mo, .inr (12, [.int 1, .ref (ma 1), .int 0, .int 0, .int 0, .int 0, .int 0, .int 0, .int (-1), .ref (ma 9), .ref (ma 10), .ref (ma 11), .ref (ma 12), .ref (ma 13), .ref (ma 14), .ref (ma 15), .int 0, .int 0, .int 0, .ref (ma 19), .ref (ma 20), .ref (ma 21), .int 0, .ref (ma 23), .ref (ma 24), .ref (ma 25), .ref (ma 26), .ref (ma 27), .ref (ma 28), .int 0, .int 0, .int 0, .int 0, .ref (ma 33), .int (-1), .ref (ma 35), .int 0, .int 0]))] := hD
      refine lv_if_ne (tgt := 40) hx hb dX12_share_35 (by decide) (fun c => absurd (by decide) c) (fun _ => ?_)
      refine lv_iconst (v := 0) hx hb dX12_share_38 (by decide) ?_
      refine W.widen (k := 0) (n := 0) (Nat.le_of_ble_eq_true rfl) (Nat.le_of_ble_eq_true rfl) ?_
      exact W.iret (v := 0) hx hb hr (fun t ht hW => ⟨⟨0, ((fun k => ([] : List Nat).getD k 0), (fun k => ([1] : List Int32).getD k 0), (fun k => ([] : List (Nat → Int32)).getD k (fun _ => 0))), rfl, (by first | (left; exact ⟨hg2, by rfl, by rfl⟩)), by rw [ht]; exact hP.sub [1] rfl, hD.sub [1] (by decide) rfl⟩, hS.F ht⟩) hS.2.2 dX12_share_39
  · exact absurd hg1 (fun q => absurd (by decide) q)
def vs_m_share2 : List Cond := .code yX12_share cX12_share 4 (some .int) :: (([.fieldLink RX12 1 "KerbSplashModel" "thrown" "I", .fieldLink RX12 29 "KerbSplashModel" "s" "[I"] : List Cond) ++ ((wsX120) ++ ((va_wsS RX12 279 yX12_within vs_c_within) ++ ((wsV RX12 175 RX12 yX12_may vs_c_may1) ++ ((wsV RX12 175 RX12 yX12_may vs_c_may0_2) ++ ([]))))))
set_option maxHeartbeats 4000000 in
set_option maxRecDepth 100000 in
theorem m_share2 (l : Launch) (hl : l.stackTraces = false) (D : va_G) (cy : Nat → ClassId) (sa : Nat → Nat) (mo : Nat) (ma : Nat → Nat) (p1 : Int32) (sz : Nat) : Met l yX12_share vs_m_share2 ({ frames := 1, cells := 0, slots := 0, locals := 23 }) (va_Pc [.ref mo, .int 2, .int p1] (pcW D cy sa sz [(mo, .inr (12, [.int 0, .ref (ma 1), .int 0, .int 0, .int 0, .int 0, .int 0, .int 0, .int (-1), .ref (ma 9), .ref (ma 10), .ref (ma 11), .ref (ma 12), .ref (ma 13), .ref (ma 14), .ref (ma 15), .int 0, .int 0, .int 0, .ref (ma 19), .ref (ma 20), .ref (ma 21), .int 0, .ref (ma 23), .ref (ma 24), .ref (ma 25), .ref (ma 26), .ref (ma 27), .ref (ma 28), .int 0, .int 0, .int 0, .int 0, .ref (ma 33), .int (-1), .ref (ma 35), .int 0, .int 0])), ((ma 1), .inl (cy 0, 4, .inl (fun _ => 0))), ((ma 12), .inl (cy 0, 389, .inl sF))])) (va_Qi (fun (r : Int32) (u : SU) => ((¬ (0 ≤ p1 ∧ p1 ≤ 99)) ∧ r = 0 ∧ (u.2.1 0) = 1) ∨ (((0 ≤ p1 ∧ p1 ≤ 99)) ∧ r = 1 ∧ (u.2.1 0) = 0)) (fun u t => atW D (va_A [(mo, .inr (12, [.int 0, .ref (ma 1), .int 0, .int 0, .int 0, .int 0, .int 0, .int 0, .int (-1), .ref (ma 9), .ref (ma 10), .ref (ma 11), .ref (ma 12), .ref (ma 13), .ref (ma 14), .ref (ma 15), .int 0, .int 0, .int 0, .ref (ma 19), .ref (ma 20), .ref (ma 21), .int 0, .ref (ma 23), .ref (ma 24), .ref (ma 25), .ref (ma 26), .ref (ma 27), .ref (ma 28), .int 0, .int 0, .int 0, .int 0, .ref (ma 33), .int (-1), .ref (ma 35), .int 0, .int 0])), ((ma 1), .inl (cy 0, 4, .inl (fun _ => 0))), ((ma 12), .inl (cy 0, 389, .inl sF))] sz) [(mo, .inr (12, [.int (u.2.1 0), .ref (ma 1), .int 0, .int 0, .int 0, .int 0, .int 0, .int 0, .int (-1), .ref (ma 9), .ref (ma 10), .ref (ma 11), .ref (ma 12), .ref (ma 13), .ref (ma 14), .ref (ma 15), .int 0, .int 0, .int 0, .ref (ma 19), .ref (ma 20), .ref (ma 21), .int 0, .ref (ma 23), .ref (ma 24), .ref (ma 25), .ref (ma 26), .ref (ma 27), .ref (ma 28), .int 0, .int 0, .int 0, .int 0, .ref (ma 33), .int (-1), .ref (ma 35), .int 0, .int 0]))] t) (va_A [(mo, .inr (12, [.int 0, .ref (ma 1), .int 0, .int 0, .int 0, .int 0, .int 0, .int 0, .int (-1), .ref (ma 9), .ref (ma 10), .ref (ma 11), .ref (ma 12), .ref (ma 13), .ref (ma 14), .ref (ma 15), .int 0, .int 0, .int 0, .ref (ma 19), .ref (ma 20), .ref (ma 21), .int 0, .ref (ma 23), .ref (ma 24), .ref (ma 25), .ref (ma 26), .ref (ma 27), .ref (ma 28), .int 0, .int 0, .int 0, .int 0, .ref (ma 33), .int (-1), .ref (ma 35), .int 0, .int 0])), ((ma 1), .inl (cy 0, 4, .inl (fun _ => 0))), ((ma 12), .inl (cy 0, 389, .inl sF))] sz)) 0 0 (va_A [(mo, .inr (12, [.int 0, .ref (ma 1), .int 0, .int 0, .int 0, .int 0, .int 0, .int 0, .int (-1), .ref (ma 9), .ref (ma 10), .ref (ma 11), .ref (ma 12), .ref (ma 13), .ref (ma 14), .ref (ma 15), .int 0, .int 0, .int 0, .ref (ma 19), .ref (ma 20), .ref (ma 21), .int 0, .ref (ma 23), .ref (ma 24), .ref (ma 25), .ref (ma 26), .ref (ma 27), .ref (ma 28), .int 0, .int 0, .int 0, .int 0, .ref (ma 33), .int (-1), .ref (ma 35), .int 0, .int 0])), ((ma 1), .inl (cy 0, 4, .inl (fun _ => 0))), ((ma 12), .inl (cy 0, 389, .inl sF))] sz) := by
  refine Met.ofW (cc := cX12_share) (maxL := 4) (ret := (some .int)) (by decide) rfl ?_
  intro p e s m args below meth c s₁ B hml hv
  obtain ⟨rfl, hsz, hP, hG, hD0, hT⟩ := hv
  have hx := B.exec
  have hb := B.bytes
  have hr := B.returns
  have hts := atoms_spec (ws := vs_m_share2) B.pre
  have hown : s.vm.findClass RX12 = some m.cls := findClass_of_methodNamed B.named
  have hlocks := B.notSynchronized
  subst hsz
  have hD := hD0.self (sz := s.heap.size)
  generalize hAe : va_A [(mo, .inr (12, [.int 0, .ref (ma 1), .int 0, .int 0, .int 0, .int 0, .int 0, .int 0, .int (-1), .ref (ma 9), .ref (ma 10), .ref (ma 11), .ref (ma 12), .ref (ma 13), .ref (ma 14), .ref (ma 15), .int 0, .int 0, .int 0, .ref (ma 19), .ref (ma 20), .ref (ma 21), .int 0, .ref (ma 23), .ref (ma 24), .ref (ma 25), .ref (ma 26), .ref (ma 27), .ref (ma 28), .int 0, .int 0, .int 0, .int 0, .ref (ma 33), .int (-1), .ref (ma 35), .int 0, .int 0])), ((ma 1), .inl (cy 0, 4, .inl (fun _ => 0))), ((ma 12), .inl (cy 0, 389, .inl sF))] s.heap.size = A at hD hT ⊢
  have hA : ∀ q : Nat, s.heap.size ≤ q → A q := fun q h => by rw [← hAe]; exact Or.inr h
  have hS : va_S A s.heap s.heap [] := va_S.rf
  have hl0 := lv_entry ([.ref mo, .int 2, .int p1]) (n := 4) (Nat.le_of_ble_eq_true rfl)
  rw [lg_entry_eq]
  generalize (lg_sl ([.ref mo, .int 2, .int p1]) ++ List.replicate (4 - (lg_sl ([.ref mo, .int 2, .int p1])).length) Slot.unset).toArray = ls at hl0 ⊢
  have hlv : lv_has ls 4 [(0, .ref mo), (1, .int 2), (2, .int p1)] := hl0
  have lf1 := hts (.fieldLink RX12 1 "KerbSplashModel" "thrown" "I") (List.mem_of_getElem? (i := 1) rfl)
  have hi12 : ∀ w ∈ wsX120, w ∈ vs_m_share2 := fun w h => List.mem_cons_of_mem _ (List.mem_append_right _ (List.mem_append_left _ h))
  have gg_1 : GoodIn vs_m_share2 (va_wsS RX12 279 yX12_within vs_c_within) := goodIn_sub (fun w h => List.mem_cons_of_mem _ (List.mem_append_right _ (List.mem_append_right _ (List.mem_append_left _ h)))) (by decide +kernel)
  have gg_2 : GoodIn vs_m_share2 (wsV RX12 175 RX12 yX12_may vs_c_may1) := goodIn_sub (fun w h => List.mem_cons_of_mem _ (List.mem_append_right _ (List.mem_append_right _ (List.mem_append_right _ (List.mem_append_left _ h))))) (by decide +kernel)
  have lf29 := hts (.fieldLink RX12 29 "KerbSplashModel" "s" "[I") (List.mem_of_getElem? (i := 2) rfl)
  have gg_3 : GoodIn vs_m_share2 (wsV RX12 175 RX12 yX12_may vs_c_may0_2) := goodIn_sub (fun w h => List.mem_cons_of_mem _ (List.mem_append_right _ (List.mem_append_right _ (List.mem_append_right _ (List.mem_append_right _ (List.mem_append_left _ h)))))) (by decide +kernel)
  refine lv_aload_n hx hb dX12_share_0 rfl (lv_at hlv 0 rfl) ?_
  refine lv_iconst (v := 0) hx hb dX12_share_1 (by decide) ?_
  refine va_put (D := D) (ci := 12) (v := .int 0) (ty := .int) (C := RX12) (T := TX12) (N := 38) hx hb hts hi12 tyX12 tyX12_ok nmX12 hown hG.1 hP hD hS 0 rfl rfl 0 (by decide) lf1 (fun _ h9 => h9) rfl (by decide +kernel) rfl rfl (Nat.le_of_ble_eq_true rfl) dX12_share_2 (fun H locs hP hD hS => ?_)
  have hP : va_P D vwCl [(mo, .inr (12, [.int 0, .ref (ma 1), .int 0, .int 0, .int 0, .int 0, .int 0, .int 0, .int (-1), .ref (ma 9), .ref (ma 10), .ref (ma 11), .ref (ma 12), .ref (ma 13), .ref (ma 14), .ref (ma 15), .int 0, .int 0, .int 0, .ref (ma 19), .ref (ma 20), .ref (ma 21), .int 0, .ref (ma 23), .ref (ma 24), .ref (ma 25), .ref (ma 26), .ref (ma 27), .ref (ma 28), .int 0, .int 0, .int 0, .int 0, .ref (ma 33), .int (-1), .ref (ma 35), .int 0, .int 0])), ((ma 1), .inl (cy 0, 4, .inl (fun _ => 0))), ((ma 12), .inl (cy 0, 389, .inl sF))] H := hP
  have hD : va_D A [(mo, .inr (12, [.int 0, .ref (ma 1), .int 0, .int 0, .int 0, .int 0, .int 0, .int 0, .int (-1), .ref (ma 9), .ref (ma 10), .ref (ma 11), .ref (ma 12), .ref (ma 13), .ref (ma 14), .ref (ma 15), .int 0, .int 0, .int 0, .ref (ma 19), .ref (ma 20), .ref (ma 21), .int 0, .ref (ma 23), .ref (ma 24), .ref (ma 25), .ref (ma 26), .ref (ma 27), .ref (ma 28), .int 0, .int 0, .int 0, .int 0, .ref (ma 33), .int (-1), .ref (ma 35), .int 0, .int 0])), ((ma 1), .inl (cy 0, 4, .inl (fun _ => 0))), ((ma 12), .inl (cy 0, 389, .inl sF))] := hD
  refine lv_aload_n hx hb dX12_share_5 rfl (lv_at hlv 0 rfl) ?_
  refine lv_iload_n hx hb dX12_share_6 rfl (lv_at hlv 1 rfl) ?_
  refine lv_iconst (v := 0) hx hb dX12_share_7 (by decide) ?_
  refine lv_iconst (v := 3) hx hb dX12_share_8 (by decide) ?_
  refine cj_i (wr := [(mo, .inr (12, [.int 0, .ref (ma 1), .int 0, .int 0, .int 0, .int 0, .int 0, .int 0, .int (-1), .ref (ma 9), .ref (ma 10), .ref (ma 11), .ref (ma 12), .ref (ma 13), .ref (ma 14), .ref (ma 15), .int 0, .int 0, .int 0, .ref (ma 19), .ref (ma 20), .ref (ma 21), .int 0, .ref (ma 23), .ref (ma 24), .ref (ma 25), .ref (ma 26), .ref (ma 27), .ref (ma 28), .int 0, .int 0, .int 0, .int 0, .ref (ma 33), .int (-1), .ref (ma 35), .int 0, .int 0])), ((ma 1), .inl (cy 0, 4, .inl (fun _ => 0))), ((ma 12), .inl (cy 0, 389, .inl sF))]) (va_runS (As := [.int 2, .int 0, .int 3]) (rest := [.ref mo]) ⟨hx, hb, hml, hown, hts⟩ (c_within l hl D cy sa 2 0 3 H.size) (va_cwS 3 hts gg_1 rfl rfl rfl (by decide +kernel) ⟨Nat.le_of_ble_eq_true rfl, Nat.le_of_ble_eq_true rfl⟩) ⟨pcW.blind, (pcW.mk hP hD hS hA hG hT [] rfl (by decide))⟩ rfl rfl hlv.1 rfl (lv_room (Nat.le_of_ble_eq_true rfl)) dX12_share_9 ⟨Nat.le_of_ble_eq_true rfl, Nat.le_of_ble_eq_true rfl⟩) hP hD hS hA [] [0, 1, 2] rfl rfl (by decide) (by decide) (fun r1 u1 H locs hw1 hP hD hS => ?_)
  rcases hw1 with ⟨hg1, rfl⟩ | ⟨hg1, rfl⟩
  · have hP : va_P D vwCl [(mo, .inr (12, [.int 0, .ref (ma 1), .int 0, .int 0, .int 0, .int 0, .int 0, .int 0, .int (-1), .ref (ma 9), .ref (ma 10), .ref (ma 11), .ref (ma 12), .ref (ma 13), .ref (ma 14), .ref (ma 15), .int 0, .int 0, .int 0, .ref (ma 19), .ref (ma 20), .ref (ma 21), .int 0, .ref (ma 23), .ref (ma 24), .ref (ma 25), .ref (ma 26), .ref (ma 27), .ref (ma 28), .int 0, .int 0, .int 0, .int 0, .ref (ma 33), .int (-1), .ref (ma 35), .int 0, .int 0])), ((ma 1), .inl (cy 0, 4, .inl (fun _ => 0))), ((ma 12), .inl (cy 0, 389, .inl sF))] H := hP
    have hD : va_D A [(mo, .inr (12, [.int 0, .ref (ma 1), .int 0, .int 0, .int 0, .int 0, .int 0, .int 0, .int (-1), .ref (ma 9), .ref (ma 10), .ref (ma 11), .ref (ma 12), .ref (ma 13), .ref (ma 14), .ref (ma 15), .int 0, .int 0, .int 0, .ref (ma 19), .ref (ma 20), .ref (ma 21), .int 0, .ref (ma 23), .ref (ma 24), .ref (ma 25), .ref (ma 26), .ref (ma 27), .ref (ma 28), .int 0, .int 0, .int 0, .int 0, .ref (ma 33), .int (-1), .ref (ma 35), .int 0, .int 0])), ((ma 1), .inl (cy 0, 4, .inl (fun _ => 0))), ((ma 12), .inl (cy 0, 389, .inl sF))] := hD
    refine lv_if_eq (tgt := 29) hx hb dX12_share_12 (by decide) (fun c => absurd c (by decide)) (fun _ => ?_)
    refine lv_iload_n hx hb dX12_share_15 rfl (lv_at hlv 2 rfl) ?_
    refine lv_iconst (v := 0) hx hb dX12_share_16 (by decide) ?_
    refine lv_bipush (v := 99) hx hb dX12_share_17 (by decide) ?_
    refine cj_i (wr := [(mo, .inr (12, [.int 0, .ref (ma 1), .int 0, .int 0, .int 0, .int 0, .int 0, .int 0, .int (-1), .ref (ma 9), .ref (ma 10), .ref (ma 11), .ref (ma 12), .ref (ma 13), .ref (ma 14), .ref (ma 15), .int 0, .int 0, .int 0, .ref (ma 19), .ref (ma 20), .ref (ma 21), .int 0, .ref (ma 23), .ref (ma 24), .ref (ma 25), .ref (ma 26), .ref (ma 27), .ref (ma 28), .int 0, .int 0, .int 0, .int 0, .ref (ma 33), .int (-1), .ref (ma 35), .int 0, .int 0])), ((ma 1), .inl (cy 0, 4, .inl (fun _ => 0))), ((ma 12), .inl (cy 0, 389, .inl sF))]) (va_runS (As := [.int p1, .int 0, .int 99]) (rest := [.ref mo]) ⟨hx, hb, hml, hown, hts⟩ (c_within l hl D cy sa p1 0 99 H.size) (va_cwS 3 hts gg_1 rfl rfl rfl (by decide +kernel) ⟨Nat.le_of_ble_eq_true rfl, Nat.le_of_ble_eq_true rfl⟩) ⟨pcW.blind, (pcW.mk hP hD hS hA hG hT [] rfl (by decide))⟩ rfl rfl hlv.1 rfl (lv_room (Nat.le_of_ble_eq_true rfl)) dX12_share_19 ⟨Nat.le_of_ble_eq_true rfl, Nat.le_of_ble_eq_true rfl⟩) hP hD hS hA [] [0, 1, 2] rfl rfl (by decide) (by decide) (fun r2 u2 H locs hw2 hP hD hS => ?_)
    rcases hw2 with ⟨hg2, rfl⟩ | ⟨hg2, rfl⟩
    · have hP : va_P D vwCl [(mo, .inr (12, [.int 0, .ref (ma 1), .int 0, .int 0, .int 0, .int 0, .int 0, .int 0, .int (-1), .ref (ma 9), .ref (ma 10), .ref (ma 11), .ref (ma 12), .ref (ma 13), .ref (ma 14), .ref (ma 15), .int 0, .int 0, .int 0, .ref (ma 19), .ref (ma 20), .ref (ma 21), .int 0, .ref (ma 23), .ref (ma 24), .ref (ma 25), .ref (ma 26), .ref (ma 27), .ref (ma 28), .int 0, .int 0, .int 0, .int 0, .ref (ma 33), .int (-1), .ref (ma 35), .int 0, .int 0])), ((ma 1), .inl (cy 0, 4, .inl (fun _ => 0))), ((ma 12), .inl (cy 0, 389, .inl sF))] H := hP
      have hD : va_D A [(mo, .inr (12, [.int 0, .ref (ma 1), .int 0, .int 0, .int 0, .int 0, .int 0, .int 0, .int (-1), .ref (ma 9), .ref (ma 10), .ref (ma 11), .ref (ma 12), .ref (ma 13), .ref (ma 14), .ref (ma 15), .int 0, .int 0, .int 0, .ref (ma 19), .ref (ma 20), .ref (ma 21), .int 0, .ref (ma 23), .ref (ma 24), .ref (ma 25), .ref (ma 26), .ref (ma 27), .ref (ma 28), .int 0, .int 0, .int 0, .int 0, .ref (ma 33), .int (-1), .ref (ma 35), .int 0, .int 0])), ((ma 1), .inl (cy 0, 4, .inl (fun _ => 0))), ((ma 12), .inl (cy 0, 389, .inl sF))] := hD
      refine lv_if_eq (tgt := 29) hx hb dX12_share_22 (by decide) (fun c => absurd c (by decide)) (fun _ => ?_)
      refine lv_iconst (v := 1) hx hb dX12_share_25 (by decide) ?_
      refine lv_goto (tgt := 30) hx hb dX12_share_26 (by decide) ?_
      refine lv_iconst (v := 1) hx hb dX12_share_30 (by decide) ?_
      refine lv_iconst (v := 2) hx hb dX12_share_31 (by decide) ?_
      refine cj_i (wr := [((ma 1), .inl (cy 0, 4, .inl (fun _ => 0))), ((ma 12), .inl (cy 0, 389, .inl sF))]) (va_runV (As := [.int 1, .int 1, .int 2]) (rest := []) ⟨hx, hb, hml, hown, hts⟩ (c_may1 l hl D cy sa mo ma 1 2 H.size) (cwV 3 hts gg_2 rfl rfl rfl (by decide +kernel) ⟨Nat.le_of_ble_eq_true rfl, Nat.le_of_ble_eq_true rfl⟩) ⟨pcW.blind, (va_recv hG.1 hP (ci := 12) (q0 := 0) rfl rfl), (pcW.mk hP hD hS hA hG hT [0] rfl (by decide))⟩ rfl rfl hlv.1 rfl (lv_room (Nat.le_of_ble_eq_true rfl)) dX12_share_32 ⟨Nat.le_of_ble_eq_true rfl, Nat.le_of_ble_eq_true rfl⟩) hP hD hS hA [0] [1, 2] rfl rfl (by decide) (by decide) (fun r3 u3 H locs hw3 hP hD hS => ?_)
      obtain rfl := hw3
      have hP : va_P D vwCl [((ma 1), .inl (cy 0, 4, .inl (fun _ => 0))), ((ma 12), .inl (cy 0, 389, .inl sF)), (mo, .inr (12, [.int 0, .ref (ma 1), .int 0, .int 0, .int 0, .int 0, .int 0, .int 0, .int (-1), .ref (ma 9), .ref (ma 10), .ref (ma 11), .ref (ma 12), .ref (ma 13), .ref (ma 14), .ref (ma 15), .int 0, .int 0, .int 0, .ref (ma 19), .ref (ma 20), .ref (ma 21), .int 0, .ref (ma 23), .ref (ma 24), .ref (ma 25), .ref (ma 26), .ref (ma 27), .ref (ma 28), .int 0, .int 0, .int 0, .int 0, .ref (ma 33), .int (-1), .ref (ma 35), .int 0, .int 0]))] H := hP
      have hD : va_D A [((ma 1), .inl (cy 0, 4, .inl (fun _ => 0))), ((ma 12), .inl (cy 0, 389, .inl sF)), (mo, .inr (12, [.int 0, .ref (ma 1), .int 0, .int 0, .int 0, .int 0, .int 0, .int 0, .int (-1), .ref (ma 9), .ref (ma 10), .ref (ma 11), .ref (ma 12), .ref (ma 13), .ref (ma 14), .ref (ma 15), .int 0, .int 0, .int 0, .ref (ma 19), .ref (ma 20), .ref (ma 21), .int 0, .ref (ma 23), .ref (ma 24), .ref (ma 25), .ref (ma 26), .ref (ma 27), .ref (ma 28), .int 0, .int 0, .int 0, .int 0, .ref (ma 33), .int (-1), .ref (ma 35), .int 0, .int 0]))] := hD
      refine lv_if_ne (tgt := 40) hx hb dX12_share_35 (by decide) (fun _ => ?_) (fun c => absurd c (by decide))
      refine lv_aload_n hx hb dX12_share_40 rfl (lv_at hlv 0 rfl) ?_
      refine va_get (D := D) (ci := 12) (v := .ref (ma 12)) (C := RX12) (T := TX12) (N := 38) hx hb hts hi12 hown hG.1 hP 2 rfl rfl 12 (by decide) lf29 (fun _ h9 => h9) rfl dX12_share_41 ?_
      refine lv_sipush (v := 353) hx hb dX12_share_44 (by decide) ?_
      refine lv_iload_n hx hb dX12_share_47 rfl (lv_at hlv 1 rfl) ?_
      refine lv_iadd hx hb dX12_share_48 ?_
      refine lt_i (y := 355) (by decide) ?_
      refine va_iald hx hb hG.1 hP 1 0 rfl rfl (vpd (by decide)) dX12_share_49 ?_
      refine lt_i (y := 1) (by first | rfl | decide +kernel) ?_
      refine lv_istore_n (lv' := [(3, .int 1), (0, .ref mo), (1, .int 2), (2, .int p1)]) hx hb dX12_share_50 rfl hlv (by decide) rfl (fun ls hlv => ?_)
      refine lv_aload_n hx hb dX12_share_51 rfl (lv_at hlv 1 rfl) ?_
      refine va_get (D := D) (ci := 12) (v := .ref (ma 12)) (C := RX12) (T := TX12) (N := 38) hx hb hts hi12 hown hG.1 hP 2 rfl rfl 12 (by decide) lf29 (fun _ h9 => h9) rfl dX12_share_52 ?_
      refine lv_sipush (v := 353) hx hb dX12_share_55 (by decide) ?_
      refine lv_iload_n hx hb dX12_share_58 rfl (lv_at hlv 2 rfl) ?_
      refine lv_iadd hx hb dX12_share_59 ?_
      refine lt_i (y := 355) (by decide) ?_
      refine lv_iload_n hx hb dX12_share_60 rfl (lv_at hlv 3 rfl) ?_
      refine va_iast hx hb hG.1 hP hD hS 1 0 rfl rfl (vpd (by decide)) dX12_share_61 (fun H locs hP hD hS => ?_)
      have ⟨f_1, hP, hD⟩ : ∃ f_1 : Nat → Int32, va_P D vwCl [((ma 1), .inl (cy 0, 4, .inl (fun _ => 0))), ((ma 12), .inl (cy 0, 389, .inl f_1)), (mo, .inr (12, [.int 0, .ref (ma 1), .int 0, .int 0, .int 0, .int 0, .int 0, .int 0, .int (-1), .ref (ma 9), .ref (ma 10), .ref (ma 11), .ref (ma 12), .ref (ma 13), .ref (ma 14), .ref (ma 15), .int 0, .int 0, .int 0, .ref (ma 19), .ref (ma 20), .ref (ma 21), .int 0, .ref (ma 23), .ref (ma 24), .ref (ma 25), .ref (ma 26), .ref (ma 27), .ref (ma 28), .int 0, .int 0, .int 0, .int 0, .ref (ma 33), .int (-1), .ref (ma 35), .int 0, .int 0]))] H ∧ va_D A [((ma 1), .inl (cy 0, 4, .inl (fun _ => 0))), ((ma 12), .inl (cy 0, 389, .inl f_1)), (mo, .inr (12, [.int 0, .ref (ma 1), .int 0, .int 0, .int 0, .int 0, .int 0, .int 0, .int (-1), .ref (ma 9), .ref (ma 10), .ref (ma 11), .ref (ma 12), .ref (ma 13), .ref (ma 14), .ref (ma 15), .int 0, .int 0, .int 0, .ref (ma 19), .ref (ma 20), .ref (ma 21), .int 0, .ref (ma 23), .ref (ma 24), .ref (ma 25), .ref (ma 26), .ref (ma 27), .ref (ma 28), .int 0, .int 0, .int 0, .int 0, .ref (ma 33), .int (-1), .ref (ma 35), .int 0, .int 0]))] := ⟨_, hP, hD⟩
      refine lv_iload_n hx hb dX12_share_62 rfl (lv_at hlv 0 rfl) ?_
      refine W.widen (k := 0) (n := 0) (Nat.le_of_ble_eq_true rfl) (Nat.le_of_ble_eq_true rfl) ?_
      exact W.iret (v := 1) hx hb hr (fun t ht hW => ⟨⟨1, ((fun k => ([] : List Nat).getD k 0), (fun k => ([0] : List Int32).getD k 0), (fun k => ([] : List (Nat → Int32)).getD k (fun _ => 0))), rfl, (by first | (right; exact ⟨hg2, by rfl, by rfl⟩)), by rw [ht]; exact hP.sub [2] rfl, hD.sub [2] (by decide) rfl⟩, hS.F ht⟩) hS.2.2 dX12_share_63
    · have hP : va_P D vwCl [(mo, .inr (12, [.int 0, .ref (ma 1), .int 0, .int 0, .int 0, .int 0, .int 0, .int 0, .int (-1), .ref (ma 9), .ref (ma 10), .ref (ma 11), .ref (ma 12), .ref (ma 13), .ref (ma 14), .ref (ma 15), .int 0, .int 0, .int 0, .ref (ma 19), .ref (ma 20), .ref (ma 21), .int 0, .ref (ma 23), .ref (ma 24), .ref (ma 25), .ref (ma 26), .ref (ma 27), .ref (ma 28), .int 0, .int 0, .int 0, .int 0, .ref (ma 33), .int (-1), .ref (ma 35), .int 0, .int 0])), ((ma 1), .inl (cy 0, 4, .inl (fun _ => 0))), ((ma 12), .inl (cy 0, 389, .inl sF))] H := hP
      have hD : va_D A [(mo, .inr (12, [.int 0, .ref (ma 1), .int 0, .int 0, .int 0, .int 0, .int 0, .int 0, .int (-1), .ref (ma 9), .ref (ma 10), .ref (ma 11), .ref (ma 12), .ref (ma 13), .ref (ma 14), .ref (ma 15), .int 0, .int 0, .int 0, .ref (ma 19), .ref (ma 20), .ref (ma 21), .int 0, .ref (ma 23), .ref (ma 24), .ref (ma 25), .ref (ma 26), .ref (ma 27), .ref (ma 28), .int 0, .int 0, .int 0, .int 0, .ref (ma 33), .int (-1), .ref (ma 35), .int 0, .int 0])), ((ma 1), .inl (cy 0, 4, .inl (fun _ => 0))), ((ma 12), .inl (cy 0, 389, .inl sF))] := hD
      refine lv_if_eq (tgt := 29) hx hb dX12_share_22 (by decide) (fun _ => ?_) (fun c => absurd (by decide) c)
      refine lv_iconst (v := 0) hx hb dX12_share_29 (by decide) ?_
      refine lv_iconst (v := 1) hx hb dX12_share_30 (by decide) ?_
      refine lv_iconst (v := 2) hx hb dX12_share_31 (by decide) ?_
      refine cj_i (wr := [((ma 12), .inl (cy 0, 389, .inl sF))]) (va_runV (As := [.int 0, .int 1, .int 2]) (rest := []) ⟨hx, hb, hml, hown, hts⟩ (c_may0_2 l hl D cy sa mo ma 1 H.size (by decide)) (cwV 3 hts gg_3 rfl rfl rfl (by decide +kernel) ⟨Nat.le_of_ble_eq_true rfl, Nat.le_of_ble_eq_true rfl⟩) ⟨pcW.blind, (va_recv hG.1 hP (ci := 12) (q0 := 0) rfl rfl), (pcW.mk hP hD hS hA hG hT [0, 1] rfl (by decide))⟩ rfl rfl hlv.1 rfl (lv_room (Nat.le_of_ble_eq_true rfl)) dX12_share_32 ⟨Nat.le_of_ble_eq_true rfl, Nat.le_of_ble_eq_true rfl⟩) hP hD hS hA [0, 1] [2] rfl rfl (by decide) (by decide) (fun r4 u4 H locs hw4 hP hD hS => ?_)
      obtain rfl := hw4
      have hP : va_P D vwCl [((ma 12), .inl (cy 0, 389, .inl sF)), (mo, .inr (12, [.int 1, .ref (ma 1), .int 0, .int 0, .int 0, .int 0, .int 0, .int 0, .int (-1), .ref (ma 9), .ref (ma 10), .ref (ma 11), .ref (ma 12), .ref (ma 13), .ref (ma 14), .ref (ma 15), .int 0, .int 0, .int 0, .ref (ma 19), .ref (ma 20), .ref (ma 21), .int 0, .ref (ma 23), .ref (ma 24), .ref (ma 25), .ref (ma 26), .ref (ma 27), .ref (ma 28), .int 0, .int 0, .int 0, .int 0, .ref (ma 33), .int (-1), .ref (ma 35), .int 0, .int 0]))] H := hP
      have hD : va_D A [((ma 12), .inl (cy 0, 389, .inl sF)), (mo, .inr (12, [.int 1, .ref (ma 1), .int 0, .int 0, .int 0, .int 0, .int 0, .int 0, .int (-1), .ref (ma 9), .ref (ma 10), .ref (ma 11), .ref (ma 12), .ref (ma 13), .ref (ma 14), .ref (ma 15), .int 0, .int 0, .int 0, .ref (ma 19), .ref (ma 20), .ref (ma 21), .int 0, .ref (ma 23), .ref (ma 24), .ref (ma 25), .ref (ma 26), .ref (ma 27), .ref (ma 28), .int 0, .int 0, .int 0, .int 0, .ref (ma 33), .int (-1), .ref (ma 35), .int 0, .int 0]))] := hD
      refine lv_if_ne (tgt := 40) hx hb dX12_share_35 (by decide) (fun c => absurd (by decide) c) (fun _ => ?_)
      refine lv_iconst (v := 0) hx hb dX12_share_38 (by decide) ?_
      refine W.widen (k := 0) (n := 0) (Nat.le_of_ble_eq_true rfl) (Nat.le_of_ble_eq_true rfl) ?_
      exact W.iret (v := 0) hx hb hr (fun t ht hW => ⟨⟨0, ((fun k => ([] : List Nat).getD k 0), (fun k => ([1] : List Int32).getD k 0), (fun k => ([] : List (Nat → Int32)).getD k (fun _ => 0))), rfl, (by first | (left; exact ⟨hg2, by rfl, by rfl⟩)), by rw [ht]; exact hP.sub [1] rfl, hD.sub [1] (by decide) rfl⟩, hS.F ht⟩) hS.2.2 dX12_share_39
  · exact absurd hg1 (fun q => absurd (by decide) q)
def vs_m_share3 : List Cond := .code yX12_share cX12_share 4 (some .int) :: (([.fieldLink RX12 1 "KerbSplashModel" "thrown" "I", .fieldLink RX12 29 "KerbSplashModel" "s" "[I"] : List Cond) ++ ((wsX120) ++ ((va_wsS RX12 279 yX12_within vs_c_within) ++ ((wsV RX12 175 RX12 yX12_may vs_c_may1) ++ ((wsV RX12 175 RX12 yX12_may vs_c_may0_2) ++ ([]))))))
set_option maxHeartbeats 4000000 in
set_option maxRecDepth 100000 in
theorem m_share3 (l : Launch) (hl : l.stackTraces = false) (D : va_G) (cy : Nat → ClassId) (sa : Nat → Nat) (mo : Nat) (ma : Nat → Nat) (p1 : Int32) (sz : Nat) : Met l yX12_share vs_m_share3 ({ frames := 1, cells := 0, slots := 0, locals := 23 }) (va_Pc [.ref mo, .int 3, .int p1] (pcW D cy sa sz [(mo, .inr (12, [.int 0, .ref (ma 1), .int 0, .int 0, .int 0, .int 0, .int 0, .int 0, .int (-1), .ref (ma 9), .ref (ma 10), .ref (ma 11), .ref (ma 12), .ref (ma 13), .ref (ma 14), .ref (ma 15), .int 0, .int 0, .int 0, .ref (ma 19), .ref (ma 20), .ref (ma 21), .int 0, .ref (ma 23), .ref (ma 24), .ref (ma 25), .ref (ma 26), .ref (ma 27), .ref (ma 28), .int 0, .int 0, .int 0, .int 0, .ref (ma 33), .int (-1), .ref (ma 35), .int 0, .int 0])), ((ma 1), .inl (cy 0, 4, .inl (fun _ => 0))), ((ma 12), .inl (cy 0, 389, .inl sF))])) (va_Qi (fun (r : Int32) (u : SU) => ((¬ (0 ≤ p1 ∧ p1 ≤ 99)) ∧ r = 0 ∧ (u.2.1 0) = 1) ∨ (((0 ≤ p1 ∧ p1 ≤ 99)) ∧ r = 1 ∧ (u.2.1 0) = 0)) (fun u t => atW D (va_A [(mo, .inr (12, [.int 0, .ref (ma 1), .int 0, .int 0, .int 0, .int 0, .int 0, .int 0, .int (-1), .ref (ma 9), .ref (ma 10), .ref (ma 11), .ref (ma 12), .ref (ma 13), .ref (ma 14), .ref (ma 15), .int 0, .int 0, .int 0, .ref (ma 19), .ref (ma 20), .ref (ma 21), .int 0, .ref (ma 23), .ref (ma 24), .ref (ma 25), .ref (ma 26), .ref (ma 27), .ref (ma 28), .int 0, .int 0, .int 0, .int 0, .ref (ma 33), .int (-1), .ref (ma 35), .int 0, .int 0])), ((ma 1), .inl (cy 0, 4, .inl (fun _ => 0))), ((ma 12), .inl (cy 0, 389, .inl sF))] sz) [(mo, .inr (12, [.int (u.2.1 0), .ref (ma 1), .int 0, .int 0, .int 0, .int 0, .int 0, .int 0, .int (-1), .ref (ma 9), .ref (ma 10), .ref (ma 11), .ref (ma 12), .ref (ma 13), .ref (ma 14), .ref (ma 15), .int 0, .int 0, .int 0, .ref (ma 19), .ref (ma 20), .ref (ma 21), .int 0, .ref (ma 23), .ref (ma 24), .ref (ma 25), .ref (ma 26), .ref (ma 27), .ref (ma 28), .int 0, .int 0, .int 0, .int 0, .ref (ma 33), .int (-1), .ref (ma 35), .int 0, .int 0]))] t) (va_A [(mo, .inr (12, [.int 0, .ref (ma 1), .int 0, .int 0, .int 0, .int 0, .int 0, .int 0, .int (-1), .ref (ma 9), .ref (ma 10), .ref (ma 11), .ref (ma 12), .ref (ma 13), .ref (ma 14), .ref (ma 15), .int 0, .int 0, .int 0, .ref (ma 19), .ref (ma 20), .ref (ma 21), .int 0, .ref (ma 23), .ref (ma 24), .ref (ma 25), .ref (ma 26), .ref (ma 27), .ref (ma 28), .int 0, .int 0, .int 0, .int 0, .ref (ma 33), .int (-1), .ref (ma 35), .int 0, .int 0])), ((ma 1), .inl (cy 0, 4, .inl (fun _ => 0))), ((ma 12), .inl (cy 0, 389, .inl sF))] sz)) 0 0 (va_A [(mo, .inr (12, [.int 0, .ref (ma 1), .int 0, .int 0, .int 0, .int 0, .int 0, .int 0, .int (-1), .ref (ma 9), .ref (ma 10), .ref (ma 11), .ref (ma 12), .ref (ma 13), .ref (ma 14), .ref (ma 15), .int 0, .int 0, .int 0, .ref (ma 19), .ref (ma 20), .ref (ma 21), .int 0, .ref (ma 23), .ref (ma 24), .ref (ma 25), .ref (ma 26), .ref (ma 27), .ref (ma 28), .int 0, .int 0, .int 0, .int 0, .ref (ma 33), .int (-1), .ref (ma 35), .int 0, .int 0])), ((ma 1), .inl (cy 0, 4, .inl (fun _ => 0))), ((ma 12), .inl (cy 0, 389, .inl sF))] sz) := by
  refine Met.ofW (cc := cX12_share) (maxL := 4) (ret := (some .int)) (by decide) rfl ?_
  intro p e s m args below meth c s₁ B hml hv
  obtain ⟨rfl, hsz, hP, hG, hD0, hT⟩ := hv
  have hx := B.exec
  have hb := B.bytes
  have hr := B.returns
  have hts := atoms_spec (ws := vs_m_share3) B.pre
  have hown : s.vm.findClass RX12 = some m.cls := findClass_of_methodNamed B.named
  have hlocks := B.notSynchronized
  subst hsz
  have hD := hD0.self (sz := s.heap.size)
  generalize hAe : va_A [(mo, .inr (12, [.int 0, .ref (ma 1), .int 0, .int 0, .int 0, .int 0, .int 0, .int 0, .int (-1), .ref (ma 9), .ref (ma 10), .ref (ma 11), .ref (ma 12), .ref (ma 13), .ref (ma 14), .ref (ma 15), .int 0, .int 0, .int 0, .ref (ma 19), .ref (ma 20), .ref (ma 21), .int 0, .ref (ma 23), .ref (ma 24), .ref (ma 25), .ref (ma 26), .ref (ma 27), .ref (ma 28), .int 0, .int 0, .int 0, .int 0, .ref (ma 33), .int (-1), .ref (ma 35), .int 0, .int 0])), ((ma 1), .inl (cy 0, 4, .inl (fun _ => 0))), ((ma 12), .inl (cy 0, 389, .inl sF))] s.heap.size = A at hD hT ⊢
  have hA : ∀ q : Nat, s.heap.size ≤ q → A q := fun q h => by rw [← hAe]; exact Or.inr h
  have hS : va_S A s.heap s.heap [] := va_S.rf
  have hl0 := lv_entry ([.ref mo, .int 3, .int p1]) (n := 4) (Nat.le_of_ble_eq_true rfl)
  rw [lg_entry_eq]
  generalize (lg_sl ([.ref mo, .int 3, .int p1]) ++ List.replicate (4 - (lg_sl ([.ref mo, .int 3, .int p1])).length) Slot.unset).toArray = ls at hl0 ⊢
  have hlv : lv_has ls 4 [(0, .ref mo), (1, .int 3), (2, .int p1)] := hl0
  have lf1 := hts (.fieldLink RX12 1 "KerbSplashModel" "thrown" "I") (List.mem_of_getElem? (i := 1) rfl)
  have hi12 : ∀ w ∈ wsX120, w ∈ vs_m_share3 := fun w h => List.mem_cons_of_mem _ (List.mem_append_right _ (List.mem_append_left _ h))
  have gg_1 : GoodIn vs_m_share3 (va_wsS RX12 279 yX12_within vs_c_within) := goodIn_sub (fun w h => List.mem_cons_of_mem _ (List.mem_append_right _ (List.mem_append_right _ (List.mem_append_left _ h)))) (by decide +kernel)
  have gg_2 : GoodIn vs_m_share3 (wsV RX12 175 RX12 yX12_may vs_c_may1) := goodIn_sub (fun w h => List.mem_cons_of_mem _ (List.mem_append_right _ (List.mem_append_right _ (List.mem_append_right _ (List.mem_append_left _ h))))) (by decide +kernel)
  have lf29 := hts (.fieldLink RX12 29 "KerbSplashModel" "s" "[I") (List.mem_of_getElem? (i := 2) rfl)
  have gg_3 : GoodIn vs_m_share3 (wsV RX12 175 RX12 yX12_may vs_c_may0_2) := goodIn_sub (fun w h => List.mem_cons_of_mem _ (List.mem_append_right _ (List.mem_append_right _ (List.mem_append_right _ (List.mem_append_right _ (List.mem_append_left _ h)))))) (by decide +kernel)
  refine lv_aload_n hx hb dX12_share_0 rfl (lv_at hlv 0 rfl) ?_
  refine lv_iconst (v := 0) hx hb dX12_share_1 (by decide) ?_
  refine va_put (D := D) (ci := 12) (v := .int 0) (ty := .int) (C := RX12) (T := TX12) (N := 38) hx hb hts hi12 tyX12 tyX12_ok nmX12 hown hG.1 hP hD hS 0 rfl rfl 0 (by decide) lf1 (fun _ h9 => h9) rfl (by decide +kernel) rfl rfl (Nat.le_of_ble_eq_true rfl) dX12_share_2 (fun H locs hP hD hS => ?_)
  have hP : va_P D vwCl [(mo, .inr (12, [.int 0, .ref (ma 1), .int 0, .int 0, .int 0, .int 0, .int 0, .int 0, .int (-1), .ref (ma 9), .ref (ma 10), .ref (ma 11), .ref (ma 12), .ref (ma 13), .ref (ma 14), .ref (ma 15), .int 0, .int 0, .int 0, .ref (ma 19), .ref (ma 20), .ref (ma 21), .int 0, .ref (ma 23), .ref (ma 24), .ref (ma 25), .ref (ma 26), .ref (ma 27), .ref (ma 28), .int 0, .int 0, .int 0, .int 0, .ref (ma 33), .int (-1), .ref (ma 35), .int 0, .int 0])), ((ma 1), .inl (cy 0, 4, .inl (fun _ => 0))), ((ma 12), .inl (cy 0, 389, .inl sF))] H := hP
  have hD : va_D A [(mo, .inr (12, [.int 0, .ref (ma 1), .int 0, .int 0, .int 0, .int 0, .int 0, .int 0, .int (-1), .ref (ma 9), .ref (ma 10), .ref (ma 11), .ref (ma 12), .ref (ma 13), .ref (ma 14), .ref (ma 15), .int 0, .int 0, .int 0, .ref (ma 19), .ref (ma 20), .ref (ma 21), .int 0, .ref (ma 23), .ref (ma 24), .ref (ma 25), .ref (ma 26), .ref (ma 27), .ref (ma 28), .int 0, .int 0, .int 0, .int 0, .ref (ma 33), .int (-1), .ref (ma 35), .int 0, .int 0])), ((ma 1), .inl (cy 0, 4, .inl (fun _ => 0))), ((ma 12), .inl (cy 0, 389, .inl sF))] := hD
  refine lv_aload_n hx hb dX12_share_5 rfl (lv_at hlv 0 rfl) ?_
  refine lv_iload_n hx hb dX12_share_6 rfl (lv_at hlv 1 rfl) ?_
  refine lv_iconst (v := 0) hx hb dX12_share_7 (by decide) ?_
  refine lv_iconst (v := 3) hx hb dX12_share_8 (by decide) ?_
  refine cj_i (wr := [(mo, .inr (12, [.int 0, .ref (ma 1), .int 0, .int 0, .int 0, .int 0, .int 0, .int 0, .int (-1), .ref (ma 9), .ref (ma 10), .ref (ma 11), .ref (ma 12), .ref (ma 13), .ref (ma 14), .ref (ma 15), .int 0, .int 0, .int 0, .ref (ma 19), .ref (ma 20), .ref (ma 21), .int 0, .ref (ma 23), .ref (ma 24), .ref (ma 25), .ref (ma 26), .ref (ma 27), .ref (ma 28), .int 0, .int 0, .int 0, .int 0, .ref (ma 33), .int (-1), .ref (ma 35), .int 0, .int 0])), ((ma 1), .inl (cy 0, 4, .inl (fun _ => 0))), ((ma 12), .inl (cy 0, 389, .inl sF))]) (va_runS (As := [.int 3, .int 0, .int 3]) (rest := [.ref mo]) ⟨hx, hb, hml, hown, hts⟩ (c_within l hl D cy sa 3 0 3 H.size) (va_cwS 3 hts gg_1 rfl rfl rfl (by decide +kernel) ⟨Nat.le_of_ble_eq_true rfl, Nat.le_of_ble_eq_true rfl⟩) ⟨pcW.blind, (pcW.mk hP hD hS hA hG hT [] rfl (by decide))⟩ rfl rfl hlv.1 rfl (lv_room (Nat.le_of_ble_eq_true rfl)) dX12_share_9 ⟨Nat.le_of_ble_eq_true rfl, Nat.le_of_ble_eq_true rfl⟩) hP hD hS hA [] [0, 1, 2] rfl rfl (by decide) (by decide) (fun r1 u1 H locs hw1 hP hD hS => ?_)
  rcases hw1 with ⟨hg1, rfl⟩ | ⟨hg1, rfl⟩
  · have hP : va_P D vwCl [(mo, .inr (12, [.int 0, .ref (ma 1), .int 0, .int 0, .int 0, .int 0, .int 0, .int 0, .int (-1), .ref (ma 9), .ref (ma 10), .ref (ma 11), .ref (ma 12), .ref (ma 13), .ref (ma 14), .ref (ma 15), .int 0, .int 0, .int 0, .ref (ma 19), .ref (ma 20), .ref (ma 21), .int 0, .ref (ma 23), .ref (ma 24), .ref (ma 25), .ref (ma 26), .ref (ma 27), .ref (ma 28), .int 0, .int 0, .int 0, .int 0, .ref (ma 33), .int (-1), .ref (ma 35), .int 0, .int 0])), ((ma 1), .inl (cy 0, 4, .inl (fun _ => 0))), ((ma 12), .inl (cy 0, 389, .inl sF))] H := hP
    have hD : va_D A [(mo, .inr (12, [.int 0, .ref (ma 1), .int 0, .int 0, .int 0, .int 0, .int 0, .int 0, .int (-1), .ref (ma 9), .ref (ma 10), .ref (ma 11), .ref (ma 12), .ref (ma 13), .ref (ma 14), .ref (ma 15), .int 0, .int 0, .int 0, .ref (ma 19), .ref (ma 20), .ref (ma 21), .int 0, .ref (ma 23), .ref (ma 24), .ref (ma 25), .ref (ma 26), .ref (ma 27), .ref (ma 28), .int 0, .int 0, .int 0, .int 0, .ref (ma 33), .int (-1), .ref (ma 35), .int 0, .int 0])), ((ma 1), .inl (cy 0, 4, .inl (fun _ => 0))), ((ma 12), .inl (cy 0, 389, .inl sF))] := hD
    refine lv_if_eq (tgt := 29) hx hb dX12_share_12 (by decide) (fun c => absurd c (by decide)) (fun _ => ?_)
    refine lv_iload_n hx hb dX12_share_15 rfl (lv_at hlv 2 rfl) ?_
    refine lv_iconst (v := 0) hx hb dX12_share_16 (by decide) ?_
    refine lv_bipush (v := 99) hx hb dX12_share_17 (by decide) ?_
    refine cj_i (wr := [(mo, .inr (12, [.int 0, .ref (ma 1), .int 0, .int 0, .int 0, .int 0, .int 0, .int 0, .int (-1), .ref (ma 9), .ref (ma 10), .ref (ma 11), .ref (ma 12), .ref (ma 13), .ref (ma 14), .ref (ma 15), .int 0, .int 0, .int 0, .ref (ma 19), .ref (ma 20), .ref (ma 21), .int 0, .ref (ma 23), .ref (ma 24), .ref (ma 25), .ref (ma 26), .ref (ma 27), .ref (ma 28), .int 0, .int 0, .int 0, .int 0, .ref (ma 33), .int (-1), .ref (ma 35), .int 0, .int 0])), ((ma 1), .inl (cy 0, 4, .inl (fun _ => 0))), ((ma 12), .inl (cy 0, 389, .inl sF))]) (va_runS (As := [.int p1, .int 0, .int 99]) (rest := [.ref mo]) ⟨hx, hb, hml, hown, hts⟩ (c_within l hl D cy sa p1 0 99 H.size) (va_cwS 3 hts gg_1 rfl rfl rfl (by decide +kernel) ⟨Nat.le_of_ble_eq_true rfl, Nat.le_of_ble_eq_true rfl⟩) ⟨pcW.blind, (pcW.mk hP hD hS hA hG hT [] rfl (by decide))⟩ rfl rfl hlv.1 rfl (lv_room (Nat.le_of_ble_eq_true rfl)) dX12_share_19 ⟨Nat.le_of_ble_eq_true rfl, Nat.le_of_ble_eq_true rfl⟩) hP hD hS hA [] [0, 1, 2] rfl rfl (by decide) (by decide) (fun r2 u2 H locs hw2 hP hD hS => ?_)
    rcases hw2 with ⟨hg2, rfl⟩ | ⟨hg2, rfl⟩
    · have hP : va_P D vwCl [(mo, .inr (12, [.int 0, .ref (ma 1), .int 0, .int 0, .int 0, .int 0, .int 0, .int 0, .int (-1), .ref (ma 9), .ref (ma 10), .ref (ma 11), .ref (ma 12), .ref (ma 13), .ref (ma 14), .ref (ma 15), .int 0, .int 0, .int 0, .ref (ma 19), .ref (ma 20), .ref (ma 21), .int 0, .ref (ma 23), .ref (ma 24), .ref (ma 25), .ref (ma 26), .ref (ma 27), .ref (ma 28), .int 0, .int 0, .int 0, .int 0, .ref (ma 33), .int (-1), .ref (ma 35), .int 0, .int 0])), ((ma 1), .inl (cy 0, 4, .inl (fun _ => 0))), ((ma 12), .inl (cy 0, 389, .inl sF))] H := hP
      have hD : va_D A [(mo, .inr (12, [.int 0, .ref (ma 1), .int 0, .int 0, .int 0, .int 0, .int 0, .int 0, .int (-1), .ref (ma 9), .ref (ma 10), .ref (ma 11), .ref (ma 12), .ref (ma 13), .ref (ma 14), .ref (ma 15), .int 0, .int 0, .int 0, .ref (ma 19), .ref (ma 20), .ref (ma 21), .int 0, .ref (ma 23), .ref (ma 24), .ref (ma 25), .ref (ma 26), .ref (ma 27), .ref (ma 28), .int 0, .int 0, .int 0, .int 0, .ref (ma 33), .int (-1), .ref (ma 35), .int 0, .int 0])), ((ma 1), .inl (cy 0, 4, .inl (fun _ => 0))), ((ma 12), .inl (cy 0, 389, .inl sF))] := hD
      refine lv_if_eq (tgt := 29) hx hb dX12_share_22 (by decide) (fun c => absurd c (by decide)) (fun _ => ?_)
      refine lv_iconst (v := 1) hx hb dX12_share_25 (by decide) ?_
      refine lv_goto (tgt := 30) hx hb dX12_share_26 (by decide) ?_
      refine lv_iconst (v := 1) hx hb dX12_share_30 (by decide) ?_
      refine lv_iconst (v := 2) hx hb dX12_share_31 (by decide) ?_
      refine cj_i (wr := [((ma 1), .inl (cy 0, 4, .inl (fun _ => 0))), ((ma 12), .inl (cy 0, 389, .inl sF))]) (va_runV (As := [.int 1, .int 1, .int 2]) (rest := []) ⟨hx, hb, hml, hown, hts⟩ (c_may1 l hl D cy sa mo ma 1 2 H.size) (cwV 3 hts gg_2 rfl rfl rfl (by decide +kernel) ⟨Nat.le_of_ble_eq_true rfl, Nat.le_of_ble_eq_true rfl⟩) ⟨pcW.blind, (va_recv hG.1 hP (ci := 12) (q0 := 0) rfl rfl), (pcW.mk hP hD hS hA hG hT [0] rfl (by decide))⟩ rfl rfl hlv.1 rfl (lv_room (Nat.le_of_ble_eq_true rfl)) dX12_share_32 ⟨Nat.le_of_ble_eq_true rfl, Nat.le_of_ble_eq_true rfl⟩) hP hD hS hA [0] [1, 2] rfl rfl (by decide) (by decide) (fun r3 u3 H locs hw3 hP hD hS => ?_)
      obtain rfl := hw3
      have hP : va_P D vwCl [((ma 1), .inl (cy 0, 4, .inl (fun _ => 0))), ((ma 12), .inl (cy 0, 389, .inl sF)), (mo, .inr (12, [.int 0, .ref (ma 1), .int 0, .int 0, .int 0, .int 0, .int 0, .int 0, .int (-1), .ref (ma 9), .ref (ma 10), .ref (ma 11), .ref (ma 12), .ref (ma 13), .ref (ma 14), .ref (ma 15), .int 0, .int 0, .int 0, .ref (ma 19), .ref (ma 20), .ref (ma 21), .int 0, .ref (ma 23), .ref (ma 24), .ref (ma 25), .ref (ma 26), .ref (ma 27), .ref (ma 28), .int 0, .int 0, .int 0, .int 0, .ref (ma 33), .int (-1), .ref (ma 35), .int 0, .int 0]))] H := hP
      have hD : va_D A [((ma 1), .inl (cy 0, 4, .inl (fun _ => 0))), ((ma 12), .inl (cy 0, 389, .inl sF)), (mo, .inr (12, [.int 0, .ref (ma 1), .int 0, .int 0, .int 0, .int 0, .int 0, .int 0, .int (-1), .ref (ma 9), .ref (ma 10), .ref (ma 11), .ref (ma 12), .ref (ma 13), .ref (ma 14), .ref (ma 15), .int 0, .int 0, .int 0, .ref (ma 19), .ref (ma 20), .ref (ma 21), .int 0, .ref (ma 23), .ref (ma 24), .ref (ma 25), .ref (ma 26), .ref (ma 27), .ref (ma 28), .int 0, .int 0, .int 0, .int 0, .ref (ma 33), .int (-1), .ref (ma 35), .int 0, .int 0]))] := hD
      refine lv_if_ne (tgt := 40) hx hb dX12_share_35 (by decide) (fun _ => ?_) (fun c => absurd c (by decide))
      refine lv_aload_n hx hb dX12_share_40 rfl (lv_at hlv 0 rfl) ?_
      refine va_get (D := D) (ci := 12) (v := .ref (ma 12)) (C := RX12) (T := TX12) (N := 38) hx hb hts hi12 hown hG.1 hP 2 rfl rfl 12 (by decide) lf29 (fun _ h9 => h9) rfl dX12_share_41 ?_
      refine lv_sipush (v := 353) hx hb dX12_share_44 (by decide) ?_
      refine lv_iload_n hx hb dX12_share_47 rfl (lv_at hlv 1 rfl) ?_
      refine lv_iadd hx hb dX12_share_48 ?_
      refine lt_i (y := 356) (by decide) ?_
      refine va_iald hx hb hG.1 hP 1 0 rfl rfl (vpd (by decide)) dX12_share_49 ?_
      refine lt_i (y := 1) (by first | rfl | decide +kernel) ?_
      refine lv_istore_n (lv' := [(3, .int 1), (0, .ref mo), (1, .int 3), (2, .int p1)]) hx hb dX12_share_50 rfl hlv (by decide) rfl (fun ls hlv => ?_)
      refine lv_aload_n hx hb dX12_share_51 rfl (lv_at hlv 1 rfl) ?_
      refine va_get (D := D) (ci := 12) (v := .ref (ma 12)) (C := RX12) (T := TX12) (N := 38) hx hb hts hi12 hown hG.1 hP 2 rfl rfl 12 (by decide) lf29 (fun _ h9 => h9) rfl dX12_share_52 ?_
      refine lv_sipush (v := 353) hx hb dX12_share_55 (by decide) ?_
      refine lv_iload_n hx hb dX12_share_58 rfl (lv_at hlv 2 rfl) ?_
      refine lv_iadd hx hb dX12_share_59 ?_
      refine lt_i (y := 356) (by decide) ?_
      refine lv_iload_n hx hb dX12_share_60 rfl (lv_at hlv 3 rfl) ?_
      refine va_iast hx hb hG.1 hP hD hS 1 0 rfl rfl (vpd (by decide)) dX12_share_61 (fun H locs hP hD hS => ?_)
      have ⟨f_1, hP, hD⟩ : ∃ f_1 : Nat → Int32, va_P D vwCl [((ma 1), .inl (cy 0, 4, .inl (fun _ => 0))), ((ma 12), .inl (cy 0, 389, .inl f_1)), (mo, .inr (12, [.int 0, .ref (ma 1), .int 0, .int 0, .int 0, .int 0, .int 0, .int 0, .int (-1), .ref (ma 9), .ref (ma 10), .ref (ma 11), .ref (ma 12), .ref (ma 13), .ref (ma 14), .ref (ma 15), .int 0, .int 0, .int 0, .ref (ma 19), .ref (ma 20), .ref (ma 21), .int 0, .ref (ma 23), .ref (ma 24), .ref (ma 25), .ref (ma 26), .ref (ma 27), .ref (ma 28), .int 0, .int 0, .int 0, .int 0, .ref (ma 33), .int (-1), .ref (ma 35), .int 0, .int 0]))] H ∧ va_D A [((ma 1), .inl (cy 0, 4, .inl (fun _ => 0))), ((ma 12), .inl (cy 0, 389, .inl f_1)), (mo, .inr (12, [.int 0, .ref (ma 1), .int 0, .int 0, .int 0, .int 0, .int 0, .int 0, .int (-1), .ref (ma 9), .ref (ma 10), .ref (ma 11), .ref (ma 12), .ref (ma 13), .ref (ma 14), .ref (ma 15), .int 0, .int 0, .int 0, .ref (ma 19), .ref (ma 20), .ref (ma 21), .int 0, .ref (ma 23), .ref (ma 24), .ref (ma 25), .ref (ma 26), .ref (ma 27), .ref (ma 28), .int 0, .int 0, .int 0, .int 0, .ref (ma 33), .int (-1), .ref (ma 35), .int 0, .int 0]))] := ⟨_, hP, hD⟩
      refine lv_iload_n hx hb dX12_share_62 rfl (lv_at hlv 0 rfl) ?_
      refine W.widen (k := 0) (n := 0) (Nat.le_of_ble_eq_true rfl) (Nat.le_of_ble_eq_true rfl) ?_
      exact W.iret (v := 1) hx hb hr (fun t ht hW => ⟨⟨1, ((fun k => ([] : List Nat).getD k 0), (fun k => ([0] : List Int32).getD k 0), (fun k => ([] : List (Nat → Int32)).getD k (fun _ => 0))), rfl, (by first | (right; exact ⟨hg2, by rfl, by rfl⟩)), by rw [ht]; exact hP.sub [2] rfl, hD.sub [2] (by decide) rfl⟩, hS.F ht⟩) hS.2.2 dX12_share_63
    · have hP : va_P D vwCl [(mo, .inr (12, [.int 0, .ref (ma 1), .int 0, .int 0, .int 0, .int 0, .int 0, .int 0, .int (-1), .ref (ma 9), .ref (ma 10), .ref (ma 11), .ref (ma 12), .ref (ma 13), .ref (ma 14), .ref (ma 15), .int 0, .int 0, .int 0, .ref (ma 19), .ref (ma 20), .ref (ma 21), .int 0, .ref (ma 23), .ref (ma 24), .ref (ma 25), .ref (ma 26), .ref (ma 27), .ref (ma 28), .int 0, .int 0, .int 0, .int 0, .ref (ma 33), .int (-1), .ref (ma 35), .int 0, .int 0])), ((ma 1), .inl (cy 0, 4, .inl (fun _ => 0))), ((ma 12), .inl (cy 0, 389, .inl sF))] H := hP
      have hD : va_D A [(mo, .inr (12, [.int 0, .ref (ma 1), .int 0, .int 0, .int 0, .int 0, .int 0, .int 0, .int (-1), .ref (ma 9), .ref (ma 10), .ref (ma 11), .ref (ma 12), .ref (ma 13), .ref (ma 14), .ref (ma 15), .int 0, .int 0, .int 0, .ref (ma 19), .ref (ma 20), .ref (ma 21), .int 0, .ref (ma 23), .ref (ma 24), .ref (ma 25), .ref (ma 26), .ref (ma 27), .ref (ma 28), .int 0, .int 0, .int 0, .int 0, .ref (ma 33), .int (-1), .ref (ma 35), .int 0, .int 0])), ((ma 1), .inl (cy 0, 4, .inl (fun _ => 0))), ((ma 12), .inl (cy 0, 389, .inl sF))] := hD
      refine lv_if_eq (tgt := 29) hx hb dX12_share_22 (by decide) (fun _ => ?_) (fun c => absurd (by decide) c)
      refine lv_iconst (v := 0) hx hb dX12_share_29 (by decide) ?_
      refine lv_iconst (v := 1) hx hb dX12_share_30 (by decide) ?_
      refine lv_iconst (v := 2) hx hb dX12_share_31 (by decide) ?_
      refine cj_i (wr := [((ma 12), .inl (cy 0, 389, .inl sF))]) (va_runV (As := [.int 0, .int 1, .int 2]) (rest := []) ⟨hx, hb, hml, hown, hts⟩ (c_may0_2 l hl D cy sa mo ma 1 H.size (by decide)) (cwV 3 hts gg_3 rfl rfl rfl (by decide +kernel) ⟨Nat.le_of_ble_eq_true rfl, Nat.le_of_ble_eq_true rfl⟩) ⟨pcW.blind, (va_recv hG.1 hP (ci := 12) (q0 := 0) rfl rfl), (pcW.mk hP hD hS hA hG hT [0, 1] rfl (by decide))⟩ rfl rfl hlv.1 rfl (lv_room (Nat.le_of_ble_eq_true rfl)) dX12_share_32 ⟨Nat.le_of_ble_eq_true rfl, Nat.le_of_ble_eq_true rfl⟩) hP hD hS hA [0, 1] [2] rfl rfl (by decide) (by decide) (fun r4 u4 H locs hw4 hP hD hS => ?_)
      obtain rfl := hw4
      have hP : va_P D vwCl [((ma 12), .inl (cy 0, 389, .inl sF)), (mo, .inr (12, [.int 1, .ref (ma 1), .int 0, .int 0, .int 0, .int 0, .int 0, .int 0, .int (-1), .ref (ma 9), .ref (ma 10), .ref (ma 11), .ref (ma 12), .ref (ma 13), .ref (ma 14), .ref (ma 15), .int 0, .int 0, .int 0, .ref (ma 19), .ref (ma 20), .ref (ma 21), .int 0, .ref (ma 23), .ref (ma 24), .ref (ma 25), .ref (ma 26), .ref (ma 27), .ref (ma 28), .int 0, .int 0, .int 0, .int 0, .ref (ma 33), .int (-1), .ref (ma 35), .int 0, .int 0]))] H := hP
      have hD : va_D A [((ma 12), .inl (cy 0, 389, .inl sF)), (mo, .inr (12, [.int 1, .ref (ma 1), .int 0, .int 0, .int 0, .int 0, .int 0, .int 0, .int (-1), .ref (ma 9), .ref (ma 10), .ref (ma 11), .ref (ma 12), .ref (ma 13), .ref (ma 14), .ref (ma 15), .int 0, .int 0, .int 0, .ref (ma 19), .ref (ma 20), .ref (ma 21), .int 0, .ref (ma 23), .ref (ma 24), .ref (ma 25), .ref (ma 26), .ref (ma 27), .ref (ma 28), .int 0, .int 0, .int 0, .int 0, .ref (ma 33), .int (-1), .ref (ma 35), .int 0, .int 0]))] := hD
      refine lv_if_ne (tgt := 40) hx hb dX12_share_35 (by decide) (fun c => absurd (by decide) c) (fun _ => ?_)
      refine lv_iconst (v := 0) hx hb dX12_share_38 (by decide) ?_
      refine W.widen (k := 0) (n := 0) (Nat.le_of_ble_eq_true rfl) (Nat.le_of_ble_eq_true rfl) ?_
      exact W.iret (v := 0) hx hb hr (fun t ht hW => ⟨⟨0, ((fun k => ([] : List Nat).getD k 0), (fun k => ([1] : List Int32).getD k 0), (fun k => ([] : List (Nat → Int32)).getD k (fun _ => 0))), rfl, (by first | (left; exact ⟨hg2, by rfl, by rfl⟩)), by rw [ht]; exact hP.sub [1] rfl, hD.sub [1] (by decide) rfl⟩, hS.F ht⟩) hS.2.2 dX12_share_39
  · exact absurd hg1 (fun q => absurd (by decide) q)
def vs_m_sharex : List Cond := .code yX12_share cX12_share 4 (some .int) :: (([.fieldLink RX12 1 "KerbSplashModel" "thrown" "I"] : List Cond) ++ ((wsX120) ++ ((va_wsS RX12 279 yX12_within vs_c_within) ++ ((wsV RX12 175 RX12 yX12_may vs_c_may0_2) ++ ([])))))
set_option maxHeartbeats 4000000 in
set_option maxRecDepth 100000 in
theorem m_sharex (l : Launch) (hl : l.stackTraces = false) (D : va_G) (cy : Nat → ClassId) (sa : Nat → Nat) (mo : Nat) (ma : Nat → Nat) (p0 p1 : Int32) (sz : Nat) (hn : ¬ (0 ≤ p0 ∧ p0 ≤ 3)) : Met l yX12_share vs_m_sharex ({ frames := 1, cells := 0, slots := 0, locals := 23 }) (va_Pc [.ref mo, .int p0, .int p1] (pcW D cy sa sz [(mo, .inr (12, [.int 0, .ref (ma 1), .int 0, .int 0, .int 0, .int 0, .int 0, .int 0, .int (-1), .ref (ma 9), .ref (ma 10), .ref (ma 11), .ref (ma 12), .ref (ma 13), .ref (ma 14), .ref (ma 15), .int 0, .int 0, .int 0, .ref (ma 19), .ref (ma 20), .ref (ma 21), .int 0, .ref (ma 23), .ref (ma 24), .ref (ma 25), .ref (ma 26), .ref (ma 27), .ref (ma 28), .int 0, .int 0, .int 0, .int 0, .ref (ma 33), .int (-1), .ref (ma 35), .int 0, .int 0])), ((ma 1), .inl (cy 0, 4, .inl (fun _ => 0)))])) (va_Qi (fun (r : Int32) (u : SU) => (r = 0 ∧ (u.2.1 0) = 1)) (fun u t => atW D (va_A [(mo, .inr (12, [.int 0, .ref (ma 1), .int 0, .int 0, .int 0, .int 0, .int 0, .int 0, .int (-1), .ref (ma 9), .ref (ma 10), .ref (ma 11), .ref (ma 12), .ref (ma 13), .ref (ma 14), .ref (ma 15), .int 0, .int 0, .int 0, .ref (ma 19), .ref (ma 20), .ref (ma 21), .int 0, .ref (ma 23), .ref (ma 24), .ref (ma 25), .ref (ma 26), .ref (ma 27), .ref (ma 28), .int 0, .int 0, .int 0, .int 0, .ref (ma 33), .int (-1), .ref (ma 35), .int 0, .int 0])), ((ma 1), .inl (cy 0, 4, .inl (fun _ => 0)))] sz) [(mo, .inr (12, [.int (u.2.1 0), .ref (ma 1), .int 0, .int 0, .int 0, .int 0, .int 0, .int 0, .int (-1), .ref (ma 9), .ref (ma 10), .ref (ma 11), .ref (ma 12), .ref (ma 13), .ref (ma 14), .ref (ma 15), .int 0, .int 0, .int 0, .ref (ma 19), .ref (ma 20), .ref (ma 21), .int 0, .ref (ma 23), .ref (ma 24), .ref (ma 25), .ref (ma 26), .ref (ma 27), .ref (ma 28), .int 0, .int 0, .int 0, .int 0, .ref (ma 33), .int (-1), .ref (ma 35), .int 0, .int 0]))] t) (va_A [(mo, .inr (12, [.int 0, .ref (ma 1), .int 0, .int 0, .int 0, .int 0, .int 0, .int 0, .int (-1), .ref (ma 9), .ref (ma 10), .ref (ma 11), .ref (ma 12), .ref (ma 13), .ref (ma 14), .ref (ma 15), .int 0, .int 0, .int 0, .ref (ma 19), .ref (ma 20), .ref (ma 21), .int 0, .ref (ma 23), .ref (ma 24), .ref (ma 25), .ref (ma 26), .ref (ma 27), .ref (ma 28), .int 0, .int 0, .int 0, .int 0, .ref (ma 33), .int (-1), .ref (ma 35), .int 0, .int 0])), ((ma 1), .inl (cy 0, 4, .inl (fun _ => 0)))] sz)) 0 0 (va_A [(mo, .inr (12, [.int 0, .ref (ma 1), .int 0, .int 0, .int 0, .int 0, .int 0, .int 0, .int (-1), .ref (ma 9), .ref (ma 10), .ref (ma 11), .ref (ma 12), .ref (ma 13), .ref (ma 14), .ref (ma 15), .int 0, .int 0, .int 0, .ref (ma 19), .ref (ma 20), .ref (ma 21), .int 0, .ref (ma 23), .ref (ma 24), .ref (ma 25), .ref (ma 26), .ref (ma 27), .ref (ma 28), .int 0, .int 0, .int 0, .int 0, .ref (ma 33), .int (-1), .ref (ma 35), .int 0, .int 0])), ((ma 1), .inl (cy 0, 4, .inl (fun _ => 0)))] sz) := by
  refine Met.ofW (cc := cX12_share) (maxL := 4) (ret := (some .int)) (by decide) rfl ?_
  intro p e s m args below meth c s₁ B hml hv
  obtain ⟨rfl, hsz, hP, hG, hD0, hT⟩ := hv
  have hx := B.exec
  have hb := B.bytes
  have hr := B.returns
  have hts := atoms_spec (ws := vs_m_sharex) B.pre
  have hown : s.vm.findClass RX12 = some m.cls := findClass_of_methodNamed B.named
  have hlocks := B.notSynchronized
  subst hsz
  have hD := hD0.self (sz := s.heap.size)
  generalize hAe : va_A [(mo, .inr (12, [.int 0, .ref (ma 1), .int 0, .int 0, .int 0, .int 0, .int 0, .int 0, .int (-1), .ref (ma 9), .ref (ma 10), .ref (ma 11), .ref (ma 12), .ref (ma 13), .ref (ma 14), .ref (ma 15), .int 0, .int 0, .int 0, .ref (ma 19), .ref (ma 20), .ref (ma 21), .int 0, .ref (ma 23), .ref (ma 24), .ref (ma 25), .ref (ma 26), .ref (ma 27), .ref (ma 28), .int 0, .int 0, .int 0, .int 0, .ref (ma 33), .int (-1), .ref (ma 35), .int 0, .int 0])), ((ma 1), .inl (cy 0, 4, .inl (fun _ => 0)))] s.heap.size = A at hD hT ⊢
  have hA : ∀ q : Nat, s.heap.size ≤ q → A q := fun q h => by rw [← hAe]; exact Or.inr h
  have hS : va_S A s.heap s.heap [] := va_S.rf
  have hl0 := lv_entry ([.ref mo, .int p0, .int p1]) (n := 4) (Nat.le_of_ble_eq_true rfl)
  rw [lg_entry_eq]
  generalize (lg_sl ([.ref mo, .int p0, .int p1]) ++ List.replicate (4 - (lg_sl ([.ref mo, .int p0, .int p1])).length) Slot.unset).toArray = ls at hl0 ⊢
  have hlv : lv_has ls 4 [(0, .ref mo), (1, .int p0), (2, .int p1)] := hl0
  have lf1 := hts (.fieldLink RX12 1 "KerbSplashModel" "thrown" "I") (List.mem_of_getElem? (i := 1) rfl)
  have hi12 : ∀ w ∈ wsX120, w ∈ vs_m_sharex := fun w h => List.mem_cons_of_mem _ (List.mem_append_right _ (List.mem_append_left _ h))
  have gg_1 : GoodIn vs_m_sharex (va_wsS RX12 279 yX12_within vs_c_within) := goodIn_sub (fun w h => List.mem_cons_of_mem _ (List.mem_append_right _ (List.mem_append_right _ (List.mem_append_left _ h)))) (by decide +kernel)
  have gg_2 : GoodIn vs_m_sharex (wsV RX12 175 RX12 yX12_may vs_c_may0_2) := goodIn_sub (fun w h => List.mem_cons_of_mem _ (List.mem_append_right _ (List.mem_append_right _ (List.mem_append_right _ (List.mem_append_left _ h))))) (by decide +kernel)
  refine lv_aload_n hx hb dX12_share_0 rfl (lv_at hlv 0 rfl) ?_
  refine lv_iconst (v := 0) hx hb dX12_share_1 (by decide) ?_
  refine va_put (D := D) (ci := 12) (v := .int 0) (ty := .int) (C := RX12) (T := TX12) (N := 38) hx hb hts hi12 tyX12 tyX12_ok nmX12 hown hG.1 hP hD hS 0 rfl rfl 0 (by decide) lf1 (fun _ h9 => h9) rfl (by decide +kernel) rfl rfl (Nat.le_of_ble_eq_true rfl) dX12_share_2 (fun H locs hP hD hS => ?_)
  have hP : va_P D vwCl [(mo, .inr (12, [.int 0, .ref (ma 1), .int 0, .int 0, .int 0, .int 0, .int 0, .int 0, .int (-1), .ref (ma 9), .ref (ma 10), .ref (ma 11), .ref (ma 12), .ref (ma 13), .ref (ma 14), .ref (ma 15), .int 0, .int 0, .int 0, .ref (ma 19), .ref (ma 20), .ref (ma 21), .int 0, .ref (ma 23), .ref (ma 24), .ref (ma 25), .ref (ma 26), .ref (ma 27), .ref (ma 28), .int 0, .int 0, .int 0, .int 0, .ref (ma 33), .int (-1), .ref (ma 35), .int 0, .int 0])), ((ma 1), .inl (cy 0, 4, .inl (fun _ => 0)))] H := hP
  have hD : va_D A [(mo, .inr (12, [.int 0, .ref (ma 1), .int 0, .int 0, .int 0, .int 0, .int 0, .int 0, .int (-1), .ref (ma 9), .ref (ma 10), .ref (ma 11), .ref (ma 12), .ref (ma 13), .ref (ma 14), .ref (ma 15), .int 0, .int 0, .int 0, .ref (ma 19), .ref (ma 20), .ref (ma 21), .int 0, .ref (ma 23), .ref (ma 24), .ref (ma 25), .ref (ma 26), .ref (ma 27), .ref (ma 28), .int 0, .int 0, .int 0, .int 0, .ref (ma 33), .int (-1), .ref (ma 35), .int 0, .int 0])), ((ma 1), .inl (cy 0, 4, .inl (fun _ => 0)))] := hD
  refine lv_aload_n hx hb dX12_share_5 rfl (lv_at hlv 0 rfl) ?_
  refine lv_iload_n hx hb dX12_share_6 rfl (lv_at hlv 1 rfl) ?_
  refine lv_iconst (v := 0) hx hb dX12_share_7 (by decide) ?_
  refine lv_iconst (v := 3) hx hb dX12_share_8 (by decide) ?_
  refine cj_i (wr := [(mo, .inr (12, [.int 0, .ref (ma 1), .int 0, .int 0, .int 0, .int 0, .int 0, .int 0, .int (-1), .ref (ma 9), .ref (ma 10), .ref (ma 11), .ref (ma 12), .ref (ma 13), .ref (ma 14), .ref (ma 15), .int 0, .int 0, .int 0, .ref (ma 19), .ref (ma 20), .ref (ma 21), .int 0, .ref (ma 23), .ref (ma 24), .ref (ma 25), .ref (ma 26), .ref (ma 27), .ref (ma 28), .int 0, .int 0, .int 0, .int 0, .ref (ma 33), .int (-1), .ref (ma 35), .int 0, .int 0])), ((ma 1), .inl (cy 0, 4, .inl (fun _ => 0)))]) (va_runS (As := [.int p0, .int 0, .int 3]) (rest := [.ref mo]) ⟨hx, hb, hml, hown, hts⟩ (c_within l hl D cy sa p0 0 3 H.size) (va_cwS 3 hts gg_1 rfl rfl rfl (by decide +kernel) ⟨Nat.le_of_ble_eq_true rfl, Nat.le_of_ble_eq_true rfl⟩) ⟨pcW.blind, (pcW.mk hP hD hS hA hG hT [] rfl (by decide))⟩ rfl rfl hlv.1 rfl (lv_room (Nat.le_of_ble_eq_true rfl)) dX12_share_9 ⟨Nat.le_of_ble_eq_true rfl, Nat.le_of_ble_eq_true rfl⟩) hP hD hS hA [] [0, 1] rfl rfl (by decide) (by decide) (fun r1 u1 H locs hw1 hP hD hS => ?_)
  rcases hw1 with ⟨hg1, rfl⟩ | ⟨hg1, rfl⟩
  · exact absurd hg1 hn
  · have hP : va_P D vwCl [(mo, .inr (12, [.int 0, .ref (ma 1), .int 0, .int 0, .int 0, .int 0, .int 0, .int 0, .int (-1), .ref (ma 9), .ref (ma 10), .ref (ma 11), .ref (ma 12), .ref (ma 13), .ref (ma 14), .ref (ma 15), .int 0, .int 0, .int 0, .ref (ma 19), .ref (ma 20), .ref (ma 21), .int 0, .ref (ma 23), .ref (ma 24), .ref (ma 25), .ref (ma 26), .ref (ma 27), .ref (ma 28), .int 0, .int 0, .int 0, .int 0, .ref (ma 33), .int (-1), .ref (ma 35), .int 0, .int 0])), ((ma 1), .inl (cy 0, 4, .inl (fun _ => 0)))] H := hP
    have hD : va_D A [(mo, .inr (12, [.int 0, .ref (ma 1), .int 0, .int 0, .int 0, .int 0, .int 0, .int 0, .int (-1), .ref (ma 9), .ref (ma 10), .ref (ma 11), .ref (ma 12), .ref (ma 13), .ref (ma 14), .ref (ma 15), .int 0, .int 0, .int 0, .ref (ma 19), .ref (ma 20), .ref (ma 21), .int 0, .ref (ma 23), .ref (ma 24), .ref (ma 25), .ref (ma 26), .ref (ma 27), .ref (ma 28), .int 0, .int 0, .int 0, .int 0, .ref (ma 33), .int (-1), .ref (ma 35), .int 0, .int 0])), ((ma 1), .inl (cy 0, 4, .inl (fun _ => 0)))] := hD
    refine lv_if_eq (tgt := 29) hx hb dX12_share_12 (by decide) (fun _ => ?_) (fun c => absurd (by decide) c)
    refine lv_iconst (v := 0) hx hb dX12_share_29 (by decide) ?_
    refine lv_iconst (v := 1) hx hb dX12_share_30 (by decide) ?_
    refine lv_iconst (v := 2) hx hb dX12_share_31 (by decide) ?_
    refine cj_i (wr := []) (va_runV (As := [.int 0, .int 1, .int 2]) (rest := []) ⟨hx, hb, hml, hown, hts⟩ (c_may0_2 l hl D cy sa mo ma 1 H.size (by decide)) (cwV 3 hts gg_2 rfl rfl rfl (by decide +kernel) ⟨Nat.le_of_ble_eq_true rfl, Nat.le_of_ble_eq_true rfl⟩) ⟨pcW.blind, (va_recv hG.1 hP (ci := 12) (q0 := 0) rfl rfl), (pcW.mk hP hD hS hA hG hT [0, 1] rfl (by decide))⟩ rfl rfl hlv.1 rfl (lv_room (Nat.le_of_ble_eq_true rfl)) dX12_share_32 ⟨Nat.le_of_ble_eq_true rfl, Nat.le_of_ble_eq_true rfl⟩) hP hD hS hA [0, 1] [] rfl rfl (by decide) (by decide) (fun r2 u2 H locs hw2 hP hD hS => ?_)
    obtain rfl := hw2
    have hP : va_P D vwCl [(mo, .inr (12, [.int 1, .ref (ma 1), .int 0, .int 0, .int 0, .int 0, .int 0, .int 0, .int (-1), .ref (ma 9), .ref (ma 10), .ref (ma 11), .ref (ma 12), .ref (ma 13), .ref (ma 14), .ref (ma 15), .int 0, .int 0, .int 0, .ref (ma 19), .ref (ma 20), .ref (ma 21), .int 0, .ref (ma 23), .ref (ma 24), .ref (ma 25), .ref (ma 26), .ref (ma 27), .ref (ma 28), .int 0, .int 0, .int 0, .int 0, .ref (ma 33), .int (-1), .ref (ma 35), .int 0, .int 0]))] H := hP
    have hD : va_D A [(mo, .inr (12, [.int 1, .ref (ma 1), .int 0, .int 0, .int 0, .int 0, .int 0, .int 0, .int (-1), .ref (ma 9), .ref (ma 10), .ref (ma 11), .ref (ma 12), .ref (ma 13), .ref (ma 14), .ref (ma 15), .int 0, .int 0, .int 0, .ref (ma 19), .ref (ma 20), .ref (ma 21), .int 0, .ref (ma 23), .ref (ma 24), .ref (ma 25), .ref (ma 26), .ref (ma 27), .ref (ma 28), .int 0, .int 0, .int 0, .int 0, .ref (ma 33), .int (-1), .ref (ma 35), .int 0, .int 0]))] := hD
    refine lv_if_ne (tgt := 40) hx hb dX12_share_35 (by decide) (fun c => absurd (by decide) c) (fun _ => ?_)
    refine lv_iconst (v := 0) hx hb dX12_share_38 (by decide) ?_
    refine W.widen (k := 0) (n := 0) (Nat.le_of_ble_eq_true rfl) (Nat.le_of_ble_eq_true rfl) ?_
    exact W.iret (v := 0) hx hb hr (fun t ht hW => ⟨⟨0, ((fun k => ([] : List Nat).getD k 0), (fun k => ([1] : List Int32).getD k 0), (fun k => ([] : List (Nat → Int32)).getD k (fun _ => 0))), rfl, (by first | (exact ⟨by rfl, by rfl⟩)), by rw [ht]; exact hP.sub [0] rfl, hD.sub [0] (by decide) rfl⟩, hS.F ht⟩) hS.2.2 dX12_share_39
def vs_m_dip : List Cond := .code yX12_dip cX12_dip 5 (some .int) :: (([.fieldLink RX12 1 "KerbSplashModel" "thrown" "I", .fieldLink RX12 29 "KerbSplashModel" "s" "[I"] : List Cond) ++ ((wsX120) ++ ((va_wsS RX12 279 yX12_within vs_c_within) ++ ((wsV RX12 175 RX12 yX12_may vs_c_may1) ++ ((wsV RX12 175 RX12 yX12_may vs_c_may0_2) ++ ([]))))))
set_option maxHeartbeats 4000000 in
set_option maxRecDepth 100000 in
theorem m_dip (l : Launch) (hl : l.stackTraces = false) (D : va_G) (cy : Nat → ClassId) (sa : Nat → Nat) (mo : Nat) (ma : Nat → Nat) (p0 p1 p2 : Int32) (sz : Nat) : Met l yX12_dip vs_m_dip ({ frames := 1, cells := 0, slots := 0, locals := 23 }) (va_Pc [.ref mo, .int p0, .int p1, .int p2] (pcW D cy sa sz [(mo, .inr (12, [.int 0, .ref (ma 1), .int 0, .int 0, .int 0, .int 0, .int 0, .int 0, .int (-1), .ref (ma 9), .ref (ma 10), .ref (ma 11), .ref (ma 12), .ref (ma 13), .ref (ma 14), .ref (ma 15), .int 0, .int 0, .int 0, .ref (ma 19), .ref (ma 20), .ref (ma 21), .int 0, .ref (ma 23), .ref (ma 24), .ref (ma 25), .ref (ma 26), .ref (ma 27), .ref (ma 28), .int 0, .int 0, .int 0, .int 0, .ref (ma 33), .int (-1), .ref (ma 35), .int 0, .int 0])), ((ma 1), .inl (cy 0, 4, .inl (fun _ => 0))), ((ma 12), .inl (cy 0, 389, .inl sF))])) (va_Qi (fun (r : Int32) (u : SU) => ((¬ ((1 ≤ p0 ∧ p0 ≤ 99) ∧ (1 ≤ p1 ∧ p1 ≤ 30) ∧ (1 ≤ p2 ∧ p2 ≤ 99))) ∧ r = 0 ∧ (u.2.1 0) = 1) ∨ (((1 ≤ p0 ∧ p0 ≤ 99) ∧ (1 ≤ p1 ∧ p1 ≤ 30) ∧ (1 ≤ p2 ∧ p2 ≤ 99)) ∧ r = 1 ∧ (u.2.1 0) = 0)) (fun u t => atW D (va_A [(mo, .inr (12, [.int 0, .ref (ma 1), .int 0, .int 0, .int 0, .int 0, .int 0, .int 0, .int (-1), .ref (ma 9), .ref (ma 10), .ref (ma 11), .ref (ma 12), .ref (ma 13), .ref (ma 14), .ref (ma 15), .int 0, .int 0, .int 0, .ref (ma 19), .ref (ma 20), .ref (ma 21), .int 0, .ref (ma 23), .ref (ma 24), .ref (ma 25), .ref (ma 26), .ref (ma 27), .ref (ma 28), .int 0, .int 0, .int 0, .int 0, .ref (ma 33), .int (-1), .ref (ma 35), .int 0, .int 0])), ((ma 1), .inl (cy 0, 4, .inl (fun _ => 0))), ((ma 12), .inl (cy 0, 389, .inl sF))] sz) [(mo, .inr (12, [.int (u.2.1 0), .ref (ma 1), .int 0, .int 0, .int 0, .int 0, .int 0, .int 0, .int (-1), .ref (ma 9), .ref (ma 10), .ref (ma 11), .ref (ma 12), .ref (ma 13), .ref (ma 14), .ref (ma 15), .int 0, .int 0, .int 0, .ref (ma 19), .ref (ma 20), .ref (ma 21), .int 0, .ref (ma 23), .ref (ma 24), .ref (ma 25), .ref (ma 26), .ref (ma 27), .ref (ma 28), .int 0, .int 0, .int 0, .int 0, .ref (ma 33), .int (-1), .ref (ma 35), .int 0, .int 0]))] t) (va_A [(mo, .inr (12, [.int 0, .ref (ma 1), .int 0, .int 0, .int 0, .int 0, .int 0, .int 0, .int (-1), .ref (ma 9), .ref (ma 10), .ref (ma 11), .ref (ma 12), .ref (ma 13), .ref (ma 14), .ref (ma 15), .int 0, .int 0, .int 0, .ref (ma 19), .ref (ma 20), .ref (ma 21), .int 0, .ref (ma 23), .ref (ma 24), .ref (ma 25), .ref (ma 26), .ref (ma 27), .ref (ma 28), .int 0, .int 0, .int 0, .int 0, .ref (ma 33), .int (-1), .ref (ma 35), .int 0, .int 0])), ((ma 1), .inl (cy 0, 4, .inl (fun _ => 0))), ((ma 12), .inl (cy 0, 389, .inl sF))] sz)) 0 0 (va_A [(mo, .inr (12, [.int 0, .ref (ma 1), .int 0, .int 0, .int 0, .int 0, .int 0, .int 0, .int (-1), .ref (ma 9), .ref (ma 10), .ref (ma 11), .ref (ma 12), .ref (ma 13), .ref (ma 14), .ref (ma 15), .int 0, .int 0, .int 0, .ref (ma 19), .ref (ma 20), .ref (ma 21), .int 0, .ref (ma 23), .ref (ma 24), .ref (ma 25), .ref (ma 26), .ref (ma 27), .ref (ma 28), .int 0, .int 0, .int 0, .int 0, .ref (ma 33), .int (-1), .ref (ma 35), .int 0, .int 0])), ((ma 1), .inl (cy 0, 4, .inl (fun _ => 0))), ((ma 12), .inl (cy 0, 389, .inl sF))] sz) := by
  refine Met.ofW (cc := cX12_dip) (maxL := 5) (ret := (some .int)) (by decide) rfl ?_
  intro p e s m args below meth c s₁ B hml hv
  obtain ⟨rfl, hsz, hP, hG, hD0, hT⟩ := hv
  have hx := B.exec
  have hb := B.bytes
  have hr := B.returns
  have hts := atoms_spec (ws := vs_m_dip) B.pre
  have hown : s.vm.findClass RX12 = some m.cls := findClass_of_methodNamed B.named
  have hlocks := B.notSynchronized
  subst hsz
  have hD := hD0.self (sz := s.heap.size)
  generalize hAe : va_A [(mo, .inr (12, [.int 0, .ref (ma 1), .int 0, .int 0, .int 0, .int 0, .int 0, .int 0, .int (-1), .ref (ma 9), .ref (ma 10), .ref (ma 11), .ref (ma 12), .ref (ma 13), .ref (ma 14), .ref (ma 15), .int 0, .int 0, .int 0, .ref (ma 19), .ref (ma 20), .ref (ma 21), .int 0, .ref (ma 23), .ref (ma 24), .ref (ma 25), .ref (ma 26), .ref (ma 27), .ref (ma 28), .int 0, .int 0, .int 0, .int 0, .ref (ma 33), .int (-1), .ref (ma 35), .int 0, .int 0])), ((ma 1), .inl (cy 0, 4, .inl (fun _ => 0))), ((ma 12), .inl (cy 0, 389, .inl sF))] s.heap.size = A at hD hT ⊢
  have hA : ∀ q : Nat, s.heap.size ≤ q → A q := fun q h => by rw [← hAe]; exact Or.inr h
  have hS : va_S A s.heap s.heap [] := va_S.rf
  have hl0 := lv_entry ([.ref mo, .int p0, .int p1, .int p2]) (n := 5) (Nat.le_of_ble_eq_true rfl)
  rw [lg_entry_eq]
  generalize (lg_sl ([.ref mo, .int p0, .int p1, .int p2]) ++ List.replicate (5 - (lg_sl ([.ref mo, .int p0, .int p1, .int p2])).length) Slot.unset).toArray = ls at hl0 ⊢
  have hlv : lv_has ls 5 [(0, .ref mo), (1, .int p0), (2, .int p1), (3, .int p2)] := hl0
  have lf1 := hts (.fieldLink RX12 1 "KerbSplashModel" "thrown" "I") (List.mem_of_getElem? (i := 1) rfl)
  have hi12 : ∀ w ∈ wsX120, w ∈ vs_m_dip := fun w h => List.mem_cons_of_mem _ (List.mem_append_right _ (List.mem_append_left _ h))
  have gg_1 : GoodIn vs_m_dip (va_wsS RX12 279 yX12_within vs_c_within) := goodIn_sub (fun w h => List.mem_cons_of_mem _ (List.mem_append_right _ (List.mem_append_right _ (List.mem_append_left _ h)))) (by decide +kernel)
  have gg_2 : GoodIn vs_m_dip (wsV RX12 175 RX12 yX12_may vs_c_may1) := goodIn_sub (fun w h => List.mem_cons_of_mem _ (List.mem_append_right _ (List.mem_append_right _ (List.mem_append_right _ (List.mem_append_left _ h))))) (by decide +kernel)
  have lf29 := hts (.fieldLink RX12 29 "KerbSplashModel" "s" "[I") (List.mem_of_getElem? (i := 2) rfl)
  have gg_3 : GoodIn vs_m_dip (wsV RX12 175 RX12 yX12_may vs_c_may0_2) := goodIn_sub (fun w h => List.mem_cons_of_mem _ (List.mem_append_right _ (List.mem_append_right _ (List.mem_append_right _ (List.mem_append_right _ (List.mem_append_left _ h)))))) (by decide +kernel)
  refine lv_aload_n hx hb dX12_dip_0 rfl (lv_at hlv 0 rfl) ?_
  refine lv_iconst (v := 0) hx hb dX12_dip_1 (by decide) ?_
  refine va_put (D := D) (ci := 12) (v := .int 0) (ty := .int) (C := RX12) (T := TX12) (N := 38) hx hb hts hi12 tyX12 tyX12_ok nmX12 hown hG.1 hP hD hS 0 rfl rfl 0 (by decide) lf1 (fun _ h9 => h9) rfl (by decide +kernel) rfl rfl (Nat.le_of_ble_eq_true rfl) dX12_dip_2 (fun H locs hP hD hS => ?_)
  have hP : va_P D vwCl [(mo, .inr (12, [.int 0, .ref (ma 1), .int 0, .int 0, .int 0, .int 0, .int 0, .int 0, .int (-1), .ref (ma 9), .ref (ma 10), .ref (ma 11), .ref (ma 12), .ref (ma 13), .ref (ma 14), .ref (ma 15), .int 0, .int 0, .int 0, .ref (ma 19), .ref (ma 20), .ref (ma 21), .int 0, .ref (ma 23), .ref (ma 24), .ref (ma 25), .ref (ma 26), .ref (ma 27), .ref (ma 28), .int 0, .int 0, .int 0, .int 0, .ref (ma 33), .int (-1), .ref (ma 35), .int 0, .int 0])), ((ma 1), .inl (cy 0, 4, .inl (fun _ => 0))), ((ma 12), .inl (cy 0, 389, .inl sF))] H := hP
  have hD : va_D A [(mo, .inr (12, [.int 0, .ref (ma 1), .int 0, .int 0, .int 0, .int 0, .int 0, .int 0, .int (-1), .ref (ma 9), .ref (ma 10), .ref (ma 11), .ref (ma 12), .ref (ma 13), .ref (ma 14), .ref (ma 15), .int 0, .int 0, .int 0, .ref (ma 19), .ref (ma 20), .ref (ma 21), .int 0, .ref (ma 23), .ref (ma 24), .ref (ma 25), .ref (ma 26), .ref (ma 27), .ref (ma 28), .int 0, .int 0, .int 0, .int 0, .ref (ma 33), .int (-1), .ref (ma 35), .int 0, .int 0])), ((ma 1), .inl (cy 0, 4, .inl (fun _ => 0))), ((ma 12), .inl (cy 0, 389, .inl sF))] := hD
  refine lv_aload_n hx hb dX12_dip_5 rfl (lv_at hlv 0 rfl) ?_
  refine lv_iload_n hx hb dX12_dip_6 rfl (lv_at hlv 1 rfl) ?_
  refine lv_iconst (v := 1) hx hb dX12_dip_7 (by decide) ?_
  refine lv_bipush (v := 99) hx hb dX12_dip_8 (by decide) ?_
  refine cj_i (wr := [(mo, .inr (12, [.int 0, .ref (ma 1), .int 0, .int 0, .int 0, .int 0, .int 0, .int 0, .int (-1), .ref (ma 9), .ref (ma 10), .ref (ma 11), .ref (ma 12), .ref (ma 13), .ref (ma 14), .ref (ma 15), .int 0, .int 0, .int 0, .ref (ma 19), .ref (ma 20), .ref (ma 21), .int 0, .ref (ma 23), .ref (ma 24), .ref (ma 25), .ref (ma 26), .ref (ma 27), .ref (ma 28), .int 0, .int 0, .int 0, .int 0, .ref (ma 33), .int (-1), .ref (ma 35), .int 0, .int 0])), ((ma 1), .inl (cy 0, 4, .inl (fun _ => 0))), ((ma 12), .inl (cy 0, 389, .inl sF))]) (va_runS (As := [.int p0, .int 1, .int 99]) (rest := [.ref mo]) ⟨hx, hb, hml, hown, hts⟩ (c_within l hl D cy sa p0 1 99 H.size) (va_cwS 3 hts gg_1 rfl rfl rfl (by decide +kernel) ⟨Nat.le_of_ble_eq_true rfl, Nat.le_of_ble_eq_true rfl⟩) ⟨pcW.blind, (pcW.mk hP hD hS hA hG hT [] rfl (by decide))⟩ rfl rfl hlv.1 rfl (lv_room (Nat.le_of_ble_eq_true rfl)) dX12_dip_10 ⟨Nat.le_of_ble_eq_true rfl, Nat.le_of_ble_eq_true rfl⟩) hP hD hS hA [] [0, 1, 2] rfl rfl (by decide) (by decide) (fun r1 u1 H locs hw1 hP hD hS => ?_)
  rcases hw1 with ⟨hg1, rfl⟩ | ⟨hg1, rfl⟩
  · have hP : va_P D vwCl [(mo, .inr (12, [.int 0, .ref (ma 1), .int 0, .int 0, .int 0, .int 0, .int 0, .int 0, .int (-1), .ref (ma 9), .ref (ma 10), .ref (ma 11), .ref (ma 12), .ref (ma 13), .ref (ma 14), .ref (ma 15), .int 0, .int 0, .int 0, .ref (ma 19), .ref (ma 20), .ref (ma 21), .int 0, .ref (ma 23), .ref (ma 24), .ref (ma 25), .ref (ma 26), .ref (ma 27), .ref (ma 28), .int 0, .int 0, .int 0, .int 0, .ref (ma 33), .int (-1), .ref (ma 35), .int 0, .int 0])), ((ma 1), .inl (cy 0, 4, .inl (fun _ => 0))), ((ma 12), .inl (cy 0, 389, .inl sF))] H := hP
    have hD : va_D A [(mo, .inr (12, [.int 0, .ref (ma 1), .int 0, .int 0, .int 0, .int 0, .int 0, .int 0, .int (-1), .ref (ma 9), .ref (ma 10), .ref (ma 11), .ref (ma 12), .ref (ma 13), .ref (ma 14), .ref (ma 15), .int 0, .int 0, .int 0, .ref (ma 19), .ref (ma 20), .ref (ma 21), .int 0, .ref (ma 23), .ref (ma 24), .ref (ma 25), .ref (ma 26), .ref (ma 27), .ref (ma 28), .int 0, .int 0, .int 0, .int 0, .ref (ma 33), .int (-1), .ref (ma 35), .int 0, .int 0])), ((ma 1), .inl (cy 0, 4, .inl (fun _ => 0))), ((ma 12), .inl (cy 0, 389, .inl sF))] := hD
    refine lv_if_eq (tgt := 40) hx hb dX12_dip_13 (by decide) (fun c => absurd c (by decide)) (fun _ => ?_)
    refine lv_iload_n hx hb dX12_dip_16 rfl (lv_at hlv 2 rfl) ?_
    refine lv_iconst (v := 1) hx hb dX12_dip_17 (by decide) ?_
    refine lv_bipush (v := 30) hx hb dX12_dip_18 (by decide) ?_
    refine cj_i (wr := [(mo, .inr (12, [.int 0, .ref (ma 1), .int 0, .int 0, .int 0, .int 0, .int 0, .int 0, .int (-1), .ref (ma 9), .ref (ma 10), .ref (ma 11), .ref (ma 12), .ref (ma 13), .ref (ma 14), .ref (ma 15), .int 0, .int 0, .int 0, .ref (ma 19), .ref (ma 20), .ref (ma 21), .int 0, .ref (ma 23), .ref (ma 24), .ref (ma 25), .ref (ma 26), .ref (ma 27), .ref (ma 28), .int 0, .int 0, .int 0, .int 0, .ref (ma 33), .int (-1), .ref (ma 35), .int 0, .int 0])), ((ma 1), .inl (cy 0, 4, .inl (fun _ => 0))), ((ma 12), .inl (cy 0, 389, .inl sF))]) (va_runS (As := [.int p1, .int 1, .int 30]) (rest := [.ref mo]) ⟨hx, hb, hml, hown, hts⟩ (c_within l hl D cy sa p1 1 30 H.size) (va_cwS 3 hts gg_1 rfl rfl rfl (by decide +kernel) ⟨Nat.le_of_ble_eq_true rfl, Nat.le_of_ble_eq_true rfl⟩) ⟨pcW.blind, (pcW.mk hP hD hS hA hG hT [] rfl (by decide))⟩ rfl rfl hlv.1 rfl (lv_room (Nat.le_of_ble_eq_true rfl)) dX12_dip_20 ⟨Nat.le_of_ble_eq_true rfl, Nat.le_of_ble_eq_true rfl⟩) hP hD hS hA [] [0, 1, 2] rfl rfl (by decide) (by decide) (fun r2 u2 H locs hw2 hP hD hS => ?_)
    rcases hw2 with ⟨hg2, rfl⟩ | ⟨hg2, rfl⟩
    · have hP : va_P D vwCl [(mo, .inr (12, [.int 0, .ref (ma 1), .int 0, .int 0, .int 0, .int 0, .int 0, .int 0, .int (-1), .ref (ma 9), .ref (ma 10), .ref (ma 11), .ref (ma 12), .ref (ma 13), .ref (ma 14), .ref (ma 15), .int 0, .int 0, .int 0, .ref (ma 19), .ref (ma 20), .ref (ma 21), .int 0, .ref (ma 23), .ref (ma 24), .ref (ma 25), .ref (ma 26), .ref (ma 27), .ref (ma 28), .int 0, .int 0, .int 0, .int 0, .ref (ma 33), .int (-1), .ref (ma 35), .int 0, .int 0])), ((ma 1), .inl (cy 0, 4, .inl (fun _ => 0))), ((ma 12), .inl (cy 0, 389, .inl sF))] H := hP
      have hD : va_D A [(mo, .inr (12, [.int 0, .ref (ma 1), .int 0, .int 0, .int 0, .int 0, .int 0, .int 0, .int (-1), .ref (ma 9), .ref (ma 10), .ref (ma 11), .ref (ma 12), .ref (ma 13), .ref (ma 14), .ref (ma 15), .int 0, .int 0, .int 0, .ref (ma 19), .ref (ma 20), .ref (ma 21), .int 0, .ref (ma 23), .ref (ma 24), .ref (ma 25), .ref (ma 26), .ref (ma 27), .ref (ma 28), .int 0, .int 0, .int 0, .int 0, .ref (ma 33), .int (-1), .ref (ma 35), .int 0, .int 0])), ((ma 1), .inl (cy 0, 4, .inl (fun _ => 0))), ((ma 12), .inl (cy 0, 389, .inl sF))] := hD
      refine lv_if_eq (tgt := 40) hx hb dX12_dip_23 (by decide) (fun c => absurd c (by decide)) (fun _ => ?_)
      refine lv_iload_n hx hb dX12_dip_26 rfl (lv_at hlv 3 rfl) ?_
      refine lv_iconst (v := 1) hx hb dX12_dip_27 (by decide) ?_
      refine lv_bipush (v := 99) hx hb dX12_dip_28 (by decide) ?_
      refine cj_i (wr := [(mo, .inr (12, [.int 0, .ref (ma 1), .int 0, .int 0, .int 0, .int 0, .int 0, .int 0, .int (-1), .ref (ma 9), .ref (ma 10), .ref (ma 11), .ref (ma 12), .ref (ma 13), .ref (ma 14), .ref (ma 15), .int 0, .int 0, .int 0, .ref (ma 19), .ref (ma 20), .ref (ma 21), .int 0, .ref (ma 23), .ref (ma 24), .ref (ma 25), .ref (ma 26), .ref (ma 27), .ref (ma 28), .int 0, .int 0, .int 0, .int 0, .ref (ma 33), .int (-1), .ref (ma 35), .int 0, .int 0])), ((ma 1), .inl (cy 0, 4, .inl (fun _ => 0))), ((ma 12), .inl (cy 0, 389, .inl sF))]) (va_runS (As := [.int p2, .int 1, .int 99]) (rest := [.ref mo]) ⟨hx, hb, hml, hown, hts⟩ (c_within l hl D cy sa p2 1 99 H.size) (va_cwS 3 hts gg_1 rfl rfl rfl (by decide +kernel) ⟨Nat.le_of_ble_eq_true rfl, Nat.le_of_ble_eq_true rfl⟩) ⟨pcW.blind, (pcW.mk hP hD hS hA hG hT [] rfl (by decide))⟩ rfl rfl hlv.1 rfl (lv_room (Nat.le_of_ble_eq_true rfl)) dX12_dip_30 ⟨Nat.le_of_ble_eq_true rfl, Nat.le_of_ble_eq_true rfl⟩) hP hD hS hA [] [0, 1, 2] rfl rfl (by decide) (by decide) (fun r3 u3 H locs hw3 hP hD hS => ?_)
      rcases hw3 with ⟨hg3, rfl⟩ | ⟨hg3, rfl⟩
      · have hP : va_P D vwCl [(mo, .inr (12, [.int 0, .ref (ma 1), .int 0, .int 0, .int 0, .int 0, .int 0, .int 0, .int (-1), .ref (ma 9), .ref (ma 10), .ref (ma 11), .ref (ma 12), .ref (ma 13), .ref (ma 14), .ref (ma 15), .int 0, .int 0, .int 0, .ref (ma 19), .ref (ma 20), .ref (ma 21), .int 0, .ref (ma 23), .ref (ma 24), .ref (ma 25), .ref (ma 26), .ref (ma 27), .ref (ma 28), .int 0, .int 0, .int 0, .int 0, .ref (ma 33), .int (-1), .ref (ma 35), .int 0, .int 0])), ((ma 1), .inl (cy 0, 4, .inl (fun _ => 0))), ((ma 12), .inl (cy 0, 389, .inl sF))] H := hP
        have hD : va_D A [(mo, .inr (12, [.int 0, .ref (ma 1), .int 0, .int 0, .int 0, .int 0, .int 0, .int 0, .int (-1), .ref (ma 9), .ref (ma 10), .ref (ma 11), .ref (ma 12), .ref (ma 13), .ref (ma 14), .ref (ma 15), .int 0, .int 0, .int 0, .ref (ma 19), .ref (ma 20), .ref (ma 21), .int 0, .ref (ma 23), .ref (ma 24), .ref (ma 25), .ref (ma 26), .ref (ma 27), .ref (ma 28), .int 0, .int 0, .int 0, .int 0, .ref (ma 33), .int (-1), .ref (ma 35), .int 0, .int 0])), ((ma 1), .inl (cy 0, 4, .inl (fun _ => 0))), ((ma 12), .inl (cy 0, 389, .inl sF))] := hD
        refine lv_if_eq (tgt := 40) hx hb dX12_dip_33 (by decide) (fun c => absurd c (by decide)) (fun _ => ?_)
        refine lv_iconst (v := 1) hx hb dX12_dip_36 (by decide) ?_
        refine lv_goto (tgt := 41) hx hb dX12_dip_37 (by decide) ?_
        refine lv_iconst (v := 1) hx hb dX12_dip_41 (by decide) ?_
        refine lv_iconst (v := 2) hx hb dX12_dip_42 (by decide) ?_
        refine cj_i (wr := [((ma 1), .inl (cy 0, 4, .inl (fun _ => 0))), ((ma 12), .inl (cy 0, 389, .inl sF))]) (va_runV (As := [.int 1, .int 1, .int 2]) (rest := []) ⟨hx, hb, hml, hown, hts⟩ (c_may1 l hl D cy sa mo ma 1 2 H.size) (cwV 3 hts gg_2 rfl rfl rfl (by decide +kernel) ⟨Nat.le_of_ble_eq_true rfl, Nat.le_of_ble_eq_true rfl⟩) ⟨pcW.blind, (va_recv hG.1 hP (ci := 12) (q0 := 0) rfl rfl), (pcW.mk hP hD hS hA hG hT [0] rfl (by decide))⟩ rfl rfl hlv.1 rfl (lv_room (Nat.le_of_ble_eq_true rfl)) dX12_dip_43 ⟨Nat.le_of_ble_eq_true rfl, Nat.le_of_ble_eq_true rfl⟩) hP hD hS hA [0] [1, 2] rfl rfl (by decide) (by decide) (fun r4 u4 H locs hw4 hP hD hS => ?_)
        obtain rfl := hw4
        have hP : va_P D vwCl [((ma 1), .inl (cy 0, 4, .inl (fun _ => 0))), ((ma 12), .inl (cy 0, 389, .inl sF)), (mo, .inr (12, [.int 0, .ref (ma 1), .int 0, .int 0, .int 0, .int 0, .int 0, .int 0, .int (-1), .ref (ma 9), .ref (ma 10), .ref (ma 11), .ref (ma 12), .ref (ma 13), .ref (ma 14), .ref (ma 15), .int 0, .int 0, .int 0, .ref (ma 19), .ref (ma 20), .ref (ma 21), .int 0, .ref (ma 23), .ref (ma 24), .ref (ma 25), .ref (ma 26), .ref (ma 27), .ref (ma 28), .int 0, .int 0, .int 0, .int 0, .ref (ma 33), .int (-1), .ref (ma 35), .int 0, .int 0]))] H := hP
        have hD : va_D A [((ma 1), .inl (cy 0, 4, .inl (fun _ => 0))), ((ma 12), .inl (cy 0, 389, .inl sF)), (mo, .inr (12, [.int 0, .ref (ma 1), .int 0, .int 0, .int 0, .int 0, .int 0, .int 0, .int (-1), .ref (ma 9), .ref (ma 10), .ref (ma 11), .ref (ma 12), .ref (ma 13), .ref (ma 14), .ref (ma 15), .int 0, .int 0, .int 0, .ref (ma 19), .ref (ma 20), .ref (ma 21), .int 0, .ref (ma 23), .ref (ma 24), .ref (ma 25), .ref (ma 26), .ref (ma 27), .ref (ma 28), .int 0, .int 0, .int 0, .int 0, .ref (ma 33), .int (-1), .ref (ma 35), .int 0, .int 0]))] := hD
        refine lv_if_ne (tgt := 51) hx hb dX12_dip_46 (by decide) (fun _ => ?_) (fun c => absurd c (by decide))
        refine lv_aload_n hx hb dX12_dip_51 rfl (lv_at hlv 0 rfl) ?_
        refine va_get (D := D) (ci := 12) (v := .ref (ma 12)) (C := RX12) (T := TX12) (N := 38) hx hb hts hi12 hown hG.1 hP 2 rfl rfl 12 (by decide) lf29 (fun _ h9 => h9) rfl dX12_dip_52 ?_
        refine lv_sipush (v := 357) hx hb dX12_dip_55 (by decide) ?_
        refine va_iald hx hb hG.1 hP 1 0 rfl rfl (vpd (by decide)) dX12_dip_58 ?_
        refine lt_i (y := 0) (by first | rfl | decide +kernel) ?_
        refine lv_bipush (v := 9) hx hb dX12_dip_59 (by decide) ?_
        refine lv_icmp_ne (tgt := 66) hx hb dX12_dip_61 (by decide) (fun _ => ?_) (fun c => absurd c (by decide))
        refine lv_sipush (v := 358) hx hb dX12_dip_66 (by decide) ?_
        refine lv_iconst (v := 3) hx hb dX12_dip_69 (by decide) ?_
        refine lv_aload_n hx hb dX12_dip_70 rfl (lv_at hlv 0 rfl) ?_
        refine va_get (D := D) (ci := 12) (v := .ref (ma 12)) (C := RX12) (T := TX12) (N := 38) hx hb hts hi12 hown hG.1 hP 2 rfl rfl 12 (by decide) lf29 (fun _ h9 => h9) rfl dX12_dip_71 ?_
        refine lv_sipush (v := 357) hx hb dX12_dip_74 (by decide) ?_
        refine va_iald hx hb hG.1 hP 1 0 rfl rfl (vpd (by decide)) dX12_dip_77 ?_
        refine lt_i (y := 0) (by first | rfl | decide +kernel) ?_
        refine lv_imul hx hb dX12_dip_78 ?_
        refine lt_i (y := 0) (by decide) ?_
        refine lv_iadd hx hb dX12_dip_79 ?_
        refine lt_i (y := 358) (by decide) ?_
        refine lv_istore (lv' := [(4, .int 358), (0, .ref mo), (1, .int p0), (2, .int p1), (3, .int p2)]) hx hb dX12_dip_80 hlv (by decide) rfl (fun ls hlv => ?_)
        refine lv_aload_n hx hb dX12_dip_82 rfl (lv_at hlv 1 rfl) ?_
        refine va_get (D := D) (ci := 12) (v := .ref (ma 12)) (C := RX12) (T := TX12) (N := 38) hx hb hts hi12 hown hG.1 hP 2 rfl rfl 12 (by decide) lf29 (fun _ h9 => h9) rfl dX12_dip_83 ?_
        refine lv_iload hx hb dX12_dip_86 (lv_at hlv 0 rfl) ?_
        refine lv_iload_n hx hb dX12_dip_88 rfl (lv_at hlv 2 rfl) ?_
        refine va_iast hx hb hG.1 hP hD hS 1 0 rfl rfl (vpd (by decide)) dX12_dip_89 (fun H locs hP hD hS => ?_)
        have hP : va_P D vwCl [((ma 1), .inl (cy 0, 4, .inl (fun _ => 0))), ((ma 12), .inl (cy 0, 389, .inl (upd sF 358 p0))), (mo, .inr (12, [.int 0, .ref (ma 1), .int 0, .int 0, .int 0, .int 0, .int 0, .int 0, .int (-1), .ref (ma 9), .ref (ma 10), .ref (ma 11), .ref (ma 12), .ref (ma 13), .ref (ma 14), .ref (ma 15), .int 0, .int 0, .int 0, .ref (ma 19), .ref (ma 20), .ref (ma 21), .int 0, .ref (ma 23), .ref (ma 24), .ref (ma 25), .ref (ma 26), .ref (ma 27), .ref (ma 28), .int 0, .int 0, .int 0, .int 0, .ref (ma 33), .int (-1), .ref (ma 35), .int 0, .int 0]))] H := hP
        have hD : va_D A [((ma 1), .inl (cy 0, 4, .inl (fun _ => 0))), ((ma 12), .inl (cy 0, 389, .inl (upd sF 358 p0))), (mo, .inr (12, [.int 0, .ref (ma 1), .int 0, .int 0, .int 0, .int 0, .int 0, .int 0, .int (-1), .ref (ma 9), .ref (ma 10), .ref (ma 11), .ref (ma 12), .ref (ma 13), .ref (ma 14), .ref (ma 15), .int 0, .int 0, .int 0, .ref (ma 19), .ref (ma 20), .ref (ma 21), .int 0, .ref (ma 23), .ref (ma 24), .ref (ma 25), .ref (ma 26), .ref (ma 27), .ref (ma 28), .int 0, .int 0, .int 0, .int 0, .ref (ma 33), .int (-1), .ref (ma 35), .int 0, .int 0]))] := hD
        refine lv_aload_n hx hb dX12_dip_90 rfl (lv_at hlv 1 rfl) ?_
        refine va_get (D := D) (ci := 12) (v := .ref (ma 12)) (C := RX12) (T := TX12) (N := 38) hx hb hts hi12 hown hG.1 hP 2 rfl rfl 12 (by decide) lf29 (fun _ h9 => h9) rfl dX12_dip_91 ?_
        refine lv_iload hx hb dX12_dip_94 (lv_at hlv 0 rfl) ?_
        refine lv_iconst (v := 1) hx hb dX12_dip_96 (by decide) ?_
        refine lv_iadd hx hb dX12_dip_97 ?_
        refine lt_i (y := 359) (by decide) ?_
        refine lv_iload_n hx hb dX12_dip_98 rfl (lv_at hlv 3 rfl) ?_
        refine va_iast hx hb hG.1 hP hD hS 1 0 rfl rfl (vpd (by decide)) dX12_dip_99 (fun H locs hP hD hS => ?_)
        have hP : va_P D vwCl [((ma 1), .inl (cy 0, 4, .inl (fun _ => 0))), ((ma 12), .inl (cy 0, 389, .inl (upd (upd sF 358 p0) 359 p1))), (mo, .inr (12, [.int 0, .ref (ma 1), .int 0, .int 0, .int 0, .int 0, .int 0, .int 0, .int (-1), .ref (ma 9), .ref (ma 10), .ref (ma 11), .ref (ma 12), .ref (ma 13), .ref (ma 14), .ref (ma 15), .int 0, .int 0, .int 0, .ref (ma 19), .ref (ma 20), .ref (ma 21), .int 0, .ref (ma 23), .ref (ma 24), .ref (ma 25), .ref (ma 26), .ref (ma 27), .ref (ma 28), .int 0, .int 0, .int 0, .int 0, .ref (ma 33), .int (-1), .ref (ma 35), .int 0, .int 0]))] H := hP
        have hD : va_D A [((ma 1), .inl (cy 0, 4, .inl (fun _ => 0))), ((ma 12), .inl (cy 0, 389, .inl (upd (upd sF 358 p0) 359 p1))), (mo, .inr (12, [.int 0, .ref (ma 1), .int 0, .int 0, .int 0, .int 0, .int 0, .int 0, .int (-1), .ref (ma 9), .ref (ma 10), .ref (ma 11), .ref (ma 12), .ref (ma 13), .ref (ma 14), .ref (ma 15), .int 0, .int 0, .int 0, .ref (ma 19), .ref (ma 20), .ref (ma 21), .int 0, .ref (ma 23), .ref (ma 24), .ref (ma 25), .ref (ma 26), .ref (ma 27), .ref (ma 28), .int 0, .int 0, .int 0, .int 0, .ref (ma 33), .int (-1), .ref (ma 35), .int 0, .int 0]))] := hD
        refine lv_aload_n hx hb dX12_dip_100 rfl (lv_at hlv 1 rfl) ?_
        refine va_get (D := D) (ci := 12) (v := .ref (ma 12)) (C := RX12) (T := TX12) (N := 38) hx hb hts hi12 hown hG.1 hP 2 rfl rfl 12 (by decide) lf29 (fun _ h9 => h9) rfl dX12_dip_101 ?_
        refine lv_iload hx hb dX12_dip_104 (lv_at hlv 0 rfl) ?_
        refine lv_iconst (v := 2) hx hb dX12_dip_106 (by decide) ?_
        refine lv_iadd hx hb dX12_dip_107 ?_
        refine lt_i (y := 360) (by decide) ?_
        refine lv_iload_n hx hb dX12_dip_108 rfl (lv_at hlv 4 rfl) ?_
        refine va_iast hx hb hG.1 hP hD hS 1 0 rfl rfl (vpd (by decide)) dX12_dip_109 (fun H locs hP hD hS => ?_)
        have hP : va_P D vwCl [((ma 1), .inl (cy 0, 4, .inl (fun _ => 0))), ((ma 12), .inl (cy 0, 389, .inl (upd (upd (upd sF 358 p0) 359 p1) 360 p2))), (mo, .inr (12, [.int 0, .ref (ma 1), .int 0, .int 0, .int 0, .int 0, .int 0, .int 0, .int (-1), .ref (ma 9), .ref (ma 10), .ref (ma 11), .ref (ma 12), .ref (ma 13), .ref (ma 14), .ref (ma 15), .int 0, .int 0, .int 0, .ref (ma 19), .ref (ma 20), .ref (ma 21), .int 0, .ref (ma 23), .ref (ma 24), .ref (ma 25), .ref (ma 26), .ref (ma 27), .ref (ma 28), .int 0, .int 0, .int 0, .int 0, .ref (ma 33), .int (-1), .ref (ma 35), .int 0, .int 0]))] H := hP
        have hD : va_D A [((ma 1), .inl (cy 0, 4, .inl (fun _ => 0))), ((ma 12), .inl (cy 0, 389, .inl (upd (upd (upd sF 358 p0) 359 p1) 360 p2))), (mo, .inr (12, [.int 0, .ref (ma 1), .int 0, .int 0, .int 0, .int 0, .int 0, .int 0, .int (-1), .ref (ma 9), .ref (ma 10), .ref (ma 11), .ref (ma 12), .ref (ma 13), .ref (ma 14), .ref (ma 15), .int 0, .int 0, .int 0, .ref (ma 19), .ref (ma 20), .ref (ma 21), .int 0, .ref (ma 23), .ref (ma 24), .ref (ma 25), .ref (ma 26), .ref (ma 27), .ref (ma 28), .int 0, .int 0, .int 0, .int 0, .ref (ma 33), .int (-1), .ref (ma 35), .int 0, .int 0]))] := hD
        refine lv_aload_n hx hb dX12_dip_110 rfl (lv_at hlv 1 rfl) ?_
        refine va_get (D := D) (ci := 12) (v := .ref (ma 12)) (C := RX12) (T := TX12) (N := 38) hx hb hts hi12 hown hG.1 hP 2 rfl rfl 12 (by decide) lf29 (fun _ h9 => h9) rfl dX12_dip_111 ?_
        refine lv_sipush (v := 357) hx hb dX12_dip_114 (by decide) ?_
        refine lv_dup2_11 hx hb dX12_dip_117 rfl rfl ?_
        refine va_iald hx hb hG.1 hP 1 0 rfl rfl (vpd (by decide)) dX12_dip_118 ?_
        refine lt_i (y := 0) (by first | rfl | decide +kernel) ?_
        refine lv_iconst (v := 1) hx hb dX12_dip_119 (by decide) ?_
        refine lv_iadd hx hb dX12_dip_120 ?_
        refine lt_i (y := 1) (by decide) ?_
        refine va_iast hx hb hG.1 hP hD hS 1 0 rfl rfl (vpd (by decide)) dX12_dip_121 (fun H locs hP hD hS => ?_)
        have hP : va_P D vwCl [((ma 1), .inl (cy 0, 4, .inl (fun _ => 0))), ((ma 12), .inl (cy 0, 389, .inl (upd (upd (upd (upd sF 358 p0) 359 p1) 360 p2) 357 1))), (mo, .inr (12, [.int 0, .ref (ma 1), .int 0, .int 0, .int 0, .int 0, .int 0, .int 0, .int (-1), .ref (ma 9), .ref (ma 10), .ref (ma 11), .ref (ma 12), .ref (ma 13), .ref (ma 14), .ref (ma 15), .int 0, .int 0, .int 0, .ref (ma 19), .ref (ma 20), .ref (ma 21), .int 0, .ref (ma 23), .ref (ma 24), .ref (ma 25), .ref (ma 26), .ref (ma 27), .ref (ma 28), .int 0, .int 0, .int 0, .int 0, .ref (ma 33), .int (-1), .ref (ma 35), .int 0, .int 0]))] H := hP
        have hD : va_D A [((ma 1), .inl (cy 0, 4, .inl (fun _ => 0))), ((ma 12), .inl (cy 0, 389, .inl (upd (upd (upd (upd sF 358 p0) 359 p1) 360 p2) 357 1))), (mo, .inr (12, [.int 0, .ref (ma 1), .int 0, .int 0, .int 0, .int 0, .int 0, .int 0, .int (-1), .ref (ma 9), .ref (ma 10), .ref (ma 11), .ref (ma 12), .ref (ma 13), .ref (ma 14), .ref (ma 15), .int 0, .int 0, .int 0, .ref (ma 19), .ref (ma 20), .ref (ma 21), .int 0, .ref (ma 23), .ref (ma 24), .ref (ma 25), .ref (ma 26), .ref (ma 27), .ref (ma 28), .int 0, .int 0, .int 0, .int 0, .ref (ma 33), .int (-1), .ref (ma 35), .int 0, .int 0]))] := hD
        refine lv_aload_n hx hb dX12_dip_122 rfl (lv_at hlv 1 rfl) ?_
        refine va_get (D := D) (ci := 12) (v := .ref (ma 12)) (C := RX12) (T := TX12) (N := 38) hx hb hts hi12 hown hG.1 hP 2 rfl rfl 12 (by decide) lf29 (fun _ h9 => h9) rfl dX12_dip_123 ?_
        refine lv_sipush (v := 357) hx hb dX12_dip_126 (by decide) ?_
        refine va_iald hx hb hG.1 hP 1 0 rfl rfl (vpd (by decide)) dX12_dip_129 ?_
        refine lt_i (y := 1) (by first | rfl | decide +kernel) ?_
        refine W.widen (k := 0) (n := 0) (Nat.le_of_ble_eq_true rfl) (Nat.le_of_ble_eq_true rfl) ?_
        exact W.iret (v := 1) hx hb hr (fun t ht hW => ⟨⟨1, ((fun k => ([] : List Nat).getD k 0), (fun k => ([0] : List Int32).getD k 0), (fun k => ([] : List (Nat → Int32)).getD k (fun _ => 0))), rfl, (by first | (right; exact ⟨⟨hg1, hg2, hg3⟩, by rfl, by rfl⟩)), by rw [ht]; exact hP.sub [2] rfl, hD.sub [2] (by decide) rfl⟩, hS.F ht⟩) hS.2.2 dX12_dip_130
      · have hP : va_P D vwCl [(mo, .inr (12, [.int 0, .ref (ma 1), .int 0, .int 0, .int 0, .int 0, .int 0, .int 0, .int (-1), .ref (ma 9), .ref (ma 10), .ref (ma 11), .ref (ma 12), .ref (ma 13), .ref (ma 14), .ref (ma 15), .int 0, .int 0, .int 0, .ref (ma 19), .ref (ma 20), .ref (ma 21), .int 0, .ref (ma 23), .ref (ma 24), .ref (ma 25), .ref (ma 26), .ref (ma 27), .ref (ma 28), .int 0, .int 0, .int 0, .int 0, .ref (ma 33), .int (-1), .ref (ma 35), .int 0, .int 0])), ((ma 1), .inl (cy 0, 4, .inl (fun _ => 0))), ((ma 12), .inl (cy 0, 389, .inl sF))] H := hP
        have hD : va_D A [(mo, .inr (12, [.int 0, .ref (ma 1), .int 0, .int 0, .int 0, .int 0, .int 0, .int 0, .int (-1), .ref (ma 9), .ref (ma 10), .ref (ma 11), .ref (ma 12), .ref (ma 13), .ref (ma 14), .ref (ma 15), .int 0, .int 0, .int 0, .ref (ma 19), .ref (ma 20), .ref (ma 21), .int 0, .ref (ma 23), .ref (ma 24), .ref (ma 25), .ref (ma 26), .ref (ma 27), .ref (ma 28), .int 0, .int 0, .int 0, .int 0, .ref (ma 33), .int (-1), .ref (ma 35), .int 0, .int 0])), ((ma 1), .inl (cy 0, 4, .inl (fun _ => 0))), ((ma 12), .inl (cy 0, 389, .inl sF))] := hD
        refine lv_if_eq (tgt := 40) hx hb dX12_dip_33 (by decide) (fun _ => ?_) (fun c => absurd (by decide) c)
        refine lv_iconst (v := 0) hx hb dX12_dip_40 (by decide) ?_
        refine lv_iconst (v := 1) hx hb dX12_dip_41 (by decide) ?_
        refine lv_iconst (v := 2) hx hb dX12_dip_42 (by decide) ?_
        refine cj_i (wr := [((ma 12), .inl (cy 0, 389, .inl sF))]) (va_runV (As := [.int 0, .int 1, .int 2]) (rest := []) ⟨hx, hb, hml, hown, hts⟩ (c_may0_2 l hl D cy sa mo ma 1 H.size (by decide)) (cwV 3 hts gg_3 rfl rfl rfl (by decide +kernel) ⟨Nat.le_of_ble_eq_true rfl, Nat.le_of_ble_eq_true rfl⟩) ⟨pcW.blind, (va_recv hG.1 hP (ci := 12) (q0 := 0) rfl rfl), (pcW.mk hP hD hS hA hG hT [0, 1] rfl (by decide))⟩ rfl rfl hlv.1 rfl (lv_room (Nat.le_of_ble_eq_true rfl)) dX12_dip_43 ⟨Nat.le_of_ble_eq_true rfl, Nat.le_of_ble_eq_true rfl⟩) hP hD hS hA [0, 1] [2] rfl rfl (by decide) (by decide) (fun r5 u5 H locs hw5 hP hD hS => ?_)
        obtain rfl := hw5
        have hP : va_P D vwCl [((ma 12), .inl (cy 0, 389, .inl sF)), (mo, .inr (12, [.int 1, .ref (ma 1), .int 0, .int 0, .int 0, .int 0, .int 0, .int 0, .int (-1), .ref (ma 9), .ref (ma 10), .ref (ma 11), .ref (ma 12), .ref (ma 13), .ref (ma 14), .ref (ma 15), .int 0, .int 0, .int 0, .ref (ma 19), .ref (ma 20), .ref (ma 21), .int 0, .ref (ma 23), .ref (ma 24), .ref (ma 25), .ref (ma 26), .ref (ma 27), .ref (ma 28), .int 0, .int 0, .int 0, .int 0, .ref (ma 33), .int (-1), .ref (ma 35), .int 0, .int 0]))] H := hP
        have hD : va_D A [((ma 12), .inl (cy 0, 389, .inl sF)), (mo, .inr (12, [.int 1, .ref (ma 1), .int 0, .int 0, .int 0, .int 0, .int 0, .int 0, .int (-1), .ref (ma 9), .ref (ma 10), .ref (ma 11), .ref (ma 12), .ref (ma 13), .ref (ma 14), .ref (ma 15), .int 0, .int 0, .int 0, .ref (ma 19), .ref (ma 20), .ref (ma 21), .int 0, .ref (ma 23), .ref (ma 24), .ref (ma 25), .ref (ma 26), .ref (ma 27), .ref (ma 28), .int 0, .int 0, .int 0, .int 0, .ref (ma 33), .int (-1), .ref (ma 35), .int 0, .int 0]))] := hD
        refine lv_if_ne (tgt := 51) hx hb dX12_dip_46 (by decide) (fun c => absurd (by decide) c) (fun _ => ?_)
        refine lv_iconst (v := 0) hx hb dX12_dip_49 (by decide) ?_
        refine W.widen (k := 0) (n := 0) (Nat.le_of_ble_eq_true rfl) (Nat.le_of_ble_eq_true rfl) ?_
        exact W.iret (v := 0) hx hb hr (fun t ht hW => ⟨⟨0, ((fun k => ([] : List Nat).getD k 0), (fun k => ([1] : List Int32).getD k 0), (fun k => ([] : List (Nat → Int32)).getD k (fun _ => 0))), rfl, (by first | (left; exact ⟨(fun q => absurd q.2.2 hg3), by rfl, by rfl⟩)), by rw [ht]; exact hP.sub [1] rfl, hD.sub [1] (by decide) rfl⟩, hS.F ht⟩) hS.2.2 dX12_dip_50
    · have hP : va_P D vwCl [(mo, .inr (12, [.int 0, .ref (ma 1), .int 0, .int 0, .int 0, .int 0, .int 0, .int 0, .int (-1), .ref (ma 9), .ref (ma 10), .ref (ma 11), .ref (ma 12), .ref (ma 13), .ref (ma 14), .ref (ma 15), .int 0, .int 0, .int 0, .ref (ma 19), .ref (ma 20), .ref (ma 21), .int 0, .ref (ma 23), .ref (ma 24), .ref (ma 25), .ref (ma 26), .ref (ma 27), .ref (ma 28), .int 0, .int 0, .int 0, .int 0, .ref (ma 33), .int (-1), .ref (ma 35), .int 0, .int 0])), ((ma 1), .inl (cy 0, 4, .inl (fun _ => 0))), ((ma 12), .inl (cy 0, 389, .inl sF))] H := hP
      have hD : va_D A [(mo, .inr (12, [.int 0, .ref (ma 1), .int 0, .int 0, .int 0, .int 0, .int 0, .int 0, .int (-1), .ref (ma 9), .ref (ma 10), .ref (ma 11), .ref (ma 12), .ref (ma 13), .ref (ma 14), .ref (ma 15), .int 0, .int 0, .int 0, .ref (ma 19), .ref (ma 20), .ref (ma 21), .int 0, .ref (ma 23), .ref (ma 24), .ref (ma 25), .ref (ma 26), .ref (ma 27), .ref (ma 28), .int 0, .int 0, .int 0, .int 0, .ref (ma 33), .int (-1), .ref (ma 35), .int 0, .int 0])), ((ma 1), .inl (cy 0, 4, .inl (fun _ => 0))), ((ma 12), .inl (cy 0, 389, .inl sF))] := hD
      refine lv_if_eq (tgt := 40) hx hb dX12_dip_23 (by decide) (fun _ => ?_) (fun c => absurd (by decide) c)
      refine lv_iconst (v := 0) hx hb dX12_dip_40 (by decide) ?_
      refine lv_iconst (v := 1) hx hb dX12_dip_41 (by decide) ?_
      refine lv_iconst (v := 2) hx hb dX12_dip_42 (by decide) ?_
      refine cj_i (wr := [((ma 12), .inl (cy 0, 389, .inl sF))]) (va_runV (As := [.int 0, .int 1, .int 2]) (rest := []) ⟨hx, hb, hml, hown, hts⟩ (c_may0_2 l hl D cy sa mo ma 1 H.size (by decide)) (cwV 3 hts gg_3 rfl rfl rfl (by decide +kernel) ⟨Nat.le_of_ble_eq_true rfl, Nat.le_of_ble_eq_true rfl⟩) ⟨pcW.blind, (va_recv hG.1 hP (ci := 12) (q0 := 0) rfl rfl), (pcW.mk hP hD hS hA hG hT [0, 1] rfl (by decide))⟩ rfl rfl hlv.1 rfl (lv_room (Nat.le_of_ble_eq_true rfl)) dX12_dip_43 ⟨Nat.le_of_ble_eq_true rfl, Nat.le_of_ble_eq_true rfl⟩) hP hD hS hA [0, 1] [2] rfl rfl (by decide) (by decide) (fun r6 u6 H locs hw6 hP hD hS => ?_)
      obtain rfl := hw6
      have hP : va_P D vwCl [((ma 12), .inl (cy 0, 389, .inl sF)), (mo, .inr (12, [.int 1, .ref (ma 1), .int 0, .int 0, .int 0, .int 0, .int 0, .int 0, .int (-1), .ref (ma 9), .ref (ma 10), .ref (ma 11), .ref (ma 12), .ref (ma 13), .ref (ma 14), .ref (ma 15), .int 0, .int 0, .int 0, .ref (ma 19), .ref (ma 20), .ref (ma 21), .int 0, .ref (ma 23), .ref (ma 24), .ref (ma 25), .ref (ma 26), .ref (ma 27), .ref (ma 28), .int 0, .int 0, .int 0, .int 0, .ref (ma 33), .int (-1), .ref (ma 35), .int 0, .int 0]))] H := hP
      have hD : va_D A [((ma 12), .inl (cy 0, 389, .inl sF)), (mo, .inr (12, [.int 1, .ref (ma 1), .int 0, .int 0, .int 0, .int 0, .int 0, .int 0, .int (-1), .ref (ma 9), .ref (ma 10), .ref (ma 11), .ref (ma 12), .ref (ma 13), .ref (ma 14), .ref (ma 15), .int 0, .int 0, .int 0, .ref (ma 19), .ref (ma 20), .ref (ma 21), .int 0, .ref (ma 23), .ref (ma 24), .ref (ma 25), .ref (ma 26), .ref (ma 27), .ref (ma 28), .int 0, .int 0, .int 0, .int 0, .ref (ma 33), .int (-1), .ref (ma 35), .int 0, .int 0]))] := hD
      refine lv_if_ne (tgt := 51) hx hb dX12_dip_46 (by decide) (fun c => absurd (by decide) c) (fun _ => ?_)
      refine lv_iconst (v := 0) hx hb dX12_dip_49 (by decide) ?_
      refine W.widen (k := 0) (n := 0) (Nat.le_of_ble_eq_true rfl) (Nat.le_of_ble_eq_true rfl) ?_
      exact W.iret (v := 0) hx hb hr (fun t ht hW => ⟨⟨0, ((fun k => ([] : List Nat).getD k 0), (fun k => ([1] : List Int32).getD k 0), (fun k => ([] : List (Nat → Int32)).getD k (fun _ => 0))), rfl, (by first | (left; exact ⟨(fun q => absurd q.2.1 hg2), by rfl, by rfl⟩)), by rw [ht]; exact hP.sub [1] rfl, hD.sub [1] (by decide) rfl⟩, hS.F ht⟩) hS.2.2 dX12_dip_50
  · have hP : va_P D vwCl [(mo, .inr (12, [.int 0, .ref (ma 1), .int 0, .int 0, .int 0, .int 0, .int 0, .int 0, .int (-1), .ref (ma 9), .ref (ma 10), .ref (ma 11), .ref (ma 12), .ref (ma 13), .ref (ma 14), .ref (ma 15), .int 0, .int 0, .int 0, .ref (ma 19), .ref (ma 20), .ref (ma 21), .int 0, .ref (ma 23), .ref (ma 24), .ref (ma 25), .ref (ma 26), .ref (ma 27), .ref (ma 28), .int 0, .int 0, .int 0, .int 0, .ref (ma 33), .int (-1), .ref (ma 35), .int 0, .int 0])), ((ma 1), .inl (cy 0, 4, .inl (fun _ => 0))), ((ma 12), .inl (cy 0, 389, .inl sF))] H := hP
    have hD : va_D A [(mo, .inr (12, [.int 0, .ref (ma 1), .int 0, .int 0, .int 0, .int 0, .int 0, .int 0, .int (-1), .ref (ma 9), .ref (ma 10), .ref (ma 11), .ref (ma 12), .ref (ma 13), .ref (ma 14), .ref (ma 15), .int 0, .int 0, .int 0, .ref (ma 19), .ref (ma 20), .ref (ma 21), .int 0, .ref (ma 23), .ref (ma 24), .ref (ma 25), .ref (ma 26), .ref (ma 27), .ref (ma 28), .int 0, .int 0, .int 0, .int 0, .ref (ma 33), .int (-1), .ref (ma 35), .int 0, .int 0])), ((ma 1), .inl (cy 0, 4, .inl (fun _ => 0))), ((ma 12), .inl (cy 0, 389, .inl sF))] := hD
    refine lv_if_eq (tgt := 40) hx hb dX12_dip_13 (by decide) (fun _ => ?_) (fun c => absurd (by decide) c)
    refine lv_iconst (v := 0) hx hb dX12_dip_40 (by decide) ?_
    refine lv_iconst (v := 1) hx hb dX12_dip_41 (by decide) ?_
    refine lv_iconst (v := 2) hx hb dX12_dip_42 (by decide) ?_
    refine cj_i (wr := [((ma 12), .inl (cy 0, 389, .inl sF))]) (va_runV (As := [.int 0, .int 1, .int 2]) (rest := []) ⟨hx, hb, hml, hown, hts⟩ (c_may0_2 l hl D cy sa mo ma 1 H.size (by decide)) (cwV 3 hts gg_3 rfl rfl rfl (by decide +kernel) ⟨Nat.le_of_ble_eq_true rfl, Nat.le_of_ble_eq_true rfl⟩) ⟨pcW.blind, (va_recv hG.1 hP (ci := 12) (q0 := 0) rfl rfl), (pcW.mk hP hD hS hA hG hT [0, 1] rfl (by decide))⟩ rfl rfl hlv.1 rfl (lv_room (Nat.le_of_ble_eq_true rfl)) dX12_dip_43 ⟨Nat.le_of_ble_eq_true rfl, Nat.le_of_ble_eq_true rfl⟩) hP hD hS hA [0, 1] [2] rfl rfl (by decide) (by decide) (fun r7 u7 H locs hw7 hP hD hS => ?_)
    obtain rfl := hw7
    have hP : va_P D vwCl [((ma 12), .inl (cy 0, 389, .inl sF)), (mo, .inr (12, [.int 1, .ref (ma 1), .int 0, .int 0, .int 0, .int 0, .int 0, .int 0, .int (-1), .ref (ma 9), .ref (ma 10), .ref (ma 11), .ref (ma 12), .ref (ma 13), .ref (ma 14), .ref (ma 15), .int 0, .int 0, .int 0, .ref (ma 19), .ref (ma 20), .ref (ma 21), .int 0, .ref (ma 23), .ref (ma 24), .ref (ma 25), .ref (ma 26), .ref (ma 27), .ref (ma 28), .int 0, .int 0, .int 0, .int 0, .ref (ma 33), .int (-1), .ref (ma 35), .int 0, .int 0]))] H := hP
    have hD : va_D A [((ma 12), .inl (cy 0, 389, .inl sF)), (mo, .inr (12, [.int 1, .ref (ma 1), .int 0, .int 0, .int 0, .int 0, .int 0, .int 0, .int (-1), .ref (ma 9), .ref (ma 10), .ref (ma 11), .ref (ma 12), .ref (ma 13), .ref (ma 14), .ref (ma 15), .int 0, .int 0, .int 0, .ref (ma 19), .ref (ma 20), .ref (ma 21), .int 0, .ref (ma 23), .ref (ma 24), .ref (ma 25), .ref (ma 26), .ref (ma 27), .ref (ma 28), .int 0, .int 0, .int 0, .int 0, .ref (ma 33), .int (-1), .ref (ma 35), .int 0, .int 0]))] := hD
    refine lv_if_ne (tgt := 51) hx hb dX12_dip_46 (by decide) (fun c => absurd (by decide) c) (fun _ => ?_)
    refine lv_iconst (v := 0) hx hb dX12_dip_49 (by decide) ?_
    refine W.widen (k := 0) (n := 0) (Nat.le_of_ble_eq_true rfl) (Nat.le_of_ble_eq_true rfl) ?_
    exact W.iret (v := 0) hx hb hr (fun t ht hW => ⟨⟨0, ((fun k => ([] : List Nat).getD k 0), (fun k => ([1] : List Int32).getD k 0), (fun k => ([] : List (Nat → Int32)).getD k (fun _ => 0))), rfl, (by first | (left; exact ⟨(fun q => absurd q.1 hg1), by rfl, by rfl⟩)), by rw [ht]; exact hP.sub [1] rfl, hD.sub [1] (by decide) rfl⟩, hS.F ht⟩) hS.2.2 dX12_dip_50
def vs_m_feed : List Cond := .code yX12_feed cX12_feed 8 (some .int) :: (([.fieldLink RX12 1 "KerbSplashModel" "thrown" "I", .fieldLink RX12 77 "KerbSplashModel" "taped" "I", .fieldLink RX12 20 "KerbSplashModel" "tape" "[I"] : List Cond) ++ ((wsX120) ++ ([])))
set_option maxHeartbeats 4000000 in
set_option maxRecDepth 100000 in
theorem m_feed (l : Launch) (hl : l.stackTraces = false) (D : va_G) (cy : Nat → ClassId) (sa : Nat → Nat) (mo : Nat) (ma : Nat → Nat) (p0 p1 p2 p3 p4 : Int32) (f0 : Nat → Int32) (sz : Nat) : Met l yX12_feed vs_m_feed ({ frames := 0, cells := 0, slots := 0, locals := 0 }) (va_Pc [.ref mo, .int p0, .int p1, .int p2, .int p3, .int p4] (pcW D cy sa sz [(mo, .inr (12, [.int 0, .ref (ma 1), .int 0, .int 0, .int 0, .int 0, .int 0, .int 0, .int (-1), .ref (ma 9), .ref (ma 10), .ref (ma 11), .ref (ma 12), .ref (ma 13), .ref (ma 14), .ref (ma 15), .int 0, .int 0, .int 0, .ref (ma 19), .ref (ma 20), .ref (ma 21), .int 0, .ref (ma 23), .ref (ma 24), .ref (ma 25), .ref (ma 26), .ref (ma 27), .ref (ma 28), .int 0, .int 0, .int 0, .int 0, .ref (ma 33), .int (-1), .ref (ma 35), .int 0, .int 0])), ((ma 9), .inl (cy 0, 600, .inl f0))])) (va_Qi (fun (r : Int32) (u : SU) => (r = 20)) (fun u t => atW D (va_A [(mo, .inr (12, [.int 0, .ref (ma 1), .int 0, .int 0, .int 0, .int 0, .int 0, .int 0, .int (-1), .ref (ma 9), .ref (ma 10), .ref (ma 11), .ref (ma 12), .ref (ma 13), .ref (ma 14), .ref (ma 15), .int 0, .int 0, .int 0, .ref (ma 19), .ref (ma 20), .ref (ma 21), .int 0, .ref (ma 23), .ref (ma 24), .ref (ma 25), .ref (ma 26), .ref (ma 27), .ref (ma 28), .int 0, .int 0, .int 0, .int 0, .ref (ma 33), .int (-1), .ref (ma 35), .int 0, .int 0])), ((ma 9), .inl (cy 0, 600, .inl f0))] sz) [] t) (va_A [(mo, .inr (12, [.int 0, .ref (ma 1), .int 0, .int 0, .int 0, .int 0, .int 0, .int 0, .int (-1), .ref (ma 9), .ref (ma 10), .ref (ma 11), .ref (ma 12), .ref (ma 13), .ref (ma 14), .ref (ma 15), .int 0, .int 0, .int 0, .ref (ma 19), .ref (ma 20), .ref (ma 21), .int 0, .ref (ma 23), .ref (ma 24), .ref (ma 25), .ref (ma 26), .ref (ma 27), .ref (ma 28), .int 0, .int 0, .int 0, .int 0, .ref (ma 33), .int (-1), .ref (ma 35), .int 0, .int 0])), ((ma 9), .inl (cy 0, 600, .inl f0))] sz)) 0 0 (va_A [(mo, .inr (12, [.int 0, .ref (ma 1), .int 0, .int 0, .int 0, .int 0, .int 0, .int 0, .int (-1), .ref (ma 9), .ref (ma 10), .ref (ma 11), .ref (ma 12), .ref (ma 13), .ref (ma 14), .ref (ma 15), .int 0, .int 0, .int 0, .ref (ma 19), .ref (ma 20), .ref (ma 21), .int 0, .ref (ma 23), .ref (ma 24), .ref (ma 25), .ref (ma 26), .ref (ma 27), .ref (ma 28), .int 0, .int 0, .int 0, .int 0, .ref (ma 33), .int (-1), .ref (ma 35), .int 0, .int 0])), ((ma 9), .inl (cy 0, 600, .inl f0))] sz) := by
  refine Met.ofW (cc := cX12_feed) (maxL := 8) (ret := (some .int)) (by decide) rfl ?_
  intro p e s m args below meth c s₁ B hml hv
  obtain ⟨rfl, hsz, hP, hG, hD0, hT⟩ := hv
  have hx := B.exec
  have hb := B.bytes
  have hr := B.returns
  have hts := atoms_spec (ws := vs_m_feed) B.pre
  have hown : s.vm.findClass RX12 = some m.cls := findClass_of_methodNamed B.named
  have hlocks := B.notSynchronized
  subst hsz
  have hD := hD0.self (sz := s.heap.size)
  generalize hAe : va_A [(mo, .inr (12, [.int 0, .ref (ma 1), .int 0, .int 0, .int 0, .int 0, .int 0, .int 0, .int (-1), .ref (ma 9), .ref (ma 10), .ref (ma 11), .ref (ma 12), .ref (ma 13), .ref (ma 14), .ref (ma 15), .int 0, .int 0, .int 0, .ref (ma 19), .ref (ma 20), .ref (ma 21), .int 0, .ref (ma 23), .ref (ma 24), .ref (ma 25), .ref (ma 26), .ref (ma 27), .ref (ma 28), .int 0, .int 0, .int 0, .int 0, .ref (ma 33), .int (-1), .ref (ma 35), .int 0, .int 0])), ((ma 9), .inl (cy 0, 600, .inl f0))] s.heap.size = A at hD hT ⊢
  have hA : ∀ q : Nat, s.heap.size ≤ q → A q := fun q h => by rw [← hAe]; exact Or.inr h
  have hS : va_S A s.heap s.heap [] := va_S.rf
  have hl0 := lv_entry ([.ref mo, .int p0, .int p1, .int p2, .int p3, .int p4]) (n := 8) (Nat.le_of_ble_eq_true rfl)
  rw [lg_entry_eq]
  generalize (lg_sl ([.ref mo, .int p0, .int p1, .int p2, .int p3, .int p4]) ++ List.replicate (8 - (lg_sl ([.ref mo, .int p0, .int p1, .int p2, .int p3, .int p4])).length) Slot.unset).toArray = ls at hl0 ⊢
  have hlv : lv_has ls 8 [(0, .ref mo), (1, .int p0), (2, .int p1), (3, .int p2), (4, .int p3), (5, .int p4)] := hl0
  have lf1 := hts (.fieldLink RX12 1 "KerbSplashModel" "thrown" "I") (List.mem_of_getElem? (i := 1) rfl)
  have hi12 : ∀ w ∈ wsX120, w ∈ vs_m_feed := fun w h => List.mem_cons_of_mem _ (List.mem_append_right _ (List.mem_append_left _ h))
  have lf77 := hts (.fieldLink RX12 77 "KerbSplashModel" "taped" "I") (List.mem_of_getElem? (i := 2) rfl)
  have lf20 := hts (.fieldLink RX12 20 "KerbSplashModel" "tape" "[I") (List.mem_of_getElem? (i := 3) rfl)
  refine lv_aload_n hx hb dX12_feed_0 rfl (lv_at hlv 0 rfl) ?_
  refine lv_iconst (v := 0) hx hb dX12_feed_1 (by decide) ?_
  refine va_put (D := D) (ci := 12) (v := .int 0) (ty := .int) (C := RX12) (T := TX12) (N := 38) hx hb hts hi12 tyX12 tyX12_ok nmX12 hown hG.1 hP hD hS 0 rfl rfl 0 (by decide) lf1 (fun _ h9 => h9) rfl (by decide +kernel) rfl rfl (Nat.le_of_ble_eq_true rfl) dX12_feed_2 (fun H locs hP hD hS => ?_)
  have hP : va_P D vwCl [(mo, .inr (12, [.int 0, .ref (ma 1), .int 0, .int 0, .int 0, .int 0, .int 0, .int 0, .int (-1), .ref (ma 9), .ref (ma 10), .ref (ma 11), .ref (ma 12), .ref (ma 13), .ref (ma 14), .ref (ma 15), .int 0, .int 0, .int 0, .ref (ma 19), .ref (ma 20), .ref (ma 21), .int 0, .ref (ma 23), .ref (ma 24), .ref (ma 25), .ref (ma 26), .ref (ma 27), .ref (ma 28), .int 0, .int 0, .int 0, .int 0, .ref (ma 33), .int (-1), .ref (ma 35), .int 0, .int 0])), ((ma 9), .inl (cy 0, 600, .inl f0))] H := hP
  have hD : va_D A [(mo, .inr (12, [.int 0, .ref (ma 1), .int 0, .int 0, .int 0, .int 0, .int 0, .int 0, .int (-1), .ref (ma 9), .ref (ma 10), .ref (ma 11), .ref (ma 12), .ref (ma 13), .ref (ma 14), .ref (ma 15), .int 0, .int 0, .int 0, .ref (ma 19), .ref (ma 20), .ref (ma 21), .int 0, .ref (ma 23), .ref (ma 24), .ref (ma 25), .ref (ma 26), .ref (ma 27), .ref (ma 28), .int 0, .int 0, .int 0, .int 0, .ref (ma 33), .int (-1), .ref (ma 35), .int 0, .int 0])), ((ma 9), .inl (cy 0, 600, .inl f0))] := hD
  refine lv_aload_n hx hb dX12_feed_5 rfl (lv_at hlv 0 rfl) ?_
  refine va_get (D := D) (ci := 12) (v := .int 0) (C := RX12) (T := TX12) (N := 38) hx hb hts hi12 hown hG.1 hP 0 rfl rfl 2 (by decide) lf77 (fun _ h9 => h9) rfl dX12_feed_6 ?_
  refine lv_bipush (v := 20) hx hb dX12_feed_9 (by decide) ?_
  refine lv_iadd hx hb dX12_feed_11 ?_
  refine lt_i (y := 20) (by decide) ?_
  refine lv_sipush (v := 600) hx hb dX12_feed_12 (by decide) ?_
  refine lv_icmp_le (tgt := 20) hx hb dX12_feed_15 (by decide) (fun _ => ?_) (fun c => absurd (by decide) c)
  refine lv_iconst (v := 0) hx hb dX12_feed_20 (by decide) ?_
  refine lv_istore (lv' := [(6, .int 0), (0, .ref mo), (1, .int p0), (2, .int p1), (3, .int p2), (4, .int p3), (5, .int p4)]) hx hb dX12_feed_21 hlv (by decide) rfl (fun ls hlv => ?_)
  refine lv_iload hx hb dX12_feed_23 (lv_at hlv 0 rfl) ?_
  refine lv_bipush (v := 20) hx hb dX12_feed_25 (by decide) ?_
  refine lv_icmp_ge (tgt := 120) hx hb dX12_feed_27 (by decide) (fun c => absurd c (by decide)) (fun _ => ?_)
  refine lv_iload hx hb dX12_feed_30 (lv_at hlv 0 rfl) ?_
  refine lv_iconst (v := 4) hx hb dX12_feed_32 (by decide) ?_
  refine lv_icmp_ge (tgt := 40) hx hb dX12_feed_33 (by decide) (fun c => absurd c (by decide)) (fun _ => ?_)
  refine lv_iload_n hx hb dX12_feed_36 rfl (lv_at hlv 2 rfl) ?_
  refine lv_goto (tgt := 76) hx hb dX12_feed_37 (by decide) ?_
  refine lv_istore (lv' := [(7, .int p0), (6, .int 0), (0, .ref mo), (1, .int p0), (2, .int p1), (3, .int p2), (4, .int p3), (5, .int p4)]) hx hb dX12_feed_76 hlv (by decide) rfl (fun ls hlv => ?_)
  refine lv_aload_n hx hb dX12_feed_78 rfl (lv_at hlv 2 rfl) ?_
  refine va_get (D := D) (ci := 12) (v := .ref (ma 9)) (C := RX12) (T := TX12) (N := 38) hx hb hts hi12 hown hG.1 hP 0 rfl rfl 9 (by decide) lf20 (fun _ h9 => h9) rfl dX12_feed_79 ?_
  refine lv_aload_n hx hb dX12_feed_82 rfl (lv_at hlv 2 rfl) ?_
  refine va_get (D := D) (ci := 12) (v := .int 0) (C := RX12) (T := TX12) (N := 38) hx hb hts hi12 hown hG.1 hP 0 rfl rfl 2 (by decide) lf77 (fun _ h9 => h9) rfl dX12_feed_83 ?_
  refine lv_iload hx hb dX12_feed_86 (lv_at hlv 0 rfl) ?_
  refine lv_bipush (v := 24) hx hb dX12_feed_88 (by decide) ?_
  refine lv_bipush (v := 8) hx hb dX12_feed_90 (by decide) ?_
  refine lv_iload hx hb dX12_feed_92 (lv_at hlv 1 rfl) ?_
  refine lv_iconst (v := 4) hx hb dX12_feed_94 (by decide) ?_
  refine lv_irem hx hb dX12_feed_95 (by decide) ?_
  refine lt_i (y := 0) (by decide) ?_
  refine lv_imul hx hb dX12_feed_96 ?_
  refine lt_i (y := 0) (by decide) ?_
  refine lv_isub hx hb dX12_feed_97 ?_
  refine lt_i (y := 24) (by decide) ?_
  refine lv_ishr hx hb dX12_feed_98 ?_
  refine lv_topi (fun z_1 ez_1 => ?_)
  refine lv_sipush (v := 255) hx hb dX12_feed_99 (by decide) ?_
  refine lv_iand hx hb dX12_feed_102 ?_
  refine va_iast hx hb hG.1 hP hD hS 1 0 rfl rfl (vpd (by decide)) dX12_feed_103 (fun H locs hP hD hS => ?_)
  have ⟨f_2, hP, hD⟩ : ∃ f_2 : Nat → Int32, va_P D vwCl [(mo, .inr (12, [.int 0, .ref (ma 1), .int 0, .int 0, .int 0, .int 0, .int 0, .int 0, .int (-1), .ref (ma 9), .ref (ma 10), .ref (ma 11), .ref (ma 12), .ref (ma 13), .ref (ma 14), .ref (ma 15), .int 0, .int 0, .int 0, .ref (ma 19), .ref (ma 20), .ref (ma 21), .int 0, .ref (ma 23), .ref (ma 24), .ref (ma 25), .ref (ma 26), .ref (ma 27), .ref (ma 28), .int 0, .int 0, .int 0, .int 0, .ref (ma 33), .int (-1), .ref (ma 35), .int 0, .int 0])), ((ma 9), .inl (cy 0, 600, .inl f_2))] H ∧ va_D A [(mo, .inr (12, [.int 0, .ref (ma 1), .int 0, .int 0, .int 0, .int 0, .int 0, .int 0, .int (-1), .ref (ma 9), .ref (ma 10), .ref (ma 11), .ref (ma 12), .ref (ma 13), .ref (ma 14), .ref (ma 15), .int 0, .int 0, .int 0, .ref (ma 19), .ref (ma 20), .ref (ma 21), .int 0, .ref (ma 23), .ref (ma 24), .ref (ma 25), .ref (ma 26), .ref (ma 27), .ref (ma 28), .int 0, .int 0, .int 0, .int 0, .ref (ma 33), .int (-1), .ref (ma 35), .int 0, .int 0])), ((ma 9), .inl (cy 0, 600, .inl f_2))] := ⟨_, hP, hD⟩
  refine lv_aload_n hx hb dX12_feed_104 rfl (lv_at hlv 2 rfl) ?_
  refine lv_dup hx hb dX12_feed_105 rfl ?_
  refine va_get (D := D) (ci := 12) (v := .int 0) (C := RX12) (T := TX12) (N := 38) hx hb hts hi12 hown hG.1 hP 0 rfl rfl 2 (by decide) lf77 (fun _ h9 => h9) rfl dX12_feed_106 ?_
  refine lv_iconst (v := 1) hx hb dX12_feed_109 (by decide) ?_
  refine lv_iadd hx hb dX12_feed_110 ?_
  refine lt_i (y := 1) (by decide) ?_
  refine va_put (D := D) (ci := 12) (v := .int 1) (ty := .int) (C := RX12) (T := TX12) (N := 38) hx hb hts hi12 tyX12 tyX12_ok nmX12 hown hG.1 hP hD hS 0 rfl rfl 2 (by decide) lf77 (fun _ h9 => h9) rfl (by decide +kernel) rfl rfl (Nat.le_of_ble_eq_true rfl) dX12_feed_111 (fun H locs hP hD hS => ?_)
  have hP : va_P D vwCl [(mo, .inr (12, [.int 0, .ref (ma 1), .int 1, .int 0, .int 0, .int 0, .int 0, .int 0, .int (-1), .ref (ma 9), .ref (ma 10), .ref (ma 11), .ref (ma 12), .ref (ma 13), .ref (ma 14), .ref (ma 15), .int 0, .int 0, .int 0, .ref (ma 19), .ref (ma 20), .ref (ma 21), .int 0, .ref (ma 23), .ref (ma 24), .ref (ma 25), .ref (ma 26), .ref (ma 27), .ref (ma 28), .int 0, .int 0, .int 0, .int 0, .ref (ma 33), .int (-1), .ref (ma 35), .int 0, .int 0])), ((ma 9), .inl (cy 0, 600, .inl f_2))] H := hP
  have hD : va_D A [(mo, .inr (12, [.int 0, .ref (ma 1), .int 1, .int 0, .int 0, .int 0, .int 0, .int 0, .int (-1), .ref (ma 9), .ref (ma 10), .ref (ma 11), .ref (ma 12), .ref (ma 13), .ref (ma 14), .ref (ma 15), .int 0, .int 0, .int 0, .ref (ma 19), .ref (ma 20), .ref (ma 21), .int 0, .ref (ma 23), .ref (ma 24), .ref (ma 25), .ref (ma 26), .ref (ma 27), .ref (ma 28), .int 0, .int 0, .int 0, .int 0, .ref (ma 33), .int (-1), .ref (ma 35), .int 0, .int 0])), ((ma 9), .inl (cy 0, 600, .inl f_2))] := hD
  refine lv_iinc (v := 1) (lv' := [(6, .int 1), (7, .int p0), (0, .ref mo), (1, .int p0), (2, .int p1), (3, .int p2), (4, .int p3), (5, .int p4)]) hx hb dX12_feed_114 hlv (k := 1) rfl (by decide) (by decide) rfl (fun ls hlv => ?_)
  refine lv_goto (tgt := 23) hx hb dX12_feed_117 (by decide) ?_
  refine lv_iload hx hb dX12_feed_23 (lv_at hlv 0 rfl) ?_
  refine lv_bipush (v := 20) hx hb dX12_feed_25 (by decide) ?_
  refine lv_icmp_ge (tgt := 120) hx hb dX12_feed_27 (by decide) (fun c => absurd c (by decide)) (fun _ => ?_)
  refine lv_iload hx hb dX12_feed_30 (lv_at hlv 0 rfl) ?_
  refine lv_iconst (v := 4) hx hb dX12_feed_32 (by decide) ?_
  refine lv_icmp_ge (tgt := 40) hx hb dX12_feed_33 (by decide) (fun c => absurd c (by decide)) (fun _ => ?_)
  refine lv_iload_n hx hb dX12_feed_36 rfl (lv_at hlv 3 rfl) ?_
  refine lv_goto (tgt := 76) hx hb dX12_feed_37 (by decide) ?_
  refine lv_istore (lv' := [(7, .int p0), (6, .int 1), (0, .ref mo), (1, .int p0), (2, .int p1), (3, .int p2), (4, .int p3), (5, .int p4)]) hx hb dX12_feed_76 hlv (by decide) rfl (fun ls hlv => ?_)
  refine lv_aload_n hx hb dX12_feed_78 rfl (lv_at hlv 2 rfl) ?_
  refine va_get (D := D) (ci := 12) (v := .ref (ma 9)) (C := RX12) (T := TX12) (N := 38) hx hb hts hi12 hown hG.1 hP 0 rfl rfl 9 (by decide) lf20 (fun _ h9 => h9) rfl dX12_feed_79 ?_
  refine lv_aload_n hx hb dX12_feed_82 rfl (lv_at hlv 2 rfl) ?_
  refine va_get (D := D) (ci := 12) (v := .int 1) (C := RX12) (T := TX12) (N := 38) hx hb hts hi12 hown hG.1 hP 0 rfl rfl 2 (by decide) lf77 (fun _ h9 => h9) rfl dX12_feed_83 ?_
  refine lv_iload hx hb dX12_feed_86 (lv_at hlv 0 rfl) ?_
  refine lv_bipush (v := 24) hx hb dX12_feed_88 (by decide) ?_
  refine lv_bipush (v := 8) hx hb dX12_feed_90 (by decide) ?_
  refine lv_iload hx hb dX12_feed_92 (lv_at hlv 1 rfl) ?_
  refine lv_iconst (v := 4) hx hb dX12_feed_94 (by decide) ?_
  refine lv_irem hx hb dX12_feed_95 (by decide) ?_
  refine lt_i (y := 1) (by decide) ?_
  refine lv_imul hx hb dX12_feed_96 ?_
  refine lt_i (y := 8) (by decide) ?_
  refine lv_isub hx hb dX12_feed_97 ?_
  refine lt_i (y := 16) (by decide) ?_
  refine lv_ishr hx hb dX12_feed_98 ?_
  refine lv_topi (fun z_3 ez_3 => ?_)
  refine lv_sipush (v := 255) hx hb dX12_feed_99 (by decide) ?_
  refine lv_iand hx hb dX12_feed_102 ?_
  refine va_iast hx hb hG.1 hP hD hS 1 0 rfl rfl (vpd (by decide)) dX12_feed_103 (fun H locs hP hD hS => ?_)
  have ⟨f_4, hP, hD⟩ : ∃ f_4 : Nat → Int32, va_P D vwCl [(mo, .inr (12, [.int 0, .ref (ma 1), .int 1, .int 0, .int 0, .int 0, .int 0, .int 0, .int (-1), .ref (ma 9), .ref (ma 10), .ref (ma 11), .ref (ma 12), .ref (ma 13), .ref (ma 14), .ref (ma 15), .int 0, .int 0, .int 0, .ref (ma 19), .ref (ma 20), .ref (ma 21), .int 0, .ref (ma 23), .ref (ma 24), .ref (ma 25), .ref (ma 26), .ref (ma 27), .ref (ma 28), .int 0, .int 0, .int 0, .int 0, .ref (ma 33), .int (-1), .ref (ma 35), .int 0, .int 0])), ((ma 9), .inl (cy 0, 600, .inl f_4))] H ∧ va_D A [(mo, .inr (12, [.int 0, .ref (ma 1), .int 1, .int 0, .int 0, .int 0, .int 0, .int 0, .int (-1), .ref (ma 9), .ref (ma 10), .ref (ma 11), .ref (ma 12), .ref (ma 13), .ref (ma 14), .ref (ma 15), .int 0, .int 0, .int 0, .ref (ma 19), .ref (ma 20), .ref (ma 21), .int 0, .ref (ma 23), .ref (ma 24), .ref (ma 25), .ref (ma 26), .ref (ma 27), .ref (ma 28), .int 0, .int 0, .int 0, .int 0, .ref (ma 33), .int (-1), .ref (ma 35), .int 0, .int 0])), ((ma 9), .inl (cy 0, 600, .inl f_4))] := ⟨_, hP, hD⟩
  refine lv_aload_n hx hb dX12_feed_104 rfl (lv_at hlv 2 rfl) ?_
  refine lv_dup hx hb dX12_feed_105 rfl ?_
  refine va_get (D := D) (ci := 12) (v := .int 1) (C := RX12) (T := TX12) (N := 38) hx hb hts hi12 hown hG.1 hP 0 rfl rfl 2 (by decide) lf77 (fun _ h9 => h9) rfl dX12_feed_106 ?_
  refine lv_iconst (v := 1) hx hb dX12_feed_109 (by decide) ?_
  refine lv_iadd hx hb dX12_feed_110 ?_
  refine lt_i (y := 2) (by decide) ?_
  refine va_put (D := D) (ci := 12) (v := .int 2) (ty := .int) (C := RX12) (T := TX12) (N := 38) hx hb hts hi12 tyX12 tyX12_ok nmX12 hown hG.1 hP hD hS 0 rfl rfl 2 (by decide) lf77 (fun _ h9 => h9) rfl (by decide +kernel) rfl rfl (Nat.le_of_ble_eq_true rfl) dX12_feed_111 (fun H locs hP hD hS => ?_)
  have hP : va_P D vwCl [(mo, .inr (12, [.int 0, .ref (ma 1), .int 2, .int 0, .int 0, .int 0, .int 0, .int 0, .int (-1), .ref (ma 9), .ref (ma 10), .ref (ma 11), .ref (ma 12), .ref (ma 13), .ref (ma 14), .ref (ma 15), .int 0, .int 0, .int 0, .ref (ma 19), .ref (ma 20), .ref (ma 21), .int 0, .ref (ma 23), .ref (ma 24), .ref (ma 25), .ref (ma 26), .ref (ma 27), .ref (ma 28), .int 0, .int 0, .int 0, .int 0, .ref (ma 33), .int (-1), .ref (ma 35), .int 0, .int 0])), ((ma 9), .inl (cy 0, 600, .inl f_4))] H := hP
  have hD : va_D A [(mo, .inr (12, [.int 0, .ref (ma 1), .int 2, .int 0, .int 0, .int 0, .int 0, .int 0, .int (-1), .ref (ma 9), .ref (ma 10), .ref (ma 11), .ref (ma 12), .ref (ma 13), .ref (ma 14), .ref (ma 15), .int 0, .int 0, .int 0, .ref (ma 19), .ref (ma 20), .ref (ma 21), .int 0, .ref (ma 23), .ref (ma 24), .ref (ma 25), .ref (ma 26), .ref (ma 27), .ref (ma 28), .int 0, .int 0, .int 0, .int 0, .ref (ma 33), .int (-1), .ref (ma 35), .int 0, .int 0])), ((ma 9), .inl (cy 0, 600, .inl f_4))] := hD
  refine lv_iinc (v := 2) (lv' := [(6, .int 2), (7, .int p0), (0, .ref mo), (1, .int p0), (2, .int p1), (3, .int p2), (4, .int p3), (5, .int p4)]) hx hb dX12_feed_114 hlv (k := 1) rfl (by decide) (by decide) rfl (fun ls hlv => ?_)
  refine lv_goto (tgt := 23) hx hb dX12_feed_117 (by decide) ?_
  refine lv_iload hx hb dX12_feed_23 (lv_at hlv 0 rfl) ?_
  refine lv_bipush (v := 20) hx hb dX12_feed_25 (by decide) ?_
  refine lv_icmp_ge (tgt := 120) hx hb dX12_feed_27 (by decide) (fun c => absurd c (by decide)) (fun _ => ?_)
  refine lv_iload hx hb dX12_feed_30 (lv_at hlv 0 rfl) ?_
  refine lv_iconst (v := 4) hx hb dX12_feed_32 (by decide) ?_
  refine lv_icmp_ge (tgt := 40) hx hb dX12_feed_33 (by decide) (fun c => absurd c (by decide)) (fun _ => ?_)
  refine lv_iload_n hx hb dX12_feed_36 rfl (lv_at hlv 3 rfl) ?_
  refine lv_goto (tgt := 76) hx hb dX12_feed_37 (by decide) ?_
  refine lv_istore (lv' := [(7, .int p0), (6, .int 2), (0, .ref mo), (1, .int p0), (2, .int p1), (3, .int p2), (4, .int p3), (5, .int p4)]) hx hb dX12_feed_76 hlv (by decide) rfl (fun ls hlv => ?_)
  refine lv_aload_n hx hb dX12_feed_78 rfl (lv_at hlv 2 rfl) ?_
  refine va_get (D := D) (ci := 12) (v := .ref (ma 9)) (C := RX12) (T := TX12) (N := 38) hx hb hts hi12 hown hG.1 hP 0 rfl rfl 9 (by decide) lf20 (fun _ h9 => h9) rfl dX12_feed_79 ?_
  refine lv_aload_n hx hb dX12_feed_82 rfl (lv_at hlv 2 rfl) ?_
  refine va_get (D := D) (ci := 12) (v := .int 2) (C := RX12) (T := TX12) (N := 38) hx hb hts hi12 hown hG.1 hP 0 rfl rfl 2 (by decide) lf77 (fun _ h9 => h9) rfl dX12_feed_83 ?_
  refine lv_iload hx hb dX12_feed_86 (lv_at hlv 0 rfl) ?_
  refine lv_bipush (v := 24) hx hb dX12_feed_88 (by decide) ?_
  refine lv_bipush (v := 8) hx hb dX12_feed_90 (by decide) ?_
  refine lv_iload hx hb dX12_feed_92 (lv_at hlv 1 rfl) ?_
  refine lv_iconst (v := 4) hx hb dX12_feed_94 (by decide) ?_
  refine lv_irem hx hb dX12_feed_95 (by decide) ?_
  refine lt_i (y := 2) (by decide) ?_
  refine lv_imul hx hb dX12_feed_96 ?_
  refine lt_i (y := 16) (by decide) ?_
  refine lv_isub hx hb dX12_feed_97 ?_
  refine lt_i (y := 8) (by decide) ?_
  refine lv_ishr hx hb dX12_feed_98 ?_
  refine lv_topi (fun z_5 ez_5 => ?_)
  refine lv_sipush (v := 255) hx hb dX12_feed_99 (by decide) ?_
  refine lv_iand hx hb dX12_feed_102 ?_
  refine va_iast hx hb hG.1 hP hD hS 1 0 rfl rfl (vpd (by decide)) dX12_feed_103 (fun H locs hP hD hS => ?_)
  have ⟨f_6, hP, hD⟩ : ∃ f_6 : Nat → Int32, va_P D vwCl [(mo, .inr (12, [.int 0, .ref (ma 1), .int 2, .int 0, .int 0, .int 0, .int 0, .int 0, .int (-1), .ref (ma 9), .ref (ma 10), .ref (ma 11), .ref (ma 12), .ref (ma 13), .ref (ma 14), .ref (ma 15), .int 0, .int 0, .int 0, .ref (ma 19), .ref (ma 20), .ref (ma 21), .int 0, .ref (ma 23), .ref (ma 24), .ref (ma 25), .ref (ma 26), .ref (ma 27), .ref (ma 28), .int 0, .int 0, .int 0, .int 0, .ref (ma 33), .int (-1), .ref (ma 35), .int 0, .int 0])), ((ma 9), .inl (cy 0, 600, .inl f_6))] H ∧ va_D A [(mo, .inr (12, [.int 0, .ref (ma 1), .int 2, .int 0, .int 0, .int 0, .int 0, .int 0, .int (-1), .ref (ma 9), .ref (ma 10), .ref (ma 11), .ref (ma 12), .ref (ma 13), .ref (ma 14), .ref (ma 15), .int 0, .int 0, .int 0, .ref (ma 19), .ref (ma 20), .ref (ma 21), .int 0, .ref (ma 23), .ref (ma 24), .ref (ma 25), .ref (ma 26), .ref (ma 27), .ref (ma 28), .int 0, .int 0, .int 0, .int 0, .ref (ma 33), .int (-1), .ref (ma 35), .int 0, .int 0])), ((ma 9), .inl (cy 0, 600, .inl f_6))] := ⟨_, hP, hD⟩
  refine lv_aload_n hx hb dX12_feed_104 rfl (lv_at hlv 2 rfl) ?_
  refine lv_dup hx hb dX12_feed_105 rfl ?_
  refine va_get (D := D) (ci := 12) (v := .int 2) (C := RX12) (T := TX12) (N := 38) hx hb hts hi12 hown hG.1 hP 0 rfl rfl 2 (by decide) lf77 (fun _ h9 => h9) rfl dX12_feed_106 ?_
  refine lv_iconst (v := 1) hx hb dX12_feed_109 (by decide) ?_
  refine lv_iadd hx hb dX12_feed_110 ?_
  refine lt_i (y := 3) (by decide) ?_
  refine va_put (D := D) (ci := 12) (v := .int 3) (ty := .int) (C := RX12) (T := TX12) (N := 38) hx hb hts hi12 tyX12 tyX12_ok nmX12 hown hG.1 hP hD hS 0 rfl rfl 2 (by decide) lf77 (fun _ h9 => h9) rfl (by decide +kernel) rfl rfl (Nat.le_of_ble_eq_true rfl) dX12_feed_111 (fun H locs hP hD hS => ?_)
  have hP : va_P D vwCl [(mo, .inr (12, [.int 0, .ref (ma 1), .int 3, .int 0, .int 0, .int 0, .int 0, .int 0, .int (-1), .ref (ma 9), .ref (ma 10), .ref (ma 11), .ref (ma 12), .ref (ma 13), .ref (ma 14), .ref (ma 15), .int 0, .int 0, .int 0, .ref (ma 19), .ref (ma 20), .ref (ma 21), .int 0, .ref (ma 23), .ref (ma 24), .ref (ma 25), .ref (ma 26), .ref (ma 27), .ref (ma 28), .int 0, .int 0, .int 0, .int 0, .ref (ma 33), .int (-1), .ref (ma 35), .int 0, .int 0])), ((ma 9), .inl (cy 0, 600, .inl f_6))] H := hP
  have hD : va_D A [(mo, .inr (12, [.int 0, .ref (ma 1), .int 3, .int 0, .int 0, .int 0, .int 0, .int 0, .int (-1), .ref (ma 9), .ref (ma 10), .ref (ma 11), .ref (ma 12), .ref (ma 13), .ref (ma 14), .ref (ma 15), .int 0, .int 0, .int 0, .ref (ma 19), .ref (ma 20), .ref (ma 21), .int 0, .ref (ma 23), .ref (ma 24), .ref (ma 25), .ref (ma 26), .ref (ma 27), .ref (ma 28), .int 0, .int 0, .int 0, .int 0, .ref (ma 33), .int (-1), .ref (ma 35), .int 0, .int 0])), ((ma 9), .inl (cy 0, 600, .inl f_6))] := hD
  refine lv_iinc (v := 3) (lv' := [(6, .int 3), (7, .int p0), (0, .ref mo), (1, .int p0), (2, .int p1), (3, .int p2), (4, .int p3), (5, .int p4)]) hx hb dX12_feed_114 hlv (k := 1) rfl (by decide) (by decide) rfl (fun ls hlv => ?_)
  refine lv_goto (tgt := 23) hx hb dX12_feed_117 (by decide) ?_
  refine lv_iload hx hb dX12_feed_23 (lv_at hlv 0 rfl) ?_
  refine lv_bipush (v := 20) hx hb dX12_feed_25 (by decide) ?_
  refine lv_icmp_ge (tgt := 120) hx hb dX12_feed_27 (by decide) (fun c => absurd c (by decide)) (fun _ => ?_)
  refine lv_iload hx hb dX12_feed_30 (lv_at hlv 0 rfl) ?_
  refine lv_iconst (v := 4) hx hb dX12_feed_32 (by decide) ?_
  refine lv_icmp_ge (tgt := 40) hx hb dX12_feed_33 (by decide) (fun c => absurd c (by decide)) (fun _ => ?_)
  refine lv_iload_n hx hb dX12_feed_36 rfl (lv_at hlv 3 rfl) ?_
  refine lv_goto (tgt := 76) hx hb dX12_feed_37 (by decide) ?_
  refine lv_istore (lv' := [(7, .int p0), (6, .int 3), (0, .ref mo), (1, .int p0), (2, .int p1), (3, .int p2), (4, .int p3), (5, .int p4)]) hx hb dX12_feed_76 hlv (by decide) rfl (fun ls hlv => ?_)
  refine lv_aload_n hx hb dX12_feed_78 rfl (lv_at hlv 2 rfl) ?_
  refine va_get (D := D) (ci := 12) (v := .ref (ma 9)) (C := RX12) (T := TX12) (N := 38) hx hb hts hi12 hown hG.1 hP 0 rfl rfl 9 (by decide) lf20 (fun _ h9 => h9) rfl dX12_feed_79 ?_
  refine lv_aload_n hx hb dX12_feed_82 rfl (lv_at hlv 2 rfl) ?_
  refine va_get (D := D) (ci := 12) (v := .int 3) (C := RX12) (T := TX12) (N := 38) hx hb hts hi12 hown hG.1 hP 0 rfl rfl 2 (by decide) lf77 (fun _ h9 => h9) rfl dX12_feed_83 ?_
  refine lv_iload hx hb dX12_feed_86 (lv_at hlv 0 rfl) ?_
  refine lv_bipush (v := 24) hx hb dX12_feed_88 (by decide) ?_
  refine lv_bipush (v := 8) hx hb dX12_feed_90 (by decide) ?_
  refine lv_iload hx hb dX12_feed_92 (lv_at hlv 1 rfl) ?_
  refine lv_iconst (v := 4) hx hb dX12_feed_94 (by decide) ?_
  refine lv_irem hx hb dX12_feed_95 (by decide) ?_
  refine lt_i (y := 3) (by decide) ?_
  refine lv_imul hx hb dX12_feed_96 ?_
  refine lt_i (y := 24) (by decide) ?_
  refine lv_isub hx hb dX12_feed_97 ?_
  refine lt_i (y := 0) (by decide) ?_
  refine lv_ishr hx hb dX12_feed_98 ?_
  refine lv_topi (fun z_7 ez_7 => ?_)
  refine lv_sipush (v := 255) hx hb dX12_feed_99 (by decide) ?_
  refine lv_iand hx hb dX12_feed_102 ?_
  refine va_iast hx hb hG.1 hP hD hS 1 0 rfl rfl (vpd (by decide)) dX12_feed_103 (fun H locs hP hD hS => ?_)
  have ⟨f_8, hP, hD⟩ : ∃ f_8 : Nat → Int32, va_P D vwCl [(mo, .inr (12, [.int 0, .ref (ma 1), .int 3, .int 0, .int 0, .int 0, .int 0, .int 0, .int (-1), .ref (ma 9), .ref (ma 10), .ref (ma 11), .ref (ma 12), .ref (ma 13), .ref (ma 14), .ref (ma 15), .int 0, .int 0, .int 0, .ref (ma 19), .ref (ma 20), .ref (ma 21), .int 0, .ref (ma 23), .ref (ma 24), .ref (ma 25), .ref (ma 26), .ref (ma 27), .ref (ma 28), .int 0, .int 0, .int 0, .int 0, .ref (ma 33), .int (-1), .ref (ma 35), .int 0, .int 0])), ((ma 9), .inl (cy 0, 600, .inl f_8))] H ∧ va_D A [(mo, .inr (12, [.int 0, .ref (ma 1), .int 3, .int 0, .int 0, .int 0, .int 0, .int 0, .int (-1), .ref (ma 9), .ref (ma 10), .ref (ma 11), .ref (ma 12), .ref (ma 13), .ref (ma 14), .ref (ma 15), .int 0, .int 0, .int 0, .ref (ma 19), .ref (ma 20), .ref (ma 21), .int 0, .ref (ma 23), .ref (ma 24), .ref (ma 25), .ref (ma 26), .ref (ma 27), .ref (ma 28), .int 0, .int 0, .int 0, .int 0, .ref (ma 33), .int (-1), .ref (ma 35), .int 0, .int 0])), ((ma 9), .inl (cy 0, 600, .inl f_8))] := ⟨_, hP, hD⟩
  refine lv_aload_n hx hb dX12_feed_104 rfl (lv_at hlv 2 rfl) ?_
  refine lv_dup hx hb dX12_feed_105 rfl ?_
  refine va_get (D := D) (ci := 12) (v := .int 3) (C := RX12) (T := TX12) (N := 38) hx hb hts hi12 hown hG.1 hP 0 rfl rfl 2 (by decide) lf77 (fun _ h9 => h9) rfl dX12_feed_106 ?_
  refine lv_iconst (v := 1) hx hb dX12_feed_109 (by decide) ?_
  refine lv_iadd hx hb dX12_feed_110 ?_
  refine lt_i (y := 4) (by decide) ?_
  refine va_put (D := D) (ci := 12) (v := .int 4) (ty := .int) (C := RX12) (T := TX12) (N := 38) hx hb hts hi12 tyX12 tyX12_ok nmX12 hown hG.1 hP hD hS 0 rfl rfl 2 (by decide) lf77 (fun _ h9 => h9) rfl (by decide +kernel) rfl rfl (Nat.le_of_ble_eq_true rfl) dX12_feed_111 (fun H locs hP hD hS => ?_)
  have hP : va_P D vwCl [(mo, .inr (12, [.int 0, .ref (ma 1), .int 4, .int 0, .int 0, .int 0, .int 0, .int 0, .int (-1), .ref (ma 9), .ref (ma 10), .ref (ma 11), .ref (ma 12), .ref (ma 13), .ref (ma 14), .ref (ma 15), .int 0, .int 0, .int 0, .ref (ma 19), .ref (ma 20), .ref (ma 21), .int 0, .ref (ma 23), .ref (ma 24), .ref (ma 25), .ref (ma 26), .ref (ma 27), .ref (ma 28), .int 0, .int 0, .int 0, .int 0, .ref (ma 33), .int (-1), .ref (ma 35), .int 0, .int 0])), ((ma 9), .inl (cy 0, 600, .inl f_8))] H := hP
  have hD : va_D A [(mo, .inr (12, [.int 0, .ref (ma 1), .int 4, .int 0, .int 0, .int 0, .int 0, .int 0, .int (-1), .ref (ma 9), .ref (ma 10), .ref (ma 11), .ref (ma 12), .ref (ma 13), .ref (ma 14), .ref (ma 15), .int 0, .int 0, .int 0, .ref (ma 19), .ref (ma 20), .ref (ma 21), .int 0, .ref (ma 23), .ref (ma 24), .ref (ma 25), .ref (ma 26), .ref (ma 27), .ref (ma 28), .int 0, .int 0, .int 0, .int 0, .ref (ma 33), .int (-1), .ref (ma 35), .int 0, .int 0])), ((ma 9), .inl (cy 0, 600, .inl f_8))] := hD
  refine lv_iinc (v := 4) (lv' := [(6, .int 4), (7, .int p0), (0, .ref mo), (1, .int p0), (2, .int p1), (3, .int p2), (4, .int p3), (5, .int p4)]) hx hb dX12_feed_114 hlv (k := 1) rfl (by decide) (by decide) rfl (fun ls hlv => ?_)
  refine lv_goto (tgt := 23) hx hb dX12_feed_117 (by decide) ?_
  refine lv_iload hx hb dX12_feed_23 (lv_at hlv 0 rfl) ?_
  refine lv_bipush (v := 20) hx hb dX12_feed_25 (by decide) ?_
  refine lv_icmp_ge (tgt := 120) hx hb dX12_feed_27 (by decide) (fun c => absurd c (by decide)) (fun _ => ?_)
  refine lv_iload hx hb dX12_feed_30 (lv_at hlv 0 rfl) ?_
  refine lv_iconst (v := 4) hx hb dX12_feed_32 (by decide) ?_
  refine lv_icmp_ge (tgt := 40) hx hb dX12_feed_33 (by decide) (fun _ => ?_) (fun c => absurd (by decide) c)
  refine lv_iload hx hb dX12_feed_40 (lv_at hlv 0 rfl) ?_
  refine lv_bipush (v := 8) hx hb dX12_feed_42 (by decide) ?_
  refine lv_icmp_ge (tgt := 51) hx hb dX12_feed_44 (by decide) (fun c => absurd c (by decide)) (fun _ => ?_)
  refine lv_iload_n hx hb dX12_feed_47 rfl (lv_at hlv 4 rfl) ?_
  refine lv_goto (tgt := 76) hx hb dX12_feed_48 (by decide) ?_
  refine lv_istore (lv' := [(7, .int p1), (6, .int 4), (0, .ref mo), (1, .int p0), (2, .int p1), (3, .int p2), (4, .int p3), (5, .int p4)]) hx hb dX12_feed_76 hlv (by decide) rfl (fun ls hlv => ?_)
  refine lv_aload_n hx hb dX12_feed_78 rfl (lv_at hlv 2 rfl) ?_
  refine va_get (D := D) (ci := 12) (v := .ref (ma 9)) (C := RX12) (T := TX12) (N := 38) hx hb hts hi12 hown hG.1 hP 0 rfl rfl 9 (by decide) lf20 (fun _ h9 => h9) rfl dX12_feed_79 ?_
  refine lv_aload_n hx hb dX12_feed_82 rfl (lv_at hlv 2 rfl) ?_
  refine va_get (D := D) (ci := 12) (v := .int 4) (C := RX12) (T := TX12) (N := 38) hx hb hts hi12 hown hG.1 hP 0 rfl rfl 2 (by decide) lf77 (fun _ h9 => h9) rfl dX12_feed_83 ?_
  refine lv_iload hx hb dX12_feed_86 (lv_at hlv 0 rfl) ?_
  refine lv_bipush (v := 24) hx hb dX12_feed_88 (by decide) ?_
  refine lv_bipush (v := 8) hx hb dX12_feed_90 (by decide) ?_
  refine lv_iload hx hb dX12_feed_92 (lv_at hlv 1 rfl) ?_
  refine lv_iconst (v := 4) hx hb dX12_feed_94 (by decide) ?_
  refine lv_irem hx hb dX12_feed_95 (by decide) ?_
  refine lt_i (y := 0) (by decide) ?_
  refine lv_imul hx hb dX12_feed_96 ?_
  refine lt_i (y := 0) (by decide) ?_
  refine lv_isub hx hb dX12_feed_97 ?_
  refine lt_i (y := 24) (by decide) ?_
  refine lv_ishr hx hb dX12_feed_98 ?_
  refine lv_topi (fun z_9 ez_9 => ?_)
  refine lv_sipush (v := 255) hx hb dX12_feed_99 (by decide) ?_
  refine lv_iand hx hb dX12_feed_102 ?_
  refine va_iast hx hb hG.1 hP hD hS 1 0 rfl rfl (vpd (by decide)) dX12_feed_103 (fun H locs hP hD hS => ?_)
  have ⟨f_10, hP, hD⟩ : ∃ f_10 : Nat → Int32, va_P D vwCl [(mo, .inr (12, [.int 0, .ref (ma 1), .int 4, .int 0, .int 0, .int 0, .int 0, .int 0, .int (-1), .ref (ma 9), .ref (ma 10), .ref (ma 11), .ref (ma 12), .ref (ma 13), .ref (ma 14), .ref (ma 15), .int 0, .int 0, .int 0, .ref (ma 19), .ref (ma 20), .ref (ma 21), .int 0, .ref (ma 23), .ref (ma 24), .ref (ma 25), .ref (ma 26), .ref (ma 27), .ref (ma 28), .int 0, .int 0, .int 0, .int 0, .ref (ma 33), .int (-1), .ref (ma 35), .int 0, .int 0])), ((ma 9), .inl (cy 0, 600, .inl f_10))] H ∧ va_D A [(mo, .inr (12, [.int 0, .ref (ma 1), .int 4, .int 0, .int 0, .int 0, .int 0, .int 0, .int (-1), .ref (ma 9), .ref (ma 10), .ref (ma 11), .ref (ma 12), .ref (ma 13), .ref (ma 14), .ref (ma 15), .int 0, .int 0, .int 0, .ref (ma 19), .ref (ma 20), .ref (ma 21), .int 0, .ref (ma 23), .ref (ma 24), .ref (ma 25), .ref (ma 26), .ref (ma 27), .ref (ma 28), .int 0, .int 0, .int 0, .int 0, .ref (ma 33), .int (-1), .ref (ma 35), .int 0, .int 0])), ((ma 9), .inl (cy 0, 600, .inl f_10))] := ⟨_, hP, hD⟩
  refine lv_aload_n hx hb dX12_feed_104 rfl (lv_at hlv 2 rfl) ?_
  refine lv_dup hx hb dX12_feed_105 rfl ?_
  refine va_get (D := D) (ci := 12) (v := .int 4) (C := RX12) (T := TX12) (N := 38) hx hb hts hi12 hown hG.1 hP 0 rfl rfl 2 (by decide) lf77 (fun _ h9 => h9) rfl dX12_feed_106 ?_
  refine lv_iconst (v := 1) hx hb dX12_feed_109 (by decide) ?_
  refine lv_iadd hx hb dX12_feed_110 ?_
  refine lt_i (y := 5) (by decide) ?_
  refine va_put (D := D) (ci := 12) (v := .int 5) (ty := .int) (C := RX12) (T := TX12) (N := 38) hx hb hts hi12 tyX12 tyX12_ok nmX12 hown hG.1 hP hD hS 0 rfl rfl 2 (by decide) lf77 (fun _ h9 => h9) rfl (by decide +kernel) rfl rfl (Nat.le_of_ble_eq_true rfl) dX12_feed_111 (fun H locs hP hD hS => ?_)
  have hP : va_P D vwCl [(mo, .inr (12, [.int 0, .ref (ma 1), .int 5, .int 0, .int 0, .int 0, .int 0, .int 0, .int (-1), .ref (ma 9), .ref (ma 10), .ref (ma 11), .ref (ma 12), .ref (ma 13), .ref (ma 14), .ref (ma 15), .int 0, .int 0, .int 0, .ref (ma 19), .ref (ma 20), .ref (ma 21), .int 0, .ref (ma 23), .ref (ma 24), .ref (ma 25), .ref (ma 26), .ref (ma 27), .ref (ma 28), .int 0, .int 0, .int 0, .int 0, .ref (ma 33), .int (-1), .ref (ma 35), .int 0, .int 0])), ((ma 9), .inl (cy 0, 600, .inl f_10))] H := hP
  have hD : va_D A [(mo, .inr (12, [.int 0, .ref (ma 1), .int 5, .int 0, .int 0, .int 0, .int 0, .int 0, .int (-1), .ref (ma 9), .ref (ma 10), .ref (ma 11), .ref (ma 12), .ref (ma 13), .ref (ma 14), .ref (ma 15), .int 0, .int 0, .int 0, .ref (ma 19), .ref (ma 20), .ref (ma 21), .int 0, .ref (ma 23), .ref (ma 24), .ref (ma 25), .ref (ma 26), .ref (ma 27), .ref (ma 28), .int 0, .int 0, .int 0, .int 0, .ref (ma 33), .int (-1), .ref (ma 35), .int 0, .int 0])), ((ma 9), .inl (cy 0, 600, .inl f_10))] := hD
  refine lv_iinc (v := 5) (lv' := [(6, .int 5), (7, .int p1), (0, .ref mo), (1, .int p0), (2, .int p1), (3, .int p2), (4, .int p3), (5, .int p4)]) hx hb dX12_feed_114 hlv (k := 1) rfl (by decide) (by decide) rfl (fun ls hlv => ?_)
  refine lv_goto (tgt := 23) hx hb dX12_feed_117 (by decide) ?_
  refine lv_iload hx hb dX12_feed_23 (lv_at hlv 0 rfl) ?_
  refine lv_bipush (v := 20) hx hb dX12_feed_25 (by decide) ?_
  refine lv_icmp_ge (tgt := 120) hx hb dX12_feed_27 (by decide) (fun c => absurd c (by decide)) (fun _ => ?_)
  refine lv_iload hx hb dX12_feed_30 (lv_at hlv 0 rfl) ?_
  refine lv_iconst (v := 4) hx hb dX12_feed_32 (by decide) ?_
  refine lv_icmp_ge (tgt := 40) hx hb dX12_feed_33 (by decide) (fun _ => ?_) (fun c => absurd (by decide) c)
  refine lv_iload hx hb dX12_feed_40 (lv_at hlv 0 rfl) ?_
  refine lv_bipush (v := 8) hx hb dX12_feed_42 (by decide) ?_
  refine lv_icmp_ge (tgt := 51) hx hb dX12_feed_44 (by decide) (fun c => absurd c (by decide)) (fun _ => ?_)
  refine lv_iload_n hx hb dX12_feed_47 rfl (lv_at hlv 4 rfl) ?_
  refine lv_goto (tgt := 76) hx hb dX12_feed_48 (by decide) ?_
  refine lv_istore (lv' := [(7, .int p1), (6, .int 5), (0, .ref mo), (1, .int p0), (2, .int p1), (3, .int p2), (4, .int p3), (5, .int p4)]) hx hb dX12_feed_76 hlv (by decide) rfl (fun ls hlv => ?_)
  refine lv_aload_n hx hb dX12_feed_78 rfl (lv_at hlv 2 rfl) ?_
  refine va_get (D := D) (ci := 12) (v := .ref (ma 9)) (C := RX12) (T := TX12) (N := 38) hx hb hts hi12 hown hG.1 hP 0 rfl rfl 9 (by decide) lf20 (fun _ h9 => h9) rfl dX12_feed_79 ?_
  refine lv_aload_n hx hb dX12_feed_82 rfl (lv_at hlv 2 rfl) ?_
  refine va_get (D := D) (ci := 12) (v := .int 5) (C := RX12) (T := TX12) (N := 38) hx hb hts hi12 hown hG.1 hP 0 rfl rfl 2 (by decide) lf77 (fun _ h9 => h9) rfl dX12_feed_83 ?_
  refine lv_iload hx hb dX12_feed_86 (lv_at hlv 0 rfl) ?_
  refine lv_bipush (v := 24) hx hb dX12_feed_88 (by decide) ?_
  refine lv_bipush (v := 8) hx hb dX12_feed_90 (by decide) ?_
  refine lv_iload hx hb dX12_feed_92 (lv_at hlv 1 rfl) ?_
  refine lv_iconst (v := 4) hx hb dX12_feed_94 (by decide) ?_
  refine lv_irem hx hb dX12_feed_95 (by decide) ?_
  refine lt_i (y := 1) (by decide) ?_
  refine lv_imul hx hb dX12_feed_96 ?_
  refine lt_i (y := 8) (by decide) ?_
  refine lv_isub hx hb dX12_feed_97 ?_
  refine lt_i (y := 16) (by decide) ?_
  refine lv_ishr hx hb dX12_feed_98 ?_
  refine lv_topi (fun z_11 ez_11 => ?_)
  refine lv_sipush (v := 255) hx hb dX12_feed_99 (by decide) ?_
  refine lv_iand hx hb dX12_feed_102 ?_
  refine va_iast hx hb hG.1 hP hD hS 1 0 rfl rfl (vpd (by decide)) dX12_feed_103 (fun H locs hP hD hS => ?_)
  have ⟨f_12, hP, hD⟩ : ∃ f_12 : Nat → Int32, va_P D vwCl [(mo, .inr (12, [.int 0, .ref (ma 1), .int 5, .int 0, .int 0, .int 0, .int 0, .int 0, .int (-1), .ref (ma 9), .ref (ma 10), .ref (ma 11), .ref (ma 12), .ref (ma 13), .ref (ma 14), .ref (ma 15), .int 0, .int 0, .int 0, .ref (ma 19), .ref (ma 20), .ref (ma 21), .int 0, .ref (ma 23), .ref (ma 24), .ref (ma 25), .ref (ma 26), .ref (ma 27), .ref (ma 28), .int 0, .int 0, .int 0, .int 0, .ref (ma 33), .int (-1), .ref (ma 35), .int 0, .int 0])), ((ma 9), .inl (cy 0, 600, .inl f_12))] H ∧ va_D A [(mo, .inr (12, [.int 0, .ref (ma 1), .int 5, .int 0, .int 0, .int 0, .int 0, .int 0, .int (-1), .ref (ma 9), .ref (ma 10), .ref (ma 11), .ref (ma 12), .ref (ma 13), .ref (ma 14), .ref (ma 15), .int 0, .int 0, .int 0, .ref (ma 19), .ref (ma 20), .ref (ma 21), .int 0, .ref (ma 23), .ref (ma 24), .ref (ma 25), .ref (ma 26), .ref (ma 27), .ref (ma 28), .int 0, .int 0, .int 0, .int 0, .ref (ma 33), .int (-1), .ref (ma 35), .int 0, .int 0])), ((ma 9), .inl (cy 0, 600, .inl f_12))] := ⟨_, hP, hD⟩
  refine lv_aload_n hx hb dX12_feed_104 rfl (lv_at hlv 2 rfl) ?_
  refine lv_dup hx hb dX12_feed_105 rfl ?_
  refine va_get (D := D) (ci := 12) (v := .int 5) (C := RX12) (T := TX12) (N := 38) hx hb hts hi12 hown hG.1 hP 0 rfl rfl 2 (by decide) lf77 (fun _ h9 => h9) rfl dX12_feed_106 ?_
  refine lv_iconst (v := 1) hx hb dX12_feed_109 (by decide) ?_
  refine lv_iadd hx hb dX12_feed_110 ?_
  refine lt_i (y := 6) (by decide) ?_
  refine va_put (D := D) (ci := 12) (v := .int 6) (ty := .int) (C := RX12) (T := TX12) (N := 38) hx hb hts hi12 tyX12 tyX12_ok nmX12 hown hG.1 hP hD hS 0 rfl rfl 2 (by decide) lf77 (fun _ h9 => h9) rfl (by decide +kernel) rfl rfl (Nat.le_of_ble_eq_true rfl) dX12_feed_111 (fun H locs hP hD hS => ?_)
  have hP : va_P D vwCl [(mo, .inr (12, [.int 0, .ref (ma 1), .int 6, .int 0, .int 0, .int 0, .int 0, .int 0, .int (-1), .ref (ma 9), .ref (ma 10), .ref (ma 11), .ref (ma 12), .ref (ma 13), .ref (ma 14), .ref (ma 15), .int 0, .int 0, .int 0, .ref (ma 19), .ref (ma 20), .ref (ma 21), .int 0, .ref (ma 23), .ref (ma 24), .ref (ma 25), .ref (ma 26), .ref (ma 27), .ref (ma 28), .int 0, .int 0, .int 0, .int 0, .ref (ma 33), .int (-1), .ref (ma 35), .int 0, .int 0])), ((ma 9), .inl (cy 0, 600, .inl f_12))] H := hP
  have hD : va_D A [(mo, .inr (12, [.int 0, .ref (ma 1), .int 6, .int 0, .int 0, .int 0, .int 0, .int 0, .int (-1), .ref (ma 9), .ref (ma 10), .ref (ma 11), .ref (ma 12), .ref (ma 13), .ref (ma 14), .ref (ma 15), .int 0, .int 0, .int 0, .ref (ma 19), .ref (ma 20), .ref (ma 21), .int 0, .ref (ma 23), .ref (ma 24), .ref (ma 25), .ref (ma 26), .ref (ma 27), .ref (ma 28), .int 0, .int 0, .int 0, .int 0, .ref (ma 33), .int (-1), .ref (ma 35), .int 0, .int 0])), ((ma 9), .inl (cy 0, 600, .inl f_12))] := hD
  refine lv_iinc (v := 6) (lv' := [(6, .int 6), (7, .int p1), (0, .ref mo), (1, .int p0), (2, .int p1), (3, .int p2), (4, .int p3), (5, .int p4)]) hx hb dX12_feed_114 hlv (k := 1) rfl (by decide) (by decide) rfl (fun ls hlv => ?_)
  refine lv_goto (tgt := 23) hx hb dX12_feed_117 (by decide) ?_
  refine lv_iload hx hb dX12_feed_23 (lv_at hlv 0 rfl) ?_
  refine lv_bipush (v := 20) hx hb dX12_feed_25 (by decide) ?_
  refine lv_icmp_ge (tgt := 120) hx hb dX12_feed_27 (by decide) (fun c => absurd c (by decide)) (fun _ => ?_)
  refine lv_iload hx hb dX12_feed_30 (lv_at hlv 0 rfl) ?_
  refine lv_iconst (v := 4) hx hb dX12_feed_32 (by decide) ?_
  refine lv_icmp_ge (tgt := 40) hx hb dX12_feed_33 (by decide) (fun _ => ?_) (fun c => absurd (by decide) c)
  refine lv_iload hx hb dX12_feed_40 (lv_at hlv 0 rfl) ?_
  refine lv_bipush (v := 8) hx hb dX12_feed_42 (by decide) ?_
  refine lv_icmp_ge (tgt := 51) hx hb dX12_feed_44 (by decide) (fun c => absurd c (by decide)) (fun _ => ?_)
  refine lv_iload_n hx hb dX12_feed_47 rfl (lv_at hlv 4 rfl) ?_
  refine lv_goto (tgt := 76) hx hb dX12_feed_48 (by decide) ?_
  refine lv_istore (lv' := [(7, .int p1), (6, .int 6), (0, .ref mo), (1, .int p0), (2, .int p1), (3, .int p2), (4, .int p3), (5, .int p4)]) hx hb dX12_feed_76 hlv (by decide) rfl (fun ls hlv => ?_)
  refine lv_aload_n hx hb dX12_feed_78 rfl (lv_at hlv 2 rfl) ?_
  refine va_get (D := D) (ci := 12) (v := .ref (ma 9)) (C := RX12) (T := TX12) (N := 38) hx hb hts hi12 hown hG.1 hP 0 rfl rfl 9 (by decide) lf20 (fun _ h9 => h9) rfl dX12_feed_79 ?_
  refine lv_aload_n hx hb dX12_feed_82 rfl (lv_at hlv 2 rfl) ?_
  refine va_get (D := D) (ci := 12) (v := .int 6) (C := RX12) (T := TX12) (N := 38) hx hb hts hi12 hown hG.1 hP 0 rfl rfl 2 (by decide) lf77 (fun _ h9 => h9) rfl dX12_feed_83 ?_
  refine lv_iload hx hb dX12_feed_86 (lv_at hlv 0 rfl) ?_
  refine lv_bipush (v := 24) hx hb dX12_feed_88 (by decide) ?_
  refine lv_bipush (v := 8) hx hb dX12_feed_90 (by decide) ?_
  refine lv_iload hx hb dX12_feed_92 (lv_at hlv 1 rfl) ?_
  refine lv_iconst (v := 4) hx hb dX12_feed_94 (by decide) ?_
  refine lv_irem hx hb dX12_feed_95 (by decide) ?_
  refine lt_i (y := 2) (by decide) ?_
  refine lv_imul hx hb dX12_feed_96 ?_
  refine lt_i (y := 16) (by decide) ?_
  refine lv_isub hx hb dX12_feed_97 ?_
  refine lt_i (y := 8) (by decide) ?_
  refine lv_ishr hx hb dX12_feed_98 ?_
  refine lv_topi (fun z_13 ez_13 => ?_)
  refine lv_sipush (v := 255) hx hb dX12_feed_99 (by decide) ?_
  refine lv_iand hx hb dX12_feed_102 ?_
  refine va_iast hx hb hG.1 hP hD hS 1 0 rfl rfl (vpd (by decide)) dX12_feed_103 (fun H locs hP hD hS => ?_)
  have ⟨f_14, hP, hD⟩ : ∃ f_14 : Nat → Int32, va_P D vwCl [(mo, .inr (12, [.int 0, .ref (ma 1), .int 6, .int 0, .int 0, .int 0, .int 0, .int 0, .int (-1), .ref (ma 9), .ref (ma 10), .ref (ma 11), .ref (ma 12), .ref (ma 13), .ref (ma 14), .ref (ma 15), .int 0, .int 0, .int 0, .ref (ma 19), .ref (ma 20), .ref (ma 21), .int 0, .ref (ma 23), .ref (ma 24), .ref (ma 25), .ref (ma 26), .ref (ma 27), .ref (ma 28), .int 0, .int 0, .int 0, .int 0, .ref (ma 33), .int (-1), .ref (ma 35), .int 0, .int 0])), ((ma 9), .inl (cy 0, 600, .inl f_14))] H ∧ va_D A [(mo, .inr (12, [.int 0, .ref (ma 1), .int 6, .int 0, .int 0, .int 0, .int 0, .int 0, .int (-1), .ref (ma 9), .ref (ma 10), .ref (ma 11), .ref (ma 12), .ref (ma 13), .ref (ma 14), .ref (ma 15), .int 0, .int 0, .int 0, .ref (ma 19), .ref (ma 20), .ref (ma 21), .int 0, .ref (ma 23), .ref (ma 24), .ref (ma 25), .ref (ma 26), .ref (ma 27), .ref (ma 28), .int 0, .int 0, .int 0, .int 0, .ref (ma 33), .int (-1), .ref (ma 35), .int 0, .int 0])), ((ma 9), .inl (cy 0, 600, .inl f_14))] := ⟨_, hP, hD⟩
  refine lv_aload_n hx hb dX12_feed_104 rfl (lv_at hlv 2 rfl) ?_
  refine lv_dup hx hb dX12_feed_105 rfl ?_
  refine va_get (D := D) (ci := 12) (v := .int 6) (C := RX12) (T := TX12) (N := 38) hx hb hts hi12 hown hG.1 hP 0 rfl rfl 2 (by decide) lf77 (fun _ h9 => h9) rfl dX12_feed_106 ?_
  refine lv_iconst (v := 1) hx hb dX12_feed_109 (by decide) ?_
  refine lv_iadd hx hb dX12_feed_110 ?_
  refine lt_i (y := 7) (by decide) ?_
  refine va_put (D := D) (ci := 12) (v := .int 7) (ty := .int) (C := RX12) (T := TX12) (N := 38) hx hb hts hi12 tyX12 tyX12_ok nmX12 hown hG.1 hP hD hS 0 rfl rfl 2 (by decide) lf77 (fun _ h9 => h9) rfl (by decide +kernel) rfl rfl (Nat.le_of_ble_eq_true rfl) dX12_feed_111 (fun H locs hP hD hS => ?_)
  have hP : va_P D vwCl [(mo, .inr (12, [.int 0, .ref (ma 1), .int 7, .int 0, .int 0, .int 0, .int 0, .int 0, .int (-1), .ref (ma 9), .ref (ma 10), .ref (ma 11), .ref (ma 12), .ref (ma 13), .ref (ma 14), .ref (ma 15), .int 0, .int 0, .int 0, .ref (ma 19), .ref (ma 20), .ref (ma 21), .int 0, .ref (ma 23), .ref (ma 24), .ref (ma 25), .ref (ma 26), .ref (ma 27), .ref (ma 28), .int 0, .int 0, .int 0, .int 0, .ref (ma 33), .int (-1), .ref (ma 35), .int 0, .int 0])), ((ma 9), .inl (cy 0, 600, .inl f_14))] H := hP
  have hD : va_D A [(mo, .inr (12, [.int 0, .ref (ma 1), .int 7, .int 0, .int 0, .int 0, .int 0, .int 0, .int (-1), .ref (ma 9), .ref (ma 10), .ref (ma 11), .ref (ma 12), .ref (ma 13), .ref (ma 14), .ref (ma 15), .int 0, .int 0, .int 0, .ref (ma 19), .ref (ma 20), .ref (ma 21), .int 0, .ref (ma 23), .ref (ma 24), .ref (ma 25), .ref (ma 26), .ref (ma 27), .ref (ma 28), .int 0, .int 0, .int 0, .int 0, .ref (ma 33), .int (-1), .ref (ma 35), .int 0, .int 0])), ((ma 9), .inl (cy 0, 600, .inl f_14))] := hD
  refine lv_iinc (v := 7) (lv' := [(6, .int 7), (7, .int p1), (0, .ref mo), (1, .int p0), (2, .int p1), (3, .int p2), (4, .int p3), (5, .int p4)]) hx hb dX12_feed_114 hlv (k := 1) rfl (by decide) (by decide) rfl (fun ls hlv => ?_)
  refine lv_goto (tgt := 23) hx hb dX12_feed_117 (by decide) ?_
  refine lv_iload hx hb dX12_feed_23 (lv_at hlv 0 rfl) ?_
  refine lv_bipush (v := 20) hx hb dX12_feed_25 (by decide) ?_
  refine lv_icmp_ge (tgt := 120) hx hb dX12_feed_27 (by decide) (fun c => absurd c (by decide)) (fun _ => ?_)
  refine lv_iload hx hb dX12_feed_30 (lv_at hlv 0 rfl) ?_
  refine lv_iconst (v := 4) hx hb dX12_feed_32 (by decide) ?_
  refine lv_icmp_ge (tgt := 40) hx hb dX12_feed_33 (by decide) (fun _ => ?_) (fun c => absurd (by decide) c)
  refine lv_iload hx hb dX12_feed_40 (lv_at hlv 0 rfl) ?_
  refine lv_bipush (v := 8) hx hb dX12_feed_42 (by decide) ?_
  refine lv_icmp_ge (tgt := 51) hx hb dX12_feed_44 (by decide) (fun c => absurd c (by decide)) (fun _ => ?_)
  refine lv_iload_n hx hb dX12_feed_47 rfl (lv_at hlv 4 rfl) ?_
  refine lv_goto (tgt := 76) hx hb dX12_feed_48 (by decide) ?_
  refine lv_istore (lv' := [(7, .int p1), (6, .int 7), (0, .ref mo), (1, .int p0), (2, .int p1), (3, .int p2), (4, .int p3), (5, .int p4)]) hx hb dX12_feed_76 hlv (by decide) rfl (fun ls hlv => ?_)
  refine lv_aload_n hx hb dX12_feed_78 rfl (lv_at hlv 2 rfl) ?_
  refine va_get (D := D) (ci := 12) (v := .ref (ma 9)) (C := RX12) (T := TX12) (N := 38) hx hb hts hi12 hown hG.1 hP 0 rfl rfl 9 (by decide) lf20 (fun _ h9 => h9) rfl dX12_feed_79 ?_
  refine lv_aload_n hx hb dX12_feed_82 rfl (lv_at hlv 2 rfl) ?_
  refine va_get (D := D) (ci := 12) (v := .int 7) (C := RX12) (T := TX12) (N := 38) hx hb hts hi12 hown hG.1 hP 0 rfl rfl 2 (by decide) lf77 (fun _ h9 => h9) rfl dX12_feed_83 ?_
  refine lv_iload hx hb dX12_feed_86 (lv_at hlv 0 rfl) ?_
  refine lv_bipush (v := 24) hx hb dX12_feed_88 (by decide) ?_
  refine lv_bipush (v := 8) hx hb dX12_feed_90 (by decide) ?_
  refine lv_iload hx hb dX12_feed_92 (lv_at hlv 1 rfl) ?_
  refine lv_iconst (v := 4) hx hb dX12_feed_94 (by decide) ?_
  refine lv_irem hx hb dX12_feed_95 (by decide) ?_
  refine lt_i (y := 3) (by decide) ?_
  refine lv_imul hx hb dX12_feed_96 ?_
  refine lt_i (y := 24) (by decide) ?_
  refine lv_isub hx hb dX12_feed_97 ?_
  refine lt_i (y := 0) (by decide) ?_
  refine lv_ishr hx hb dX12_feed_98 ?_
  refine lv_topi (fun z_15 ez_15 => ?_)
  refine lv_sipush (v := 255) hx hb dX12_feed_99 (by decide) ?_
  refine lv_iand hx hb dX12_feed_102 ?_
  refine va_iast hx hb hG.1 hP hD hS 1 0 rfl rfl (vpd (by decide)) dX12_feed_103 (fun H locs hP hD hS => ?_)
  have ⟨f_16, hP, hD⟩ : ∃ f_16 : Nat → Int32, va_P D vwCl [(mo, .inr (12, [.int 0, .ref (ma 1), .int 7, .int 0, .int 0, .int 0, .int 0, .int 0, .int (-1), .ref (ma 9), .ref (ma 10), .ref (ma 11), .ref (ma 12), .ref (ma 13), .ref (ma 14), .ref (ma 15), .int 0, .int 0, .int 0, .ref (ma 19), .ref (ma 20), .ref (ma 21), .int 0, .ref (ma 23), .ref (ma 24), .ref (ma 25), .ref (ma 26), .ref (ma 27), .ref (ma 28), .int 0, .int 0, .int 0, .int 0, .ref (ma 33), .int (-1), .ref (ma 35), .int 0, .int 0])), ((ma 9), .inl (cy 0, 600, .inl f_16))] H ∧ va_D A [(mo, .inr (12, [.int 0, .ref (ma 1), .int 7, .int 0, .int 0, .int 0, .int 0, .int 0, .int (-1), .ref (ma 9), .ref (ma 10), .ref (ma 11), .ref (ma 12), .ref (ma 13), .ref (ma 14), .ref (ma 15), .int 0, .int 0, .int 0, .ref (ma 19), .ref (ma 20), .ref (ma 21), .int 0, .ref (ma 23), .ref (ma 24), .ref (ma 25), .ref (ma 26), .ref (ma 27), .ref (ma 28), .int 0, .int 0, .int 0, .int 0, .ref (ma 33), .int (-1), .ref (ma 35), .int 0, .int 0])), ((ma 9), .inl (cy 0, 600, .inl f_16))] := ⟨_, hP, hD⟩
  refine lv_aload_n hx hb dX12_feed_104 rfl (lv_at hlv 2 rfl) ?_
  refine lv_dup hx hb dX12_feed_105 rfl ?_
  refine va_get (D := D) (ci := 12) (v := .int 7) (C := RX12) (T := TX12) (N := 38) hx hb hts hi12 hown hG.1 hP 0 rfl rfl 2 (by decide) lf77 (fun _ h9 => h9) rfl dX12_feed_106 ?_
  refine lv_iconst (v := 1) hx hb dX12_feed_109 (by decide) ?_
  refine lv_iadd hx hb dX12_feed_110 ?_
  refine lt_i (y := 8) (by decide) ?_
  refine va_put (D := D) (ci := 12) (v := .int 8) (ty := .int) (C := RX12) (T := TX12) (N := 38) hx hb hts hi12 tyX12 tyX12_ok nmX12 hown hG.1 hP hD hS 0 rfl rfl 2 (by decide) lf77 (fun _ h9 => h9) rfl (by decide +kernel) rfl rfl (Nat.le_of_ble_eq_true rfl) dX12_feed_111 (fun H locs hP hD hS => ?_)
  have hP : va_P D vwCl [(mo, .inr (12, [.int 0, .ref (ma 1), .int 8, .int 0, .int 0, .int 0, .int 0, .int 0, .int (-1), .ref (ma 9), .ref (ma 10), .ref (ma 11), .ref (ma 12), .ref (ma 13), .ref (ma 14), .ref (ma 15), .int 0, .int 0, .int 0, .ref (ma 19), .ref (ma 20), .ref (ma 21), .int 0, .ref (ma 23), .ref (ma 24), .ref (ma 25), .ref (ma 26), .ref (ma 27), .ref (ma 28), .int 0, .int 0, .int 0, .int 0, .ref (ma 33), .int (-1), .ref (ma 35), .int 0, .int 0])), ((ma 9), .inl (cy 0, 600, .inl f_16))] H := hP
  have hD : va_D A [(mo, .inr (12, [.int 0, .ref (ma 1), .int 8, .int 0, .int 0, .int 0, .int 0, .int 0, .int (-1), .ref (ma 9), .ref (ma 10), .ref (ma 11), .ref (ma 12), .ref (ma 13), .ref (ma 14), .ref (ma 15), .int 0, .int 0, .int 0, .ref (ma 19), .ref (ma 20), .ref (ma 21), .int 0, .ref (ma 23), .ref (ma 24), .ref (ma 25), .ref (ma 26), .ref (ma 27), .ref (ma 28), .int 0, .int 0, .int 0, .int 0, .ref (ma 33), .int (-1), .ref (ma 35), .int 0, .int 0])), ((ma 9), .inl (cy 0, 600, .inl f_16))] := hD
  refine lv_iinc (v := 8) (lv' := [(6, .int 8), (7, .int p1), (0, .ref mo), (1, .int p0), (2, .int p1), (3, .int p2), (4, .int p3), (5, .int p4)]) hx hb dX12_feed_114 hlv (k := 1) rfl (by decide) (by decide) rfl (fun ls hlv => ?_)
  refine lv_goto (tgt := 23) hx hb dX12_feed_117 (by decide) ?_
  refine lv_iload hx hb dX12_feed_23 (lv_at hlv 0 rfl) ?_
  refine lv_bipush (v := 20) hx hb dX12_feed_25 (by decide) ?_
  refine lv_icmp_ge (tgt := 120) hx hb dX12_feed_27 (by decide) (fun c => absurd c (by decide)) (fun _ => ?_)
  refine lv_iload hx hb dX12_feed_30 (lv_at hlv 0 rfl) ?_
  refine lv_iconst (v := 4) hx hb dX12_feed_32 (by decide) ?_
  refine lv_icmp_ge (tgt := 40) hx hb dX12_feed_33 (by decide) (fun _ => ?_) (fun c => absurd (by decide) c)
  refine lv_iload hx hb dX12_feed_40 (lv_at hlv 0 rfl) ?_
  refine lv_bipush (v := 8) hx hb dX12_feed_42 (by decide) ?_
  refine lv_icmp_ge (tgt := 51) hx hb dX12_feed_44 (by decide) (fun _ => ?_) (fun c => absurd (by decide) c)
  refine lv_iload hx hb dX12_feed_51 (lv_at hlv 0 rfl) ?_
  refine lv_bipush (v := 12) hx hb dX12_feed_53 (by decide) ?_
  refine lv_icmp_ge (tgt := 62) hx hb dX12_feed_55 (by decide) (fun c => absurd c (by decide)) (fun _ => ?_)
  refine lv_iload_n hx hb dX12_feed_58 rfl (lv_at hlv 5 rfl) ?_
  refine lv_goto (tgt := 76) hx hb dX12_feed_59 (by decide) ?_
  refine lv_istore (lv' := [(7, .int p2), (6, .int 8), (0, .ref mo), (1, .int p0), (2, .int p1), (3, .int p2), (4, .int p3), (5, .int p4)]) hx hb dX12_feed_76 hlv (by decide) rfl (fun ls hlv => ?_)
  refine lv_aload_n hx hb dX12_feed_78 rfl (lv_at hlv 2 rfl) ?_
  refine va_get (D := D) (ci := 12) (v := .ref (ma 9)) (C := RX12) (T := TX12) (N := 38) hx hb hts hi12 hown hG.1 hP 0 rfl rfl 9 (by decide) lf20 (fun _ h9 => h9) rfl dX12_feed_79 ?_
  refine lv_aload_n hx hb dX12_feed_82 rfl (lv_at hlv 2 rfl) ?_
  refine va_get (D := D) (ci := 12) (v := .int 8) (C := RX12) (T := TX12) (N := 38) hx hb hts hi12 hown hG.1 hP 0 rfl rfl 2 (by decide) lf77 (fun _ h9 => h9) rfl dX12_feed_83 ?_
  refine lv_iload hx hb dX12_feed_86 (lv_at hlv 0 rfl) ?_
  refine lv_bipush (v := 24) hx hb dX12_feed_88 (by decide) ?_
  refine lv_bipush (v := 8) hx hb dX12_feed_90 (by decide) ?_
  refine lv_iload hx hb dX12_feed_92 (lv_at hlv 1 rfl) ?_
  refine lv_iconst (v := 4) hx hb dX12_feed_94 (by decide) ?_
  refine lv_irem hx hb dX12_feed_95 (by decide) ?_
  refine lt_i (y := 0) (by decide) ?_
  refine lv_imul hx hb dX12_feed_96 ?_
  refine lt_i (y := 0) (by decide) ?_
  refine lv_isub hx hb dX12_feed_97 ?_
  refine lt_i (y := 24) (by decide) ?_
  refine lv_ishr hx hb dX12_feed_98 ?_
  refine lv_topi (fun z_17 ez_17 => ?_)
  refine lv_sipush (v := 255) hx hb dX12_feed_99 (by decide) ?_
  refine lv_iand hx hb dX12_feed_102 ?_
  refine va_iast hx hb hG.1 hP hD hS 1 0 rfl rfl (vpd (by decide)) dX12_feed_103 (fun H locs hP hD hS => ?_)
  have ⟨f_18, hP, hD⟩ : ∃ f_18 : Nat → Int32, va_P D vwCl [(mo, .inr (12, [.int 0, .ref (ma 1), .int 8, .int 0, .int 0, .int 0, .int 0, .int 0, .int (-1), .ref (ma 9), .ref (ma 10), .ref (ma 11), .ref (ma 12), .ref (ma 13), .ref (ma 14), .ref (ma 15), .int 0, .int 0, .int 0, .ref (ma 19), .ref (ma 20), .ref (ma 21), .int 0, .ref (ma 23), .ref (ma 24), .ref (ma 25), .ref (ma 26), .ref (ma 27), .ref (ma 28), .int 0, .int 0, .int 0, .int 0, .ref (ma 33), .int (-1), .ref (ma 35), .int 0, .int 0])), ((ma 9), .inl (cy 0, 600, .inl f_18))] H ∧ va_D A [(mo, .inr (12, [.int 0, .ref (ma 1), .int 8, .int 0, .int 0, .int 0, .int 0, .int 0, .int (-1), .ref (ma 9), .ref (ma 10), .ref (ma 11), .ref (ma 12), .ref (ma 13), .ref (ma 14), .ref (ma 15), .int 0, .int 0, .int 0, .ref (ma 19), .ref (ma 20), .ref (ma 21), .int 0, .ref (ma 23), .ref (ma 24), .ref (ma 25), .ref (ma 26), .ref (ma 27), .ref (ma 28), .int 0, .int 0, .int 0, .int 0, .ref (ma 33), .int (-1), .ref (ma 35), .int 0, .int 0])), ((ma 9), .inl (cy 0, 600, .inl f_18))] := ⟨_, hP, hD⟩
  refine lv_aload_n hx hb dX12_feed_104 rfl (lv_at hlv 2 rfl) ?_
  refine lv_dup hx hb dX12_feed_105 rfl ?_
  refine va_get (D := D) (ci := 12) (v := .int 8) (C := RX12) (T := TX12) (N := 38) hx hb hts hi12 hown hG.1 hP 0 rfl rfl 2 (by decide) lf77 (fun _ h9 => h9) rfl dX12_feed_106 ?_
  refine lv_iconst (v := 1) hx hb dX12_feed_109 (by decide) ?_
  refine lv_iadd hx hb dX12_feed_110 ?_
  refine lt_i (y := 9) (by decide) ?_
  refine va_put (D := D) (ci := 12) (v := .int 9) (ty := .int) (C := RX12) (T := TX12) (N := 38) hx hb hts hi12 tyX12 tyX12_ok nmX12 hown hG.1 hP hD hS 0 rfl rfl 2 (by decide) lf77 (fun _ h9 => h9) rfl (by decide +kernel) rfl rfl (Nat.le_of_ble_eq_true rfl) dX12_feed_111 (fun H locs hP hD hS => ?_)
  have hP : va_P D vwCl [(mo, .inr (12, [.int 0, .ref (ma 1), .int 9, .int 0, .int 0, .int 0, .int 0, .int 0, .int (-1), .ref (ma 9), .ref (ma 10), .ref (ma 11), .ref (ma 12), .ref (ma 13), .ref (ma 14), .ref (ma 15), .int 0, .int 0, .int 0, .ref (ma 19), .ref (ma 20), .ref (ma 21), .int 0, .ref (ma 23), .ref (ma 24), .ref (ma 25), .ref (ma 26), .ref (ma 27), .ref (ma 28), .int 0, .int 0, .int 0, .int 0, .ref (ma 33), .int (-1), .ref (ma 35), .int 0, .int 0])), ((ma 9), .inl (cy 0, 600, .inl f_18))] H := hP
  have hD : va_D A [(mo, .inr (12, [.int 0, .ref (ma 1), .int 9, .int 0, .int 0, .int 0, .int 0, .int 0, .int (-1), .ref (ma 9), .ref (ma 10), .ref (ma 11), .ref (ma 12), .ref (ma 13), .ref (ma 14), .ref (ma 15), .int 0, .int 0, .int 0, .ref (ma 19), .ref (ma 20), .ref (ma 21), .int 0, .ref (ma 23), .ref (ma 24), .ref (ma 25), .ref (ma 26), .ref (ma 27), .ref (ma 28), .int 0, .int 0, .int 0, .int 0, .ref (ma 33), .int (-1), .ref (ma 35), .int 0, .int 0])), ((ma 9), .inl (cy 0, 600, .inl f_18))] := hD
  refine lv_iinc (v := 9) (lv' := [(6, .int 9), (7, .int p2), (0, .ref mo), (1, .int p0), (2, .int p1), (3, .int p2), (4, .int p3), (5, .int p4)]) hx hb dX12_feed_114 hlv (k := 1) rfl (by decide) (by decide) rfl (fun ls hlv => ?_)
  refine lv_goto (tgt := 23) hx hb dX12_feed_117 (by decide) ?_
  refine lv_iload hx hb dX12_feed_23 (lv_at hlv 0 rfl) ?_
  refine lv_bipush (v := 20) hx hb dX12_feed_25 (by decide) ?_
  refine lv_icmp_ge (tgt := 120) hx hb dX12_feed_27 (by decide) (fun c => absurd c (by decide)) (fun _ => ?_)
  refine lv_iload hx hb dX12_feed_30 (lv_at hlv 0 rfl) ?_
  refine lv_iconst (v := 4) hx hb dX12_feed_32 (by decide) ?_
  refine lv_icmp_ge (tgt := 40) hx hb dX12_feed_33 (by decide) (fun _ => ?_) (fun c => absurd (by decide) c)
  refine lv_iload hx hb dX12_feed_40 (lv_at hlv 0 rfl) ?_
  refine lv_bipush (v := 8) hx hb dX12_feed_42 (by decide) ?_
  refine lv_icmp_ge (tgt := 51) hx hb dX12_feed_44 (by decide) (fun _ => ?_) (fun c => absurd (by decide) c)
  refine lv_iload hx hb dX12_feed_51 (lv_at hlv 0 rfl) ?_
  refine lv_bipush (v := 12) hx hb dX12_feed_53 (by decide) ?_
  refine lv_icmp_ge (tgt := 62) hx hb dX12_feed_55 (by decide) (fun c => absurd c (by decide)) (fun _ => ?_)
  refine lv_iload_n hx hb dX12_feed_58 rfl (lv_at hlv 5 rfl) ?_
  refine lv_goto (tgt := 76) hx hb dX12_feed_59 (by decide) ?_
  refine lv_istore (lv' := [(7, .int p2), (6, .int 9), (0, .ref mo), (1, .int p0), (2, .int p1), (3, .int p2), (4, .int p3), (5, .int p4)]) hx hb dX12_feed_76 hlv (by decide) rfl (fun ls hlv => ?_)
  refine lv_aload_n hx hb dX12_feed_78 rfl (lv_at hlv 2 rfl) ?_
  refine va_get (D := D) (ci := 12) (v := .ref (ma 9)) (C := RX12) (T := TX12) (N := 38) hx hb hts hi12 hown hG.1 hP 0 rfl rfl 9 (by decide) lf20 (fun _ h9 => h9) rfl dX12_feed_79 ?_
  refine lv_aload_n hx hb dX12_feed_82 rfl (lv_at hlv 2 rfl) ?_
  refine va_get (D := D) (ci := 12) (v := .int 9) (C := RX12) (T := TX12) (N := 38) hx hb hts hi12 hown hG.1 hP 0 rfl rfl 2 (by decide) lf77 (fun _ h9 => h9) rfl dX12_feed_83 ?_
  refine lv_iload hx hb dX12_feed_86 (lv_at hlv 0 rfl) ?_
  refine lv_bipush (v := 24) hx hb dX12_feed_88 (by decide) ?_
  refine lv_bipush (v := 8) hx hb dX12_feed_90 (by decide) ?_
  refine lv_iload hx hb dX12_feed_92 (lv_at hlv 1 rfl) ?_
  refine lv_iconst (v := 4) hx hb dX12_feed_94 (by decide) ?_
  refine lv_irem hx hb dX12_feed_95 (by decide) ?_
  refine lt_i (y := 1) (by decide) ?_
  refine lv_imul hx hb dX12_feed_96 ?_
  refine lt_i (y := 8) (by decide) ?_
  refine lv_isub hx hb dX12_feed_97 ?_
  refine lt_i (y := 16) (by decide) ?_
  refine lv_ishr hx hb dX12_feed_98 ?_
  refine lv_topi (fun z_19 ez_19 => ?_)
  refine lv_sipush (v := 255) hx hb dX12_feed_99 (by decide) ?_
  refine lv_iand hx hb dX12_feed_102 ?_
  refine va_iast hx hb hG.1 hP hD hS 1 0 rfl rfl (vpd (by decide)) dX12_feed_103 (fun H locs hP hD hS => ?_)
  have ⟨f_20, hP, hD⟩ : ∃ f_20 : Nat → Int32, va_P D vwCl [(mo, .inr (12, [.int 0, .ref (ma 1), .int 9, .int 0, .int 0, .int 0, .int 0, .int 0, .int (-1), .ref (ma 9), .ref (ma 10), .ref (ma 11), .ref (ma 12), .ref (ma 13), .ref (ma 14), .ref (ma 15), .int 0, .int 0, .int 0, .ref (ma 19), .ref (ma 20), .ref (ma 21), .int 0, .ref (ma 23), .ref (ma 24), .ref (ma 25), .ref (ma 26), .ref (ma 27), .ref (ma 28), .int 0, .int 0, .int 0, .int 0, .ref (ma 33), .int (-1), .ref (ma 35), .int 0, .int 0])), ((ma 9), .inl (cy 0, 600, .inl f_20))] H ∧ va_D A [(mo, .inr (12, [.int 0, .ref (ma 1), .int 9, .int 0, .int 0, .int 0, .int 0, .int 0, .int (-1), .ref (ma 9), .ref (ma 10), .ref (ma 11), .ref (ma 12), .ref (ma 13), .ref (ma 14), .ref (ma 15), .int 0, .int 0, .int 0, .ref (ma 19), .ref (ma 20), .ref (ma 21), .int 0, .ref (ma 23), .ref (ma 24), .ref (ma 25), .ref (ma 26), .ref (ma 27), .ref (ma 28), .int 0, .int 0, .int 0, .int 0, .ref (ma 33), .int (-1), .ref (ma 35), .int 0, .int 0])), ((ma 9), .inl (cy 0, 600, .inl f_20))] := ⟨_, hP, hD⟩
  refine lv_aload_n hx hb dX12_feed_104 rfl (lv_at hlv 2 rfl) ?_
  refine lv_dup hx hb dX12_feed_105 rfl ?_
  refine va_get (D := D) (ci := 12) (v := .int 9) (C := RX12) (T := TX12) (N := 38) hx hb hts hi12 hown hG.1 hP 0 rfl rfl 2 (by decide) lf77 (fun _ h9 => h9) rfl dX12_feed_106 ?_
  refine lv_iconst (v := 1) hx hb dX12_feed_109 (by decide) ?_
  refine lv_iadd hx hb dX12_feed_110 ?_
  refine lt_i (y := 10) (by decide) ?_
  refine va_put (D := D) (ci := 12) (v := .int 10) (ty := .int) (C := RX12) (T := TX12) (N := 38) hx hb hts hi12 tyX12 tyX12_ok nmX12 hown hG.1 hP hD hS 0 rfl rfl 2 (by decide) lf77 (fun _ h9 => h9) rfl (by decide +kernel) rfl rfl (Nat.le_of_ble_eq_true rfl) dX12_feed_111 (fun H locs hP hD hS => ?_)
  have hP : va_P D vwCl [(mo, .inr (12, [.int 0, .ref (ma 1), .int 10, .int 0, .int 0, .int 0, .int 0, .int 0, .int (-1), .ref (ma 9), .ref (ma 10), .ref (ma 11), .ref (ma 12), .ref (ma 13), .ref (ma 14), .ref (ma 15), .int 0, .int 0, .int 0, .ref (ma 19), .ref (ma 20), .ref (ma 21), .int 0, .ref (ma 23), .ref (ma 24), .ref (ma 25), .ref (ma 26), .ref (ma 27), .ref (ma 28), .int 0, .int 0, .int 0, .int 0, .ref (ma 33), .int (-1), .ref (ma 35), .int 0, .int 0])), ((ma 9), .inl (cy 0, 600, .inl f_20))] H := hP
  have hD : va_D A [(mo, .inr (12, [.int 0, .ref (ma 1), .int 10, .int 0, .int 0, .int 0, .int 0, .int 0, .int (-1), .ref (ma 9), .ref (ma 10), .ref (ma 11), .ref (ma 12), .ref (ma 13), .ref (ma 14), .ref (ma 15), .int 0, .int 0, .int 0, .ref (ma 19), .ref (ma 20), .ref (ma 21), .int 0, .ref (ma 23), .ref (ma 24), .ref (ma 25), .ref (ma 26), .ref (ma 27), .ref (ma 28), .int 0, .int 0, .int 0, .int 0, .ref (ma 33), .int (-1), .ref (ma 35), .int 0, .int 0])), ((ma 9), .inl (cy 0, 600, .inl f_20))] := hD
  refine lv_iinc (v := 10) (lv' := [(6, .int 10), (7, .int p2), (0, .ref mo), (1, .int p0), (2, .int p1), (3, .int p2), (4, .int p3), (5, .int p4)]) hx hb dX12_feed_114 hlv (k := 1) rfl (by decide) (by decide) rfl (fun ls hlv => ?_)
  refine lv_goto (tgt := 23) hx hb dX12_feed_117 (by decide) ?_
  refine lv_iload hx hb dX12_feed_23 (lv_at hlv 0 rfl) ?_
  refine lv_bipush (v := 20) hx hb dX12_feed_25 (by decide) ?_
  refine lv_icmp_ge (tgt := 120) hx hb dX12_feed_27 (by decide) (fun c => absurd c (by decide)) (fun _ => ?_)
  refine lv_iload hx hb dX12_feed_30 (lv_at hlv 0 rfl) ?_
  refine lv_iconst (v := 4) hx hb dX12_feed_32 (by decide) ?_
  refine lv_icmp_ge (tgt := 40) hx hb dX12_feed_33 (by decide) (fun _ => ?_) (fun c => absurd (by decide) c)
  refine lv_iload hx hb dX12_feed_40 (lv_at hlv 0 rfl) ?_
  refine lv_bipush (v := 8) hx hb dX12_feed_42 (by decide) ?_
  refine lv_icmp_ge (tgt := 51) hx hb dX12_feed_44 (by decide) (fun _ => ?_) (fun c => absurd (by decide) c)
  refine lv_iload hx hb dX12_feed_51 (lv_at hlv 0 rfl) ?_
  refine lv_bipush (v := 12) hx hb dX12_feed_53 (by decide) ?_
  refine lv_icmp_ge (tgt := 62) hx hb dX12_feed_55 (by decide) (fun c => absurd c (by decide)) (fun _ => ?_)
  refine lv_iload_n hx hb dX12_feed_58 rfl (lv_at hlv 5 rfl) ?_
  refine lv_goto (tgt := 76) hx hb dX12_feed_59 (by decide) ?_
  refine lv_istore (lv' := [(7, .int p2), (6, .int 10), (0, .ref mo), (1, .int p0), (2, .int p1), (3, .int p2), (4, .int p3), (5, .int p4)]) hx hb dX12_feed_76 hlv (by decide) rfl (fun ls hlv => ?_)
  refine lv_aload_n hx hb dX12_feed_78 rfl (lv_at hlv 2 rfl) ?_
  refine va_get (D := D) (ci := 12) (v := .ref (ma 9)) (C := RX12) (T := TX12) (N := 38) hx hb hts hi12 hown hG.1 hP 0 rfl rfl 9 (by decide) lf20 (fun _ h9 => h9) rfl dX12_feed_79 ?_
  refine lv_aload_n hx hb dX12_feed_82 rfl (lv_at hlv 2 rfl) ?_
  refine va_get (D := D) (ci := 12) (v := .int 10) (C := RX12) (T := TX12) (N := 38) hx hb hts hi12 hown hG.1 hP 0 rfl rfl 2 (by decide) lf77 (fun _ h9 => h9) rfl dX12_feed_83 ?_
  refine lv_iload hx hb dX12_feed_86 (lv_at hlv 0 rfl) ?_
  refine lv_bipush (v := 24) hx hb dX12_feed_88 (by decide) ?_
  refine lv_bipush (v := 8) hx hb dX12_feed_90 (by decide) ?_
  refine lv_iload hx hb dX12_feed_92 (lv_at hlv 1 rfl) ?_
  refine lv_iconst (v := 4) hx hb dX12_feed_94 (by decide) ?_
  refine lv_irem hx hb dX12_feed_95 (by decide) ?_
  refine lt_i (y := 2) (by decide) ?_
  refine lv_imul hx hb dX12_feed_96 ?_
  refine lt_i (y := 16) (by decide) ?_
  refine lv_isub hx hb dX12_feed_97 ?_
  refine lt_i (y := 8) (by decide) ?_
  refine lv_ishr hx hb dX12_feed_98 ?_
  refine lv_topi (fun z_21 ez_21 => ?_)
  refine lv_sipush (v := 255) hx hb dX12_feed_99 (by decide) ?_
  refine lv_iand hx hb dX12_feed_102 ?_
  refine va_iast hx hb hG.1 hP hD hS 1 0 rfl rfl (vpd (by decide)) dX12_feed_103 (fun H locs hP hD hS => ?_)
  have ⟨f_22, hP, hD⟩ : ∃ f_22 : Nat → Int32, va_P D vwCl [(mo, .inr (12, [.int 0, .ref (ma 1), .int 10, .int 0, .int 0, .int 0, .int 0, .int 0, .int (-1), .ref (ma 9), .ref (ma 10), .ref (ma 11), .ref (ma 12), .ref (ma 13), .ref (ma 14), .ref (ma 15), .int 0, .int 0, .int 0, .ref (ma 19), .ref (ma 20), .ref (ma 21), .int 0, .ref (ma 23), .ref (ma 24), .ref (ma 25), .ref (ma 26), .ref (ma 27), .ref (ma 28), .int 0, .int 0, .int 0, .int 0, .ref (ma 33), .int (-1), .ref (ma 35), .int 0, .int 0])), ((ma 9), .inl (cy 0, 600, .inl f_22))] H ∧ va_D A [(mo, .inr (12, [.int 0, .ref (ma 1), .int 10, .int 0, .int 0, .int 0, .int 0, .int 0, .int (-1), .ref (ma 9), .ref (ma 10), .ref (ma 11), .ref (ma 12), .ref (ma 13), .ref (ma 14), .ref (ma 15), .int 0, .int 0, .int 0, .ref (ma 19), .ref (ma 20), .ref (ma 21), .int 0, .ref (ma 23), .ref (ma 24), .ref (ma 25), .ref (ma 26), .ref (ma 27), .ref (ma 28), .int 0, .int 0, .int 0, .int 0, .ref (ma 33), .int (-1), .ref (ma 35), .int 0, .int 0])), ((ma 9), .inl (cy 0, 600, .inl f_22))] := ⟨_, hP, hD⟩
  refine lv_aload_n hx hb dX12_feed_104 rfl (lv_at hlv 2 rfl) ?_
  refine lv_dup hx hb dX12_feed_105 rfl ?_
  refine va_get (D := D) (ci := 12) (v := .int 10) (C := RX12) (T := TX12) (N := 38) hx hb hts hi12 hown hG.1 hP 0 rfl rfl 2 (by decide) lf77 (fun _ h9 => h9) rfl dX12_feed_106 ?_
  refine lv_iconst (v := 1) hx hb dX12_feed_109 (by decide) ?_
  refine lv_iadd hx hb dX12_feed_110 ?_
  refine lt_i (y := 11) (by decide) ?_
  refine va_put (D := D) (ci := 12) (v := .int 11) (ty := .int) (C := RX12) (T := TX12) (N := 38) hx hb hts hi12 tyX12 tyX12_ok nmX12 hown hG.1 hP hD hS 0 rfl rfl 2 (by decide) lf77 (fun _ h9 => h9) rfl (by decide +kernel) rfl rfl (Nat.le_of_ble_eq_true rfl) dX12_feed_111 (fun H locs hP hD hS => ?_)
  have hP : va_P D vwCl [(mo, .inr (12, [.int 0, .ref (ma 1), .int 11, .int 0, .int 0, .int 0, .int 0, .int 0, .int (-1), .ref (ma 9), .ref (ma 10), .ref (ma 11), .ref (ma 12), .ref (ma 13), .ref (ma 14), .ref (ma 15), .int 0, .int 0, .int 0, .ref (ma 19), .ref (ma 20), .ref (ma 21), .int 0, .ref (ma 23), .ref (ma 24), .ref (ma 25), .ref (ma 26), .ref (ma 27), .ref (ma 28), .int 0, .int 0, .int 0, .int 0, .ref (ma 33), .int (-1), .ref (ma 35), .int 0, .int 0])), ((ma 9), .inl (cy 0, 600, .inl f_22))] H := hP
  have hD : va_D A [(mo, .inr (12, [.int 0, .ref (ma 1), .int 11, .int 0, .int 0, .int 0, .int 0, .int 0, .int (-1), .ref (ma 9), .ref (ma 10), .ref (ma 11), .ref (ma 12), .ref (ma 13), .ref (ma 14), .ref (ma 15), .int 0, .int 0, .int 0, .ref (ma 19), .ref (ma 20), .ref (ma 21), .int 0, .ref (ma 23), .ref (ma 24), .ref (ma 25), .ref (ma 26), .ref (ma 27), .ref (ma 28), .int 0, .int 0, .int 0, .int 0, .ref (ma 33), .int (-1), .ref (ma 35), .int 0, .int 0])), ((ma 9), .inl (cy 0, 600, .inl f_22))] := hD
  refine lv_iinc (v := 11) (lv' := [(6, .int 11), (7, .int p2), (0, .ref mo), (1, .int p0), (2, .int p1), (3, .int p2), (4, .int p3), (5, .int p4)]) hx hb dX12_feed_114 hlv (k := 1) rfl (by decide) (by decide) rfl (fun ls hlv => ?_)
  refine lv_goto (tgt := 23) hx hb dX12_feed_117 (by decide) ?_
  refine lv_iload hx hb dX12_feed_23 (lv_at hlv 0 rfl) ?_
  refine lv_bipush (v := 20) hx hb dX12_feed_25 (by decide) ?_
  refine lv_icmp_ge (tgt := 120) hx hb dX12_feed_27 (by decide) (fun c => absurd c (by decide)) (fun _ => ?_)
  refine lv_iload hx hb dX12_feed_30 (lv_at hlv 0 rfl) ?_
  refine lv_iconst (v := 4) hx hb dX12_feed_32 (by decide) ?_
  refine lv_icmp_ge (tgt := 40) hx hb dX12_feed_33 (by decide) (fun _ => ?_) (fun c => absurd (by decide) c)
  refine lv_iload hx hb dX12_feed_40 (lv_at hlv 0 rfl) ?_
  refine lv_bipush (v := 8) hx hb dX12_feed_42 (by decide) ?_
  refine lv_icmp_ge (tgt := 51) hx hb dX12_feed_44 (by decide) (fun _ => ?_) (fun c => absurd (by decide) c)
  refine lv_iload hx hb dX12_feed_51 (lv_at hlv 0 rfl) ?_
  refine lv_bipush (v := 12) hx hb dX12_feed_53 (by decide) ?_
  refine lv_icmp_ge (tgt := 62) hx hb dX12_feed_55 (by decide) (fun c => absurd c (by decide)) (fun _ => ?_)
  refine lv_iload_n hx hb dX12_feed_58 rfl (lv_at hlv 5 rfl) ?_
  refine lv_goto (tgt := 76) hx hb dX12_feed_59 (by decide) ?_
  refine lv_istore (lv' := [(7, .int p2), (6, .int 11), (0, .ref mo), (1, .int p0), (2, .int p1), (3, .int p2), (4, .int p3), (5, .int p4)]) hx hb dX12_feed_76 hlv (by decide) rfl (fun ls hlv => ?_)
  refine lv_aload_n hx hb dX12_feed_78 rfl (lv_at hlv 2 rfl) ?_
  refine va_get (D := D) (ci := 12) (v := .ref (ma 9)) (C := RX12) (T := TX12) (N := 38) hx hb hts hi12 hown hG.1 hP 0 rfl rfl 9 (by decide) lf20 (fun _ h9 => h9) rfl dX12_feed_79 ?_
  refine lv_aload_n hx hb dX12_feed_82 rfl (lv_at hlv 2 rfl) ?_
  refine va_get (D := D) (ci := 12) (v := .int 11) (C := RX12) (T := TX12) (N := 38) hx hb hts hi12 hown hG.1 hP 0 rfl rfl 2 (by decide) lf77 (fun _ h9 => h9) rfl dX12_feed_83 ?_
  refine lv_iload hx hb dX12_feed_86 (lv_at hlv 0 rfl) ?_
  refine lv_bipush (v := 24) hx hb dX12_feed_88 (by decide) ?_
  refine lv_bipush (v := 8) hx hb dX12_feed_90 (by decide) ?_
  refine lv_iload hx hb dX12_feed_92 (lv_at hlv 1 rfl) ?_
  refine lv_iconst (v := 4) hx hb dX12_feed_94 (by decide) ?_
  refine lv_irem hx hb dX12_feed_95 (by decide) ?_
  refine lt_i (y := 3) (by decide) ?_
  refine lv_imul hx hb dX12_feed_96 ?_
  refine lt_i (y := 24) (by decide) ?_
  refine lv_isub hx hb dX12_feed_97 ?_
  refine lt_i (y := 0) (by decide) ?_
  refine lv_ishr hx hb dX12_feed_98 ?_
  refine lv_topi (fun z_23 ez_23 => ?_)
  refine lv_sipush (v := 255) hx hb dX12_feed_99 (by decide) ?_
  refine lv_iand hx hb dX12_feed_102 ?_
  refine va_iast hx hb hG.1 hP hD hS 1 0 rfl rfl (vpd (by decide)) dX12_feed_103 (fun H locs hP hD hS => ?_)
  have ⟨f_24, hP, hD⟩ : ∃ f_24 : Nat → Int32, va_P D vwCl [(mo, .inr (12, [.int 0, .ref (ma 1), .int 11, .int 0, .int 0, .int 0, .int 0, .int 0, .int (-1), .ref (ma 9), .ref (ma 10), .ref (ma 11), .ref (ma 12), .ref (ma 13), .ref (ma 14), .ref (ma 15), .int 0, .int 0, .int 0, .ref (ma 19), .ref (ma 20), .ref (ma 21), .int 0, .ref (ma 23), .ref (ma 24), .ref (ma 25), .ref (ma 26), .ref (ma 27), .ref (ma 28), .int 0, .int 0, .int 0, .int 0, .ref (ma 33), .int (-1), .ref (ma 35), .int 0, .int 0])), ((ma 9), .inl (cy 0, 600, .inl f_24))] H ∧ va_D A [(mo, .inr (12, [.int 0, .ref (ma 1), .int 11, .int 0, .int 0, .int 0, .int 0, .int 0, .int (-1), .ref (ma 9), .ref (ma 10), .ref (ma 11), .ref (ma 12), .ref (ma 13), .ref (ma 14), .ref (ma 15), .int 0, .int 0, .int 0, .ref (ma 19), .ref (ma 20), .ref (ma 21), .int 0, .ref (ma 23), .ref (ma 24), .ref (ma 25), .ref (ma 26), .ref (ma 27), .ref (ma 28), .int 0, .int 0, .int 0, .int 0, .ref (ma 33), .int (-1), .ref (ma 35), .int 0, .int 0])), ((ma 9), .inl (cy 0, 600, .inl f_24))] := ⟨_, hP, hD⟩
  refine lv_aload_n hx hb dX12_feed_104 rfl (lv_at hlv 2 rfl) ?_
  refine lv_dup hx hb dX12_feed_105 rfl ?_
  refine va_get (D := D) (ci := 12) (v := .int 11) (C := RX12) (T := TX12) (N := 38) hx hb hts hi12 hown hG.1 hP 0 rfl rfl 2 (by decide) lf77 (fun _ h9 => h9) rfl dX12_feed_106 ?_
  refine lv_iconst (v := 1) hx hb dX12_feed_109 (by decide) ?_
  refine lv_iadd hx hb dX12_feed_110 ?_
  refine lt_i (y := 12) (by decide) ?_
  refine va_put (D := D) (ci := 12) (v := .int 12) (ty := .int) (C := RX12) (T := TX12) (N := 38) hx hb hts hi12 tyX12 tyX12_ok nmX12 hown hG.1 hP hD hS 0 rfl rfl 2 (by decide) lf77 (fun _ h9 => h9) rfl (by decide +kernel) rfl rfl (Nat.le_of_ble_eq_true rfl) dX12_feed_111 (fun H locs hP hD hS => ?_)
  have hP : va_P D vwCl [(mo, .inr (12, [.int 0, .ref (ma 1), .int 12, .int 0, .int 0, .int 0, .int 0, .int 0, .int (-1), .ref (ma 9), .ref (ma 10), .ref (ma 11), .ref (ma 12), .ref (ma 13), .ref (ma 14), .ref (ma 15), .int 0, .int 0, .int 0, .ref (ma 19), .ref (ma 20), .ref (ma 21), .int 0, .ref (ma 23), .ref (ma 24), .ref (ma 25), .ref (ma 26), .ref (ma 27), .ref (ma 28), .int 0, .int 0, .int 0, .int 0, .ref (ma 33), .int (-1), .ref (ma 35), .int 0, .int 0])), ((ma 9), .inl (cy 0, 600, .inl f_24))] H := hP
  have hD : va_D A [(mo, .inr (12, [.int 0, .ref (ma 1), .int 12, .int 0, .int 0, .int 0, .int 0, .int 0, .int (-1), .ref (ma 9), .ref (ma 10), .ref (ma 11), .ref (ma 12), .ref (ma 13), .ref (ma 14), .ref (ma 15), .int 0, .int 0, .int 0, .ref (ma 19), .ref (ma 20), .ref (ma 21), .int 0, .ref (ma 23), .ref (ma 24), .ref (ma 25), .ref (ma 26), .ref (ma 27), .ref (ma 28), .int 0, .int 0, .int 0, .int 0, .ref (ma 33), .int (-1), .ref (ma 35), .int 0, .int 0])), ((ma 9), .inl (cy 0, 600, .inl f_24))] := hD
  refine lv_iinc (v := 12) (lv' := [(6, .int 12), (7, .int p2), (0, .ref mo), (1, .int p0), (2, .int p1), (3, .int p2), (4, .int p3), (5, .int p4)]) hx hb dX12_feed_114 hlv (k := 1) rfl (by decide) (by decide) rfl (fun ls hlv => ?_)
  refine lv_goto (tgt := 23) hx hb dX12_feed_117 (by decide) ?_
  refine lv_iload hx hb dX12_feed_23 (lv_at hlv 0 rfl) ?_
  refine lv_bipush (v := 20) hx hb dX12_feed_25 (by decide) ?_
  refine lv_icmp_ge (tgt := 120) hx hb dX12_feed_27 (by decide) (fun c => absurd c (by decide)) (fun _ => ?_)
  refine lv_iload hx hb dX12_feed_30 (lv_at hlv 0 rfl) ?_
  refine lv_iconst (v := 4) hx hb dX12_feed_32 (by decide) ?_
  refine lv_icmp_ge (tgt := 40) hx hb dX12_feed_33 (by decide) (fun _ => ?_) (fun c => absurd (by decide) c)
  refine lv_iload hx hb dX12_feed_40 (lv_at hlv 0 rfl) ?_
  refine lv_bipush (v := 8) hx hb dX12_feed_42 (by decide) ?_
  refine lv_icmp_ge (tgt := 51) hx hb dX12_feed_44 (by decide) (fun _ => ?_) (fun c => absurd (by decide) c)
  refine lv_iload hx hb dX12_feed_51 (lv_at hlv 0 rfl) ?_
  refine lv_bipush (v := 12) hx hb dX12_feed_53 (by decide) ?_
  refine lv_icmp_ge (tgt := 62) hx hb dX12_feed_55 (by decide) (fun _ => ?_) (fun c => absurd (by decide) c)
  refine lv_iload hx hb dX12_feed_62 (lv_at hlv 0 rfl) ?_
  refine lv_bipush (v := 16) hx hb dX12_feed_64 (by decide) ?_
  refine lv_icmp_ge (tgt := 74) hx hb dX12_feed_66 (by decide) (fun c => absurd c (by decide)) (fun _ => ?_)
  refine lv_iload hx hb dX12_feed_69 (lv_at hlv 6 rfl) ?_
  refine lv_goto (tgt := 76) hx hb dX12_feed_71 (by decide) ?_
  refine lv_istore (lv' := [(7, .int p3), (6, .int 12), (0, .ref mo), (1, .int p0), (2, .int p1), (3, .int p2), (4, .int p3), (5, .int p4)]) hx hb dX12_feed_76 hlv (by decide) rfl (fun ls hlv => ?_)
  refine lv_aload_n hx hb dX12_feed_78 rfl (lv_at hlv 2 rfl) ?_
  refine va_get (D := D) (ci := 12) (v := .ref (ma 9)) (C := RX12) (T := TX12) (N := 38) hx hb hts hi12 hown hG.1 hP 0 rfl rfl 9 (by decide) lf20 (fun _ h9 => h9) rfl dX12_feed_79 ?_
  refine lv_aload_n hx hb dX12_feed_82 rfl (lv_at hlv 2 rfl) ?_
  refine va_get (D := D) (ci := 12) (v := .int 12) (C := RX12) (T := TX12) (N := 38) hx hb hts hi12 hown hG.1 hP 0 rfl rfl 2 (by decide) lf77 (fun _ h9 => h9) rfl dX12_feed_83 ?_
  refine lv_iload hx hb dX12_feed_86 (lv_at hlv 0 rfl) ?_
  refine lv_bipush (v := 24) hx hb dX12_feed_88 (by decide) ?_
  refine lv_bipush (v := 8) hx hb dX12_feed_90 (by decide) ?_
  refine lv_iload hx hb dX12_feed_92 (lv_at hlv 1 rfl) ?_
  refine lv_iconst (v := 4) hx hb dX12_feed_94 (by decide) ?_
  refine lv_irem hx hb dX12_feed_95 (by decide) ?_
  refine lt_i (y := 0) (by decide) ?_
  refine lv_imul hx hb dX12_feed_96 ?_
  refine lt_i (y := 0) (by decide) ?_
  refine lv_isub hx hb dX12_feed_97 ?_
  refine lt_i (y := 24) (by decide) ?_
  refine lv_ishr hx hb dX12_feed_98 ?_
  refine lv_topi (fun z_25 ez_25 => ?_)
  refine lv_sipush (v := 255) hx hb dX12_feed_99 (by decide) ?_
  refine lv_iand hx hb dX12_feed_102 ?_
  refine va_iast hx hb hG.1 hP hD hS 1 0 rfl rfl (vpd (by decide)) dX12_feed_103 (fun H locs hP hD hS => ?_)
  have ⟨f_26, hP, hD⟩ : ∃ f_26 : Nat → Int32, va_P D vwCl [(mo, .inr (12, [.int 0, .ref (ma 1), .int 12, .int 0, .int 0, .int 0, .int 0, .int 0, .int (-1), .ref (ma 9), .ref (ma 10), .ref (ma 11), .ref (ma 12), .ref (ma 13), .ref (ma 14), .ref (ma 15), .int 0, .int 0, .int 0, .ref (ma 19), .ref (ma 20), .ref (ma 21), .int 0, .ref (ma 23), .ref (ma 24), .ref (ma 25), .ref (ma 26), .ref (ma 27), .ref (ma 28), .int 0, .int 0, .int 0, .int 0, .ref (ma 33), .int (-1), .ref (ma 35), .int 0, .int 0])), ((ma 9), .inl (cy 0, 600, .inl f_26))] H ∧ va_D A [(mo, .inr (12, [.int 0, .ref (ma 1), .int 12, .int 0, .int 0, .int 0, .int 0, .int 0, .int (-1), .ref (ma 9), .ref (ma 10), .ref (ma 11), .ref (ma 12), .ref (ma 13), .ref (ma 14), .ref (ma 15), .int 0, .int 0, .int 0, .ref (ma 19), .ref (ma 20), .ref (ma 21), .int 0, .ref (ma 23), .ref (ma 24), .ref (ma 25), .ref (ma 26), .ref (ma 27), .ref (ma 28), .int 0, .int 0, .int 0, .int 0, .ref (ma 33), .int (-1), .ref (ma 35), .int 0, .int 0])), ((ma 9), .inl (cy 0, 600, .inl f_26))] := ⟨_, hP, hD⟩
  refine lv_aload_n hx hb dX12_feed_104 rfl (lv_at hlv 2 rfl) ?_
  refine lv_dup hx hb dX12_feed_105 rfl ?_
  refine va_get (D := D) (ci := 12) (v := .int 12) (C := RX12) (T := TX12) (N := 38) hx hb hts hi12 hown hG.1 hP 0 rfl rfl 2 (by decide) lf77 (fun _ h9 => h9) rfl dX12_feed_106 ?_
  refine lv_iconst (v := 1) hx hb dX12_feed_109 (by decide) ?_
  refine lv_iadd hx hb dX12_feed_110 ?_
  refine lt_i (y := 13) (by decide) ?_
  refine va_put (D := D) (ci := 12) (v := .int 13) (ty := .int) (C := RX12) (T := TX12) (N := 38) hx hb hts hi12 tyX12 tyX12_ok nmX12 hown hG.1 hP hD hS 0 rfl rfl 2 (by decide) lf77 (fun _ h9 => h9) rfl (by decide +kernel) rfl rfl (Nat.le_of_ble_eq_true rfl) dX12_feed_111 (fun H locs hP hD hS => ?_)
  have hP : va_P D vwCl [(mo, .inr (12, [.int 0, .ref (ma 1), .int 13, .int 0, .int 0, .int 0, .int 0, .int 0, .int (-1), .ref (ma 9), .ref (ma 10), .ref (ma 11), .ref (ma 12), .ref (ma 13), .ref (ma 14), .ref (ma 15), .int 0, .int 0, .int 0, .ref (ma 19), .ref (ma 20), .ref (ma 21), .int 0, .ref (ma 23), .ref (ma 24), .ref (ma 25), .ref (ma 26), .ref (ma 27), .ref (ma 28), .int 0, .int 0, .int 0, .int 0, .ref (ma 33), .int (-1), .ref (ma 35), .int 0, .int 0])), ((ma 9), .inl (cy 0, 600, .inl f_26))] H := hP
  have hD : va_D A [(mo, .inr (12, [.int 0, .ref (ma 1), .int 13, .int 0, .int 0, .int 0, .int 0, .int 0, .int (-1), .ref (ma 9), .ref (ma 10), .ref (ma 11), .ref (ma 12), .ref (ma 13), .ref (ma 14), .ref (ma 15), .int 0, .int 0, .int 0, .ref (ma 19), .ref (ma 20), .ref (ma 21), .int 0, .ref (ma 23), .ref (ma 24), .ref (ma 25), .ref (ma 26), .ref (ma 27), .ref (ma 28), .int 0, .int 0, .int 0, .int 0, .ref (ma 33), .int (-1), .ref (ma 35), .int 0, .int 0])), ((ma 9), .inl (cy 0, 600, .inl f_26))] := hD
  refine lv_iinc (v := 13) (lv' := [(6, .int 13), (7, .int p3), (0, .ref mo), (1, .int p0), (2, .int p1), (3, .int p2), (4, .int p3), (5, .int p4)]) hx hb dX12_feed_114 hlv (k := 1) rfl (by decide) (by decide) rfl (fun ls hlv => ?_)
  refine lv_goto (tgt := 23) hx hb dX12_feed_117 (by decide) ?_
  refine lv_iload hx hb dX12_feed_23 (lv_at hlv 0 rfl) ?_
  refine lv_bipush (v := 20) hx hb dX12_feed_25 (by decide) ?_
  refine lv_icmp_ge (tgt := 120) hx hb dX12_feed_27 (by decide) (fun c => absurd c (by decide)) (fun _ => ?_)
  refine lv_iload hx hb dX12_feed_30 (lv_at hlv 0 rfl) ?_
  refine lv_iconst (v := 4) hx hb dX12_feed_32 (by decide) ?_
  refine lv_icmp_ge (tgt := 40) hx hb dX12_feed_33 (by decide) (fun _ => ?_) (fun c => absurd (by decide) c)
  refine lv_iload hx hb dX12_feed_40 (lv_at hlv 0 rfl) ?_
  refine lv_bipush (v := 8) hx hb dX12_feed_42 (by decide) ?_
  refine lv_icmp_ge (tgt := 51) hx hb dX12_feed_44 (by decide) (fun _ => ?_) (fun c => absurd (by decide) c)
  refine lv_iload hx hb dX12_feed_51 (lv_at hlv 0 rfl) ?_
  refine lv_bipush (v := 12) hx hb dX12_feed_53 (by decide) ?_
  refine lv_icmp_ge (tgt := 62) hx hb dX12_feed_55 (by decide) (fun _ => ?_) (fun c => absurd (by decide) c)
  refine lv_iload hx hb dX12_feed_62 (lv_at hlv 0 rfl) ?_
  refine lv_bipush (v := 16) hx hb dX12_feed_64 (by decide) ?_
  refine lv_icmp_ge (tgt := 74) hx hb dX12_feed_66 (by decide) (fun c => absurd c (by decide)) (fun _ => ?_)
  refine lv_iload hx hb dX12_feed_69 (lv_at hlv 6 rfl) ?_
  refine lv_goto (tgt := 76) hx hb dX12_feed_71 (by decide) ?_
  refine lv_istore (lv' := [(7, .int p3), (6, .int 13), (0, .ref mo), (1, .int p0), (2, .int p1), (3, .int p2), (4, .int p3), (5, .int p4)]) hx hb dX12_feed_76 hlv (by decide) rfl (fun ls hlv => ?_)
  refine lv_aload_n hx hb dX12_feed_78 rfl (lv_at hlv 2 rfl) ?_
  refine va_get (D := D) (ci := 12) (v := .ref (ma 9)) (C := RX12) (T := TX12) (N := 38) hx hb hts hi12 hown hG.1 hP 0 rfl rfl 9 (by decide) lf20 (fun _ h9 => h9) rfl dX12_feed_79 ?_
  refine lv_aload_n hx hb dX12_feed_82 rfl (lv_at hlv 2 rfl) ?_
  refine va_get (D := D) (ci := 12) (v := .int 13) (C := RX12) (T := TX12) (N := 38) hx hb hts hi12 hown hG.1 hP 0 rfl rfl 2 (by decide) lf77 (fun _ h9 => h9) rfl dX12_feed_83 ?_
  refine lv_iload hx hb dX12_feed_86 (lv_at hlv 0 rfl) ?_
  refine lv_bipush (v := 24) hx hb dX12_feed_88 (by decide) ?_
  refine lv_bipush (v := 8) hx hb dX12_feed_90 (by decide) ?_
  refine lv_iload hx hb dX12_feed_92 (lv_at hlv 1 rfl) ?_
  refine lv_iconst (v := 4) hx hb dX12_feed_94 (by decide) ?_
  refine lv_irem hx hb dX12_feed_95 (by decide) ?_
  refine lt_i (y := 1) (by decide) ?_
  refine lv_imul hx hb dX12_feed_96 ?_
  refine lt_i (y := 8) (by decide) ?_
  refine lv_isub hx hb dX12_feed_97 ?_
  refine lt_i (y := 16) (by decide) ?_
  refine lv_ishr hx hb dX12_feed_98 ?_
  refine lv_topi (fun z_27 ez_27 => ?_)
  refine lv_sipush (v := 255) hx hb dX12_feed_99 (by decide) ?_
  refine lv_iand hx hb dX12_feed_102 ?_
  refine va_iast hx hb hG.1 hP hD hS 1 0 rfl rfl (vpd (by decide)) dX12_feed_103 (fun H locs hP hD hS => ?_)
  have ⟨f_28, hP, hD⟩ : ∃ f_28 : Nat → Int32, va_P D vwCl [(mo, .inr (12, [.int 0, .ref (ma 1), .int 13, .int 0, .int 0, .int 0, .int 0, .int 0, .int (-1), .ref (ma 9), .ref (ma 10), .ref (ma 11), .ref (ma 12), .ref (ma 13), .ref (ma 14), .ref (ma 15), .int 0, .int 0, .int 0, .ref (ma 19), .ref (ma 20), .ref (ma 21), .int 0, .ref (ma 23), .ref (ma 24), .ref (ma 25), .ref (ma 26), .ref (ma 27), .ref (ma 28), .int 0, .int 0, .int 0, .int 0, .ref (ma 33), .int (-1), .ref (ma 35), .int 0, .int 0])), ((ma 9), .inl (cy 0, 600, .inl f_28))] H ∧ va_D A [(mo, .inr (12, [.int 0, .ref (ma 1), .int 13, .int 0, .int 0, .int 0, .int 0, .int 0, .int (-1), .ref (ma 9), .ref (ma 10), .ref (ma 11), .ref (ma 12), .ref (ma 13), .ref (ma 14), .ref (ma 15), .int 0, .int 0, .int 0, .ref (ma 19), .ref (ma 20), .ref (ma 21), .int 0, .ref (ma 23), .ref (ma 24), .ref (ma 25), .ref (ma 26), .ref (ma 27), .ref (ma 28), .int 0, .int 0, .int 0, .int 0, .ref (ma 33), .int (-1), .ref (ma 35), .int 0, .int 0])), ((ma 9), .inl (cy 0, 600, .inl f_28))] := ⟨_, hP, hD⟩
  refine lv_aload_n hx hb dX12_feed_104 rfl (lv_at hlv 2 rfl) ?_
  refine lv_dup hx hb dX12_feed_105 rfl ?_
  refine va_get (D := D) (ci := 12) (v := .int 13) (C := RX12) (T := TX12) (N := 38) hx hb hts hi12 hown hG.1 hP 0 rfl rfl 2 (by decide) lf77 (fun _ h9 => h9) rfl dX12_feed_106 ?_
  refine lv_iconst (v := 1) hx hb dX12_feed_109 (by decide) ?_
  refine lv_iadd hx hb dX12_feed_110 ?_
  refine lt_i (y := 14) (by decide) ?_
  refine va_put (D := D) (ci := 12) (v := .int 14) (ty := .int) (C := RX12) (T := TX12) (N := 38) hx hb hts hi12 tyX12 tyX12_ok nmX12 hown hG.1 hP hD hS 0 rfl rfl 2 (by decide) lf77 (fun _ h9 => h9) rfl (by decide +kernel) rfl rfl (Nat.le_of_ble_eq_true rfl) dX12_feed_111 (fun H locs hP hD hS => ?_)
  have hP : va_P D vwCl [(mo, .inr (12, [.int 0, .ref (ma 1), .int 14, .int 0, .int 0, .int 0, .int 0, .int 0, .int (-1), .ref (ma 9), .ref (ma 10), .ref (ma 11), .ref (ma 12), .ref (ma 13), .ref (ma 14), .ref (ma 15), .int 0, .int 0, .int 0, .ref (ma 19), .ref (ma 20), .ref (ma 21), .int 0, .ref (ma 23), .ref (ma 24), .ref (ma 25), .ref (ma 26), .ref (ma 27), .ref (ma 28), .int 0, .int 0, .int 0, .int 0, .ref (ma 33), .int (-1), .ref (ma 35), .int 0, .int 0])), ((ma 9), .inl (cy 0, 600, .inl f_28))] H := hP
  have hD : va_D A [(mo, .inr (12, [.int 0, .ref (ma 1), .int 14, .int 0, .int 0, .int 0, .int 0, .int 0, .int (-1), .ref (ma 9), .ref (ma 10), .ref (ma 11), .ref (ma 12), .ref (ma 13), .ref (ma 14), .ref (ma 15), .int 0, .int 0, .int 0, .ref (ma 19), .ref (ma 20), .ref (ma 21), .int 0, .ref (ma 23), .ref (ma 24), .ref (ma 25), .ref (ma 26), .ref (ma 27), .ref (ma 28), .int 0, .int 0, .int 0, .int 0, .ref (ma 33), .int (-1), .ref (ma 35), .int 0, .int 0])), ((ma 9), .inl (cy 0, 600, .inl f_28))] := hD
  refine lv_iinc (v := 14) (lv' := [(6, .int 14), (7, .int p3), (0, .ref mo), (1, .int p0), (2, .int p1), (3, .int p2), (4, .int p3), (5, .int p4)]) hx hb dX12_feed_114 hlv (k := 1) rfl (by decide) (by decide) rfl (fun ls hlv => ?_)
  refine lv_goto (tgt := 23) hx hb dX12_feed_117 (by decide) ?_
  refine lv_iload hx hb dX12_feed_23 (lv_at hlv 0 rfl) ?_
  refine lv_bipush (v := 20) hx hb dX12_feed_25 (by decide) ?_
  refine lv_icmp_ge (tgt := 120) hx hb dX12_feed_27 (by decide) (fun c => absurd c (by decide)) (fun _ => ?_)
  refine lv_iload hx hb dX12_feed_30 (lv_at hlv 0 rfl) ?_
  refine lv_iconst (v := 4) hx hb dX12_feed_32 (by decide) ?_
  refine lv_icmp_ge (tgt := 40) hx hb dX12_feed_33 (by decide) (fun _ => ?_) (fun c => absurd (by decide) c)
  refine lv_iload hx hb dX12_feed_40 (lv_at hlv 0 rfl) ?_
  refine lv_bipush (v := 8) hx hb dX12_feed_42 (by decide) ?_
  refine lv_icmp_ge (tgt := 51) hx hb dX12_feed_44 (by decide) (fun _ => ?_) (fun c => absurd (by decide) c)
  refine lv_iload hx hb dX12_feed_51 (lv_at hlv 0 rfl) ?_
  refine lv_bipush (v := 12) hx hb dX12_feed_53 (by decide) ?_
  refine lv_icmp_ge (tgt := 62) hx hb dX12_feed_55 (by decide) (fun _ => ?_) (fun c => absurd (by decide) c)
  refine lv_iload hx hb dX12_feed_62 (lv_at hlv 0 rfl) ?_
  refine lv_bipush (v := 16) hx hb dX12_feed_64 (by decide) ?_
  refine lv_icmp_ge (tgt := 74) hx hb dX12_feed_66 (by decide) (fun c => absurd c (by decide)) (fun _ => ?_)
  refine lv_iload hx hb dX12_feed_69 (lv_at hlv 6 rfl) ?_
  refine lv_goto (tgt := 76) hx hb dX12_feed_71 (by decide) ?_
  refine lv_istore (lv' := [(7, .int p3), (6, .int 14), (0, .ref mo), (1, .int p0), (2, .int p1), (3, .int p2), (4, .int p3), (5, .int p4)]) hx hb dX12_feed_76 hlv (by decide) rfl (fun ls hlv => ?_)
  refine lv_aload_n hx hb dX12_feed_78 rfl (lv_at hlv 2 rfl) ?_
  refine va_get (D := D) (ci := 12) (v := .ref (ma 9)) (C := RX12) (T := TX12) (N := 38) hx hb hts hi12 hown hG.1 hP 0 rfl rfl 9 (by decide) lf20 (fun _ h9 => h9) rfl dX12_feed_79 ?_
  refine lv_aload_n hx hb dX12_feed_82 rfl (lv_at hlv 2 rfl) ?_
  refine va_get (D := D) (ci := 12) (v := .int 14) (C := RX12) (T := TX12) (N := 38) hx hb hts hi12 hown hG.1 hP 0 rfl rfl 2 (by decide) lf77 (fun _ h9 => h9) rfl dX12_feed_83 ?_
  refine lv_iload hx hb dX12_feed_86 (lv_at hlv 0 rfl) ?_
  refine lv_bipush (v := 24) hx hb dX12_feed_88 (by decide) ?_
  refine lv_bipush (v := 8) hx hb dX12_feed_90 (by decide) ?_
  refine lv_iload hx hb dX12_feed_92 (lv_at hlv 1 rfl) ?_
  refine lv_iconst (v := 4) hx hb dX12_feed_94 (by decide) ?_
  refine lv_irem hx hb dX12_feed_95 (by decide) ?_
  refine lt_i (y := 2) (by decide) ?_
  refine lv_imul hx hb dX12_feed_96 ?_
  refine lt_i (y := 16) (by decide) ?_
  refine lv_isub hx hb dX12_feed_97 ?_
  refine lt_i (y := 8) (by decide) ?_
  refine lv_ishr hx hb dX12_feed_98 ?_
  refine lv_topi (fun z_29 ez_29 => ?_)
  refine lv_sipush (v := 255) hx hb dX12_feed_99 (by decide) ?_
  refine lv_iand hx hb dX12_feed_102 ?_
  refine va_iast hx hb hG.1 hP hD hS 1 0 rfl rfl (vpd (by decide)) dX12_feed_103 (fun H locs hP hD hS => ?_)
  have ⟨f_30, hP, hD⟩ : ∃ f_30 : Nat → Int32, va_P D vwCl [(mo, .inr (12, [.int 0, .ref (ma 1), .int 14, .int 0, .int 0, .int 0, .int 0, .int 0, .int (-1), .ref (ma 9), .ref (ma 10), .ref (ma 11), .ref (ma 12), .ref (ma 13), .ref (ma 14), .ref (ma 15), .int 0, .int 0, .int 0, .ref (ma 19), .ref (ma 20), .ref (ma 21), .int 0, .ref (ma 23), .ref (ma 24), .ref (ma 25), .ref (ma 26), .ref (ma 27), .ref (ma 28), .int 0, .int 0, .int 0, .int 0, .ref (ma 33), .int (-1), .ref (ma 35), .int 0, .int 0])), ((ma 9), .inl (cy 0, 600, .inl f_30))] H ∧ va_D A [(mo, .inr (12, [.int 0, .ref (ma 1), .int 14, .int 0, .int 0, .int 0, .int 0, .int 0, .int (-1), .ref (ma 9), .ref (ma 10), .ref (ma 11), .ref (ma 12), .ref (ma 13), .ref (ma 14), .ref (ma 15), .int 0, .int 0, .int 0, .ref (ma 19), .ref (ma 20), .ref (ma 21), .int 0, .ref (ma 23), .ref (ma 24), .ref (ma 25), .ref (ma 26), .ref (ma 27), .ref (ma 28), .int 0, .int 0, .int 0, .int 0, .ref (ma 33), .int (-1), .ref (ma 35), .int 0, .int 0])), ((ma 9), .inl (cy 0, 600, .inl f_30))] := ⟨_, hP, hD⟩
  refine lv_aload_n hx hb dX12_feed_104 rfl (lv_at hlv 2 rfl) ?_
  refine lv_dup hx hb dX12_feed_105 rfl ?_
  refine va_get (D := D) (ci := 12) (v := .int 14) (C := RX12) (T := TX12) (N := 38) hx hb hts hi12 hown hG.1 hP 0 rfl rfl 2 (by decide) lf77 (fun _ h9 => h9) rfl dX12_feed_106 ?_
  refine lv_iconst (v := 1) hx hb dX12_feed_109 (by decide) ?_
  refine lv_iadd hx hb dX12_feed_110 ?_
  refine lt_i (y := 15) (by decide) ?_
  refine va_put (D := D) (ci := 12) (v := .int 15) (ty := .int) (C := RX12) (T := TX12) (N := 38) hx hb hts hi12 tyX12 tyX12_ok nmX12 hown hG.1 hP hD hS 0 rfl rfl 2 (by decide) lf77 (fun _ h9 => h9) rfl (by decide +kernel) rfl rfl (Nat.le_of_ble_eq_true rfl) dX12_feed_111 (fun H locs hP hD hS => ?_)
  have hP : va_P D vwCl [(mo, .inr (12, [.int 0, .ref (ma 1), .int 15, .int 0, .int 0, .int 0, .int 0, .int 0, .int (-1), .ref (ma 9), .ref (ma 10), .ref (ma 11), .ref (ma 12), .ref (ma 13), .ref (ma 14), .ref (ma 15), .int 0, .int 0, .int 0, .ref (ma 19), .ref (ma 20), .ref (ma 21), .int 0, .ref (ma 23), .ref (ma 24), .ref (ma 25), .ref (ma 26), .ref (ma 27), .ref (ma 28), .int 0, .int 0, .int 0, .int 0, .ref (ma 33), .int (-1), .ref (ma 35), .int 0, .int 0])), ((ma 9), .inl (cy 0, 600, .inl f_30))] H := hP
  have hD : va_D A [(mo, .inr (12, [.int 0, .ref (ma 1), .int 15, .int 0, .int 0, .int 0, .int 0, .int 0, .int (-1), .ref (ma 9), .ref (ma 10), .ref (ma 11), .ref (ma 12), .ref (ma 13), .ref (ma 14), .ref (ma 15), .int 0, .int 0, .int 0, .ref (ma 19), .ref (ma 20), .ref (ma 21), .int 0, .ref (ma 23), .ref (ma 24), .ref (ma 25), .ref (ma 26), .ref (ma 27), .ref (ma 28), .int 0, .int 0, .int 0, .int 0, .ref (ma 33), .int (-1), .ref (ma 35), .int 0, .int 0])), ((ma 9), .inl (cy 0, 600, .inl f_30))] := hD
  refine lv_iinc (v := 15) (lv' := [(6, .int 15), (7, .int p3), (0, .ref mo), (1, .int p0), (2, .int p1), (3, .int p2), (4, .int p3), (5, .int p4)]) hx hb dX12_feed_114 hlv (k := 1) rfl (by decide) (by decide) rfl (fun ls hlv => ?_)
  refine lv_goto (tgt := 23) hx hb dX12_feed_117 (by decide) ?_
  refine lv_iload hx hb dX12_feed_23 (lv_at hlv 0 rfl) ?_
  refine lv_bipush (v := 20) hx hb dX12_feed_25 (by decide) ?_
  refine lv_icmp_ge (tgt := 120) hx hb dX12_feed_27 (by decide) (fun c => absurd c (by decide)) (fun _ => ?_)
  refine lv_iload hx hb dX12_feed_30 (lv_at hlv 0 rfl) ?_
  refine lv_iconst (v := 4) hx hb dX12_feed_32 (by decide) ?_
  refine lv_icmp_ge (tgt := 40) hx hb dX12_feed_33 (by decide) (fun _ => ?_) (fun c => absurd (by decide) c)
  refine lv_iload hx hb dX12_feed_40 (lv_at hlv 0 rfl) ?_
  refine lv_bipush (v := 8) hx hb dX12_feed_42 (by decide) ?_
  refine lv_icmp_ge (tgt := 51) hx hb dX12_feed_44 (by decide) (fun _ => ?_) (fun c => absurd (by decide) c)
  refine lv_iload hx hb dX12_feed_51 (lv_at hlv 0 rfl) ?_
  refine lv_bipush (v := 12) hx hb dX12_feed_53 (by decide) ?_
  refine lv_icmp_ge (tgt := 62) hx hb dX12_feed_55 (by decide) (fun _ => ?_) (fun c => absurd (by decide) c)
  refine lv_iload hx hb dX12_feed_62 (lv_at hlv 0 rfl) ?_
  refine lv_bipush (v := 16) hx hb dX12_feed_64 (by decide) ?_
  refine lv_icmp_ge (tgt := 74) hx hb dX12_feed_66 (by decide) (fun c => absurd c (by decide)) (fun _ => ?_)
  refine lv_iload hx hb dX12_feed_69 (lv_at hlv 6 rfl) ?_
  refine lv_goto (tgt := 76) hx hb dX12_feed_71 (by decide) ?_
  refine lv_istore (lv' := [(7, .int p3), (6, .int 15), (0, .ref mo), (1, .int p0), (2, .int p1), (3, .int p2), (4, .int p3), (5, .int p4)]) hx hb dX12_feed_76 hlv (by decide) rfl (fun ls hlv => ?_)
  refine lv_aload_n hx hb dX12_feed_78 rfl (lv_at hlv 2 rfl) ?_
  refine va_get (D := D) (ci := 12) (v := .ref (ma 9)) (C := RX12) (T := TX12) (N := 38) hx hb hts hi12 hown hG.1 hP 0 rfl rfl 9 (by decide) lf20 (fun _ h9 => h9) rfl dX12_feed_79 ?_
  refine lv_aload_n hx hb dX12_feed_82 rfl (lv_at hlv 2 rfl) ?_
  refine va_get (D := D) (ci := 12) (v := .int 15) (C := RX12) (T := TX12) (N := 38) hx hb hts hi12 hown hG.1 hP 0 rfl rfl 2 (by decide) lf77 (fun _ h9 => h9) rfl dX12_feed_83 ?_
  refine lv_iload hx hb dX12_feed_86 (lv_at hlv 0 rfl) ?_
  refine lv_bipush (v := 24) hx hb dX12_feed_88 (by decide) ?_
  refine lv_bipush (v := 8) hx hb dX12_feed_90 (by decide) ?_
  refine lv_iload hx hb dX12_feed_92 (lv_at hlv 1 rfl) ?_
  refine lv_iconst (v := 4) hx hb dX12_feed_94 (by decide) ?_
  refine lv_irem hx hb dX12_feed_95 (by decide) ?_
  refine lt_i (y := 3) (by decide) ?_
  refine lv_imul hx hb dX12_feed_96 ?_
  refine lt_i (y := 24) (by decide) ?_
  refine lv_isub hx hb dX12_feed_97 ?_
  refine lt_i (y := 0) (by decide) ?_
  refine lv_ishr hx hb dX12_feed_98 ?_
  refine lv_topi (fun z_31 ez_31 => ?_)
  refine lv_sipush (v := 255) hx hb dX12_feed_99 (by decide) ?_
  refine lv_iand hx hb dX12_feed_102 ?_
  refine va_iast hx hb hG.1 hP hD hS 1 0 rfl rfl (vpd (by decide)) dX12_feed_103 (fun H locs hP hD hS => ?_)
  have ⟨f_32, hP, hD⟩ : ∃ f_32 : Nat → Int32, va_P D vwCl [(mo, .inr (12, [.int 0, .ref (ma 1), .int 15, .int 0, .int 0, .int 0, .int 0, .int 0, .int (-1), .ref (ma 9), .ref (ma 10), .ref (ma 11), .ref (ma 12), .ref (ma 13), .ref (ma 14), .ref (ma 15), .int 0, .int 0, .int 0, .ref (ma 19), .ref (ma 20), .ref (ma 21), .int 0, .ref (ma 23), .ref (ma 24), .ref (ma 25), .ref (ma 26), .ref (ma 27), .ref (ma 28), .int 0, .int 0, .int 0, .int 0, .ref (ma 33), .int (-1), .ref (ma 35), .int 0, .int 0])), ((ma 9), .inl (cy 0, 600, .inl f_32))] H ∧ va_D A [(mo, .inr (12, [.int 0, .ref (ma 1), .int 15, .int 0, .int 0, .int 0, .int 0, .int 0, .int (-1), .ref (ma 9), .ref (ma 10), .ref (ma 11), .ref (ma 12), .ref (ma 13), .ref (ma 14), .ref (ma 15), .int 0, .int 0, .int 0, .ref (ma 19), .ref (ma 20), .ref (ma 21), .int 0, .ref (ma 23), .ref (ma 24), .ref (ma 25), .ref (ma 26), .ref (ma 27), .ref (ma 28), .int 0, .int 0, .int 0, .int 0, .ref (ma 33), .int (-1), .ref (ma 35), .int 0, .int 0])), ((ma 9), .inl (cy 0, 600, .inl f_32))] := ⟨_, hP, hD⟩
  refine lv_aload_n hx hb dX12_feed_104 rfl (lv_at hlv 2 rfl) ?_
  refine lv_dup hx hb dX12_feed_105 rfl ?_
  refine va_get (D := D) (ci := 12) (v := .int 15) (C := RX12) (T := TX12) (N := 38) hx hb hts hi12 hown hG.1 hP 0 rfl rfl 2 (by decide) lf77 (fun _ h9 => h9) rfl dX12_feed_106 ?_
  refine lv_iconst (v := 1) hx hb dX12_feed_109 (by decide) ?_
  refine lv_iadd hx hb dX12_feed_110 ?_
  refine lt_i (y := 16) (by decide) ?_
  refine va_put (D := D) (ci := 12) (v := .int 16) (ty := .int) (C := RX12) (T := TX12) (N := 38) hx hb hts hi12 tyX12 tyX12_ok nmX12 hown hG.1 hP hD hS 0 rfl rfl 2 (by decide) lf77 (fun _ h9 => h9) rfl (by decide +kernel) rfl rfl (Nat.le_of_ble_eq_true rfl) dX12_feed_111 (fun H locs hP hD hS => ?_)
  have hP : va_P D vwCl [(mo, .inr (12, [.int 0, .ref (ma 1), .int 16, .int 0, .int 0, .int 0, .int 0, .int 0, .int (-1), .ref (ma 9), .ref (ma 10), .ref (ma 11), .ref (ma 12), .ref (ma 13), .ref (ma 14), .ref (ma 15), .int 0, .int 0, .int 0, .ref (ma 19), .ref (ma 20), .ref (ma 21), .int 0, .ref (ma 23), .ref (ma 24), .ref (ma 25), .ref (ma 26), .ref (ma 27), .ref (ma 28), .int 0, .int 0, .int 0, .int 0, .ref (ma 33), .int (-1), .ref (ma 35), .int 0, .int 0])), ((ma 9), .inl (cy 0, 600, .inl f_32))] H := hP
  have hD : va_D A [(mo, .inr (12, [.int 0, .ref (ma 1), .int 16, .int 0, .int 0, .int 0, .int 0, .int 0, .int (-1), .ref (ma 9), .ref (ma 10), .ref (ma 11), .ref (ma 12), .ref (ma 13), .ref (ma 14), .ref (ma 15), .int 0, .int 0, .int 0, .ref (ma 19), .ref (ma 20), .ref (ma 21), .int 0, .ref (ma 23), .ref (ma 24), .ref (ma 25), .ref (ma 26), .ref (ma 27), .ref (ma 28), .int 0, .int 0, .int 0, .int 0, .ref (ma 33), .int (-1), .ref (ma 35), .int 0, .int 0])), ((ma 9), .inl (cy 0, 600, .inl f_32))] := hD
  refine lv_iinc (v := 16) (lv' := [(6, .int 16), (7, .int p3), (0, .ref mo), (1, .int p0), (2, .int p1), (3, .int p2), (4, .int p3), (5, .int p4)]) hx hb dX12_feed_114 hlv (k := 1) rfl (by decide) (by decide) rfl (fun ls hlv => ?_)
  refine lv_goto (tgt := 23) hx hb dX12_feed_117 (by decide) ?_
  refine lv_iload hx hb dX12_feed_23 (lv_at hlv 0 rfl) ?_
  refine lv_bipush (v := 20) hx hb dX12_feed_25 (by decide) ?_
  refine lv_icmp_ge (tgt := 120) hx hb dX12_feed_27 (by decide) (fun c => absurd c (by decide)) (fun _ => ?_)
  refine lv_iload hx hb dX12_feed_30 (lv_at hlv 0 rfl) ?_
  refine lv_iconst (v := 4) hx hb dX12_feed_32 (by decide) ?_
  refine lv_icmp_ge (tgt := 40) hx hb dX12_feed_33 (by decide) (fun _ => ?_) (fun c => absurd (by decide) c)
  refine lv_iload hx hb dX12_feed_40 (lv_at hlv 0 rfl) ?_
  refine lv_bipush (v := 8) hx hb dX12_feed_42 (by decide) ?_
  refine lv_icmp_ge (tgt := 51) hx hb dX12_feed_44 (by decide) (fun _ => ?_) (fun c => absurd (by decide) c)
  refine lv_iload hx hb dX12_feed_51 (lv_at hlv 0 rfl) ?_
  refine lv_bipush (v := 12) hx hb dX12_feed_53 (by decide) ?_
  refine lv_icmp_ge (tgt := 62) hx hb dX12_feed_55 (by decide) (fun _ => ?_) (fun c => absurd (by decide) c)
  refine lv_iload hx hb dX12_feed_62 (lv_at hlv 0 rfl) ?_
  refine lv_bipush (v := 16) hx hb dX12_feed_64 (by decide) ?_
  refine lv_icmp_ge (tgt := 74) hx hb dX12_feed_66 (by decide) (fun _ => ?_) (fun c => absurd (by decide) c)
  refine lv_iload hx hb dX12_feed_74 (lv_at hlv 7 rfl) ?_
  refine lv_istore (lv' := [(7, .int p4), (6, .int 16), (0, .ref mo), (1, .int p0), (2, .int p1), (3, .int p2), (4, .int p3), (5, .int p4)]) hx hb dX12_feed_76 hlv (by decide) rfl (fun ls hlv => ?_)
  refine lv_aload_n hx hb dX12_feed_78 rfl (lv_at hlv 2 rfl) ?_
  refine va_get (D := D) (ci := 12) (v := .ref (ma 9)) (C := RX12) (T := TX12) (N := 38) hx hb hts hi12 hown hG.1 hP 0 rfl rfl 9 (by decide) lf20 (fun _ h9 => h9) rfl dX12_feed_79 ?_
  refine lv_aload_n hx hb dX12_feed_82 rfl (lv_at hlv 2 rfl) ?_
  refine va_get (D := D) (ci := 12) (v := .int 16) (C := RX12) (T := TX12) (N := 38) hx hb hts hi12 hown hG.1 hP 0 rfl rfl 2 (by decide) lf77 (fun _ h9 => h9) rfl dX12_feed_83 ?_
  refine lv_iload hx hb dX12_feed_86 (lv_at hlv 0 rfl) ?_
  refine lv_bipush (v := 24) hx hb dX12_feed_88 (by decide) ?_
  refine lv_bipush (v := 8) hx hb dX12_feed_90 (by decide) ?_
  refine lv_iload hx hb dX12_feed_92 (lv_at hlv 1 rfl) ?_
  refine lv_iconst (v := 4) hx hb dX12_feed_94 (by decide) ?_
  refine lv_irem hx hb dX12_feed_95 (by decide) ?_
  refine lt_i (y := 0) (by decide) ?_
  refine lv_imul hx hb dX12_feed_96 ?_
  refine lt_i (y := 0) (by decide) ?_
  refine lv_isub hx hb dX12_feed_97 ?_
  refine lt_i (y := 24) (by decide) ?_
  refine lv_ishr hx hb dX12_feed_98 ?_
  refine lv_topi (fun z_33 ez_33 => ?_)
  refine lv_sipush (v := 255) hx hb dX12_feed_99 (by decide) ?_
  refine lv_iand hx hb dX12_feed_102 ?_
  refine va_iast hx hb hG.1 hP hD hS 1 0 rfl rfl (vpd (by decide)) dX12_feed_103 (fun H locs hP hD hS => ?_)
  have ⟨f_34, hP, hD⟩ : ∃ f_34 : Nat → Int32, va_P D vwCl [(mo, .inr (12, [.int 0, .ref (ma 1), .int 16, .int 0, .int 0, .int 0, .int 0, .int 0, .int (-1), .ref (ma 9), .ref (ma 10), .ref (ma 11), .ref (ma 12), .ref (ma 13), .ref (ma 14), .ref (ma 15), .int 0, .int 0, .int 0, .ref (ma 19), .ref (ma 20), .ref (ma 21), .int 0, .ref (ma 23), .ref (ma 24), .ref (ma 25), .ref (ma 26), .ref (ma 27), .ref (ma 28), .int 0, .int 0, .int 0, .int 0, .ref (ma 33), .int (-1), .ref (ma 35), .int 0, .int 0])), ((ma 9), .inl (cy 0, 600, .inl f_34))] H ∧ va_D A [(mo, .inr (12, [.int 0, .ref (ma 1), .int 16, .int 0, .int 0, .int 0, .int 0, .int 0, .int (-1), .ref (ma 9), .ref (ma 10), .ref (ma 11), .ref (ma 12), .ref (ma 13), .ref (ma 14), .ref (ma 15), .int 0, .int 0, .int 0, .ref (ma 19), .ref (ma 20), .ref (ma 21), .int 0, .ref (ma 23), .ref (ma 24), .ref (ma 25), .ref (ma 26), .ref (ma 27), .ref (ma 28), .int 0, .int 0, .int 0, .int 0, .ref (ma 33), .int (-1), .ref (ma 35), .int 0, .int 0])), ((ma 9), .inl (cy 0, 600, .inl f_34))] := ⟨_, hP, hD⟩
  refine lv_aload_n hx hb dX12_feed_104 rfl (lv_at hlv 2 rfl) ?_
  refine lv_dup hx hb dX12_feed_105 rfl ?_
  refine va_get (D := D) (ci := 12) (v := .int 16) (C := RX12) (T := TX12) (N := 38) hx hb hts hi12 hown hG.1 hP 0 rfl rfl 2 (by decide) lf77 (fun _ h9 => h9) rfl dX12_feed_106 ?_
  refine lv_iconst (v := 1) hx hb dX12_feed_109 (by decide) ?_
  refine lv_iadd hx hb dX12_feed_110 ?_
  refine lt_i (y := 17) (by decide) ?_
  refine va_put (D := D) (ci := 12) (v := .int 17) (ty := .int) (C := RX12) (T := TX12) (N := 38) hx hb hts hi12 tyX12 tyX12_ok nmX12 hown hG.1 hP hD hS 0 rfl rfl 2 (by decide) lf77 (fun _ h9 => h9) rfl (by decide +kernel) rfl rfl (Nat.le_of_ble_eq_true rfl) dX12_feed_111 (fun H locs hP hD hS => ?_)
  have hP : va_P D vwCl [(mo, .inr (12, [.int 0, .ref (ma 1), .int 17, .int 0, .int 0, .int 0, .int 0, .int 0, .int (-1), .ref (ma 9), .ref (ma 10), .ref (ma 11), .ref (ma 12), .ref (ma 13), .ref (ma 14), .ref (ma 15), .int 0, .int 0, .int 0, .ref (ma 19), .ref (ma 20), .ref (ma 21), .int 0, .ref (ma 23), .ref (ma 24), .ref (ma 25), .ref (ma 26), .ref (ma 27), .ref (ma 28), .int 0, .int 0, .int 0, .int 0, .ref (ma 33), .int (-1), .ref (ma 35), .int 0, .int 0])), ((ma 9), .inl (cy 0, 600, .inl f_34))] H := hP
  have hD : va_D A [(mo, .inr (12, [.int 0, .ref (ma 1), .int 17, .int 0, .int 0, .int 0, .int 0, .int 0, .int (-1), .ref (ma 9), .ref (ma 10), .ref (ma 11), .ref (ma 12), .ref (ma 13), .ref (ma 14), .ref (ma 15), .int 0, .int 0, .int 0, .ref (ma 19), .ref (ma 20), .ref (ma 21), .int 0, .ref (ma 23), .ref (ma 24), .ref (ma 25), .ref (ma 26), .ref (ma 27), .ref (ma 28), .int 0, .int 0, .int 0, .int 0, .ref (ma 33), .int (-1), .ref (ma 35), .int 0, .int 0])), ((ma 9), .inl (cy 0, 600, .inl f_34))] := hD
  refine lv_iinc (v := 17) (lv' := [(6, .int 17), (7, .int p4), (0, .ref mo), (1, .int p0), (2, .int p1), (3, .int p2), (4, .int p3), (5, .int p4)]) hx hb dX12_feed_114 hlv (k := 1) rfl (by decide) (by decide) rfl (fun ls hlv => ?_)
  refine lv_goto (tgt := 23) hx hb dX12_feed_117 (by decide) ?_
  refine lv_iload hx hb dX12_feed_23 (lv_at hlv 0 rfl) ?_
  refine lv_bipush (v := 20) hx hb dX12_feed_25 (by decide) ?_
  refine lv_icmp_ge (tgt := 120) hx hb dX12_feed_27 (by decide) (fun c => absurd c (by decide)) (fun _ => ?_)
  refine lv_iload hx hb dX12_feed_30 (lv_at hlv 0 rfl) ?_
  refine lv_iconst (v := 4) hx hb dX12_feed_32 (by decide) ?_
  refine lv_icmp_ge (tgt := 40) hx hb dX12_feed_33 (by decide) (fun _ => ?_) (fun c => absurd (by decide) c)
  refine lv_iload hx hb dX12_feed_40 (lv_at hlv 0 rfl) ?_
  refine lv_bipush (v := 8) hx hb dX12_feed_42 (by decide) ?_
  refine lv_icmp_ge (tgt := 51) hx hb dX12_feed_44 (by decide) (fun _ => ?_) (fun c => absurd (by decide) c)
  refine lv_iload hx hb dX12_feed_51 (lv_at hlv 0 rfl) ?_
  refine lv_bipush (v := 12) hx hb dX12_feed_53 (by decide) ?_
  refine lv_icmp_ge (tgt := 62) hx hb dX12_feed_55 (by decide) (fun _ => ?_) (fun c => absurd (by decide) c)
  refine lv_iload hx hb dX12_feed_62 (lv_at hlv 0 rfl) ?_
  refine lv_bipush (v := 16) hx hb dX12_feed_64 (by decide) ?_
  refine lv_icmp_ge (tgt := 74) hx hb dX12_feed_66 (by decide) (fun _ => ?_) (fun c => absurd (by decide) c)
  refine lv_iload hx hb dX12_feed_74 (lv_at hlv 7 rfl) ?_
  refine lv_istore (lv' := [(7, .int p4), (6, .int 17), (0, .ref mo), (1, .int p0), (2, .int p1), (3, .int p2), (4, .int p3), (5, .int p4)]) hx hb dX12_feed_76 hlv (by decide) rfl (fun ls hlv => ?_)
  refine lv_aload_n hx hb dX12_feed_78 rfl (lv_at hlv 2 rfl) ?_
  refine va_get (D := D) (ci := 12) (v := .ref (ma 9)) (C := RX12) (T := TX12) (N := 38) hx hb hts hi12 hown hG.1 hP 0 rfl rfl 9 (by decide) lf20 (fun _ h9 => h9) rfl dX12_feed_79 ?_
  refine lv_aload_n hx hb dX12_feed_82 rfl (lv_at hlv 2 rfl) ?_
  refine va_get (D := D) (ci := 12) (v := .int 17) (C := RX12) (T := TX12) (N := 38) hx hb hts hi12 hown hG.1 hP 0 rfl rfl 2 (by decide) lf77 (fun _ h9 => h9) rfl dX12_feed_83 ?_
  refine lv_iload hx hb dX12_feed_86 (lv_at hlv 0 rfl) ?_
  refine lv_bipush (v := 24) hx hb dX12_feed_88 (by decide) ?_
  refine lv_bipush (v := 8) hx hb dX12_feed_90 (by decide) ?_
  refine lv_iload hx hb dX12_feed_92 (lv_at hlv 1 rfl) ?_
  refine lv_iconst (v := 4) hx hb dX12_feed_94 (by decide) ?_
  refine lv_irem hx hb dX12_feed_95 (by decide) ?_
  refine lt_i (y := 1) (by decide) ?_
  refine lv_imul hx hb dX12_feed_96 ?_
  refine lt_i (y := 8) (by decide) ?_
  refine lv_isub hx hb dX12_feed_97 ?_
  refine lt_i (y := 16) (by decide) ?_
  refine lv_ishr hx hb dX12_feed_98 ?_
  refine lv_topi (fun z_35 ez_35 => ?_)
  refine lv_sipush (v := 255) hx hb dX12_feed_99 (by decide) ?_
  refine lv_iand hx hb dX12_feed_102 ?_
  refine va_iast hx hb hG.1 hP hD hS 1 0 rfl rfl (vpd (by decide)) dX12_feed_103 (fun H locs hP hD hS => ?_)
  have ⟨f_36, hP, hD⟩ : ∃ f_36 : Nat → Int32, va_P D vwCl [(mo, .inr (12, [.int 0, .ref (ma 1), .int 17, .int 0, .int 0, .int 0, .int 0, .int 0, .int (-1), .ref (ma 9), .ref (ma 10), .ref (ma 11), .ref (ma 12), .ref (ma 13), .ref (ma 14), .ref (ma 15), .int 0, .int 0, .int 0, .ref (ma 19), .ref (ma 20), .ref (ma 21), .int 0, .ref (ma 23), .ref (ma 24), .ref (ma 25), .ref (ma 26), .ref (ma 27), .ref (ma 28), .int 0, .int 0, .int 0, .int 0, .ref (ma 33), .int (-1), .ref (ma 35), .int 0, .int 0])), ((ma 9), .inl (cy 0, 600, .inl f_36))] H ∧ va_D A [(mo, .inr (12, [.int 0, .ref (ma 1), .int 17, .int 0, .int 0, .int 0, .int 0, .int 0, .int (-1), .ref (ma 9), .ref (ma 10), .ref (ma 11), .ref (ma 12), .ref (ma 13), .ref (ma 14), .ref (ma 15), .int 0, .int 0, .int 0, .ref (ma 19), .ref (ma 20), .ref (ma 21), .int 0, .ref (ma 23), .ref (ma 24), .ref (ma 25), .ref (ma 26), .ref (ma 27), .ref (ma 28), .int 0, .int 0, .int 0, .int 0, .ref (ma 33), .int (-1), .ref (ma 35), .int 0, .int 0])), ((ma 9), .inl (cy 0, 600, .inl f_36))] := ⟨_, hP, hD⟩
  refine lv_aload_n hx hb dX12_feed_104 rfl (lv_at hlv 2 rfl) ?_
  refine lv_dup hx hb dX12_feed_105 rfl ?_
  refine va_get (D := D) (ci := 12) (v := .int 17) (C := RX12) (T := TX12) (N := 38) hx hb hts hi12 hown hG.1 hP 0 rfl rfl 2 (by decide) lf77 (fun _ h9 => h9) rfl dX12_feed_106 ?_
  refine lv_iconst (v := 1) hx hb dX12_feed_109 (by decide) ?_
  refine lv_iadd hx hb dX12_feed_110 ?_
  refine lt_i (y := 18) (by decide) ?_
  refine va_put (D := D) (ci := 12) (v := .int 18) (ty := .int) (C := RX12) (T := TX12) (N := 38) hx hb hts hi12 tyX12 tyX12_ok nmX12 hown hG.1 hP hD hS 0 rfl rfl 2 (by decide) lf77 (fun _ h9 => h9) rfl (by decide +kernel) rfl rfl (Nat.le_of_ble_eq_true rfl) dX12_feed_111 (fun H locs hP hD hS => ?_)
  have hP : va_P D vwCl [(mo, .inr (12, [.int 0, .ref (ma 1), .int 18, .int 0, .int 0, .int 0, .int 0, .int 0, .int (-1), .ref (ma 9), .ref (ma 10), .ref (ma 11), .ref (ma 12), .ref (ma 13), .ref (ma 14), .ref (ma 15), .int 0, .int 0, .int 0, .ref (ma 19), .ref (ma 20), .ref (ma 21), .int 0, .ref (ma 23), .ref (ma 24), .ref (ma 25), .ref (ma 26), .ref (ma 27), .ref (ma 28), .int 0, .int 0, .int 0, .int 0, .ref (ma 33), .int (-1), .ref (ma 35), .int 0, .int 0])), ((ma 9), .inl (cy 0, 600, .inl f_36))] H := hP
  have hD : va_D A [(mo, .inr (12, [.int 0, .ref (ma 1), .int 18, .int 0, .int 0, .int 0, .int 0, .int 0, .int (-1), .ref (ma 9), .ref (ma 10), .ref (ma 11), .ref (ma 12), .ref (ma 13), .ref (ma 14), .ref (ma 15), .int 0, .int 0, .int 0, .ref (ma 19), .ref (ma 20), .ref (ma 21), .int 0, .ref (ma 23), .ref (ma 24), .ref (ma 25), .ref (ma 26), .ref (ma 27), .ref (ma 28), .int 0, .int 0, .int 0, .int 0, .ref (ma 33), .int (-1), .ref (ma 35), .int 0, .int 0])), ((ma 9), .inl (cy 0, 600, .inl f_36))] := hD
  refine lv_iinc (v := 18) (lv' := [(6, .int 18), (7, .int p4), (0, .ref mo), (1, .int p0), (2, .int p1), (3, .int p2), (4, .int p3), (5, .int p4)]) hx hb dX12_feed_114 hlv (k := 1) rfl (by decide) (by decide) rfl (fun ls hlv => ?_)
  refine lv_goto (tgt := 23) hx hb dX12_feed_117 (by decide) ?_
  refine lv_iload hx hb dX12_feed_23 (lv_at hlv 0 rfl) ?_
  refine lv_bipush (v := 20) hx hb dX12_feed_25 (by decide) ?_
  refine lv_icmp_ge (tgt := 120) hx hb dX12_feed_27 (by decide) (fun c => absurd c (by decide)) (fun _ => ?_)
  refine lv_iload hx hb dX12_feed_30 (lv_at hlv 0 rfl) ?_
  refine lv_iconst (v := 4) hx hb dX12_feed_32 (by decide) ?_
  refine lv_icmp_ge (tgt := 40) hx hb dX12_feed_33 (by decide) (fun _ => ?_) (fun c => absurd (by decide) c)
  refine lv_iload hx hb dX12_feed_40 (lv_at hlv 0 rfl) ?_
  refine lv_bipush (v := 8) hx hb dX12_feed_42 (by decide) ?_
  refine lv_icmp_ge (tgt := 51) hx hb dX12_feed_44 (by decide) (fun _ => ?_) (fun c => absurd (by decide) c)
  refine lv_iload hx hb dX12_feed_51 (lv_at hlv 0 rfl) ?_
  refine lv_bipush (v := 12) hx hb dX12_feed_53 (by decide) ?_
  refine lv_icmp_ge (tgt := 62) hx hb dX12_feed_55 (by decide) (fun _ => ?_) (fun c => absurd (by decide) c)
  refine lv_iload hx hb dX12_feed_62 (lv_at hlv 0 rfl) ?_
  refine lv_bipush (v := 16) hx hb dX12_feed_64 (by decide) ?_
  refine lv_icmp_ge (tgt := 74) hx hb dX12_feed_66 (by decide) (fun _ => ?_) (fun c => absurd (by decide) c)
  refine lv_iload hx hb dX12_feed_74 (lv_at hlv 7 rfl) ?_
  refine lv_istore (lv' := [(7, .int p4), (6, .int 18), (0, .ref mo), (1, .int p0), (2, .int p1), (3, .int p2), (4, .int p3), (5, .int p4)]) hx hb dX12_feed_76 hlv (by decide) rfl (fun ls hlv => ?_)
  refine lv_aload_n hx hb dX12_feed_78 rfl (lv_at hlv 2 rfl) ?_
  refine va_get (D := D) (ci := 12) (v := .ref (ma 9)) (C := RX12) (T := TX12) (N := 38) hx hb hts hi12 hown hG.1 hP 0 rfl rfl 9 (by decide) lf20 (fun _ h9 => h9) rfl dX12_feed_79 ?_
  refine lv_aload_n hx hb dX12_feed_82 rfl (lv_at hlv 2 rfl) ?_
  refine va_get (D := D) (ci := 12) (v := .int 18) (C := RX12) (T := TX12) (N := 38) hx hb hts hi12 hown hG.1 hP 0 rfl rfl 2 (by decide) lf77 (fun _ h9 => h9) rfl dX12_feed_83 ?_
  refine lv_iload hx hb dX12_feed_86 (lv_at hlv 0 rfl) ?_
  refine lv_bipush (v := 24) hx hb dX12_feed_88 (by decide) ?_
  refine lv_bipush (v := 8) hx hb dX12_feed_90 (by decide) ?_
  refine lv_iload hx hb dX12_feed_92 (lv_at hlv 1 rfl) ?_
  refine lv_iconst (v := 4) hx hb dX12_feed_94 (by decide) ?_
  refine lv_irem hx hb dX12_feed_95 (by decide) ?_
  refine lt_i (y := 2) (by decide) ?_
  refine lv_imul hx hb dX12_feed_96 ?_
  refine lt_i (y := 16) (by decide) ?_
  refine lv_isub hx hb dX12_feed_97 ?_
  refine lt_i (y := 8) (by decide) ?_
  refine lv_ishr hx hb dX12_feed_98 ?_
  refine lv_topi (fun z_37 ez_37 => ?_)
  refine lv_sipush (v := 255) hx hb dX12_feed_99 (by decide) ?_
  refine lv_iand hx hb dX12_feed_102 ?_
  refine va_iast hx hb hG.1 hP hD hS 1 0 rfl rfl (vpd (by decide)) dX12_feed_103 (fun H locs hP hD hS => ?_)
  have ⟨f_38, hP, hD⟩ : ∃ f_38 : Nat → Int32, va_P D vwCl [(mo, .inr (12, [.int 0, .ref (ma 1), .int 18, .int 0, .int 0, .int 0, .int 0, .int 0, .int (-1), .ref (ma 9), .ref (ma 10), .ref (ma 11), .ref (ma 12), .ref (ma 13), .ref (ma 14), .ref (ma 15), .int 0, .int 0, .int 0, .ref (ma 19), .ref (ma 20), .ref (ma 21), .int 0, .ref (ma 23), .ref (ma 24), .ref (ma 25), .ref (ma 26), .ref (ma 27), .ref (ma 28), .int 0, .int 0, .int 0, .int 0, .ref (ma 33), .int (-1), .ref (ma 35), .int 0, .int 0])), ((ma 9), .inl (cy 0, 600, .inl f_38))] H ∧ va_D A [(mo, .inr (12, [.int 0, .ref (ma 1), .int 18, .int 0, .int 0, .int 0, .int 0, .int 0, .int (-1), .ref (ma 9), .ref (ma 10), .ref (ma 11), .ref (ma 12), .ref (ma 13), .ref (ma 14), .ref (ma 15), .int 0, .int 0, .int 0, .ref (ma 19), .ref (ma 20), .ref (ma 21), .int 0, .ref (ma 23), .ref (ma 24), .ref (ma 25), .ref (ma 26), .ref (ma 27), .ref (ma 28), .int 0, .int 0, .int 0, .int 0, .ref (ma 33), .int (-1), .ref (ma 35), .int 0, .int 0])), ((ma 9), .inl (cy 0, 600, .inl f_38))] := ⟨_, hP, hD⟩
  refine lv_aload_n hx hb dX12_feed_104 rfl (lv_at hlv 2 rfl) ?_
  refine lv_dup hx hb dX12_feed_105 rfl ?_
  refine va_get (D := D) (ci := 12) (v := .int 18) (C := RX12) (T := TX12) (N := 38) hx hb hts hi12 hown hG.1 hP 0 rfl rfl 2 (by decide) lf77 (fun _ h9 => h9) rfl dX12_feed_106 ?_
  refine lv_iconst (v := 1) hx hb dX12_feed_109 (by decide) ?_
  refine lv_iadd hx hb dX12_feed_110 ?_
  refine lt_i (y := 19) (by decide) ?_
  refine va_put (D := D) (ci := 12) (v := .int 19) (ty := .int) (C := RX12) (T := TX12) (N := 38) hx hb hts hi12 tyX12 tyX12_ok nmX12 hown hG.1 hP hD hS 0 rfl rfl 2 (by decide) lf77 (fun _ h9 => h9) rfl (by decide +kernel) rfl rfl (Nat.le_of_ble_eq_true rfl) dX12_feed_111 (fun H locs hP hD hS => ?_)
  have hP : va_P D vwCl [(mo, .inr (12, [.int 0, .ref (ma 1), .int 19, .int 0, .int 0, .int 0, .int 0, .int 0, .int (-1), .ref (ma 9), .ref (ma 10), .ref (ma 11), .ref (ma 12), .ref (ma 13), .ref (ma 14), .ref (ma 15), .int 0, .int 0, .int 0, .ref (ma 19), .ref (ma 20), .ref (ma 21), .int 0, .ref (ma 23), .ref (ma 24), .ref (ma 25), .ref (ma 26), .ref (ma 27), .ref (ma 28), .int 0, .int 0, .int 0, .int 0, .ref (ma 33), .int (-1), .ref (ma 35), .int 0, .int 0])), ((ma 9), .inl (cy 0, 600, .inl f_38))] H := hP
  have hD : va_D A [(mo, .inr (12, [.int 0, .ref (ma 1), .int 19, .int 0, .int 0, .int 0, .int 0, .int 0, .int (-1), .ref (ma 9), .ref (ma 10), .ref (ma 11), .ref (ma 12), .ref (ma 13), .ref (ma 14), .ref (ma 15), .int 0, .int 0, .int 0, .ref (ma 19), .ref (ma 20), .ref (ma 21), .int 0, .ref (ma 23), .ref (ma 24), .ref (ma 25), .ref (ma 26), .ref (ma 27), .ref (ma 28), .int 0, .int 0, .int 0, .int 0, .ref (ma 33), .int (-1), .ref (ma 35), .int 0, .int 0])), ((ma 9), .inl (cy 0, 600, .inl f_38))] := hD
  refine lv_iinc (v := 19) (lv' := [(6, .int 19), (7, .int p4), (0, .ref mo), (1, .int p0), (2, .int p1), (3, .int p2), (4, .int p3), (5, .int p4)]) hx hb dX12_feed_114 hlv (k := 1) rfl (by decide) (by decide) rfl (fun ls hlv => ?_)
  refine lv_goto (tgt := 23) hx hb dX12_feed_117 (by decide) ?_
  refine lv_iload hx hb dX12_feed_23 (lv_at hlv 0 rfl) ?_
  refine lv_bipush (v := 20) hx hb dX12_feed_25 (by decide) ?_
  refine lv_icmp_ge (tgt := 120) hx hb dX12_feed_27 (by decide) (fun c => absurd c (by decide)) (fun _ => ?_)
  refine lv_iload hx hb dX12_feed_30 (lv_at hlv 0 rfl) ?_
  refine lv_iconst (v := 4) hx hb dX12_feed_32 (by decide) ?_
  refine lv_icmp_ge (tgt := 40) hx hb dX12_feed_33 (by decide) (fun _ => ?_) (fun c => absurd (by decide) c)
  refine lv_iload hx hb dX12_feed_40 (lv_at hlv 0 rfl) ?_
  refine lv_bipush (v := 8) hx hb dX12_feed_42 (by decide) ?_
  refine lv_icmp_ge (tgt := 51) hx hb dX12_feed_44 (by decide) (fun _ => ?_) (fun c => absurd (by decide) c)
  refine lv_iload hx hb dX12_feed_51 (lv_at hlv 0 rfl) ?_
  refine lv_bipush (v := 12) hx hb dX12_feed_53 (by decide) ?_
  refine lv_icmp_ge (tgt := 62) hx hb dX12_feed_55 (by decide) (fun _ => ?_) (fun c => absurd (by decide) c)
  refine lv_iload hx hb dX12_feed_62 (lv_at hlv 0 rfl) ?_
  refine lv_bipush (v := 16) hx hb dX12_feed_64 (by decide) ?_
  refine lv_icmp_ge (tgt := 74) hx hb dX12_feed_66 (by decide) (fun _ => ?_) (fun c => absurd (by decide) c)
  refine lv_iload hx hb dX12_feed_74 (lv_at hlv 7 rfl) ?_
  refine lv_istore (lv' := [(7, .int p4), (6, .int 19), (0, .ref mo), (1, .int p0), (2, .int p1), (3, .int p2), (4, .int p3), (5, .int p4)]) hx hb dX12_feed_76 hlv (by decide) rfl (fun ls hlv => ?_)
  refine lv_aload_n hx hb dX12_feed_78 rfl (lv_at hlv 2 rfl) ?_
  refine va_get (D := D) (ci := 12) (v := .ref (ma 9)) (C := RX12) (T := TX12) (N := 38) hx hb hts hi12 hown hG.1 hP 0 rfl rfl 9 (by decide) lf20 (fun _ h9 => h9) rfl dX12_feed_79 ?_
  refine lv_aload_n hx hb dX12_feed_82 rfl (lv_at hlv 2 rfl) ?_
  refine va_get (D := D) (ci := 12) (v := .int 19) (C := RX12) (T := TX12) (N := 38) hx hb hts hi12 hown hG.1 hP 0 rfl rfl 2 (by decide) lf77 (fun _ h9 => h9) rfl dX12_feed_83 ?_
  refine lv_iload hx hb dX12_feed_86 (lv_at hlv 0 rfl) ?_
  refine lv_bipush (v := 24) hx hb dX12_feed_88 (by decide) ?_
  refine lv_bipush (v := 8) hx hb dX12_feed_90 (by decide) ?_
  refine lv_iload hx hb dX12_feed_92 (lv_at hlv 1 rfl) ?_
  refine lv_iconst (v := 4) hx hb dX12_feed_94 (by decide) ?_
  refine lv_irem hx hb dX12_feed_95 (by decide) ?_
  refine lt_i (y := 3) (by decide) ?_
  refine lv_imul hx hb dX12_feed_96 ?_
  refine lt_i (y := 24) (by decide) ?_
  refine lv_isub hx hb dX12_feed_97 ?_
  refine lt_i (y := 0) (by decide) ?_
  refine lv_ishr hx hb dX12_feed_98 ?_
  refine lv_topi (fun z_39 ez_39 => ?_)
  refine lv_sipush (v := 255) hx hb dX12_feed_99 (by decide) ?_
  refine lv_iand hx hb dX12_feed_102 ?_
  refine va_iast hx hb hG.1 hP hD hS 1 0 rfl rfl (vpd (by decide)) dX12_feed_103 (fun H locs hP hD hS => ?_)
  have ⟨f_40, hP, hD⟩ : ∃ f_40 : Nat → Int32, va_P D vwCl [(mo, .inr (12, [.int 0, .ref (ma 1), .int 19, .int 0, .int 0, .int 0, .int 0, .int 0, .int (-1), .ref (ma 9), .ref (ma 10), .ref (ma 11), .ref (ma 12), .ref (ma 13), .ref (ma 14), .ref (ma 15), .int 0, .int 0, .int 0, .ref (ma 19), .ref (ma 20), .ref (ma 21), .int 0, .ref (ma 23), .ref (ma 24), .ref (ma 25), .ref (ma 26), .ref (ma 27), .ref (ma 28), .int 0, .int 0, .int 0, .int 0, .ref (ma 33), .int (-1), .ref (ma 35), .int 0, .int 0])), ((ma 9), .inl (cy 0, 600, .inl f_40))] H ∧ va_D A [(mo, .inr (12, [.int 0, .ref (ma 1), .int 19, .int 0, .int 0, .int 0, .int 0, .int 0, .int (-1), .ref (ma 9), .ref (ma 10), .ref (ma 11), .ref (ma 12), .ref (ma 13), .ref (ma 14), .ref (ma 15), .int 0, .int 0, .int 0, .ref (ma 19), .ref (ma 20), .ref (ma 21), .int 0, .ref (ma 23), .ref (ma 24), .ref (ma 25), .ref (ma 26), .ref (ma 27), .ref (ma 28), .int 0, .int 0, .int 0, .int 0, .ref (ma 33), .int (-1), .ref (ma 35), .int 0, .int 0])), ((ma 9), .inl (cy 0, 600, .inl f_40))] := ⟨_, hP, hD⟩
  refine lv_aload_n hx hb dX12_feed_104 rfl (lv_at hlv 2 rfl) ?_
  refine lv_dup hx hb dX12_feed_105 rfl ?_
  refine va_get (D := D) (ci := 12) (v := .int 19) (C := RX12) (T := TX12) (N := 38) hx hb hts hi12 hown hG.1 hP 0 rfl rfl 2 (by decide) lf77 (fun _ h9 => h9) rfl dX12_feed_106 ?_
  refine lv_iconst (v := 1) hx hb dX12_feed_109 (by decide) ?_
  refine lv_iadd hx hb dX12_feed_110 ?_
  refine lt_i (y := 20) (by decide) ?_
  refine va_put (D := D) (ci := 12) (v := .int 20) (ty := .int) (C := RX12) (T := TX12) (N := 38) hx hb hts hi12 tyX12 tyX12_ok nmX12 hown hG.1 hP hD hS 0 rfl rfl 2 (by decide) lf77 (fun _ h9 => h9) rfl (by decide +kernel) rfl rfl (Nat.le_of_ble_eq_true rfl) dX12_feed_111 (fun H locs hP hD hS => ?_)
  have hP : va_P D vwCl [(mo, .inr (12, [.int 0, .ref (ma 1), .int 20, .int 0, .int 0, .int 0, .int 0, .int 0, .int (-1), .ref (ma 9), .ref (ma 10), .ref (ma 11), .ref (ma 12), .ref (ma 13), .ref (ma 14), .ref (ma 15), .int 0, .int 0, .int 0, .ref (ma 19), .ref (ma 20), .ref (ma 21), .int 0, .ref (ma 23), .ref (ma 24), .ref (ma 25), .ref (ma 26), .ref (ma 27), .ref (ma 28), .int 0, .int 0, .int 0, .int 0, .ref (ma 33), .int (-1), .ref (ma 35), .int 0, .int 0])), ((ma 9), .inl (cy 0, 600, .inl f_40))] H := hP
  have hD : va_D A [(mo, .inr (12, [.int 0, .ref (ma 1), .int 20, .int 0, .int 0, .int 0, .int 0, .int 0, .int (-1), .ref (ma 9), .ref (ma 10), .ref (ma 11), .ref (ma 12), .ref (ma 13), .ref (ma 14), .ref (ma 15), .int 0, .int 0, .int 0, .ref (ma 19), .ref (ma 20), .ref (ma 21), .int 0, .ref (ma 23), .ref (ma 24), .ref (ma 25), .ref (ma 26), .ref (ma 27), .ref (ma 28), .int 0, .int 0, .int 0, .int 0, .ref (ma 33), .int (-1), .ref (ma 35), .int 0, .int 0])), ((ma 9), .inl (cy 0, 600, .inl f_40))] := hD
  refine lv_iinc (v := 20) (lv' := [(6, .int 20), (7, .int p4), (0, .ref mo), (1, .int p0), (2, .int p1), (3, .int p2), (4, .int p3), (5, .int p4)]) hx hb dX12_feed_114 hlv (k := 1) rfl (by decide) (by decide) rfl (fun ls hlv => ?_)
  refine lv_goto (tgt := 23) hx hb dX12_feed_117 (by decide) ?_
  refine lv_iload hx hb dX12_feed_23 (lv_at hlv 0 rfl) ?_
  refine lv_bipush (v := 20) hx hb dX12_feed_25 (by decide) ?_
  refine lv_icmp_ge (tgt := 120) hx hb dX12_feed_27 (by decide) (fun _ => ?_) (fun c => absurd (by decide) c)
  refine lv_aload_n hx hb dX12_feed_120 rfl (lv_at hlv 2 rfl) ?_
  refine va_get (D := D) (ci := 12) (v := .int 20) (C := RX12) (T := TX12) (N := 38) hx hb hts hi12 hown hG.1 hP 0 rfl rfl 2 (by decide) lf77 (fun _ h9 => h9) rfl dX12_feed_121 ?_
  refine W.widen (k := 0) (n := 0) (Nat.le_of_ble_eq_true rfl) (Nat.le_of_ble_eq_true rfl) ?_
  exact W.iret (v := 20) hx hb hr (fun t ht hW => ⟨⟨20, ((fun k => ([] : List Nat).getD k 0), (fun k => ([] : List Int32).getD k 0), (fun k => ([] : List (Nat → Int32)).getD k (fun _ => 0))), rfl, (by first | (exact (by rfl))), by rw [ht]; exact hP.sub [] rfl, hD.sub [] (by decide) rfl⟩, hS.F ht⟩) hS.2.2 dX12_feed_124
