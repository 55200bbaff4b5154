theorem dX0_drive_0 : decode cX0_drive 0 = .ok (.iconst 0, 1) := by decide +kernel
theorem dX0_drive_1 : decode cX0_drive 1 = .ok (.istore_n 3, 1) := by decide +kernel
theorem dX0_drive_11 : decode cX0_drive 11 = .ok (.if_icmp .ge 77, 3) := by decide +kernel
theorem dX0_drive_14 : decode cX0_drive 14 = .ok (.aload_n 0, 1) := by decide +kernel
theorem dX0_drive_15 : decode cX0_drive 15 = .ok (.aload_n 1, 1) := by decide +kernel
theorem dX0_drive_16 : decode cX0_drive 16 = .ok (.aload_n 2, 1) := by decide +kernel
theorem dX0_drive_17 : decode cX0_drive 17 = .ok (.iload 4, 2) := by decide +kernel
theorem dX0_drive_19 : decode cX0_drive 19 = .ok (.invokevirtual 33, 3) := by decide +kernel
theorem dX0_drive_2 : decode cX0_drive 2 = .ok (.iconst 0, 1) := by decide +kernel
theorem dX0_drive_22 : decode cX0_drive 22 = .ok (.aload_n 2, 1) := by decide +kernel
theorem dX0_drive_23 : decode cX0_drive 23 = .ok (.iconst 0, 1) := by decide +kernel
theorem dX0_drive_24 : decode cX0_drive 24 = .ok (.aload_n 0, 1) := by decide +kernel
theorem dX0_drive_25 : decode cX0_drive 25 = .ok (.getfield 9, 3) := by decide +kernel
theorem dX0_drive_28 : decode cX0_drive 28 = .ok (.invokevirtual 37, 3) := by decide +kernel
theorem dX0_drive_3 : decode cX0_drive 3 = .ok (.istore 4, 2) := by decide +kernel
theorem dX0_drive_31 : decode cX0_drive 31 = .ok (.i2l, 1) := by decide +kernel
theorem dX0_drive_32 : decode cX0_drive 32 = .ok (.iconst 0, 1) := by decide +kernel
theorem dX0_drive_33 : decode cX0_drive 33 = .ok (.bipush 16, 2) := by decide +kernel
theorem dX0_drive_35 : decode cX0_drive 35 = .ok (.invokestatic 41, 3) := by decide +kernel
theorem dX0_drive_38 : decode cX0_drive 38 = .ok (.istore 5, 2) := by decide +kernel
theorem dX0_drive_40 : decode cX0_drive 40 = .ok (.aload_n 0, 1) := by decide +kernel
theorem dX0_drive_41 : decode cX0_drive 41 = .ok (.getfield 9, 3) := by decide +kernel
theorem dX0_drive_44 : decode cX0_drive 44 = .ok (.iconst 0, 1) := by decide +kernel
theorem dX0_drive_45 : decode cX0_drive 45 = .ok (.iaload, 1) := by decide +kernel
theorem dX0_drive_46 : decode cX0_drive 46 = .ok (.iload 5, 2) := by decide +kernel
theorem dX0_drive_48 : decode cX0_drive 48 = .ok (.imul, 1) := by decide +kernel
theorem dX0_drive_49 : decode cX0_drive 49 = .ok (.bipush 16, 2) := by decide +kernel
theorem dX0_drive_5 : decode cX0_drive 5 = .ok (.iload 4, 2) := by decide +kernel
theorem dX0_drive_51 : decode cX0_drive 51 = .ok (.idiv, 1) := by decide +kernel
theorem dX0_drive_52 : decode cX0_drive 52 = .ok (.istore 6, 2) := by decide +kernel
theorem dX0_drive_54 : decode cX0_drive 54 = .ok (.iload 6, 2) := by decide +kernel
theorem dX0_drive_56 : decode cX0_drive 56 = .ok (.ifCond .le 26, 3) := by decide +kernel
theorem dX0_drive_59 : decode cX0_drive 59 = .ok (.aload_n 1, 1) := by decide +kernel
theorem dX0_drive_60 : decode cX0_drive 60 = .ok (.iload 4, 2) := by decide +kernel
theorem dX0_drive_62 : decode cX0_drive 62 = .ok (.aload_n 0, 1) := by decide +kernel
theorem dX0_drive_63 : decode cX0_drive 63 = .ok (.getfield 47, 3) := by decide +kernel
theorem dX0_drive_66 : decode cX0_drive 66 = .ok (.iload 6, 2) := by decide +kernel
theorem dX0_drive_68 : decode cX0_drive 68 = .ok (.invokevirtual 50, 3) := by decide +kernel
theorem dX0_drive_7 : decode cX0_drive 7 = .ok (.aload_n 1, 1) := by decide +kernel
theorem dX0_drive_71 : decode cX0_drive 71 = .ok (.iload_n 3, 1) := by decide +kernel
theorem dX0_drive_72 : decode cX0_drive 72 = .ok (.aload_n 0, 1) := by decide +kernel
theorem dX0_drive_73 : decode cX0_drive 73 = .ok (.aload_n 1, 1) := by decide +kernel
theorem dX0_drive_74 : decode cX0_drive 74 = .ok (.aload_n 2, 1) := by decide +kernel
theorem dX0_drive_75 : decode cX0_drive 75 = .ok (.iload 4, 2) := by decide +kernel
theorem dX0_drive_77 : decode cX0_drive 77 = .ok (.invokevirtual 54, 3) := by decide +kernel
theorem dX0_drive_8 : decode cX0_drive 8 = .ok (.getfield 28, 3) := by decide +kernel
theorem dX0_drive_80 : decode cX0_drive 80 = .ok (.iadd, 1) := by decide +kernel
theorem dX0_drive_81 : decode cX0_drive 81 = .ok (.istore_n 3, 1) := by decide +kernel
theorem dX0_drive_82 : decode cX0_drive 82 = .ok (.iinc 4 1, 3) := by decide +kernel
theorem dX0_drive_85 : decode cX0_drive 85 = .ok (.goto (-80), 3) := by decide +kernel
theorem dX0_drive_88 : decode cX0_drive 88 = .ok (.iload_n 3, 1) := by decide +kernel
theorem dX0_drive_89 : decode cX0_drive 89 = .ok (.ireturn, 1) := by decide +kernel
theorem dX0_hit_0 : decode cX0_hit 0 = .ok (.aload_n 2, 1) := by decide +kernel
theorem dX0_hit_1 : decode cX0_hit 1 = .ok (.iconst 1, 1) := by decide +kernel
theorem dX0_hit_100 : decode cX0_hit 100 = .ok (.iconst 2, 1) := by decide +kernel
theorem dX0_hit_101 : decode cX0_hit 101 = .ok (.aload_n 0, 1) := by decide +kernel
theorem dX0_hit_102 : decode cX0_hit 102 = .ok (.getfield 9, 3) := by decide +kernel
theorem dX0_hit_105 : decode cX0_hit 105 = .ok (.invokevirtual 37, 3) := by decide +kernel
theorem dX0_hit_108 : decode cX0_hit 108 = .ok (.i2l, 1) := by decide +kernel
theorem dX0_hit_109 : decode cX0_hit 109 = .ok (.iconst 0, 1) := by decide +kernel
theorem dX0_hit_11 : decode cX0_hit 11 = .ok (.aload_n 0, 1) := by decide +kernel
theorem dX0_hit_110 : decode cX0_hit 110 = .ok (.bipush 99, 2) := by decide +kernel
theorem dX0_hit_112 : decode cX0_hit 112 = .ok (.invokestatic 41, 3) := by decide +kernel
theorem dX0_hit_115 : decode cX0_hit 115 = .ok (.istore 9, 2) := by decide +kernel
theorem dX0_hit_117 : decode cX0_hit 117 = .ok (.aload_n 1, 1) := by decide +kernel
theorem dX0_hit_118 : decode cX0_hit 118 = .ok (.getfield 89, 3) := by decide +kernel
theorem dX0_hit_12 : decode cX0_hit 12 = .ok (.getfield 9, 3) := by decide +kernel
theorem dX0_hit_121 : decode cX0_hit 121 = .ok (.iload 7, 2) := by decide +kernel
theorem dX0_hit_123 : decode cX0_hit 123 = .ok (.iconst 2, 1) := by decide +kernel
theorem dX0_hit_124 : decode cX0_hit 124 = .ok (.iadd, 1) := by decide +kernel
theorem dX0_hit_125 : decode cX0_hit 125 = .ok (.dup2, 1) := by decide +kernel
theorem dX0_hit_126 : decode cX0_hit 126 = .ok (.iaload, 1) := by decide +kernel
theorem dX0_hit_127 : decode cX0_hit 127 = .ok (.iload 9, 2) := by decide +kernel
theorem dX0_hit_129 : decode cX0_hit 129 = .ok (.iadd, 1) := by decide +kernel
theorem dX0_hit_130 : decode cX0_hit 130 = .ok (.iastore, 1) := by decide +kernel
theorem dX0_hit_131 : decode cX0_hit 131 = .ok (.aload_n 1, 1) := by decide +kernel
theorem dX0_hit_132 : decode cX0_hit 132 = .ok (.getfield 89, 3) := by decide +kernel
theorem dX0_hit_135 : decode cX0_hit 135 = .ok (.iload 7, 2) := by decide +kernel
theorem dX0_hit_137 : decode cX0_hit 137 = .ok (.iconst 3, 1) := by decide +kernel
theorem dX0_hit_138 : decode cX0_hit 138 = .ok (.iadd, 1) := by decide +kernel
theorem dX0_hit_139 : decode cX0_hit 139 = .ok (.dup2, 1) := by decide +kernel
theorem dX0_hit_140 : decode cX0_hit 140 = .ok (.iaload, 1) := by decide +kernel
theorem dX0_hit_141 : decode cX0_hit 141 = .ok (.iconst 1, 1) := by decide +kernel
theorem dX0_hit_142 : decode cX0_hit 142 = .ok (.iadd, 1) := by decide +kernel
theorem dX0_hit_143 : decode cX0_hit 143 = .ok (.iastore, 1) := by decide +kernel
theorem dX0_hit_144 : decode cX0_hit 144 = .ok (.iload 5, 2) := by decide +kernel
theorem dX0_hit_146 : decode cX0_hit 146 = .ok (.iload 9, 2) := by decide +kernel
theorem dX0_hit_148 : decode cX0_hit 148 = .ok (.iadd, 1) := by decide +kernel
theorem dX0_hit_149 : decode cX0_hit 149 = .ok (.istore 5, 2) := by decide +kernel
theorem dX0_hit_15 : decode cX0_hit 15 = .ok (.bipush 6, 2) := by decide +kernel
theorem dX0_hit_151 : decode cX0_hit 151 = .ok (.iinc 6 1, 3) := by decide +kernel
theorem dX0_hit_154 : decode cX0_hit 154 = .ok (.goto (-117), 3) := by decide +kernel
theorem dX0_hit_157 : decode cX0_hit 157 = .ok (.iload 5, 2) := by decide +kernel
theorem dX0_hit_159 : decode cX0_hit 159 = .ok (.ireturn, 1) := by decide +kernel
theorem dX0_hit_17 : decode cX0_hit 17 = .ok (.aload_n 1, 1) := by decide +kernel
theorem dX0_hit_18 : decode cX0_hit 18 = .ok (.iload_n 3, 1) := by decide +kernel
theorem dX0_hit_19 : decode cX0_hit 19 = .ok (.invokevirtual 79, 3) := by decide +kernel
theorem dX0_hit_2 : decode cX0_hit 2 = .ok (.aload_n 0, 1) := by decide +kernel
theorem dX0_hit_22 : decode cX0_hit 22 = .ok (.ifCond .eq 7, 3) := by decide +kernel
theorem dX0_hit_25 : decode cX0_hit 25 = .ok (.iconst 1, 1) := by decide +kernel
theorem dX0_hit_26 : decode cX0_hit 26 = .ok (.goto 4, 3) := by decide +kernel
theorem dX0_hit_29 : decode cX0_hit 29 = .ok (.iconst 0, 1) := by decide +kernel
theorem dX0_hit_3 : decode cX0_hit 3 = .ok (.getfield 9, 3) := by decide +kernel
theorem dX0_hit_30 : decode cX0_hit 30 = .ok (.iastore, 1) := by decide +kernel
theorem dX0_hit_31 : decode cX0_hit 31 = .ok (.iconst 0, 1) := by decide +kernel
theorem dX0_hit_32 : decode cX0_hit 32 = .ok (.istore 5, 2) := by decide +kernel
theorem dX0_hit_34 : decode cX0_hit 34 = .ok (.iconst 0, 1) := by decide +kernel
theorem dX0_hit_35 : decode cX0_hit 35 = .ok (.istore 6, 2) := by decide +kernel
theorem dX0_hit_37 : decode cX0_hit 37 = .ok (.iload 6, 2) := by decide +kernel
theorem dX0_hit_39 : decode cX0_hit 39 = .ok (.aload_n 1, 1) := by decide +kernel
theorem dX0_hit_40 : decode cX0_hit 40 = .ok (.getfield 83, 3) := by decide +kernel
theorem dX0_hit_43 : decode cX0_hit 43 = .ok (.aload_n 1, 1) := by decide +kernel
theorem dX0_hit_44 : decode cX0_hit 44 = .ok (.getfield 86, 3) := by decide +kernel
theorem dX0_hit_47 : decode cX0_hit 47 = .ok (.iadd, 1) := by decide +kernel
theorem dX0_hit_48 : decode cX0_hit 48 = .ok (.if_icmp .ge 109, 3) := by decide +kernel
theorem dX0_hit_51 : decode cX0_hit 51 = .ok (.iconst 4, 1) := by decide +kernel
theorem dX0_hit_52 : decode cX0_hit 52 = .ok (.iload 6, 2) := by decide +kernel
theorem dX0_hit_54 : decode cX0_hit 54 = .ok (.imul, 1) := by decide +kernel
theorem dX0_hit_55 : decode cX0_hit 55 = .ok (.istore 7, 2) := by decide +kernel
theorem dX0_hit_57 : decode cX0_hit 57 = .ok (.aload_n 1, 1) := by decide +kernel
theorem dX0_hit_58 : decode cX0_hit 58 = .ok (.getfield 89, 3) := by decide +kernel
theorem dX0_hit_6 : decode cX0_hit 6 = .ok (.invokevirtual 37, 3) := by decide +kernel
theorem dX0_hit_61 : decode cX0_hit 61 = .ok (.iload 7, 2) := by decide +kernel
theorem dX0_hit_63 : decode cX0_hit 63 = .ok (.iconst 1, 1) := by decide +kernel
theorem dX0_hit_64 : decode cX0_hit 64 = .ok (.iadd, 1) := by decide +kernel
theorem dX0_hit_65 : decode cX0_hit 65 = .ok (.iaload, 1) := by decide +kernel
theorem dX0_hit_66 : decode cX0_hit 66 = .ok (.aload_n 0, 1) := by decide +kernel
theorem dX0_hit_67 : decode cX0_hit 67 = .ok (.getfield 47, 3) := by decide +kernel
theorem dX0_hit_70 : decode cX0_hit 70 = .ok (.iadd, 1) := by decide +kernel
theorem dX0_hit_71 : decode cX0_hit 71 = .ok (.istore 8, 2) := by decide +kernel
theorem dX0_hit_73 : decode cX0_hit 73 = .ok (.aload_n 1, 1) := by decide +kernel
theorem dX0_hit_74 : decode cX0_hit 74 = .ok (.getfield 89, 3) := by decide +kernel
theorem dX0_hit_77 : decode cX0_hit 77 = .ok (.iload 7, 2) := by decide +kernel
theorem dX0_hit_79 : decode cX0_hit 79 = .ok (.iaload, 1) := by decide +kernel
theorem dX0_hit_80 : decode cX0_hit 80 = .ok (.iload_n 3, 1) := by decide +kernel
theorem dX0_hit_81 : decode cX0_hit 81 = .ok (.if_icmp .ne 70, 3) := by decide +kernel
theorem dX0_hit_84 : decode cX0_hit 84 = .ok (.iload 8, 2) := by decide +kernel
theorem dX0_hit_86 : decode cX0_hit 86 = .ok (.iload 4, 2) := by decide +kernel
theorem dX0_hit_88 : decode cX0_hit 88 = .ok (.if_icmp .ge 63, 3) := by decide +kernel
theorem dX0_hit_9 : decode cX0_hit 9 = .ok (.istore 4, 2) := by decide +kernel
theorem dX0_hit_91 : decode cX0_hit 91 = .ok (.aload_n 0, 1) := by decide +kernel
theorem dX0_hit_92 : decode cX0_hit 92 = .ok (.getfield 9, 3) := by decide +kernel
theorem dX0_hit_95 : decode cX0_hit 95 = .ok (.iconst 4, 1) := by decide +kernel
theorem dX0_hit_96 : decode cX0_hit 96 = .ok (.iload 8, 2) := by decide +kernel
theorem dX0_hit_98 : decode cX0_hit 98 = .ok (.iastore, 1) := by decide +kernel
theorem dX0_hit_99 : decode cX0_hit 99 = .ok (.aload_n 2, 1) := by decide +kernel
def vs_c_hit : List Cond := .code yX0_hit cX0_hit 10 (some .int) :: (([.fieldLink RX0 9 "KerbSplash$Car" "names" "[I", .initialized RX1, .instanceMethod yX1_value, .selects RX1 yX1_value yX1_value, .fieldLink RX0 47 "KerbSplash$Car" "rowThere" "I", .initialized RX11, .static yX11_held, .initialized RX6, .instanceMethod yX6_isSheltered, .selects RX6 yX6_isSheltered yX6_isSheltered] : List Cond) ++ ((wsX00) ++ ((vs_w_value) ++ ((wsX60) ++ ((vs_s_held) ++ ((vs_s_isSheltered) ++ ([])))))))
theorem gd_c_hit : vs_c_hit.all goodWord = true := gd_C (by decide +kernel) (gd_A (by decide +kernel) (gd_A (by decide +kernel) (gd_A gd_w_value (gd_A (by decide +kernel) (gd_A gd_s_held (gd_A gd_s_isSheltered rfl))))))
set_option maxHeartbeats 4000000 in
set_option maxRecDepth 100000 in
theorem c_hit (l : Launch) (hl : l.stackTraces = false) (D : va_G) (cy : Nat → ClassId) (sa : Nat → Nat) (ca na : Nat) (crow cpace ctyre ckind crt cpt : Int) (sA s2 s3 s6 s8 s11 s13 : Nat) (wi ro dr dt pe gu sh wo dn mi fl tk go : Int) (xl xh : Int) (nf pf shf : Nat → Int32) (la l0 l2 l3 : Nat) (size : Int) (st sf vf : Nat → Int32) (x : Int) (sz : Nat) (hr_crow : 0 ≤ crow ∧ crow ≤ 5) (hr_cpace : (-2147483648) ≤ cpace ∧ cpace ≤ 2147483647) (hr_ctyre : (-2147483648) ≤ ctyre ∧ ctyre ≤ 2147483647) (hr_ckind : (-2147483648) ≤ ckind ∧ ckind ≤ 2147483647) (hr_crt : 0 ≤ crt ∧ crt ≤ 5) (hr_cpt : (-2147483648) ≤ cpt ∧ cpt ≤ 2147483647) (hr_wi : 0 ≤ wi ∧ wi ≤ 16) (hr_ro : 0 ≤ ro ∧ ro ≤ 6) (hr_dr : 0 ≤ dr ∧ dr ≤ 14) (hr_dt : 0 ≤ dt ∧ dt ≤ 6) (hr_pe : 0 ≤ pe ∧ pe ≤ 8) (hr_gu : 0 ≤ gu ∧ gu ≤ 20) (hr_sh : 0 ≤ sh ∧ sh ≤ 2) (hr_wo : 0 ≤ wo ∧ wo ≤ 8) (hr_dn : (-2147483648) ≤ dn ∧ dn ≤ 2147483647) (hr_mi : 0 ≤ mi ∧ mi ≤ 600) (hr_fl : (-2147483648) ≤ fl ∧ fl ≤ 2147483647) (hr_tk : (-2147483648) ≤ tk ∧ tk ≤ 2147483647) (hr_go : (-2147483648) ≤ go ∧ go ≤ 2147483647) (hr_xl : (-2147483648) ≤ xl ∧ xl ≤ 0) (hr_xh : 15 ≤ xh ∧ xh ≤ 2147483647) (hr_size : 0 ≤ size ∧ size ≤ 600) (hr_x : 0 ≤ x ∧ x ≤ 15) (hpf : tab_ 4 28 [xl, 0, (-2147483648), (-2147483648)] [xh, 19, 2147483647, 2147483647] pf) (hst : inv_ 600 0 2147483647 st) : Met l yX0_hit vs_c_hit ({ frames := 2, cells := 0, slots := 0, locals := 49 }) (va_Pc [vR ca, vR sA, vR la, vI x] (pcW D cy sa sz [zO ca 0 [vR na, vI crow, vI cpace, vI ctyre, vI ckind, vI crt, vI cpt], zI na (cy 0) 7 nf, zO sA 6 [vI wi, vI ro, vR s2, vR s3, vI dr, vI dt, vR s6, vI pe, vR s8, vI gu, vI sh, vR s11, vI wo, vR s13, vI dn, vI mi, vI fl, vI tk, vI go], zI s8 (cy 0) 112 pf, zI s11 (cy 0) 4 shf, zO la 1 [vR l0, vI size, vR l2, vR l3], zI l0 (cy 0) 600 st, zI l2 (cy 0) 5 sf, zI l3 (cy 0) 40 vf])) (va_Qi (fun (r : Int32) (u : SV) => r = iI (u.2.1 0) ∧ ((-2147483648) ≤ u.2.1 0 ∧ u.2.1 0 ≤ 2147483647) ∧ tab_ 4 28 [xl, 0, (-2147483648), (-2147483648)] [xh, 19, 2147483647, 2147483647] (u.2.2 2) ∧ inv_ 600 0 2147483647 st) (fun u t => atW D (va_A [zO ca 0 [vR na, vI crow, vI cpace, vI ctyre, vI ckind, vI crt, vI cpt], zI na (cy 0) 7 nf, zO sA 6 [vI wi, vI ro, vR s2, vR s3, vI dr, vI dt, vR s6, vI pe, vR s8, vI gu, vI sh, vR s11, vI wo, vR s13, vI dn, vI mi, vI fl, vI tk, vI go], zI s8 (cy 0) 112 pf, zI s11 (cy 0) 4 shf, zO la 1 [vR l0, vI size, vR l2, vR l3], zI l0 (cy 0) 600 st, zI l2 (cy 0) 5 sf, zI l3 (cy 0) 40 vf] sz) [zO ca 0 [vR na, vI crow, vI cpace, vI ctyre, vI ckind, vI crt, vI cpt], zI na (cy 0) 7 (u.2.2 0), zO sA 6 [vI wi, vI ro, vR s2, vR s3, vI dr, vI dt, vR s6, vI pe, vR s8, vI gu, vI sh, vR s11, vI wo, vR s13, vI dn, vI mi, vI fl, vI tk, vI go], zI s8 (cy 0) 112 (u.2.2 2), zI s11 (cy 0) 4 shf, zO la 1 [vR l0, vI size, vR l2, vR l3], zI l0 (cy 0) 600 st, zI l2 (cy 0) 5 sf, zI l3 (cy 0) 40 (u.2.2 1)] t) (va_A [zO ca 0 [vR na, vI crow, vI cpace, vI ctyre, vI ckind, vI crt, vI cpt], zI na (cy 0) 7 nf, zO sA 6 [vI wi, vI ro, vR s2, vR s3, vI dr, vI dt, vR s6, vI pe, vR s8, vI gu, vI sh, vR s11, vI wo, vR s13, vI dn, vI mi, vI fl, vI tk, vI go], zI s8 (cy 0) 112 pf, zI s11 (cy 0) 4 shf, zO la 1 [vR l0, vI size, vR l2, vR l3], zI l0 (cy 0) 600 st, zI l2 (cy 0) 5 sf, zI l3 (cy 0) 40 vf] sz)) 0 0 (va_A [zO ca 0 [vR na, vI crow, vI cpace, vI ctyre, vI ckind, vI crt, vI cpt], zI na (cy 0) 7 nf, zO sA 6 [vI wi, vI ro, vR s2, vR s3, vI dr, vI dt, vR s6, vI pe, vR s8, vI gu, vI sh, vR s11, vI wo, vR s13, vI dn, vI mi, vI fl, vI tk, vI go], zI s8 (cy 0) 112 pf, zI s11 (cy 0) 4 shf, zO la 1 [vR l0, vI size, vR l2, vR l3], zI l0 (cy 0) 600 st, zI l2 (cy 0) 5 sf, zI l3 (cy 0) 40 vf] sz) := by
  refine Met.ofW (cc := cX0_hit) (maxL := 10) (ret := (some .int)) (by decide) rfl ?_
  intro p e s m args below meth c s₁ B hml hv
  obtain ⟨rfl, hsz, hP, hG, hD0, hT⟩ := hv
  have hx := B.exec
  have hb := B.bytes
  have hr := B.returns
  have hts := atoms_spec (ws := vs_c_hit) B.pre
  have hown : s.vm.findClass RX0 = some m.cls := findClass_of_methodNamed B.named
  have hlocks := B.notSynchronized
  subst hsz
  have hD := hD0.self (sz := s.heap.size)
  generalize hAe : va_A [zO ca 0 [vR na, vI crow, vI cpace, vI ctyre, vI ckind, vI crt, vI cpt], zI na (cy 0) 7 nf, zO sA 6 [vI wi, vI ro, vR s2, vR s3, vI dr, vI dt, vR s6, vI pe, vR s8, vI gu, vI sh, vR s11, vI wo, vR s13, vI dn, vI mi, vI fl, vI tk, vI go], zI s8 (cy 0) 112 pf, zI s11 (cy 0) 4 shf, zO la 1 [vR l0, vI size, vR l2, vR l3], zI l0 (cy 0) 600 st, zI l2 (cy 0) 5 sf, zI l3 (cy 0) 40 vf] s.heap.size = A at hD hT ⊢
  have hA : ∀ q : Nat, s.heap.size ≤ q → A q := fun q h => by rw [← hAe]; exact Or.inr h
  have hS : va_S A s.heap s.heap [] := va_S.rf
  have hl0 := lv_entry ([vR ca, vR sA, vR la, vI x]) (n := 10) (Nat.le_of_ble_eq_true rfl)
  rw [lg_entry_eq]
  generalize (lg_sl ([vR ca, vR sA, vR la, vI x]) ++ List.replicate (10 - (lg_sl ([vR ca, vR sA, vR la, vI x])).length) Slot.unset).toArray = ls at hl0 ⊢
  have hlv : lv_has ls 10 [(0, vR ca), (1, vR sA), (2, vR la), (3, vI x)] := hl0
  have lf9 := hts (.fieldLink RX0 9 "KerbSplash$Car" "names" "[I") (List.mem_of_getElem? (i := 1) rfl)
  have hi0 : ∀ w ∈ wsX00, w ∈ vs_c_hit := fun w h => List.mem_cons_of_mem _ (List.mem_append_right _ (List.mem_append_left _ h))
  have gg_1 : GoodIn vs_c_hit (vs_w_value) := goodIn_sub (fun w h => List.mem_cons_of_mem _ (List.mem_append_right _ (List.mem_append_right _ (List.mem_append_left _ h)))) gd_w_value
  have ini_RX1 := hts (.initialized RX1) (List.mem_of_getElem? (i := 2) rfl)
  have im_X1_value := hts (.instanceMethod yX1_value) (List.mem_of_getElem? (i := 3) rfl)
  have se_X1_value := hts (.selects RX1 yX1_value yX1_value) (List.mem_of_getElem? (i := 4) rfl)
  have hi6 : ∀ w ∈ wsX60, w ∈ vs_c_hit := fun w h => List.mem_cons_of_mem _ (List.mem_append_right _ (List.mem_append_right _ (List.mem_append_right _ (List.mem_append_left _ h))))
  have lf47 := hts (.fieldLink RX0 47 "KerbSplash$Car" "rowThere" "I") (List.mem_of_getElem? (i := 5) rfl)
  have gg_3 : GoodIn vs_c_hit (vs_s_held) := goodIn_sub (fun w h => List.mem_cons_of_mem _ (List.mem_append_right _ (List.mem_append_right _ (List.mem_append_right _ (List.mem_append_right _ (List.mem_append_left _ h)))))) gd_s_held
  have ini_RX11 := hts (.initialized RX11) (List.mem_of_getElem? (i := 6) rfl)
  have st_X11_held := hts (.static yX11_held) (List.mem_of_getElem? (i := 7) rfl)
  have gg_4 : GoodIn vs_c_hit (vs_s_isSheltered) := goodIn_sub (fun w h => List.mem_cons_of_mem _ (List.mem_append_right _ (List.mem_append_right _ (List.mem_append_right _ (List.mem_append_right _ (List.mem_append_right _ (List.mem_append_left _ h))))))) gd_s_isSheltered
  have ini_RX6 := hts (.initialized RX6) (List.mem_of_getElem? (i := 8) rfl)
  have im_X6_isSheltered := hts (.instanceMethod yX6_isSheltered) (List.mem_of_getElem? (i := 9) rfl)
  have se_X6_isSheltered := hts (.selects RX6 yX6_isSheltered yX6_isSheltered) (List.mem_of_getElem? (i := 10) rfl)
  refine lv_aload_n hx hb dX0_hit_0 rfl (lv_at hlv 2 rfl) ?_
  refine lv_iconst (v := iI 1) hx hb dX0_hit_1 (by decide) ?_
  refine lv_aload_n hx hb dX0_hit_2 rfl (lv_at hlv 0 rfl) ?_
  refine va_get (D := D) (ci := 0) (v := vR na) (C := RX0) (T := TX0) (N := 7) hx hb hts hi0 hown hG.1 hP 0 rfl rfl 0 (by decide) lf9 (fun _ h9 => h9) rfl dX0_hit_3 ?_
  refine cj_i (wr := [zO ca 0 [vR na, vI crow, vI cpace, vI ctyre, vI ckind, vI crt, vI cpt], zO sA 6 [vI wi, vI ro, vR s2, vR s3, vI dr, vI dt, vR s6, vI pe, vR s8, vI gu, vI sh, vR s11, vI wo, vR s13, vI dn, vI mi, vI fl, vI tk, vI go], zI s8 (cy 0) 112 pf, zI s11 (cy 0) 4 shf]) (va_runVN (host := "KerbSplash") (As := [vI 1, vR na]) (rest := []) ⟨hx, hb, hml, hown, hts⟩ (w_value l hl D cy sa la l0 l2 l3 na size st sf vf nf 1 s.heap.size (by first | exact hr_size | omega) (by show (0 : Int) ≤ 1 ∧ (1 : Int) ≤ 4; decide) hst) ⟨va_cnB 2 hts gg_1 rfl rfl rfl (nM_Car_37 hG.2.1) ini_RX1 (by decide +kernel) ⟨Nat.le_of_ble_eq_true rfl, Nat.le_of_ble_eq_true rfl⟩, im_X1_value, se_X1_value⟩ ⟨pcW.blind, (va_recv hG.1 hP (ci := 1) (q0 := 5) rfl rfl), (pcW.mk hP hD hS hA hG hT [5, 6, 7, 8, 1] rfl (by decide))⟩ rfl rfl hlv.1 rfl (lv_room (Nat.le_of_ble_eq_true rfl)) dX0_hit_6 ⟨Nat.le_of_ble_eq_true rfl, Nat.le_of_ble_eq_true rfl⟩) hP hD hS hA [5, 6, 7, 8, 1] [0, 2, 3, 4] rfl rfl (by decide) (by decide) (fun r1 u1 H locs hw1 hP hD hS => ?_)
  obtain ⟨rfl, hq1_1, hq1_2⟩ := hw1
  have hP : va_P D vwCl [zO ca 0 [vR na, vI crow, vI cpace, vI ctyre, vI ckind, vI crt, vI cpt], zO sA 6 [vI wi, vI ro, vR s2, vR s3, vI dr, vI dt, vR s6, vI pe, vR s8, vI gu, vI sh, vR s11, vI wo, vR s13, vI dn, vI mi, vI fl, vI tk, vI go], zI s8 (cy 0) 112 pf, zI s11 (cy 0) 4 shf, zO la 1 [vR l0, vI size, vR l2, vR l3], zI l0 (cy 0) 600 st, zI l2 (cy 0) 5 sf, zI l3 (cy 0) 40 (u1.2.2 0), zI na (cy 0) 7 nf] H := hP
  have hD : va_D A [zO ca 0 [vR na, vI crow, vI cpace, vI ctyre, vI ckind, vI crt, vI cpt], zO sA 6 [vI wi, vI ro, vR s2, vR s3, vI dr, vI dt, vR s6, vI pe, vR s8, vI gu, vI sh, vR s11, vI wo, vR s13, vI dn, vI mi, vI fl, vI tk, vI go], zI s8 (cy 0) 112 pf, zI s11 (cy 0) 4 shf, zO la 1 [vR l0, vI size, vR l2, vR l3], zI l0 (cy 0) 600 st, zI l2 (cy 0) 5 sf, zI l3 (cy 0) 40 (u1.2.2 0), zI na (cy 0) 7 nf] := hD
  refine lv_istore (lv' := [(4, vI (u1.2.1 0)), (0, vR ca), (1, vR sA), (2, vR la), (3, vI x)]) hx hb dX0_hit_9 hlv (by decide) rfl (fun ls hlv => ?_)
  refine jn (α := (Nat → Int32)) (fun a H locs g => ∃ ls : Array Slot, g = F0 m 31 ls [] ∧ va_P D vwCl [zO ca 0 [vR na, vI crow, vI cpace, vI ctyre, vI ckind, vI crt, vI cpt], zO sA 6 [vI wi, vI ro, vR s2, vR s3, vI dr, vI dt, vR s6, vI pe, vR s8, vI gu, vI sh, vR s11, vI wo, vR s13, vI dn, vI mi, vI fl, vI tk, vI go], zI s8 (cy 0) 112 pf, zI s11 (cy 0) 4 shf, zO la 1 [vR l0, vI size, vR l2, vR l3], zI l0 (cy 0) 600 st, zI l2 (cy 0) 5 sf, zI l3 (cy 0) 40 (u1.2.2 0), zI na (cy 0) 7 (a)] H ∧ va_D A [zO ca 0 [vR na, vI crow, vI cpace, vI ctyre, vI ckind, vI crt, vI cpt], zO sA 6 [vI wi, vI ro, vR s2, vR s3, vI dr, vI dt, vR s6, vI pe, vR s8, vI gu, vI sh, vR s11, vI wo, vR s13, vI dn, vI mi, vI fl, vI tk, vI go], zI s8 (cy 0) 112 pf, zI s11 (cy 0) 4 shf, zO la 1 [vR l0, vI size, vR l2, vR l3], zI l0 (cy 0) 600 st, zI l2 (cy 0) 5 sf, zI l3 (cy 0) 40 (u1.2.2 0), zI na (cy 0) 7 (a)] ∧ va_S A s.heap H locs ∧ lv_has ls 10 [(4, vI (u1.2.1 0)), (0, vR ca), (1, vR sA), (2, vR la), (3, vI x)]) (fun a H locs g hj => ?_) (fun jn31 => ?_)
  · obtain ⟨ls, rfl, hP, hD, hS, hlv⟩ := hj
    obtain ⟨jn_, rfl⟩ : ∃ z, z = a := ⟨_, rfl⟩
    have hP : va_P D vwCl [zO ca 0 [vR na, vI crow, vI cpace, vI ctyre, vI ckind, vI crt, vI cpt], zO sA 6 [vI wi, vI ro, vR s2, vR s3, vI dr, vI dt, vR s6, vI pe, vR s8, vI gu, vI sh, vR s11, vI wo, vR s13, vI dn, vI mi, vI fl, vI tk, vI go], zI s8 (cy 0) 112 pf, zI s11 (cy 0) 4 shf, zO la 1 [vR l0, vI size, vR l2, vR l3], zI l0 (cy 0) 600 st, zI l2 (cy 0) 5 sf, zI l3 (cy 0) 40 (u1.2.2 0), zI na (cy 0) 7 jn_] H := hP
    have hD : va_D A [zO ca 0 [vR na, vI crow, vI cpace, vI ctyre, vI ckind, vI crt, vI cpt], zO sA 6 [vI wi, vI ro, vR s2, vR s3, vI dr, vI dt, vR s6, vI pe, vR s8, vI gu, vI sh, vR s11, vI wo, vR s13, vI dn, vI mi, vI fl, vI tk, vI go], zI s8 (cy 0) 112 pf, zI s11 (cy 0) 4 shf, zO la 1 [vR l0, vI size, vR l2, vR l3], zI l0 (cy 0) 600 st, zI l2 (cy 0) 5 sf, zI l3 (cy 0) 40 (u1.2.2 0), zI na (cy 0) 7 jn_] := hD
    have hlv : lv_has ls 10 [(4, vI (u1.2.1 0)), (0, vR ca), (1, vR sA), (2, vR la), (3, vI x)] := hlv
    refine lv_iconst (v := iI 0) hx hb dX0_hit_31 (by decide) ?_
    refine lv_istore (lv' := [(5, vI 0), (4, vI (u1.2.1 0)), (0, vR ca), (1, vR sA), (2, vR la), (3, vI x)]) hx hb dX0_hit_32 hlv (by decide) rfl (fun ls hlv => ?_)
    refine lv_iconst (v := iI 0) hx hb dX0_hit_34 (by decide) ?_
    refine lv_istore (lv' := [(6, vI 0), (5, vI 0), (4, vI (u1.2.1 0)), (0, vR ca), (1, vR sA), (2, vR la), (3, vI x)]) hx hb dX0_hit_35 hlv (by decide) rfl (fun ls hlv => ?_)
    refine (?_ : ∀ (fu : Nat) (q5 : Int) (q6 : Int) (ng : Nat → Int32) (pg : Nat → Int32) (vg : Nat → Int32) (H : Heap) (locs : List Loc) (ls : Array Slot), 28 - q6 < (fu : Int) → ((-2147483648) ≤ q5 ∧ q5 ≤ 2147483647) → (0 ≤ q6 ∧ q6 ≤ 28) → (q6 ≤ pe + gu) → tab_ 4 28 [xl, 0, (-2147483648), (-2147483648)] [xh, 19, 2147483647, 2147483647] pg → va_P D vwCl [zO ca 0 [vR na, vI crow, vI cpace, vI ctyre, vI ckind, vI crt, vI cpt], zO sA 6 [vI wi, vI ro, vR s2, vR s3, vI dr, vI dt, vR s6, vI pe, vR s8, vI gu, vI sh, vR s11, vI wo, vR s13, vI dn, vI mi, vI fl, vI tk, vI go], zI s8 (cy 0) 112 pg, zI s11 (cy 0) 4 shf, zO la 1 [vR l0, vI size, vR l2, vR l3], zI l0 (cy 0) 600 st, zI l2 (cy 0) 5 sf, zI l3 (cy 0) 40 vg, zI na (cy 0) 7 ng] H → va_D A [zO ca 0 [vR na, vI crow, vI cpace, vI ctyre, vI ckind, vI crt, vI cpt], zO sA 6 [vI wi, vI ro, vR s2, vR s3, vI dr, vI dt, vR s6, vI pe, vR s8, vI gu, vI sh, vR s11, vI wo, vR s13, vI dn, vI mi, vI fl, vI tk, vI go], zI s8 (cy 0) 112 pg, zI s11 (cy 0) 4 shf, zO la 1 [vR l0, vI size, vR l2, vR l3], zI l0 (cy 0) 600 st, zI l2 (cy 0) 5 sf, zI l3 (cy 0) 40 vg, zI na (cy 0) 7 ng] → va_S A s.heap H locs → lv_has ls 10 [(6, vI q6), (5, vI q5), (4, vI (u1.2.1 0)), (0, vR ca), (1, vR sA), (2, vR la), (3, vI x)] → W p l e _ s m _ below meth c H locs _ _ _ (F0 m 37 ls [])) (((28 - 0) + 1 : Int)).toNat 0 0 jn_ pf (u1.2.2 0) _ _ _ (by omega) (by show ((-2147483648) : Int) ≤ 0 ∧ (0 : Int) ≤ 2147483647; decide) (by show (0 : Int) ≤ 0 ∧ (0 : Int) ≤ 28; decide) (by omega) hpf hP hD hS hlv
    clear hP hD hS hlv
    intro fu
    induction fu with
    | zero => intro q5 q6 ng pg vg H locs ls hm37 hl37_0 hl37_1 hl37_2 hipg hP hD hS hlv; omega
    | succ fu ih37 =>
      intro q5 q6 ng pg vg H locs ls hm37 hl37_0 hl37_1 hl37_2 hipg hP hD hS hlv
      refine lv_iload hx hb dX0_hit_37 (lv_at hlv 0 rfl) ?_
      refine lv_aload_n hx hb dX0_hit_39 rfl (lv_at hlv 4 rfl) ?_
      refine va_getN (D := D) (ci := 6) (v := vI pe) (C := RX6) (T := TX6) (N := 19) hx hb hts hi6 hown hG.1 hP 1 rfl rfl 7 (by decide) (va_Nw.use rfl (nF_Car_83 hG.2.1)) (fun _ h9 => h9) rfl dX0_hit_40 ?_
      refine lv_aload_n hx hb dX0_hit_43 rfl (lv_at hlv 4 rfl) ?_
      refine va_getN (D := D) (ci := 6) (v := vI gu) (C := RX6) (T := TX6) (N := 19) hx hb hts hi6 hown hG.1 hP 1 rfl rfl 9 (by decide) (va_Nw.use rfl (nF_Car_86 hG.2.1)) (fun _ h9 => h9) rfl dX0_hit_44 ?_
      refine lv_iadd hx hb dX0_hit_47 ?_
      refine lt_e (e0 := pe + gu) (Int32.ofInt_add _ _).symm (fun z_1 hz_1 => ?_)
      refine ir_ge (tgt := 157) hx hb dX0_hit_48 (by decide) (by first | exact rgw hl37_1 (by decide) (by decide) | omega) (by omega) (fun c_2 => ?_) (fun c_2 => ?_)
      · refine lv_iload hx hb dX0_hit_157 (lv_at hlv 1 rfl) ?_
        refine W.widen (k := 0) (n := 0) (Nat.le_of_ble_eq_true rfl) (Nat.le_of_ble_eq_true rfl) ?_
        exact W.iret (v := iI q5) hx hb hr (fun t ht hW => ⟨⟨iI q5, ((fun k => ([] : List Nat).getD k 0), (fun k => ([q5] : List Int).getD k 0), (fun k => ([ng, vg, pg] : List (Nat → Int32)).getD k (fun _ => 0))), rfl, ⟨rfl, (by show ((-2147483648) ≤ q5 ∧ q5 ≤ 2147483647); first | exact hl37_0 | omega), hipg, hq1_2⟩, by rw [ht]; exact hP.sub [0, 8, 1, 2, 3, 4, 5, 6, 7] rfl, hD.sub [0, 8, 1, 2, 3, 4, 5, 6, 7] (by decide) rfl⟩, hS.F ht⟩) hS.2.2 dX0_hit_159
      · refine lv_iconst (v := iI 4) hx hb dX0_hit_51 (by decide) ?_
        refine lv_iload hx hb dX0_hit_52 (lv_at hlv 0 rfl) ?_
        refine lv_imul hx hb dX0_hit_54 ?_
        refine lt_e (e0 := 4 * q6) (Int32.ofInt_mul _ _).symm (fun z_3 hz_3 => ?_)
        refine lv_istore (lv' := [(7, vI z_3), (6, vI q6), (5, vI q5), (4, vI (u1.2.1 0)), (0, vR ca), (1, vR sA), (2, vR la), (3, vI x)]) hx hb dX0_hit_55 hlv (by decide) rfl (fun ls hlv => ?_)
        refine lv_aload_n hx hb dX0_hit_57 rfl (lv_at hlv 5 rfl) ?_
        refine va_getN (D := D) (ci := 6) (v := vR s8) (C := RX6) (T := TX6) (N := 19) hx hb hts hi6 hown hG.1 hP 1 rfl rfl 8 (by decide) (va_Nw.use rfl (nF_Car_89 hG.2.1)) (fun _ h9 => h9) rfl dX0_hit_58 ?_
        refine lv_iload hx hb dX0_hit_61 (lv_at hlv 0 rfl) ?_
        refine lv_iconst (v := iI 1) hx hb dX0_hit_63 (by decide) ?_
        refine lv_iadd hx hb dX0_hit_64 ?_
        refine lt_e (e0 := z_3 + 1) (Int32.ofInt_add _ _).symm (fun z_4 hz_4 => ?_)
        refine va_iald hx hb hG.1 hP 2 0 rfl rfl (iI_in (by omega) (by decide)) dX0_hit_65 ?_
        obtain ⟨z_5, ez_5, hz_5, lz_5⟩ := tab_rd hipg (e := z_4) (k := q6) (c := 1) (a := 0) (b := 19) (by omega) (by omega) (by decide) (by omega) rfl rfl
        refine lt_i (y := iI z_5) ez_5 ?_
        refine lv_aload_n hx hb dX0_hit_66 rfl (lv_at hlv 4 rfl) ?_
        refine va_get (D := D) (ci := 0) (v := vI crt) (C := RX0) (T := TX0) (N := 7) hx hb hts hi0 hown hG.1 hP 0 rfl rfl 5 (by decide) lf47 (fun _ h9 => h9) rfl dX0_hit_67 ?_
        refine lv_iadd hx hb dX0_hit_70 ?_
        refine lt_e (e0 := z_5 + crt) (Int32.ofInt_add _ _).symm (fun z_6 hz_6 => ?_)
        refine lv_istore (lv' := [(8, vI z_6), (7, vI z_3), (6, vI q6), (5, vI q5), (4, vI (u1.2.1 0)), (0, vR ca), (1, vR sA), (2, vR la), (3, vI x)]) hx hb dX0_hit_71 hlv (by decide) rfl (fun ls hlv => ?_)
        refine lv_aload_n hx hb dX0_hit_73 rfl (lv_at hlv 6 rfl) ?_
        refine va_getN (D := D) (ci := 6) (v := vR s8) (C := RX6) (T := TX6) (N := 19) hx hb hts hi6 hown hG.1 hP 1 rfl rfl 8 (by decide) (va_Nw.use rfl (nF_Car_89 hG.2.1)) (fun _ h9 => h9) rfl dX0_hit_74 ?_
        refine lv_iload hx hb dX0_hit_77 (lv_at hlv 1 rfl) ?_
        refine va_iald hx hb hG.1 hP 2 0 rfl rfl (iI_in (by omega) (by decide)) dX0_hit_79 ?_
        obtain ⟨z_7, ez_7, hz_7, lz_7⟩ := tab_rd hipg (e := z_3) (k := q6) (c := 0) (a := xl) (b := xh) (by omega) (by omega) (by decide) (by omega) rfl rfl
        refine lt_i (y := iI z_7) ez_7 ?_
        refine lv_iload_n hx hb dX0_hit_80 rfl (lv_at hlv 8 rfl) ?_
        refine ir_ne (tgt := 151) hx hb dX0_hit_81 (by decide) (by first | exact hz_7 | omega) (by first | exact rgw hr_x (by decide) (by decide) | omega) (fun c_8 => ?_) (fun c_8 => ?_)
        · obtain ⟨z_9, hz_9⟩ : ∃ z : Int, z = q6 + 1 := ⟨_, rfl⟩
          refine lv_iinc (v := iI z_9) (lv' := [(6, vI z_9), (8, vI z_6), (7, vI z_3), (5, vI q5), (4, vI (u1.2.1 0)), (0, vR ca), (1, vR sA), (2, vR la), (3, vI x)]) hx hb dX0_hit_151 hlv (k := 2) rfl (by rw [hz_9]; exact (Int32.ofInt_add _ _).symm) (by decide) rfl (fun ls hlv => ?_)
          refine lv_goto (tgt := 37) hx hb dX0_hit_154 (by decide) ?_
          exact ih37 q5 z_9 ng pg vg H locs ls (by omega) (by first | exact hl37_0 | omega) (by omega) (by omega) hipg (hP.sub [0, 1, 2, 3, 4, 5, 6, 7, 8] rfl) (hD.sub [0, 1, 2, 3, 4, 5, 6, 7, 8] (by decide) rfl) hS (lv_sub hlv [0, 3, 4, 5, 6, 7, 8] rfl)
        · refine lv_iload hx hb dX0_hit_84 (lv_at hlv 0 rfl) ?_
          refine lv_iload hx hb dX0_hit_86 (lv_at hlv 4 rfl) ?_
          refine ir_ge (tgt := 151) hx hb dX0_hit_88 (by decide) (by omega) (by first | exact hq1_1 | omega) (fun c_10 => ?_) (fun c_10 => ?_)
          · obtain ⟨z_11, hz_11⟩ : ∃ z : Int, z = q6 + 1 := ⟨_, rfl⟩
            refine lv_iinc (v := iI z_11) (lv' := [(6, vI z_11), (8, vI z_6), (7, vI z_3), (5, vI q5), (4, vI (u1.2.1 0)), (0, vR ca), (1, vR sA), (2, vR la), (3, vI x)]) hx hb dX0_hit_151 hlv (k := 2) rfl (by rw [hz_11]; exact (Int32.ofInt_add _ _).symm) (by decide) rfl (fun ls hlv => ?_)
            refine lv_goto (tgt := 37) hx hb dX0_hit_154 (by decide) ?_
            exact ih37 q5 z_11 ng pg vg H locs ls (by omega) (by first | exact hl37_0 | omega) (by omega) (by omega) hipg (hP.sub [0, 1, 2, 3, 4, 5, 6, 7, 8] rfl) (hD.sub [0, 1, 2, 3, 4, 5, 6, 7, 8] (by decide) rfl) hS (lv_sub hlv [0, 3, 4, 5, 6, 7, 8] rfl)
          · refine lv_aload_n hx hb dX0_hit_91 rfl (lv_at hlv 5 rfl) ?_
            refine va_get (D := D) (ci := 0) (v := vR na) (C := RX0) (T := TX0) (N := 7) hx hb hts hi0 hown hG.1 hP 0 rfl rfl 0 (by decide) lf9 (fun _ h9 => h9) rfl dX0_hit_92 ?_
            refine lv_iconst (v := iI 4) hx hb dX0_hit_95 (by decide) ?_
            refine lv_iload hx hb dX0_hit_96 (lv_at hlv 0 rfl) ?_
            refine va_iast hx hb hG.1 hP hD hS 8 0 rfl rfl (iI_in (by omega) (by decide)) dX0_hit_98 (fun H locs hP hD hS => ?_)
            have ⟨f_12, hP, hD⟩ : ∃ f_12 : Nat → Int32, va_P D vwCl [zO ca 0 [vR na, vI crow, vI cpace, vI ctyre, vI ckind, vI crt, vI cpt], zO sA 6 [vI wi, vI ro, vR s2, vR s3, vI dr, vI dt, vR s6, vI pe, vR s8, vI gu, vI sh, vR s11, vI wo, vR s13, vI dn, vI mi, vI fl, vI tk, vI go], zI s8 (cy 0) 112 pg, zI s11 (cy 0) 4 shf, zO la 1 [vR l0, vI size, vR l2, vR l3], zI l0 (cy 0) 600 st, zI l2 (cy 0) 5 sf, zI l3 (cy 0) 40 vg, zI na (cy 0) 7 f_12] H ∧ va_D A [zO ca 0 [vR na, vI crow, vI cpace, vI ctyre, vI ckind, vI crt, vI cpt], zO sA 6 [vI wi, vI ro, vR s2, vR s3, vI dr, vI dt, vR s6, vI pe, vR s8, vI gu, vI sh, vR s11, vI wo, vR s13, vI dn, vI mi, vI fl, vI tk, vI go], zI s8 (cy 0) 112 pg, zI s11 (cy 0) 4 shf, zO la 1 [vR l0, vI size, vR l2, vR l3], zI l0 (cy 0) 600 st, zI l2 (cy 0) 5 sf, zI l3 (cy 0) 40 vg, zI na (cy 0) 7 f_12] := ⟨_, hP, hD⟩
            refine lv_aload_n hx hb dX0_hit_99 rfl (lv_at hlv 7 rfl) ?_
            refine lv_iconst (v := iI 2) hx hb dX0_hit_100 (by decide) ?_
            refine lv_aload_n hx hb dX0_hit_101 rfl (lv_at hlv 5 rfl) ?_
            refine va_get (D := D) (ci := 0) (v := vR na) (C := RX0) (T := TX0) (N := 7) hx hb hts hi0 hown hG.1 hP 0 rfl rfl 0 (by decide) lf9 (fun _ h9 => h9) rfl dX0_hit_102 ?_
            refine cj_i (wr := [zO ca 0 [vR na, vI crow, vI cpace, vI ctyre, vI ckind, vI crt, vI cpt], zO sA 6 [vI wi, vI ro, vR s2, vR s3, vI dr, vI dt, vR s6, vI pe, vR s8, vI gu, vI sh, vR s11, vI wo, vR s13, vI dn, vI mi, vI fl, vI tk, vI go], zI s8 (cy 0) 112 pg, zI s11 (cy 0) 4 shf]) (va_runVN (host := "KerbSplash") (As := [vI 2, vR na]) (rest := []) ⟨hx, hb, hml, hown, hts⟩ (w_value l hl D cy sa la l0 l2 l3 na size st sf vg f_12 2 H.size (by first | exact hr_size | omega) (by show (0 : Int) ≤ 2 ∧ (2 : Int) ≤ 4; decide) hq1_2) ⟨va_cnB 2 hts gg_1 rfl rfl rfl (nM_Car_37 hG.2.1) ini_RX1 (by decide +kernel) ⟨Nat.le_of_ble_eq_true rfl, Nat.le_of_ble_eq_true rfl⟩, im_X1_value, se_X1_value⟩ ⟨pcW.blind, (va_recv hG.1 hP (ci := 1) (q0 := 4) rfl rfl), (pcW.mk hP hD hS hA hG hT [4, 5, 6, 7, 8] rfl (by decide))⟩ rfl rfl hlv.1 rfl (lv_room (Nat.le_of_ble_eq_true rfl)) dX0_hit_105 ⟨Nat.le_of_ble_eq_true rfl, Nat.le_of_ble_eq_true rfl⟩) hP hD hS hA [4, 5, 6, 7, 8] [0, 1, 2, 3] rfl rfl (by decide) (by decide) (fun r2 u2 H locs hw2 hP hD hS => ?_)
            obtain ⟨rfl, hq2_1, hq2_2⟩ := hw2
            have hP : va_P D vwCl [zO ca 0 [vR na, vI crow, vI cpace, vI ctyre, vI ckind, vI crt, vI cpt], zO sA 6 [vI wi, vI ro, vR s2, vR s3, vI dr, vI dt, vR s6, vI pe, vR s8, vI gu, vI sh, vR s11, vI wo, vR s13, vI dn, vI mi, vI fl, vI tk, vI go], zI s8 (cy 0) 112 pg, zI s11 (cy 0) 4 shf, zO la 1 [vR l0, vI size, vR l2, vR l3], zI l0 (cy 0) 600 st, zI l2 (cy 0) 5 sf, zI l3 (cy 0) 40 (u2.2.2 0), zI na (cy 0) 7 f_12] H := hP
            have hD : va_D A [zO ca 0 [vR na, vI crow, vI cpace, vI ctyre, vI ckind, vI crt, vI cpt], zO sA 6 [vI wi, vI ro, vR s2, vR s3, vI dr, vI dt, vR s6, vI pe, vR s8, vI gu, vI sh, vR s11, vI wo, vR s13, vI dn, vI mi, vI fl, vI tk, vI go], zI s8 (cy 0) 112 pg, zI s11 (cy 0) 4 shf, zO la 1 [vR l0, vI size, vR l2, vR l3], zI l0 (cy 0) 600 st, zI l2 (cy 0) 5 sf, zI l3 (cy 0) 40 (u2.2.2 0), zI na (cy 0) 7 f_12] := hD
            refine lv_i2l (v := jJ (u2.2.1 0)) hx hb dX0_hit_108 (jJ_i (by omega)) ?_
            refine lv_iconst (v := iI 0) hx hb dX0_hit_109 (by decide) ?_
            refine lv_bipush (v := iI 99) hx hb dX0_hit_110 (by decide) ?_
            refine cj_i (wr := [zO ca 0 [vR na, vI crow, vI cpace, vI ctyre, vI ckind, vI crt, vI cpt], zO sA 6 [vI wi, vI ro, vR s2, vR s3, vI dr, vI dt, vR s6, vI pe, vR s8, vI gu, vI sh, vR s11, vI wo, vR s13, vI dn, vI mi, vI fl, vI tk, vI go], zI s8 (cy 0) 112 pg, zI s11 (cy 0) 4 shf, zO la 1 [vR l0, vI size, vR l2, vR l3], zI l0 (cy 0) 600 st, zI l2 (cy 0) 5 sf, zI l3 (cy 0) 40 (u2.2.2 0), zI na (cy 0) 7 f_12]) (va_runSN (host := "KerbSplash") (As := [vJ (u2.2.1 0), vI 0, vI 99]) (rest := []) ⟨hx, hb, hml, hown, hts⟩ (s_held l hl D cy sa (u2.2.1 0) 0 99 H.size (by first | exact rgw hq2_1 (by decide) (by decide) | omega) (by show ((-2147483648) : Int) ≤ 0 ∧ (0 : Int) ≤ 2147483647; decide) (by show ((-2147483648) : Int) ≤ 99 ∧ (99 : Int) ≤ 2147483647; decide)) ⟨va_cnB 3 hts gg_3 rfl rfl rfl (nM_Car_41 hG.2.1) ini_RX11 (by decide +kernel) ⟨Nat.le_of_ble_eq_true rfl, Nat.le_of_ble_eq_true rfl⟩, st_X11_held, trivial⟩ ⟨pcW.blind, (pcW.mk hP hD hS hA hG hT [] rfl (by decide))⟩ rfl rfl hlv.1 rfl (lv_room (Nat.le_of_ble_eq_true rfl)) dX0_hit_112 ⟨Nat.le_of_ble_eq_true rfl, Nat.le_of_ble_eq_true rfl⟩) hP hD hS hA [] [0, 1, 2, 3, 4, 5, 6, 7, 8] rfl rfl (by decide) (by decide) (fun r3 u3 H locs hw3 hP hD hS => ?_)
            obtain ⟨rfl, hq3_1, hq3_2⟩ := hw3
            have hP : va_P D vwCl [zO ca 0 [vR na, vI crow, vI cpace, vI ctyre, vI ckind, vI crt, vI cpt], zO sA 6 [vI wi, vI ro, vR s2, vR s3, vI dr, vI dt, vR s6, vI pe, vR s8, vI gu, vI sh, vR s11, vI wo, vR s13, vI dn, vI mi, vI fl, vI tk, vI go], zI s8 (cy 0) 112 pg, zI s11 (cy 0) 4 shf, zO la 1 [vR l0, vI size, vR l2, vR l3], zI l0 (cy 0) 600 st, zI l2 (cy 0) 5 sf, zI l3 (cy 0) 40 (u2.2.2 0), zI na (cy 0) 7 f_12] H := hP
            have hD : va_D A [zO ca 0 [vR na, vI crow, vI cpace, vI ctyre, vI ckind, vI crt, vI cpt], zO sA 6 [vI wi, vI ro, vR s2, vR s3, vI dr, vI dt, vR s6, vI pe, vR s8, vI gu, vI sh, vR s11, vI wo, vR s13, vI dn, vI mi, vI fl, vI tk, vI go], zI s8 (cy 0) 112 pg, zI s11 (cy 0) 4 shf, zO la 1 [vR l0, vI size, vR l2, vR l3], zI l0 (cy 0) 600 st, zI l2 (cy 0) 5 sf, zI l3 (cy 0) 40 (u2.2.2 0), zI na (cy 0) 7 f_12] := hD
            refine lv_istore (lv' := [(9, vI (u3.2.1 0)), (8, vI z_6), (7, vI z_3), (6, vI q6), (5, vI q5), (4, vI (u1.2.1 0)), (0, vR ca), (1, vR sA), (2, vR la), (3, vI x)]) hx hb dX0_hit_115 hlv (by decide) rfl (fun ls hlv => ?_)
            refine lv_aload_n hx hb dX0_hit_117 rfl (lv_at hlv 7 rfl) ?_
            refine va_getN (D := D) (ci := 6) (v := vR s8) (C := RX6) (T := TX6) (N := 19) hx hb hts hi6 hown hG.1 hP 1 rfl rfl 8 (by decide) (va_Nw.use rfl (nF_Car_89 hG.2.1)) (fun _ h9 => h9) rfl dX0_hit_118 ?_
            refine lv_iload hx hb dX0_hit_121 (lv_at hlv 2 rfl) ?_
            refine lv_iconst (v := iI 2) hx hb dX0_hit_123 (by decide) ?_
            refine lv_iadd hx hb dX0_hit_124 ?_
            refine lt_e (e0 := z_3 + 2) (Int32.ofInt_add _ _).symm (fun z_13 hz_13 => ?_)
            refine lv_dup2_11 hx hb dX0_hit_125 rfl rfl ?_
            refine va_iald hx hb hG.1 hP 2 0 rfl rfl (iI_in (by omega) (by decide)) dX0_hit_126 ?_
            obtain ⟨z_14, ez_14, hz_14, lz_14⟩ := tab_rd hipg (e := z_13) (k := q6) (c := 2) (a := (-2147483648)) (b := 2147483647) (by omega) (by omega) (by decide) (by omega) rfl rfl
            refine lt_i (y := iI z_14) ez_14 ?_
            refine lv_iload hx hb dX0_hit_127 (lv_at hlv 0 rfl) ?_
            refine lv_iadd hx hb dX0_hit_129 ?_
            refine lt_z (fun z_15 ez_15 lz_15 hz_15 => ?_)
            refine va_iast hx hb hG.1 hP hD hS 2 0 rfl rfl (iI_in (by omega) (by decide)) dX0_hit_130 (fun H locs hP hD hS => ?_)
            have ⟨f_16, hf_16, hP, hD⟩ : ∃ f_16 : Nat → Int32, tab_ 4 28 [xl, 0, (-2147483648), (-2147483648)] [xh, 19, 2147483647, 2147483647] f_16 ∧ va_P D vwCl [zO ca 0 [vR na, vI crow, vI cpace, vI ctyre, vI ckind, vI crt, vI cpt], zO sA 6 [vI wi, vI ro, vR s2, vR s3, vI dr, vI dt, vR s6, vI pe, vR s8, vI gu, vI sh, vR s11, vI wo, vR s13, vI dn, vI mi, vI fl, vI tk, vI go], zI s8 (cy 0) 112 f_16, zI s11 (cy 0) 4 shf, zO la 1 [vR l0, vI size, vR l2, vR l3], zI l0 (cy 0) 600 st, zI l2 (cy 0) 5 sf, zI l3 (cy 0) 40 (u2.2.2 0), zI na (cy 0) 7 f_12] H ∧ va_D A [zO ca 0 [vR na, vI crow, vI cpace, vI ctyre, vI ckind, vI crt, vI cpt], zO sA 6 [vI wi, vI ro, vR s2, vR s3, vI dr, vI dt, vR s6, vI pe, vR s8, vI gu, vI sh, vR s11, vI wo, vR s13, vI dn, vI mi, vI fl, vI tk, vI go], zI s8 (cy 0) 112 f_16, zI s11 (cy 0) 4 shf, zO la 1 [vR l0, vI size, vR l2, vR l3], zI l0 (cy 0) 600 st, zI l2 (cy 0) 5 sf, zI l3 (cy 0) 40 (u2.2.2 0), zI na (cy 0) 7 f_12] := ⟨_, tab_wr hipg (e := z_13) (k := q6) (c := 2) (a := (-2147483648)) (b := 2147483647) (by omega) (by omega) (by decide) (by omega) rfl rfl (by omega), hP, hD⟩
            refine lv_aload_n hx hb dX0_hit_131 rfl (lv_at hlv 7 rfl) ?_
            refine va_getN (D := D) (ci := 6) (v := vR s8) (C := RX6) (T := TX6) (N := 19) hx hb hts hi6 hown hG.1 hP 1 rfl rfl 8 (by decide) (va_Nw.use rfl (nF_Car_89 hG.2.1)) (fun _ h9 => h9) rfl dX0_hit_132 ?_
            refine lv_iload hx hb dX0_hit_135 (lv_at hlv 2 rfl) ?_
            refine lv_iconst (v := iI 3) hx hb dX0_hit_137 (by decide) ?_
            refine lv_iadd hx hb dX0_hit_138 ?_
            refine lt_e (e0 := z_3 + 3) (Int32.ofInt_add _ _).symm (fun z_17 hz_17 => ?_)
            refine lv_dup2_11 hx hb dX0_hit_139 rfl rfl ?_
            refine va_iald hx hb hG.1 hP 2 0 rfl rfl (iI_in (by omega) (by decide)) dX0_hit_140 ?_
            obtain ⟨z_18, ez_18, hz_18, lz_18⟩ := tab_rd hf_16 (e := z_17) (k := q6) (c := 3) (a := (-2147483648)) (b := 2147483647) (by omega) (by omega) (by decide) (by omega) rfl rfl
            refine lt_i (y := iI z_18) ez_18 ?_
            refine lv_iconst (v := iI 1) hx hb dX0_hit_141 (by decide) ?_
            refine lv_iadd hx hb dX0_hit_142 ?_
            refine lt_z (fun z_19 ez_19 lz_19 hz_19 => ?_)
            refine va_iast hx hb hG.1 hP hD hS 2 0 rfl rfl (iI_in (by omega) (by decide)) dX0_hit_143 (fun H locs hP hD hS => ?_)
            have ⟨f_20, hf_20, hP, hD⟩ : ∃ f_20 : Nat → Int32, tab_ 4 28 [xl, 0, (-2147483648), (-2147483648)] [xh, 19, 2147483647, 2147483647] f_20 ∧ va_P D vwCl [zO ca 0 [vR na, vI crow, vI cpace, vI ctyre, vI ckind, vI crt, vI cpt], zO sA 6 [vI wi, vI ro, vR s2, vR s3, vI dr, vI dt, vR s6, vI pe, vR s8, vI gu, vI sh, vR s11, vI wo, vR s13, vI dn, vI mi, vI fl, vI tk, vI go], zI s8 (cy 0) 112 f_20, zI s11 (cy 0) 4 shf, zO la 1 [vR l0, vI size, vR l2, vR l3], zI l0 (cy 0) 600 st, zI l2 (cy 0) 5 sf, zI l3 (cy 0) 40 (u2.2.2 0), zI na (cy 0) 7 f_12] H ∧ va_D A [zO ca 0 [vR na, vI crow, vI cpace, vI ctyre, vI ckind, vI crt, vI cpt], zO sA 6 [vI wi, vI ro, vR s2, vR s3, vI dr, vI dt, vR s6, vI pe, vR s8, vI gu, vI sh, vR s11, vI wo, vR s13, vI dn, vI mi, vI fl, vI tk, vI go], zI s8 (cy 0) 112 f_20, zI s11 (cy 0) 4 shf, zO la 1 [vR l0, vI size, vR l2, vR l3], zI l0 (cy 0) 600 st, zI l2 (cy 0) 5 sf, zI l3 (cy 0) 40 (u2.2.2 0), zI na (cy 0) 7 f_12] := ⟨_, tab_wr hf_16 (e := z_17) (k := q6) (c := 3) (a := (-2147483648)) (b := 2147483647) (by omega) (by omega) (by decide) (by omega) rfl rfl (by omega), hP, hD⟩
            refine lv_iload hx hb dX0_hit_144 (lv_at hlv 4 rfl) ?_
            refine lv_iload hx hb dX0_hit_146 (lv_at hlv 0 rfl) ?_
            refine lv_iadd hx hb dX0_hit_148 ?_
            refine lt_z (fun z_21 ez_21 lz_21 hz_21 => ?_)
            refine lv_istore (lv' := [(5, vI z_21), (9, vI (u3.2.1 0)), (8, vI z_6), (7, vI z_3), (6, vI q6), (4, vI (u1.2.1 0)), (0, vR ca), (1, vR sA), (2, vR la), (3, vI x)]) hx hb dX0_hit_149 hlv (by decide) rfl (fun ls hlv => ?_)
            obtain ⟨z_22, hz_22⟩ : ∃ z : Int, z = q6 + 1 := ⟨_, rfl⟩
            refine lv_iinc (v := iI z_22) (lv' := [(6, vI z_22), (5, vI z_21), (9, vI (u3.2.1 0)), (8, vI z_6), (7, vI z_3), (4, vI (u1.2.1 0)), (0, vR ca), (1, vR sA), (2, vR la), (3, vI x)]) hx hb dX0_hit_151 hlv (k := 4) rfl (by rw [hz_22]; exact (Int32.ofInt_add _ _).symm) (by decide) rfl (fun ls hlv => ?_)
            refine lv_goto (tgt := 37) hx hb dX0_hit_154 (by decide) ?_
            exact ih37 z_21 z_22 f_12 f_20 (u2.2.2 0) H locs ls (by omega) (by omega) (by omega) (by omega) hf_20 (hP.sub [0, 1, 2, 3, 4, 5, 6, 7, 8] rfl) (hD.sub [0, 1, 2, 3, 4, 5, 6, 7, 8] (by decide) rfl) hS (lv_sub hlv [0, 1, 5, 6, 7, 8, 9] rfl)
  · refine lv_aload_n hx hb dX0_hit_11 rfl (lv_at hlv 1 rfl) ?_
    refine va_get (D := D) (ci := 0) (v := vR na) (C := RX0) (T := TX0) (N := 7) hx hb hts hi0 hown hG.1 hP 0 rfl rfl 0 (by decide) lf9 (fun _ h9 => h9) rfl dX0_hit_12 ?_
    refine lv_bipush (v := iI 6) hx hb dX0_hit_15 (by decide) ?_
    refine lv_aload_n hx hb dX0_hit_17 rfl (lv_at hlv 2 rfl) ?_
    refine lv_iload_n hx hb dX0_hit_18 rfl (lv_at hlv 4 rfl) ?_
    refine cj_i (wr := [zO ca 0 [vR na, vI crow, vI cpace, vI ctyre, vI ckind, vI crt, vI cpt], zI s8 (cy 0) 112 pf, zO la 1 [vR l0, vI size, vR l2, vR l3], zI l0 (cy 0) 600 st, zI l2 (cy 0) 5 sf, zI l3 (cy 0) 40 (u1.2.2 0), zI na (cy 0) 7 nf]) (va_runVN (host := "KerbSplash") (As := [vI x]) (rest := [vI 6, vR na]) ⟨hx, hb, hml, hown, hts⟩ (s_isSheltered l hl D cy sa sA s2 s3 s6 s8 s11 s13 wi ro dr dt pe gu sh wo dn mi fl tk go shf x H.size (by first | exact hr_wi | omega) (by first | exact hr_ro | omega) (by first | exact hr_dr | omega) (by first | exact hr_dt | omega) (by first | exact hr_pe | omega) (by first | exact hr_gu | omega) (by first | exact hr_sh | omega) (by first | exact hr_wo | omega) (by first | exact hr_dn | omega) (by first | exact hr_mi | omega) (by first | exact hr_fl | omega) (by first | exact hr_tk | omega) (by first | exact hr_go | omega) (by first | exact rgw hr_x (by decide) (by decide) | omega)) ⟨va_cnB 1 hts gg_4 rfl rfl rfl (nM_Car_79 hG.2.1) ini_RX6 (by decide +kernel) ⟨Nat.le_of_ble_eq_true rfl, Nat.le_of_ble_eq_true rfl⟩, im_X6_isSheltered, se_X6_isSheltered⟩ ⟨pcW.blind, (va_recv hG.1 hP (ci := 6) (q0 := 1) rfl rfl), (pcW.mk hP hD hS hA hG hT [1, 3] rfl (by decide))⟩ rfl rfl hlv.1 rfl (lv_room (Nat.le_of_ble_eq_true rfl)) dX0_hit_19 ⟨Nat.le_of_ble_eq_true rfl, Nat.le_of_ble_eq_true rfl⟩) hP hD hS hA [1, 3] [0, 2, 4, 5, 6, 7, 8] rfl rfl (by decide) (by decide) (fun r4 u4 H locs hw4 hP hD hS => ?_)
    obtain ⟨rfl, hq4_1⟩ := hw4
    have hP : va_P D vwCl [zO ca 0 [vR na, vI crow, vI cpace, vI ctyre, vI ckind, vI crt, vI cpt], zI s8 (cy 0) 112 pf, zO la 1 [vR l0, vI size, vR l2, vR l3], zI l0 (cy 0) 600 st, zI l2 (cy 0) 5 sf, zI l3 (cy 0) 40 (u1.2.2 0), zI na (cy 0) 7 nf, zO sA 6 [vI wi, vI ro, vR s2, vR s3, vI dr, vI dt, vR s6, vI pe, vR s8, vI gu, vI sh, vR s11, vI wo, vR s13, vI dn, vI mi, vI fl, vI tk, vI go], zI s11 (cy 0) 4 shf] H := hP
    have hD : va_D A [zO ca 0 [vR na, vI crow, vI cpace, vI ctyre, vI ckind, vI crt, vI cpt], zI s8 (cy 0) 112 pf, zO la 1 [vR l0, vI size, vR l2, vR l3], zI l0 (cy 0) 600 st, zI l2 (cy 0) 5 sf, zI l3 (cy 0) 40 (u1.2.2 0), zI na (cy 0) 7 nf, zO sA 6 [vI wi, vI ro, vR s2, vR s3, vI dr, vI dt, vR s6, vI pe, vR s8, vI gu, vI sh, vR s11, vI wo, vR s13, vI dn, vI mi, vI fl, vI tk, vI go], zI s11 (cy 0) 4 shf] := hD
    refine iz_eq (tgt := 29) hx hb dX0_hit_22 (by decide) (by first | exact rgw hq4_1 (by decide) (by decide) | omega) (fun c_23 => ?_) (fun c_23 => ?_)
    · refine lv_iconst (v := iI 0) hx hb dX0_hit_29 (by decide) ?_
      refine va_iast hx hb hG.1 hP hD hS 6 0 rfl rfl (iI_in (by omega) (by decide)) dX0_hit_30 (fun H locs hP hD hS => ?_)
      have ⟨f_24, hP, hD⟩ : ∃ f_24 : Nat → Int32, va_P D vwCl [zO ca 0 [vR na, vI crow, vI cpace, vI ctyre, vI ckind, vI crt, vI cpt], zI s8 (cy 0) 112 pf, zO la 1 [vR l0, vI size, vR l2, vR l3], zI l0 (cy 0) 600 st, zI l2 (cy 0) 5 sf, zI l3 (cy 0) 40 (u1.2.2 0), zI na (cy 0) 7 f_24, zO sA 6 [vI wi, vI ro, vR s2, vR s3, vI dr, vI dt, vR s6, vI pe, vR s8, vI gu, vI sh, vR s11, vI wo, vR s13, vI dn, vI mi, vI fl, vI tk, vI go], zI s11 (cy 0) 4 shf] H ∧ va_D A [zO ca 0 [vR na, vI crow, vI cpace, vI ctyre, vI ckind, vI crt, vI cpt], zI s8 (cy 0) 112 pf, zO la 1 [vR l0, vI size, vR l2, vR l3], zI l0 (cy 0) 600 st, zI l2 (cy 0) 5 sf, zI l3 (cy 0) 40 (u1.2.2 0), zI na (cy 0) 7 f_24, zO sA 6 [vI wi, vI ro, vR s2, vR s3, vI dr, vI dt, vR s6, vI pe, vR s8, vI gu, vI sh, vR s11, vI wo, vR s13, vI dn, vI mi, vI fl, vI tk, vI go], zI s11 (cy 0) 4 shf] := ⟨_, hP, hD⟩
      exact jn31 f_24 _ _ _ ⟨_, rfl, hP.sub [0, 7, 1, 8, 2, 3, 4, 5, 6] rfl, hD.sub [0, 7, 1, 8, 2, 3, 4, 5, 6] (by decide) rfl, hS, lv_sub hlv [0, 1, 2, 3, 4] rfl⟩
    · refine lv_iconst (v := iI 1) hx hb dX0_hit_25 (by decide) ?_
      refine lv_goto (tgt := 30) hx hb dX0_hit_26 (by decide) ?_
      refine va_iast hx hb hG.1 hP hD hS 6 0 rfl rfl (iI_in (by omega) (by decide)) dX0_hit_30 (fun H locs hP hD hS => ?_)
      have ⟨f_25, hP, hD⟩ : ∃ f_25 : Nat → Int32, va_P D vwCl [zO ca 0 [vR na, vI crow, vI cpace, vI ctyre, vI ckind, vI crt, vI cpt], zI s8 (cy 0) 112 pf, zO la 1 [vR l0, vI size, vR l2, vR l3], zI l0 (cy 0) 600 st, zI l2 (cy 0) 5 sf, zI l3 (cy 0) 40 (u1.2.2 0), zI na (cy 0) 7 f_25, zO sA 6 [vI wi, vI ro, vR s2, vR s3, vI dr, vI dt, vR s6, vI pe, vR s8, vI gu, vI sh, vR s11, vI wo, vR s13, vI dn, vI mi, vI fl, vI tk, vI go], zI s11 (cy 0) 4 shf] H ∧ va_D A [zO ca 0 [vR na, vI crow, vI cpace, vI ctyre, vI ckind, vI crt, vI cpt], zI s8 (cy 0) 112 pf, zO la 1 [vR l0, vI size, vR l2, vR l3], zI l0 (cy 0) 600 st, zI l2 (cy 0) 5 sf, zI l3 (cy 0) 40 (u1.2.2 0), zI na (cy 0) 7 f_25, zO sA 6 [vI wi, vI ro, vR s2, vR s3, vI dr, vI dt, vR s6, vI pe, vR s8, vI gu, vI sh, vR s11, vI wo, vR s13, vI dn, vI mi, vI fl, vI tk, vI go], zI s11 (cy 0) 4 shf] := ⟨_, hP, hD⟩
      exact jn31 f_25 _ _ _ ⟨_, rfl, hP.sub [0, 7, 1, 8, 2, 3, 4, 5, 6] rfl, hD.sub [0, 7, 1, 8, 2, 3, 4, 5, 6] (by decide) rfl, hS, lv_sub hlv [0, 1, 2, 3, 4] rfl⟩
def vs_c_drive : List Cond := .code yX0_drive cX0_drive 7 (some .int) :: (([.fieldLink RX0 9 "KerbSplash$Car" "names" "[I", .initialized RX1, .instanceMethod yX1_value, .selects RX1 yX1_value yX1_value, .initialized RX11, .static yX11_held, .fieldLink RX0 47 "KerbSplash$Car" "rowThere" "I", .initialized RX6, .instanceMethod yX6_throwFrom, .selects RX6 yX6_throwFrom yX6_throwFrom] : List Cond) ++ ((wsX60) ++ ((wsV RX0 33 RX0 yX0_come vs_c_come) ++ ((wsX00) ++ ((vs_w_value) ++ ((vs_s_held) ++ ((vs_s_throwFrom) ++ ((wsV RX0 54 RX0 yX0_hit vs_c_hit) ++ ([])))))))))
theorem gd_c_drive : vs_c_drive.all goodWord = true := gd_C (by decide +kernel) (gd_A (by decide +kernel) (gd_A (by decide +kernel) (gd_A (gd_V gd_c_come (by decide +kernel)) (gd_A (by decide +kernel) (gd_A gd_w_value (gd_A gd_s_held (gd_A gd_s_throwFrom (gd_A (gd_V gd_c_hit (by decide +kernel)) rfl))))))))
set_option maxHeartbeats 4000000 in
set_option maxRecDepth 100000 in
theorem c_drive (l : Launch) (hl : l.stackTraces = false) (D : va_G) (cy : Nat → ClassId) (sa : Nat → Nat) (ca na : Nat) (crow cpace ctyre ckind crt cpt : Int) (sA s2 s3 s6 s8 s11 s13 : Nat) (wi ro dr dt pe gu sh wo dn mi fl tk go : Int) (xl xh : Int) (nf wf pf shf : Nat → Int32) (la l0 l2 l3 : Nat) (size : Int) (st sf vf : Nat → Int32) (sz : Nat) (hr_crow : 0 ≤ crow ∧ crow ≤ 5) (hr_cpace : (-2147483648) ≤ cpace ∧ cpace ≤ 2147483647) (hr_ctyre : (-2147483648) ≤ ctyre ∧ ctyre ≤ 2147483647) (hr_ckind : (-2147483648) ≤ ckind ∧ ckind ≤ 2147483647) (hr_crt : 0 ≤ crt ∧ crt ≤ 5) (hr_cpt : (-2147483648) ≤ cpt ∧ cpt ≤ 2147483647) (hr_wi : 0 ≤ wi ∧ wi ≤ 16) (hr_ro : 1 ≤ ro ∧ ro ≤ 6) (hr_dr : 0 ≤ dr ∧ dr ≤ 14) (hr_dt : 0 ≤ dt ∧ dt ≤ 6) (hr_pe : 0 ≤ pe ∧ pe ≤ 8) (hr_gu : 0 ≤ gu ∧ gu ≤ 20) (hr_sh : 0 ≤ sh ∧ sh ≤ 2) (hr_wo : 0 ≤ wo ∧ wo ≤ 8) (hr_dn : (-2147483648) ≤ dn ∧ dn ≤ 2147483647) (hr_mi : 0 ≤ mi ∧ mi ≤ 600) (hr_fl : (-2147483648) ≤ fl ∧ fl ≤ 2147483647) (hr_tk : (-2147483648) ≤ tk ∧ tk ≤ 2147483647) (hr_go : (-2147483648) ≤ go ∧ go ≤ 2147483647) (hr_xl : (-2147483648) ≤ xl ∧ xl ≤ 0) (hr_xh : 15 ≤ xh ∧ xh ≤ 2147483647) (hr_size : 0 ≤ size ∧ size ≤ 600) (hpf : tab_ 4 28 [xl, 0, (-2147483648), (-2147483648)] [xh, 19, 2147483647, 2147483647] pf) (hst : inv_ 600 0 2147483647 st) : Met l yX0_drive vs_c_drive ({ frames := 3, cells := 0, slots := 0, locals := 78 }) (va_Pc [vR ca, vR sA, vR la] (pcW D cy sa sz [zO ca 0 [vR na, vI crow, vI cpace, vI ctyre, vI ckind, vI crt, vI cpt], zI na (cy 0) 7 nf, zO sA 6 [vI wi, vI ro, vR s2, vR s3, vI dr, vI dt, vR s6, vI pe, vR s8, vI gu, vI sh, vR s11, vI wo, vR s13, vI dn, vI mi, vI fl, vI tk, vI go], zI s3 (cy 0) 96 wf, zI s8 (cy 0) 112 pf, zI s11 (cy 0) 4 shf, zO la 1 [vR l0, vI size, vR l2, vR l3], zI l0 (cy 0) 600 st, zI l2 (cy 0) 5 sf, zI l3 (cy 0) 40 vf])) (va_Qi (fun (r : Int32) (u : SV) => r = iI (u.2.1 0) ∧ ((-2147483648) ≤ u.2.1 0 ∧ u.2.1 0 ≤ 2147483647) ∧ (0 ≤ u.2.1 1 ∧ u.2.1 1 ≤ 5) ∧ ((-2147483648) ≤ u.2.1 2 ∧ u.2.1 2 ≤ 2147483647) ∧ ((-2147483648) ≤ u.2.1 3 ∧ u.2.1 3 ≤ 2147483647) ∧ tab_ 4 28 [xl, 0, (-2147483648), (-2147483648)] [xh, 19, 2147483647, 2147483647] (u.2.2 3) ∧ inv_ 600 0 2147483647 st) (fun u t => atW D (va_A [zO ca 0 [vR na, vI crow, vI cpace, vI ctyre, vI ckind, vI crt, vI cpt], zI na (cy 0) 7 nf, zO sA 6 [vI wi, vI ro, vR s2, vR s3, vI dr, vI dt, vR s6, vI pe, vR s8, vI gu, vI sh, vR s11, vI wo, vR s13, vI dn, vI mi, vI fl, vI tk, vI go], zI s3 (cy 0) 96 wf, zI s8 (cy 0) 112 pf, zI s11 (cy 0) 4 shf, zO la 1 [vR l0, vI size, vR l2, vR l3], zI l0 (cy 0) 600 st, zI l2 (cy 0) 5 sf, zI l3 (cy 0) 40 vf] sz) [zO ca 0 [vR na, vI crow, vI cpace, vI ctyre, vI ckind, vI (u.2.1 1), vI (u.2.1 2)], zI na (cy 0) 7 (u.2.2 0), zO sA 6 [vI wi, vI ro, vR s2, vR s3, vI dr, vI dt, vR s6, vI pe, vR s8, vI gu, vI sh, vR s11, vI wo, vR s13, vI dn, vI mi, vI fl, vI tk, vI (u.2.1 3)], zI s3 (cy 0) 96 (u.2.2 2), zI s8 (cy 0) 112 (u.2.2 3), zI s11 (cy 0) 4 shf, zO la 1 [vR l0, vI size, vR l2, vR l3], zI l0 (cy 0) 600 st, zI l2 (cy 0) 5 sf, zI l3 (cy 0) 40 (u.2.2 1)] t) (va_A [zO ca 0 [vR na, vI crow, vI cpace, vI ctyre, vI ckind, vI crt, vI cpt], zI na (cy 0) 7 nf, zO sA 6 [vI wi, vI ro, vR s2, vR s3, vI dr, vI dt, vR s6, vI pe, vR s8, vI gu, vI sh, vR s11, vI wo, vR s13, vI dn, vI mi, vI fl, vI tk, vI go], zI s3 (cy 0) 96 wf, zI s8 (cy 0) 112 pf, zI s11 (cy 0) 4 shf, zO la 1 [vR l0, vI size, vR l2, vR l3], zI l0 (cy 0) 600 st, zI l2 (cy 0) 5 sf, zI l3 (cy 0) 40 vf] sz)) 0 0 (va_A [zO ca 0 [vR na, vI crow, vI cpace, vI ctyre, vI ckind, vI crt, vI cpt], zI na (cy 0) 7 nf, zO sA 6 [vI wi, vI ro, vR s2, vR s3, vI dr, vI dt, vR s6, vI pe, vR s8, vI gu, vI sh, vR s11, vI wo, vR s13, vI dn, vI mi, vI fl, vI tk, vI go], zI s3 (cy 0) 96 wf, zI s8 (cy 0) 112 pf, zI s11 (cy 0) 4 shf, zO la 1 [vR l0, vI size, vR l2, vR l3], zI l0 (cy 0) 600 st, zI l2 (cy 0) 5 sf, zI l3 (cy 0) 40 vf] sz) := by
  refine Met.ofW (cc := cX0_drive) (maxL := 7) (ret := (some .int)) (by decide) rfl ?_
  intro p e s m args below meth c s₁ B hml hv
  obtain ⟨rfl, hsz, hP, hG, hD0, hT⟩ := hv
  have hx := B.exec
  have hb := B.bytes
  have hr := B.returns
  have hts := atoms_spec (ws := vs_c_drive) B.pre
  have hown : s.vm.findClass RX0 = some m.cls := findClass_of_methodNamed B.named
  have hlocks := B.notSynchronized
  subst hsz
  have hD := hD0.self (sz := s.heap.size)
  generalize hAe : va_A [zO ca 0 [vR na, vI crow, vI cpace, vI ctyre, vI ckind, vI crt, vI cpt], zI na (cy 0) 7 nf, zO sA 6 [vI wi, vI ro, vR s2, vR s3, vI dr, vI dt, vR s6, vI pe, vR s8, vI gu, vI sh, vR s11, vI wo, vR s13, vI dn, vI mi, vI fl, vI tk, vI go], zI s3 (cy 0) 96 wf, zI s8 (cy 0) 112 pf, zI s11 (cy 0) 4 shf, zO la 1 [vR l0, vI size, vR l2, vR l3], zI l0 (cy 0) 600 st, zI l2 (cy 0) 5 sf, zI l3 (cy 0) 40 vf] s.heap.size = A at hD hT ⊢
  have hA : ∀ q : Nat, s.heap.size ≤ q → A q := fun q h => by rw [← hAe]; exact Or.inr h
  have hS : va_S A s.heap s.heap [] := va_S.rf
  have hl0 := lv_entry ([vR ca, vR sA, vR la]) (n := 7) (Nat.le_of_ble_eq_true rfl)
  rw [lg_entry_eq]
  generalize (lg_sl ([vR ca, vR sA, vR la]) ++ List.replicate (7 - (lg_sl ([vR ca, vR sA, vR la])).length) Slot.unset).toArray = ls at hl0 ⊢
  have hlv : lv_has ls 7 [(0, vR ca), (1, vR sA), (2, vR la)] := hl0
  have hi6 : ∀ w ∈ wsX60, w ∈ vs_c_drive := fun w h => List.mem_cons_of_mem _ (List.mem_append_right _ (List.mem_append_left _ h))
  have gg_1 : GoodIn vs_c_drive (wsV RX0 33 RX0 yX0_come vs_c_come) := goodIn_sub (fun w h => List.mem_cons_of_mem _ (List.mem_append_right _ (List.mem_append_right _ (List.mem_append_left _ h)))) (gd_V gd_c_come (by decide +kernel))
  have lf9 := hts (.fieldLink RX0 9 "KerbSplash$Car" "names" "[I") (List.mem_of_getElem? (i := 1) rfl)
  have hi0 : ∀ w ∈ wsX00, w ∈ vs_c_drive := fun w h => List.mem_cons_of_mem _ (List.mem_append_right _ (List.mem_append_right _ (List.mem_append_right _ (List.mem_append_left _ h))))
  have gg_3 : GoodIn vs_c_drive (vs_w_value) := goodIn_sub (fun w h => List.mem_cons_of_mem _ (List.mem_append_right _ (List.mem_append_right _ (List.mem_append_right _ (List.mem_append_right _ (List.mem_append_left _ h)))))) gd_w_value
  have ini_RX1 := hts (.initialized RX1) (List.mem_of_getElem? (i := 2) rfl)
  have im_X1_value := hts (.instanceMethod yX1_value) (List.mem_of_getElem? (i := 3) rfl)
  have se_X1_value := hts (.selects RX1 yX1_value yX1_value) (List.mem_of_getElem? (i := 4) rfl)
  have gg_4 : GoodIn vs_c_drive (vs_s_held) := goodIn_sub (fun w h => List.mem_cons_of_mem _ (List.mem_append_right _ (List.mem_append_right _ (List.mem_append_right _ (List.mem_append_right _ (List.mem_append_right _ (List.mem_append_left _ h))))))) gd_s_held
  have ini_RX11 := hts (.initialized RX11) (List.mem_of_getElem? (i := 5) rfl)
  have st_X11_held := hts (.static yX11_held) (List.mem_of_getElem? (i := 6) rfl)
  have lf47 := hts (.fieldLink RX0 47 "KerbSplash$Car" "rowThere" "I") (List.mem_of_getElem? (i := 7) rfl)
  have gg_5 : GoodIn vs_c_drive (vs_s_throwFrom) := goodIn_sub (fun w h => List.mem_cons_of_mem _ (List.mem_append_right _ (List.mem_append_right _ (List.mem_append_right _ (List.mem_append_right _ (List.mem_append_right _ (List.mem_append_right _ (List.mem_append_left _ h)))))))) gd_s_throwFrom
  have ini_RX6 := hts (.initialized RX6) (List.mem_of_getElem? (i := 8) rfl)
  have im_X6_throwFrom := hts (.instanceMethod yX6_throwFrom) (List.mem_of_getElem? (i := 9) rfl)
  have se_X6_throwFrom := hts (.selects RX6 yX6_throwFrom yX6_throwFrom) (List.mem_of_getElem? (i := 10) rfl)
  have gg_6 : GoodIn vs_c_drive (wsV RX0 54 RX0 yX0_hit vs_c_hit) := goodIn_sub (fun w h => List.mem_cons_of_mem _ (List.mem_append_right _ (List.mem_append_right _ (List.mem_append_right _ (List.mem_append_right _ (List.mem_append_right _ (List.mem_append_right _ (List.mem_append_right _ (List.mem_append_left _ h))))))))) (gd_V gd_c_hit (by decide +kernel))
  refine lv_iconst (v := iI 0) hx hb dX0_drive_0 (by decide) ?_
  refine lv_istore_n (lv' := [(3, vI 0), (0, vR ca), (1, vR sA), (2, vR la)]) hx hb dX0_drive_1 rfl hlv (by decide) rfl (fun ls hlv => ?_)
  refine lv_iconst (v := iI 0) hx hb dX0_drive_2 (by decide) ?_
  refine lv_istore (lv' := [(4, vI 0), (3, vI 0), (0, vR ca), (1, vR sA), (2, vR la)]) hx hb dX0_drive_3 hlv (by decide) rfl (fun ls hlv => ?_)
  refine (?_ : ∀ (fu : Nat) (q3 : Int) (q4 : Int) (qr : Int) (qp : Int) (qg : Int) (ng : Nat → Int32) (wg : Nat → Int32) (pg : Nat → Int32) (vg : Nat → Int32) (H : Heap) (locs : List Loc) (ls : Array Slot), 16 - q4 < (fu : Int) → ((-2147483648) ≤ q3 ∧ q3 ≤ 2147483647) → (0 ≤ q4 ∧ q4 ≤ 16) → (0 ≤ qr ∧ qr ≤ 5) → ((-2147483648) ≤ qp ∧ qp ≤ 2147483647) → ((-2147483648) ≤ qg ∧ qg ≤ 2147483647) → (q4 ≤ wi) → tab_ 4 28 [xl, 0, (-2147483648), (-2147483648)] [xh, 19, 2147483647, 2147483647] pg → va_P D vwCl [zO ca 0 [vR na, vI crow, vI cpace, vI ctyre, vI ckind, vI qr, vI qp], zI na (cy 0) 7 ng, zO sA 6 [vI wi, vI ro, vR s2, vR s3, vI dr, vI dt, vR s6, vI pe, vR s8, vI gu, vI sh, vR s11, vI wo, vR s13, vI dn, vI mi, vI fl, vI tk, vI qg], zI s3 (cy 0) 96 wg, zI s8 (cy 0) 112 pg, zI s11 (cy 0) 4 shf, zO la 1 [vR l0, vI size, vR l2, vR l3], zI l0 (cy 0) 600 st, zI l2 (cy 0) 5 sf, zI l3 (cy 0) 40 vg] H → va_D A [zO ca 0 [vR na, vI crow, vI cpace, vI ctyre, vI ckind, vI qr, vI qp], zI na (cy 0) 7 ng, zO sA 6 [vI wi, vI ro, vR s2, vR s3, vI dr, vI dt, vR s6, vI pe, vR s8, vI gu, vI sh, vR s11, vI wo, vR s13, vI dn, vI mi, vI fl, vI tk, vI qg], zI s3 (cy 0) 96 wg, zI s8 (cy 0) 112 pg, zI s11 (cy 0) 4 shf, zO la 1 [vR l0, vI size, vR l2, vR l3], zI l0 (cy 0) 600 st, zI l2 (cy 0) 5 sf, zI l3 (cy 0) 40 vg] → va_S A s.heap H locs → lv_has ls 7 [(4, vI q4), (3, vI q3), (0, vR ca), (1, vR sA), (2, vR la)] → W p l e _ s m _ below meth c H locs _ _ _ (F0 m 5 ls [])) (((16 - 0) + 1 : Int)).toNat 0 0 crt cpt go nf wf pf vf _ _ _ (by omega) (by show ((-2147483648) : Int) ≤ 0 ∧ (0 : Int) ≤ 2147483647; decide) (by show (0 : Int) ≤ 0 ∧ (0 : Int) ≤ 16; decide) (by first | exact hr_crt | omega) (by first | exact hr_cpt | omega) (by first | exact hr_go | omega) (by omega) hpf hP hD hS hlv
  clear hP hD hS hlv
  intro fu
  induction fu with
  | zero => intro q3 q4 qr qp qg ng wg pg vg H locs ls hm5 hl5_0 hl5_1 hl5_2 hl5_3 hl5_4 hl5_5 hipg hP hD hS hlv; omega
  | succ fu ih5 =>
    intro q3 q4 qr qp qg ng wg pg vg H locs ls hm5 hl5_0 hl5_1 hl5_2 hl5_3 hl5_4 hl5_5 hipg hP hD hS hlv
    refine lv_iload hx hb dX0_drive_5 (lv_at hlv 0 rfl) ?_
    refine lv_aload_n hx hb dX0_drive_7 rfl (lv_at hlv 3 rfl) ?_
    refine va_getN (D := D) (ci := 6) (v := vI wi) (C := RX6) (T := TX6) (N := 19) hx hb hts hi6 hown hG.1 hP 2 rfl rfl 0 (by decide) (va_Nw.use rfl (nF_Car_28 hG.2.1)) (fun _ h9 => h9) rfl dX0_drive_8 ?_
    refine ir_ge (tgt := 88) hx hb dX0_drive_11 (by decide) (by first | exact rgw hl5_1 (by decide) (by decide) | omega) (by first | exact rgw hr_wi (by decide) (by decide) | omega) (fun c_1 => ?_) (fun c_1 => ?_)
    · refine lv_iload_n hx hb dX0_drive_88 rfl (lv_at hlv 1 rfl) ?_
      refine W.widen (k := 0) (n := 0) (Nat.le_of_ble_eq_true rfl) (Nat.le_of_ble_eq_true rfl) ?_
      exact W.iret (v := iI q3) hx hb hr (fun t ht hW => ⟨⟨iI q3, ((fun k => ([] : List Nat).getD k 0), (fun k => ([q3, qr, qp, qg] : List Int).getD k 0), (fun k => ([ng, vg, wg, pg] : List (Nat → Int32)).getD k (fun _ => 0))), rfl, ⟨rfl, (by show ((-2147483648) ≤ q3 ∧ q3 ≤ 2147483647); first | exact hl5_0 | omega), (by show (0 ≤ qr ∧ qr ≤ 5); first | exact hl5_2 | omega), (by show ((-2147483648) ≤ qp ∧ qp ≤ 2147483647); first | exact hl5_3 | omega), (by show ((-2147483648) ≤ qg ∧ qg ≤ 2147483647); first | exact hl5_4 | omega), hipg, hst⟩, by rw [ht]; exact hP.sub [0, 1, 2, 3, 4, 5, 6, 7, 8, 9] rfl, hD.sub [0, 1, 2, 3, 4, 5, 6, 7, 8, 9] (by decide) rfl⟩, hS.F ht⟩) hS.2.2 dX0_drive_89
    · refine lv_aload_n hx hb dX0_drive_14 rfl (lv_at hlv 2 rfl) ?_
      refine lv_aload_n hx hb dX0_drive_15 rfl (lv_at hlv 3 rfl) ?_
      refine lv_aload_n hx hb dX0_drive_16 rfl (lv_at hlv 4 rfl) ?_
      refine lv_iload hx hb dX0_drive_17 (lv_at hlv 0 rfl) ?_
      refine cj_v (wr := [zI s11 (cy 0) 4 shf]) (va_runV (As := [vR sA, vR la, vI q4]) (rest := []) ⟨hx, hb, hml, hown, hts⟩ (c_come l hl D cy sa ca na crow cpace ctyre ckind qr qp sA s2 s3 s6 s8 s11 s13 wi ro dr dt pe gu sh wo dn mi fl tk qg xl xh ng wg pg la l0 l2 l3 size st sf vg q4 H.size (by first | exact hr_crow | omega) (by first | exact hr_cpace | omega) (by first | exact hr_ctyre | omega) (by first | exact hr_ckind | omega) (by first | exact hl5_2 | omega) (by first | exact hl5_3 | omega) (by first | exact hr_wi | omega) (by first | exact hr_ro | omega) (by first | exact hr_dr | omega) (by first | exact hr_dt | omega) (by first | exact hr_pe | omega) (by first | exact hr_gu | omega) (by first | exact hr_sh | omega) (by first | exact hr_wo | omega) (by first | exact hr_dn | omega) (by first | exact hr_mi | omega) (by first | exact hr_fl | omega) (by first | exact hr_tk | omega) (by first | exact hl5_4 | omega) (by first | exact hr_xl | omega) (by first | exact hr_xh | omega) (by first | exact hr_size | omega) (by omega) hipg hst) (cwV 3 hts gg_1 rfl rfl rfl (by decide +kernel) ⟨Nat.le_of_ble_eq_true rfl, Nat.le_of_ble_eq_true rfl⟩) ⟨pcW.blind, (va_recv hG.1 hP (ci := 0) (q0 := 0) rfl rfl), (pcW.mk hP hD hS hA hG hT [0, 1, 2, 3, 4, 6, 7, 8, 9] rfl (by decide))⟩ rfl rfl hlv.1 rfl (lv_room (Nat.le_of_ble_eq_true rfl)) dX0_drive_19 ⟨Nat.le_of_ble_eq_true rfl, Nat.le_of_ble_eq_true rfl⟩) hP hD hS hA [0, 1, 2, 3, 4, 6, 7, 8, 9] [5] rfl rfl (by decide) (by decide) (fun u1 H locs hw1 hP hD hS => ?_)
      obtain ⟨hq1_0, hq1_1, hq1_2, hq1_3⟩ := hw1
      have hP : va_P D vwCl [zI s11 (cy 0) 4 shf, zO ca 0 [vR na, vI crow, vI cpace, vI ctyre, vI ckind, vI (u1.2.1 0), vI (u1.2.1 1)], zI na (cy 0) 7 (u1.2.2 0), zO sA 6 [vI wi, vI ro, vR s2, vR s3, vI dr, vI dt, vR s6, vI pe, vR s8, vI gu, vI sh, vR s11, vI wo, vR s13, vI dn, vI mi, vI fl, vI tk, vI qg], zI s3 (cy 0) 96 wg, zI s8 (cy 0) 112 pg, zO la 1 [vR l0, vI size, vR l2, vR l3], zI l0 (cy 0) 600 st, zI l2 (cy 0) 5 sf, zI l3 (cy 0) 40 (u1.2.2 1)] H := hP
      have hD : va_D A [zI s11 (cy 0) 4 shf, zO ca 0 [vR na, vI crow, vI cpace, vI ctyre, vI ckind, vI (u1.2.1 0), vI (u1.2.1 1)], zI na (cy 0) 7 (u1.2.2 0), zO sA 6 [vI wi, vI ro, vR s2, vR s3, vI dr, vI dt, vR s6, vI pe, vR s8, vI gu, vI sh, vR s11, vI wo, vR s13, vI dn, vI mi, vI fl, vI tk, vI qg], zI s3 (cy 0) 96 wg, zI s8 (cy 0) 112 pg, zO la 1 [vR l0, vI size, vR l2, vR l3], zI l0 (cy 0) 600 st, zI l2 (cy 0) 5 sf, zI l3 (cy 0) 40 (u1.2.2 1)] := hD
      refine lv_aload_n hx hb dX0_drive_22 rfl (lv_at hlv 4 rfl) ?_
      refine lv_iconst (v := iI 0) hx hb dX0_drive_23 (by decide) ?_
      refine lv_aload_n hx hb dX0_drive_24 rfl (lv_at hlv 2 rfl) ?_
      refine va_get (D := D) (ci := 0) (v := vR na) (C := RX0) (T := TX0) (N := 7) hx hb hts hi0 hown hG.1 hP 1 rfl rfl 0 (by decide) lf9 (fun _ h9 => h9) rfl dX0_drive_25 ?_
      refine cj_i (wr := [zI s11 (cy 0) 4 shf, zO ca 0 [vR na, vI crow, vI cpace, vI ctyre, vI ckind, vI (u1.2.1 0), vI (u1.2.1 1)], zO sA 6 [vI wi, vI ro, vR s2, vR s3, vI dr, vI dt, vR s6, vI pe, vR s8, vI gu, vI sh, vR s11, vI wo, vR s13, vI dn, vI mi, vI fl, vI tk, vI qg], zI s3 (cy 0) 96 wg, zI s8 (cy 0) 112 pg]) (va_runVN (host := "KerbSplash") (As := [vI 0, vR na]) (rest := []) ⟨hx, hb, hml, hown, hts⟩ (w_value l hl D cy sa la l0 l2 l3 na size st sf (u1.2.2 1) (u1.2.2 0) 0 H.size (by first | exact hr_size | omega) (by show (0 : Int) ≤ 0 ∧ (0 : Int) ≤ 4; decide) hq1_3) ⟨va_cnB 2 hts gg_3 rfl rfl rfl (nM_Car_37 hG.2.1) ini_RX1 (by decide +kernel) ⟨Nat.le_of_ble_eq_true rfl, Nat.le_of_ble_eq_true rfl⟩, im_X1_value, se_X1_value⟩ ⟨pcW.blind, (va_recv hG.1 hP (ci := 1) (q0 := 6) rfl rfl), (pcW.mk hP hD hS hA hG hT [6, 7, 8, 9, 2] rfl (by decide))⟩ rfl rfl hlv.1 rfl (lv_room (Nat.le_of_ble_eq_true rfl)) dX0_drive_28 ⟨Nat.le_of_ble_eq_true rfl, Nat.le_of_ble_eq_true rfl⟩) hP hD hS hA [6, 7, 8, 9, 2] [0, 1, 3, 4, 5] rfl rfl (by decide) (by decide) (fun r2 u2 H locs hw2 hP hD hS => ?_)
      obtain ⟨rfl, hq2_1, hq2_2⟩ := hw2
      have hP : va_P D vwCl [zI s11 (cy 0) 4 shf, zO ca 0 [vR na, vI crow, vI cpace, vI ctyre, vI ckind, vI (u1.2.1 0), vI (u1.2.1 1)], zO sA 6 [vI wi, vI ro, vR s2, vR s3, vI dr, vI dt, vR s6, vI pe, vR s8, vI gu, vI sh, vR s11, vI wo, vR s13, vI dn, vI mi, vI fl, vI tk, vI qg], zI s3 (cy 0) 96 wg, zI s8 (cy 0) 112 pg, zO la 1 [vR l0, vI size, vR l2, vR l3], zI l0 (cy 0) 600 st, zI l2 (cy 0) 5 sf, zI l3 (cy 0) 40 (u2.2.2 0), zI na (cy 0) 7 (u1.2.2 0)] H := hP
      have hD : va_D A [zI s11 (cy 0) 4 shf, zO ca 0 [vR na, vI crow, vI cpace, vI ctyre, vI ckind, vI (u1.2.1 0), vI (u1.2.1 1)], zO sA 6 [vI wi, vI ro, vR s2, vR s3, vI dr, vI dt, vR s6, vI pe, vR s8, vI gu, vI sh, vR s11, vI wo, vR s13, vI dn, vI mi, vI fl, vI tk, vI qg], zI s3 (cy 0) 96 wg, zI s8 (cy 0) 112 pg, zO la 1 [vR l0, vI size, vR l2, vR l3], zI l0 (cy 0) 600 st, zI l2 (cy 0) 5 sf, zI l3 (cy 0) 40 (u2.2.2 0), zI na (cy 0) 7 (u1.2.2 0)] := hD
      refine lv_i2l (v := jJ (u2.2.1 0)) hx hb dX0_drive_31 (jJ_i (by omega)) ?_
      refine lv_iconst (v := iI 0) hx hb dX0_drive_32 (by decide) ?_
      refine lv_bipush (v := iI 16) hx hb dX0_drive_33 (by decide) ?_
      refine cj_i (wr := [zI s11 (cy 0) 4 shf, zO ca 0 [vR na, vI crow, vI cpace, vI ctyre, vI ckind, vI (u1.2.1 0), vI (u1.2.1 1)], zO sA 6 [vI wi, vI ro, vR s2, vR s3, vI dr, vI dt, vR s6, vI pe, vR s8, vI gu, vI sh, vR s11, vI wo, vR s13, vI dn, vI mi, vI fl, vI tk, vI qg], zI s3 (cy 0) 96 wg, zI s8 (cy 0) 112 pg, zO la 1 [vR l0, vI size, vR l2, vR l3], zI l0 (cy 0) 600 st, zI l2 (cy 0) 5 sf, zI l3 (cy 0) 40 (u2.2.2 0), zI na (cy 0) 7 (u1.2.2 0)]) (va_runSN (host := "KerbSplash") (As := [vJ (u2.2.1 0), vI 0, vI 16]) (rest := []) ⟨hx, hb, hml, hown, hts⟩ (s_held l hl D cy sa (u2.2.1 0) 0 16 H.size (by first | exact rgw hq2_1 (by decide) (by decide) | omega) (by show ((-2147483648) : Int) ≤ 0 ∧ (0 : Int) ≤ 2147483647; decide) (by show ((-2147483648) : Int) ≤ 16 ∧ (16 : Int) ≤ 2147483647; decide)) ⟨va_cnB 3 hts gg_4 rfl rfl rfl (nM_Car_41 hG.2.1) ini_RX11 (by decide +kernel) ⟨Nat.le_of_ble_eq_true rfl, Nat.le_of_ble_eq_true rfl⟩, st_X11_held, trivial⟩ ⟨pcW.blind, (pcW.mk hP hD hS hA hG hT [] rfl (by decide))⟩ rfl rfl hlv.1 rfl (lv_room (Nat.le_of_ble_eq_true rfl)) dX0_drive_35 ⟨Nat.le_of_ble_eq_true rfl, Nat.le_of_ble_eq_true rfl⟩) hP hD hS hA [] [0, 1, 2, 3, 4, 5, 6, 7, 8, 9] rfl rfl (by decide) (by decide) (fun r3 u3 H locs hw3 hP hD hS => ?_)
      obtain ⟨rfl, hq3_1, hq3_2⟩ := hw3
      have hP : va_P D vwCl [zI s11 (cy 0) 4 shf, zO ca 0 [vR na, vI crow, vI cpace, vI ctyre, vI ckind, vI (u1.2.1 0), vI (u1.2.1 1)], zO sA 6 [vI wi, vI ro, vR s2, vR s3, vI dr, vI dt, vR s6, vI pe, vR s8, vI gu, vI sh, vR s11, vI wo, vR s13, vI dn, vI mi, vI fl, vI tk, vI qg], zI s3 (cy 0) 96 wg, zI s8 (cy 0) 112 pg, zO la 1 [vR l0, vI size, vR l2, vR l3], zI l0 (cy 0) 600 st, zI l2 (cy 0) 5 sf, zI l3 (cy 0) 40 (u2.2.2 0), zI na (cy 0) 7 (u1.2.2 0)] H := hP
      have hD : va_D A [zI s11 (cy 0) 4 shf, zO ca 0 [vR na, vI crow, vI cpace, vI ctyre, vI ckind, vI (u1.2.1 0), vI (u1.2.1 1)], zO sA 6 [vI wi, vI ro, vR s2, vR s3, vI dr, vI dt, vR s6, vI pe, vR s8, vI gu, vI sh, vR s11, vI wo, vR s13, vI dn, vI mi, vI fl, vI tk, vI qg], zI s3 (cy 0) 96 wg, zI s8 (cy 0) 112 pg, zO la 1 [vR l0, vI size, vR l2, vR l3], zI l0 (cy 0) 600 st, zI l2 (cy 0) 5 sf, zI l3 (cy 0) 40 (u2.2.2 0), zI na (cy 0) 7 (u1.2.2 0)] := hD
      refine lv_istore (lv' := [(5, vI (u3.2.1 0)), (4, vI q4), (3, vI q3), (0, vR ca), (1, vR sA), (2, vR la)]) hx hb dX0_drive_38 hlv (by decide) rfl (fun ls hlv => ?_)
      refine lv_aload_n hx hb dX0_drive_40 rfl (lv_at hlv 3 rfl) ?_
      refine va_get (D := D) (ci := 0) (v := vR na) (C := RX0) (T := TX0) (N := 7) hx hb hts hi0 hown hG.1 hP 1 rfl rfl 0 (by decide) lf9 (fun _ h9 => h9) rfl dX0_drive_41 ?_
      refine lv_iconst (v := iI 0) hx hb dX0_drive_44 (by decide) ?_
      refine va_iald hx hb hG.1 hP 9 0 rfl rfl (iI_in (by omega) (by decide)) dX0_drive_45 ?_
      refine lt_z (fun z_2 ez_2 lz_2 hz_2 => ?_)
      refine lv_iload hx hb dX0_drive_46 (lv_at hlv 0 rfl) ?_
      refine lv_imul hx hb dX0_drive_48 ?_
      refine lt_z (fun z_3 ez_3 lz_3 hz_3 => ?_)
      refine lv_bipush (v := iI 16) hx hb dX0_drive_49 (by decide) ?_
      refine lv_idiv hx hb dX0_drive_51 (fun q => absurd ((iI_eq (a := 16) (b := 0) (by omega) (by omega)).mp q) (by omega)) ?_
      refine lt_z (fun z_4 ez_4 lz_4 hz_4 => ?_)
      refine lv_istore (lv' := [(6, vI z_4), (5, vI (u3.2.1 0)), (4, vI q4), (3, vI q3), (0, vR ca), (1, vR sA), (2, vR la)]) hx hb dX0_drive_52 hlv (by decide) rfl (fun ls hlv => ?_)
      refine lv_iload hx hb dX0_drive_54 (lv_at hlv 0 rfl) ?_
      refine iz_le (tgt := 82) hx hb dX0_drive_56 (by decide) (by omega) (fun c_5 => ?_) (fun c_5 => ?_)
      · obtain ⟨z_6, hz_6⟩ : ∃ z : Int, z = q4 + 1 := ⟨_, rfl⟩
        refine lv_iinc (v := iI z_6) (lv' := [(4, vI z_6), (6, vI z_4), (5, vI (u3.2.1 0)), (3, vI q3), (0, vR ca), (1, vR sA), (2, vR la)]) hx hb dX0_drive_82 hlv (k := 2) rfl (by rw [hz_6]; exact (Int32.ofInt_add _ _).symm) (by decide) rfl (fun ls hlv => ?_)
        refine lv_goto (tgt := 5) hx hb dX0_drive_85 (by decide) ?_
        exact ih5 q3 z_6 (u1.2.1 0) (u1.2.1 1) qg (u1.2.2 0) wg pg (u2.2.2 0) H locs ls (by omega) (by first | exact hl5_0 | omega) (by omega) (by first | exact hq1_0 | omega) (by first | exact hq1_1 | omega) (by first | exact hl5_4 | omega) (by omega) hq1_2 (hP.sub [1, 9, 2, 3, 4, 0, 5, 6, 7, 8] rfl) (hD.sub [1, 9, 2, 3, 4, 0, 5, 6, 7, 8] (by decide) rfl) hS (lv_sub hlv [0, 3, 4, 5, 6] rfl)
      · refine lv_aload_n hx hb dX0_drive_59 rfl (lv_at hlv 5 rfl) ?_
        refine lv_iload hx hb dX0_drive_60 (lv_at hlv 2 rfl) ?_
        refine lv_aload_n hx hb dX0_drive_62 rfl (lv_at hlv 4 rfl) ?_
        refine va_get (D := D) (ci := 0) (v := vI (u1.2.1 0)) (C := RX0) (T := TX0) (N := 7) hx hb hts hi0 hown hG.1 hP 1 rfl rfl 5 (by decide) lf47 (fun _ h9 => h9) rfl dX0_drive_63 ?_
        refine lv_iload hx hb dX0_drive_66 (lv_at hlv 0 rfl) ?_
        refine cj_v (wr := [zI s11 (cy 0) 4 shf, zO ca 0 [vR na, vI crow, vI cpace, vI ctyre, vI ckind, vI (u1.2.1 0), vI (u1.2.1 1)], zI s8 (cy 0) 112 pg, zO la 1 [vR l0, vI size, vR l2, vR l3], zI l0 (cy 0) 600 st, zI l2 (cy 0) 5 sf, zI l3 (cy 0) 40 (u2.2.2 0), zI na (cy 0) 7 (u1.2.2 0)]) (va_runVN (host := "KerbSplash") (As := [vI q4, vI (u1.2.1 0), vI z_4]) (rest := []) ⟨hx, hb, hml, hown, hts⟩ (s_throwFrom l hl D cy sa sA s2 s3 s6 s8 s11 s13 wi ro dr dt pe gu sh wo dn mi fl tk qg wg q4 (u1.2.1 0) z_4 H.size (by first | exact hr_wi | omega) (by first | exact rgw hr_ro (by decide) (by decide) | omega) (by first | exact hr_dr | omega) (by first | exact hr_dt | omega) (by first | exact hr_pe | omega) (by first | exact hr_gu | omega) (by first | exact hr_sh | omega) (by first | exact hr_wo | omega) (by first | exact hr_dn | omega) (by first | exact hr_mi | omega) (by first | exact hr_fl | omega) (by first | exact hr_tk | omega) (by first | exact hl5_4 | omega) (by omega) (by first | exact hq1_0 | omega) (by omega)) ⟨va_cnB 3 hts gg_5 rfl rfl rfl (nM_Car_50 hG.2.1) ini_RX6 (by decide +kernel) ⟨Nat.le_of_ble_eq_true rfl, Nat.le_of_ble_eq_true rfl⟩, im_X6_throwFrom, se_X6_throwFrom⟩ ⟨pcW.blind, (va_recv hG.1 hP (ci := 6) (q0 := 2) rfl rfl), (pcW.mk hP hD hS hA hG hT [2, 3] rfl (by decide))⟩ rfl rfl hlv.1 rfl (lv_room (Nat.le_of_ble_eq_true rfl)) dX0_drive_68 ⟨Nat.le_of_ble_eq_true rfl, Nat.le_of_ble_eq_true rfl⟩) hP hD hS hA [2, 3] [0, 1, 4, 5, 6, 7, 8, 9] rfl rfl (by decide) (by decide) (fun u4 H locs hw4 hP hD hS => ?_)
        have hq4_0 : ((-2147483648) ≤ u4.2.1 0 ∧ u4.2.1 0 ≤ 2147483647) := hw4
        have hP : va_P D vwCl [zI s11 (cy 0) 4 shf, zO ca 0 [vR na, vI crow, vI cpace, vI ctyre, vI ckind, vI (u1.2.1 0), vI (u1.2.1 1)], zI s8 (cy 0) 112 pg, zO la 1 [vR l0, vI size, vR l2, vR l3], zI l0 (cy 0) 600 st, zI l2 (cy 0) 5 sf, zI l3 (cy 0) 40 (u2.2.2 0), zI na (cy 0) 7 (u1.2.2 0), zO sA 6 [vI wi, vI ro, vR s2, vR s3, vI dr, vI dt, vR s6, vI pe, vR s8, vI gu, vI sh, vR s11, vI wo, vR s13, vI dn, vI mi, vI fl, vI tk, vI (u4.2.1 0)], zI s3 (cy 0) 96 (u4.2.2 0)] H := hP
        have hD : va_D A [zI s11 (cy 0) 4 shf, zO ca 0 [vR na, vI crow, vI cpace, vI ctyre, vI ckind, vI (u1.2.1 0), vI (u1.2.1 1)], zI s8 (cy 0) 112 pg, zO la 1 [vR l0, vI size, vR l2, vR l3], zI l0 (cy 0) 600 st, zI l2 (cy 0) 5 sf, zI l3 (cy 0) 40 (u2.2.2 0), zI na (cy 0) 7 (u1.2.2 0), zO sA 6 [vI wi, vI ro, vR s2, vR s3, vI dr, vI dt, vR s6, vI pe, vR s8, vI gu, vI sh, vR s11, vI wo, vR s13, vI dn, vI mi, vI fl, vI tk, vI (u4.2.1 0)], zI s3 (cy 0) 96 (u4.2.2 0)] := hD
        refine lv_iload_n hx hb dX0_drive_71 rfl (lv_at hlv 3 rfl) ?_
        refine lv_aload_n hx hb dX0_drive_72 rfl (lv_at hlv 4 rfl) ?_
        refine lv_aload_n hx hb dX0_drive_73 rfl (lv_at hlv 5 rfl) ?_
        refine lv_aload_n hx hb dX0_drive_74 rfl (lv_at hlv 6 rfl) ?_
        refine lv_iload hx hb dX0_drive_75 (lv_at hlv 2 rfl) ?_
        refine cj_i (wr := [zI s3 (cy 0) 96 (u4.2.2 0)]) (va_runV (As := [vR sA, vR la, vI q4]) (rest := [vI q3]) ⟨hx, hb, hml, hown, hts⟩ (c_hit l hl D cy sa ca na crow cpace ctyre ckind (u1.2.1 0) (u1.2.1 1) sA s2 s3 s6 s8 s11 s13 wi ro dr dt pe gu sh wo dn mi fl tk (u4.2.1 0) xl xh (u1.2.2 0) pg shf la l0 l2 l3 size st sf (u2.2.2 0) q4 H.size (by first | exact hr_crow | omega) (by first | exact hr_cpace | omega) (by first | exact hr_ctyre | omega) (by first | exact hr_ckind | omega) (by first | exact hq1_0 | omega) (by first | exact hq1_1 | omega) (by first | exact hr_wi | omega) (by first | exact rgw hr_ro (by decide) (by decide) | omega) (by first | exact hr_dr | omega) (by first | exact hr_dt | omega) (by first | exact hr_pe | omega) (by first | exact hr_gu | omega) (by first | exact hr_sh | omega) (by first | exact hr_wo | omega) (by first | exact hr_dn | omega) (by first | exact hr_mi | omega) (by first | exact hr_fl | omega) (by first | exact hr_tk | omega) (by first | exact hq4_0 | omega) (by first | exact hr_xl | omega) (by first | exact hr_xh | omega) (by first | exact hr_size | omega) (by omega) hq1_2 hq2_2) (cwV 3 hts gg_6 rfl rfl rfl (by decide +kernel) ⟨Nat.le_of_ble_eq_true rfl, Nat.le_of_ble_eq_true rfl⟩) ⟨pcW.blind, (va_recv hG.1 hP (ci := 0) (q0 := 1) rfl rfl), (pcW.mk hP hD hS hA hG hT [1, 7, 8, 2, 0, 3, 4, 5, 6] rfl (by decide))⟩ rfl rfl hlv.1 rfl (lv_room (Nat.le_of_ble_eq_true rfl)) dX0_drive_77 ⟨Nat.le_of_ble_eq_true rfl, Nat.le_of_ble_eq_true rfl⟩) hP hD hS hA [1, 7, 8, 2, 0, 3, 4, 5, 6] [9] rfl rfl (by decide) (by decide) (fun r5 u5 H locs hw5 hP hD hS => ?_)
        obtain ⟨rfl, hq5_1, hq5_2, hq5_3⟩ := hw5
        have hP : va_P D vwCl [zI s3 (cy 0) 96 (u4.2.2 0), zO ca 0 [vR na, vI crow, vI cpace, vI ctyre, vI ckind, vI (u1.2.1 0), vI (u1.2.1 1)], zI na (cy 0) 7 (u5.2.2 0), zO sA 6 [vI wi, vI ro, vR s2, vR s3, vI dr, vI dt, vR s6, vI pe, vR s8, vI gu, vI sh, vR s11, vI wo, vR s13, vI dn, vI mi, vI fl, vI tk, vI (u4.2.1 0)], zI s8 (cy 0) 112 (u5.2.2 2), zI s11 (cy 0) 4 shf, zO la 1 [vR l0, vI size, vR l2, vR l3], zI l0 (cy 0) 600 st, zI l2 (cy 0) 5 sf, zI l3 (cy 0) 40 (u5.2.2 1)] H := hP
        have hD : va_D A [zI s3 (cy 0) 96 (u4.2.2 0), zO ca 0 [vR na, vI crow, vI cpace, vI ctyre, vI ckind, vI (u1.2.1 0), vI (u1.2.1 1)], zI na (cy 0) 7 (u5.2.2 0), zO sA 6 [vI wi, vI ro, vR s2, vR s3, vI dr, vI dt, vR s6, vI pe, vR s8, vI gu, vI sh, vR s11, vI wo, vR s13, vI dn, vI mi, vI fl, vI tk, vI (u4.2.1 0)], zI s8 (cy 0) 112 (u5.2.2 2), zI s11 (cy 0) 4 shf, zO la 1 [vR l0, vI size, vR l2, vR l3], zI l0 (cy 0) 600 st, zI l2 (cy 0) 5 sf, zI l3 (cy 0) 40 (u5.2.2 1)] := hD
        refine lv_iadd hx hb dX0_drive_80 ?_
        refine lt_z (fun z_7 ez_7 lz_7 hz_7 => ?_)
        refine lv_istore_n (lv' := [(3, vI z_7), (6, vI z_4), (5, vI (u3.2.1 0)), (4, vI q4), (0, vR ca), (1, vR sA), (2, vR la)]) hx hb dX0_drive_81 rfl hlv (by decide) rfl (fun ls hlv => ?_)
        obtain ⟨z_8, hz_8⟩ : ∃ z : Int, z = q4 + 1 := ⟨_, rfl⟩
        refine lv_iinc (v := iI z_8) (lv' := [(4, vI z_8), (3, vI z_7), (6, vI z_4), (5, vI (u3.2.1 0)), (0, vR ca), (1, vR sA), (2, vR la)]) hx hb dX0_drive_82 hlv (k := 3) rfl (by rw [hz_8]; exact (Int32.ofInt_add _ _).symm) (by decide) rfl (fun ls hlv => ?_)
        refine lv_goto (tgt := 5) hx hb dX0_drive_85 (by decide) ?_
        exact ih5 z_7 z_8 (u1.2.1 0) (u1.2.1 1) (u4.2.1 0) (u5.2.2 0) (u4.2.2 0) (u5.2.2 2) (u5.2.2 1) H locs ls (by omega) (by omega) (by omega) (by first | exact hq1_0 | omega) (by first | exact hq1_1 | omega) (by first | exact hq4_0 | omega) (by omega) hq5_2 (hP.sub [1, 2, 3, 0, 4, 5, 6, 7, 8, 9] rfl) (hD.sub [1, 2, 3, 0, 4, 5, 6, 7, 8, 9] (by decide) rfl) hS (lv_sub hlv [0, 1, 4, 5, 6] rfl)
