theorem dX3_findSweeping_0 : decode cX3_findSweeping 0 = .ok (.iconst 0, 1) := by decide +kernel
theorem dX3_findSweeping_1 : decode cX3_findSweeping 1 = .ok (.istore_n 2, 1) := by decide +kernel
theorem dX3_findSweeping_12 : decode cX3_findSweeping 12 = .ok (.aload_n 1, 1) := by decide +kernel
theorem dX3_findSweeping_13 : decode cX3_findSweeping 13 = .ok (.getfield 56, 3) := by decide +kernel
theorem dX3_findSweeping_16 : decode cX3_findSweeping 16 = .ok (.iconst 4, 1) := by decide +kernel
theorem dX3_findSweeping_17 : decode cX3_findSweeping 17 = .ok (.iload_n 3, 1) := by decide +kernel
theorem dX3_findSweeping_18 : decode cX3_findSweeping 18 = .ok (.imul, 1) := by decide +kernel
theorem dX3_findSweeping_19 : decode cX3_findSweeping 19 = .ok (.iconst 3, 1) := by decide +kernel
theorem dX3_findSweeping_2 : decode cX3_findSweeping 2 = .ok (.iconst 0, 1) := by decide +kernel
theorem dX3_findSweeping_20 : decode cX3_findSweeping 20 = .ok (.iadd, 1) := by decide +kernel
theorem dX3_findSweeping_21 : decode cX3_findSweeping 21 = .ok (.iaload, 1) := by decide +kernel
theorem dX3_findSweeping_22 : decode cX3_findSweeping 22 = .ok (.ifCond .le 9, 3) := by decide +kernel
theorem dX3_findSweeping_25 : decode cX3_findSweeping 25 = .ok (.iload_n 2, 1) := by decide +kernel
theorem dX3_findSweeping_26 : decode cX3_findSweeping 26 = .ok (.iconst 1, 1) := by decide +kernel
theorem dX3_findSweeping_27 : decode cX3_findSweeping 27 = .ok (.iload_n 3, 1) := by decide +kernel
theorem dX3_findSweeping_28 : decode cX3_findSweeping 28 = .ok (.ishl, 1) := by decide +kernel
theorem dX3_findSweeping_29 : decode cX3_findSweeping 29 = .ok (.ior, 1) := by decide +kernel
theorem dX3_findSweeping_3 : decode cX3_findSweeping 3 = .ok (.istore_n 3, 1) := by decide +kernel
theorem dX3_findSweeping_30 : decode cX3_findSweeping 30 = .ok (.istore_n 2, 1) := by decide +kernel
theorem dX3_findSweeping_31 : decode cX3_findSweeping 31 = .ok (.iinc 3 1, 3) := by decide +kernel
theorem dX3_findSweeping_34 : decode cX3_findSweeping 34 = .ok (.goto (-30), 3) := by decide +kernel
theorem dX3_findSweeping_37 : decode cX3_findSweeping 37 = .ok (.aload_n 0, 1) := by decide +kernel
theorem dX3_findSweeping_38 : decode cX3_findSweeping 38 = .ok (.iload_n 2, 1) := by decide +kernel
theorem dX3_findSweeping_39 : decode cX3_findSweeping 39 = .ok (.ifCond .ne 7, 3) := by decide +kernel
theorem dX3_findSweeping_4 : decode cX3_findSweeping 4 = .ok (.iload_n 3, 1) := by decide +kernel
theorem dX3_findSweeping_42 : decode cX3_findSweeping 42 = .ok (.iconst 0, 1) := by decide +kernel
theorem dX3_findSweeping_43 : decode cX3_findSweeping 43 = .ok (.goto 5, 3) := by decide +kernel
theorem dX3_findSweeping_46 : decode cX3_findSweeping 46 = .ok (.ldc 47, 2) := by decide +kernel
theorem dX3_findSweeping_48 : decode cX3_findSweeping 48 = .ok (.putfield 33, 3) := by decide +kernel
theorem dX3_findSweeping_5 : decode cX3_findSweeping 5 = .ok (.aload_n 1, 1) := by decide +kernel
theorem dX3_findSweeping_51 : decode cX3_findSweeping 51 = .ok (.aload_n 0, 1) := by decide +kernel
theorem dX3_findSweeping_52 : decode cX3_findSweeping 52 = .ok (.iconst 0, 1) := by decide +kernel
theorem dX3_findSweeping_53 : decode cX3_findSweeping 53 = .ok (.putfield 36, 3) := by decide +kernel
theorem dX3_findSweeping_56 : decode cX3_findSweeping 56 = .ok (.iload_n 2, 1) := by decide +kernel
theorem dX3_findSweeping_57 : decode cX3_findSweeping 57 = .ok (.ifCond .eq 12, 3) := by decide +kernel
theorem dX3_findSweeping_6 : decode cX3_findSweeping 6 = .ok (.getfield 51, 3) := by decide +kernel
theorem dX3_findSweeping_60 : decode cX3_findSweeping 60 = .ok (.aload_n 0, 1) := by decide +kernel
theorem dX3_findSweeping_61 : decode cX3_findSweeping 61 = .ok (.aload_n 1, 1) := by decide +kernel
theorem dX3_findSweeping_62 : decode cX3_findSweeping 62 = .ok (.iload_n 2, 1) := by decide +kernel
theorem dX3_findSweeping_63 : decode cX3_findSweeping 63 = .ok (.iconst (-1), 1) := by decide +kernel
theorem dX3_findSweeping_64 : decode cX3_findSweeping 64 = .ok (.iconst 0, 1) := by decide +kernel
theorem dX3_findSweeping_65 : decode cX3_findSweeping 65 = .ok (.iconst 0, 1) := by decide +kernel
theorem dX3_findSweeping_66 : decode cX3_findSweeping 66 = .ok (.invokevirtual 59, 3) := by decide +kernel
theorem dX3_findSweeping_69 : decode cX3_findSweeping 69 = .ok (.return_, 1) := by decide +kernel
theorem dX3_findSweeping_9 : decode cX3_findSweeping 9 = .ok (.if_icmp .ge 28, 3) := by decide +kernel
theorem dX3_goOn_0 : decode cX3_goOn 0 = .ok (.iload_n 2, 1) := by decide +kernel
theorem dX3_goOn_1 : decode cX3_goOn 1 = .ok (.ifCond .ne 36, 3) := by decide +kernel
theorem dX3_goOn_12 : decode cX3_goOn 12 = .ok (.iadd, 1) := by decide +kernel
theorem dX3_goOn_13 : decode cX3_goOn 13 = .ok (.istore 6, 2) := by decide +kernel
theorem dX3_goOn_15 : decode cX3_goOn 15 = .ok (.iload 6, 2) := by decide +kernel
theorem dX3_goOn_17 : decode cX3_goOn 17 = .ok (.aload_n 0, 1) := by decide +kernel
theorem dX3_goOn_18 : decode cX3_goOn 18 = .ok (.getfield 33, 3) := by decide +kernel
theorem dX3_goOn_21 : decode cX3_goOn 21 = .ok (.if_icmp .ge 15, 3) := by decide +kernel
theorem dX3_goOn_24 : decode cX3_goOn 24 = .ok (.aload_n 0, 1) := by decide +kernel
theorem dX3_goOn_25 : decode cX3_goOn 25 = .ok (.iload 6, 2) := by decide +kernel
theorem dX3_goOn_27 : decode cX3_goOn 27 = .ok (.putfield 33, 3) := by decide +kernel
theorem dX3_goOn_30 : decode cX3_goOn 30 = .ok (.aload_n 0, 1) := by decide +kernel
theorem dX3_goOn_31 : decode cX3_goOn 31 = .ok (.iload 5, 2) := by decide +kernel
theorem dX3_goOn_33 : decode cX3_goOn 33 = .ok (.putfield 36, 3) := by decide +kernel
theorem dX3_goOn_36 : decode cX3_goOn 36 = .ok (.return_, 1) := by decide +kernel
theorem dX3_goOn_37 : decode cX3_goOn 37 = .ok (.iconst 0, 1) := by decide +kernel
theorem dX3_goOn_38 : decode cX3_goOn 38 = .ok (.istore 6, 2) := by decide +kernel
theorem dX3_goOn_4 : decode cX3_goOn 4 = .ok (.iload 4, 2) := by decide +kernel
theorem dX3_goOn_40 : decode cX3_goOn 40 = .ok (.iload 6, 2) := by decide +kernel
theorem dX3_goOn_42 : decode cX3_goOn 42 = .ok (.aload_n 1, 1) := by decide +kernel
theorem dX3_goOn_43 : decode cX3_goOn 43 = .ok (.getfield 51, 3) := by decide +kernel
theorem dX3_goOn_46 : decode cX3_goOn 46 = .ok (.if_icmp .ge 51, 3) := by decide +kernel
theorem dX3_goOn_49 : decode cX3_goOn 49 = .ok (.iload_n 2, 1) := by decide +kernel
theorem dX3_goOn_50 : decode cX3_goOn 50 = .ok (.iload 6, 2) := by decide +kernel
theorem dX3_goOn_52 : decode cX3_goOn 52 = .ok (.ishr, 1) := by decide +kernel
theorem dX3_goOn_53 : decode cX3_goOn 53 = .ok (.iconst 1, 1) := by decide +kernel
theorem dX3_goOn_54 : decode cX3_goOn 54 = .ok (.iand, 1) := by decide +kernel
theorem dX3_goOn_55 : decode cX3_goOn 55 = .ok (.ifCond .eq 36, 3) := by decide +kernel
theorem dX3_goOn_58 : decode cX3_goOn 58 = .ok (.aload_n 0, 1) := by decide +kernel
theorem dX3_goOn_59 : decode cX3_goOn 59 = .ok (.aload_n 1, 1) := by decide +kernel
theorem dX3_goOn_6 : decode cX3_goOn 6 = .ok (.aload_n 1, 1) := by decide +kernel
theorem dX3_goOn_60 : decode cX3_goOn 60 = .ok (.iload_n 2, 1) := by decide +kernel
theorem dX3_goOn_61 : decode cX3_goOn 61 = .ok (.iconst 1, 1) := by decide +kernel
theorem dX3_goOn_62 : decode cX3_goOn 62 = .ok (.iload 6, 2) := by decide +kernel
theorem dX3_goOn_64 : decode cX3_goOn 64 = .ok (.ishl, 1) := by decide +kernel
theorem dX3_goOn_65 : decode cX3_goOn 65 = .ok (.iconst (-1), 1) := by decide +kernel
theorem dX3_goOn_66 : decode cX3_goOn 66 = .ok (.ixor, 1) := by decide +kernel
theorem dX3_goOn_67 : decode cX3_goOn 67 = .ok (.iand, 1) := by decide +kernel
theorem dX3_goOn_68 : decode cX3_goOn 68 = .ok (.iload 6, 2) := by decide +kernel
theorem dX3_goOn_7 : decode cX3_goOn 7 = .ok (.iload_n 3, 1) := by decide +kernel
theorem dX3_goOn_70 : decode cX3_goOn 70 = .ok (.iload 4, 2) := by decide +kernel
theorem dX3_goOn_72 : decode cX3_goOn 72 = .ok (.aload_n 1, 1) := by decide +kernel
theorem dX3_goOn_73 : decode cX3_goOn 73 = .ok (.iload_n 3, 1) := by decide +kernel
theorem dX3_goOn_74 : decode cX3_goOn 74 = .ok (.iload 6, 2) := by decide +kernel
theorem dX3_goOn_76 : decode cX3_goOn 76 = .ok (.invokestatic 63, 3) := by decide +kernel
theorem dX3_goOn_79 : decode cX3_goOn 79 = .ok (.iadd, 1) := by decide +kernel
theorem dX3_goOn_8 : decode cX3_goOn 8 = .ok (.iconst (-1), 1) := by decide +kernel
theorem dX3_goOn_80 : decode cX3_goOn 80 = .ok (.iload 5, 2) := by decide +kernel
theorem dX3_goOn_82 : decode cX3_goOn 82 = .ok (.bipush 10, 2) := by decide +kernel
theorem dX3_goOn_84 : decode cX3_goOn 84 = .ok (.imul, 1) := by decide +kernel
theorem dX3_goOn_85 : decode cX3_goOn 85 = .ok (.iload 6, 2) := by decide +kernel
theorem dX3_goOn_87 : decode cX3_goOn 87 = .ok (.iadd, 1) := by decide +kernel
theorem dX3_goOn_88 : decode cX3_goOn 88 = .ok (.invokevirtual 59, 3) := by decide +kernel
theorem dX3_goOn_9 : decode cX3_goOn 9 = .ok (.invokestatic 63, 3) := by decide +kernel
theorem dX3_goOn_91 : decode cX3_goOn 91 = .ok (.iinc 6 1, 3) := by decide +kernel
theorem dX3_goOn_94 : decode cX3_goOn 94 = .ok (.goto (-54), 3) := by decide +kernel
theorem dX3_goOn_97 : decode cX3_goOn 97 = .ok (.return_, 1) := by decide +kernel
def GOC : List Cond := ([.methodLink RX3 59 yX3_goOn, .instanceMethod yX3_goOn, .selects RX3 yX3_goOn yX3_goOn, .initialized RX3, .code yX3_goOn cX3_goOn 7 none, .fieldLink RX3 33 "KerbSplash$Orders" "least" "I", .fieldLink RX3 36 "KerbSplash$Orders" "order" "I"] : List Cond) ++ ((wsX60) ++ ((va_wsS RX3 63 yX3_steps vs_o_steps) ++ ((wsX30) ++ ([]))))
theorem gd_GOC : GOC.all goodWord = true := gd_A (by decide +kernel) (gd_A (by decide +kernel) (gd_A (gd_S gd_o_steps (by decide +kernel)) (gd_A (by decide +kernel) rfl)))
def vs_o_goOn : List Cond := .code yX3_goOn cX3_goOn 7 none :: GOC
theorem gd_o_goOn : vs_o_goOn.all goodWord = true := gd_C (by decide +kernel) gd_GOC
def GO (l : Launch) (D : va_G) (cy : Nat → ClassId) (sa : Nat → Nat) (d : Nat) : Prop := (∀ (or_ be : Nat) (late lea ord : Int) (sA s2 s3 s6 s8 s11 s13 : Nat) (wi ro dr dt pe gu sh wo dn mi fl tk go : Int) (df : Nat → Int32) (lf ls_ fa gn : Int) (sz : Nat) (hr_late : (-2147483648) ≤ late ∧ late ≤ 2147483647) (hr_lea : (-2147483648) ≤ lea ∧ lea ≤ 2147483647) (hr_ord : (-2147483648) ≤ ord ∧ ord ≤ 2147483647) (hr_wi : 0 ≤ wi ∧ wi ≤ 16) (hr_ro : 0 ≤ ro ∧ ro ≤ 6) (hr_dr : 0 ≤ dr ∧ dr ≤ 14) (hr_dt : 0 ≤ dt ∧ dt ≤ 6) (hr_pe : 0 ≤ pe ∧ pe ≤ 8) (hr_gu : 0 ≤ gu ∧ gu ≤ 20) (hr_sh : 0 ≤ sh ∧ sh ≤ 2) (hr_wo : 0 ≤ wo ∧ wo ≤ 8) (hr_dn : (-2147483648) ≤ dn ∧ dn ≤ 2147483647) (hr_mi : 0 ≤ mi ∧ mi ≤ 600) (hr_fl : (-2147483648) ≤ fl ∧ fl ≤ 2147483647) (hr_tk : (-2147483648) ≤ tk ∧ tk ≤ 2147483647) (hr_go : (-2147483648) ≤ go ∧ go ≤ 2147483647) (hr_lf : 0 ≤ lf ∧ lf ≤ 63) (hr_ls_ : (-1) ≤ ls_ ∧ ls_ ≤ 13) (hr_fa : (-2147483648) ≤ fa ∧ fa ≤ 2147483647) (hr_gn : (-2147483648) ≤ gn ∧ gn ≤ 2147483647) (hdf : tab_ 4 14 [0, 0, 0, 0] [15, 5, 99, 16] df) (hlev : lf < ((d : Nat) : Int)), Met l yX3_goOn vs_o_goOn ({ frames := 3 * (d) + 0, cells := 0, slots := 0, locals := 150 * (d) + 0 }) (va_Pc [vR or_, vR sA, vI lf, vI ls_, vI fa, vI gn] (pcW D cy sa sz [zO or_ 3 [vI late, vI lea, vI ord, vR be], zO sA 6 [vI wi, vI ro, vR s2, vR s3, vI dr, vI dt, vR s6, vI pe, vR s8, vI gu, vI sh, vR s11, vI wo, vR s13, vI dn, vI mi, vI fl, vI tk, vI go], zI s6 (cy 0) 56 df])) (va_Qv (fun u : SV => ((-2147483648) ≤ u.2.1 0 ∧ u.2.1 0 ≤ 2147483647) ∧ ((-2147483648) ≤ u.2.1 1 ∧ u.2.1 1 ≤ 2147483647) ∧ tab_ 4 14 [0, 0, 0, 0] [15, 5, 99, 16] df) (fun u t => atW D (va_A [zO or_ 3 [vI late, vI lea, vI ord, vR be], zO sA 6 [vI wi, vI ro, vR s2, vR s3, vI dr, vI dt, vR s6, vI pe, vR s8, vI gu, vI sh, vR s11, vI wo, vR s13, vI dn, vI mi, vI fl, vI tk, vI go], zI s6 (cy 0) 56 df] sz) [zO or_ 3 [vI late, vI (u.2.1 0), vI (u.2.1 1), vR be], zO sA 6 [vI wi, vI ro, vR s2, vR s3, vI dr, vI dt, vR s6, vI pe, vR s8, vI gu, vI sh, vR s11, vI wo, vR s13, vI dn, vI mi, vI fl, vI tk, vI go], zI s6 (cy 0) 56 df] t) (va_A [zO or_ 3 [vI late, vI lea, vI ord, vR be], zO sA 6 [vI wi, vI ro, vR s2, vR s3, vI dr, vI dt, vR s6, vI pe, vR s8, vI gu, vI sh, vR s11, vI wo, vR s13, vI dn, vI mi, vI fl, vI tk, vI go], zI s6 (cy 0) 56 df] sz)) 0 0 (va_A [zO or_ 3 [vI late, vI lea, vI ord, vR be], zO sA 6 [vI wi, vI ro, vR s2, vR s3, vI dr, vI dt, vR s6, vI pe, vR s8, vI gu, vI sh, vR s11, vI wo, vR s13, vI dn, vI mi, vI fl, vI tk, vI go], zI s6 (cy 0) 56 df] sz))
set_option maxHeartbeats 4000000 in
set_option maxRecDepth 100000 in
theorem o_goOn_step (l : Launch) (hl : l.stackTraces = false) (D : va_G) (cy : Nat → ClassId) (sa : Nat → Nat) (d : Nat) (IH : GO l D cy sa d) (or_ be : Nat) (late lea ord : Int) (sA s2 s3 s6 s8 s11 s13 : Nat) (wi ro dr dt pe gu sh wo dn mi fl tk go : Int) (df : Nat → Int32) (lf ls_ fa gn : Int) (sz : Nat) (hr_late : (-2147483648) ≤ late ∧ late ≤ 2147483647) (hr_lea : (-2147483648) ≤ lea ∧ lea ≤ 2147483647) (hr_ord : (-2147483648) ≤ ord ∧ ord ≤ 2147483647) (hr_wi : 0 ≤ wi ∧ wi ≤ 16) (hr_ro : 0 ≤ ro ∧ ro ≤ 6) (hr_dr : 0 ≤ dr ∧ dr ≤ 14) (hr_dt : 0 ≤ dt ∧ dt ≤ 6) (hr_pe : 0 ≤ pe ∧ pe ≤ 8) (hr_gu : 0 ≤ gu ∧ gu ≤ 20) (hr_sh : 0 ≤ sh ∧ sh ≤ 2) (hr_wo : 0 ≤ wo ∧ wo ≤ 8) (hr_dn : (-2147483648) ≤ dn ∧ dn ≤ 2147483647) (hr_mi : 0 ≤ mi ∧ mi ≤ 600) (hr_fl : (-2147483648) ≤ fl ∧ fl ≤ 2147483647) (hr_tk : (-2147483648) ≤ tk ∧ tk ≤ 2147483647) (hr_go : (-2147483648) ≤ go ∧ go ≤ 2147483647) (hr_lf : 0 ≤ lf ∧ lf ≤ 63) (hr_ls_ : (-1) ≤ ls_ ∧ ls_ ≤ 13) (hr_fa : (-2147483648) ≤ fa ∧ fa ≤ 2147483647) (hr_gn : (-2147483648) ≤ gn ∧ gn ≤ 2147483647) (hdf : tab_ 4 14 [0, 0, 0, 0] [15, 5, 99, 16] df) (hlev : lf < ((d + 1 : Nat) : Int)) : Met l yX3_goOn vs_o_goOn ({ frames := 3 * (d + 1) + 0, cells := 0, slots := 0, locals := 150 * (d + 1) + 0 }) (va_Pc [vR or_, vR sA, vI lf, vI ls_, vI fa, vI gn] (pcW D cy sa sz [zO or_ 3 [vI late, vI lea, vI ord, vR be], zO sA 6 [vI wi, vI ro, vR s2, vR s3, vI dr, vI dt, vR s6, vI pe, vR s8, vI gu, vI sh, vR s11, vI wo, vR s13, vI dn, vI mi, vI fl, vI tk, vI go], zI s6 (cy 0) 56 df])) (va_Qv (fun u : SV => ((-2147483648) ≤ u.2.1 0 ∧ u.2.1 0 ≤ 2147483647) ∧ ((-2147483648) ≤ u.2.1 1 ∧ u.2.1 1 ≤ 2147483647) ∧ tab_ 4 14 [0, 0, 0, 0] [15, 5, 99, 16] df) (fun u t => atW D (va_A [zO or_ 3 [vI late, vI lea, vI ord, vR be], zO sA 6 [vI wi, vI ro, vR s2, vR s3, vI dr, vI dt, vR s6, vI pe, vR s8, vI gu, vI sh, vR s11, vI wo, vR s13, vI dn, vI mi, vI fl, vI tk, vI go], zI s6 (cy 0) 56 df] sz) [zO or_ 3 [vI late, vI (u.2.1 0), vI (u.2.1 1), vR be], zO sA 6 [vI wi, vI ro, vR s2, vR s3, vI dr, vI dt, vR s6, vI pe, vR s8, vI gu, vI sh, vR s11, vI wo, vR s13, vI dn, vI mi, vI fl, vI tk, vI go], zI s6 (cy 0) 56 df] t) (va_A [zO or_ 3 [vI late, vI lea, vI ord, vR be], zO sA 6 [vI wi, vI ro, vR s2, vR s3, vI dr, vI dt, vR s6, vI pe, vR s8, vI gu, vI sh, vR s11, vI wo, vR s13, vI dn, vI mi, vI fl, vI tk, vI go], zI s6 (cy 0) 56 df] sz)) 0 0 (va_A [zO or_ 3 [vI late, vI lea, vI ord, vR be], zO sA 6 [vI wi, vI ro, vR s2, vR s3, vI dr, vI dt, vR s6, vI pe, vR s8, vI gu, vI sh, vR s11, vI wo, vR s13, vI dn, vI mi, vI fl, vI tk, vI go], zI s6 (cy 0) 56 df] sz) := by
  refine Met.ofW (cc := cX3_goOn) (maxL := 7) (ret := none) (by decide) rfl ?_
  intro p e s m args below meth c s₁ B hml hv
  obtain ⟨rfl, hsz, hP, hG, hD0, hT⟩ := hv
  have hx := B.exec
  have hb := B.bytes
  have hr := B.returns
  have hts := atoms_spec (ws := vs_o_goOn) B.pre
  have hown : s.vm.findClass RX3 = some m.cls := findClass_of_methodNamed B.named
  have hlocks := B.notSynchronized
  subst hsz
  have hD := hD0.self (sz := s.heap.size)
  generalize hAe : va_A [zO or_ 3 [vI late, vI lea, vI ord, vR be], zO sA 6 [vI wi, vI ro, vR s2, vR s3, vI dr, vI dt, vR s6, vI pe, vR s8, vI gu, vI sh, vR s11, vI wo, vR s13, vI dn, vI mi, vI fl, vI tk, vI go], zI s6 (cy 0) 56 df] s.heap.size = A at hD hT ⊢
  have hA : ∀ q : Nat, s.heap.size ≤ q → A q := fun q h => by rw [← hAe]; exact Or.inr h
  have hS : va_S A s.heap s.heap [] := va_S.rf
  have hl0 := lv_entry ([vR or_, vR sA, vI lf, vI ls_, vI fa, vI gn]) (n := 7) (Nat.le_of_ble_eq_true rfl)
  rw [lg_entry_eq]
  generalize (lg_sl ([vR or_, vR sA, vI lf, vI ls_, vI fa, vI gn]) ++ List.replicate (7 - (lg_sl ([vR or_, vR sA, vI lf, vI ls_, vI fa, vI gn])).length) Slot.unset).toArray = ls at hl0 ⊢
  have hlv : lv_has ls 7 [(0, vR or_), (1, vR sA), (2, vI lf), (3, vI ls_), (4, vI fa), (5, vI gn)] := hl0
  have hi6 : ∀ w ∈ wsX60, w ∈ vs_o_goOn := fun w h => List.mem_cons_of_mem _ (List.mem_append_right _ (List.mem_append_left _ h))
  have gg_1 : GoodIn vs_o_goOn (va_wsS RX3 63 yX3_steps vs_o_steps) := goodIn_sub (fun w h => List.mem_cons_of_mem _ (List.mem_append_right _ (List.mem_append_right _ (List.mem_append_left _ h)))) (gd_S gd_o_steps (by decide +kernel))
  have gh_X3_goOn_59 : GoodIn vs_o_goOn (wsV RX3 59 RX3 yX3_goOn vs_o_goOn) := goodIn_sub (gsub_V (List.mem_append_left _ (List.mem_of_getElem? (i := 0) rfl)) (List.mem_append_left _ (List.mem_of_getElem? (i := 1) rfl)) (List.mem_append_left _ (List.mem_of_getElem? (i := 2) rfl)) (List.mem_append_left _ (List.mem_of_getElem? (i := 3) rfl)) (List.mem_append_left _ (List.mem_of_getElem? (i := 4) rfl))) (gd_V (gd_C (by decide +kernel) gd_GOC) (by decide +kernel))
  have lf33 := hts (.fieldLink RX3 33 "KerbSplash$Orders" "least" "I") (List.mem_of_getElem? (i := 6) rfl)
  have hi3 : ∀ w ∈ wsX30, w ∈ vs_o_goOn := fun w h => List.mem_cons_of_mem _ (List.mem_append_right _ (List.mem_append_right _ (List.mem_append_right _ (List.mem_append_left _ h))))
  have lf36 := hts (.fieldLink RX3 36 "KerbSplash$Orders" "order" "I") (List.mem_of_getElem? (i := 7) rfl)
  refine lv_iload_n hx hb dX3_goOn_0 rfl (lv_at hlv 2 rfl) ?_
  refine iz_ne (tgt := 37) hx hb dX3_goOn_1 (by decide) (by first | exact rgw hr_lf (by decide) (by decide) | omega) (fun c_1 => ?_) (fun c_1 => ?_)
  · refine lv_iconst (v := iI 0) hx hb dX3_goOn_37 (by decide) ?_
    refine lv_istore (lv' := [(6, vI 0), (0, vR or_), (1, vR sA), (2, vI lf), (3, vI ls_), (4, vI fa), (5, vI gn)]) hx hb dX3_goOn_38 hlv (by decide) rfl (fun ls hlv => ?_)
    refine (?_ : ∀ (fu : Nat) (q6 : Int) (ql : Int) (qo : Int) (H : Heap) (locs : List Loc) (ls : Array Slot), 6 - q6 < (fu : Int) → (0 ≤ q6 ∧ q6 ≤ 6) → ((-2147483648) ≤ ql ∧ ql ≤ 2147483647) → ((-2147483648) ≤ qo ∧ qo ≤ 2147483647) → va_P D vwCl [zO or_ 3 [vI late, vI ql, vI qo, vR be], zO sA 6 [vI wi, vI ro, vR s2, vR s3, vI dr, vI dt, vR s6, vI pe, vR s8, vI gu, vI sh, vR s11, vI wo, vR s13, vI dn, vI mi, vI fl, vI tk, vI go], zI s6 (cy 0) 56 df] H → va_D A [zO or_ 3 [vI late, vI ql, vI qo, vR be], zO sA 6 [vI wi, vI ro, vR s2, vR s3, vI dr, vI dt, vR s6, vI pe, vR s8, vI gu, vI sh, vR s11, vI wo, vR s13, vI dn, vI mi, vI fl, vI tk, vI go], zI s6 (cy 0) 56 df] → va_S A s.heap H locs → lv_has ls 7 [(6, vI q6), (0, vR or_), (1, vR sA), (2, vI lf), (3, vI ls_), (4, vI fa), (5, vI gn)] → W p l e _ s m _ below meth c H locs _ _ _ (F0 m 40 ls [])) (((6 - 0) + 1 : Int)).toNat 0 lea ord _ _ _ (by omega) (by show (0 : Int) ≤ 0 ∧ (0 : Int) ≤ 6; decide) (by first | exact hr_lea | omega) (by first | exact hr_ord | omega)  hP hD hS hlv
    clear hP hD hS hlv
    intro fu
    induction fu with
    | zero => intro q6 ql qo H locs ls hm40 hl40_0 hl40_1 hl40_2  hP hD hS hlv; omega
    | succ fu ih40 =>
      intro q6 ql qo H locs ls hm40 hl40_0 hl40_1 hl40_2  hP hD hS hlv
      refine lv_iload hx hb dX3_goOn_40 (lv_at hlv 0 rfl) ?_
      refine lv_aload_n hx hb dX3_goOn_42 rfl (lv_at hlv 2 rfl) ?_
      refine va_getN (D := D) (ci := 6) (v := vI dt) (C := RX6) (T := TX6) (N := 19) hx hb hts hi6 hown hG.1 hP 1 rfl rfl 5 (by decide) (va_Nw.use rfl (nF_Orders_51 hG.2.1)) (fun _ h9 => h9) rfl dX3_goOn_43 ?_
      refine ir_ge (tgt := 97) hx hb dX3_goOn_46 (by decide) (by first | exact rgw hl40_0 (by decide) (by decide) | omega) (by first | exact rgw hr_dt (by decide) (by decide) | omega) (fun c_2 => ?_) (fun c_2 => ?_)
      · refine W.widen (k := 0) (n := 0) (Nat.le_of_ble_eq_true rfl) (Nat.le_of_ble_eq_true rfl) ?_
        exact W.vret hx hb hr (fun t ht hW => ⟨⟨((fun k => ([] : List Nat).getD k 0), (fun k => ([ql, qo] : List Int).getD k 0), (fun k => ([] : List (Nat → Int32)).getD k (fun _ => 0))), rfl, ⟨(by show ((-2147483648) ≤ ql ∧ ql ≤ 2147483647); first | exact hl40_1 | omega), (by show ((-2147483648) ≤ qo ∧ qo ≤ 2147483647); first | exact hl40_2 | omega), hdf⟩, by rw [ht]; exact hP.sub [0, 1, 2] rfl, hD.sub [0, 1, 2] (by decide) rfl⟩, hS.F ht⟩) hS.2.2 dX3_goOn_97
      · refine lv_iload_n hx hb dX3_goOn_49 rfl (lv_at hlv 3 rfl) ?_
        refine lv_iload hx hb dX3_goOn_50 (lv_at hlv 0 rfl) ?_
        refine lv_ishr hx hb dX3_goOn_52 ?_
        refine lt_z (fun z_3 ez_3 lz_3 hz_3 => ?_)
        refine lv_iconst (v := iI 1) hx hb dX3_goOn_53 (by decide) ?_
        refine lv_iand hx hb dX3_goOn_54 ?_
        refine lt_aE 1 (by decide) (by decide) (hi := 1) (by decide) (fun z_4 ez_4 lz_4 hz_4 => ?_)
        refine iz_eq (tgt := 91) hx hb dX3_goOn_55 (by decide) (by omega) (fun c_5 => ?_) (fun c_5 => ?_)
        · obtain ⟨z_6, hz_6⟩ : ∃ z : Int, z = q6 + 1 := ⟨_, rfl⟩
          refine lv_iinc (v := iI z_6) (lv' := [(6, vI z_6), (0, vR or_), (1, vR sA), (2, vI lf), (3, vI ls_), (4, vI fa), (5, vI gn)]) hx hb dX3_goOn_91 hlv (k := 0) rfl (by rw [hz_6]; exact (Int32.ofInt_add _ _).symm) (by decide) rfl (fun ls hlv => ?_)
          refine lv_goto (tgt := 40) hx hb dX3_goOn_94 (by decide) ?_
          exact ih40 z_6 ql qo H locs ls (by omega) (by omega) (by first | exact hl40_1 | omega) (by first | exact hl40_2 | omega)  (hP.sub [0, 1, 2] rfl) (hD.sub [0, 1, 2] (by decide) rfl) hS (lv_sub hlv [0, 1, 2, 3, 4, 5, 6] rfl)
        · refine lv_aload_n hx hb dX3_goOn_58 rfl (lv_at hlv 1 rfl) ?_
          refine lv_aload_n hx hb dX3_goOn_59 rfl (lv_at hlv 2 rfl) ?_
          refine lv_iload_n hx hb dX3_goOn_60 rfl (lv_at hlv 3 rfl) ?_
          refine lv_iconst (v := iI 1) hx hb dX3_goOn_61 (by decide) ?_
          refine lv_iload hx hb dX3_goOn_62 (lv_at hlv 0 rfl) ?_
          refine lv_ishl hx hb dX3_goOn_64 ?_
          refine lt_sh2 (n := 5) (M := 32) (by decide) (by decide) (by omega) (fun z_7 ez_7 lz_7 hz_7 => ?_)
          refine lv_iconst (v := iI (-1)) hx hb dX3_goOn_65 (by decide) ?_
          refine lv_ixor hx hb dX3_goOn_66 ?_
          refine lt_z (fun z_8 ez_8 lz_8 hz_8 => ?_)
          refine lv_iand hx hb dX3_goOn_67 ?_
          obtain ⟨z_9, ez_9, lz_9, hz_9⟩ := go_dec2 (a := lf) (k := q6) (by omega) (by omega) ez_7 ez_8 ez_3 ez_4 (by omega) (by omega)
          refine lt_i (y := iI z_9) ez_9 ?_
          refine lv_iload hx hb dX3_goOn_68 (lv_at hlv 0 rfl) ?_
          refine lv_iload hx hb dX3_goOn_70 (lv_at hlv 5 rfl) ?_
          refine lv_aload_n hx hb dX3_goOn_72 rfl (lv_at hlv 2 rfl) ?_
          refine lv_iload_n hx hb dX3_goOn_73 rfl (lv_at hlv 4 rfl) ?_
          refine lv_iload hx hb dX3_goOn_74 (lv_at hlv 0 rfl) ?_
          refine cj_i (wr := [zO or_ 3 [vI late, vI ql, vI qo, vR be]]) (va_runS (As := [vR sA, vI ls_, vI q6]) (rest := [vI fa, vI q6, vI z_9, vR sA, vR or_]) ⟨hx, hb, hml, hown, hts⟩ (o_steps l hl D cy sa sA s2 s3 s6 s8 s11 s13 wi ro dr dt pe gu sh wo dn mi fl tk go df ls_ q6 H.size (by first | exact hr_wi | omega) (by first | exact hr_ro | omega) (by first | exact hr_dr | omega) (by first | exact hr_dt | omega) (by first | exact hr_pe | omega) (by first | exact hr_gu | omega) (by first | exact hr_sh | omega) (by first | exact hr_wo | omega) (by first | exact hr_dn | omega) (by first | exact hr_mi | omega) (by first | exact hr_fl | omega) (by first | exact hr_tk | omega) (by first | exact hr_go | omega) (by first | exact hr_ls_ | omega) (by first | exact rgw hl40_0 (by decide) (by decide) | omega) hdf) (va_cwS 3 hts gg_1 rfl rfl rfl (by decide +kernel) ⟨by dsimp only [headSpec]; omega, by dsimp only [headSpec]; omega⟩) ⟨pcW.blind, (pcW.mk hP hD hS hA hG hT [1, 2] rfl (by decide))⟩ rfl rfl hlv.1 rfl (lv_room (Nat.le_of_ble_eq_true rfl)) dX3_goOn_76 ⟨Nat.le_of_ble_eq_true rfl, Nat.le_of_ble_eq_true rfl⟩) hP hD hS hA [1, 2] [0] rfl rfl (by decide) (by decide) (fun r1 u1 H locs hw1 hP hD hS => ?_)
          obtain ⟨rfl, hq1_1, hq1_2⟩ := hw1
          have hP : va_P D vwCl [zO or_ 3 [vI late, vI ql, vI qo, vR be], zO sA 6 [vI wi, vI ro, vR s2, vR s3, vI dr, vI dt, vR s6, vI pe, vR s8, vI gu, vI sh, vR s11, vI wo, vR s13, vI dn, vI mi, vI fl, vI tk, vI go], zI s6 (cy 0) 56 df] H := hP
          have hD : va_D A [zO or_ 3 [vI late, vI ql, vI qo, vR be], zO sA 6 [vI wi, vI ro, vR s2, vR s3, vI dr, vI dt, vR s6, vI pe, vR s8, vI gu, vI sh, vR s11, vI wo, vR s13, vI dn, vI mi, vI fl, vI tk, vI go], zI s6 (cy 0) 56 df] := hD
          refine lv_iadd hx hb dX3_goOn_79 ?_
          refine lt_z (fun z_10 ez_10 lz_10 hz_10 => ?_)
          refine lv_iload hx hb dX3_goOn_80 (lv_at hlv 6 rfl) ?_
          refine lv_bipush (v := iI 10) hx hb dX3_goOn_82 (by decide) ?_
          refine lv_imul hx hb dX3_goOn_84 ?_
          refine lt_z (fun z_11 ez_11 lz_11 hz_11 => ?_)
          refine lv_iload hx hb dX3_goOn_85 (lv_at hlv 0 rfl) ?_
          refine lv_iadd hx hb dX3_goOn_87 ?_
          refine lt_z (fun z_12 ez_12 lz_12 hz_12 => ?_)
          refine cj_v (wr := []) (va_runV (As := [vR sA, vI z_9, vI q6, vI z_10, vI z_12]) (rest := []) ⟨hx, hb, hml, hown, hts⟩ (IH or_ be late ql qo sA s2 s3 s6 s8 s11 s13 wi ro dr dt pe gu sh wo dn mi fl tk go df z_9 q6 z_10 z_12 H.size (by first | exact hr_late | omega) (by first | exact hl40_1 | omega) (by first | exact hl40_2 | omega) (by first | exact hr_wi | omega) (by first | exact hr_ro | omega) (by first | exact hr_dr | omega) (by first | exact hr_dt | omega) (by first | exact hr_pe | omega) (by first | exact hr_gu | omega) (by first | exact hr_sh | omega) (by first | exact hr_wo | omega) (by first | exact hr_dn | omega) (by first | exact hr_mi | omega) (by first | exact hr_fl | omega) (by first | exact hr_tk | omega) (by first | exact hr_go | omega) (by omega) (by first | exact rgw hl40_0 (by decide) (by decide) | omega) (by omega) (by omega) hq1_2 (by omega)) (cwV 5 hts gh_X3_goOn_59 rfl rfl rfl (by decide +kernel) ⟨by dsimp only [headSpec]; omega, by dsimp only [headSpec]; omega⟩) ⟨pcW.blind, (va_recv hG.1 hP (ci := 3) (q0 := 0) rfl rfl), (pcW.mk hP hD hS hA hG hT [0, 1, 2] rfl (by decide))⟩ rfl rfl hlv.1 rfl (lv_room (Nat.le_of_ble_eq_true rfl)) dX3_goOn_88 ⟨Nat.le_of_ble_eq_true rfl, Nat.le_of_ble_eq_true rfl⟩) hP hD hS hA [0, 1, 2] [] rfl rfl (by decide) (by decide) (fun u2 H locs hw2 hP hD hS => ?_)
          obtain ⟨hq2_0, hq2_1, hq2_2⟩ := hw2
          have hP : va_P D vwCl [zO or_ 3 [vI late, vI (u2.2.1 0), vI (u2.2.1 1), vR be], zO sA 6 [vI wi, vI ro, vR s2, vR s3, vI dr, vI dt, vR s6, vI pe, vR s8, vI gu, vI sh, vR s11, vI wo, vR s13, vI dn, vI mi, vI fl, vI tk, vI go], zI s6 (cy 0) 56 df] H := hP
          have hD : va_D A [zO or_ 3 [vI late, vI (u2.2.1 0), vI (u2.2.1 1), vR be], zO sA 6 [vI wi, vI ro, vR s2, vR s3, vI dr, vI dt, vR s6, vI pe, vR s8, vI gu, vI sh, vR s11, vI wo, vR s13, vI dn, vI mi, vI fl, vI tk, vI go], zI s6 (cy 0) 56 df] := hD
          obtain ⟨z_13, hz_13⟩ : ∃ z : Int, z = q6 + 1 := ⟨_, rfl⟩
          refine lv_iinc (v := iI z_13) (lv' := [(6, vI z_13), (0, vR or_), (1, vR sA), (2, vI lf), (3, vI ls_), (4, vI fa), (5, vI gn)]) hx hb dX3_goOn_91 hlv (k := 0) rfl (by rw [hz_13]; exact (Int32.ofInt_add _ _).symm) (by decide) rfl (fun ls hlv => ?_)
          refine lv_goto (tgt := 40) hx hb dX3_goOn_94 (by decide) ?_
          exact ih40 z_13 (u2.2.1 0) (u2.2.1 1) H locs ls (by omega) (by omega) (by first | exact hq2_0 | omega) (by first | exact hq2_1 | omega)  (hP.sub [0, 1, 2] rfl) (hD.sub [0, 1, 2] (by decide) rfl) hS (lv_sub hlv [0, 1, 2, 3, 4, 5, 6] rfl)
  · refine lv_iload hx hb dX3_goOn_4 (lv_at hlv 4 rfl) ?_
    refine lv_aload_n hx hb dX3_goOn_6 rfl (lv_at hlv 1 rfl) ?_
    refine lv_iload_n hx hb dX3_goOn_7 rfl (lv_at hlv 3 rfl) ?_
    refine lv_iconst (v := iI (-1)) hx hb dX3_goOn_8 (by decide) ?_
    refine cj_i (wr := [zO or_ 3 [vI late, vI lea, vI ord, vR be]]) (va_runS (As := [vR sA, vI ls_, vI (-1)]) (rest := [vI fa]) ⟨hx, hb, hml, hown, hts⟩ (o_steps l hl D cy sa sA s2 s3 s6 s8 s11 s13 wi ro dr dt pe gu sh wo dn mi fl tk go df ls_ (-1) s.heap.size (by first | exact hr_wi | omega) (by first | exact hr_ro | omega) (by first | exact hr_dr | omega) (by first | exact hr_dt | omega) (by first | exact hr_pe | omega) (by first | exact hr_gu | omega) (by first | exact hr_sh | omega) (by first | exact hr_wo | omega) (by first | exact hr_dn | omega) (by first | exact hr_mi | omega) (by first | exact hr_fl | omega) (by first | exact hr_tk | omega) (by first | exact hr_go | omega) (by first | exact hr_ls_ | omega) (by show ((-1) : Int) ≤ (-1) ∧ ((-1) : Int) ≤ 13; decide) hdf) (va_cwS 3 hts gg_1 rfl rfl rfl (by decide +kernel) ⟨by dsimp only [headSpec]; omega, by dsimp only [headSpec]; omega⟩) ⟨pcW.blind, (pcW.mk hP hD hS hA hG hT [1, 2] rfl (by decide))⟩ rfl rfl hlv.1 rfl (lv_room (Nat.le_of_ble_eq_true rfl)) dX3_goOn_9 ⟨Nat.le_of_ble_eq_true rfl, Nat.le_of_ble_eq_true rfl⟩) hP hD hS hA [1, 2] [0] rfl rfl (by decide) (by decide) (fun r3 u3 H locs hw3 hP hD hS => ?_)
    obtain ⟨rfl, hq3_1, hq3_2⟩ := hw3
    have hP : va_P D vwCl [zO or_ 3 [vI late, vI lea, vI ord, vR be], zO sA 6 [vI wi, vI ro, vR s2, vR s3, vI dr, vI dt, vR s6, vI pe, vR s8, vI gu, vI sh, vR s11, vI wo, vR s13, vI dn, vI mi, vI fl, vI tk, vI go], zI s6 (cy 0) 56 df] H := hP
    have hD : va_D A [zO or_ 3 [vI late, vI lea, vI ord, vR be], zO sA 6 [vI wi, vI ro, vR s2, vR s3, vI dr, vI dt, vR s6, vI pe, vR s8, vI gu, vI sh, vR s11, vI wo, vR s13, vI dn, vI mi, vI fl, vI tk, vI go], zI s6 (cy 0) 56 df] := hD
    refine lv_iadd hx hb dX3_goOn_12 ?_
    refine lt_z (fun z_14 ez_14 lz_14 hz_14 => ?_)
    refine lv_istore (lv' := [(6, vI z_14), (0, vR or_), (1, vR sA), (2, vI lf), (3, vI ls_), (4, vI fa), (5, vI gn)]) hx hb dX3_goOn_13 hlv (by decide) rfl (fun ls hlv => ?_)
    refine lv_iload hx hb dX3_goOn_15 (lv_at hlv 0 rfl) ?_
    refine lv_aload_n hx hb dX3_goOn_17 rfl (lv_at hlv 1 rfl) ?_
    refine va_get (D := D) (ci := 3) (v := vI lea) (C := RX3) (T := TX3) (N := 4) hx hb hts hi3 hown hG.1 hP 0 rfl rfl 1 (by decide) lf33 (fun _ h9 => h9) rfl dX3_goOn_18 ?_
    refine ir_ge (tgt := 36) hx hb dX3_goOn_21 (by decide) (by omega) (by first | exact hr_lea | omega) (fun c_15 => ?_) (fun c_15 => ?_)
    · refine W.widen (k := 0) (n := 0) (Nat.le_of_ble_eq_true rfl) (Nat.le_of_ble_eq_true rfl) ?_
      exact W.vret hx hb hr (fun t ht hW => ⟨⟨((fun k => ([] : List Nat).getD k 0), (fun k => ([lea, ord] : List Int).getD k 0), (fun k => ([] : List (Nat → Int32)).getD k (fun _ => 0))), rfl, ⟨(by show ((-2147483648) ≤ lea ∧ lea ≤ 2147483647); first | exact hr_lea | omega), (by show ((-2147483648) ≤ ord ∧ ord ≤ 2147483647); first | exact hr_ord | omega), hq3_2⟩, by rw [ht]; exact hP.sub [0, 1, 2] rfl, hD.sub [0, 1, 2] (by decide) rfl⟩, hS.F ht⟩) hS.2.2 dX3_goOn_36
    · refine lv_aload_n hx hb dX3_goOn_24 rfl (lv_at hlv 1 rfl) ?_
      refine lv_iload hx hb dX3_goOn_25 (lv_at hlv 0 rfl) ?_
      refine va_put (D := D) (ci := 3) (v := vI z_14) (ty := .int) (C := RX3) (T := TX3) (N := 4) hx hb hts hi3 tyX3 tyX3_ok nmX3 hown hG.1 hP hD hS 0 rfl rfl 1 (by decide) lf33 (fun _ h9 => h9) rfl (by decide +kernel) rfl rfl (Nat.le_of_ble_eq_true rfl) dX3_goOn_27 (fun H locs hP hD hS => ?_)
      have hP : va_P D vwCl [zO or_ 3 [vI late, vI z_14, vI ord, vR be], zO sA 6 [vI wi, vI ro, vR s2, vR s3, vI dr, vI dt, vR s6, vI pe, vR s8, vI gu, vI sh, vR s11, vI wo, vR s13, vI dn, vI mi, vI fl, vI tk, vI go], zI s6 (cy 0) 56 df] H := hP
      have hD : va_D A [zO or_ 3 [vI late, vI z_14, vI ord, vR be], zO sA 6 [vI wi, vI ro, vR s2, vR s3, vI dr, vI dt, vR s6, vI pe, vR s8, vI gu, vI sh, vR s11, vI wo, vR s13, vI dn, vI mi, vI fl, vI tk, vI go], zI s6 (cy 0) 56 df] := hD
      refine lv_aload_n hx hb dX3_goOn_30 rfl (lv_at hlv 1 rfl) ?_
      refine lv_iload hx hb dX3_goOn_31 (lv_at hlv 6 rfl) ?_
      refine va_put (D := D) (ci := 3) (v := vI gn) (ty := .int) (C := RX3) (T := TX3) (N := 4) hx hb hts hi3 tyX3 tyX3_ok nmX3 hown hG.1 hP hD hS 0 rfl rfl 2 (by decide) lf36 (fun _ h9 => h9) rfl (by decide +kernel) rfl rfl (Nat.le_of_ble_eq_true rfl) dX3_goOn_33 (fun H locs hP hD hS => ?_)
      have hP : va_P D vwCl [zO or_ 3 [vI late, vI z_14, vI gn, vR be], zO sA 6 [vI wi, vI ro, vR s2, vR s3, vI dr, vI dt, vR s6, vI pe, vR s8, vI gu, vI sh, vR s11, vI wo, vR s13, vI dn, vI mi, vI fl, vI tk, vI go], zI s6 (cy 0) 56 df] H := hP
      have hD : va_D A [zO or_ 3 [vI late, vI z_14, vI gn, vR be], zO sA 6 [vI wi, vI ro, vR s2, vR s3, vI dr, vI dt, vR s6, vI pe, vR s8, vI gu, vI sh, vR s11, vI wo, vR s13, vI dn, vI mi, vI fl, vI tk, vI go], zI s6 (cy 0) 56 df] := hD
      refine W.widen (k := 0) (n := 0) (Nat.le_of_ble_eq_true rfl) (Nat.le_of_ble_eq_true rfl) ?_
      exact W.vret hx hb hr (fun t ht hW => ⟨⟨((fun k => ([] : List Nat).getD k 0), (fun k => ([z_14, gn] : List Int).getD k 0), (fun k => ([] : List (Nat → Int32)).getD k (fun _ => 0))), rfl, ⟨(by show ((-2147483648) ≤ z_14 ∧ z_14 ≤ 2147483647); omega), (by show ((-2147483648) ≤ gn ∧ gn ≤ 2147483647); first | exact hr_gn | omega), hq3_2⟩, by rw [ht]; exact hP.sub [0, 1, 2] rfl, hD.sub [0, 1, 2] (by decide) rfl⟩, hS.F ht⟩) hS.2.2 dX3_goOn_36
theorem GO_all (l : Launch) (hl : l.stackTraces = false) (D : va_G) (cy : Nat → ClassId) (sa : Nat → Nat) : ∀ d : Nat, GO l D cy sa d := by
  intro d
  induction d with
  | zero => exact fun or_ be late lea ord sA s2 s3 s6 s8 s11 s13 wi ro dr dt pe gu sh wo dn mi fl tk go df lf ls_ fa gn sz hr_late hr_lea hr_ord hr_wi hr_ro hr_dr hr_dt hr_pe hr_gu hr_sh hr_wo hr_dn hr_mi hr_fl hr_tk hr_go hr_lf hr_ls_ hr_fa hr_gn hdf hlev => by exfalso; omega
  | succ d ih => exact fun or_ be late lea ord sA s2 s3 s6 s8 s11 s13 wi ro dr dt pe gu sh wo dn mi fl tk go df lf ls_ fa gn sz hr_late hr_lea hr_ord hr_wi hr_ro hr_dr hr_dt hr_pe hr_gu hr_sh hr_wo hr_dn hr_mi hr_fl hr_tk hr_go hr_lf hr_ls_ hr_fa hr_gn hdf hlev => o_goOn_step l hl D cy sa d ih or_ be late lea ord sA s2 s3 s6 s8 s11 s13 wi ro dr dt pe gu sh wo dn mi fl tk go df lf ls_ fa gn sz hr_late hr_lea hr_ord hr_wi hr_ro hr_dr hr_dt hr_pe hr_gu hr_sh hr_wo hr_dn hr_mi hr_fl hr_tk hr_go hr_lf hr_ls_ hr_fa hr_gn hdf hlev
theorem o_goOn (l : Launch) (hl : l.stackTraces = false) (D : va_G) (cy : Nat → ClassId) (sa : Nat → Nat) (or_ be : Nat) (late lea ord : Int) (sA s2 s3 s6 s8 s11 s13 : Nat) (wi ro dr dt pe gu sh wo dn mi fl tk go : Int) (df : Nat → Int32) (lf ls_ fa gn : Int) (sz : Nat) (hr_late : (-2147483648) ≤ late ∧ late ≤ 2147483647) (hr_lea : (-2147483648) ≤ lea ∧ lea ≤ 2147483647) (hr_ord : (-2147483648) ≤ ord ∧ ord ≤ 2147483647) (hr_wi : 0 ≤ wi ∧ wi ≤ 16) (hr_ro : 0 ≤ ro ∧ ro ≤ 6) (hr_dr : 0 ≤ dr ∧ dr ≤ 14) (hr_dt : 0 ≤ dt ∧ dt ≤ 6) (hr_pe : 0 ≤ pe ∧ pe ≤ 8) (hr_gu : 0 ≤ gu ∧ gu ≤ 20) (hr_sh : 0 ≤ sh ∧ sh ≤ 2) (hr_wo : 0 ≤ wo ∧ wo ≤ 8) (hr_dn : (-2147483648) ≤ dn ∧ dn ≤ 2147483647) (hr_mi : 0 ≤ mi ∧ mi ≤ 600) (hr_fl : (-2147483648) ≤ fl ∧ fl ≤ 2147483647) (hr_tk : (-2147483648) ≤ tk ∧ tk ≤ 2147483647) (hr_go : (-2147483648) ≤ go ∧ go ≤ 2147483647) (hr_lf : 0 ≤ lf ∧ lf ≤ 63) (hr_ls_ : (-1) ≤ ls_ ∧ ls_ ≤ 13) (hr_fa : (-2147483648) ≤ fa ∧ fa ≤ 2147483647) (hr_gn : (-2147483648) ≤ gn ∧ gn ≤ 2147483647) (hdf : tab_ 4 14 [0, 0, 0, 0] [15, 5, 99, 16] df) : Met l yX3_goOn vs_o_goOn ({ frames := 192, cells := 0, slots := 0, locals := 9600 }) (va_Pc [vR or_, vR sA, vI lf, vI ls_, vI fa, vI gn] (pcW D cy sa sz [zO or_ 3 [vI late, vI lea, vI ord, vR be], zO sA 6 [vI wi, vI ro, vR s2, vR s3, vI dr, vI dt, vR s6, vI pe, vR s8, vI gu, vI sh, vR s11, vI wo, vR s13, vI dn, vI mi, vI fl, vI tk, vI go], zI s6 (cy 0) 56 df])) (va_Qv (fun u : SV => ((-2147483648) ≤ u.2.1 0 ∧ u.2.1 0 ≤ 2147483647) ∧ ((-2147483648) ≤ u.2.1 1 ∧ u.2.1 1 ≤ 2147483647) ∧ tab_ 4 14 [0, 0, 0, 0] [15, 5, 99, 16] df) (fun u t => atW D (va_A [zO or_ 3 [vI late, vI lea, vI ord, vR be], zO sA 6 [vI wi, vI ro, vR s2, vR s3, vI dr, vI dt, vR s6, vI pe, vR s8, vI gu, vI sh, vR s11, vI wo, vR s13, vI dn, vI mi, vI fl, vI tk, vI go], zI s6 (cy 0) 56 df] sz) [zO or_ 3 [vI late, vI (u.2.1 0), vI (u.2.1 1), vR be], zO sA 6 [vI wi, vI ro, vR s2, vR s3, vI dr, vI dt, vR s6, vI pe, vR s8, vI gu, vI sh, vR s11, vI wo, vR s13, vI dn, vI mi, vI fl, vI tk, vI go], zI s6 (cy 0) 56 df] t) (va_A [zO or_ 3 [vI late, vI lea, vI ord, vR be], zO sA 6 [vI wi, vI ro, vR s2, vR s3, vI dr, vI dt, vR s6, vI pe, vR s8, vI gu, vI sh, vR s11, vI wo, vR s13, vI dn, vI mi, vI fl, vI tk, vI go], zI s6 (cy 0) 56 df] sz)) 0 0 (va_A [zO or_ 3 [vI late, vI lea, vI ord, vR be], zO sA 6 [vI wi, vI ro, vR s2, vR s3, vI dr, vI dt, vR s6, vI pe, vR s8, vI gu, vI sh, vR s11, vI wo, vR s13, vI dn, vI mi, vI fl, vI tk, vI go], zI s6 (cy 0) 56 df] sz) :=
  (GO_all l hl D cy sa 64) or_ be late lea ord sA s2 s3 s6 s8 s11 s13 wi ro dr dt pe gu sh wo dn mi fl tk go df lf ls_ fa gn sz hr_late hr_lea hr_ord hr_wi hr_ro hr_dr hr_dt hr_pe hr_gu hr_sh hr_wo hr_dn hr_mi hr_fl hr_tk hr_go hr_lf hr_ls_ hr_fa hr_gn hdf (by omega)
def vs_o_sweep : List Cond := .code yX3_findSweeping cX3_findSweeping 4 none :: (([.constant RX3 47 (iI 2147483647), .fieldLink RX3 33 "KerbSplash$Orders" "least" "I", .fieldLink RX3 36 "KerbSplash$Orders" "order" "I"] : List Cond) ++ ((wsX60) ++ ((wsX30) ++ ((wsV RX3 59 RX3 yX3_goOn vs_o_goOn) ++ ([])))))
theorem gd_o_sweep : vs_o_sweep.all goodWord = true := gd_C (by decide +kernel) (gd_A (by decide +kernel) (gd_A (by decide +kernel) (gd_A (by decide +kernel) (gd_A (gd_V gd_o_goOn (by decide +kernel)) rfl))))
set_option maxHeartbeats 4000000 in
set_option maxRecDepth 100000 in
theorem o_sweep (l : Launch) (hl : l.stackTraces = false) (D : va_G) (cy : Nat → ClassId) (sa : Nat → Nat) (or_ be : Nat) (late lea ord : Int) (sA s2 s3 s6 s8 s11 s13 : Nat) (wi ro dr dt pe gu sh wo dn mi fl tk go : Int) (df : Nat → Int32) (sz : Nat) (hr_late : (-2147483648) ≤ late ∧ late ≤ 2147483647) (hr_lea : (-2147483648) ≤ lea ∧ lea ≤ 2147483647) (hr_ord : (-2147483648) ≤ ord ∧ ord ≤ 2147483647) (hr_wi : 0 ≤ wi ∧ wi ≤ 16) (hr_ro : 0 ≤ ro ∧ ro ≤ 6) (hr_dr : 0 ≤ dr ∧ dr ≤ 14) (hr_dt : 0 ≤ dt ∧ dt ≤ 6) (hr_pe : 0 ≤ pe ∧ pe ≤ 8) (hr_gu : 0 ≤ gu ∧ gu ≤ 20) (hr_sh : 0 ≤ sh ∧ sh ≤ 2) (hr_wo : 0 ≤ wo ∧ wo ≤ 8) (hr_dn : (-2147483648) ≤ dn ∧ dn ≤ 2147483647) (hr_mi : 0 ≤ mi ∧ mi ≤ 600) (hr_fl : (-2147483648) ≤ fl ∧ fl ≤ 2147483647) (hr_tk : (-2147483648) ≤ tk ∧ tk ≤ 2147483647) (hr_go : (-2147483648) ≤ go ∧ go ≤ 2147483647) (hdf : tab_ 4 14 [0, 0, 0, 0] [15, 5, 99, 16] df) : Met l yX3_findSweeping vs_o_sweep ({ frames := 193, cells := 0, slots := 0, locals := 9626 }) (va_Pc [vR or_, vR sA] (pcW D cy sa sz [zO or_ 3 [vI late, vI lea, vI ord, vR be], zO sA 6 [vI wi, vI ro, vR s2, vR s3, vI dr, vI dt, vR s6, vI pe, vR s8, vI gu, vI sh, vR s11, vI wo, vR s13, vI dn, vI mi, vI fl, vI tk, vI go], zI s6 (cy 0) 56 df])) (va_Qv (fun u : SV => ((-2147483648) ≤ u.2.1 0 ∧ u.2.1 0 ≤ 2147483647) ∧ ((-2147483648) ≤ u.2.1 1 ∧ u.2.1 1 ≤ 2147483647) ∧ tab_ 4 14 [0, 0, 0, 0] [15, 5, 99, 16] df) (fun u t => atW D (va_A [zO or_ 3 [vI late, vI lea, vI ord, vR be], zO sA 6 [vI wi, vI ro, vR s2, vR s3, vI dr, vI dt, vR s6, vI pe, vR s8, vI gu, vI sh, vR s11, vI wo, vR s13, vI dn, vI mi, vI fl, vI tk, vI go], zI s6 (cy 0) 56 df] sz) [zO or_ 3 [vI late, vI (u.2.1 0), vI (u.2.1 1), vR be], zO sA 6 [vI wi, vI ro, vR s2, vR s3, vI dr, vI dt, vR s6, vI pe, vR s8, vI gu, vI sh, vR s11, vI wo, vR s13, vI dn, vI mi, vI fl, vI tk, vI go], zI s6 (cy 0) 56 df] t) (va_A [zO or_ 3 [vI late, vI lea, vI ord, vR be], zO sA 6 [vI wi, vI ro, vR s2, vR s3, vI dr, vI dt, vR s6, vI pe, vR s8, vI gu, vI sh, vR s11, vI wo, vR s13, vI dn, vI mi, vI fl, vI tk, vI go], zI s6 (cy 0) 56 df] sz)) 0 0 (va_A [zO or_ 3 [vI late, vI lea, vI ord, vR be], zO sA 6 [vI wi, vI ro, vR s2, vR s3, vI dr, vI dt, vR s6, vI pe, vR s8, vI gu, vI sh, vR s11, vI wo, vR s13, vI dn, vI mi, vI fl, vI tk, vI go], zI s6 (cy 0) 56 df] sz) := by
  refine Met.ofW (cc := cX3_findSweeping) (maxL := 4) (ret := none) (by decide) rfl ?_
  intro p e s m args below meth c s₁ B hml hv
  obtain ⟨rfl, hsz, hP, hG, hD0, hT⟩ := hv
  have hx := B.exec
  have hb := B.bytes
  have hr := B.returns
  have hts := atoms_spec (ws := vs_o_sweep) B.pre
  have hown : s.vm.findClass RX3 = some m.cls := findClass_of_methodNamed B.named
  have hlocks := B.notSynchronized
  subst hsz
  have hD := hD0.self (sz := s.heap.size)
  generalize hAe : va_A [zO or_ 3 [vI late, vI lea, vI ord, vR be], zO sA 6 [vI wi, vI ro, vR s2, vR s3, vI dr, vI dt, vR s6, vI pe, vR s8, vI gu, vI sh, vR s11, vI wo, vR s13, vI dn, vI mi, vI fl, vI tk, vI go], zI s6 (cy 0) 56 df] s.heap.size = A at hD hT ⊢
  have hA : ∀ q : Nat, s.heap.size ≤ q → A q := fun q h => by rw [← hAe]; exact Or.inr h
  have hS : va_S A s.heap s.heap [] := va_S.rf
  have hl0 := lv_entry ([vR or_, vR sA]) (n := 4) (Nat.le_of_ble_eq_true rfl)
  rw [lg_entry_eq]
  generalize (lg_sl ([vR or_, vR sA]) ++ List.replicate (4 - (lg_sl ([vR or_, vR sA])).length) Slot.unset).toArray = ls at hl0 ⊢
  have hlv : lv_has ls 4 [(0, vR or_), (1, vR sA)] := hl0
  have hi6 : ∀ w ∈ wsX60, w ∈ vs_o_sweep := fun w h => List.mem_cons_of_mem _ (List.mem_append_right _ (List.mem_append_left _ h))
  have ld47 := hts (.constant RX3 47 (iI 2147483647)) (List.mem_of_getElem? (i := 1) rfl)
  have lf33 := hts (.fieldLink RX3 33 "KerbSplash$Orders" "least" "I") (List.mem_of_getElem? (i := 2) rfl)
  have hi3 : ∀ w ∈ wsX30, w ∈ vs_o_sweep := fun w h => List.mem_cons_of_mem _ (List.mem_append_right _ (List.mem_append_right _ (List.mem_append_left _ h)))
  have lf36 := hts (.fieldLink RX3 36 "KerbSplash$Orders" "order" "I") (List.mem_of_getElem? (i := 3) rfl)
  have gg_2 : GoodIn vs_o_sweep (wsV RX3 59 RX3 yX3_goOn vs_o_goOn) := goodIn_sub (fun w h => List.mem_cons_of_mem _ (List.mem_append_right _ (List.mem_append_right _ (List.mem_append_right _ (List.mem_append_left _ h))))) (gd_V gd_o_goOn (by decide +kernel))
  refine lv_iconst (v := iI 0) hx hb dX3_findSweeping_0 (by decide) ?_
  refine lv_istore_n (lv' := [(2, vI 0), (0, vR or_), (1, vR sA)]) hx hb dX3_findSweeping_1 rfl hlv (by decide) rfl (fun ls hlv => ?_)
  refine lv_iconst (v := iI 0) hx hb dX3_findSweeping_2 (by decide) ?_
  refine lv_istore_n (lv' := [(3, vI 0), (2, vI 0), (0, vR or_), (1, vR sA)]) hx hb dX3_findSweeping_3 rfl hlv (by decide) rfl (fun ls hlv => ?_)
  refine (?_ : ∀ (fu : Nat) (q2 : Int) (q3 : Int) (H : Heap) (locs : List Loc) (ls : Array Slot), 6 - q3 < (fu : Int) → (0 ≤ q2 ∧ q2 ≤ 63) → (0 ≤ q3 ∧ q3 ≤ 6) → va_P D vwCl [zO or_ 3 [vI late, vI lea, vI ord, vR be], zO sA 6 [vI wi, vI ro, vR s2, vR s3, vI dr, vI dt, vR s6, vI pe, vR s8, vI gu, vI sh, vR s11, vI wo, vR s13, vI dn, vI mi, vI fl, vI tk, vI go], zI s6 (cy 0) 56 df] H → va_D A [zO or_ 3 [vI late, vI lea, vI ord, vR be], zO sA 6 [vI wi, vI ro, vR s2, vR s3, vI dr, vI dt, vR s6, vI pe, vR s8, vI gu, vI sh, vR s11, vI wo, vR s13, vI dn, vI mi, vI fl, vI tk, vI go], zI s6 (cy 0) 56 df] → va_S A s.heap H locs → lv_has ls 4 [(3, vI q3), (2, vI q2), (0, vR or_), (1, vR sA)] → W p l e _ s m _ below meth c H locs _ _ _ (F0 m 4 ls [])) (((6 - 0) + 1 : Int)).toNat 0 0 _ _ _ (by omega) (by show (0 : Int) ≤ 0 ∧ (0 : Int) ≤ 63; decide) (by show (0 : Int) ≤ 0 ∧ (0 : Int) ≤ 6; decide)  hP hD hS hlv
  clear hP hD hS hlv
  intro fu
  induction fu with
  | zero => intro q2 q3 H locs ls hm4 hl4_0 hl4_1  hP hD hS hlv; omega
  | succ fu ih4 =>
    intro q2 q3 H locs ls hm4 hl4_0 hl4_1  hP hD hS hlv
    refine lv_iload_n hx hb dX3_findSweeping_4 rfl (lv_at hlv 0 rfl) ?_
    refine lv_aload_n hx hb dX3_findSweeping_5 rfl (lv_at hlv 3 rfl) ?_
    refine va_getN (D := D) (ci := 6) (v := vI dt) (C := RX6) (T := TX6) (N := 19) hx hb hts hi6 hown hG.1 hP 1 rfl rfl 5 (by decide) (va_Nw.use rfl (nF_Orders_51 hG.2.1)) (fun _ h9 => h9) rfl dX3_findSweeping_6 ?_
    refine ir_ge (tgt := 37) hx hb dX3_findSweeping_9 (by decide) (by first | exact rgw hl4_1 (by decide) (by decide) | omega) (by first | exact rgw hr_dt (by decide) (by decide) | omega) (fun c_1 => ?_) (fun c_1 => ?_)
    · refine lv_aload_n hx hb dX3_findSweeping_37 rfl (lv_at hlv 2 rfl) ?_
      refine lv_iload_n hx hb dX3_findSweeping_38 rfl (lv_at hlv 1 rfl) ?_
      refine iz_ne (tgt := 46) hx hb dX3_findSweeping_39 (by decide) (by first | exact rgw hl4_0 (by decide) (by decide) | omega) (fun c_2 => ?_) (fun c_2 => ?_)
      · refine lv_ldc (v := iI 2147483647) hx hb hown ld47 dX3_findSweeping_46 ?_
        refine va_put (D := D) (ci := 3) (v := vI 2147483647) (ty := .int) (C := RX3) (T := TX3) (N := 4) hx hb hts hi3 tyX3 tyX3_ok nmX3 hown hG.1 hP hD hS 0 rfl rfl 1 (by decide) lf33 (fun _ h9 => h9) rfl (by decide +kernel) rfl rfl (Nat.le_of_ble_eq_true rfl) dX3_findSweeping_48 (fun H locs hP hD hS => ?_)
        have hP : va_P D vwCl [zO or_ 3 [vI late, vI 2147483647, vI ord, vR be], zO sA 6 [vI wi, vI ro, vR s2, vR s3, vI dr, vI dt, vR s6, vI pe, vR s8, vI gu, vI sh, vR s11, vI wo, vR s13, vI dn, vI mi, vI fl, vI tk, vI go], zI s6 (cy 0) 56 df] H := hP
        have hD : va_D A [zO or_ 3 [vI late, vI 2147483647, vI ord, vR be], zO sA 6 [vI wi, vI ro, vR s2, vR s3, vI dr, vI dt, vR s6, vI pe, vR s8, vI gu, vI sh, vR s11, vI wo, vR s13, vI dn, vI mi, vI fl, vI tk, vI go], zI s6 (cy 0) 56 df] := hD
        refine lv_aload_n hx hb dX3_findSweeping_51 rfl (lv_at hlv 2 rfl) ?_
        refine lv_iconst (v := iI 0) hx hb dX3_findSweeping_52 (by decide) ?_
        refine va_put (D := D) (ci := 3) (v := vI 0) (ty := .int) (C := RX3) (T := TX3) (N := 4) hx hb hts hi3 tyX3 tyX3_ok nmX3 hown hG.1 hP hD hS 0 rfl rfl 2 (by decide) lf36 (fun _ h9 => h9) rfl (by decide +kernel) rfl rfl (Nat.le_of_ble_eq_true rfl) dX3_findSweeping_53 (fun H locs hP hD hS => ?_)
        have hP : va_P D vwCl [zO or_ 3 [vI late, vI 2147483647, vI 0, vR be], zO sA 6 [vI wi, vI ro, vR s2, vR s3, vI dr, vI dt, vR s6, vI pe, vR s8, vI gu, vI sh, vR s11, vI wo, vR s13, vI dn, vI mi, vI fl, vI tk, vI go], zI s6 (cy 0) 56 df] H := hP
        have hD : va_D A [zO or_ 3 [vI late, vI 2147483647, vI 0, vR be], zO sA 6 [vI wi, vI ro, vR s2, vR s3, vI dr, vI dt, vR s6, vI pe, vR s8, vI gu, vI sh, vR s11, vI wo, vR s13, vI dn, vI mi, vI fl, vI tk, vI go], zI s6 (cy 0) 56 df] := hD
        refine lv_iload_n hx hb dX3_findSweeping_56 rfl (lv_at hlv 1 rfl) ?_
        refine iz_eq (tgt := 69) hx hb dX3_findSweeping_57 (by decide) (by first | exact rgw hl4_0 (by decide) (by decide) | omega) (fun c_3 => by exfalso; omega) (fun c_3 => ?_)
        refine lv_aload_n hx hb dX3_findSweeping_60 rfl (lv_at hlv 2 rfl) ?_
        refine lv_aload_n hx hb dX3_findSweeping_61 rfl (lv_at hlv 3 rfl) ?_
        refine lv_iload_n hx hb dX3_findSweeping_62 rfl (lv_at hlv 1 rfl) ?_
        refine lv_iconst (v := iI (-1)) hx hb dX3_findSweeping_63 (by decide) ?_
        refine lv_iconst (v := iI 0) hx hb dX3_findSweeping_64 (by decide) ?_
        refine lv_iconst (v := iI 0) hx hb dX3_findSweeping_65 (by decide) ?_
        refine cj_v (wr := []) (va_runV (As := [vR sA, vI q2, vI (-1), vI 0, vI 0]) (rest := []) ⟨hx, hb, hml, hown, hts⟩ (o_goOn l hl D cy sa or_ be late 2147483647 0 sA s2 s3 s6 s8 s11 s13 wi ro dr dt pe gu sh wo dn mi fl tk go df q2 (-1) 0 0 H.size (by first | exact hr_late | omega) (by show ((-2147483648) : Int) ≤ 2147483647 ∧ (2147483647 : Int) ≤ 2147483647; decide) (by show ((-2147483648) : Int) ≤ 0 ∧ (0 : Int) ≤ 2147483647; decide) (by first | exact hr_wi | omega) (by first | exact hr_ro | omega) (by first | exact hr_dr | omega) (by first | exact hr_dt | omega) (by first | exact hr_pe | omega) (by first | exact hr_gu | omega) (by first | exact hr_sh | omega) (by first | exact hr_wo | omega) (by first | exact hr_dn | omega) (by first | exact hr_mi | omega) (by first | exact hr_fl | omega) (by first | exact hr_tk | omega) (by first | exact hr_go | omega) (by first | exact hl4_0 | omega) (by show ((-1) : Int) ≤ (-1) ∧ ((-1) : Int) ≤ 13; decide) (by show ((-2147483648) : Int) ≤ 0 ∧ (0 : Int) ≤ 2147483647; decide) (by show ((-2147483648) : Int) ≤ 0 ∧ (0 : Int) ≤ 2147483647; decide) hdf) (cwV 5 hts gg_2 rfl rfl rfl (by decide +kernel) ⟨Nat.le_of_ble_eq_true rfl, Nat.le_of_ble_eq_true rfl⟩) ⟨pcW.blind, (va_recv hG.1 hP (ci := 3) (q0 := 0) rfl rfl), (pcW.mk hP hD hS hA hG hT [0, 1, 2] rfl (by decide))⟩ rfl rfl hlv.1 rfl (lv_room (Nat.le_of_ble_eq_true rfl)) dX3_findSweeping_66 ⟨Nat.le_of_ble_eq_true rfl, Nat.le_of_ble_eq_true rfl⟩) hP hD hS hA [0, 1, 2] [] rfl rfl (by decide) (by decide) (fun u1 H locs hw1 hP hD hS => ?_)
        obtain ⟨hq1_0, hq1_1, hq1_2⟩ := hw1
        have hP : va_P D vwCl [zO or_ 3 [vI late, vI (u1.2.1 0), vI (u1.2.1 1), vR be], zO sA 6 [vI wi, vI ro, vR s2, vR s3, vI dr, vI dt, vR s6, vI pe, vR s8, vI gu, vI sh, vR s11, vI wo, vR s13, vI dn, vI mi, vI fl, vI tk, vI go], zI s6 (cy 0) 56 df] H := hP
        have hD : va_D A [zO or_ 3 [vI late, vI (u1.2.1 0), vI (u1.2.1 1), vR be], zO sA 6 [vI wi, vI ro, vR s2, vR s3, vI dr, vI dt, vR s6, vI pe, vR s8, vI gu, vI sh, vR s11, vI wo, vR s13, vI dn, vI mi, vI fl, vI tk, vI go], zI s6 (cy 0) 56 df] := hD
        refine W.widen (k := 0) (n := 0) (Nat.le_of_ble_eq_true rfl) (Nat.le_of_ble_eq_true rfl) ?_
        exact W.vret hx hb hr (fun t ht hW => ⟨⟨((fun k => ([] : List Nat).getD k 0), (fun k => ([(u1.2.1 0), (u1.2.1 1)] : List Int).getD k 0), (fun k => ([] : List (Nat → Int32)).getD k (fun _ => 0))), rfl, ⟨(by show ((-2147483648) ≤ (u1.2.1 0) ∧ (u1.2.1 0) ≤ 2147483647); first | exact hq1_0 | omega), (by show ((-2147483648) ≤ (u1.2.1 1) ∧ (u1.2.1 1) ≤ 2147483647); first | exact hq1_1 | omega), hq1_2⟩, by rw [ht]; exact hP.sub [0, 1, 2] rfl, hD.sub [0, 1, 2] (by decide) rfl⟩, hS.F ht⟩) hS.2.2 dX3_findSweeping_69
      · refine lv_iconst (v := iI 0) hx hb dX3_findSweeping_42 (by decide) ?_
        refine lv_goto (tgt := 48) hx hb dX3_findSweeping_43 (by decide) ?_
        refine va_put (D := D) (ci := 3) (v := vI 0) (ty := .int) (C := RX3) (T := TX3) (N := 4) hx hb hts hi3 tyX3 tyX3_ok nmX3 hown hG.1 hP hD hS 0 rfl rfl 1 (by decide) lf33 (fun _ h9 => h9) rfl (by decide +kernel) rfl rfl (Nat.le_of_ble_eq_true rfl) dX3_findSweeping_48 (fun H locs hP hD hS => ?_)
        have hP : va_P D vwCl [zO or_ 3 [vI late, vI 0, vI ord, vR be], zO sA 6 [vI wi, vI ro, vR s2, vR s3, vI dr, vI dt, vR s6, vI pe, vR s8, vI gu, vI sh, vR s11, vI wo, vR s13, vI dn, vI mi, vI fl, vI tk, vI go], zI s6 (cy 0) 56 df] H := hP
        have hD : va_D A [zO or_ 3 [vI late, vI 0, vI ord, vR be], zO sA 6 [vI wi, vI ro, vR s2, vR s3, vI dr, vI dt, vR s6, vI pe, vR s8, vI gu, vI sh, vR s11, vI wo, vR s13, vI dn, vI mi, vI fl, vI tk, vI go], zI s6 (cy 0) 56 df] := hD
        refine lv_aload_n hx hb dX3_findSweeping_51 rfl (lv_at hlv 2 rfl) ?_
        refine lv_iconst (v := iI 0) hx hb dX3_findSweeping_52 (by decide) ?_
        refine va_put (D := D) (ci := 3) (v := vI 0) (ty := .int) (C := RX3) (T := TX3) (N := 4) hx hb hts hi3 tyX3 tyX3_ok nmX3 hown hG.1 hP hD hS 0 rfl rfl 2 (by decide) lf36 (fun _ h9 => h9) rfl (by decide +kernel) rfl rfl (Nat.le_of_ble_eq_true rfl) dX3_findSweeping_53 (fun H locs hP hD hS => ?_)
        have hP : va_P D vwCl [zO or_ 3 [vI late, vI 0, vI 0, vR be], zO sA 6 [vI wi, vI ro, vR s2, vR s3, vI dr, vI dt, vR s6, vI pe, vR s8, vI gu, vI sh, vR s11, vI wo, vR s13, vI dn, vI mi, vI fl, vI tk, vI go], zI s6 (cy 0) 56 df] H := hP
        have hD : va_D A [zO or_ 3 [vI late, vI 0, vI 0, vR be], zO sA 6 [vI wi, vI ro, vR s2, vR s3, vI dr, vI dt, vR s6, vI pe, vR s8, vI gu, vI sh, vR s11, vI wo, vR s13, vI dn, vI mi, vI fl, vI tk, vI go], zI s6 (cy 0) 56 df] := hD
        refine lv_iload_n hx hb dX3_findSweeping_56 rfl (lv_at hlv 1 rfl) ?_
        refine iz_eq (tgt := 69) hx hb dX3_findSweeping_57 (by decide) (by first | exact rgw hl4_0 (by decide) (by decide) | omega) (fun c_4 => ?_) (fun c_4 => by exfalso; omega)
        refine W.widen (k := 0) (n := 0) (Nat.le_of_ble_eq_true rfl) (Nat.le_of_ble_eq_true rfl) ?_
        exact W.vret hx hb hr (fun t ht hW => ⟨⟨((fun k => ([] : List Nat).getD k 0), (fun k => ([0, 0] : List Int).getD k 0), (fun k => ([] : List (Nat → Int32)).getD k (fun _ => 0))), rfl, ⟨(by show ((-2147483648) ≤ 0 ∧ 0 ≤ 2147483647); show ((-2147483648) : Int) ≤ 0 ∧ (0 : Int) ≤ 2147483647; decide), (by show ((-2147483648) ≤ 0 ∧ 0 ≤ 2147483647); show ((-2147483648) : Int) ≤ 0 ∧ (0 : Int) ≤ 2147483647; decide), hdf⟩, by rw [ht]; exact hP.sub [0, 1, 2] rfl, hD.sub [0, 1, 2] (by decide) rfl⟩, hS.F ht⟩) hS.2.2 dX3_findSweeping_69
    · refine lv_aload_n hx hb dX3_findSweeping_12 rfl (lv_at hlv 3 rfl) ?_
      refine va_getN (D := D) (ci := 6) (v := vR s6) (C := RX6) (T := TX6) (N := 19) hx hb hts hi6 hown hG.1 hP 1 rfl rfl 6 (by decide) (va_Nw.use rfl (nF_Orders_56 hG.2.1)) (fun _ h9 => h9) rfl dX3_findSweeping_13 ?_
      refine lv_iconst (v := iI 4) hx hb dX3_findSweeping_16 (by decide) ?_
      refine lv_iload_n hx hb dX3_findSweeping_17 rfl (lv_at hlv 0 rfl) ?_
      refine lv_imul hx hb dX3_findSweeping_18 ?_
      refine lt_e (e0 := 4 * q3) (Int32.ofInt_mul _ _).symm (fun z_5 hz_5 => ?_)
      refine lv_iconst (v := iI 3) hx hb dX3_findSweeping_19 (by decide) ?_
      refine lv_iadd hx hb dX3_findSweeping_20 ?_
      refine lt_e (e0 := z_5 + 3) (Int32.ofInt_add _ _).symm (fun z_6 hz_6 => ?_)
      refine va_iald hx hb hG.1 hP 2 0 rfl rfl (iI_in (by omega) (by decide)) dX3_findSweeping_21 ?_
      obtain ⟨z_7, ez_7, hz_7, lz_7⟩ := tab_rd hdf (e := z_6) (k := q3) (c := 3) (a := 0) (b := 16) (by omega) (by omega) (by decide) (by omega) rfl rfl
      refine lt_i (y := iI z_7) ez_7 ?_
      refine iz_le (tgt := 31) hx hb dX3_findSweeping_22 (by decide) (by first | exact rgw lz_7 (by decide) (by decide) | omega) (fun c_8 => ?_) (fun c_8 => ?_)
      · obtain ⟨z_9, hz_9⟩ : ∃ z : Int, z = q3 + 1 := ⟨_, rfl⟩
        refine lv_iinc (v := iI z_9) (lv' := [(3, vI z_9), (2, vI q2), (0, vR or_), (1, vR sA)]) hx hb dX3_findSweeping_31 hlv (k := 0) rfl (by rw [hz_9]; exact (Int32.ofInt_add _ _).symm) (by decide) rfl (fun ls hlv => ?_)
        refine lv_goto (tgt := 4) hx hb dX3_findSweeping_34 (by decide) ?_
        exact ih4 q2 z_9 H locs ls (by omega) (by first | exact hl4_0 | omega) (by omega)  (hP.sub [0, 1, 2] rfl) (hD.sub [0, 1, 2] (by decide) rfl) hS (lv_sub hlv [0, 1, 2, 3] rfl)
      · refine lv_iload_n hx hb dX3_findSweeping_25 rfl (lv_at hlv 1 rfl) ?_
        refine lv_iconst (v := iI 1) hx hb dX3_findSweeping_26 (by decide) ?_
        refine lv_iload_n hx hb dX3_findSweeping_27 rfl (lv_at hlv 0 rfl) ?_
        refine lv_ishl hx hb dX3_findSweeping_28 ?_
        refine lt_sh2 (n := 5) (M := 32) (by decide) (by decide) (by omega) (fun z_10 ez_10 lz_10 hz_10 => ?_)
        refine lv_ior hx hb dX3_findSweeping_29 ?_
        refine lt_o2 6 (M := 63) (by decide) (by omega) (by omega) (fun z_11 lz_11 hz_11 => ?_)
        refine lv_istore_n (lv' := [(2, vI z_11), (3, vI q3), (0, vR or_), (1, vR sA)]) hx hb dX3_findSweeping_30 rfl hlv (by decide) rfl (fun ls hlv => ?_)
        obtain ⟨z_12, hz_12⟩ : ∃ z : Int, z = q3 + 1 := ⟨_, rfl⟩
        refine lv_iinc (v := iI z_12) (lv' := [(3, vI z_12), (2, vI z_11), (0, vR or_), (1, vR sA)]) hx hb dX3_findSweeping_31 hlv (k := 1) rfl (by rw [hz_12]; exact (Int32.ofInt_add _ _).symm) (by decide) rfl (fun ls hlv => ?_)
        refine lv_goto (tgt := 4) hx hb dX3_findSweeping_34 (by decide) ?_
        exact ih4 z_11 z_12 H locs ls (by omega) (by omega) (by omega)  (hP.sub [0, 1, 2] rfl) (hD.sub [0, 1, 2] (by decide) rfl) hS (lv_sub hlv [0, 1, 2, 3] rfl)
