theorem dX0_become_0 : decode cX0_become 0 = .ok (.aload_n 0, 1) := by decide +kernel
theorem dX0_become_1 : decode cX0_become 1 = .ok (.iload_n 1, 1) := by decide +kernel
theorem dX0_become_10 : decode cX0_become 10 = .ok (.aload_n 0, 1) := by decide +kernel
theorem dX0_become_11 : decode cX0_become 11 = .ok (.iload_n 3, 1) := by decide +kernel
theorem dX0_become_12 : decode cX0_become 12 = .ok (.putfield 22, 3) := by decide +kernel
theorem dX0_become_15 : decode cX0_become 15 = .ok (.aload_n 0, 1) := by decide +kernel
theorem dX0_become_16 : decode cX0_become 16 = .ok (.iload 4, 2) := by decide +kernel
theorem dX0_become_18 : decode cX0_become 18 = .ok (.putfield 25, 3) := by decide +kernel
theorem dX0_become_2 : decode cX0_become 2 = .ok (.putfield 15, 3) := by decide +kernel
theorem dX0_become_21 : decode cX0_become 21 = .ok (.return_, 1) := by decide +kernel
theorem dX0_become_5 : decode cX0_become 5 = .ok (.aload_n 0, 1) := by decide +kernel
theorem dX0_become_6 : decode cX0_become 6 = .ok (.iload_n 2, 1) := by decide +kernel
theorem dX0_become_7 : decode cX0_become 7 = .ok (.putfield 19, 3) := by decide +kernel
theorem dX0_come_0 : decode cX0_come 0 = .ok (.aload_n 0, 1) := by decide +kernel
theorem dX0_come_1 : decode cX0_come 1 = .ok (.getfield 9, 3) := by decide +kernel
theorem dX0_come_10 : decode cX0_come 10 = .ok (.aload_n 0, 1) := by decide +kernel
theorem dX0_come_100 : decode cX0_come 100 = .ok (.aload_n 1, 1) := by decide +kernel
theorem dX0_come_101 : decode cX0_come 101 = .ok (.getfield 66, 3) := by decide +kernel
theorem dX0_come_104 : decode cX0_come 104 = .ok (.iconst 1, 1) := by decide +kernel
theorem dX0_come_105 : decode cX0_come 105 = .ok (.isub, 1) := by decide +kernel
theorem dX0_come_106 : decode cX0_come 106 = .ok (.invokestatic 41, 3) := by decide +kernel
theorem dX0_come_109 : decode cX0_come 109 = .ok (.invokevirtual 62, 3) := by decide +kernel
theorem dX0_come_11 : decode cX0_come 11 = .ok (.getfield 9, 3) := by decide +kernel
theorem dX0_come_112 : decode cX0_come 112 = .ok (.aload_n 0, 1) := by decide +kernel
theorem dX0_come_113 : decode cX0_come 113 = .ok (.aload_n 0, 1) := by decide +kernel
theorem dX0_come_114 : decode cX0_come 114 = .ok (.getfield 25, 3) := by decide +kernel
theorem dX0_come_117 : decode cX0_come 117 = .ok (.iconst 1, 1) := by decide +kernel
theorem dX0_come_118 : decode cX0_come 118 = .ok (.if_icmp .ne 24, 3) := by decide +kernel
theorem dX0_come_121 : decode cX0_come 121 = .ok (.aload_n 2, 1) := by decide +kernel
theorem dX0_come_122 : decode cX0_come 122 = .ok (.iconst 3, 1) := by decide +kernel
theorem dX0_come_123 : decode cX0_come 123 = .ok (.aload_n 0, 1) := by decide +kernel
theorem dX0_come_124 : decode cX0_come 124 = .ok (.getfield 9, 3) := by decide +kernel
theorem dX0_come_127 : decode cX0_come 127 = .ok (.invokevirtual 37, 3) := by decide +kernel
theorem dX0_come_130 : decode cX0_come 130 = .ok (.i2l, 1) := by decide +kernel
theorem dX0_come_131 : decode cX0_come 131 = .ok (.iconst 1, 1) := by decide +kernel
theorem dX0_come_132 : decode cX0_come 132 = .ok (.aload_n 0, 1) := by decide +kernel
theorem dX0_come_133 : decode cX0_come 133 = .ok (.getfield 19, 3) := by decide +kernel
theorem dX0_come_136 : decode cX0_come 136 = .ok (.invokestatic 41, 3) := by decide +kernel
theorem dX0_come_139 : decode cX0_come 139 = .ok (.goto 7, 3) := by decide +kernel
theorem dX0_come_14 : decode cX0_come 14 = .ok (.iconst 5, 1) := by decide +kernel
theorem dX0_come_142 : decode cX0_come 142 = .ok (.aload_n 0, 1) := by decide +kernel
theorem dX0_come_143 : decode cX0_come 143 = .ok (.getfield 19, 3) := by decide +kernel
theorem dX0_come_146 : decode cX0_come 146 = .ok (.putfield 69, 3) := by decide +kernel
theorem dX0_come_149 : decode cX0_come 149 = .ok (.aload_n 0, 1) := by decide +kernel
theorem dX0_come_15 : decode cX0_come 15 = .ok (.aload_n 1, 1) := by decide +kernel
theorem dX0_come_150 : decode cX0_come 150 = .ok (.getfield 9, 3) := by decide +kernel
theorem dX0_come_153 : decode cX0_come 153 = .ok (.iconst 1, 1) := by decide +kernel
theorem dX0_come_154 : decode cX0_come 154 = .ok (.aload_n 0, 1) := by decide +kernel
theorem dX0_come_155 : decode cX0_come 155 = .ok (.getfield 69, 3) := by decide +kernel
theorem dX0_come_158 : decode cX0_come 158 = .ok (.iastore, 1) := by decide +kernel
theorem dX0_come_159 : decode cX0_come 159 = .ok (.return_, 1) := by decide +kernel
theorem dX0_come_16 : decode cX0_come 16 = .ok (.iload_n 3, 1) := by decide +kernel
theorem dX0_come_17 : decode cX0_come 17 = .ok (.invokevirtual 58, 3) := by decide +kernel
theorem dX0_come_20 : decode cX0_come 20 = .ok (.iastore, 1) := by decide +kernel
theorem dX0_come_21 : decode cX0_come 21 = .ok (.aload_n 0, 1) := by decide +kernel
theorem dX0_come_22 : decode cX0_come 22 = .ok (.getfield 9, 3) := by decide +kernel
theorem dX0_come_25 : decode cX0_come 25 = .ok (.iconst 4, 1) := by decide +kernel
theorem dX0_come_26 : decode cX0_come 26 = .ok (.iconst 0, 1) := by decide +kernel
theorem dX0_come_27 : decode cX0_come 27 = .ok (.iastore, 1) := by decide +kernel
theorem dX0_come_28 : decode cX0_come 28 = .ok (.aload_n 0, 1) := by decide +kernel
theorem dX0_come_29 : decode cX0_come 29 = .ok (.getfield 9, 3) := by decide +kernel
theorem dX0_come_32 : decode cX0_come 32 = .ok (.bipush 6, 2) := by decide +kernel
theorem dX0_come_34 : decode cX0_come 34 = .ok (.iconst 0, 1) := by decide +kernel
theorem dX0_come_35 : decode cX0_come 35 = .ok (.iastore, 1) := by decide +kernel
theorem dX0_come_36 : decode cX0_come 36 = .ok (.aload_n 0, 1) := by decide +kernel
theorem dX0_come_37 : decode cX0_come 37 = .ok (.getfield 9, 3) := by decide +kernel
theorem dX0_come_4 : decode cX0_come 4 = .ok (.iconst 2, 1) := by decide +kernel
theorem dX0_come_40 : decode cX0_come 40 = .ok (.iconst 1, 1) := by decide +kernel
theorem dX0_come_41 : decode cX0_come 41 = .ok (.aload_n 0, 1) := by decide +kernel
theorem dX0_come_42 : decode cX0_come 42 = .ok (.getfield 19, 3) := by decide +kernel
theorem dX0_come_45 : decode cX0_come 45 = .ok (.iastore, 1) := by decide +kernel
theorem dX0_come_46 : decode cX0_come 46 = .ok (.aload_n 0, 1) := by decide +kernel
theorem dX0_come_47 : decode cX0_come 47 = .ok (.aload_n 1, 1) := by decide +kernel
theorem dX0_come_48 : decode cX0_come 48 = .ok (.iload_n 3, 1) := by decide +kernel
theorem dX0_come_49 : decode cX0_come 49 = .ok (.aload_n 0, 1) := by decide +kernel
theorem dX0_come_5 : decode cX0_come 5 = .ok (.aload_n 0, 1) := by decide +kernel
theorem dX0_come_50 : decode cX0_come 50 = .ok (.getfield 25, 3) := by decide +kernel
theorem dX0_come_53 : decode cX0_come 53 = .ok (.iconst 3, 1) := by decide +kernel
theorem dX0_come_54 : decode cX0_come 54 = .ok (.if_icmp .ne 7, 3) := by decide +kernel
theorem dX0_come_57 : decode cX0_come 57 = .ok (.iconst 0, 1) := by decide +kernel
theorem dX0_come_58 : decode cX0_come 58 = .ok (.goto 7, 3) := by decide +kernel
theorem dX0_come_6 : decode cX0_come 6 = .ok (.getfield 22, 3) := by decide +kernel
theorem dX0_come_61 : decode cX0_come 61 = .ok (.aload_n 0, 1) := by decide +kernel
theorem dX0_come_62 : decode cX0_come 62 = .ok (.getfield 15, 3) := by decide +kernel
theorem dX0_come_65 : decode cX0_come 65 = .ok (.invokevirtual 62, 3) := by decide +kernel
theorem dX0_come_68 : decode cX0_come 68 = .ok (.aload_n 0, 1) := by decide +kernel
theorem dX0_come_69 : decode cX0_come 69 = .ok (.getfield 25, 3) := by decide +kernel
theorem dX0_come_72 : decode cX0_come 72 = .ok (.iconst 2, 1) := by decide +kernel
theorem dX0_come_73 : decode cX0_come 73 = .ok (.if_icmp .ne 39, 3) := by decide +kernel
theorem dX0_come_76 : decode cX0_come 76 = .ok (.aload_n 0, 1) := by decide +kernel
theorem dX0_come_77 : decode cX0_come 77 = .ok (.getfield 15, 3) := by decide +kernel
theorem dX0_come_80 : decode cX0_come 80 = .ok (.i2l, 1) := by decide +kernel
theorem dX0_come_81 : decode cX0_come 81 = .ok (.aload_n 2, 1) := by decide +kernel
theorem dX0_come_82 : decode cX0_come 82 = .ok (.iconst 4, 1) := by decide +kernel
theorem dX0_come_83 : decode cX0_come 83 = .ok (.aload_n 0, 1) := by decide +kernel
theorem dX0_come_84 : decode cX0_come 84 = .ok (.getfield 9, 3) := by decide +kernel
theorem dX0_come_87 : decode cX0_come 87 = .ok (.invokevirtual 37, 3) := by decide +kernel
theorem dX0_come_9 : decode cX0_come 9 = .ok (.iastore, 1) := by decide +kernel
theorem dX0_come_90 : decode cX0_come 90 = .ok (.i2l, 1) := by decide +kernel
theorem dX0_come_91 : decode cX0_come 91 = .ok (.ladd, 1) := by decide +kernel
theorem dX0_come_92 : decode cX0_come 92 = .ok (.lstore 4, 2) := by decide +kernel
theorem dX0_come_94 : decode cX0_come 94 = .ok (.aload_n 0, 1) := by decide +kernel
theorem dX0_come_95 : decode cX0_come 95 = .ok (.aload_n 1, 1) := by decide +kernel
theorem dX0_come_96 : decode cX0_come 96 = .ok (.iload_n 3, 1) := by decide +kernel
theorem dX0_come_97 : decode cX0_come 97 = .ok (.lload 4, 2) := by decide +kernel
theorem dX0_come_99 : decode cX0_come 99 = .ok (.iconst 0, 1) := by decide +kernel
theorem dX0_see_0 : decode cX0_see 0 = .ok (.aload_n 0, 1) := by decide +kernel
theorem dX0_see_1 : decode cX0_see 1 = .ok (.iload_n 3, 1) := by decide +kernel
theorem dX0_see_10 : decode cX0_see 10 = .ok (.iload_n 3, 1) := by decide +kernel
theorem dX0_see_11 : decode cX0_see 11 = .ok (.iastore, 1) := by decide +kernel
theorem dX0_see_12 : decode cX0_see 12 = .ok (.aload_n 0, 1) := by decide +kernel
theorem dX0_see_13 : decode cX0_see 13 = .ok (.getfield 9, 3) := by decide +kernel
theorem dX0_see_16 : decode cX0_see 16 = .ok (.iconst 0, 1) := by decide +kernel
theorem dX0_see_17 : decode cX0_see 17 = .ok (.aload_n 1, 1) := by decide +kernel
theorem dX0_see_18 : decode cX0_see 18 = .ok (.getfield 72, 3) := by decide +kernel
theorem dX0_see_2 : decode cX0_see 2 = .ok (.putfield 47, 3) := by decide +kernel
theorem dX0_see_21 : decode cX0_see 21 = .ok (.aload_n 1, 1) := by decide +kernel
theorem dX0_see_22 : decode cX0_see 22 = .ok (.iload_n 2, 1) := by decide +kernel
theorem dX0_see_23 : decode cX0_see 23 = .ok (.iload_n 3, 1) := by decide +kernel
theorem dX0_see_24 : decode cX0_see 24 = .ok (.invokevirtual 75, 3) := by decide +kernel
theorem dX0_see_27 : decode cX0_see 27 = .ok (.iaload, 1) := by decide +kernel
theorem dX0_see_28 : decode cX0_see 28 = .ok (.iastore, 1) := by decide +kernel
theorem dX0_see_29 : decode cX0_see 29 = .ok (.return_, 1) := by decide +kernel
theorem dX0_see_5 : decode cX0_see 5 = .ok (.aload_n 0, 1) := by decide +kernel
theorem dX0_see_6 : decode cX0_see 6 = .ok (.getfield 9, 3) := by decide +kernel
theorem dX0_see_9 : decode cX0_see 9 = .ok (.iconst 3, 1) := by decide +kernel
theorem dX4_become_0 : decode cX4_become 0 = .ok (.aload_n 0, 1) := by decide +kernel
theorem dX4_become_1 : decode cX4_become 1 = .ok (.aload_n 1, 1) := by decide +kernel
theorem dX4_become_12 : decode cX4_become 12 = .ok (.iconst 0, 1) := by decide +kernel
theorem dX4_become_13 : decode cX4_become 13 = .ok (.aload_n 0, 1) := by decide +kernel
theorem dX4_become_14 : decode cX4_become 14 = .ok (.getfield 11, 3) := by decide +kernel
theorem dX4_become_17 : decode cX4_become 17 = .ok (.iconst 0, 1) := by decide +kernel
theorem dX4_become_18 : decode cX4_become 18 = .ok (.aload_n 0, 1) := by decide +kernel
theorem dX4_become_19 : decode cX4_become 19 = .ok (.getfield 11, 3) := by decide +kernel
theorem dX4_become_2 : decode cX4_become 2 = .ok (.getfield 21, 3) := by decide +kernel
theorem dX4_become_22 : decode cX4_become 22 = .ok (.arraylength, 1) := by decide +kernel
theorem dX4_become_23 : decode cX4_become 23 = .ok (.invokestatic 34, 3) := by decide +kernel
theorem dX4_become_26 : decode cX4_become 26 = .ok (.aload_n 0, 1) := by decide +kernel
theorem dX4_become_27 : decode cX4_become 27 = .ok (.aload_n 1, 1) := by decide +kernel
theorem dX4_become_28 : decode cX4_become 28 = .ok (.getfield 25, 3) := by decide +kernel
theorem dX4_become_31 : decode cX4_become 31 = .ok (.putfield 25, 3) := by decide +kernel
theorem dX4_become_34 : decode cX4_become 34 = .ok (.aload_n 1, 1) := by decide +kernel
theorem dX4_become_35 : decode cX4_become 35 = .ok (.getfield 15, 3) := by decide +kernel
theorem dX4_become_38 : decode cX4_become 38 = .ok (.iconst 0, 1) := by decide +kernel
theorem dX4_become_39 : decode cX4_become 39 = .ok (.aload_n 0, 1) := by decide +kernel
theorem dX4_become_40 : decode cX4_become 40 = .ok (.getfield 15, 3) := by decide +kernel
theorem dX4_become_43 : decode cX4_become 43 = .ok (.iconst 0, 1) := by decide +kernel
theorem dX4_become_44 : decode cX4_become 44 = .ok (.aload_n 0, 1) := by decide +kernel
theorem dX4_become_45 : decode cX4_become 45 = .ok (.getfield 15, 3) := by decide +kernel
theorem dX4_become_48 : decode cX4_become 48 = .ok (.arraylength, 1) := by decide +kernel
theorem dX4_become_49 : decode cX4_become 49 = .ok (.invokestatic 34, 3) := by decide +kernel
theorem dX4_become_5 : decode cX4_become 5 = .ok (.putfield 21, 3) := by decide +kernel
theorem dX4_become_52 : decode cX4_become 52 = .ok (.aload_n 1, 1) := by decide +kernel
theorem dX4_become_53 : decode cX4_become 53 = .ok (.getfield 18, 3) := by decide +kernel
theorem dX4_become_56 : decode cX4_become 56 = .ok (.iconst 0, 1) := by decide +kernel
theorem dX4_become_57 : decode cX4_become 57 = .ok (.aload_n 0, 1) := by decide +kernel
theorem dX4_become_58 : decode cX4_become 58 = .ok (.getfield 18, 3) := by decide +kernel
theorem dX4_become_61 : decode cX4_become 61 = .ok (.iconst 0, 1) := by decide +kernel
theorem dX4_become_62 : decode cX4_become 62 = .ok (.aload_n 0, 1) := by decide +kernel
theorem dX4_become_63 : decode cX4_become 63 = .ok (.getfield 18, 3) := by decide +kernel
theorem dX4_become_66 : decode cX4_become 66 = .ok (.arraylength, 1) := by decide +kernel
theorem dX4_become_67 : decode cX4_become 67 = .ok (.invokestatic 34, 3) := by decide +kernel
theorem dX4_become_70 : decode cX4_become 70 = .ok (.return_, 1) := by decide +kernel
theorem dX4_become_8 : decode cX4_become 8 = .ok (.aload_n 1, 1) := by decide +kernel
theorem dX4_become_9 : decode cX4_become 9 = .ok (.getfield 11, 3) := by decide +kernel
theorem dX4_reset_0 : decode cX4_reset 0 = .ok (.aload_n 0, 1) := by decide +kernel
theorem dX4_reset_1 : decode cX4_reset 1 = .ok (.iconst 0, 1) := by decide +kernel
theorem dX4_reset_10 : decode cX4_reset 10 = .ok (.aload_n 0, 1) := by decide +kernel
theorem dX4_reset_11 : decode cX4_reset 11 = .ok (.getfield 18, 3) := by decide +kernel
theorem dX4_reset_14 : decode cX4_reset 14 = .ok (.iconst 1, 1) := by decide +kernel
theorem dX4_reset_15 : decode cX4_reset 15 = .ok (.invokestatic 28, 3) := by decide +kernel
theorem dX4_reset_18 : decode cX4_reset 18 = .ok (.return_, 1) := by decide +kernel
theorem dX4_reset_2 : decode cX4_reset 2 = .ok (.putfield 21, 3) := by decide +kernel
theorem dX4_reset_5 : decode cX4_reset 5 = .ok (.aload_n 0, 1) := by decide +kernel
theorem dX4_reset_6 : decode cX4_reset 6 = .ok (.iconst 0, 1) := by decide +kernel
theorem dX4_reset_7 : decode cX4_reset 7 = .ok (.putfield 25, 3) := by decide +kernel
def vs_c_become : List Cond := .code yX0_become cX0_become 5 none :: (([.fieldLink RX0 15 "KerbSplash$Car" "row" "I", .fieldLink RX0 19 "KerbSplash$Car" "pace" "I", .fieldLink RX0 22 "KerbSplash$Car" "tyre" "I", .fieldLink RX0 25 "KerbSplash$Car" "kind" "I"] : List Cond) ++ ((wsX00) ++ ([])))
theorem gd_c_become : vs_c_become.all goodWord = true := gd_C (by decide +kernel) (gd_A (by decide +kernel) (gd_A (by decide +kernel) rfl))
set_option maxHeartbeats 4000000 in
set_option maxRecDepth 100000 in
theorem c_become (l : Launch) (hl : l.stackTraces = false) (D : va_G) (cy : Nat → ClassId) (sa : Nat → Nat) (ca na : Nat) (crow cpace ctyre ckind crt cpt : Int) (p1 p2 p3 p4 : Int) (sz : Nat) (hr_crow : 0 ≤ crow ∧ crow ≤ 5) (hr_cpace : (-2147483648) ≤ cpace ∧ cpace ≤ 2147483647) (hr_ctyre : (-2147483648) ≤ ctyre ∧ ctyre ≤ 2147483647) (hr_ckind : (-2147483648) ≤ ckind ∧ ckind ≤ 2147483647) (hr_crt : 0 ≤ crt ∧ crt ≤ 5) (hr_cpt : (-2147483648) ≤ cpt ∧ cpt ≤ 2147483647) (hr_p1 : 0 ≤ p1 ∧ p1 ≤ 5) (hr_p2 : (-2147483648) ≤ p2 ∧ p2 ≤ 2147483647) (hr_p3 : (-2147483648) ≤ p3 ∧ p3 ≤ 2147483647) (hr_p4 : (-2147483648) ≤ p4 ∧ p4 ≤ 2147483647) : Met l yX0_become vs_c_become ({ frames := 0, cells := 0, slots := 0, locals := 0 }) (va_Pc [vR ca, vI p1, vI p2, vI p3, vI p4] (pcW D cy sa sz [zO ca 0 [vR na, vI crow, vI cpace, vI ctyre, vI ckind, vI crt, vI cpt]])) (va_Qv (fun u : SV => True) (fun u t => atW D (va_A [zO ca 0 [vR na, vI crow, vI cpace, vI ctyre, vI ckind, vI crt, vI cpt]] sz) [zO ca 0 [vR na, vI p1, vI p2, vI p3, vI p4, vI crt, vI cpt]] t) (va_A [zO ca 0 [vR na, vI crow, vI cpace, vI ctyre, vI ckind, vI crt, vI cpt]] sz)) 0 0 (va_A [zO ca 0 [vR na, vI crow, vI cpace, vI ctyre, vI ckind, vI crt, vI cpt]] sz) := by
  refine Met.ofW (cc := cX0_become) (maxL := 5) (ret := none) (by decide) rfl ?_
  intro p e s m args below meth c s₁ B hml hv
  obtain ⟨rfl, hsz, hP, hG, hD0, hT⟩ := hv
  have hx := B.exec
  have hb := B.bytes
  have hr := B.returns
  have hts := atoms_spec (ws := vs_c_become) B.pre
  have hown : s.vm.findClass RX0 = some m.cls := findClass_of_methodNamed B.named
  have hlocks := B.notSynchronized
  subst hsz
  have hD := hD0.self (sz := s.heap.size)
  generalize hAe : va_A [zO ca 0 [vR na, vI crow, vI cpace, vI ctyre, vI ckind, vI crt, vI cpt]] s.heap.size = A at hD hT ⊢
  have hA : ∀ q : Nat, s.heap.size ≤ q → A q := fun q h => by rw [← hAe]; exact Or.inr h
  have hS : va_S A s.heap s.heap [] := va_S.rf
  have hl0 := lv_entry ([vR ca, vI p1, vI p2, vI p3, vI p4]) (n := 5) (Nat.le_of_ble_eq_true rfl)
  rw [lg_entry_eq]
  generalize (lg_sl ([vR ca, vI p1, vI p2, vI p3, vI p4]) ++ List.replicate (5 - (lg_sl ([vR ca, vI p1, vI p2, vI p3, vI p4])).length) Slot.unset).toArray = ls at hl0 ⊢
  have hlv : lv_has ls 5 [(0, vR ca), (1, vI p1), (2, vI p2), (3, vI p3), (4, vI p4)] := hl0
  have lf15 := hts (.fieldLink RX0 15 "KerbSplash$Car" "row" "I") (List.mem_of_getElem? (i := 1) rfl)
  have hi0 : ∀ w ∈ wsX00, w ∈ vs_c_become := fun w h => List.mem_cons_of_mem _ (List.mem_append_right _ (List.mem_append_left _ h))
  have lf19 := hts (.fieldLink RX0 19 "KerbSplash$Car" "pace" "I") (List.mem_of_getElem? (i := 2) rfl)
  have lf22 := hts (.fieldLink RX0 22 "KerbSplash$Car" "tyre" "I") (List.mem_of_getElem? (i := 3) rfl)
  have lf25 := hts (.fieldLink RX0 25 "KerbSplash$Car" "kind" "I") (List.mem_of_getElem? (i := 4) rfl)
  refine lv_aload_n hx hb dX0_become_0 rfl (lv_at hlv 0 rfl) ?_
  refine lv_iload_n hx hb dX0_become_1 rfl (lv_at hlv 1 rfl) ?_
  refine va_put (D := D) (ci := 0) (v := vI p1) (ty := .int) (C := RX0) (T := TX0) (N := 7) hx hb hts hi0 tyX0 tyX0_ok nmX0 hown hG.1 hP hD hS 0 rfl rfl 1 (by decide) lf15 (fun _ h9 => h9) rfl (by decide +kernel) rfl rfl (Nat.le_of_ble_eq_true rfl) dX0_become_2 (fun H locs hP hD hS => ?_)
  have hP : va_P D vwCl [zO ca 0 [vR na, vI p1, vI cpace, vI ctyre, vI ckind, vI crt, vI cpt]] H := hP
  have hD : va_D A [zO ca 0 [vR na, vI p1, vI cpace, vI ctyre, vI ckind, vI crt, vI cpt]] := hD
  refine lv_aload_n hx hb dX0_become_5 rfl (lv_at hlv 0 rfl) ?_
  refine lv_iload_n hx hb dX0_become_6 rfl (lv_at hlv 2 rfl) ?_
  refine va_put (D := D) (ci := 0) (v := vI p2) (ty := .int) (C := RX0) (T := TX0) (N := 7) hx hb hts hi0 tyX0 tyX0_ok nmX0 hown hG.1 hP hD hS 0 rfl rfl 2 (by decide) lf19 (fun _ h9 => h9) rfl (by decide +kernel) rfl rfl (Nat.le_of_ble_eq_true rfl) dX0_become_7 (fun H locs hP hD hS => ?_)
  have hP : va_P D vwCl [zO ca 0 [vR na, vI p1, vI p2, vI ctyre, vI ckind, vI crt, vI cpt]] H := hP
  have hD : va_D A [zO ca 0 [vR na, vI p1, vI p2, vI ctyre, vI ckind, vI crt, vI cpt]] := hD
  refine lv_aload_n hx hb dX0_become_10 rfl (lv_at hlv 0 rfl) ?_
  refine lv_iload_n hx hb dX0_become_11 rfl (lv_at hlv 3 rfl) ?_
  refine va_put (D := D) (ci := 0) (v := vI p3) (ty := .int) (C := RX0) (T := TX0) (N := 7) hx hb hts hi0 tyX0 tyX0_ok nmX0 hown hG.1 hP hD hS 0 rfl rfl 3 (by decide) lf22 (fun _ h9 => h9) rfl (by decide +kernel) rfl rfl (Nat.le_of_ble_eq_true rfl) dX0_become_12 (fun H locs hP hD hS => ?_)
  have hP : va_P D vwCl [zO ca 0 [vR na, vI p1, vI p2, vI p3, vI ckind, vI crt, vI cpt]] H := hP
  have hD : va_D A [zO ca 0 [vR na, vI p1, vI p2, vI p3, vI ckind, vI crt, vI cpt]] := hD
  refine lv_aload_n hx hb dX0_become_15 rfl (lv_at hlv 0 rfl) ?_
  refine lv_iload hx hb dX0_become_16 (lv_at hlv 4 rfl) ?_
  refine va_put (D := D) (ci := 0) (v := vI p4) (ty := .int) (C := RX0) (T := TX0) (N := 7) hx hb hts hi0 tyX0 tyX0_ok nmX0 hown hG.1 hP hD hS 0 rfl rfl 4 (by decide) lf25 (fun _ h9 => h9) rfl (by decide +kernel) rfl rfl (Nat.le_of_ble_eq_true rfl) dX0_become_18 (fun H locs hP hD hS => ?_)
  have hP : va_P D vwCl [zO ca 0 [vR na, vI p1, vI p2, vI p3, vI p4, vI crt, vI cpt]] H := hP
  have hD : va_D A [zO ca 0 [vR na, vI p1, vI p2, vI p3, vI p4, vI crt, vI cpt]] := hD
  refine W.widen (k := 0) (n := 0) (Nat.le_of_ble_eq_true rfl) (Nat.le_of_ble_eq_true rfl) ?_
  exact W.vret hx hb hr (fun t ht hW => ⟨⟨((fun k => ([] : List Nat).getD k 0), (fun k => ([] : List Int).getD k 0), (fun k => ([] : List (Nat → Int32)).getD k (fun _ => 0))), rfl, trivial, by rw [ht]; exact hP.sub [0] rfl, hD.sub [0] (by decide) rfl⟩, hS.F ht⟩) hS.2.2 dX0_become_21
def vs_c_see : List Cond := .code yX0_see cX0_see 4 none :: (([.fieldLink RX0 47 "KerbSplash$Car" "rowThere" "I", .fieldLink RX0 9 "KerbSplash$Car" "names" "[I", .initialized RX6, .instanceMethod yX6_index, .selects RX6 yX6_index yX6_index] : List Cond) ++ ((wsX00) ++ ((wsX60) ++ ((vs_s_index) ++ ([])))))
theorem gd_c_see : vs_c_see.all goodWord = true := gd_C (by decide +kernel) (gd_A (by decide +kernel) (gd_A (by decide +kernel) (gd_A (by decide +kernel) (gd_A gd_s_index rfl))))
set_option maxHeartbeats 4000000 in
set_option maxRecDepth 100000 in
theorem c_see (l : Launch) (hl : l.stackTraces = false) (D : va_G) (cy : Nat → ClassId) (sa : Nat → Nat) (ca na : Nat) (crow cpace ctyre ckind crt cpt : Int) (sA s2 s3 s6 s8 s11 s13 : Nat) (wi ro dr dt pe gu sh wo dn mi fl tk go : Int) (nf wf : Nat → Int32) (x y : Int) (sz : Nat) (hr_crow : 0 ≤ crow ∧ crow ≤ 5) (hr_cpace : (-2147483648) ≤ cpace ∧ cpace ≤ 2147483647) (hr_ctyre : (-2147483648) ≤ ctyre ∧ ctyre ≤ 2147483647) (hr_ckind : (-2147483648) ≤ ckind ∧ ckind ≤ 2147483647) (hr_crt : 0 ≤ crt ∧ crt ≤ 5) (hr_cpt : (-2147483648) ≤ cpt ∧ cpt ≤ 2147483647) (hr_wi : 0 ≤ wi ∧ wi ≤ 16) (hr_ro : 0 ≤ ro ∧ ro ≤ 6) (hr_dr : 0 ≤ dr ∧ dr ≤ 14) (hr_dt : 0 ≤ dt ∧ dt ≤ 6) (hr_pe : 0 ≤ pe ∧ pe ≤ 8) (hr_gu : 0 ≤ gu ∧ gu ≤ 20) (hr_sh : 0 ≤ sh ∧ sh ≤ 2) (hr_wo : 0 ≤ wo ∧ wo ≤ 8) (hr_dn : (-2147483648) ≤ dn ∧ dn ≤ 2147483647) (hr_mi : 0 ≤ mi ∧ mi ≤ 600) (hr_fl : (-2147483648) ≤ fl ∧ fl ≤ 2147483647) (hr_tk : (-2147483648) ≤ tk ∧ tk ≤ 2147483647) (hr_go : (-2147483648) ≤ go ∧ go ≤ 2147483647) (hr_x : 0 ≤ x ∧ x ≤ 15) (hr_y : 0 ≤ y ∧ y ≤ 5) : Met l yX0_see vs_c_see ({ frames := 1, cells := 0, slots := 0, locals := 22 }) (va_Pc [vR ca, vR sA, vI x, vI y] (pcW D cy sa sz [zO ca 0 [vR na, vI crow, vI cpace, vI ctyre, vI ckind, vI crt, vI cpt], zI na (cy 0) 7 nf, zO sA 6 [vI wi, vI ro, vR s2, vR s3, vI dr, vI dt, vR s6, vI pe, vR s8, vI gu, vI sh, vR s11, vI wo, vR s13, vI dn, vI mi, vI fl, vI tk, vI go], zI s3 (cy 0) 96 wf])) (va_Qv (fun u : SV => True) (fun u t => atW D (va_A [zO ca 0 [vR na, vI crow, vI cpace, vI ctyre, vI ckind, vI crt, vI cpt], zI na (cy 0) 7 nf, zO sA 6 [vI wi, vI ro, vR s2, vR s3, vI dr, vI dt, vR s6, vI pe, vR s8, vI gu, vI sh, vR s11, vI wo, vR s13, vI dn, vI mi, vI fl, vI tk, vI go], zI s3 (cy 0) 96 wf] sz) [zO ca 0 [vR na, vI crow, vI cpace, vI ctyre, vI ckind, vI y, vI cpt], zI na (cy 0) 7 (u.2.2 0), zO sA 6 [vI wi, vI ro, vR s2, vR s3, vI dr, vI dt, vR s6, vI pe, vR s8, vI gu, vI sh, vR s11, vI wo, vR s13, vI dn, vI mi, vI fl, vI tk, vI go], zI s3 (cy 0) 96 wf] t) (va_A [zO ca 0 [vR na, vI crow, vI cpace, vI ctyre, vI ckind, vI crt, vI cpt], zI na (cy 0) 7 nf, zO sA 6 [vI wi, vI ro, vR s2, vR s3, vI dr, vI dt, vR s6, vI pe, vR s8, vI gu, vI sh, vR s11, vI wo, vR s13, vI dn, vI mi, vI fl, vI tk, vI go], zI s3 (cy 0) 96 wf] sz)) 0 0 (va_A [zO ca 0 [vR na, vI crow, vI cpace, vI ctyre, vI ckind, vI crt, vI cpt], zI na (cy 0) 7 nf, zO sA 6 [vI wi, vI ro, vR s2, vR s3, vI dr, vI dt, vR s6, vI pe, vR s8, vI gu, vI sh, vR s11, vI wo, vR s13, vI dn, vI mi, vI fl, vI tk, vI go], zI s3 (cy 0) 96 wf] sz) := by
  refine Met.ofW (cc := cX0_see) (maxL := 4) (ret := none) (by decide) rfl ?_
  intro p e s m args below meth c s₁ B hml hv
  obtain ⟨rfl, hsz, hP, hG, hD0, hT⟩ := hv
  have hx := B.exec
  have hb := B.bytes
  have hr := B.returns
  have hts := atoms_spec (ws := vs_c_see) B.pre
  have hown : s.vm.findClass RX0 = some m.cls := findClass_of_methodNamed B.named
  have hlocks := B.notSynchronized
  subst hsz
  have hD := hD0.self (sz := s.heap.size)
  generalize hAe : va_A [zO ca 0 [vR na, vI crow, vI cpace, vI ctyre, vI ckind, vI crt, vI cpt], zI na (cy 0) 7 nf, zO sA 6 [vI wi, vI ro, vR s2, vR s3, vI dr, vI dt, vR s6, vI pe, vR s8, vI gu, vI sh, vR s11, vI wo, vR s13, vI dn, vI mi, vI fl, vI tk, vI go], zI s3 (cy 0) 96 wf] s.heap.size = A at hD hT ⊢
  have hA : ∀ q : Nat, s.heap.size ≤ q → A q := fun q h => by rw [← hAe]; exact Or.inr h
  have hS : va_S A s.heap s.heap [] := va_S.rf
  have hl0 := lv_entry ([vR ca, vR sA, vI x, vI y]) (n := 4) (Nat.le_of_ble_eq_true rfl)
  rw [lg_entry_eq]
  generalize (lg_sl ([vR ca, vR sA, vI x, vI y]) ++ List.replicate (4 - (lg_sl ([vR ca, vR sA, vI x, vI y])).length) Slot.unset).toArray = ls at hl0 ⊢
  have hlv : lv_has ls 4 [(0, vR ca), (1, vR sA), (2, vI x), (3, vI y)] := hl0
  have lf47 := hts (.fieldLink RX0 47 "KerbSplash$Car" "rowThere" "I") (List.mem_of_getElem? (i := 1) rfl)
  have hi0 : ∀ w ∈ wsX00, w ∈ vs_c_see := fun w h => List.mem_cons_of_mem _ (List.mem_append_right _ (List.mem_append_left _ h))
  have lf9 := hts (.fieldLink RX0 9 "KerbSplash$Car" "names" "[I") (List.mem_of_getElem? (i := 2) rfl)
  have hi6 : ∀ w ∈ wsX60, w ∈ vs_c_see := fun w h => List.mem_cons_of_mem _ (List.mem_append_right _ (List.mem_append_right _ (List.mem_append_left _ h)))
  have gg_2 : GoodIn vs_c_see (vs_s_index) := goodIn_sub (fun w h => List.mem_cons_of_mem _ (List.mem_append_right _ (List.mem_append_right _ (List.mem_append_right _ (List.mem_append_left _ h))))) gd_s_index
  have ini_RX6 := hts (.initialized RX6) (List.mem_of_getElem? (i := 3) rfl)
  have im_X6_index := hts (.instanceMethod yX6_index) (List.mem_of_getElem? (i := 4) rfl)
  have se_X6_index := hts (.selects RX6 yX6_index yX6_index) (List.mem_of_getElem? (i := 5) rfl)
  refine lv_aload_n hx hb dX0_see_0 rfl (lv_at hlv 0 rfl) ?_
  refine lv_iload_n hx hb dX0_see_1 rfl (lv_at hlv 3 rfl) ?_
  refine va_put (D := D) (ci := 0) (v := vI y) (ty := .int) (C := RX0) (T := TX0) (N := 7) hx hb hts hi0 tyX0 tyX0_ok nmX0 hown hG.1 hP hD hS 0 rfl rfl 5 (by decide) lf47 (fun _ h9 => h9) rfl (by decide +kernel) rfl rfl (Nat.le_of_ble_eq_true rfl) dX0_see_2 (fun H locs hP hD hS => ?_)
  have hP : va_P D vwCl [zO ca 0 [vR na, vI crow, vI cpace, vI ctyre, vI ckind, vI y, vI cpt], zI na (cy 0) 7 nf, zO sA 6 [vI wi, vI ro, vR s2, vR s3, vI dr, vI dt, vR s6, vI pe, vR s8, vI gu, vI sh, vR s11, vI wo, vR s13, vI dn, vI mi, vI fl, vI tk, vI go], zI s3 (cy 0) 96 wf] H := hP
  have hD : va_D A [zO ca 0 [vR na, vI crow, vI cpace, vI ctyre, vI ckind, vI y, vI cpt], zI na (cy 0) 7 nf, zO sA 6 [vI wi, vI ro, vR s2, vR s3, vI dr, vI dt, vR s6, vI pe, vR s8, vI gu, vI sh, vR s11, vI wo, vR s13, vI dn, vI mi, vI fl, vI tk, vI go], zI s3 (cy 0) 96 wf] := hD
  refine lv_aload_n hx hb dX0_see_5 rfl (lv_at hlv 0 rfl) ?_
  refine va_get (D := D) (ci := 0) (v := vR na) (C := RX0) (T := TX0) (N := 7) hx hb hts hi0 hown hG.1 hP 0 rfl rfl 0 (by decide) lf9 (fun _ h9 => h9) rfl dX0_see_6 ?_
  refine lv_iconst (v := iI 3) hx hb dX0_see_9 (by decide) ?_
  refine lv_iload_n hx hb dX0_see_10 rfl (lv_at hlv 3 rfl) ?_
  refine va_iast hx hb hG.1 hP hD hS 1 0 rfl rfl (iI_in (by omega) (by decide)) dX0_see_11 (fun H locs hP hD hS => ?_)
  have ⟨f_1, hP, hD⟩ : ∃ f_1 : Nat → Int32, va_P D vwCl [zO ca 0 [vR na, vI crow, vI cpace, vI ctyre, vI ckind, vI y, vI cpt], zI na (cy 0) 7 f_1, zO sA 6 [vI wi, vI ro, vR s2, vR s3, vI dr, vI dt, vR s6, vI pe, vR s8, vI gu, vI sh, vR s11, vI wo, vR s13, vI dn, vI mi, vI fl, vI tk, vI go], zI s3 (cy 0) 96 wf] H ∧ va_D A [zO ca 0 [vR na, vI crow, vI cpace, vI ctyre, vI ckind, vI y, vI cpt], zI na (cy 0) 7 f_1, zO sA 6 [vI wi, vI ro, vR s2, vR s3, vI dr, vI dt, vR s6, vI pe, vR s8, vI gu, vI sh, vR s11, vI wo, vR s13, vI dn, vI mi, vI fl, vI tk, vI go], zI s3 (cy 0) 96 wf] := ⟨_, hP, hD⟩
  refine lv_aload_n hx hb dX0_see_12 rfl (lv_at hlv 0 rfl) ?_
  refine va_get (D := D) (ci := 0) (v := vR na) (C := RX0) (T := TX0) (N := 7) hx hb hts hi0 hown hG.1 hP 0 rfl rfl 0 (by decide) lf9 (fun _ h9 => h9) rfl dX0_see_13 ?_
  refine lv_iconst (v := iI 0) hx hb dX0_see_16 (by decide) ?_
  refine lv_aload_n hx hb dX0_see_17 rfl (lv_at hlv 1 rfl) ?_
  refine va_getN (D := D) (ci := 6) (v := vR s3) (C := RX6) (T := TX6) (N := 19) hx hb hts hi6 hown hG.1 hP 2 rfl rfl 3 (by decide) (va_Nw.use rfl (nF_Car_72 hG.2.1)) (fun _ h9 => h9) rfl dX0_see_18 ?_
  refine lv_aload_n hx hb dX0_see_21 rfl (lv_at hlv 1 rfl) ?_
  refine lv_iload_n hx hb dX0_see_22 rfl (lv_at hlv 2 rfl) ?_
  refine lv_iload_n hx hb dX0_see_23 rfl (lv_at hlv 3 rfl) ?_
  refine cj_i (wr := [zO ca 0 [vR na, vI crow, vI cpace, vI ctyre, vI ckind, vI y, vI cpt], zI na (cy 0) 7 f_1, zI s3 (cy 0) 96 wf]) (va_runVN (host := "KerbSplash") (As := [vI x, vI y]) (rest := [vR s3, vI 0, vR na]) ⟨hx, hb, hml, hown, hts⟩ (s_index l hl D cy sa sA s2 s3 s6 s8 s11 s13 wi ro dr dt pe gu sh wo dn mi fl tk go x y H.size (by first | exact hr_wi | omega) (by first | exact hr_ro | omega) (by first | exact hr_dr | omega) (by first | exact hr_dt | omega) (by first | exact hr_pe | omega) (by first | exact hr_gu | omega) (by first | exact hr_sh | omega) (by first | exact hr_wo | omega) (by first | exact hr_dn | omega) (by first | exact hr_mi | omega) (by first | exact hr_fl | omega) (by first | exact hr_tk | omega) (by first | exact hr_go | omega) (by first | exact hr_x | omega) (by first | exact hr_y | omega)) ⟨va_cnB 2 hts gg_2 rfl rfl rfl (nM_Car_75 hG.2.1) ini_RX6 (by decide +kernel) ⟨Nat.le_of_ble_eq_true rfl, Nat.le_of_ble_eq_true rfl⟩, im_X6_index, se_X6_index⟩ ⟨pcW.blind, (va_recv hG.1 hP (ci := 6) (q0 := 2) rfl rfl), (pcW.mk hP hD hS hA hG hT [2] rfl (by decide))⟩ rfl rfl hlv.1 rfl (lv_room (Nat.le_of_ble_eq_true rfl)) dX0_see_24 ⟨Nat.le_of_ble_eq_true rfl, Nat.le_of_ble_eq_true rfl⟩) hP hD hS hA [2] [0, 1, 3] rfl rfl (by decide) (by decide) (fun r1 u1 H locs hw1 hP hD hS => ?_)
  obtain ⟨rfl, hq1_1⟩ := hw1
  have hP : va_P D vwCl [zO ca 0 [vR na, vI crow, vI cpace, vI ctyre, vI ckind, vI y, vI cpt], zI na (cy 0) 7 f_1, zI s3 (cy 0) 96 wf, zO sA 6 [vI wi, vI ro, vR s2, vR s3, vI dr, vI dt, vR s6, vI pe, vR s8, vI gu, vI sh, vR s11, vI wo, vR s13, vI dn, vI mi, vI fl, vI tk, vI go]] H := hP
  have hD : va_D A [zO ca 0 [vR na, vI crow, vI cpace, vI ctyre, vI ckind, vI y, vI cpt], zI na (cy 0) 7 f_1, zI s3 (cy 0) 96 wf, zO sA 6 [vI wi, vI ro, vR s2, vR s3, vI dr, vI dt, vR s6, vI pe, vR s8, vI gu, vI sh, vR s11, vI wo, vR s13, vI dn, vI mi, vI fl, vI tk, vI go]] := hD
  refine va_iald hx hb hG.1 hP 2 0 rfl rfl (iI_in (by omega) (by decide)) dX0_see_27 ?_
  refine lt_z (fun z_2 ez_2 lz_2 hz_2 => ?_)
  refine va_iast hx hb hG.1 hP hD hS 1 0 rfl rfl (iI_in (by omega) (by decide)) dX0_see_28 (fun H locs hP hD hS => ?_)
  have ⟨f_3, hP, hD⟩ : ∃ f_3 : Nat → Int32, va_P D vwCl [zO ca 0 [vR na, vI crow, vI cpace, vI ctyre, vI ckind, vI y, vI cpt], zI na (cy 0) 7 f_3, zI s3 (cy 0) 96 wf, zO sA 6 [vI wi, vI ro, vR s2, vR s3, vI dr, vI dt, vR s6, vI pe, vR s8, vI gu, vI sh, vR s11, vI wo, vR s13, vI dn, vI mi, vI fl, vI tk, vI go]] H ∧ va_D A [zO ca 0 [vR na, vI crow, vI cpace, vI ctyre, vI ckind, vI y, vI cpt], zI na (cy 0) 7 f_3, zI s3 (cy 0) 96 wf, zO sA 6 [vI wi, vI ro, vR s2, vR s3, vI dr, vI dt, vR s6, vI pe, vR s8, vI gu, vI sh, vR s11, vI wo, vR s13, vI dn, vI mi, vI fl, vI tk, vI go]] := ⟨_, hP, hD⟩
  refine W.widen (k := 0) (n := 0) (Nat.le_of_ble_eq_true rfl) (Nat.le_of_ble_eq_true rfl) ?_
  exact W.vret hx hb hr (fun t ht hW => ⟨⟨((fun k => ([] : List Nat).getD k 0), (fun k => ([] : List Int).getD k 0), (fun k => ([f_3] : List (Nat → Int32)).getD k (fun _ => 0))), rfl, trivial, by rw [ht]; exact hP.sub [0, 1, 3, 2] rfl, hD.sub [0, 1, 3, 2] (by decide) rfl⟩, hS.F ht⟩) hS.2.2 dX0_see_29
def vs_c_come : List Cond := .code yX0_come cX0_come 6 none :: (([.fieldLink RX0 9 "KerbSplash$Car" "names" "[I", .fieldLink RX0 22 "KerbSplash$Car" "tyre" "I", .initialized RX6, .instanceMethod yX6_peopleAt, .selects RX6 yX6_peopleAt yX6_peopleAt, .fieldLink RX0 19 "KerbSplash$Car" "pace" "I", .fieldLink RX0 25 "KerbSplash$Car" "kind" "I", .fieldLink RX0 15 "KerbSplash$Car" "row" "I", .fieldLink RX0 69 "KerbSplash$Car" "paceThere" "I", .initialized RX1, .instanceMethod yX1_value, .selects RX1 yX1_value yX1_value, .initialized RX11, .static yX11_held] : List Cond) ++ ((wsX00) ++ ((vs_s_peopleAt) ++ ((wsV RX0 62 RX0 yX0_see vs_c_see) ++ ((vs_w_value) ++ ((vs_s_held) ++ ((wsX60) ++ ([]))))))))
theorem gd_c_come : vs_c_come.all goodWord = true := gd_C (by decide +kernel) (gd_A (by decide +kernel) (gd_A (by decide +kernel) (gd_A gd_s_peopleAt (gd_A (gd_V gd_c_see (by decide +kernel)) (gd_A gd_w_value (gd_A gd_s_held (gd_A (by decide +kernel) rfl)))))))
set_option maxHeartbeats 4000000 in
set_option maxRecDepth 100000 in
theorem c_come (l : Launch) (hl : l.stackTraces = false) (D : va_G) (cy : Nat → ClassId) (sa : Nat → Nat) (ca na : Nat) (crow cpace ctyre ckind crt cpt : Int) (sA s2 s3 s6 s8 s11 s13 : Nat) (wi ro dr dt pe gu sh wo dn mi fl tk go : Int) (xl xh : Int) (nf wf pf : Nat → Int32) (la l0 l2 l3 : Nat) (size : Int) (st sf vf : Nat → Int32) (x : Int) (sz : Nat) (hr_crow : 0 ≤ crow ∧ crow ≤ 5) (hr_cpace : (-2147483648) ≤ cpace ∧ cpace ≤ 2147483647) (hr_ctyre : (-2147483648) ≤ ctyre ∧ ctyre ≤ 2147483647) (hr_ckind : (-2147483648) ≤ ckind ∧ ckind ≤ 2147483647) (hr_crt : 0 ≤ crt ∧ crt ≤ 5) (hr_cpt : (-2147483648) ≤ cpt ∧ cpt ≤ 2147483647) (hr_wi : 0 ≤ wi ∧ wi ≤ 16) (hr_ro : 1 ≤ ro ∧ ro ≤ 6) (hr_dr : 0 ≤ dr ∧ dr ≤ 14) (hr_dt : 0 ≤ dt ∧ dt ≤ 6) (hr_pe : 0 ≤ pe ∧ pe ≤ 8) (hr_gu : 0 ≤ gu ∧ gu ≤ 20) (hr_sh : 0 ≤ sh ∧ sh ≤ 2) (hr_wo : 0 ≤ wo ∧ wo ≤ 8) (hr_dn : (-2147483648) ≤ dn ∧ dn ≤ 2147483647) (hr_mi : 0 ≤ mi ∧ mi ≤ 600) (hr_fl : (-2147483648) ≤ fl ∧ fl ≤ 2147483647) (hr_tk : (-2147483648) ≤ tk ∧ tk ≤ 2147483647) (hr_go : (-2147483648) ≤ go ∧ go ≤ 2147483647) (hr_xl : (-2147483648) ≤ xl ∧ xl ≤ 0) (hr_xh : 15 ≤ xh ∧ xh ≤ 2147483647) (hr_size : 0 ≤ size ∧ size ≤ 600) (hr_x : 0 ≤ x ∧ x ≤ 15) (hpf : tab_ 4 28 [xl, 0, (-2147483648), (-2147483648)] [xh, 19, 2147483647, 2147483647] pf) (hst : inv_ 600 0 2147483647 st) : Met l yX0_come vs_c_come ({ frames := 2, cells := 0, slots := 0, locals := 49 }) (va_Pc [vR ca, vR sA, vR la, vI x] (pcW D cy sa sz [zO ca 0 [vR na, vI crow, vI cpace, vI ctyre, vI ckind, vI crt, vI cpt], zI na (cy 0) 7 nf, zO sA 6 [vI wi, vI ro, vR s2, vR s3, vI dr, vI dt, vR s6, vI pe, vR s8, vI gu, vI sh, vR s11, vI wo, vR s13, vI dn, vI mi, vI fl, vI tk, vI go], zI s3 (cy 0) 96 wf, zI s8 (cy 0) 112 pf, zO la 1 [vR l0, vI size, vR l2, vR l3], zI l0 (cy 0) 600 st, zI l2 (cy 0) 5 sf, zI l3 (cy 0) 40 vf])) (va_Qv (fun u : SV => (0 ≤ u.2.1 0 ∧ u.2.1 0 ≤ 5) ∧ ((-2147483648) ≤ u.2.1 1 ∧ u.2.1 1 ≤ 2147483647) ∧ tab_ 4 28 [xl, 0, (-2147483648), (-2147483648)] [xh, 19, 2147483647, 2147483647] pf ∧ inv_ 600 0 2147483647 st) (fun u t => atW D (va_A [zO ca 0 [vR na, vI crow, vI cpace, vI ctyre, vI ckind, vI crt, vI cpt], zI na (cy 0) 7 nf, zO sA 6 [vI wi, vI ro, vR s2, vR s3, vI dr, vI dt, vR s6, vI pe, vR s8, vI gu, vI sh, vR s11, vI wo, vR s13, vI dn, vI mi, vI fl, vI tk, vI go], zI s3 (cy 0) 96 wf, zI s8 (cy 0) 112 pf, zO la 1 [vR l0, vI size, vR l2, vR l3], zI l0 (cy 0) 600 st, zI l2 (cy 0) 5 sf, zI l3 (cy 0) 40 vf] sz) [zO ca 0 [vR na, vI crow, vI cpace, vI ctyre, vI ckind, vI (u.2.1 0), vI (u.2.1 1)], zI na (cy 0) 7 (u.2.2 0), zO sA 6 [vI wi, vI ro, vR s2, vR s3, vI dr, vI dt, vR s6, vI pe, vR s8, vI gu, vI sh, vR s11, vI wo, vR s13, vI dn, vI mi, vI fl, vI tk, vI go], zI s3 (cy 0) 96 wf, zI s8 (cy 0) 112 pf, zO la 1 [vR l0, vI size, vR l2, vR l3], zI l0 (cy 0) 600 st, zI l2 (cy 0) 5 sf, zI l3 (cy 0) 40 (u.2.2 1)] t) (va_A [zO ca 0 [vR na, vI crow, vI cpace, vI ctyre, vI ckind, vI crt, vI cpt], zI na (cy 0) 7 nf, zO sA 6 [vI wi, vI ro, vR s2, vR s3, vI dr, vI dt, vR s6, vI pe, vR s8, vI gu, vI sh, vR s11, vI wo, vR s13, vI dn, vI mi, vI fl, vI tk, vI go], zI s3 (cy 0) 96 wf, zI s8 (cy 0) 112 pf, zO la 1 [vR l0, vI size, vR l2, vR l3], zI l0 (cy 0) 600 st, zI l2 (cy 0) 5 sf, zI l3 (cy 0) 40 vf] sz)) 0 0 (va_A [zO ca 0 [vR na, vI crow, vI cpace, vI ctyre, vI ckind, vI crt, vI cpt], zI na (cy 0) 7 nf, zO sA 6 [vI wi, vI ro, vR s2, vR s3, vI dr, vI dt, vR s6, vI pe, vR s8, vI gu, vI sh, vR s11, vI wo, vR s13, vI dn, vI mi, vI fl, vI tk, vI go], zI s3 (cy 0) 96 wf, zI s8 (cy 0) 112 pf, zO la 1 [vR l0, vI size, vR l2, vR l3], zI l0 (cy 0) 600 st, zI l2 (cy 0) 5 sf, zI l3 (cy 0) 40 vf] sz) := by
  refine Met.ofW (cc := cX0_come) (maxL := 6) (ret := none) (by decide) rfl ?_
  intro p e s m args below meth c s₁ B hml hv
  obtain ⟨rfl, hsz, hP, hG, hD0, hT⟩ := hv
  have hx := B.exec
  have hb := B.bytes
  have hr := B.returns
  have hts := atoms_spec (ws := vs_c_come) B.pre
  have hown : s.vm.findClass RX0 = some m.cls := findClass_of_methodNamed B.named
  have hlocks := B.notSynchronized
  subst hsz
  have hD := hD0.self (sz := s.heap.size)
  generalize hAe : va_A [zO ca 0 [vR na, vI crow, vI cpace, vI ctyre, vI ckind, vI crt, vI cpt], zI na (cy 0) 7 nf, zO sA 6 [vI wi, vI ro, vR s2, vR s3, vI dr, vI dt, vR s6, vI pe, vR s8, vI gu, vI sh, vR s11, vI wo, vR s13, vI dn, vI mi, vI fl, vI tk, vI go], zI s3 (cy 0) 96 wf, zI s8 (cy 0) 112 pf, zO la 1 [vR l0, vI size, vR l2, vR l3], zI l0 (cy 0) 600 st, zI l2 (cy 0) 5 sf, zI l3 (cy 0) 40 vf] s.heap.size = A at hD hT ⊢
  have hA : ∀ q : Nat, s.heap.size ≤ q → A q := fun q h => by rw [← hAe]; exact Or.inr h
  have hS : va_S A s.heap s.heap [] := va_S.rf
  have hl0 := lv_entry ([vR ca, vR sA, vR la, vI x]) (n := 6) (Nat.le_of_ble_eq_true rfl)
  rw [lg_entry_eq]
  generalize (lg_sl ([vR ca, vR sA, vR la, vI x]) ++ List.replicate (6 - (lg_sl ([vR ca, vR sA, vR la, vI x])).length) Slot.unset).toArray = ls at hl0 ⊢
  have hlv : lv_has ls 6 [(0, vR ca), (1, vR sA), (2, vR la), (3, vI x)] := hl0
  have lf9 := hts (.fieldLink RX0 9 "KerbSplash$Car" "names" "[I") (List.mem_of_getElem? (i := 1) rfl)
  have hi0 : ∀ w ∈ wsX00, w ∈ vs_c_come := fun w h => List.mem_cons_of_mem _ (List.mem_append_right _ (List.mem_append_left _ h))
  have lf22 := hts (.fieldLink RX0 22 "KerbSplash$Car" "tyre" "I") (List.mem_of_getElem? (i := 2) rfl)
  have gg_1 : GoodIn vs_c_come (vs_s_peopleAt) := goodIn_sub (fun w h => List.mem_cons_of_mem _ (List.mem_append_right _ (List.mem_append_right _ (List.mem_append_left _ h)))) gd_s_peopleAt
  have ini_RX6 := hts (.initialized RX6) (List.mem_of_getElem? (i := 3) rfl)
  have im_X6_peopleAt := hts (.instanceMethod yX6_peopleAt) (List.mem_of_getElem? (i := 4) rfl)
  have se_X6_peopleAt := hts (.selects RX6 yX6_peopleAt yX6_peopleAt) (List.mem_of_getElem? (i := 5) rfl)
  have lf19 := hts (.fieldLink RX0 19 "KerbSplash$Car" "pace" "I") (List.mem_of_getElem? (i := 6) rfl)
  have lf25 := hts (.fieldLink RX0 25 "KerbSplash$Car" "kind" "I") (List.mem_of_getElem? (i := 7) rfl)
  have lf15 := hts (.fieldLink RX0 15 "KerbSplash$Car" "row" "I") (List.mem_of_getElem? (i := 8) rfl)
  have gg_2 : GoodIn vs_c_come (wsV RX0 62 RX0 yX0_see vs_c_see) := goodIn_sub (fun w h => List.mem_cons_of_mem _ (List.mem_append_right _ (List.mem_append_right _ (List.mem_append_right _ (List.mem_append_left _ h))))) (gd_V gd_c_see (by decide +kernel))
  have lf69 := hts (.fieldLink RX0 69 "KerbSplash$Car" "paceThere" "I") (List.mem_of_getElem? (i := 9) rfl)
  have gg_3 : GoodIn vs_c_come (vs_w_value) := goodIn_sub (fun w h => List.mem_cons_of_mem _ (List.mem_append_right _ (List.mem_append_right _ (List.mem_append_right _ (List.mem_append_right _ (List.mem_append_left _ h)))))) gd_w_value
  have ini_RX1 := hts (.initialized RX1) (List.mem_of_getElem? (i := 10) rfl)
  have im_X1_value := hts (.instanceMethod yX1_value) (List.mem_of_getElem? (i := 11) rfl)
  have se_X1_value := hts (.selects RX1 yX1_value yX1_value) (List.mem_of_getElem? (i := 12) rfl)
  have gg_4 : GoodIn vs_c_come (vs_s_held) := goodIn_sub (fun w h => List.mem_cons_of_mem _ (List.mem_append_right _ (List.mem_append_right _ (List.mem_append_right _ (List.mem_append_right _ (List.mem_append_right _ (List.mem_append_left _ h))))))) gd_s_held
  have ini_RX11 := hts (.initialized RX11) (List.mem_of_getElem? (i := 13) rfl)
  have st_X11_held := hts (.static yX11_held) (List.mem_of_getElem? (i := 14) rfl)
  have hi6 : ∀ w ∈ wsX60, w ∈ vs_c_come := fun w h => List.mem_cons_of_mem _ (List.mem_append_right _ (List.mem_append_right _ (List.mem_append_right _ (List.mem_append_right _ (List.mem_append_right _ (List.mem_append_right _ (List.mem_append_left _ h)))))))
  refine lv_aload_n hx hb dX0_come_0 rfl (lv_at hlv 0 rfl) ?_
  refine va_get (D := D) (ci := 0) (v := vR na) (C := RX0) (T := TX0) (N := 7) hx hb hts hi0 hown hG.1 hP 0 rfl rfl 0 (by decide) lf9 (fun _ h9 => h9) rfl dX0_come_1 ?_
  refine lv_iconst (v := iI 2) hx hb dX0_come_4 (by decide) ?_
  refine lv_aload_n hx hb dX0_come_5 rfl (lv_at hlv 0 rfl) ?_
  refine va_get (D := D) (ci := 0) (v := vI ctyre) (C := RX0) (T := TX0) (N := 7) hx hb hts hi0 hown hG.1 hP 0 rfl rfl 3 (by decide) lf22 (fun _ h9 => h9) rfl dX0_come_6 ?_
  refine va_iast hx hb hG.1 hP hD hS 1 0 rfl rfl (iI_in (by omega) (by decide)) dX0_come_9 (fun H locs hP hD hS => ?_)
  have ⟨f_1, hP, hD⟩ : ∃ f_1 : Nat → Int32, va_P D vwCl [zO ca 0 [vR na, vI crow, vI cpace, vI ctyre, vI ckind, vI crt, vI cpt], zI na (cy 0) 7 f_1, zO sA 6 [vI wi, vI ro, vR s2, vR s3, vI dr, vI dt, vR s6, vI pe, vR s8, vI gu, vI sh, vR s11, vI wo, vR s13, vI dn, vI mi, vI fl, vI tk, vI go], zI s3 (cy 0) 96 wf, zI s8 (cy 0) 112 pf, zO la 1 [vR l0, vI size, vR l2, vR l3], zI l0 (cy 0) 600 st, zI l2 (cy 0) 5 sf, zI l3 (cy 0) 40 vf] H ∧ va_D A [zO ca 0 [vR na, vI crow, vI cpace, vI ctyre, vI ckind, vI crt, vI cpt], zI na (cy 0) 7 f_1, zO sA 6 [vI wi, vI ro, vR s2, vR s3, vI dr, vI dt, vR s6, vI pe, vR s8, vI gu, vI sh, vR s11, vI wo, vR s13, vI dn, vI mi, vI fl, vI tk, vI go], zI s3 (cy 0) 96 wf, zI s8 (cy 0) 112 pf, zO la 1 [vR l0, vI size, vR l2, vR l3], zI l0 (cy 0) 600 st, zI l2 (cy 0) 5 sf, zI l3 (cy 0) 40 vf] := ⟨_, hP, hD⟩
  refine lv_aload_n hx hb dX0_come_10 rfl (lv_at hlv 0 rfl) ?_
  refine va_get (D := D) (ci := 0) (v := vR na) (C := RX0) (T := TX0) (N := 7) hx hb hts hi0 hown hG.1 hP 0 rfl rfl 0 (by decide) lf9 (fun _ h9 => h9) rfl dX0_come_11 ?_
  refine lv_iconst (v := iI 5) hx hb dX0_come_14 (by decide) ?_
  refine lv_aload_n hx hb dX0_come_15 rfl (lv_at hlv 1 rfl) ?_
  refine lv_iload_n hx hb dX0_come_16 rfl (lv_at hlv 3 rfl) ?_
  refine cj_i (wr := [zO ca 0 [vR na, vI crow, vI cpace, vI ctyre, vI ckind, vI crt, vI cpt], zI na (cy 0) 7 f_1, zI s3 (cy 0) 96 wf, zO la 1 [vR l0, vI size, vR l2, vR l3], zI l0 (cy 0) 600 st, zI l2 (cy 0) 5 sf, zI l3 (cy 0) 40 vf]) (va_runVN (host := "KerbSplash") (As := [vI x]) (rest := [vI 5, vR na]) ⟨hx, hb, hml, hown, hts⟩ (s_peopleAt l hl D cy sa sA s2 s3 s6 s8 s11 s13 wi ro dr dt pe gu sh wo dn mi fl tk go xl xh pf x H.size (by first | exact hr_wi | omega) (by first | exact rgw hr_ro (by decide) (by decide) | omega) (by first | exact hr_dr | omega) (by first | exact hr_dt | omega) (by first | exact hr_pe | omega) (by first | exact hr_gu | omega) (by first | exact hr_sh | omega) (by first | exact hr_wo | omega) (by first | exact hr_dn | omega) (by first | exact hr_mi | omega) (by first | exact hr_fl | omega) (by first | exact hr_tk | omega) (by first | exact hr_go | omega) (by first | exact hr_xl | omega) (by first | exact hr_xh | omega) (by first | exact rgw hr_x (by decide) (by decide) | omega) hpf) ⟨va_cnB 1 hts gg_1 rfl rfl rfl (nM_Car_58 hG.2.1) ini_RX6 (by decide +kernel) ⟨Nat.le_of_ble_eq_true rfl, Nat.le_of_ble_eq_true rfl⟩, im_X6_peopleAt, se_X6_peopleAt⟩ ⟨pcW.blind, (va_recv hG.1 hP (ci := 6) (q0 := 2) rfl rfl), (pcW.mk hP hD hS hA hG hT [2, 4] rfl (by decide))⟩ rfl rfl hlv.1 rfl (lv_room (Nat.le_of_ble_eq_true rfl)) dX0_come_17 ⟨Nat.le_of_ble_eq_true rfl, Nat.le_of_ble_eq_true rfl⟩) hP hD hS hA [2, 4] [0, 1, 3, 5, 6, 7, 8] rfl rfl (by decide) (by decide) (fun r1 u1 H locs hw1 hP hD hS => ?_)
  obtain ⟨rfl, hq1_1, hq1_2⟩ := hw1
  have hP : va_P D vwCl [zO ca 0 [vR na, vI crow, vI cpace, vI ctyre, vI ckind, vI crt, vI cpt], zI na (cy 0) 7 f_1, zI s3 (cy 0) 96 wf, zO la 1 [vR l0, vI size, vR l2, vR l3], zI l0 (cy 0) 600 st, zI l2 (cy 0) 5 sf, zI l3 (cy 0) 40 vf, zO sA 6 [vI wi, vI ro, vR s2, vR s3, vI dr, vI dt, vR s6, vI pe, vR s8, vI gu, vI sh, vR s11, vI wo, vR s13, vI dn, vI mi, vI fl, vI tk, vI go], zI s8 (cy 0) 112 pf] H := hP
  have hD : va_D A [zO ca 0 [vR na, vI crow, vI cpace, vI ctyre, vI ckind, vI crt, vI cpt], zI na (cy 0) 7 f_1, zI s3 (cy 0) 96 wf, zO la 1 [vR l0, vI size, vR l2, vR l3], zI l0 (cy 0) 600 st, zI l2 (cy 0) 5 sf, zI l3 (cy 0) 40 vf, zO sA 6 [vI wi, vI ro, vR s2, vR s3, vI dr, vI dt, vR s6, vI pe, vR s8, vI gu, vI sh, vR s11, vI wo, vR s13, vI dn, vI mi, vI fl, vI tk, vI go], zI s8 (cy 0) 112 pf] := hD
  refine va_iast hx hb hG.1 hP hD hS 1 0 rfl rfl (iI_in (by omega) (by decide)) dX0_come_20 (fun H locs hP hD hS => ?_)
  have ⟨f_2, hP, hD⟩ : ∃ f_2 : Nat → Int32, va_P D vwCl [zO ca 0 [vR na, vI crow, vI cpace, vI ctyre, vI ckind, vI crt, vI cpt], zI na (cy 0) 7 f_2, zI s3 (cy 0) 96 wf, zO la 1 [vR l0, vI size, vR l2, vR l3], zI l0 (cy 0) 600 st, zI l2 (cy 0) 5 sf, zI l3 (cy 0) 40 vf, zO sA 6 [vI wi, vI ro, vR s2, vR s3, vI dr, vI dt, vR s6, vI pe, vR s8, vI gu, vI sh, vR s11, vI wo, vR s13, vI dn, vI mi, vI fl, vI tk, vI go], zI s8 (cy 0) 112 pf] H ∧ va_D A [zO ca 0 [vR na, vI crow, vI cpace, vI ctyre, vI ckind, vI crt, vI cpt], zI na (cy 0) 7 f_2, zI s3 (cy 0) 96 wf, zO la 1 [vR l0, vI size, vR l2, vR l3], zI l0 (cy 0) 600 st, zI l2 (cy 0) 5 sf, zI l3 (cy 0) 40 vf, zO sA 6 [vI wi, vI ro, vR s2, vR s3, vI dr, vI dt, vR s6, vI pe, vR s8, vI gu, vI sh, vR s11, vI wo, vR s13, vI dn, vI mi, vI fl, vI tk, vI go], zI s8 (cy 0) 112 pf] := ⟨_, hP, hD⟩
  refine lv_aload_n hx hb dX0_come_21 rfl (lv_at hlv 0 rfl) ?_
  refine va_get (D := D) (ci := 0) (v := vR na) (C := RX0) (T := TX0) (N := 7) hx hb hts hi0 hown hG.1 hP 0 rfl rfl 0 (by decide) lf9 (fun _ h9 => h9) rfl dX0_come_22 ?_
  refine lv_iconst (v := iI 4) hx hb dX0_come_25 (by decide) ?_
  refine lv_iconst (v := iI 0) hx hb dX0_come_26 (by decide) ?_
  refine va_iast hx hb hG.1 hP hD hS 1 0 rfl rfl (iI_in (by omega) (by decide)) dX0_come_27 (fun H locs hP hD hS => ?_)
  have ⟨f_3, hP, hD⟩ : ∃ f_3 : Nat → Int32, va_P D vwCl [zO ca 0 [vR na, vI crow, vI cpace, vI ctyre, vI ckind, vI crt, vI cpt], zI na (cy 0) 7 f_3, zI s3 (cy 0) 96 wf, zO la 1 [vR l0, vI size, vR l2, vR l3], zI l0 (cy 0) 600 st, zI l2 (cy 0) 5 sf, zI l3 (cy 0) 40 vf, zO sA 6 [vI wi, vI ro, vR s2, vR s3, vI dr, vI dt, vR s6, vI pe, vR s8, vI gu, vI sh, vR s11, vI wo, vR s13, vI dn, vI mi, vI fl, vI tk, vI go], zI s8 (cy 0) 112 pf] H ∧ va_D A [zO ca 0 [vR na, vI crow, vI cpace, vI ctyre, vI ckind, vI crt, vI cpt], zI na (cy 0) 7 f_3, zI s3 (cy 0) 96 wf, zO la 1 [vR l0, vI size, vR l2, vR l3], zI l0 (cy 0) 600 st, zI l2 (cy 0) 5 sf, zI l3 (cy 0) 40 vf, zO sA 6 [vI wi, vI ro, vR s2, vR s3, vI dr, vI dt, vR s6, vI pe, vR s8, vI gu, vI sh, vR s11, vI wo, vR s13, vI dn, vI mi, vI fl, vI tk, vI go], zI s8 (cy 0) 112 pf] := ⟨_, hP, hD⟩
  refine lv_aload_n hx hb dX0_come_28 rfl (lv_at hlv 0 rfl) ?_
  refine va_get (D := D) (ci := 0) (v := vR na) (C := RX0) (T := TX0) (N := 7) hx hb hts hi0 hown hG.1 hP 0 rfl rfl 0 (by decide) lf9 (fun _ h9 => h9) rfl dX0_come_29 ?_
  refine lv_bipush (v := iI 6) hx hb dX0_come_32 (by decide) ?_
  refine lv_iconst (v := iI 0) hx hb dX0_come_34 (by decide) ?_
  refine va_iast hx hb hG.1 hP hD hS 1 0 rfl rfl (iI_in (by omega) (by decide)) dX0_come_35 (fun H locs hP hD hS => ?_)
  have ⟨f_4, hP, hD⟩ : ∃ f_4 : Nat → Int32, va_P D vwCl [zO ca 0 [vR na, vI crow, vI cpace, vI ctyre, vI ckind, vI crt, vI cpt], zI na (cy 0) 7 f_4, zI s3 (cy 0) 96 wf, zO la 1 [vR l0, vI size, vR l2, vR l3], zI l0 (cy 0) 600 st, zI l2 (cy 0) 5 sf, zI l3 (cy 0) 40 vf, zO sA 6 [vI wi, vI ro, vR s2, vR s3, vI dr, vI dt, vR s6, vI pe, vR s8, vI gu, vI sh, vR s11, vI wo, vR s13, vI dn, vI mi, vI fl, vI tk, vI go], zI s8 (cy 0) 112 pf] H ∧ va_D A [zO ca 0 [vR na, vI crow, vI cpace, vI ctyre, vI ckind, vI crt, vI cpt], zI na (cy 0) 7 f_4, zI s3 (cy 0) 96 wf, zO la 1 [vR l0, vI size, vR l2, vR l3], zI l0 (cy 0) 600 st, zI l2 (cy 0) 5 sf, zI l3 (cy 0) 40 vf, zO sA 6 [vI wi, vI ro, vR s2, vR s3, vI dr, vI dt, vR s6, vI pe, vR s8, vI gu, vI sh, vR s11, vI wo, vR s13, vI dn, vI mi, vI fl, vI tk, vI go], zI s8 (cy 0) 112 pf] := ⟨_, hP, hD⟩
  refine lv_aload_n hx hb dX0_come_36 rfl (lv_at hlv 0 rfl) ?_
  refine va_get (D := D) (ci := 0) (v := vR na) (C := RX0) (T := TX0) (N := 7) hx hb hts hi0 hown hG.1 hP 0 rfl rfl 0 (by decide) lf9 (fun _ h9 => h9) rfl dX0_come_37 ?_
  refine lv_iconst (v := iI 1) hx hb dX0_come_40 (by decide) ?_
  refine lv_aload_n hx hb dX0_come_41 rfl (lv_at hlv 0 rfl) ?_
  refine va_get (D := D) (ci := 0) (v := vI cpace) (C := RX0) (T := TX0) (N := 7) hx hb hts hi0 hown hG.1 hP 0 rfl rfl 2 (by decide) lf19 (fun _ h9 => h9) rfl dX0_come_42 ?_
  refine va_iast hx hb hG.1 hP hD hS 1 0 rfl rfl (iI_in (by omega) (by decide)) dX0_come_45 (fun H locs hP hD hS => ?_)
  have ⟨f_5, hP, hD⟩ : ∃ f_5 : Nat → Int32, va_P D vwCl [zO ca 0 [vR na, vI crow, vI cpace, vI ctyre, vI ckind, vI crt, vI cpt], zI na (cy 0) 7 f_5, zI s3 (cy 0) 96 wf, zO la 1 [vR l0, vI size, vR l2, vR l3], zI l0 (cy 0) 600 st, zI l2 (cy 0) 5 sf, zI l3 (cy 0) 40 vf, zO sA 6 [vI wi, vI ro, vR s2, vR s3, vI dr, vI dt, vR s6, vI pe, vR s8, vI gu, vI sh, vR s11, vI wo, vR s13, vI dn, vI mi, vI fl, vI tk, vI go], zI s8 (cy 0) 112 pf] H ∧ va_D A [zO ca 0 [vR na, vI crow, vI cpace, vI ctyre, vI ckind, vI crt, vI cpt], zI na (cy 0) 7 f_5, zI s3 (cy 0) 96 wf, zO la 1 [vR l0, vI size, vR l2, vR l3], zI l0 (cy 0) 600 st, zI l2 (cy 0) 5 sf, zI l3 (cy 0) 40 vf, zO sA 6 [vI wi, vI ro, vR s2, vR s3, vI dr, vI dt, vR s6, vI pe, vR s8, vI gu, vI sh, vR s11, vI wo, vR s13, vI dn, vI mi, vI fl, vI tk, vI go], zI s8 (cy 0) 112 pf] := ⟨_, hP, hD⟩
  refine lv_aload_n hx hb dX0_come_46 rfl (lv_at hlv 0 rfl) ?_
  refine lv_aload_n hx hb dX0_come_47 rfl (lv_at hlv 1 rfl) ?_
  refine lv_iload_n hx hb dX0_come_48 rfl (lv_at hlv 3 rfl) ?_
  refine lv_aload_n hx hb dX0_come_49 rfl (lv_at hlv 0 rfl) ?_
  refine va_get (D := D) (ci := 0) (v := vI ckind) (C := RX0) (T := TX0) (N := 7) hx hb hts hi0 hown hG.1 hP 0 rfl rfl 4 (by decide) lf25 (fun _ h9 => h9) rfl dX0_come_50 ?_
  refine lv_iconst (v := iI 3) hx hb dX0_come_53 (by decide) ?_
  refine ir_ne (tgt := 61) hx hb dX0_come_54 (by decide) (by first | exact hr_ckind | omega) (by show ((-2147483648) : Int) ≤ 3 ∧ (3 : Int) ≤ 2147483647; decide) (fun c_6 => ?_) (fun c_6 => ?_)
  · refine lv_aload_n hx hb dX0_come_61 rfl (lv_at hlv 0 rfl) ?_
    refine va_get (D := D) (ci := 0) (v := vI crow) (C := RX0) (T := TX0) (N := 7) hx hb hts hi0 hown hG.1 hP 0 rfl rfl 1 (by decide) lf15 (fun _ h9 => h9) rfl dX0_come_62 ?_
    refine cj_v (wr := [zO la 1 [vR l0, vI size, vR l2, vR l3], zI l0 (cy 0) 600 st, zI l2 (cy 0) 5 sf, zI l3 (cy 0) 40 vf, zI s8 (cy 0) 112 pf]) (va_runV (As := [vR sA, vI x, vI crow]) (rest := []) ⟨hx, hb, hml, hown, hts⟩ (c_see l hl D cy sa ca na crow cpace ctyre ckind crt cpt sA s2 s3 s6 s8 s11 s13 wi ro dr dt pe gu sh wo dn mi fl tk go f_5 wf x crow H.size (by first | exact hr_crow | omega) (by first | exact hr_cpace | omega) (by first | exact hr_ctyre | omega) (by first | exact hr_ckind | omega) (by first | exact hr_crt | omega) (by first | exact hr_cpt | omega) (by first | exact hr_wi | omega) (by first | exact rgw hr_ro (by decide) (by decide) | omega) (by first | exact hr_dr | omega) (by first | exact hr_dt | omega) (by first | exact hr_pe | omega) (by first | exact hr_gu | omega) (by first | exact hr_sh | omega) (by first | exact hr_wo | omega) (by first | exact hr_dn | omega) (by first | exact hr_mi | omega) (by first | exact hr_fl | omega) (by first | exact hr_tk | omega) (by first | exact hr_go | omega) (by first | exact hr_x | omega) (by first | exact hr_crow | omega)) (cwV 3 hts gg_2 rfl rfl rfl (by decide +kernel) ⟨Nat.le_of_ble_eq_true rfl, Nat.le_of_ble_eq_true rfl⟩) ⟨pcW.blind, (va_recv hG.1 hP (ci := 0) (q0 := 0) rfl rfl), (pcW.mk hP hD hS hA hG hT [0, 1, 7, 2] rfl (by decide))⟩ rfl rfl hlv.1 rfl (lv_room (Nat.le_of_ble_eq_true rfl)) dX0_come_65 ⟨Nat.le_of_ble_eq_true rfl, Nat.le_of_ble_eq_true rfl⟩) hP hD hS hA [0, 1, 7, 2] [3, 4, 5, 6, 8] rfl rfl (by decide) (by decide) (fun u2 H locs hw2 hP hD hS => ?_)
    have hP : va_P D vwCl [zO la 1 [vR l0, vI size, vR l2, vR l3], zI l0 (cy 0) 600 st, zI l2 (cy 0) 5 sf, zI l3 (cy 0) 40 vf, zI s8 (cy 0) 112 pf, zO ca 0 [vR na, vI crow, vI cpace, vI ctyre, vI ckind, vI crow, vI cpt], zI na (cy 0) 7 (u2.2.2 0), zO sA 6 [vI wi, vI ro, vR s2, vR s3, vI dr, vI dt, vR s6, vI pe, vR s8, vI gu, vI sh, vR s11, vI wo, vR s13, vI dn, vI mi, vI fl, vI tk, vI go], zI s3 (cy 0) 96 wf] H := hP
    have hD : va_D A [zO la 1 [vR l0, vI size, vR l2, vR l3], zI l0 (cy 0) 600 st, zI l2 (cy 0) 5 sf, zI l3 (cy 0) 40 vf, zI s8 (cy 0) 112 pf, zO ca 0 [vR na, vI crow, vI cpace, vI ctyre, vI ckind, vI crow, vI cpt], zI na (cy 0) 7 (u2.2.2 0), zO sA 6 [vI wi, vI ro, vR s2, vR s3, vI dr, vI dt, vR s6, vI pe, vR s8, vI gu, vI sh, vR s11, vI wo, vR s13, vI dn, vI mi, vI fl, vI tk, vI go], zI s3 (cy 0) 96 wf] := hD
    refine lv_aload_n hx hb dX0_come_68 rfl (lv_at hlv 0 rfl) ?_
    refine va_get (D := D) (ci := 0) (v := vI ckind) (C := RX0) (T := TX0) (N := 7) hx hb hts hi0 hown hG.1 hP 5 rfl rfl 4 (by decide) lf25 (fun _ h9 => h9) rfl dX0_come_69 ?_
    refine lv_iconst (v := iI 2) hx hb dX0_come_72 (by decide) ?_
    refine ir_ne (tgt := 112) hx hb dX0_come_73 (by decide) (by first | exact hr_ckind | omega) (by show ((-2147483648) : Int) ≤ 2 ∧ (2 : Int) ≤ 2147483647; decide) (fun c_7 => ?_) (fun c_7 => ?_)
    · refine lv_aload_n hx hb dX0_come_112 rfl (lv_at hlv 0 rfl) ?_
      refine lv_aload_n hx hb dX0_come_113 rfl (lv_at hlv 0 rfl) ?_
      refine va_get (D := D) (ci := 0) (v := vI ckind) (C := RX0) (T := TX0) (N := 7) hx hb hts hi0 hown hG.1 hP 5 rfl rfl 4 (by decide) lf25 (fun _ h9 => h9) rfl dX0_come_114 ?_
      refine lv_iconst (v := iI 1) hx hb dX0_come_117 (by decide) ?_
      refine ir_ne (tgt := 142) hx hb dX0_come_118 (by decide) (by first | exact hr_ckind | omega) (by show ((-2147483648) : Int) ≤ 1 ∧ (1 : Int) ≤ 2147483647; decide) (fun c_8 => ?_) (fun c_8 => ?_)
      · refine lv_aload_n hx hb dX0_come_142 rfl (lv_at hlv 0 rfl) ?_
        refine va_get (D := D) (ci := 0) (v := vI cpace) (C := RX0) (T := TX0) (N := 7) hx hb hts hi0 hown hG.1 hP 5 rfl rfl 2 (by decide) lf19 (fun _ h9 => h9) rfl dX0_come_143 ?_
        refine va_put (D := D) (ci := 0) (v := vI cpace) (ty := .int) (C := RX0) (T := TX0) (N := 7) hx hb hts hi0 tyX0 tyX0_ok nmX0 hown hG.1 hP hD hS 5 rfl rfl 6 (by decide) lf69 (fun _ h9 => h9) rfl (by decide +kernel) rfl rfl (Nat.le_of_ble_eq_true rfl) dX0_come_146 (fun H locs hP hD hS => ?_)
        have hP : va_P D vwCl [zO la 1 [vR l0, vI size, vR l2, vR l3], zI l0 (cy 0) 600 st, zI l2 (cy 0) 5 sf, zI l3 (cy 0) 40 vf, zI s8 (cy 0) 112 pf, zO ca 0 [vR na, vI crow, vI cpace, vI ctyre, vI ckind, vI crow, vI cpace], zI na (cy 0) 7 (u2.2.2 0), zO sA 6 [vI wi, vI ro, vR s2, vR s3, vI dr, vI dt, vR s6, vI pe, vR s8, vI gu, vI sh, vR s11, vI wo, vR s13, vI dn, vI mi, vI fl, vI tk, vI go], zI s3 (cy 0) 96 wf] H := hP
        have hD : va_D A [zO la 1 [vR l0, vI size, vR l2, vR l3], zI l0 (cy 0) 600 st, zI l2 (cy 0) 5 sf, zI l3 (cy 0) 40 vf, zI s8 (cy 0) 112 pf, zO ca 0 [vR na, vI crow, vI cpace, vI ctyre, vI ckind, vI crow, vI cpace], zI na (cy 0) 7 (u2.2.2 0), zO sA 6 [vI wi, vI ro, vR s2, vR s3, vI dr, vI dt, vR s6, vI pe, vR s8, vI gu, vI sh, vR s11, vI wo, vR s13, vI dn, vI mi, vI fl, vI tk, vI go], zI s3 (cy 0) 96 wf] := hD
        refine lv_aload_n hx hb dX0_come_149 rfl (lv_at hlv 0 rfl) ?_
        refine va_get (D := D) (ci := 0) (v := vR na) (C := RX0) (T := TX0) (N := 7) hx hb hts hi0 hown hG.1 hP 5 rfl rfl 0 (by decide) lf9 (fun _ h9 => h9) rfl dX0_come_150 ?_
        refine lv_iconst (v := iI 1) hx hb dX0_come_153 (by decide) ?_
        refine lv_aload_n hx hb dX0_come_154 rfl (lv_at hlv 0 rfl) ?_
        refine va_get (D := D) (ci := 0) (v := vI cpace) (C := RX0) (T := TX0) (N := 7) hx hb hts hi0 hown hG.1 hP 5 rfl rfl 6 (by decide) lf69 (fun _ h9 => h9) rfl dX0_come_155 ?_
        refine va_iast hx hb hG.1 hP hD hS 6 0 rfl rfl (iI_in (by omega) (by decide)) dX0_come_158 (fun H locs hP hD hS => ?_)
        have ⟨f_9, hP, hD⟩ : ∃ f_9 : Nat → Int32, va_P D vwCl [zO la 1 [vR l0, vI size, vR l2, vR l3], zI l0 (cy 0) 600 st, zI l2 (cy 0) 5 sf, zI l3 (cy 0) 40 vf, zI s8 (cy 0) 112 pf, zO ca 0 [vR na, vI crow, vI cpace, vI ctyre, vI ckind, vI crow, vI cpace], zI na (cy 0) 7 f_9, zO sA 6 [vI wi, vI ro, vR s2, vR s3, vI dr, vI dt, vR s6, vI pe, vR s8, vI gu, vI sh, vR s11, vI wo, vR s13, vI dn, vI mi, vI fl, vI tk, vI go], zI s3 (cy 0) 96 wf] H ∧ va_D A [zO la 1 [vR l0, vI size, vR l2, vR l3], zI l0 (cy 0) 600 st, zI l2 (cy 0) 5 sf, zI l3 (cy 0) 40 vf, zI s8 (cy 0) 112 pf, zO ca 0 [vR na, vI crow, vI cpace, vI ctyre, vI ckind, vI crow, vI cpace], zI na (cy 0) 7 f_9, zO sA 6 [vI wi, vI ro, vR s2, vR s3, vI dr, vI dt, vR s6, vI pe, vR s8, vI gu, vI sh, vR s11, vI wo, vR s13, vI dn, vI mi, vI fl, vI tk, vI go], zI s3 (cy 0) 96 wf] := ⟨_, hP, hD⟩
        refine W.widen (k := 0) (n := 0) (Nat.le_of_ble_eq_true rfl) (Nat.le_of_ble_eq_true rfl) ?_
        exact W.vret hx hb hr (fun t ht hW => ⟨⟨((fun k => ([] : List Nat).getD k 0), (fun k => ([crow, cpace] : List Int).getD k 0), (fun k => ([f_9, vf] : List (Nat → Int32)).getD k (fun _ => 0))), rfl, ⟨(by show (0 ≤ crow ∧ crow ≤ 5); first | exact hr_crow | omega), (by show ((-2147483648) ≤ cpace ∧ cpace ≤ 2147483647); first | exact hr_cpace | omega), hq1_2, hst⟩, by rw [ht]; exact hP.sub [5, 6, 7, 8, 4, 0, 1, 2, 3] rfl, hD.sub [5, 6, 7, 8, 4, 0, 1, 2, 3] (by decide) rfl⟩, hS.F ht⟩) hS.2.2 dX0_come_159
      · refine lv_aload_n hx hb dX0_come_121 rfl (lv_at hlv 2 rfl) ?_
        refine lv_iconst (v := iI 3) hx hb dX0_come_122 (by decide) ?_
        refine lv_aload_n hx hb dX0_come_123 rfl (lv_at hlv 0 rfl) ?_
        refine va_get (D := D) (ci := 0) (v := vR na) (C := RX0) (T := TX0) (N := 7) hx hb hts hi0 hown hG.1 hP 5 rfl rfl 0 (by decide) lf9 (fun _ h9 => h9) rfl dX0_come_124 ?_
        refine cj_i (wr := [zI s8 (cy 0) 112 pf, zO ca 0 [vR na, vI crow, vI cpace, vI ctyre, vI ckind, vI crow, vI cpt], zO sA 6 [vI wi, vI ro, vR s2, vR s3, vI dr, vI dt, vR s6, vI pe, vR s8, vI gu, vI sh, vR s11, vI wo, vR s13, vI dn, vI mi, vI fl, vI tk, vI go], zI s3 (cy 0) 96 wf]) (va_runVN (host := "KerbSplash") (As := [vI 3, vR na]) (rest := [vR ca]) ⟨hx, hb, hml, hown, hts⟩ (w_value l hl D cy sa la l0 l2 l3 na size st sf vf (u2.2.2 0) 3 H.size (by first | exact hr_size | omega) (by show (0 : Int) ≤ 3 ∧ (3 : Int) ≤ 4; decide) hst) ⟨va_cnB 2 hts gg_3 rfl rfl rfl (nM_Car_37 hG.2.1) ini_RX1 (by decide +kernel) ⟨Nat.le_of_ble_eq_true rfl, Nat.le_of_ble_eq_true rfl⟩, im_X1_value, se_X1_value⟩ ⟨pcW.blind, (va_recv hG.1 hP (ci := 1) (q0 := 0) rfl rfl), (pcW.mk hP hD hS hA hG hT [0, 1, 2, 3, 6] rfl (by decide))⟩ rfl rfl hlv.1 rfl (lv_room (Nat.le_of_ble_eq_true rfl)) dX0_come_127 ⟨Nat.le_of_ble_eq_true rfl, Nat.le_of_ble_eq_true rfl⟩) hP hD hS hA [0, 1, 2, 3, 6] [4, 5, 7, 8] rfl rfl (by decide) (by decide) (fun r3 u3 H locs hw3 hP hD hS => ?_)
        obtain ⟨rfl, hq3_1, hq3_2⟩ := hw3
        have hP : va_P D vwCl [zI s8 (cy 0) 112 pf, zO ca 0 [vR na, vI crow, vI cpace, vI ctyre, vI ckind, vI crow, vI cpt], zO sA 6 [vI wi, vI ro, vR s2, vR s3, vI dr, vI dt, vR s6, vI pe, vR s8, vI gu, vI sh, vR s11, vI wo, vR s13, vI dn, vI mi, vI fl, vI tk, vI go], zI s3 (cy 0) 96 wf, zO la 1 [vR l0, vI size, vR l2, vR l3], zI l0 (cy 0) 600 st, zI l2 (cy 0) 5 sf, zI l3 (cy 0) 40 (u3.2.2 0), zI na (cy 0) 7 (u2.2.2 0)] H := hP
        have hD : va_D A [zI s8 (cy 0) 112 pf, zO ca 0 [vR na, vI crow, vI cpace, vI ctyre, vI ckind, vI crow, vI cpt], zO sA 6 [vI wi, vI ro, vR s2, vR s3, vI dr, vI dt, vR s6, vI pe, vR s8, vI gu, vI sh, vR s11, vI wo, vR s13, vI dn, vI mi, vI fl, vI tk, vI go], zI s3 (cy 0) 96 wf, zO la 1 [vR l0, vI size, vR l2, vR l3], zI l0 (cy 0) 600 st, zI l2 (cy 0) 5 sf, zI l3 (cy 0) 40 (u3.2.2 0), zI na (cy 0) 7 (u2.2.2 0)] := hD
        refine lv_i2l (v := jJ (u3.2.1 0)) hx hb dX0_come_130 (jJ_i (by omega)) ?_
        refine lv_iconst (v := iI 1) hx hb dX0_come_131 (by decide) ?_
        refine lv_aload_n hx hb dX0_come_132 rfl (lv_at hlv 0 rfl) ?_
        refine va_get (D := D) (ci := 0) (v := vI cpace) (C := RX0) (T := TX0) (N := 7) hx hb hts hi0 hown hG.1 hP 1 rfl rfl 2 (by decide) lf19 (fun _ h9 => h9) rfl dX0_come_133 ?_
        refine cj_i (wr := [zI s8 (cy 0) 112 pf, zO ca 0 [vR na, vI crow, vI cpace, vI ctyre, vI ckind, vI crow, vI cpt], zO sA 6 [vI wi, vI ro, vR s2, vR s3, vI dr, vI dt, vR s6, vI pe, vR s8, vI gu, vI sh, vR s11, vI wo, vR s13, vI dn, vI mi, vI fl, vI tk, vI go], zI s3 (cy 0) 96 wf, zO la 1 [vR l0, vI size, vR l2, vR l3], zI l0 (cy 0) 600 st, zI l2 (cy 0) 5 sf, zI l3 (cy 0) 40 (u3.2.2 0), zI na (cy 0) 7 (u2.2.2 0)]) (va_runSN (host := "KerbSplash") (As := [vJ (u3.2.1 0), vI 1, vI cpace]) (rest := [vR ca]) ⟨hx, hb, hml, hown, hts⟩ (s_held l hl D cy sa (u3.2.1 0) 1 cpace H.size (by first | exact rgw hq3_1 (by decide) (by decide) | omega) (by show ((-2147483648) : Int) ≤ 1 ∧ (1 : Int) ≤ 2147483647; decide) (by first | exact hr_cpace | omega)) ⟨va_cnB 3 hts gg_4 rfl rfl rfl (nM_Car_41 hG.2.1) ini_RX11 (by decide +kernel) ⟨Nat.le_of_ble_eq_true rfl, Nat.le_of_ble_eq_true rfl⟩, st_X11_held, trivial⟩ ⟨pcW.blind, (pcW.mk hP hD hS hA hG hT [] rfl (by decide))⟩ rfl rfl hlv.1 rfl (lv_room (Nat.le_of_ble_eq_true rfl)) dX0_come_136 ⟨Nat.le_of_ble_eq_true rfl, Nat.le_of_ble_eq_true rfl⟩) hP hD hS hA [] [0, 1, 2, 3, 4, 5, 6, 7, 8] rfl rfl (by decide) (by decide) (fun r4 u4 H locs hw4 hP hD hS => ?_)
        obtain ⟨rfl, hq4_1, hq4_2⟩ := hw4
        have hP : va_P D vwCl [zI s8 (cy 0) 112 pf, zO ca 0 [vR na, vI crow, vI cpace, vI ctyre, vI ckind, vI crow, vI cpt], zO sA 6 [vI wi, vI ro, vR s2, vR s3, vI dr, vI dt, vR s6, vI pe, vR s8, vI gu, vI sh, vR s11, vI wo, vR s13, vI dn, vI mi, vI fl, vI tk, vI go], zI s3 (cy 0) 96 wf, zO la 1 [vR l0, vI size, vR l2, vR l3], zI l0 (cy 0) 600 st, zI l2 (cy 0) 5 sf, zI l3 (cy 0) 40 (u3.2.2 0), zI na (cy 0) 7 (u2.2.2 0)] H := hP
        have hD : va_D A [zI s8 (cy 0) 112 pf, zO ca 0 [vR na, vI crow, vI cpace, vI ctyre, vI ckind, vI crow, vI cpt], zO sA 6 [vI wi, vI ro, vR s2, vR s3, vI dr, vI dt, vR s6, vI pe, vR s8, vI gu, vI sh, vR s11, vI wo, vR s13, vI dn, vI mi, vI fl, vI tk, vI go], zI s3 (cy 0) 96 wf, zO la 1 [vR l0, vI size, vR l2, vR l3], zI l0 (cy 0) 600 st, zI l2 (cy 0) 5 sf, zI l3 (cy 0) 40 (u3.2.2 0), zI na (cy 0) 7 (u2.2.2 0)] := hD
        refine lv_goto (tgt := 146) hx hb dX0_come_139 (by decide) ?_
        refine va_put (D := D) (ci := 0) (v := vI (u4.2.1 0)) (ty := .int) (C := RX0) (T := TX0) (N := 7) hx hb hts hi0 tyX0 tyX0_ok nmX0 hown hG.1 hP hD hS 1 rfl rfl 6 (by decide) lf69 (fun _ h9 => h9) rfl (by decide +kernel) rfl rfl (Nat.le_of_ble_eq_true rfl) dX0_come_146 (fun H locs hP hD hS => ?_)
        have hP : va_P D vwCl [zI s8 (cy 0) 112 pf, zO ca 0 [vR na, vI crow, vI cpace, vI ctyre, vI ckind, vI crow, vI (u4.2.1 0)], zO sA 6 [vI wi, vI ro, vR s2, vR s3, vI dr, vI dt, vR s6, vI pe, vR s8, vI gu, vI sh, vR s11, vI wo, vR s13, vI dn, vI mi, vI fl, vI tk, vI go], zI s3 (cy 0) 96 wf, zO la 1 [vR l0, vI size, vR l2, vR l3], zI l0 (cy 0) 600 st, zI l2 (cy 0) 5 sf, zI l3 (cy 0) 40 (u3.2.2 0), zI na (cy 0) 7 (u2.2.2 0)] H := hP
        have hD : va_D A [zI s8 (cy 0) 112 pf, zO ca 0 [vR na, vI crow, vI cpace, vI ctyre, vI ckind, vI crow, vI (u4.2.1 0)], zO sA 6 [vI wi, vI ro, vR s2, vR s3, vI dr, vI dt, vR s6, vI pe, vR s8, vI gu, vI sh, vR s11, vI wo, vR s13, vI dn, vI mi, vI fl, vI tk, vI go], zI s3 (cy 0) 96 wf, zO la 1 [vR l0, vI size, vR l2, vR l3], zI l0 (cy 0) 600 st, zI l2 (cy 0) 5 sf, zI l3 (cy 0) 40 (u3.2.2 0), zI na (cy 0) 7 (u2.2.2 0)] := hD
        refine lv_aload_n hx hb dX0_come_149 rfl (lv_at hlv 0 rfl) ?_
        refine va_get (D := D) (ci := 0) (v := vR na) (C := RX0) (T := TX0) (N := 7) hx hb hts hi0 hown hG.1 hP 1 rfl rfl 0 (by decide) lf9 (fun _ h9 => h9) rfl dX0_come_150 ?_
        refine lv_iconst (v := iI 1) hx hb dX0_come_153 (by decide) ?_
        refine lv_aload_n hx hb dX0_come_154 rfl (lv_at hlv 0 rfl) ?_
        refine va_get (D := D) (ci := 0) (v := vI (u4.2.1 0)) (C := RX0) (T := TX0) (N := 7) hx hb hts hi0 hown hG.1 hP 1 rfl rfl 6 (by decide) lf69 (fun _ h9 => h9) rfl dX0_come_155 ?_
        refine va_iast hx hb hG.1 hP hD hS 8 0 rfl rfl (iI_in (by omega) (by decide)) dX0_come_158 (fun H locs hP hD hS => ?_)
        have ⟨f_10, hP, hD⟩ : ∃ f_10 : Nat → Int32, va_P D vwCl [zI s8 (cy 0) 112 pf, zO ca 0 [vR na, vI crow, vI cpace, vI ctyre, vI ckind, vI crow, vI (u4.2.1 0)], zO sA 6 [vI wi, vI ro, vR s2, vR s3, vI dr, vI dt, vR s6, vI pe, vR s8, vI gu, vI sh, vR s11, vI wo, vR s13, vI dn, vI mi, vI fl, vI tk, vI go], zI s3 (cy 0) 96 wf, zO la 1 [vR l0, vI size, vR l2, vR l3], zI l0 (cy 0) 600 st, zI l2 (cy 0) 5 sf, zI l3 (cy 0) 40 (u3.2.2 0), zI na (cy 0) 7 f_10] H ∧ va_D A [zI s8 (cy 0) 112 pf, zO ca 0 [vR na, vI crow, vI cpace, vI ctyre, vI ckind, vI crow, vI (u4.2.1 0)], zO sA 6 [vI wi, vI ro, vR s2, vR s3, vI dr, vI dt, vR s6, vI pe, vR s8, vI gu, vI sh, vR s11, vI wo, vR s13, vI dn, vI mi, vI fl, vI tk, vI go], zI s3 (cy 0) 96 wf, zO la 1 [vR l0, vI size, vR l2, vR l3], zI l0 (cy 0) 600 st, zI l2 (cy 0) 5 sf, zI l3 (cy 0) 40 (u3.2.2 0), zI na (cy 0) 7 f_10] := ⟨_, hP, hD⟩
        refine W.widen (k := 0) (n := 0) (Nat.le_of_ble_eq_true rfl) (Nat.le_of_ble_eq_true rfl) ?_
        exact W.vret hx hb hr (fun t ht hW => ⟨⟨((fun k => ([] : List Nat).getD k 0), (fun k => ([crow, (u4.2.1 0)] : List Int).getD k 0), (fun k => ([f_10, (u3.2.2 0)] : List (Nat → Int32)).getD k (fun _ => 0))), rfl, ⟨(by show (0 ≤ crow ∧ crow ≤ 5); first | exact hr_crow | omega), (by show ((-2147483648) ≤ (u4.2.1 0) ∧ (u4.2.1 0) ≤ 2147483647); first | exact hq4_1 | omega), hq1_2, hq3_2⟩, by rw [ht]; exact hP.sub [1, 8, 2, 3, 0, 4, 5, 6, 7] rfl, hD.sub [1, 8, 2, 3, 0, 4, 5, 6, 7] (by decide) rfl⟩, hS.F ht⟩) hS.2.2 dX0_come_159
    · refine lv_aload_n hx hb dX0_come_76 rfl (lv_at hlv 0 rfl) ?_
      refine va_get (D := D) (ci := 0) (v := vI crow) (C := RX0) (T := TX0) (N := 7) hx hb hts hi0 hown hG.1 hP 5 rfl rfl 1 (by decide) lf15 (fun _ h9 => h9) rfl dX0_come_77 ?_
      refine lv_i2l (v := jJ crow) hx hb dX0_come_80 (jJ_i (by omega)) ?_
      refine lv_aload_n hx hb dX0_come_81 rfl (lv_at hlv 2 rfl) ?_
      refine lv_iconst (v := iI 4) hx hb dX0_come_82 (by decide) ?_
      refine lv_aload_n hx hb dX0_come_83 rfl (lv_at hlv 0 rfl) ?_
      refine va_get (D := D) (ci := 0) (v := vR na) (C := RX0) (T := TX0) (N := 7) hx hb hts hi0 hown hG.1 hP 5 rfl rfl 0 (by decide) lf9 (fun _ h9 => h9) rfl dX0_come_84 ?_
      refine cj_i (wr := [zI s8 (cy 0) 112 pf, zO ca 0 [vR na, vI crow, vI cpace, vI ctyre, vI ckind, vI crow, vI cpt], zO sA 6 [vI wi, vI ro, vR s2, vR s3, vI dr, vI dt, vR s6, vI pe, vR s8, vI gu, vI sh, vR s11, vI wo, vR s13, vI dn, vI mi, vI fl, vI tk, vI go], zI s3 (cy 0) 96 wf]) (va_runVN (host := "KerbSplash") (As := [vI 4, vR na]) (rest := [vJ crow]) ⟨hx, hb, hml, hown, hts⟩ (w_value l hl D cy sa la l0 l2 l3 na size st sf vf (u2.2.2 0) 4 H.size (by first | exact hr_size | omega) (by show (0 : Int) ≤ 4 ∧ (4 : Int) ≤ 4; decide) hst) ⟨va_cnB 2 hts gg_3 rfl rfl rfl (nM_Car_37 hG.2.1) ini_RX1 (by decide +kernel) ⟨Nat.le_of_ble_eq_true rfl, Nat.le_of_ble_eq_true rfl⟩, im_X1_value, se_X1_value⟩ ⟨pcW.blind, (va_recv hG.1 hP (ci := 1) (q0 := 0) rfl rfl), (pcW.mk hP hD hS hA hG hT [0, 1, 2, 3, 6] rfl (by decide))⟩ rfl rfl hlv.1 rfl (lv_room (Nat.le_of_ble_eq_true rfl)) dX0_come_87 ⟨Nat.le_of_ble_eq_true rfl, Nat.le_of_ble_eq_true rfl⟩) hP hD hS hA [0, 1, 2, 3, 6] [4, 5, 7, 8] rfl rfl (by decide) (by decide) (fun r5 u5 H locs hw5 hP hD hS => ?_)
      obtain ⟨rfl, hq5_1, hq5_2⟩ := hw5
      have hP : va_P D vwCl [zI s8 (cy 0) 112 pf, zO ca 0 [vR na, vI crow, vI cpace, vI ctyre, vI ckind, vI crow, vI cpt], zO sA 6 [vI wi, vI ro, vR s2, vR s3, vI dr, vI dt, vR s6, vI pe, vR s8, vI gu, vI sh, vR s11, vI wo, vR s13, vI dn, vI mi, vI fl, vI tk, vI go], zI s3 (cy 0) 96 wf, zO la 1 [vR l0, vI size, vR l2, vR l3], zI l0 (cy 0) 600 st, zI l2 (cy 0) 5 sf, zI l3 (cy 0) 40 (u5.2.2 0), zI na (cy 0) 7 (u2.2.2 0)] H := hP
      have hD : va_D A [zI s8 (cy 0) 112 pf, zO ca 0 [vR na, vI crow, vI cpace, vI ctyre, vI ckind, vI crow, vI cpt], zO sA 6 [vI wi, vI ro, vR s2, vR s3, vI dr, vI dt, vR s6, vI pe, vR s8, vI gu, vI sh, vR s11, vI wo, vR s13, vI dn, vI mi, vI fl, vI tk, vI go], zI s3 (cy 0) 96 wf, zO la 1 [vR l0, vI size, vR l2, vR l3], zI l0 (cy 0) 600 st, zI l2 (cy 0) 5 sf, zI l3 (cy 0) 40 (u5.2.2 0), zI na (cy 0) 7 (u2.2.2 0)] := hD
      refine lv_i2l (v := jJ (u5.2.1 0)) hx hb dX0_come_90 (jJ_i (by omega)) ?_
      refine lv_ladd hx hb dX0_come_91 ?_
      obtain ⟨z_11, hz_11⟩ : ∃ z : Int, z = crow + (u5.2.1 0) := ⟨_, rfl⟩
      refine lt_l (y := jJ z_11) (by rw [hz_11]; exact (Int64.ofInt_add _ _).symm) ?_
      refine lv_lstore (lv' := [(4, vJ z_11), (0, vR ca), (1, vR sA), (2, vR la), (3, vI x)]) hx hb dX0_come_92 hlv (by decide) rfl (fun ls hlv => ?_)
      refine lv_aload_n hx hb dX0_come_94 rfl (lv_at hlv 1 rfl) ?_
      refine lv_aload_n hx hb dX0_come_95 rfl (lv_at hlv 2 rfl) ?_
      refine lv_iload_n hx hb dX0_come_96 rfl (lv_at hlv 4 rfl) ?_
      refine lv_lload hx hb dX0_come_97 (lv_at hlv 0 rfl) ?_
      refine lv_iconst (v := iI 0) hx hb dX0_come_99 (by decide) ?_
      refine lv_aload_n hx hb dX0_come_100 rfl (lv_at hlv 2 rfl) ?_
      refine va_getN (D := D) (ci := 6) (v := vI ro) (C := RX6) (T := TX6) (N := 19) hx hb hts hi6 hown hG.1 hP 2 rfl rfl 1 (by decide) (va_Nw.use rfl (nF_Car_66 hG.2.1)) (fun _ h9 => h9) rfl dX0_come_101 ?_
      refine lv_iconst (v := iI 1) hx hb dX0_come_104 (by decide) ?_
      refine lv_isub hx hb dX0_come_105 ?_
      refine lt_e (e0 := ro - 1) (Int32.ofInt_sub _ _).symm (fun z_12 hz_12 => ?_)
      refine cj_i (wr := [zI s8 (cy 0) 112 pf, zO ca 0 [vR na, vI crow, vI cpace, vI ctyre, vI ckind, vI crow, vI cpt], zO sA 6 [vI wi, vI ro, vR s2, vR s3, vI dr, vI dt, vR s6, vI pe, vR s8, vI gu, vI sh, vR s11, vI wo, vR s13, vI dn, vI mi, vI fl, vI tk, vI go], zI s3 (cy 0) 96 wf, zO la 1 [vR l0, vI size, vR l2, vR l3], zI l0 (cy 0) 600 st, zI l2 (cy 0) 5 sf, zI l3 (cy 0) 40 (u5.2.2 0), zI na (cy 0) 7 (u2.2.2 0)]) (va_runSN (host := "KerbSplash") (As := [vJ z_11, vI 0, vI z_12]) (rest := [vI x, vR sA, vR ca]) ⟨hx, hb, hml, hown, hts⟩ (s_held l hl D cy sa z_11 0 z_12 H.size (by omega) (by show ((-2147483648) : Int) ≤ 0 ∧ (0 : Int) ≤ 2147483647; decide) (by omega)) ⟨va_cnB 3 hts gg_4 rfl rfl rfl (nM_Car_41 hG.2.1) ini_RX11 (by decide +kernel) ⟨Nat.le_of_ble_eq_true rfl, Nat.le_of_ble_eq_true rfl⟩, st_X11_held, trivial⟩ ⟨pcW.blind, (pcW.mk hP hD hS hA hG hT [] rfl (by decide))⟩ rfl rfl hlv.1 rfl (lv_room (Nat.le_of_ble_eq_true rfl)) dX0_come_106 ⟨Nat.le_of_ble_eq_true rfl, Nat.le_of_ble_eq_true rfl⟩) hP hD hS hA [] [0, 1, 2, 3, 4, 5, 6, 7, 8] rfl rfl (by decide) (by decide) (fun r6 u6 H locs hw6 hP hD hS => ?_)
      obtain ⟨rfl, hq6_1, hq6_2⟩ := hw6
      have hP : va_P D vwCl [zI s8 (cy 0) 112 pf, zO ca 0 [vR na, vI crow, vI cpace, vI ctyre, vI ckind, vI crow, vI cpt], zO sA 6 [vI wi, vI ro, vR s2, vR s3, vI dr, vI dt, vR s6, vI pe, vR s8, vI gu, vI sh, vR s11, vI wo, vR s13, vI dn, vI mi, vI fl, vI tk, vI go], zI s3 (cy 0) 96 wf, zO la 1 [vR l0, vI size, vR l2, vR l3], zI l0 (cy 0) 600 st, zI l2 (cy 0) 5 sf, zI l3 (cy 0) 40 (u5.2.2 0), zI na (cy 0) 7 (u2.2.2 0)] H := hP
      have hD : va_D A [zI s8 (cy 0) 112 pf, zO ca 0 [vR na, vI crow, vI cpace, vI ctyre, vI ckind, vI crow, vI cpt], zO sA 6 [vI wi, vI ro, vR s2, vR s3, vI dr, vI dt, vR s6, vI pe, vR s8, vI gu, vI sh, vR s11, vI wo, vR s13, vI dn, vI mi, vI fl, vI tk, vI go], zI s3 (cy 0) 96 wf, zO la 1 [vR l0, vI size, vR l2, vR l3], zI l0 (cy 0) 600 st, zI l2 (cy 0) 5 sf, zI l3 (cy 0) 40 (u5.2.2 0), zI na (cy 0) 7 (u2.2.2 0)] := hD
      refine cj_v (wr := [zI s8 (cy 0) 112 pf, zO la 1 [vR l0, vI size, vR l2, vR l3], zI l0 (cy 0) 600 st, zI l2 (cy 0) 5 sf, zI l3 (cy 0) 40 (u5.2.2 0)]) (va_runV (As := [vR sA, vI x, vI (u6.2.1 0)]) (rest := []) ⟨hx, hb, hml, hown, hts⟩ (c_see l hl D cy sa ca na crow cpace ctyre ckind crow cpt sA s2 s3 s6 s8 s11 s13 wi ro dr dt pe gu sh wo dn mi fl tk go (u2.2.2 0) wf x (u6.2.1 0) H.size (by first | exact hr_crow | omega) (by first | exact hr_cpace | omega) (by first | exact hr_ctyre | omega) (by first | exact hr_ckind | omega) (by first | exact hr_crow | omega) (by first | exact hr_cpt | omega) (by first | exact hr_wi | omega) (by first | exact rgw hr_ro (by decide) (by decide) | omega) (by first | exact hr_dr | omega) (by first | exact hr_dt | omega) (by first | exact hr_pe | omega) (by first | exact hr_gu | omega) (by first | exact hr_sh | omega) (by first | exact hr_wo | omega) (by first | exact hr_dn | omega) (by first | exact hr_mi | omega) (by first | exact hr_fl | omega) (by first | exact hr_tk | omega) (by first | exact hr_go | omega) (by first | exact hr_x | omega) (by omega)) (cwV 3 hts gg_2 rfl rfl rfl (by decide +kernel) ⟨Nat.le_of_ble_eq_true rfl, Nat.le_of_ble_eq_true rfl⟩) ⟨pcW.blind, (va_recv hG.1 hP (ci := 0) (q0 := 1) rfl rfl), (pcW.mk hP hD hS hA hG hT [1, 8, 2, 3] rfl (by decide))⟩ rfl rfl hlv.1 rfl (lv_room (Nat.le_of_ble_eq_true rfl)) dX0_come_109 ⟨Nat.le_of_ble_eq_true rfl, Nat.le_of_ble_eq_true rfl⟩) hP hD hS hA [1, 8, 2, 3] [0, 4, 5, 6, 7] rfl rfl (by decide) (by decide) (fun u7 H locs hw7 hP hD hS => ?_)
      have hP : va_P D vwCl [zI s8 (cy 0) 112 pf, zO la 1 [vR l0, vI size, vR l2, vR l3], zI l0 (cy 0) 600 st, zI l2 (cy 0) 5 sf, zI l3 (cy 0) 40 (u5.2.2 0), zO ca 0 [vR na, vI crow, vI cpace, vI ctyre, vI ckind, vI (u6.2.1 0), vI cpt], zI na (cy 0) 7 (u7.2.2 0), zO sA 6 [vI wi, vI ro, vR s2, vR s3, vI dr, vI dt, vR s6, vI pe, vR s8, vI gu, vI sh, vR s11, vI wo, vR s13, vI dn, vI mi, vI fl, vI tk, vI go], zI s3 (cy 0) 96 wf] H := hP
      have hD : va_D A [zI s8 (cy 0) 112 pf, zO la 1 [vR l0, vI size, vR l2, vR l3], zI l0 (cy 0) 600 st, zI l2 (cy 0) 5 sf, zI l3 (cy 0) 40 (u5.2.2 0), zO ca 0 [vR na, vI crow, vI cpace, vI ctyre, vI ckind, vI (u6.2.1 0), vI cpt], zI na (cy 0) 7 (u7.2.2 0), zO sA 6 [vI wi, vI ro, vR s2, vR s3, vI dr, vI dt, vR s6, vI pe, vR s8, vI gu, vI sh, vR s11, vI wo, vR s13, vI dn, vI mi, vI fl, vI tk, vI go], zI s3 (cy 0) 96 wf] := hD
      refine lv_aload_n hx hb dX0_come_112 rfl (lv_at hlv 1 rfl) ?_
      refine lv_aload_n hx hb dX0_come_113 rfl (lv_at hlv 1 rfl) ?_
      refine va_get (D := D) (ci := 0) (v := vI ckind) (C := RX0) (T := TX0) (N := 7) hx hb hts hi0 hown hG.1 hP 5 rfl rfl 4 (by decide) lf25 (fun _ h9 => h9) rfl dX0_come_114 ?_
      refine lv_iconst (v := iI 1) hx hb dX0_come_117 (by decide) ?_
      refine ir_ne (tgt := 142) hx hb dX0_come_118 (by decide) (by first | exact hr_ckind | omega) (by show ((-2147483648) : Int) ≤ 1 ∧ (1 : Int) ≤ 2147483647; decide) (fun c_13 => ?_) (fun c_13 => by exfalso; omega)
      refine lv_aload_n hx hb dX0_come_142 rfl (lv_at hlv 1 rfl) ?_
      refine va_get (D := D) (ci := 0) (v := vI cpace) (C := RX0) (T := TX0) (N := 7) hx hb hts hi0 hown hG.1 hP 5 rfl rfl 2 (by decide) lf19 (fun _ h9 => h9) rfl dX0_come_143 ?_
      refine va_put (D := D) (ci := 0) (v := vI cpace) (ty := .int) (C := RX0) (T := TX0) (N := 7) hx hb hts hi0 tyX0 tyX0_ok nmX0 hown hG.1 hP hD hS 5 rfl rfl 6 (by decide) lf69 (fun _ h9 => h9) rfl (by decide +kernel) rfl rfl (Nat.le_of_ble_eq_true rfl) dX0_come_146 (fun H locs hP hD hS => ?_)
      have hP : va_P D vwCl [zI s8 (cy 0) 112 pf, zO la 1 [vR l0, vI size, vR l2, vR l3], zI l0 (cy 0) 600 st, zI l2 (cy 0) 5 sf, zI l3 (cy 0) 40 (u5.2.2 0), zO ca 0 [vR na, vI crow, vI cpace, vI ctyre, vI ckind, vI (u6.2.1 0), vI cpace], zI na (cy 0) 7 (u7.2.2 0), zO sA 6 [vI wi, vI ro, vR s2, vR s3, vI dr, vI dt, vR s6, vI pe, vR s8, vI gu, vI sh, vR s11, vI wo, vR s13, vI dn, vI mi, vI fl, vI tk, vI go], zI s3 (cy 0) 96 wf] H := hP
      have hD : va_D A [zI s8 (cy 0) 112 pf, zO la 1 [vR l0, vI size, vR l2, vR l3], zI l0 (cy 0) 600 st, zI l2 (cy 0) 5 sf, zI l3 (cy 0) 40 (u5.2.2 0), zO ca 0 [vR na, vI crow, vI cpace, vI ctyre, vI ckind, vI (u6.2.1 0), vI cpace], zI na (cy 0) 7 (u7.2.2 0), zO sA 6 [vI wi, vI ro, vR s2, vR s3, vI dr, vI dt, vR s6, vI pe, vR s8, vI gu, vI sh, vR s11, vI wo, vR s13, vI dn, vI mi, vI fl, vI tk, vI go], zI s3 (cy 0) 96 wf] := hD
      refine lv_aload_n hx hb dX0_come_149 rfl (lv_at hlv 1 rfl) ?_
      refine va_get (D := D) (ci := 0) (v := vR na) (C := RX0) (T := TX0) (N := 7) hx hb hts hi0 hown hG.1 hP 5 rfl rfl 0 (by decide) lf9 (fun _ h9 => h9) rfl dX0_come_150 ?_
      refine lv_iconst (v := iI 1) hx hb dX0_come_153 (by decide) ?_
      refine lv_aload_n hx hb dX0_come_154 rfl (lv_at hlv 1 rfl) ?_
      refine va_get (D := D) (ci := 0) (v := vI cpace) (C := RX0) (T := TX0) (N := 7) hx hb hts hi0 hown hG.1 hP 5 rfl rfl 6 (by decide) lf69 (fun _ h9 => h9) rfl dX0_come_155 ?_
      refine va_iast hx hb hG.1 hP hD hS 6 0 rfl rfl (iI_in (by omega) (by decide)) dX0_come_158 (fun H locs hP hD hS => ?_)
      have ⟨f_14, hP, hD⟩ : ∃ f_14 : Nat → Int32, va_P D vwCl [zI s8 (cy 0) 112 pf, zO la 1 [vR l0, vI size, vR l2, vR l3], zI l0 (cy 0) 600 st, zI l2 (cy 0) 5 sf, zI l3 (cy 0) 40 (u5.2.2 0), zO ca 0 [vR na, vI crow, vI cpace, vI ctyre, vI ckind, vI (u6.2.1 0), vI cpace], zI na (cy 0) 7 f_14, zO sA 6 [vI wi, vI ro, vR s2, vR s3, vI dr, vI dt, vR s6, vI pe, vR s8, vI gu, vI sh, vR s11, vI wo, vR s13, vI dn, vI mi, vI fl, vI tk, vI go], zI s3 (cy 0) 96 wf] H ∧ va_D A [zI s8 (cy 0) 112 pf, zO la 1 [vR l0, vI size, vR l2, vR l3], zI l0 (cy 0) 600 st, zI l2 (cy 0) 5 sf, zI l3 (cy 0) 40 (u5.2.2 0), zO ca 0 [vR na, vI crow, vI cpace, vI ctyre, vI ckind, vI (u6.2.1 0), vI cpace], zI na (cy 0) 7 f_14, zO sA 6 [vI wi, vI ro, vR s2, vR s3, vI dr, vI dt, vR s6, vI pe, vR s8, vI gu, vI sh, vR s11, vI wo, vR s13, vI dn, vI mi, vI fl, vI tk, vI go], zI s3 (cy 0) 96 wf] := ⟨_, hP, hD⟩
      refine W.widen (k := 0) (n := 0) (Nat.le_of_ble_eq_true rfl) (Nat.le_of_ble_eq_true rfl) ?_
      exact W.vret hx hb hr (fun t ht hW => ⟨⟨((fun k => ([] : List Nat).getD k 0), (fun k => ([(u6.2.1 0), cpace] : List Int).getD k 0), (fun k => ([f_14, (u5.2.2 0)] : List (Nat → Int32)).getD k (fun _ => 0))), rfl, ⟨(by show (0 ≤ (u6.2.1 0) ∧ (u6.2.1 0) ≤ 5); omega), (by show ((-2147483648) ≤ cpace ∧ cpace ≤ 2147483647); first | exact hr_cpace | omega), hq1_2, hq5_2⟩, by rw [ht]; exact hP.sub [5, 6, 7, 8, 0, 1, 2, 3, 4] rfl, hD.sub [5, 6, 7, 8, 0, 1, 2, 3, 4] (by decide) rfl⟩, hS.F ht⟩) hS.2.2 dX0_come_159
  · refine lv_iconst (v := iI 0) hx hb dX0_come_57 (by decide) ?_
    refine lv_goto (tgt := 65) hx hb dX0_come_58 (by decide) ?_
    refine cj_v (wr := [zO la 1 [vR l0, vI size, vR l2, vR l3], zI l0 (cy 0) 600 st, zI l2 (cy 0) 5 sf, zI l3 (cy 0) 40 vf, zI s8 (cy 0) 112 pf]) (va_runV (As := [vR sA, vI x, vI 0]) (rest := []) ⟨hx, hb, hml, hown, hts⟩ (c_see l hl D cy sa ca na crow cpace ctyre ckind crt cpt sA s2 s3 s6 s8 s11 s13 wi ro dr dt pe gu sh wo dn mi fl tk go f_5 wf x 0 H.size (by first | exact hr_crow | omega) (by first | exact hr_cpace | omega) (by first | exact hr_ctyre | omega) (by first | exact hr_ckind | omega) (by first | exact hr_crt | omega) (by first | exact hr_cpt | omega) (by first | exact hr_wi | omega) (by first | exact rgw hr_ro (by decide) (by decide) | omega) (by first | exact hr_dr | omega) (by first | exact hr_dt | omega) (by first | exact hr_pe | omega) (by first | exact hr_gu | omega) (by first | exact hr_sh | omega) (by first | exact hr_wo | omega) (by first | exact hr_dn | omega) (by first | exact hr_mi | omega) (by first | exact hr_fl | omega) (by first | exact hr_tk | omega) (by first | exact hr_go | omega) (by first | exact hr_x | omega) (by show (0 : Int) ≤ 0 ∧ (0 : Int) ≤ 5; decide)) (cwV 3 hts gg_2 rfl rfl rfl (by decide +kernel) ⟨Nat.le_of_ble_eq_true rfl, Nat.le_of_ble_eq_true rfl⟩) ⟨pcW.blind, (va_recv hG.1 hP (ci := 0) (q0 := 0) rfl rfl), (pcW.mk hP hD hS hA hG hT [0, 1, 7, 2] rfl (by decide))⟩ rfl rfl hlv.1 rfl (lv_room (Nat.le_of_ble_eq_true rfl)) dX0_come_65 ⟨Nat.le_of_ble_eq_true rfl, Nat.le_of_ble_eq_true rfl⟩) hP hD hS hA [0, 1, 7, 2] [3, 4, 5, 6, 8] rfl rfl (by decide) (by decide) (fun u8 H locs hw8 hP hD hS => ?_)
    have hP : va_P D vwCl [zO la 1 [vR l0, vI size, vR l2, vR l3], zI l0 (cy 0) 600 st, zI l2 (cy 0) 5 sf, zI l3 (cy 0) 40 vf, zI s8 (cy 0) 112 pf, zO ca 0 [vR na, vI crow, vI cpace, vI ctyre, vI ckind, vI 0, vI cpt], zI na (cy 0) 7 (u8.2.2 0), zO sA 6 [vI wi, vI ro, vR s2, vR s3, vI dr, vI dt, vR s6, vI pe, vR s8, vI gu, vI sh, vR s11, vI wo, vR s13, vI dn, vI mi, vI fl, vI tk, vI go], zI s3 (cy 0) 96 wf] H := hP
    have hD : va_D A [zO la 1 [vR l0, vI size, vR l2, vR l3], zI l0 (cy 0) 600 st, zI l2 (cy 0) 5 sf, zI l3 (cy 0) 40 vf, zI s8 (cy 0) 112 pf, zO ca 0 [vR na, vI crow, vI cpace, vI ctyre, vI ckind, vI 0, vI cpt], zI na (cy 0) 7 (u8.2.2 0), zO sA 6 [vI wi, vI ro, vR s2, vR s3, vI dr, vI dt, vR s6, vI pe, vR s8, vI gu, vI sh, vR s11, vI wo, vR s13, vI dn, vI mi, vI fl, vI tk, vI go], zI s3 (cy 0) 96 wf] := hD
    refine lv_aload_n hx hb dX0_come_68 rfl (lv_at hlv 0 rfl) ?_
    refine va_get (D := D) (ci := 0) (v := vI ckind) (C := RX0) (T := TX0) (N := 7) hx hb hts hi0 hown hG.1 hP 5 rfl rfl 4 (by decide) lf25 (fun _ h9 => h9) rfl dX0_come_69 ?_
    refine lv_iconst (v := iI 2) hx hb dX0_come_72 (by decide) ?_
    refine ir_ne (tgt := 112) hx hb dX0_come_73 (by decide) (by first | exact hr_ckind | omega) (by show ((-2147483648) : Int) ≤ 2 ∧ (2 : Int) ≤ 2147483647; decide) (fun c_15 => ?_) (fun c_15 => by exfalso; omega)
    refine lv_aload_n hx hb dX0_come_112 rfl (lv_at hlv 0 rfl) ?_
    refine lv_aload_n hx hb dX0_come_113 rfl (lv_at hlv 0 rfl) ?_
    refine va_get (D := D) (ci := 0) (v := vI ckind) (C := RX0) (T := TX0) (N := 7) hx hb hts hi0 hown hG.1 hP 5 rfl rfl 4 (by decide) lf25 (fun _ h9 => h9) rfl dX0_come_114 ?_
    refine lv_iconst (v := iI 1) hx hb dX0_come_117 (by decide) ?_
    refine ir_ne (tgt := 142) hx hb dX0_come_118 (by decide) (by first | exact hr_ckind | omega) (by show ((-2147483648) : Int) ≤ 1 ∧ (1 : Int) ≤ 2147483647; decide) (fun c_16 => ?_) (fun c_16 => by exfalso; omega)
    refine lv_aload_n hx hb dX0_come_142 rfl (lv_at hlv 0 rfl) ?_
    refine va_get (D := D) (ci := 0) (v := vI cpace) (C := RX0) (T := TX0) (N := 7) hx hb hts hi0 hown hG.1 hP 5 rfl rfl 2 (by decide) lf19 (fun _ h9 => h9) rfl dX0_come_143 ?_
    refine va_put (D := D) (ci := 0) (v := vI cpace) (ty := .int) (C := RX0) (T := TX0) (N := 7) hx hb hts hi0 tyX0 tyX0_ok nmX0 hown hG.1 hP hD hS 5 rfl rfl 6 (by decide) lf69 (fun _ h9 => h9) rfl (by decide +kernel) rfl rfl (Nat.le_of_ble_eq_true rfl) dX0_come_146 (fun H locs hP hD hS => ?_)
    have hP : va_P D vwCl [zO la 1 [vR l0, vI size, vR l2, vR l3], zI l0 (cy 0) 600 st, zI l2 (cy 0) 5 sf, zI l3 (cy 0) 40 vf, zI s8 (cy 0) 112 pf, zO ca 0 [vR na, vI crow, vI cpace, vI ctyre, vI ckind, vI 0, vI cpace], zI na (cy 0) 7 (u8.2.2 0), zO sA 6 [vI wi, vI ro, vR s2, vR s3, vI dr, vI dt, vR s6, vI pe, vR s8, vI gu, vI sh, vR s11, vI wo, vR s13, vI dn, vI mi, vI fl, vI tk, vI go], zI s3 (cy 0) 96 wf] H := hP
    have hD : va_D A [zO la 1 [vR l0, vI size, vR l2, vR l3], zI l0 (cy 0) 600 st, zI l2 (cy 0) 5 sf, zI l3 (cy 0) 40 vf, zI s8 (cy 0) 112 pf, zO ca 0 [vR na, vI crow, vI cpace, vI ctyre, vI ckind, vI 0, vI cpace], zI na (cy 0) 7 (u8.2.2 0), zO sA 6 [vI wi, vI ro, vR s2, vR s3, vI dr, vI dt, vR s6, vI pe, vR s8, vI gu, vI sh, vR s11, vI wo, vR s13, vI dn, vI mi, vI fl, vI tk, vI go], zI s3 (cy 0) 96 wf] := hD
    refine lv_aload_n hx hb dX0_come_149 rfl (lv_at hlv 0 rfl) ?_
    refine va_get (D := D) (ci := 0) (v := vR na) (C := RX0) (T := TX0) (N := 7) hx hb hts hi0 hown hG.1 hP 5 rfl rfl 0 (by decide) lf9 (fun _ h9 => h9) rfl dX0_come_150 ?_
    refine lv_iconst (v := iI 1) hx hb dX0_come_153 (by decide) ?_
    refine lv_aload_n hx hb dX0_come_154 rfl (lv_at hlv 0 rfl) ?_
    refine va_get (D := D) (ci := 0) (v := vI cpace) (C := RX0) (T := TX0) (N := 7) hx hb hts hi0 hown hG.1 hP 5 rfl rfl 6 (by decide) lf69 (fun _ h9 => h9) rfl dX0_come_155 ?_
    refine va_iast hx hb hG.1 hP hD hS 6 0 rfl rfl (iI_in (by omega) (by decide)) dX0_come_158 (fun H locs hP hD hS => ?_)
    have ⟨f_17, hP, hD⟩ : ∃ f_17 : Nat → Int32, va_P D vwCl [zO la 1 [vR l0, vI size, vR l2, vR l3], zI l0 (cy 0) 600 st, zI l2 (cy 0) 5 sf, zI l3 (cy 0) 40 vf, zI s8 (cy 0) 112 pf, zO ca 0 [vR na, vI crow, vI cpace, vI ctyre, vI ckind, vI 0, vI cpace], zI na (cy 0) 7 f_17, zO sA 6 [vI wi, vI ro, vR s2, vR s3, vI dr, vI dt, vR s6, vI pe, vR s8, vI gu, vI sh, vR s11, vI wo, vR s13, vI dn, vI mi, vI fl, vI tk, vI go], zI s3 (cy 0) 96 wf] H ∧ va_D A [zO la 1 [vR l0, vI size, vR l2, vR l3], zI l0 (cy 0) 600 st, zI l2 (cy 0) 5 sf, zI l3 (cy 0) 40 vf, zI s8 (cy 0) 112 pf, zO ca 0 [vR na, vI crow, vI cpace, vI ctyre, vI ckind, vI 0, vI cpace], zI na (cy 0) 7 f_17, zO sA 6 [vI wi, vI ro, vR s2, vR s3, vI dr, vI dt, vR s6, vI pe, vR s8, vI gu, vI sh, vR s11, vI wo, vR s13, vI dn, vI mi, vI fl, vI tk, vI go], zI s3 (cy 0) 96 wf] := ⟨_, hP, hD⟩
    refine W.widen (k := 0) (n := 0) (Nat.le_of_ble_eq_true rfl) (Nat.le_of_ble_eq_true rfl) ?_
    exact W.vret hx hb hr (fun t ht hW => ⟨⟨((fun k => ([] : List Nat).getD k 0), (fun k => ([0, cpace] : List Int).getD k 0), (fun k => ([f_17, vf] : List (Nat → Int32)).getD k (fun _ => 0))), rfl, ⟨(by show (0 ≤ 0 ∧ 0 ≤ 5); show (0 : Int) ≤ 0 ∧ (0 : Int) ≤ 5; decide), (by show ((-2147483648) ≤ cpace ∧ cpace ≤ 2147483647); first | exact hr_cpace | omega), hq1_2, hst⟩, by rw [ht]; exact hP.sub [5, 6, 7, 8, 4, 0, 1, 2, 3] rfl, hD.sub [5, 6, 7, 8, 4, 0, 1, 2, 3] (by decide) rfl⟩, hS.F ht⟩) hS.2.2 dX0_come_159
