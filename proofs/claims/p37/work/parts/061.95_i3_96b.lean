section
theorem dX12_init_0 : decode cX12_init 0 = .ok (.aload_n 0, 1) := by decide +kernel
theorem dX12_init_1 : decode cX12_init 1 = .ok (.invokespecial 11, 3) := by decide +kernel
theorem dX12_init_100 : decode cX12_init 100 = .ok (.aload_n 0, 1) := by decide +kernel
theorem dX12_init_101 : decode cX12_init 101 = .ok (.sipush 2480, 3) := by decide +kernel
theorem dX12_init_104 : decode cX12_init 104 = .ok (.newarray .int, 2) := by decide +kernel
theorem dX12_init_106 : decode cX12_init 106 = .ok (.putfield 50, 3) := by decide +kernel
theorem dX12_init_109 : decode cX12_init 109 = .ok (.aload_n 0, 1) := by decide +kernel
theorem dX12_init_11 : decode cX12_init 11 = .ok (.aload_n 0, 1) := by decide +kernel
theorem dX12_init_110 : decode cX12_init 110 = .ok (.sipush 2480, 3) := by decide +kernel
theorem dX12_init_113 : decode cX12_init 113 = .ok (.newarray .int, 2) := by decide +kernel
theorem dX12_init_115 : decode cX12_init 115 = .ok (.putfield 53, 3) := by decide +kernel
theorem dX12_init_118 : decode cX12_init 118 = .ok (.aload_n 0, 1) := by decide +kernel
theorem dX12_init_119 : decode cX12_init 119 = .ok (.bipush 20, 2) := by decide +kernel
theorem dX12_init_12 : decode cX12_init 12 = .ok (.iconst (-1), 1) := by decide +kernel
theorem dX12_init_121 : decode cX12_init 121 = .ok (.newarray .int, 2) := by decide +kernel
theorem dX12_init_123 : decode cX12_init 123 = .ok (.putfield 56, 3) := by decide +kernel
theorem dX12_init_126 : decode cX12_init 126 = .ok (.aload_n 0, 1) := by decide +kernel
theorem dX12_init_127 : decode cX12_init 127 = .ok (.bipush 20, 2) := by decide +kernel
theorem dX12_init_129 : decode cX12_init 129 = .ok (.newarray .int, 2) := by decide +kernel
theorem dX12_init_13 : decode cX12_init 13 = .ok (.putfield 17, 3) := by decide +kernel
theorem dX12_init_131 : decode cX12_init 131 = .ok (.putfield 59, 3) := by decide +kernel
theorem dX12_init_134 : decode cX12_init 134 = .ok (.aload_n 0, 1) := by decide +kernel
theorem dX12_init_135 : decode cX12_init 135 = .ok (.sipush 620, 3) := by decide +kernel
theorem dX12_init_138 : decode cX12_init 138 = .ok (.newarray .int, 2) := by decide +kernel
theorem dX12_init_140 : decode cX12_init 140 = .ok (.putfield 62, 3) := by decide +kernel
theorem dX12_init_143 : decode cX12_init 143 = .ok (.aload_n 0, 1) := by decide +kernel
theorem dX12_init_144 : decode cX12_init 144 = .ok (.bipush 7, 2) := by decide +kernel
theorem dX12_init_146 : decode cX12_init 146 = .ok (.newarray .int, 2) := by decide +kernel
theorem dX12_init_148 : decode cX12_init 148 = .ok (.putfield 65, 3) := by decide +kernel
theorem dX12_init_151 : decode cX12_init 151 = .ok (.aload_n 0, 1) := by decide +kernel
theorem dX12_init_152 : decode cX12_init 152 = .ok (.sipush 1344, 3) := by decide +kernel
theorem dX12_init_155 : decode cX12_init 155 = .ok (.newarray .int, 2) := by decide +kernel
theorem dX12_init_157 : decode cX12_init 157 = .ok (.putfield 68, 3) := by decide +kernel
theorem dX12_init_16 : decode cX12_init 16 = .ok (.aload_n 0, 1) := by decide +kernel
theorem dX12_init_160 : decode cX12_init 160 = .ok (.aload_n 0, 1) := by decide +kernel
theorem dX12_init_161 : decode cX12_init 161 = .ok (.iconst (-1), 1) := by decide +kernel
theorem dX12_init_162 : decode cX12_init 162 = .ok (.putfield 71, 3) := by decide +kernel
theorem dX12_init_165 : decode cX12_init 165 = .ok (.aload_n 0, 1) := by decide +kernel
theorem dX12_init_166 : decode cX12_init 166 = .ok (.sipush 512, 3) := by decide +kernel
theorem dX12_init_169 : decode cX12_init 169 = .ok (.newarray .int, 2) := by decide +kernel
theorem dX12_init_17 : decode cX12_init 17 = .ok (.sipush 600, 3) := by decide +kernel
theorem dX12_init_171 : decode cX12_init 171 = .ok (.putfield 74, 3) := by decide +kernel
theorem dX12_init_174 : decode cX12_init 174 = .ok (.sipush 353, 3) := by decide +kernel
theorem dX12_init_177 : decode cX12_init 177 = .ok (.istore_n 1, 1) := by decide +kernel
theorem dX12_init_178 : decode cX12_init 178 = .ok (.iload_n 1, 1) := by decide +kernel
theorem dX12_init_179 : decode cX12_init 179 = .ok (.sipush 357, 3) := by decide +kernel
theorem dX12_init_182 : decode cX12_init 182 = .ok (.if_icmp .ge 16, 3) := by decide +kernel
theorem dX12_init_185 : decode cX12_init 185 = .ok (.aload_n 0, 1) := by decide +kernel
theorem dX12_init_186 : decode cX12_init 186 = .ok (.getfield 29, 3) := by decide +kernel
theorem dX12_init_189 : decode cX12_init 189 = .ok (.iload_n 1, 1) := by decide +kernel
theorem dX12_init_190 : decode cX12_init 190 = .ok (.iconst 1, 1) := by decide +kernel
theorem dX12_init_191 : decode cX12_init 191 = .ok (.iastore, 1) := by decide +kernel
theorem dX12_init_192 : decode cX12_init 192 = .ok (.iinc 1 1, 3) := by decide +kernel
theorem dX12_init_195 : decode cX12_init 195 = .ok (.goto (-17), 3) := by decide +kernel
theorem dX12_init_198 : decode cX12_init 198 = .ok (.return_, 1) := by decide +kernel
theorem dX12_init_20 : decode cX12_init 20 = .ok (.newarray .int, 2) := by decide +kernel
theorem dX12_init_22 : decode cX12_init 22 = .ok (.putfield 20, 3) := by decide +kernel
theorem dX12_init_25 : decode cX12_init 25 = .ok (.aload_n 0, 1) := by decide +kernel
theorem dX12_init_26 : decode cX12_init 26 = .ok (.bipush 68, 2) := by decide +kernel
theorem dX12_init_28 : decode cX12_init 28 = .ok (.newarray .int, 2) := by decide +kernel
theorem dX12_init_30 : decode cX12_init 30 = .ok (.putfield 23, 3) := by decide +kernel
theorem dX12_init_33 : decode cX12_init 33 = .ok (.aload_n 0, 1) := by decide +kernel
theorem dX12_init_34 : decode cX12_init 34 = .ok (.bipush 68, 2) := by decide +kernel
theorem dX12_init_36 : decode cX12_init 36 = .ok (.newarray .int, 2) := by decide +kernel
theorem dX12_init_38 : decode cX12_init 38 = .ok (.putfield 26, 3) := by decide +kernel
theorem dX12_init_4 : decode cX12_init 4 = .ok (.aload_n 0, 1) := by decide +kernel
theorem dX12_init_41 : decode cX12_init 41 = .ok (.aload_n 0, 1) := by decide +kernel
theorem dX12_init_42 : decode cX12_init 42 = .ok (.sipush 389, 3) := by decide +kernel
theorem dX12_init_45 : decode cX12_init 45 = .ok (.newarray .int, 2) := by decide +kernel
theorem dX12_init_47 : decode cX12_init 47 = .ok (.putfield 29, 3) := by decide +kernel
theorem dX12_init_5 : decode cX12_init 5 = .ok (.iconst 4, 1) := by decide +kernel
theorem dX12_init_50 : decode cX12_init 50 = .ok (.aload_n 0, 1) := by decide +kernel
theorem dX12_init_51 : decode cX12_init 51 = .ok (.sipush 389, 3) := by decide +kernel
theorem dX12_init_54 : decode cX12_init 54 = .ok (.newarray .int, 2) := by decide +kernel
theorem dX12_init_56 : decode cX12_init 56 = .ok (.putfield 32, 3) := by decide +kernel
theorem dX12_init_59 : decode cX12_init 59 = .ok (.aload_n 0, 1) := by decide +kernel
theorem dX12_init_6 : decode cX12_init 6 = .ok (.newarray .int, 2) := by decide +kernel
theorem dX12_init_60 : decode cX12_init 60 = .ok (.sipush 389, 3) := by decide +kernel
theorem dX12_init_63 : decode cX12_init 63 = .ok (.newarray .int, 2) := by decide +kernel
theorem dX12_init_65 : decode cX12_init 65 = .ok (.putfield 35, 3) := by decide +kernel
theorem dX12_init_68 : decode cX12_init 68 = .ok (.aload_n 0, 1) := by decide +kernel
theorem dX12_init_69 : decode cX12_init 69 = .ok (.sipush 1167, 3) := by decide +kernel
theorem dX12_init_72 : decode cX12_init 72 = .ok (.newarray .int, 2) := by decide +kernel
theorem dX12_init_74 : decode cX12_init 74 = .ok (.putfield 38, 3) := by decide +kernel
theorem dX12_init_77 : decode cX12_init 77 = .ok (.aload_n 0, 1) := by decide +kernel
theorem dX12_init_78 : decode cX12_init 78 = .ok (.iconst 4, 1) := by decide +kernel
theorem dX12_init_79 : decode cX12_init 79 = .ok (.newarray .int, 2) := by decide +kernel
theorem dX12_init_8 : decode cX12_init 8 = .ok (.putfield 7, 3) := by decide +kernel
theorem dX12_init_81 : decode cX12_init 81 = .ok (.putfield 41, 3) := by decide +kernel
theorem dX12_init_84 : decode cX12_init 84 = .ok (.aload_n 0, 1) := by decide +kernel
theorem dX12_init_85 : decode cX12_init 85 = .ok (.bipush 32, 2) := by decide +kernel
theorem dX12_init_87 : decode cX12_init 87 = .ok (.newarray .int, 2) := by decide +kernel
theorem dX12_init_89 : decode cX12_init 89 = .ok (.putfield 44, 3) := by decide +kernel
theorem dX12_init_92 : decode cX12_init 92 = .ok (.aload_n 0, 1) := by decide +kernel
theorem dX12_init_93 : decode cX12_init 93 = .ok (.bipush 32, 2) := by decide +kernel
theorem dX12_init_95 : decode cX12_init 95 = .ok (.newarray .int, 2) := by decide +kernel
theorem dX12_init_97 : decode cX12_init 97 = .ok (.putfield 47, 3) := by decide +kernel
def sF : Nat → Int32 := upd (upd (upd (upd (fun _ => 0) 353 1) 354 1) 355 1) 356 1
set_option maxHeartbeats 4000000 in
set_option maxRecDepth 100000 in
theorem c_M_all (l : Launch) (hl : l.stackTraces = false) (D : va_G) (cy : Nat → ClassId) (sa : Nat → Nat) (h0 : Nat) (sz : Nat) : Met l yX12_init wsX12_init ({ frames := 1, cells := 19, slots := 10625, locals := 20 }) (va_Pc [vR h0] (pcW D cy sa sz [zO h0 12 [Value.int 0, vN, Value.int 0, Value.int 0, Value.int 0, Value.int 0, Value.int 0, Value.int 0, Value.int 0, vN, vN, vN, vN, vN, vN, vN, Value.int 0, Value.int 0, Value.int 0, vN, vN, vN, Value.int 0, vN, vN, vN, vN, vN, vN, Value.int 0, Value.int 0, Value.int 0, Value.int 0, vN, Value.int 0, vN, Value.int 0, Value.int 0]])) (va_Qv (fun u : SU => (True)) (fun u t => atW D (va_A [zO h0 12 [Value.int 0, vN, Value.int 0, Value.int 0, Value.int 0, Value.int 0, Value.int 0, Value.int 0, Value.int 0, vN, vN, vN, vN, vN, vN, vN, Value.int 0, Value.int 0, Value.int 0, vN, vN, vN, Value.int 0, vN, vN, vN, vN, vN, vN, Value.int 0, Value.int 0, Value.int 0, Value.int 0, vN, Value.int 0, vN, Value.int 0, Value.int 0]] sz) [zO h0 12 [Value.int 0, vR (u.1 1), Value.int 0, Value.int 0, Value.int 0, Value.int 0, Value.int 0, Value.int 0, Value.int (-1), vR (u.1 9), vR (u.1 10), vR (u.1 11), vR (u.1 12), vR (u.1 13), vR (u.1 14), vR (u.1 15), Value.int 0, Value.int 0, Value.int 0, vR (u.1 19), vR (u.1 20), vR (u.1 21), Value.int 0, vR (u.1 23), vR (u.1 24), vR (u.1 25), vR (u.1 26), vR (u.1 27), vR (u.1 28), Value.int 0, Value.int 0, Value.int 0, Value.int 0, vR (u.1 33), Value.int (-1), vR (u.1 35), Value.int 0, Value.int 0], zI (u.1 1) (cy 0) 4 (fun _ => 0), zI (u.1 9) (cy 0) 600 (fun _ => 0), zI (u.1 10) (cy 0) 68 (fun _ => 0), zI (u.1 11) (cy 0) 68 (fun _ => 0), zI (u.1 12) (cy 0) 389 sF, zI (u.1 13) (cy 0) 389 (fun _ => 0), zI (u.1 14) (cy 0) 389 (fun _ => 0), zI (u.1 15) (cy 0) 1167 (fun _ => 0), zI (u.1 19) (cy 0) 4 (fun _ => 0), zI (u.1 20) (cy 0) 32 (fun _ => 0), zI (u.1 21) (cy 0) 32 (fun _ => 0), zI (u.1 23) (cy 0) 2480 (fun _ => 0), zI (u.1 24) (cy 0) 2480 (fun _ => 0), zI (u.1 25) (cy 0) 20 (fun _ => 0), zI (u.1 26) (cy 0) 20 (fun _ => 0), zI (u.1 27) (cy 0) 620 (fun _ => 0), zI (u.1 28) (cy 0) 7 (fun _ => 0), zI (u.1 33) (cy 0) 1344 (fun _ => 0), zI (u.1 35) (cy 0) 512 (fun _ => 0)] t) (va_A [zO h0 12 [Value.int 0, vN, Value.int 0, Value.int 0, Value.int 0, Value.int 0, Value.int 0, Value.int 0, Value.int 0, vN, vN, vN, vN, vN, vN, vN, Value.int 0, Value.int 0, Value.int 0, vN, vN, vN, Value.int 0, vN, vN, vN, vN, vN, vN, Value.int 0, Value.int 0, Value.int 0, Value.int 0, vN, Value.int 0, vN, Value.int 0, Value.int 0]] sz)) 19 10625 (va_A [zO h0 12 [Value.int 0, vN, Value.int 0, Value.int 0, Value.int 0, Value.int 0, Value.int 0, Value.int 0, Value.int 0, vN, vN, vN, vN, vN, vN, vN, Value.int 0, Value.int 0, Value.int 0, vN, vN, vN, Value.int 0, vN, vN, vN, vN, vN, vN, Value.int 0, Value.int 0, Value.int 0, Value.int 0, vN, Value.int 0, vN, Value.int 0, Value.int 0]] sz) := by
  refine Met.ofW (cc := cX12_init) (maxL := 2) (ret := none) (by decide) rfl ?_
  intro p e s m args below meth c s₁ B hml hv
  obtain ⟨rfl, hsz, hP, hG, hD0, hT⟩ := hv
  have hx := B.exec
  have hb := B.bytes
  have hr := B.returns
  have hts := atoms_spec (ws := wsX12_init) B.pre
  have hown : s.vm.findClass RX12 = some m.cls := findClass_of_methodNamed B.named
  have hlocks := B.notSynchronized
  have hin : meth.name = "<init>" := (name_of_methodNamed B.named B.method).1
  subst hsz
  have hD := hD0.self (sz := s.heap.size)
  generalize hAe : va_A [zO h0 12 [Value.int 0, vN, Value.int 0, Value.int 0, Value.int 0, Value.int 0, Value.int 0, Value.int 0, Value.int 0, vN, vN, vN, vN, vN, vN, vN, Value.int 0, Value.int 0, Value.int 0, vN, vN, vN, Value.int 0, vN, vN, vN, vN, vN, vN, Value.int 0, Value.int 0, Value.int 0, Value.int 0, vN, Value.int 0, vN, Value.int 0, Value.int 0]] s.heap.size = A at hD hT ⊢
  have hA : ∀ q : Nat, s.heap.size ≤ q → A q := fun q h => by rw [← hAe]; exact Or.inr h
  have hS : va_S A s.heap s.heap [] := va_S.rf
  have hl0 := lv_entry ([vR h0]) (n := 2) (Nat.le_of_ble_eq_true rfl)
  rw [lg_entry_eq]
  generalize (lg_sl ([vR h0]) ++ List.replicate (2 - (lg_sl ([vR h0])).length) Slot.unset).toArray = ls at hl0 ⊢
  have hlv : lv_has ls 2 [(0, vR h0)] := hl0
  have lo11 := hts (.methodLink RX12 11 objectInit) (by decide +kernel)
  have oi := hts (.instanceMethod objectInit) (by decide +kernel)
  have oc := hts (.code objectInit ⟨#[0xb1]⟩ 1 none) (by decide +kernel)
  have ac0 := hts (.arrayClass .int) (by decide +kernel)
  have lf7 := hts (.fieldLink RX12 7 "KerbSplashModel" "refused" "[I") (by decide +kernel)
  have hi12 : ∀ w ∈ wsX120, w ∈ wsX12_init := by decide +kernel
  have lf17 := hts (.fieldLink RX12 17 "KerbSplashModel" "faultAt" "I") (by decide +kernel)
  have lf20 := hts (.fieldLink RX12 20 "KerbSplashModel" "tape" "[I") (by decide +kernel)
  have lf23 := hts (.fieldLink RX12 23 "KerbSplashModel" "b" "[I") (by decide +kernel)
  have lf26 := hts (.fieldLink RX12 26 "KerbSplashModel" "newStreet" "[I") (by decide +kernel)
  have lf29 := hts (.fieldLink RX12 29 "KerbSplashModel" "s" "[I") (by decide +kernel)
  have lf32 := hts (.fieldLink RX12 32 "KerbSplashModel" "newState" "[I") (by decide +kernel)
  have lf35 := hts (.fieldLink RX12 35 "KerbSplashModel" "kept" "[I") (by decide +kernel)
  have lf38 := hts (.fieldLink RX12 38 "KerbSplashModel" "image" "[I") (by decide +kernel)
  have lf41 := hts (.fieldLink RX12 41 "KerbSplashModel" "falls" "[I") (by decide +kernel)
  have lf44 := hts (.fieldLink RX12 44 "KerbSplashModel" "rainMany" "[I") (by decide +kernel)
  have lf47 := hts (.fieldLink RX12 47 "KerbSplashModel" "rainTimes" "[I") (by decide +kernel)
  have lf50 := hts (.fieldLink RX12 50 "KerbSplashModel" "step" "[I") (by decide +kernel)
  have lf53 := hts (.fieldLink RX12 53 "KerbSplashModel" "stepValue" "[I") (by decide +kernel)
  have lf56 := hts (.fieldLink RX12 56 "KerbSplashModel" "lawFrom" "[I") (by decide +kernel)
  have lf59 := hts (.fieldLink RX12 59 "KerbSplashModel" "lawTo" "[I") (by decide +kernel)
  have lf62 := hts (.fieldLink RX12 62 "KerbSplashModel" "stack" "[I") (by decide +kernel)
  have lf65 := hts (.fieldLink RX12 65 "KerbSplashModel" "names" "[I") (by decide +kernel)
  have lf68 := hts (.fieldLink RX12 68 "KerbSplashModel" "cases" "[I") (by decide +kernel)
  have lf71 := hts (.fieldLink RX12 71 "KerbSplashModel" "shut" "I") (by decide +kernel)
  have lf74 := hts (.fieldLink RX12 74 "KerbSplashModel" "rest" "[I") (by decide +kernel)
  refine lv_aload_n hx hb dX12_init_0 rfl (lv_at hlv 0 rfl) ?_
  refine W.objInit hx hb hown lo11 oi oc rfl (by rw [hml]; exact hlv.1) rfl dX12_init_1 (Nat.le_of_ble_eq_true rfl) (Nat.le_of_ble_eq_true rfl) ?_
  refine W.eq (g2 := F0 m 4 ls []) rfl ?_
  refine lv_aload_n hx hb dX12_init_4 rfl (lv_at hlv 0 rfl) ?_
  refine lv_iconst (v := 4) hx hb dX12_init_5 (by decide) ?_
  refine nw_a (atype := .int) (cy := cy) (a0 := (4, .inl (fun _ => 0))) (N' := 4) hx hb ac0 (ty := .int) rfl 0 rfl (fun C h => nomatch h) hG.1 hP hD hS hA (fun cA => rfl) (by decide) (by decide) (Nat.le_of_ble_eq_true rfl) (Nat.le_of_ble_eq_true rfl) (Nat.le_of_ble_eq_true rfl) dX12_init_6 (fun q_1 H hP hD hS => ?_)
  let wc_1 : Nat × va_E := zO h0 12 [Value.int 0, vN, Value.int 0, Value.int 0, Value.int 0, Value.int 0, Value.int 0, Value.int 0, Value.int 0, vN, vN, vN, vN, vN, vN, vN, Value.int 0, Value.int 0, Value.int 0, vN, vN, vN, Value.int 0, vN, vN, vN, vN, vN, vN, Value.int 0, Value.int 0, Value.int 0, Value.int 0, vN, Value.int 0, vN, Value.int 0, Value.int 0]
  let wc_2 : Nat × va_E := zI q_1 (cy 0) 4 (fun _ => 0)
  obtain ⟨hP, hD⟩ := pw9 [wc_1, wc_2] hP hD
  refine va_putF (D := D) (ci := 12) (v := vR q_1) (ty := .array .int) (C := RX12) (T := TX12) (N := 38) hx hb hts hi12 tyX12 tyX12_ok nmX12 hown hG.1 hP hD hS 0 rfl rfl 1 (by decide) lf7 (fun _ h9 => h9) rfl hin rfl (by decide +kernel) rfl rfl (Nat.le_of_ble_eq_true rfl) dX12_init_8 (fun H locs hP hD hS => ?_)
  let wc_3 : Nat × va_E := zO h0 12 [Value.int 0, vR q_1, Value.int 0, Value.int 0, Value.int 0, Value.int 0, Value.int 0, Value.int 0, Value.int 0, vN, vN, vN, vN, vN, vN, vN, Value.int 0, Value.int 0, Value.int 0, vN, vN, vN, Value.int 0, vN, vN, vN, vN, vN, vN, Value.int 0, Value.int 0, Value.int 0, Value.int 0, vN, Value.int 0, vN, Value.int 0, Value.int 0]
  obtain ⟨hP, hD⟩ := pw9 [wc_3, wc_2] hP hD
  refine lv_aload_n hx hb dX12_init_11 rfl (lv_at hlv 0 rfl) ?_
  refine lv_iconst (v := (-1)) hx hb dX12_init_12 (by decide) ?_
  refine va_put (D := D) (ci := 12) (v := Value.int (-1)) (ty := .int) (C := RX12) (T := TX12) (N := 38) hx hb hts hi12 tyX12 tyX12_ok nmX12 hown hG.1 hP hD hS 0 rfl rfl 8 (by decide) lf17 (fun _ h9 => h9) rfl (by decide +kernel) rfl rfl (Nat.le_of_ble_eq_true rfl) dX12_init_13 (fun H locs hP hD hS => ?_)
  let wc_4 : Nat × va_E := zO h0 12 [Value.int 0, vR q_1, Value.int 0, Value.int 0, Value.int 0, Value.int 0, Value.int 0, Value.int 0, Value.int (-1), vN, vN, vN, vN, vN, vN, vN, Value.int 0, Value.int 0, Value.int 0, vN, vN, vN, Value.int 0, vN, vN, vN, vN, vN, vN, Value.int 0, Value.int 0, Value.int 0, Value.int 0, vN, Value.int 0, vN, Value.int 0, Value.int 0]
  obtain ⟨hP, hD⟩ := pw9 [wc_4, wc_2] hP hD
  refine lv_aload_n hx hb dX12_init_16 rfl (lv_at hlv 0 rfl) ?_
  refine lv_sipush (v := 600) hx hb dX12_init_17 (by decide) ?_
  refine nw_a (atype := .int) (cy := cy) (a0 := (600, .inl (fun _ => 0))) (N' := 600) hx hb ac0 (ty := .int) rfl 0 rfl (fun C h => nomatch h) hG.1 hP hD hS hA (fun cA => rfl) (by decide) (by decide) (Nat.le_of_ble_eq_true rfl) (Nat.le_of_ble_eq_true rfl) (Nat.le_of_ble_eq_true rfl) dX12_init_20 (fun q_2 H hP hD hS => ?_)
  let wc_5 : Nat × va_E := zI q_2 (cy 0) 600 (fun _ => 0)
  obtain ⟨hP, hD⟩ := pw9 [wc_4, wc_2, wc_5] hP hD
  refine va_putF (D := D) (ci := 12) (v := vR q_2) (ty := .array .int) (C := RX12) (T := TX12) (N := 38) hx hb hts hi12 tyX12 tyX12_ok nmX12 hown hG.1 hP hD hS 0 rfl rfl 9 (by decide) lf20 (fun _ h9 => h9) rfl hin rfl (by decide +kernel) rfl rfl (Nat.le_of_ble_eq_true rfl) dX12_init_22 (fun H locs hP hD hS => ?_)
  let wc_6 : Nat × va_E := zO h0 12 [Value.int 0, vR q_1, Value.int 0, Value.int 0, Value.int 0, Value.int 0, Value.int 0, Value.int 0, Value.int (-1), vR q_2, vN, vN, vN, vN, vN, vN, Value.int 0, Value.int 0, Value.int 0, vN, vN, vN, Value.int 0, vN, vN, vN, vN, vN, vN, Value.int 0, Value.int 0, Value.int 0, Value.int 0, vN, Value.int 0, vN, Value.int 0, Value.int 0]
  obtain ⟨hP, hD⟩ := pw9 [wc_6, wc_2, wc_5] hP hD
  refine lv_aload_n hx hb dX12_init_25 rfl (lv_at hlv 0 rfl) ?_
  refine lv_bipush (v := 68) hx hb dX12_init_26 (by decide) ?_
  refine nw_a (atype := .int) (cy := cy) (a0 := (68, .inl (fun _ => 0))) (N' := 68) hx hb ac0 (ty := .int) rfl 0 rfl (fun C h => nomatch h) hG.1 hP hD hS hA (fun cA => rfl) (by decide) (by decide) (Nat.le_of_ble_eq_true rfl) (Nat.le_of_ble_eq_true rfl) (Nat.le_of_ble_eq_true rfl) dX12_init_28 (fun q_3 H hP hD hS => ?_)
  let wc_7 : Nat × va_E := zI q_3 (cy 0) 68 (fun _ => 0)
  obtain ⟨hP, hD⟩ := pw9 [wc_6, wc_2, wc_5, wc_7] hP hD
  refine va_putF (D := D) (ci := 12) (v := vR q_3) (ty := .array .int) (C := RX12) (T := TX12) (N := 38) hx hb hts hi12 tyX12 tyX12_ok nmX12 hown hG.1 hP hD hS 0 rfl rfl 10 (by decide) lf23 (fun _ h9 => h9) rfl hin rfl (by decide +kernel) rfl rfl (Nat.le_of_ble_eq_true rfl) dX12_init_30 (fun H locs hP hD hS => ?_)
  let wc_8 : Nat × va_E := zO h0 12 [Value.int 0, vR q_1, Value.int 0, Value.int 0, Value.int 0, Value.int 0, Value.int 0, Value.int 0, Value.int (-1), vR q_2, vR q_3, vN, vN, vN, vN, vN, Value.int 0, Value.int 0, Value.int 0, vN, vN, vN, Value.int 0, vN, vN, vN, vN, vN, vN, Value.int 0, Value.int 0, Value.int 0, Value.int 0, vN, Value.int 0, vN, Value.int 0, Value.int 0]
  obtain ⟨hP, hD⟩ := pw9 [wc_8, wc_2, wc_5, wc_7] hP hD
  refine lv_aload_n hx hb dX12_init_33 rfl (lv_at hlv 0 rfl) ?_
  refine lv_bipush (v := 68) hx hb dX12_init_34 (by decide) ?_
  refine nw_a (atype := .int) (cy := cy) (a0 := (68, .inl (fun _ => 0))) (N' := 68) hx hb ac0 (ty := .int) rfl 0 rfl (fun C h => nomatch h) hG.1 hP hD hS hA (fun cA => rfl) (by decide) (by decide) (Nat.le_of_ble_eq_true rfl) (Nat.le_of_ble_eq_true rfl) (Nat.le_of_ble_eq_true rfl) dX12_init_36 (fun q_4 H hP hD hS => ?_)
  let wc_9 : Nat × va_E := zI q_4 (cy 0) 68 (fun _ => 0)
  obtain ⟨hP, hD⟩ := pw9 [wc_8, wc_2, wc_5, wc_7, wc_9] hP hD
  refine va_putF (D := D) (ci := 12) (v := vR q_4) (ty := .array .int) (C := RX12) (T := TX12) (N := 38) hx hb hts hi12 tyX12 tyX12_ok nmX12 hown hG.1 hP hD hS 0 rfl rfl 11 (by decide) lf26 (fun _ h9 => h9) rfl hin rfl (by decide +kernel) rfl rfl (Nat.le_of_ble_eq_true rfl) dX12_init_38 (fun H locs hP hD hS => ?_)
  let wc_10 : Nat × va_E := zO h0 12 [Value.int 0, vR q_1, Value.int 0, Value.int 0, Value.int 0, Value.int 0, Value.int 0, Value.int 0, Value.int (-1), vR q_2, vR q_3, vR q_4, vN, vN, vN, vN, Value.int 0, Value.int 0, Value.int 0, vN, vN, vN, Value.int 0, vN, vN, vN, vN, vN, vN, Value.int 0, Value.int 0, Value.int 0, Value.int 0, vN, Value.int 0, vN, Value.int 0, Value.int 0]
  obtain ⟨hP, hD⟩ := pw9 [wc_10, wc_2, wc_5, wc_7, wc_9] hP hD
  refine lv_aload_n hx hb dX12_init_41 rfl (lv_at hlv 0 rfl) ?_
  refine lv_sipush (v := 389) hx hb dX12_init_42 (by decide) ?_
  refine nw_a (atype := .int) (cy := cy) (a0 := (389, .inl (fun _ => 0))) (N' := 389) hx hb ac0 (ty := .int) rfl 0 rfl (fun C h => nomatch h) hG.1 hP hD hS hA (fun cA => rfl) (by decide) (by decide) (Nat.le_of_ble_eq_true rfl) (Nat.le_of_ble_eq_true rfl) (Nat.le_of_ble_eq_true rfl) dX12_init_45 (fun q_5 H hP hD hS => ?_)
  let wc_11 : Nat × va_E := zI q_5 (cy 0) 389 (fun _ => 0)
  obtain ⟨hP, hD⟩ := pw9 [wc_10, wc_2, wc_5, wc_7, wc_9, wc_11] hP hD
  refine va_putF (D := D) (ci := 12) (v := vR q_5) (ty := .array .int) (C := RX12) (T := TX12) (N := 38) hx hb hts hi12 tyX12 tyX12_ok nmX12 hown hG.1 hP hD hS 0 rfl rfl 12 (by decide) lf29 (fun _ h9 => h9) rfl hin rfl (by decide +kernel) rfl rfl (Nat.le_of_ble_eq_true rfl) dX12_init_47 (fun H locs hP hD hS => ?_)
  let wc_12 : Nat × va_E := zO h0 12 [Value.int 0, vR q_1, Value.int 0, Value.int 0, Value.int 0, Value.int 0, Value.int 0, Value.int 0, Value.int (-1), vR q_2, vR q_3, vR q_4, vR q_5, vN, vN, vN, Value.int 0, Value.int 0, Value.int 0, vN, vN, vN, Value.int 0, vN, vN, vN, vN, vN, vN, Value.int 0, Value.int 0, Value.int 0, Value.int 0, vN, Value.int 0, vN, Value.int 0, Value.int 0]
  obtain ⟨hP, hD⟩ := pw9 [wc_12, wc_2, wc_5, wc_7, wc_9, wc_11] hP hD
  refine lv_aload_n hx hb dX12_init_50 rfl (lv_at hlv 0 rfl) ?_
  refine lv_sipush (v := 389) hx hb dX12_init_51 (by decide) ?_
  refine nw_a (atype := .int) (cy := cy) (a0 := (389, .inl (fun _ => 0))) (N' := 389) hx hb ac0 (ty := .int) rfl 0 rfl (fun C h => nomatch h) hG.1 hP hD hS hA (fun cA => rfl) (by decide) (by decide) (Nat.le_of_ble_eq_true rfl) (Nat.le_of_ble_eq_true rfl) (Nat.le_of_ble_eq_true rfl) dX12_init_54 (fun q_6 H hP hD hS => ?_)
  let wc_13 : Nat × va_E := zI q_6 (cy 0) 389 (fun _ => 0)
  obtain ⟨hP, hD⟩ := pw9 [wc_12, wc_2, wc_5, wc_7, wc_9, wc_11, wc_13] hP hD
  refine va_putF (D := D) (ci := 12) (v := vR q_6) (ty := .array .int) (C := RX12) (T := TX12) (N := 38) hx hb hts hi12 tyX12 tyX12_ok nmX12 hown hG.1 hP hD hS 0 rfl rfl 13 (by decide) lf32 (fun _ h9 => h9) rfl hin rfl (by decide +kernel) rfl rfl (Nat.le_of_ble_eq_true rfl) dX12_init_56 (fun H locs hP hD hS => ?_)
  let wc_14 : Nat × va_E := zO h0 12 [Value.int 0, vR q_1, Value.int 0, Value.int 0, Value.int 0, Value.int 0, Value.int 0, Value.int 0, Value.int (-1), vR q_2, vR q_3, vR q_4, vR q_5, vR q_6, vN, vN, Value.int 0, Value.int 0, Value.int 0, vN, vN, vN, Value.int 0, vN, vN, vN, vN, vN, vN, Value.int 0, Value.int 0, Value.int 0, Value.int 0, vN, Value.int 0, vN, Value.int 0, Value.int 0]
  obtain ⟨hP, hD⟩ := pw9 [wc_14, wc_2, wc_5, wc_7, wc_9, wc_11, wc_13] hP hD
  refine lv_aload_n hx hb dX12_init_59 rfl (lv_at hlv 0 rfl) ?_
  refine lv_sipush (v := 389) hx hb dX12_init_60 (by decide) ?_
  refine nw_a (atype := .int) (cy := cy) (a0 := (389, .inl (fun _ => 0))) (N' := 389) hx hb ac0 (ty := .int) rfl 0 rfl (fun C h => nomatch h) hG.1 hP hD hS hA (fun cA => rfl) (by decide) (by decide) (Nat.le_of_ble_eq_true rfl) (Nat.le_of_ble_eq_true rfl) (Nat.le_of_ble_eq_true rfl) dX12_init_63 (fun q_7 H hP hD hS => ?_)
  let wc_15 : Nat × va_E := zI q_7 (cy 0) 389 (fun _ => 0)
  obtain ⟨hP, hD⟩ := pw9 [wc_14, wc_2, wc_5, wc_7, wc_9, wc_11, wc_13, wc_15] hP hD
  refine va_putF (D := D) (ci := 12) (v := vR q_7) (ty := .array .int) (C := RX12) (T := TX12) (N := 38) hx hb hts hi12 tyX12 tyX12_ok nmX12 hown hG.1 hP hD hS 0 rfl rfl 14 (by decide) lf35 (fun _ h9 => h9) rfl hin rfl (by decide +kernel) rfl rfl (Nat.le_of_ble_eq_true rfl) dX12_init_65 (fun H locs hP hD hS => ?_)
  let wc_16 : Nat × va_E := zO h0 12 [Value.int 0, vR q_1, Value.int 0, Value.int 0, Value.int 0, Value.int 0, Value.int 0, Value.int 0, Value.int (-1), vR q_2, vR q_3, vR q_4, vR q_5, vR q_6, vR q_7, vN, Value.int 0, Value.int 0, Value.int 0, vN, vN, vN, Value.int 0, vN, vN, vN, vN, vN, vN, Value.int 0, Value.int 0, Value.int 0, Value.int 0, vN, Value.int 0, vN, Value.int 0, Value.int 0]
  obtain ⟨hP, hD⟩ := pw9 [wc_16, wc_2, wc_5, wc_7, wc_9, wc_11, wc_13, wc_15] hP hD
  refine lv_aload_n hx hb dX12_init_68 rfl (lv_at hlv 0 rfl) ?_
  refine lv_sipush (v := 1167) hx hb dX12_init_69 (by decide) ?_
  refine nw_a (atype := .int) (cy := cy) (a0 := (1167, .inl (fun _ => 0))) (N' := 1167) hx hb ac0 (ty := .int) rfl 0 rfl (fun C h => nomatch h) hG.1 hP hD hS hA (fun cA => rfl) (by decide) (by decide) (Nat.le_of_ble_eq_true rfl) (Nat.le_of_ble_eq_true rfl) (Nat.le_of_ble_eq_true rfl) dX12_init_72 (fun q_8 H hP hD hS => ?_)
  let wc_17 : Nat × va_E := zI q_8 (cy 0) 1167 (fun _ => 0)
  obtain ⟨hP, hD⟩ := pw9 [wc_16, wc_2, wc_5, wc_7, wc_9, wc_11, wc_13, wc_15, wc_17] hP hD
  refine va_putF (D := D) (ci := 12) (v := vR q_8) (ty := .array .int) (C := RX12) (T := TX12) (N := 38) hx hb hts hi12 tyX12 tyX12_ok nmX12 hown hG.1 hP hD hS 0 rfl rfl 15 (by decide) lf38 (fun _ h9 => h9) rfl hin rfl (by decide +kernel) rfl rfl (Nat.le_of_ble_eq_true rfl) dX12_init_74 (fun H locs hP hD hS => ?_)
  let wc_18 : Nat × va_E := zO h0 12 [Value.int 0, vR q_1, Value.int 0, Value.int 0, Value.int 0, Value.int 0, Value.int 0, Value.int 0, Value.int (-1), vR q_2, vR q_3, vR q_4, vR q_5, vR q_6, vR q_7, vR q_8, Value.int 0, Value.int 0, Value.int 0, vN, vN, vN, Value.int 0, vN, vN, vN, vN, vN, vN, Value.int 0, Value.int 0, Value.int 0, Value.int 0, vN, Value.int 0, vN, Value.int 0, Value.int 0]
  obtain ⟨hP, hD⟩ := pw9 [wc_18, wc_2, wc_5, wc_7, wc_9, wc_11, wc_13, wc_15, wc_17] hP hD
  refine lv_aload_n hx hb dX12_init_77 rfl (lv_at hlv 0 rfl) ?_
  refine lv_iconst (v := 4) hx hb dX12_init_78 (by decide) ?_
  refine nw_a (atype := .int) (cy := cy) (a0 := (4, .inl (fun _ => 0))) (N' := 4) hx hb ac0 (ty := .int) rfl 0 rfl (fun C h => nomatch h) hG.1 hP hD hS hA (fun cA => rfl) (by decide) (by decide) (Nat.le_of_ble_eq_true rfl) (Nat.le_of_ble_eq_true rfl) (Nat.le_of_ble_eq_true rfl) dX12_init_79 (fun q_9 H hP hD hS => ?_)
  let wc_19 : Nat × va_E := zI q_9 (cy 0) 4 (fun _ => 0)
  obtain ⟨hP, hD⟩ := pw9 [wc_18, wc_2, wc_5, wc_7, wc_9, wc_11, wc_13, wc_15, wc_17, wc_19] hP hD
  refine va_putF (D := D) (ci := 12) (v := vR q_9) (ty := .array .int) (C := RX12) (T := TX12) (N := 38) hx hb hts hi12 tyX12 tyX12_ok nmX12 hown hG.1 hP hD hS 0 rfl rfl 19 (by decide) lf41 (fun _ h9 => h9) rfl hin rfl (by decide +kernel) rfl rfl (Nat.le_of_ble_eq_true rfl) dX12_init_81 (fun H locs hP hD hS => ?_)
  let wc_20 : Nat × va_E := zO h0 12 [Value.int 0, vR q_1, Value.int 0, Value.int 0, Value.int 0, Value.int 0, Value.int 0, Value.int 0, Value.int (-1), vR q_2, vR q_3, vR q_4, vR q_5, vR q_6, vR q_7, vR q_8, Value.int 0, Value.int 0, Value.int 0, vR q_9, vN, vN, Value.int 0, vN, vN, vN, vN, vN, vN, Value.int 0, Value.int 0, Value.int 0, Value.int 0, vN, Value.int 0, vN, Value.int 0, Value.int 0]
  obtain ⟨hP, hD⟩ := pw9 [wc_20, wc_2, wc_5, wc_7, wc_9, wc_11, wc_13, wc_15, wc_17, wc_19] hP hD
  refine lv_aload_n hx hb dX12_init_84 rfl (lv_at hlv 0 rfl) ?_
  refine lv_bipush (v := 32) hx hb dX12_init_85 (by decide) ?_
  refine nw_a (atype := .int) (cy := cy) (a0 := (32, .inl (fun _ => 0))) (N' := 32) hx hb ac0 (ty := .int) rfl 0 rfl (fun C h => nomatch h) hG.1 hP hD hS hA (fun cA => rfl) (by decide) (by decide) (Nat.le_of_ble_eq_true rfl) (Nat.le_of_ble_eq_true rfl) (Nat.le_of_ble_eq_true rfl) dX12_init_87 (fun q_10 H hP hD hS => ?_)
  let wc_21 : Nat × va_E := zI q_10 (cy 0) 32 (fun _ => 0)
  obtain ⟨hP, hD⟩ := pw9 [wc_20, wc_2, wc_5, wc_7, wc_9, wc_11, wc_13, wc_15, wc_17, wc_19, wc_21] hP hD
  refine va_putF (D := D) (ci := 12) (v := vR q_10) (ty := .array .int) (C := RX12) (T := TX12) (N := 38) hx hb hts hi12 tyX12 tyX12_ok nmX12 hown hG.1 hP hD hS 0 rfl rfl 20 (by decide) lf44 (fun _ h9 => h9) rfl hin rfl (by decide +kernel) rfl rfl (Nat.le_of_ble_eq_true rfl) dX12_init_89 (fun H locs hP hD hS => ?_)
  let wc_22 : Nat × va_E := zO h0 12 [Value.int 0, vR q_1, Value.int 0, Value.int 0, Value.int 0, Value.int 0, Value.int 0, Value.int 0, Value.int (-1), vR q_2, vR q_3, vR q_4, vR q_5, vR q_6, vR q_7, vR q_8, Value.int 0, Value.int 0, Value.int 0, vR q_9, vR q_10, vN, Value.int 0, vN, vN, vN, vN, vN, vN, Value.int 0, Value.int 0, Value.int 0, Value.int 0, vN, Value.int 0, vN, Value.int 0, Value.int 0]
  obtain ⟨hP, hD⟩ := pw9 [wc_22, wc_2, wc_5, wc_7, wc_9, wc_11, wc_13, wc_15, wc_17, wc_19, wc_21] hP hD
  refine lv_aload_n hx hb dX12_init_92 rfl (lv_at hlv 0 rfl) ?_
  refine lv_bipush (v := 32) hx hb dX12_init_93 (by decide) ?_
  refine nw_a (atype := .int) (cy := cy) (a0 := (32, .inl (fun _ => 0))) (N' := 32) hx hb ac0 (ty := .int) rfl 0 rfl (fun C h => nomatch h) hG.1 hP hD hS hA (fun cA => rfl) (by decide) (by decide) (Nat.le_of_ble_eq_true rfl) (Nat.le_of_ble_eq_true rfl) (Nat.le_of_ble_eq_true rfl) dX12_init_95 (fun q_11 H hP hD hS => ?_)
  let wc_23 : Nat × va_E := zI q_11 (cy 0) 32 (fun _ => 0)
  obtain ⟨hP, hD⟩ := pw9 [wc_22, wc_2, wc_5, wc_7, wc_9, wc_11, wc_13, wc_15, wc_17, wc_19, wc_21, wc_23] hP hD
  refine va_putF (D := D) (ci := 12) (v := vR q_11) (ty := .array .int) (C := RX12) (T := TX12) (N := 38) hx hb hts hi12 tyX12 tyX12_ok nmX12 hown hG.1 hP hD hS 0 rfl rfl 21 (by decide) lf47 (fun _ h9 => h9) rfl hin rfl (by decide +kernel) rfl rfl (Nat.le_of_ble_eq_true rfl) dX12_init_97 (fun H locs hP hD hS => ?_)
  let wc_24 : Nat × va_E := zO h0 12 [Value.int 0, vR q_1, Value.int 0, Value.int 0, Value.int 0, Value.int 0, Value.int 0, Value.int 0, Value.int (-1), vR q_2, vR q_3, vR q_4, vR q_5, vR q_6, vR q_7, vR q_8, Value.int 0, Value.int 0, Value.int 0, vR q_9, vR q_10, vR q_11, Value.int 0, vN, vN, vN, vN, vN, vN, Value.int 0, Value.int 0, Value.int 0, Value.int 0, vN, Value.int 0, vN, Value.int 0, Value.int 0]
  obtain ⟨hP, hD⟩ := pw9 [wc_24, wc_2, wc_5, wc_7, wc_9, wc_11, wc_13, wc_15, wc_17, wc_19, wc_21, wc_23] hP hD
  refine lv_aload_n hx hb dX12_init_100 rfl (lv_at hlv 0 rfl) ?_
  refine lv_sipush (v := 2480) hx hb dX12_init_101 (by decide) ?_
  refine nw_a (atype := .int) (cy := cy) (a0 := (2480, .inl (fun _ => 0))) (N' := 2480) hx hb ac0 (ty := .int) rfl 0 rfl (fun C h => nomatch h) hG.1 hP hD hS hA (fun cA => rfl) (by decide) (by decide) (Nat.le_of_ble_eq_true rfl) (Nat.le_of_ble_eq_true rfl) (Nat.le_of_ble_eq_true rfl) dX12_init_104 (fun q_12 H hP hD hS => ?_)
  let wc_25 : Nat × va_E := zI q_12 (cy 0) 2480 (fun _ => 0)
  obtain ⟨hP, hD⟩ := pw9 [wc_24, wc_2, wc_5, wc_7, wc_9, wc_11, wc_13, wc_15, wc_17, wc_19, wc_21, wc_23, wc_25] hP hD
  refine va_putF (D := D) (ci := 12) (v := vR q_12) (ty := .array .int) (C := RX12) (T := TX12) (N := 38) hx hb hts hi12 tyX12 tyX12_ok nmX12 hown hG.1 hP hD hS 0 rfl rfl 23 (by decide) lf50 (fun _ h9 => h9) rfl hin rfl (by decide +kernel) rfl rfl (Nat.le_of_ble_eq_true rfl) dX12_init_106 (fun H locs hP hD hS => ?_)
  let wc_26 : Nat × va_E := zO h0 12 [Value.int 0, vR q_1, Value.int 0, Value.int 0, Value.int 0, Value.int 0, Value.int 0, Value.int 0, Value.int (-1), vR q_2, vR q_3, vR q_4, vR q_5, vR q_6, vR q_7, vR q_8, Value.int 0, Value.int 0, Value.int 0, vR q_9, vR q_10, vR q_11, Value.int 0, vR q_12, vN, vN, vN, vN, vN, Value.int 0, Value.int 0, Value.int 0, Value.int 0, vN, Value.int 0, vN, Value.int 0, Value.int 0]
  obtain ⟨hP, hD⟩ := pw9 [wc_26, wc_2, wc_5, wc_7, wc_9, wc_11, wc_13, wc_15, wc_17, wc_19, wc_21, wc_23, wc_25] hP hD
  refine lv_aload_n hx hb dX12_init_109 rfl (lv_at hlv 0 rfl) ?_
  refine lv_sipush (v := 2480) hx hb dX12_init_110 (by decide) ?_
  refine nw_a (atype := .int) (cy := cy) (a0 := (2480, .inl (fun _ => 0))) (N' := 2480) hx hb ac0 (ty := .int) rfl 0 rfl (fun C h => nomatch h) hG.1 hP hD hS hA (fun cA => rfl) (by decide) (by decide) (Nat.le_of_ble_eq_true rfl) (Nat.le_of_ble_eq_true rfl) (Nat.le_of_ble_eq_true rfl) dX12_init_113 (fun q_13 H hP hD hS => ?_)
  let wc_27 : Nat × va_E := zI q_13 (cy 0) 2480 (fun _ => 0)
  obtain ⟨hP, hD⟩ := pw9 [wc_26, wc_2, wc_5, wc_7, wc_9, wc_11, wc_13, wc_15, wc_17, wc_19, wc_21, wc_23, wc_25, wc_27] hP hD
  refine va_putF (D := D) (ci := 12) (v := vR q_13) (ty := .array .int) (C := RX12) (T := TX12) (N := 38) hx hb hts hi12 tyX12 tyX12_ok nmX12 hown hG.1 hP hD hS 0 rfl rfl 24 (by decide) lf53 (fun _ h9 => h9) rfl hin rfl (by decide +kernel) rfl rfl (Nat.le_of_ble_eq_true rfl) dX12_init_115 (fun H locs hP hD hS => ?_)
  let wc_28 : Nat × va_E := zO h0 12 [Value.int 0, vR q_1, Value.int 0, Value.int 0, Value.int 0, Value.int 0, Value.int 0, Value.int 0, Value.int (-1), vR q_2, vR q_3, vR q_4, vR q_5, vR q_6, vR q_7, vR q_8, Value.int 0, Value.int 0, Value.int 0, vR q_9, vR q_10, vR q_11, Value.int 0, vR q_12, vR q_13, vN, vN, vN, vN, Value.int 0, Value.int 0, Value.int 0, Value.int 0, vN, Value.int 0, vN, Value.int 0, Value.int 0]
  obtain ⟨hP, hD⟩ := pw9 [wc_28, wc_2, wc_5, wc_7, wc_9, wc_11, wc_13, wc_15, wc_17, wc_19, wc_21, wc_23, wc_25, wc_27] hP hD
  refine lv_aload_n hx hb dX12_init_118 rfl (lv_at hlv 0 rfl) ?_
  refine lv_bipush (v := 20) hx hb dX12_init_119 (by decide) ?_
  refine nw_a (atype := .int) (cy := cy) (a0 := (20, .inl (fun _ => 0))) (N' := 20) hx hb ac0 (ty := .int) rfl 0 rfl (fun C h => nomatch h) hG.1 hP hD hS hA (fun cA => rfl) (by decide) (by decide) (Nat.le_of_ble_eq_true rfl) (Nat.le_of_ble_eq_true rfl) (Nat.le_of_ble_eq_true rfl) dX12_init_121 (fun q_14 H hP hD hS => ?_)
  let wc_29 : Nat × va_E := zI q_14 (cy 0) 20 (fun _ => 0)
  obtain ⟨hP, hD⟩ := pw9 [wc_28, wc_2, wc_5, wc_7, wc_9, wc_11, wc_13, wc_15, wc_17, wc_19, wc_21, wc_23, wc_25, wc_27, wc_29] hP hD
  refine va_putF (D := D) (ci := 12) (v := vR q_14) (ty := .array .int) (C := RX12) (T := TX12) (N := 38) hx hb hts hi12 tyX12 tyX12_ok nmX12 hown hG.1 hP hD hS 0 rfl rfl 25 (by decide) lf56 (fun _ h9 => h9) rfl hin rfl (by decide +kernel) rfl rfl (Nat.le_of_ble_eq_true rfl) dX12_init_123 (fun H locs hP hD hS => ?_)
  let wc_30 : Nat × va_E := zO h0 12 [Value.int 0, vR q_1, Value.int 0, Value.int 0, Value.int 0, Value.int 0, Value.int 0, Value.int 0, Value.int (-1), vR q_2, vR q_3, vR q_4, vR q_5, vR q_6, vR q_7, vR q_8, Value.int 0, Value.int 0, Value.int 0, vR q_9, vR q_10, vR q_11, Value.int 0, vR q_12, vR q_13, vR q_14, vN, vN, vN, Value.int 0, Value.int 0, Value.int 0, Value.int 0, vN, Value.int 0, vN, Value.int 0, Value.int 0]
  obtain ⟨hP, hD⟩ := pw9 [wc_30, wc_2, wc_5, wc_7, wc_9, wc_11, wc_13, wc_15, wc_17, wc_19, wc_21, wc_23, wc_25, wc_27, wc_29] hP hD
  refine lv_aload_n hx hb dX12_init_126 rfl (lv_at hlv 0 rfl) ?_
  refine lv_bipush (v := 20) hx hb dX12_init_127 (by decide) ?_
  refine nw_a (atype := .int) (cy := cy) (a0 := (20, .inl (fun _ => 0))) (N' := 20) hx hb ac0 (ty := .int) rfl 0 rfl (fun C h => nomatch h) hG.1 hP hD hS hA (fun cA => rfl) (by decide) (by decide) (Nat.le_of_ble_eq_true rfl) (Nat.le_of_ble_eq_true rfl) (Nat.le_of_ble_eq_true rfl) dX12_init_129 (fun q_15 H hP hD hS => ?_)
  let wc_31 : Nat × va_E := zI q_15 (cy 0) 20 (fun _ => 0)
  obtain ⟨hP, hD⟩ := pw9 [wc_30, wc_2, wc_5, wc_7, wc_9, wc_11, wc_13, wc_15, wc_17, wc_19, wc_21, wc_23, wc_25, wc_27, wc_29, wc_31] hP hD
  refine va_putF (D := D) (ci := 12) (v := vR q_15) (ty := .array .int) (C := RX12) (T := TX12) (N := 38) hx hb hts hi12 tyX12 tyX12_ok nmX12 hown hG.1 hP hD hS 0 rfl rfl 26 (by decide) lf59 (fun _ h9 => h9) rfl hin rfl (by decide +kernel) rfl rfl (Nat.le_of_ble_eq_true rfl) dX12_init_131 (fun H locs hP hD hS => ?_)
  let wc_32 : Nat × va_E := zO h0 12 [Value.int 0, vR q_1, Value.int 0, Value.int 0, Value.int 0, Value.int 0, Value.int 0, Value.int 0, Value.int (-1), vR q_2, vR q_3, vR q_4, vR q_5, vR q_6, vR q_7, vR q_8, Value.int 0, Value.int 0, Value.int 0, vR q_9, vR q_10, vR q_11, Value.int 0, vR q_12, vR q_13, vR q_14, vR q_15, vN, vN, Value.int 0, Value.int 0, Value.int 0, Value.int 0, vN, Value.int 0, vN, Value.int 0, Value.int 0]
  obtain ⟨hP, hD⟩ := pw9 [wc_32, wc_2, wc_5, wc_7, wc_9, wc_11, wc_13, wc_15, wc_17, wc_19, wc_21, wc_23, wc_25, wc_27, wc_29, wc_31] hP hD
  refine lv_aload_n hx hb dX12_init_134 rfl (lv_at hlv 0 rfl) ?_
  refine lv_sipush (v := 620) hx hb dX12_init_135 (by decide) ?_
  refine nw_a (atype := .int) (cy := cy) (a0 := (620, .inl (fun _ => 0))) (N' := 620) hx hb ac0 (ty := .int) rfl 0 rfl (fun C h => nomatch h) hG.1 hP hD hS hA (fun cA => rfl) (by decide) (by decide) (Nat.le_of_ble_eq_true rfl) (Nat.le_of_ble_eq_true rfl) (Nat.le_of_ble_eq_true rfl) dX12_init_138 (fun q_16 H hP hD hS => ?_)
  let wc_33 : Nat × va_E := zI q_16 (cy 0) 620 (fun _ => 0)
  obtain ⟨hP, hD⟩ := pw9 [wc_32, wc_2, wc_5, wc_7, wc_9, wc_11, wc_13, wc_15, wc_17, wc_19, wc_21, wc_23, wc_25, wc_27, wc_29, wc_31, wc_33] hP hD
  refine va_putF (D := D) (ci := 12) (v := vR q_16) (ty := .array .int) (C := RX12) (T := TX12) (N := 38) hx hb hts hi12 tyX12 tyX12_ok nmX12 hown hG.1 hP hD hS 0 rfl rfl 27 (by decide) lf62 (fun _ h9 => h9) rfl hin rfl (by decide +kernel) rfl rfl (Nat.le_of_ble_eq_true rfl) dX12_init_140 (fun H locs hP hD hS => ?_)
  let wc_34 : Nat × va_E := zO h0 12 [Value.int 0, vR q_1, Value.int 0, Value.int 0, Value.int 0, Value.int 0, Value.int 0, Value.int 0, Value.int (-1), vR q_2, vR q_3, vR q_4, vR q_5, vR q_6, vR q_7, vR q_8, Value.int 0, Value.int 0, Value.int 0, vR q_9, vR q_10, vR q_11, Value.int 0, vR q_12, vR q_13, vR q_14, vR q_15, vR q_16, vN, Value.int 0, Value.int 0, Value.int 0, Value.int 0, vN, Value.int 0, vN, Value.int 0, Value.int 0]
  obtain ⟨hP, hD⟩ := pw9 [wc_34, wc_2, wc_5, wc_7, wc_9, wc_11, wc_13, wc_15, wc_17, wc_19, wc_21, wc_23, wc_25, wc_27, wc_29, wc_31, wc_33] hP hD
  refine lv_aload_n hx hb dX12_init_143 rfl (lv_at hlv 0 rfl) ?_
  refine lv_bipush (v := 7) hx hb dX12_init_144 (by decide) ?_
  refine nw_a (atype := .int) (cy := cy) (a0 := (7, .inl (fun _ => 0))) (N' := 7) hx hb ac0 (ty := .int) rfl 0 rfl (fun C h => nomatch h) hG.1 hP hD hS hA (fun cA => rfl) (by decide) (by decide) (Nat.le_of_ble_eq_true rfl) (Nat.le_of_ble_eq_true rfl) (Nat.le_of_ble_eq_true rfl) dX12_init_146 (fun q_17 H hP hD hS => ?_)
  let wc_35 : Nat × va_E := zI q_17 (cy 0) 7 (fun _ => 0)
  obtain ⟨hP, hD⟩ := pw9 [wc_34, wc_2, wc_5, wc_7, wc_9, wc_11, wc_13, wc_15, wc_17, wc_19, wc_21, wc_23, wc_25, wc_27, wc_29, wc_31, wc_33, wc_35] hP hD
  refine va_putF (D := D) (ci := 12) (v := vR q_17) (ty := .array .int) (C := RX12) (T := TX12) (N := 38) hx hb hts hi12 tyX12 tyX12_ok nmX12 hown hG.1 hP hD hS 0 rfl rfl 28 (by decide) lf65 (fun _ h9 => h9) rfl hin rfl (by decide +kernel) rfl rfl (Nat.le_of_ble_eq_true rfl) dX12_init_148 (fun H locs hP hD hS => ?_)
  let wc_36 : Nat × va_E := zO h0 12 [Value.int 0, vR q_1, Value.int 0, Value.int 0, Value.int 0, Value.int 0, Value.int 0, Value.int 0, Value.int (-1), vR q_2, vR q_3, vR q_4, vR q_5, vR q_6, vR q_7, vR q_8, Value.int 0, Value.int 0, Value.int 0, vR q_9, vR q_10, vR q_11, Value.int 0, vR q_12, vR q_13, vR q_14, vR q_15, vR q_16, vR q_17, Value.int 0, Value.int 0, Value.int 0, Value.int 0, vN, Value.int 0, vN, Value.int 0, Value.int 0]
  obtain ⟨hP, hD⟩ := pw9 [wc_36, wc_2, wc_5, wc_7, wc_9, wc_11, wc_13, wc_15, wc_17, wc_19, wc_21, wc_23, wc_25, wc_27, wc_29, wc_31, wc_33, wc_35] hP hD
  refine lv_aload_n hx hb dX12_init_151 rfl (lv_at hlv 0 rfl) ?_
  refine lv_sipush (v := 1344) hx hb dX12_init_152 (by decide) ?_
  refine nw_a (atype := .int) (cy := cy) (a0 := (1344, .inl (fun _ => 0))) (N' := 1344) hx hb ac0 (ty := .int) rfl 0 rfl (fun C h => nomatch h) hG.1 hP hD hS hA (fun cA => rfl) (by decide) (by decide) (Nat.le_of_ble_eq_true rfl) (Nat.le_of_ble_eq_true rfl) (Nat.le_of_ble_eq_true rfl) dX12_init_155 (fun q_18 H hP hD hS => ?_)
  let wc_37 : Nat × va_E := zI q_18 (cy 0) 1344 (fun _ => 0)
  obtain ⟨hP, hD⟩ := pw9 [wc_36, wc_2, wc_5, wc_7, wc_9, wc_11, wc_13, wc_15, wc_17, wc_19, wc_21, wc_23, wc_25, wc_27, wc_29, wc_31, wc_33, wc_35, wc_37] hP hD
  refine va_putF (D := D) (ci := 12) (v := vR q_18) (ty := .array .int) (C := RX12) (T := TX12) (N := 38) hx hb hts hi12 tyX12 tyX12_ok nmX12 hown hG.1 hP hD hS 0 rfl rfl 33 (by decide) lf68 (fun _ h9 => h9) rfl hin rfl (by decide +kernel) rfl rfl (Nat.le_of_ble_eq_true rfl) dX12_init_157 (fun H locs hP hD hS => ?_)
  let wc_38 : Nat × va_E := zO h0 12 [Value.int 0, vR q_1, Value.int 0, Value.int 0, Value.int 0, Value.int 0, Value.int 0, Value.int 0, Value.int (-1), vR q_2, vR q_3, vR q_4, vR q_5, vR q_6, vR q_7, vR q_8, Value.int 0, Value.int 0, Value.int 0, vR q_9, vR q_10, vR q_11, Value.int 0, vR q_12, vR q_13, vR q_14, vR q_15, vR q_16, vR q_17, Value.int 0, Value.int 0, Value.int 0, Value.int 0, vR q_18, Value.int 0, vN, Value.int 0, Value.int 0]
  obtain ⟨hP, hD⟩ := pw9 [wc_38, wc_2, wc_5, wc_7, wc_9, wc_11, wc_13, wc_15, wc_17, wc_19, wc_21, wc_23, wc_25, wc_27, wc_29, wc_31, wc_33, wc_35, wc_37] hP hD
  refine lv_aload_n hx hb dX12_init_160 rfl (lv_at hlv 0 rfl) ?_
  refine lv_iconst (v := (-1)) hx hb dX12_init_161 (by decide) ?_
  refine va_put (D := D) (ci := 12) (v := Value.int (-1)) (ty := .int) (C := RX12) (T := TX12) (N := 38) hx hb hts hi12 tyX12 tyX12_ok nmX12 hown hG.1 hP hD hS 0 rfl rfl 34 (by decide) lf71 (fun _ h9 => h9) rfl (by decide +kernel) rfl rfl (Nat.le_of_ble_eq_true rfl) dX12_init_162 (fun H locs hP hD hS => ?_)
  let wc_39 : Nat × va_E := zO h0 12 [Value.int 0, vR q_1, Value.int 0, Value.int 0, Value.int 0, Value.int 0, Value.int 0, Value.int 0, Value.int (-1), vR q_2, vR q_3, vR q_4, vR q_5, vR q_6, vR q_7, vR q_8, Value.int 0, Value.int 0, Value.int 0, vR q_9, vR q_10, vR q_11, Value.int 0, vR q_12, vR q_13, vR q_14, vR q_15, vR q_16, vR q_17, Value.int 0, Value.int 0, Value.int 0, Value.int 0, vR q_18, Value.int (-1), vN, Value.int 0, Value.int 0]
  obtain ⟨hP, hD⟩ := pw9 [wc_39, wc_2, wc_5, wc_7, wc_9, wc_11, wc_13, wc_15, wc_17, wc_19, wc_21, wc_23, wc_25, wc_27, wc_29, wc_31, wc_33, wc_35, wc_37] hP hD
  refine lv_aload_n hx hb dX12_init_165 rfl (lv_at hlv 0 rfl) ?_
  refine lv_sipush (v := 512) hx hb dX12_init_166 (by decide) ?_
  refine nw_a (atype := .int) (cy := cy) (a0 := (512, .inl (fun _ => 0))) (N' := 512) hx hb ac0 (ty := .int) rfl 0 rfl (fun C h => nomatch h) hG.1 hP hD hS hA (fun cA => rfl) (by decide) (by decide) (Nat.le_of_ble_eq_true rfl) (Nat.le_of_ble_eq_true rfl) (Nat.le_of_ble_eq_true rfl) dX12_init_169 (fun q_19 H hP hD hS => ?_)
  let wc_40 : Nat × va_E := zI q_19 (cy 0) 512 (fun _ => 0)
  obtain ⟨hP, hD⟩ := pw9 [wc_39, wc_2, wc_5, wc_7, wc_9, wc_11, wc_13, wc_15, wc_17, wc_19, wc_21, wc_23, wc_25, wc_27, wc_29, wc_31, wc_33, wc_35, wc_37, wc_40] hP hD
  refine va_putF (D := D) (ci := 12) (v := vR q_19) (ty := .array .int) (C := RX12) (T := TX12) (N := 38) hx hb hts hi12 tyX12 tyX12_ok nmX12 hown hG.1 hP hD hS 0 rfl rfl 35 (by decide) lf74 (fun _ h9 => h9) rfl hin rfl (by decide +kernel) rfl rfl (Nat.le_of_ble_eq_true rfl) dX12_init_171 (fun H locs hP hD hS => ?_)
  let wc_41 : Nat × va_E := zO h0 12 [Value.int 0, vR q_1, Value.int 0, Value.int 0, Value.int 0, Value.int 0, Value.int 0, Value.int 0, Value.int (-1), vR q_2, vR q_3, vR q_4, vR q_5, vR q_6, vR q_7, vR q_8, Value.int 0, Value.int 0, Value.int 0, vR q_9, vR q_10, vR q_11, Value.int 0, vR q_12, vR q_13, vR q_14, vR q_15, vR q_16, vR q_17, Value.int 0, Value.int 0, Value.int 0, Value.int 0, vR q_18, Value.int (-1), vR q_19, Value.int 0, Value.int 0]
  obtain ⟨hP, hD⟩ := pw9 [wc_41, wc_2, wc_5, wc_7, wc_9, wc_11, wc_13, wc_15, wc_17, wc_19, wc_21, wc_23, wc_25, wc_27, wc_29, wc_31, wc_33, wc_35, wc_37, wc_40] hP hD
  refine lv_sipush (v := 353) hx hb dX12_init_174 (by decide) ?_
  refine lv_istore_n (lv' := [(1, Value.int 353), (0, vR h0)]) hx hb dX12_init_177 rfl hlv (by decide) rfl (fun ls hlv => ?_)
  refine lv_iload_n hx hb dX12_init_178 rfl (lv_at hlv 0 rfl) ?_
  refine lv_sipush (v := 357) hx hb dX12_init_179 (by decide) ?_
  refine lv_icmp_ge (tgt := 198) hx hb dX12_init_182 (by decide) (fun c => absurd c (by decide)) (fun _ => ?_)
  refine lv_aload_n hx hb dX12_init_185 rfl (lv_at hlv 1 rfl) ?_
  refine va_get (D := D) (ci := 12) (v := vR q_5) (C := RX12) (T := TX12) (N := 38) hx hb hts hi12 hown hG.1 hP 0 rfl rfl 12 (by decide) lf29 (fun _ h9 => h9) rfl dX12_init_186 ?_
  refine lv_iload_n hx hb dX12_init_189 rfl (lv_at hlv 0 rfl) ?_
  refine lv_iconst (v := 1) hx hb dX12_init_190 (by decide) ?_
  refine va_iast hx hb hG.1 hP hD hS 5 0 rfl rfl (vpd (by decide)) dX12_init_191 (fun H locs hP hD hS => ?_)
  let wc_42 : Nat × va_E := zI q_5 (cy 0) 389 (upd (fun _ => 0) 353 1)
  obtain ⟨hP, hD⟩ := pw9 [wc_41, wc_2, wc_5, wc_7, wc_9, wc_42, wc_13, wc_15, wc_17, wc_19, wc_21, wc_23, wc_25, wc_27, wc_29, wc_31, wc_33, wc_35, wc_37, wc_40] hP hD
  refine lv_iinc (v := 354) (lv' := [(1, Value.int 354), (0, vR h0)]) hx hb dX12_init_192 hlv (k := 0) rfl (by decide) (by decide) rfl (fun ls hlv => ?_)
  refine lv_goto (tgt := 178) hx hb dX12_init_195 (by decide) ?_
  refine lv_iload_n hx hb dX12_init_178 rfl (lv_at hlv 0 rfl) ?_
  refine lv_sipush (v := 357) hx hb dX12_init_179 (by decide) ?_
  refine lv_icmp_ge (tgt := 198) hx hb dX12_init_182 (by decide) (fun c => absurd c (by decide)) (fun _ => ?_)
  refine lv_aload_n hx hb dX12_init_185 rfl (lv_at hlv 1 rfl) ?_
  refine va_get (D := D) (ci := 12) (v := vR q_5) (C := RX12) (T := TX12) (N := 38) hx hb hts hi12 hown hG.1 hP 0 rfl rfl 12 (by decide) lf29 (fun _ h9 => h9) rfl dX12_init_186 ?_
  refine lv_iload_n hx hb dX12_init_189 rfl (lv_at hlv 0 rfl) ?_
  refine lv_iconst (v := 1) hx hb dX12_init_190 (by decide) ?_
  refine va_iast hx hb hG.1 hP hD hS 5 0 rfl rfl (vpd (by decide)) dX12_init_191 (fun H locs hP hD hS => ?_)
  let wc_43 : Nat × va_E := zI q_5 (cy 0) 389 (upd (upd (fun _ => 0) 353 1) 354 1)
  obtain ⟨hP, hD⟩ := pw9 [wc_41, wc_2, wc_5, wc_7, wc_9, wc_43, wc_13, wc_15, wc_17, wc_19, wc_21, wc_23, wc_25, wc_27, wc_29, wc_31, wc_33, wc_35, wc_37, wc_40] hP hD
  refine lv_iinc (v := 355) (lv' := [(1, Value.int 355), (0, vR h0)]) hx hb dX12_init_192 hlv (k := 0) rfl (by decide) (by decide) rfl (fun ls hlv => ?_)
  refine lv_goto (tgt := 178) hx hb dX12_init_195 (by decide) ?_
  refine lv_iload_n hx hb dX12_init_178 rfl (lv_at hlv 0 rfl) ?_
  refine lv_sipush (v := 357) hx hb dX12_init_179 (by decide) ?_
  refine lv_icmp_ge (tgt := 198) hx hb dX12_init_182 (by decide) (fun c => absurd c (by decide)) (fun _ => ?_)
  refine lv_aload_n hx hb dX12_init_185 rfl (lv_at hlv 1 rfl) ?_
  refine va_get (D := D) (ci := 12) (v := vR q_5) (C := RX12) (T := TX12) (N := 38) hx hb hts hi12 hown hG.1 hP 0 rfl rfl 12 (by decide) lf29 (fun _ h9 => h9) rfl dX12_init_186 ?_
  refine lv_iload_n hx hb dX12_init_189 rfl (lv_at hlv 0 rfl) ?_
  refine lv_iconst (v := 1) hx hb dX12_init_190 (by decide) ?_
  refine va_iast hx hb hG.1 hP hD hS 5 0 rfl rfl (vpd (by decide)) dX12_init_191 (fun H locs hP hD hS => ?_)
  let wc_44 : Nat × va_E := zI q_5 (cy 0) 389 (upd (upd (upd (fun _ => 0) 353 1) 354 1) 355 1)
  obtain ⟨hP, hD⟩ := pw9 [wc_41, wc_2, wc_5, wc_7, wc_9, wc_44, wc_13, wc_15, wc_17, wc_19, wc_21, wc_23, wc_25, wc_27, wc_29, wc_31, wc_33, wc_35, wc_37, wc_40] hP hD
  refine lv_iinc (v := 356) (lv' := [(1, Value.int 356), (0, vR h0)]) hx hb dX12_init_192 hlv (k := 0) rfl (by decide) (by decide) rfl (fun ls hlv => ?_)
  refine lv_goto (tgt := 178) hx hb dX12_init_195 (by decide) ?_
  refine lv_iload_n hx hb dX12_init_178 rfl (lv_at hlv 0 rfl) ?_
  refine lv_sipush (v := 357) hx hb dX12_init_179 (by decide) ?_
  refine lv_icmp_ge (tgt := 198) hx hb dX12_init_182 (by decide) (fun c => absurd c (by decide)) (fun _ => ?_)
  refine lv_aload_n hx hb dX12_init_185 rfl (lv_at hlv 1 rfl) ?_
  refine va_get (D := D) (ci := 12) (v := vR q_5) (C := RX12) (T := TX12) (N := 38) hx hb hts hi12 hown hG.1 hP 0 rfl rfl 12 (by decide) lf29 (fun _ h9 => h9) rfl dX12_init_186 ?_
  refine lv_iload_n hx hb dX12_init_189 rfl (lv_at hlv 0 rfl) ?_
  refine lv_iconst (v := 1) hx hb dX12_init_190 (by decide) ?_
  refine va_iast hx hb hG.1 hP hD hS 5 0 rfl rfl (vpd (by decide)) dX12_init_191 (fun H locs hP hD hS => ?_)
  let wc_45 : Nat × va_E := zI q_5 (cy 0) 389 (upd (upd (upd (upd (fun _ => 0) 353 1) 354 1) 355 1) 356 1)
  obtain ⟨hP, hD⟩ := pw9 [wc_41, wc_2, wc_5, wc_7, wc_9, wc_45, wc_13, wc_15, wc_17, wc_19, wc_21, wc_23, wc_25, wc_27, wc_29, wc_31, wc_33, wc_35, wc_37, wc_40] hP hD
  refine lv_iinc (v := 357) (lv' := [(1, Value.int 357), (0, vR h0)]) hx hb dX12_init_192 hlv (k := 0) rfl (by decide) (by decide) rfl (fun ls hlv => ?_)
  refine lv_goto (tgt := 178) hx hb dX12_init_195 (by decide) ?_
  refine lv_iload_n hx hb dX12_init_178 rfl (lv_at hlv 0 rfl) ?_
  refine lv_sipush (v := 357) hx hb dX12_init_179 (by decide) ?_
  refine lv_icmp_ge (tgt := 198) hx hb dX12_init_182 (by decide) (fun _ => ?_) (fun c => absurd (by decide) c)
  let wc_46 : Nat × va_E := zI q_5 (cy 0) 389 sF
  obtain ⟨hP, hD⟩ := pw9 [wc_41, wc_2, wc_5, wc_7, wc_9, wc_46, wc_13, wc_15, wc_17, wc_19, wc_21, wc_23, wc_25, wc_27, wc_29, wc_31, wc_33, wc_35, wc_37, wc_40] hP hD
  refine W.widen (k := 19) (n := 10625) (Nat.le_of_ble_eq_true rfl) (Nat.le_of_ble_eq_true rfl) ?_
  exact W.vret hx hb hr (fun t ht hW => ⟨⟨((fun k => ([0, q_1, 0, 0, 0, 0, 0, 0, 0, q_2, q_3, q_4, q_5, q_6, q_7, q_8, 0, 0, 0, q_9, q_10, q_11, 0, q_12, q_13, q_14, q_15, q_16, q_17, 0, 0, 0, 0, q_18, 0, q_19] : List Nat).getD k 0), (fun k => ([] : List Int32).getD k 0), (fun k => ([] : List (Nat → Int32)).getD k (fun _ => 0))), rfl, (by first | (trivial)), by rw [ht]; exact hP.sub [0, 1, 2, 3, 4, 5, 6, 7, 8, 9, 10, 11, 12, 13, 14, 15, 16, 17, 18, 19] rfl, hD.sub [0, 1, 2, 3, 4, 5, 6, 7, 8, 9, 10, 11, 12, 13, 14, 15, 16, 17, 18, 19] (by decide) rfl⟩, hS.F ht⟩) hS.2.2 dX12_init_198
end
section

def LG0 (u : SV) : Prop := Hid (0 ≤ (u.2.1 0) ∧ (u.2.1 0) ≤ 4) ∧ Hid (0 ≤ (u.2.1 1) ∧ (u.2.1 1) ≤ 4) ∧ Hid (0 ≤ (u.2.1 2) ∧ (u.2.1 2) ≤ 3) ∧ Hid ((-2147483648) ≤ (u.2.1 3) ∧ (u.2.1 3) ≤ 2147483647)
theorem LG0_0 {u : SV} (h : LG0 u) : Hid (0 ≤ (u.2.1 0) ∧ (u.2.1 0) ≤ 4) := h.1
theorem LG0_1 {u : SV} (h : LG0 u) : Hid (0 ≤ (u.2.1 1) ∧ (u.2.1 1) ≤ 4) := h.2.1
theorem LG0_2 {u : SV} (h : LG0 u) : Hid (0 ≤ (u.2.1 2) ∧ (u.2.1 2) ≤ 3) := h.2.2.1
theorem LG0_3 {u : SV} (h : LG0 u) : Hid ((-2147483648) ≤ (u.2.1 3) ∧ (u.2.1 3) ≤ 2147483647) := h.2.2.2
def LG1 (u : SV) : Prop := Hid (0 ≤ (u.2.1 0) ∧ (u.2.1 0) ≤ 600) ∧ Hid (0 ≤ (u.2.1 1) ∧ (u.2.1 1) ≤ 600) ∧ Hid (0 ≤ (u.2.1 2) ∧ (u.2.1 2) ≤ 600) ∧ Hid (0 ≤ (u.2.1 3) ∧ (u.2.1 3) ≤ 600) ∧ Hid (0 ≤ (u.2.1 4) ∧ (u.2.1 4) ≤ 4) ∧ Hid ((-1) ≤ (u.2.1 5) ∧ (u.2.1 5) ≤ 600)
theorem LG1_0 {u : SV} (h : LG1 u) : Hid (0 ≤ (u.2.1 0) ∧ (u.2.1 0) ≤ 600) := h.1
theorem LG1_1 {u : SV} (h : LG1 u) : Hid (0 ≤ (u.2.1 1) ∧ (u.2.1 1) ≤ 600) := h.2.1
theorem LG1_2 {u : SV} (h : LG1 u) : Hid (0 ≤ (u.2.1 2) ∧ (u.2.1 2) ≤ 600) := h.2.2.1
theorem LG1_3 {u : SV} (h : LG1 u) : Hid (0 ≤ (u.2.1 3) ∧ (u.2.1 3) ≤ 600) := h.2.2.2.1
theorem LG1_4 {u : SV} (h : LG1 u) : Hid (0 ≤ (u.2.1 4) ∧ (u.2.1 4) ≤ 4) := h.2.2.2.2.1
theorem LG1_5 {u : SV} (h : LG1 u) : Hid ((-1) ≤ (u.2.1 5) ∧ (u.2.1 5) ≤ 600) := h.2.2.2.2.2
def LG2 (u : SV) : Prop := True
def LG3 (u : SV) : Prop := Hid (0 ≤ (u.2.1 0) ∧ (u.2.1 0) ≤ 240) ∧ Hid (inv_ 240 0 20 (u.2.2 0))
theorem LG3_0 {u : SV} (h : LG3 u) : Hid (0 ≤ (u.2.1 0) ∧ (u.2.1 0) ≤ 240) := h.1
theorem LG3_1 {u : SV} (h : LG3 u) : Hid (inv_ 240 0 20 (u.2.2 0)) := h.2
def LG4 (u : SV) : Prop := Hid (0 ≤ (u.2.1 0) ∧ (u.2.1 0) ≤ 240) ∧ Hid (inv_ 240 0 20 (u.2.2 0))
theorem LG4_0 {u : SV} (h : LG4 u) : Hid (0 ≤ (u.2.1 0) ∧ (u.2.1 0) ≤ 240) := h.1
theorem LG4_1 {u : SV} (h : LG4 u) : Hid (inv_ 240 0 20 (u.2.2 0)) := h.2
def LG5 (u : SV) : Prop := Hid (0 ≤ (u.2.1 0) ∧ (u.2.1 0) ≤ 240) ∧ Hid (inv_ 240 0 20 (u.2.2 0))
theorem LG5_0 {u : SV} (h : LG5 u) : Hid (0 ≤ (u.2.1 0) ∧ (u.2.1 0) ≤ 240) := h.1
theorem LG5_1 {u : SV} (h : LG5 u) : Hid (inv_ 240 0 20 (u.2.2 0)) := h.2
def LG6 (u : SV) : Prop := Hid (0 ≤ (u.2.1 0) ∧ (u.2.1 0) ≤ 240) ∧ Hid (inv_ 240 0 20 (u.2.2 0))
theorem LG6_0 {u : SV} (h : LG6 u) : Hid (0 ≤ (u.2.1 0) ∧ (u.2.1 0) ≤ 240) := h.1
theorem LG6_1 {u : SV} (h : LG6 u) : Hid (inv_ 240 0 20 (u.2.2 0)) := h.2
def LG7 (u : SV) : Prop := True
def LG8 (u : SV) : Prop := Hid (0 ≤ (u.2.1 0) ∧ (u.2.1 0) ≤ 600) ∧ Hid (inv_ 600 0 2147483647 (u.2.2 0))
theorem LG8_0 {u : SV} (h : LG8 u) : Hid (0 ≤ (u.2.1 0) ∧ (u.2.1 0) ≤ 600) := h.1
theorem LG8_1 {u : SV} (h : LG8 u) : Hid (inv_ 600 0 2147483647 (u.2.2 0)) := h.2
def LG9 (u : SV) : Prop := Hid (0 ≤ (u.2.1 0) ∧ (u.2.1 0) ≤ 600) ∧ Hid (inv_ 600 0 2147483647 (u.2.2 0))
theorem LG9_0 {u : SV} (h : LG9 u) : Hid (0 ≤ (u.2.1 0) ∧ (u.2.1 0) ≤ 600) := h.1
theorem LG9_1 {u : SV} (h : LG9 u) : Hid (inv_ 600 0 2147483647 (u.2.2 0)) := h.2
def LG10 (u : SV) : Prop := Hid (0 ≤ (u.2.1 0) ∧ (u.2.1 0) ≤ 600) ∧ Hid (inv_ 600 0 2147483647 (u.2.2 0))
theorem LG10_0 {u : SV} (h : LG10 u) : Hid (0 ≤ (u.2.1 0) ∧ (u.2.1 0) ≤ 600) := h.1
theorem LG10_1 {u : SV} (h : LG10 u) : Hid (inv_ 600 0 2147483647 (u.2.2 0)) := h.2
def LG11 (u : SV) : Prop := Hid (0 ≤ (u.2.1 0) ∧ (u.2.1 0) ≤ 600) ∧ Hid (inv_ 600 0 2147483647 (u.2.2 0))
theorem LG11_0 {u : SV} (h : LG11 u) : Hid (0 ≤ (u.2.1 0) ∧ (u.2.1 0) ≤ 600) := h.1
theorem LG11_1 {u : SV} (h : LG11 u) : Hid (inv_ 600 0 2147483647 (u.2.2 0)) := h.2
def LG12 (u : SV) : Prop := Hid (0 ≤ (u.2.1 0) ∧ (u.2.1 0) ≤ 16) ∧ Hid (0 ≤ (u.2.1 1) ∧ (u.2.1 1) ≤ 6) ∧ Hid (0 ≤ (u.2.1 2) ∧ (u.2.1 2) ≤ 14) ∧ Hid (0 ≤ (u.2.1 3) ∧ (u.2.1 3) ≤ 6) ∧ Hid (0 ≤ (u.2.1 4) ∧ (u.2.1 4) ≤ 8) ∧ Hid (0 ≤ (u.2.1 5) ∧ (u.2.1 5) ≤ 20) ∧ Hid (0 ≤ (u.2.1 6) ∧ (u.2.1 6) ≤ 2) ∧ Hid (0 ≤ (u.2.1 7) ∧ (u.2.1 7) ≤ 8) ∧ Hid ((-2147483648) ≤ (u.2.1 8) ∧ (u.2.1 8) ≤ 2147483647) ∧ Hid (0 ≤ (u.2.1 9) ∧ (u.2.1 9) ≤ 600) ∧ Hid ((-2147483648) ≤ (u.2.1 10) ∧ (u.2.1 10) ≤ 2147483647) ∧ Hid ((-2147483648) ≤ (u.2.1 11) ∧ (u.2.1 11) ≤ 2147483647) ∧ Hid ((-2147483648) ≤ (u.2.1 12) ∧ (u.2.1 12) ≤ 2147483647) ∧ Hid (0 < (u.2.1 0) → 1 ≤ (u.2.1 1)) ∧ Hid (inv_ 96 0 99 (u.2.2 0)) ∧ Hid (tab_ 4 14 [0, 0, 0, 0] [15, 5, 99, 16] (u.2.2 2)) ∧ Hid (tab_ 4 28 [0, 0, (-2147483648), (-2147483648)] [15, 19, 2147483647, 2147483647] (u.2.2 3)) ∧ Hid (tw_ (u.2.2 5))
theorem LG12_0 {u : SV} (h : LG12 u) : Hid (0 ≤ (u.2.1 0) ∧ (u.2.1 0) ≤ 16) := h.1
theorem LG12_1 {u : SV} (h : LG12 u) : Hid (0 ≤ (u.2.1 1) ∧ (u.2.1 1) ≤ 6) := h.2.1
theorem LG12_2 {u : SV} (h : LG12 u) : Hid (0 ≤ (u.2.1 2) ∧ (u.2.1 2) ≤ 14) := h.2.2.1
theorem LG12_3 {u : SV} (h : LG12 u) : Hid (0 ≤ (u.2.1 3) ∧ (u.2.1 3) ≤ 6) := h.2.2.2.1
theorem LG12_4 {u : SV} (h : LG12 u) : Hid (0 ≤ (u.2.1 4) ∧ (u.2.1 4) ≤ 8) := h.2.2.2.2.1
theorem LG12_5 {u : SV} (h : LG12 u) : Hid (0 ≤ (u.2.1 5) ∧ (u.2.1 5) ≤ 20) := h.2.2.2.2.2.1
theorem LG12_6 {u : SV} (h : LG12 u) : Hid (0 ≤ (u.2.1 6) ∧ (u.2.1 6) ≤ 2) := h.2.2.2.2.2.2.1
theorem LG12_7 {u : SV} (h : LG12 u) : Hid (0 ≤ (u.2.1 7) ∧ (u.2.1 7) ≤ 8) := h.2.2.2.2.2.2.2.1
theorem LG12_8 {u : SV} (h : LG12 u) : Hid ((-2147483648) ≤ (u.2.1 8) ∧ (u.2.1 8) ≤ 2147483647) := h.2.2.2.2.2.2.2.2.1
theorem LG12_9 {u : SV} (h : LG12 u) : Hid (0 ≤ (u.2.1 9) ∧ (u.2.1 9) ≤ 600) := h.2.2.2.2.2.2.2.2.2.1
theorem LG12_10 {u : SV} (h : LG12 u) : Hid ((-2147483648) ≤ (u.2.1 10) ∧ (u.2.1 10) ≤ 2147483647) := h.2.2.2.2.2.2.2.2.2.2.1
theorem LG12_11 {u : SV} (h : LG12 u) : Hid ((-2147483648) ≤ (u.2.1 11) ∧ (u.2.1 11) ≤ 2147483647) := h.2.2.2.2.2.2.2.2.2.2.2.1
theorem LG12_12 {u : SV} (h : LG12 u) : Hid ((-2147483648) ≤ (u.2.1 12) ∧ (u.2.1 12) ≤ 2147483647) := h.2.2.2.2.2.2.2.2.2.2.2.2.1
theorem LG12_13 {u : SV} (h : LG12 u) : Hid (0 < (u.2.1 0) → 1 ≤ (u.2.1 1)) := h.2.2.2.2.2.2.2.2.2.2.2.2.2.1
theorem LG12_14 {u : SV} (h : LG12 u) : Hid (inv_ 96 0 99 (u.2.2 0)) := h.2.2.2.2.2.2.2.2.2.2.2.2.2.2.1
theorem LG12_15 {u : SV} (h : LG12 u) : Hid (tab_ 4 14 [0, 0, 0, 0] [15, 5, 99, 16] (u.2.2 2)) := h.2.2.2.2.2.2.2.2.2.2.2.2.2.2.2.1
theorem LG12_16 {u : SV} (h : LG12 u) : Hid (tab_ 4 28 [0, 0, (-2147483648), (-2147483648)] [15, 19, 2147483647, 2147483647] (u.2.2 3)) := h.2.2.2.2.2.2.2.2.2.2.2.2.2.2.2.2.1
theorem LG12_17 {u : SV} (h : LG12 u) : Hid (tw_ (u.2.2 5)) := h.2.2.2.2.2.2.2.2.2.2.2.2.2.2.2.2.2
def LG13 (u : SV) : Prop := Hid (0 ≤ (u.2.1 0) ∧ (u.2.1 0) ≤ 16) ∧ Hid (0 ≤ (u.2.1 1) ∧ (u.2.1 1) ≤ 6) ∧ Hid (0 ≤ (u.2.1 2) ∧ (u.2.1 2) ≤ 14) ∧ Hid (0 ≤ (u.2.1 3) ∧ (u.2.1 3) ≤ 6) ∧ Hid (0 ≤ (u.2.1 4) ∧ (u.2.1 4) ≤ 8) ∧ Hid (0 ≤ (u.2.1 5) ∧ (u.2.1 5) ≤ 20) ∧ Hid (0 ≤ (u.2.1 6) ∧ (u.2.1 6) ≤ 2) ∧ Hid (0 ≤ (u.2.1 7) ∧ (u.2.1 7) ≤ 8) ∧ Hid ((-2147483648) ≤ (u.2.1 8) ∧ (u.2.1 8) ≤ 2147483647) ∧ Hid (0 ≤ (u.2.1 9) ∧ (u.2.1 9) ≤ 600) ∧ Hid ((-2147483648) ≤ (u.2.1 10) ∧ (u.2.1 10) ≤ 2147483647) ∧ Hid ((-2147483648) ≤ (u.2.1 11) ∧ (u.2.1 11) ≤ 2147483647) ∧ Hid ((-2147483648) ≤ (u.2.1 12) ∧ (u.2.1 12) ≤ 2147483647) ∧ Hid (inv_ 96 0 99 (u.2.2 0)) ∧ Hid (tab_ 4 14 [0, 0, 0, 0] [15, 5, 99, 16] (u.2.2 2)) ∧ Hid (tab_ 4 28 [0, 0, (-2147483648), (-2147483648)] [15, 19, 2147483647, 2147483647] (u.2.2 3)) ∧ Hid (tw_ (u.2.2 5))
theorem LG13_0 {u : SV} (h : LG13 u) : Hid (0 ≤ (u.2.1 0) ∧ (u.2.1 0) ≤ 16) := h.1
theorem LG13_1 {u : SV} (h : LG13 u) : Hid (0 ≤ (u.2.1 1) ∧ (u.2.1 1) ≤ 6) := h.2.1
theorem LG13_2 {u : SV} (h : LG13 u) : Hid (0 ≤ (u.2.1 2) ∧ (u.2.1 2) ≤ 14) := h.2.2.1
theorem LG13_3 {u : SV} (h : LG13 u) : Hid (0 ≤ (u.2.1 3) ∧ (u.2.1 3) ≤ 6) := h.2.2.2.1
theorem LG13_4 {u : SV} (h : LG13 u) : Hid (0 ≤ (u.2.1 4) ∧ (u.2.1 4) ≤ 8) := h.2.2.2.2.1
theorem LG13_5 {u : SV} (h : LG13 u) : Hid (0 ≤ (u.2.1 5) ∧ (u.2.1 5) ≤ 20) := h.2.2.2.2.2.1
theorem LG13_6 {u : SV} (h : LG13 u) : Hid (0 ≤ (u.2.1 6) ∧ (u.2.1 6) ≤ 2) := h.2.2.2.2.2.2.1
theorem LG13_7 {u : SV} (h : LG13 u) : Hid (0 ≤ (u.2.1 7) ∧ (u.2.1 7) ≤ 8) := h.2.2.2.2.2.2.2.1
theorem LG13_8 {u : SV} (h : LG13 u) : Hid ((-2147483648) ≤ (u.2.1 8) ∧ (u.2.1 8) ≤ 2147483647) := h.2.2.2.2.2.2.2.2.1
theorem LG13_9 {u : SV} (h : LG13 u) : Hid (0 ≤ (u.2.1 9) ∧ (u.2.1 9) ≤ 600) := h.2.2.2.2.2.2.2.2.2.1
theorem LG13_10 {u : SV} (h : LG13 u) : Hid ((-2147483648) ≤ (u.2.1 10) ∧ (u.2.1 10) ≤ 2147483647) := h.2.2.2.2.2.2.2.2.2.2.1
theorem LG13_11 {u : SV} (h : LG13 u) : Hid ((-2147483648) ≤ (u.2.1 11) ∧ (u.2.1 11) ≤ 2147483647) := h.2.2.2.2.2.2.2.2.2.2.2.1
theorem LG13_12 {u : SV} (h : LG13 u) : Hid ((-2147483648) ≤ (u.2.1 12) ∧ (u.2.1 12) ≤ 2147483647) := h.2.2.2.2.2.2.2.2.2.2.2.2.1
theorem LG13_13 {u : SV} (h : LG13 u) : Hid (inv_ 96 0 99 (u.2.2 0)) := h.2.2.2.2.2.2.2.2.2.2.2.2.2.1
theorem LG13_14 {u : SV} (h : LG13 u) : Hid (tab_ 4 14 [0, 0, 0, 0] [15, 5, 99, 16] (u.2.2 2)) := h.2.2.2.2.2.2.2.2.2.2.2.2.2.2.1
theorem LG13_15 {u : SV} (h : LG13 u) : Hid (tab_ 4 28 [0, 0, (-2147483648), (-2147483648)] [15, 19, 2147483647, 2147483647] (u.2.2 3)) := h.2.2.2.2.2.2.2.2.2.2.2.2.2.2.2.1
theorem LG13_16 {u : SV} (h : LG13 u) : Hid (tw_ (u.2.2 5)) := h.2.2.2.2.2.2.2.2.2.2.2.2.2.2.2.2
def LG14 (u : SV) : Prop := Hid (0 ≤ (u.2.1 0) ∧ (u.2.1 0) ≤ 20) ∧ Hid (0 ≤ (u.2.1 1) ∧ (u.2.1 1) ≤ 9) ∧ Hid (tab_ 5 20 [0, 0, (-2147483648), (-2147483648), (-2147483648)] [99, 5, 2147483647, 2147483647, 2147483647] (u.2.2 0))
theorem LG14_0 {u : SV} (h : LG14 u) : Hid (0 ≤ (u.2.1 0) ∧ (u.2.1 0) ≤ 20) := h.1
theorem LG14_1 {u : SV} (h : LG14 u) : Hid (0 ≤ (u.2.1 1) ∧ (u.2.1 1) ≤ 9) := h.2.1
theorem LG14_2 {u : SV} (h : LG14 u) : Hid (tab_ 5 20 [0, 0, (-2147483648), (-2147483648), (-2147483648)] [99, 5, 2147483647, 2147483647, 2147483647] (u.2.2 0)) := h.2.2
def LG15 (u : SV) : Prop := True
def LG16 (u : SV) : Prop := Hid (0 ≤ (u.2.1 0) ∧ (u.2.1 0) ≤ 16) ∧ Hid (0 ≤ (u.2.1 1) ∧ (u.2.1 1) ≤ 6) ∧ Hid (0 ≤ (u.2.1 2) ∧ (u.2.1 2) ≤ 14) ∧ Hid (0 ≤ (u.2.1 3) ∧ (u.2.1 3) ≤ 6) ∧ Hid (0 ≤ (u.2.1 4) ∧ (u.2.1 4) ≤ 8) ∧ Hid (0 ≤ (u.2.1 5) ∧ (u.2.1 5) ≤ 20) ∧ Hid (0 ≤ (u.2.1 6) ∧ (u.2.1 6) ≤ 2) ∧ Hid (0 ≤ (u.2.1 7) ∧ (u.2.1 7) ≤ 8) ∧ Hid ((-2147483648) ≤ (u.2.1 8) ∧ (u.2.1 8) ≤ 2147483647) ∧ Hid (0 ≤ (u.2.1 9) ∧ (u.2.1 9) ≤ 600) ∧ Hid ((-2147483648) ≤ (u.2.1 10) ∧ (u.2.1 10) ≤ 2147483647) ∧ Hid ((-2147483648) ≤ (u.2.1 11) ∧ (u.2.1 11) ≤ 2147483647) ∧ Hid ((-2147483648) ≤ (u.2.1 12) ∧ (u.2.1 12) ≤ 2147483647) ∧ Hid (0 < (u.2.1 0) → 1 ≤ (u.2.1 1)) ∧ Hid (inv_ 96 0 99 (u.2.2 0)) ∧ Hid (tab_ 4 14 [0, 0, 0, 0] [15, 5, 99, 16] (u.2.2 2)) ∧ Hid (tab_ 4 28 [0, 0, (-2147483648), (-2147483648)] [15, 19, 2147483647, 2147483647] (u.2.2 3)) ∧ Hid (tw_ (u.2.2 5))
theorem LG16_0 {u : SV} (h : LG16 u) : Hid (0 ≤ (u.2.1 0) ∧ (u.2.1 0) ≤ 16) := h.1
theorem LG16_1 {u : SV} (h : LG16 u) : Hid (0 ≤ (u.2.1 1) ∧ (u.2.1 1) ≤ 6) := h.2.1
theorem LG16_2 {u : SV} (h : LG16 u) : Hid (0 ≤ (u.2.1 2) ∧ (u.2.1 2) ≤ 14) := h.2.2.1
theorem LG16_3 {u : SV} (h : LG16 u) : Hid (0 ≤ (u.2.1 3) ∧ (u.2.1 3) ≤ 6) := h.2.2.2.1
theorem LG16_4 {u : SV} (h : LG16 u) : Hid (0 ≤ (u.2.1 4) ∧ (u.2.1 4) ≤ 8) := h.2.2.2.2.1
theorem LG16_5 {u : SV} (h : LG16 u) : Hid (0 ≤ (u.2.1 5) ∧ (u.2.1 5) ≤ 20) := h.2.2.2.2.2.1
theorem LG16_6 {u : SV} (h : LG16 u) : Hid (0 ≤ (u.2.1 6) ∧ (u.2.1 6) ≤ 2) := h.2.2.2.2.2.2.1
theorem LG16_7 {u : SV} (h : LG16 u) : Hid (0 ≤ (u.2.1 7) ∧ (u.2.1 7) ≤ 8) := h.2.2.2.2.2.2.2.1
theorem LG16_8 {u : SV} (h : LG16 u) : Hid ((-2147483648) ≤ (u.2.1 8) ∧ (u.2.1 8) ≤ 2147483647) := h.2.2.2.2.2.2.2.2.1
theorem LG16_9 {u : SV} (h : LG16 u) : Hid (0 ≤ (u.2.1 9) ∧ (u.2.1 9) ≤ 600) := h.2.2.2.2.2.2.2.2.2.1
theorem LG16_10 {u : SV} (h : LG16 u) : Hid ((-2147483648) ≤ (u.2.1 10) ∧ (u.2.1 10) ≤ 2147483647) := h.2.2.2.2.2.2.2.2.2.2.1
theorem LG16_11 {u : SV} (h : LG16 u) : Hid ((-2147483648) ≤ (u.2.1 11) ∧ (u.2.1 11) ≤ 2147483647) := h.2.2.2.2.2.2.2.2.2.2.2.1
theorem LG16_12 {u : SV} (h : LG16 u) : Hid ((-2147483648) ≤ (u.2.1 12) ∧ (u.2.1 12) ≤ 2147483647) := h.2.2.2.2.2.2.2.2.2.2.2.2.1
theorem LG16_13 {u : SV} (h : LG16 u) : Hid (0 < (u.2.1 0) → 1 ≤ (u.2.1 1)) := h.2.2.2.2.2.2.2.2.2.2.2.2.2.1
theorem LG16_14 {u : SV} (h : LG16 u) : Hid (inv_ 96 0 99 (u.2.2 0)) := h.2.2.2.2.2.2.2.2.2.2.2.2.2.2.1
theorem LG16_15 {u : SV} (h : LG16 u) : Hid (tab_ 4 14 [0, 0, 0, 0] [15, 5, 99, 16] (u.2.2 2)) := h.2.2.2.2.2.2.2.2.2.2.2.2.2.2.2.1
theorem LG16_16 {u : SV} (h : LG16 u) : Hid (tab_ 4 28 [0, 0, (-2147483648), (-2147483648)] [15, 19, 2147483647, 2147483647] (u.2.2 3)) := h.2.2.2.2.2.2.2.2.2.2.2.2.2.2.2.2.1
theorem LG16_17 {u : SV} (h : LG16 u) : Hid (tw_ (u.2.2 5)) := h.2.2.2.2.2.2.2.2.2.2.2.2.2.2.2.2.2
def LG17 (u : SV) : Prop := Hid (0 ≤ (u.2.1 0) ∧ (u.2.1 0) ≤ 16) ∧ Hid (0 ≤ (u.2.1 1) ∧ (u.2.1 1) ≤ 6) ∧ Hid (0 ≤ (u.2.1 2) ∧ (u.2.1 2) ≤ 14) ∧ Hid (0 ≤ (u.2.1 3) ∧ (u.2.1 3) ≤ 6) ∧ Hid (0 ≤ (u.2.1 4) ∧ (u.2.1 4) ≤ 8) ∧ Hid (0 ≤ (u.2.1 5) ∧ (u.2.1 5) ≤ 20) ∧ Hid (0 ≤ (u.2.1 6) ∧ (u.2.1 6) ≤ 2) ∧ Hid (0 ≤ (u.2.1 7) ∧ (u.2.1 7) ≤ 8) ∧ Hid ((-2147483648) ≤ (u.2.1 8) ∧ (u.2.1 8) ≤ 2147483647) ∧ Hid (0 ≤ (u.2.1 9) ∧ (u.2.1 9) ≤ 600) ∧ Hid ((-2147483648) ≤ (u.2.1 10) ∧ (u.2.1 10) ≤ 2147483647) ∧ Hid ((-2147483648) ≤ (u.2.1 11) ∧ (u.2.1 11) ≤ 2147483647) ∧ Hid ((-2147483648) ≤ (u.2.1 12) ∧ (u.2.1 12) ≤ 2147483647) ∧ Hid (0 < (u.2.1 0) → 1 ≤ (u.2.1 1)) ∧ Hid (inv_ 96 0 99 (u.2.2 0)) ∧ Hid (tab_ 4 14 [0, 0, 0, 0] [15, 5, 99, 16] (u.2.2 2)) ∧ Hid (tab_ 4 28 [0, 0, (-2147483648), (-2147483648)] [15, 19, 2147483647, 2147483647] (u.2.2 3)) ∧ Hid (tw_ (u.2.2 5))
theorem LG17_0 {u : SV} (h : LG17 u) : Hid (0 ≤ (u.2.1 0) ∧ (u.2.1 0) ≤ 16) := h.1
theorem LG17_1 {u : SV} (h : LG17 u) : Hid (0 ≤ (u.2.1 1) ∧ (u.2.1 1) ≤ 6) := h.2.1
theorem LG17_2 {u : SV} (h : LG17 u) : Hid (0 ≤ (u.2.1 2) ∧ (u.2.1 2) ≤ 14) := h.2.2.1
theorem LG17_3 {u : SV} (h : LG17 u) : Hid (0 ≤ (u.2.1 3) ∧ (u.2.1 3) ≤ 6) := h.2.2.2.1
theorem LG17_4 {u : SV} (h : LG17 u) : Hid (0 ≤ (u.2.1 4) ∧ (u.2.1 4) ≤ 8) := h.2.2.2.2.1
theorem LG17_5 {u : SV} (h : LG17 u) : Hid (0 ≤ (u.2.1 5) ∧ (u.2.1 5) ≤ 20) := h.2.2.2.2.2.1
theorem LG17_6 {u : SV} (h : LG17 u) : Hid (0 ≤ (u.2.1 6) ∧ (u.2.1 6) ≤ 2) := h.2.2.2.2.2.2.1
theorem LG17_7 {u : SV} (h : LG17 u) : Hid (0 ≤ (u.2.1 7) ∧ (u.2.1 7) ≤ 8) := h.2.2.2.2.2.2.2.1
theorem LG17_8 {u : SV} (h : LG17 u) : Hid ((-2147483648) ≤ (u.2.1 8) ∧ (u.2.1 8) ≤ 2147483647) := h.2.2.2.2.2.2.2.2.1
theorem LG17_9 {u : SV} (h : LG17 u) : Hid (0 ≤ (u.2.1 9) ∧ (u.2.1 9) ≤ 600) := h.2.2.2.2.2.2.2.2.2.1
theorem LG17_10 {u : SV} (h : LG17 u) : Hid ((-2147483648) ≤ (u.2.1 10) ∧ (u.2.1 10) ≤ 2147483647) := h.2.2.2.2.2.2.2.2.2.2.1
theorem LG17_11 {u : SV} (h : LG17 u) : Hid ((-2147483648) ≤ (u.2.1 11) ∧ (u.2.1 11) ≤ 2147483647) := h.2.2.2.2.2.2.2.2.2.2.2.1
theorem LG17_12 {u : SV} (h : LG17 u) : Hid ((-2147483648) ≤ (u.2.1 12) ∧ (u.2.1 12) ≤ 2147483647) := h.2.2.2.2.2.2.2.2.2.2.2.2.1
theorem LG17_13 {u : SV} (h : LG17 u) : Hid (0 < (u.2.1 0) → 1 ≤ (u.2.1 1)) := h.2.2.2.2.2.2.2.2.2.2.2.2.2.1
theorem LG17_14 {u : SV} (h : LG17 u) : Hid (inv_ 96 0 99 (u.2.2 0)) := h.2.2.2.2.2.2.2.2.2.2.2.2.2.2.1
theorem LG17_15 {u : SV} (h : LG17 u) : Hid (tab_ 4 14 [0, 0, 0, 0] [15, 5, 99, 16] (u.2.2 2)) := h.2.2.2.2.2.2.2.2.2.2.2.2.2.2.2.1
theorem LG17_16 {u : SV} (h : LG17 u) : Hid (tab_ 4 28 [0, 0, (-2147483648), (-2147483648)] [15, 19, 2147483647, 2147483647] (u.2.2 3)) := h.2.2.2.2.2.2.2.2.2.2.2.2.2.2.2.2.1
theorem LG17_17 {u : SV} (h : LG17 u) : Hid (tw_ (u.2.2 5)) := h.2.2.2.2.2.2.2.2.2.2.2.2.2.2.2.2.2
def LG18 (u : SV) : Prop := Hid (0 ≤ (u.2.1 0) ∧ (u.2.1 0) ≤ 16) ∧ Hid (0 ≤ (u.2.1 1) ∧ (u.2.1 1) ≤ 6) ∧ Hid (0 ≤ (u.2.1 2) ∧ (u.2.1 2) ≤ 14) ∧ Hid (0 ≤ (u.2.1 3) ∧ (u.2.1 3) ≤ 6) ∧ Hid (0 ≤ (u.2.1 4) ∧ (u.2.1 4) ≤ 8) ∧ Hid (0 ≤ (u.2.1 5) ∧ (u.2.1 5) ≤ 20) ∧ Hid (0 ≤ (u.2.1 6) ∧ (u.2.1 6) ≤ 2) ∧ Hid (0 ≤ (u.2.1 7) ∧ (u.2.1 7) ≤ 8) ∧ Hid ((-2147483648) ≤ (u.2.1 8) ∧ (u.2.1 8) ≤ 2147483647) ∧ Hid (0 ≤ (u.2.1 9) ∧ (u.2.1 9) ≤ 600) ∧ Hid ((-2147483648) ≤ (u.2.1 10) ∧ (u.2.1 10) ≤ 2147483647) ∧ Hid ((-2147483648) ≤ (u.2.1 11) ∧ (u.2.1 11) ≤ 2147483647) ∧ Hid ((-2147483648) ≤ (u.2.1 12) ∧ (u.2.1 12) ≤ 2147483647) ∧ Hid (0 < (u.2.1 0) → 1 ≤ (u.2.1 1)) ∧ Hid (inv_ 96 0 99 (u.2.2 0)) ∧ Hid (tab_ 4 14 [0, 0, 0, 0] [15, 5, 99, 16] (u.2.2 2)) ∧ Hid (tab_ 4 28 [0, 0, (-2147483648), (-2147483648)] [15, 19, 2147483647, 2147483647] (u.2.2 3)) ∧ Hid (tw_ (u.2.2 5))
theorem LG18_0 {u : SV} (h : LG18 u) : Hid (0 ≤ (u.2.1 0) ∧ (u.2.1 0) ≤ 16) := h.1
theorem LG18_1 {u : SV} (h : LG18 u) : Hid (0 ≤ (u.2.1 1) ∧ (u.2.1 1) ≤ 6) := h.2.1
theorem LG18_2 {u : SV} (h : LG18 u) : Hid (0 ≤ (u.2.1 2) ∧ (u.2.1 2) ≤ 14) := h.2.2.1
theorem LG18_3 {u : SV} (h : LG18 u) : Hid (0 ≤ (u.2.1 3) ∧ (u.2.1 3) ≤ 6) := h.2.2.2.1
theorem LG18_4 {u : SV} (h : LG18 u) : Hid (0 ≤ (u.2.1 4) ∧ (u.2.1 4) ≤ 8) := h.2.2.2.2.1
theorem LG18_5 {u : SV} (h : LG18 u) : Hid (0 ≤ (u.2.1 5) ∧ (u.2.1 5) ≤ 20) := h.2.2.2.2.2.1
theorem LG18_6 {u : SV} (h : LG18 u) : Hid (0 ≤ (u.2.1 6) ∧ (u.2.1 6) ≤ 2) := h.2.2.2.2.2.2.1
theorem LG18_7 {u : SV} (h : LG18 u) : Hid (0 ≤ (u.2.1 7) ∧ (u.2.1 7) ≤ 8) := h.2.2.2.2.2.2.2.1
theorem LG18_8 {u : SV} (h : LG18 u) : Hid ((-2147483648) ≤ (u.2.1 8) ∧ (u.2.1 8) ≤ 2147483647) := h.2.2.2.2.2.2.2.2.1
theorem LG18_9 {u : SV} (h : LG18 u) : Hid (0 ≤ (u.2.1 9) ∧ (u.2.1 9) ≤ 600) := h.2.2.2.2.2.2.2.2.2.1
theorem LG18_10 {u : SV} (h : LG18 u) : Hid ((-2147483648) ≤ (u.2.1 10) ∧ (u.2.1 10) ≤ 2147483647) := h.2.2.2.2.2.2.2.2.2.2.1
theorem LG18_11 {u : SV} (h : LG18 u) : Hid ((-2147483648) ≤ (u.2.1 11) ∧ (u.2.1 11) ≤ 2147483647) := h.2.2.2.2.2.2.2.2.2.2.2.1
theorem LG18_12 {u : SV} (h : LG18 u) : Hid ((-2147483648) ≤ (u.2.1 12) ∧ (u.2.1 12) ≤ 2147483647) := h.2.2.2.2.2.2.2.2.2.2.2.2.1
theorem LG18_13 {u : SV} (h : LG18 u) : Hid (0 < (u.2.1 0) → 1 ≤ (u.2.1 1)) := h.2.2.2.2.2.2.2.2.2.2.2.2.2.1
theorem LG18_14 {u : SV} (h : LG18 u) : Hid (inv_ 96 0 99 (u.2.2 0)) := h.2.2.2.2.2.2.2.2.2.2.2.2.2.2.1
theorem LG18_15 {u : SV} (h : LG18 u) : Hid (tab_ 4 14 [0, 0, 0, 0] [15, 5, 99, 16] (u.2.2 2)) := h.2.2.2.2.2.2.2.2.2.2.2.2.2.2.2.1
theorem LG18_16 {u : SV} (h : LG18 u) : Hid (tab_ 4 28 [0, 0, (-2147483648), (-2147483648)] [15, 19, 2147483647, 2147483647] (u.2.2 3)) := h.2.2.2.2.2.2.2.2.2.2.2.2.2.2.2.2.1
theorem LG18_17 {u : SV} (h : LG18 u) : Hid (tw_ (u.2.2 5)) := h.2.2.2.2.2.2.2.2.2.2.2.2.2.2.2.2.2
def LG19 (u : SV) : Prop := Hid (0 ≤ (u.2.1 0) ∧ (u.2.1 0) ≤ 20) ∧ Hid (0 ≤ (u.2.1 1) ∧ (u.2.1 1) ≤ 9) ∧ Hid (tab_ 5 20 [0, 0, (-2147483648), (-2147483648), (-2147483648)] [99, 5, 2147483647, 2147483647, 2147483647] (u.2.2 0))
theorem LG19_0 {u : SV} (h : LG19 u) : Hid (0 ≤ (u.2.1 0) ∧ (u.2.1 0) ≤ 20) := h.1
theorem LG19_1 {u : SV} (h : LG19 u) : Hid (0 ≤ (u.2.1 1) ∧ (u.2.1 1) ≤ 9) := h.2.1
theorem LG19_2 {u : SV} (h : LG19 u) : Hid (tab_ 5 20 [0, 0, (-2147483648), (-2147483648), (-2147483648)] [99, 5, 2147483647, 2147483647, 2147483647] (u.2.2 0)) := h.2.2
def LG20 (u : SV) : Prop := Hid (0 ≤ (u.2.1 0) ∧ (u.2.1 0) ≤ 20) ∧ Hid (0 ≤ (u.2.1 1) ∧ (u.2.1 1) ≤ 9) ∧ Hid (tab_ 5 20 [0, 0, (-2147483648), (-2147483648), (-2147483648)] [99, 5, 2147483647, 2147483647, 2147483647] (u.2.2 0))
theorem LG20_0 {u : SV} (h : LG20 u) : Hid (0 ≤ (u.2.1 0) ∧ (u.2.1 0) ≤ 20) := h.1
theorem LG20_1 {u : SV} (h : LG20 u) : Hid (0 ≤ (u.2.1 1) ∧ (u.2.1 1) ≤ 9) := h.2.1
theorem LG20_2 {u : SV} (h : LG20 u) : Hid (tab_ 5 20 [0, 0, (-2147483648), (-2147483648), (-2147483648)] [99, 5, 2147483647, 2147483647, 2147483647] (u.2.2 0)) := h.2.2
def LG21 (u : SV) : Prop := Hid (0 ≤ (u.2.1 0) ∧ (u.2.1 0) ≤ 20) ∧ Hid (0 ≤ (u.2.1 1) ∧ (u.2.1 1) ≤ 9) ∧ Hid (tab_ 5 20 [0, 0, (-2147483648), (-2147483648), (-2147483648)] [99, 5, 2147483647, 2147483647, 2147483647] (u.2.2 0))
theorem LG21_0 {u : SV} (h : LG21 u) : Hid (0 ≤ (u.2.1 0) ∧ (u.2.1 0) ≤ 20) := h.1
theorem LG21_1 {u : SV} (h : LG21 u) : Hid (0 ≤ (u.2.1 1) ∧ (u.2.1 1) ≤ 9) := h.2.1
theorem LG21_2 {u : SV} (h : LG21 u) : Hid (tab_ 5 20 [0, 0, (-2147483648), (-2147483648), (-2147483648)] [99, 5, 2147483647, 2147483647, 2147483647] (u.2.2 0)) := h.2.2
def LG22 (u : SV) : Prop := Hid ((-2147483648) ≤ (u.2.1 0) ∧ (u.2.1 0) ≤ 2147483647) ∧ Hid ((-2147483648) ≤ (u.2.1 1) ∧ (u.2.1 1) ≤ 2147483647)
theorem LG22_0 {u : SV} (h : LG22 u) : Hid ((-2147483648) ≤ (u.2.1 0) ∧ (u.2.1 0) ≤ 2147483647) := h.1
theorem LG22_1 {u : SV} (h : LG22 u) : Hid ((-2147483648) ≤ (u.2.1 1) ∧ (u.2.1 1) ≤ 2147483647) := h.2
def LG23 (u : SV) : Prop := Hid (0 ≤ (u.2.1 0) ∧ (u.2.1 0) ≤ 16) ∧ Hid (0 ≤ (u.2.1 1) ∧ (u.2.1 1) ≤ 6) ∧ Hid (0 ≤ (u.2.1 2) ∧ (u.2.1 2) ≤ 14) ∧ Hid (0 ≤ (u.2.1 3) ∧ (u.2.1 3) ≤ 6) ∧ Hid (0 ≤ (u.2.1 4) ∧ (u.2.1 4) ≤ 8) ∧ Hid (0 ≤ (u.2.1 5) ∧ (u.2.1 5) ≤ 20) ∧ Hid (0 ≤ (u.2.1 6) ∧ (u.2.1 6) ≤ 2) ∧ Hid (0 ≤ (u.2.1 7) ∧ (u.2.1 7) ≤ 8) ∧ Hid ((-2147483648) ≤ (u.2.1 8) ∧ (u.2.1 8) ≤ 2147483647) ∧ Hid (0 ≤ (u.2.1 9) ∧ (u.2.1 9) ≤ 600) ∧ Hid ((-2147483648) ≤ (u.2.1 10) ∧ (u.2.1 10) ≤ 2147483647) ∧ Hid ((-2147483648) ≤ (u.2.1 11) ∧ (u.2.1 11) ≤ 2147483647) ∧ Hid ((-2147483648) ≤ (u.2.1 12) ∧ (u.2.1 12) ≤ 2147483647) ∧ Hid (inv_ 96 0 99 (u.2.2 0)) ∧ Hid (tab_ 4 14 [0, 0, 0, 0] [15, 5, 99, 16] (u.2.2 2)) ∧ Hid (tab_ 4 28 [(-2147483648), 0, (-2147483648), (-2147483648)] [2147483647, 19, 2147483647, 2147483647] (u.2.2 3)) ∧ Hid (tw_ (u.2.2 5))
theorem LG23_0 {u : SV} (h : LG23 u) : Hid (0 ≤ (u.2.1 0) ∧ (u.2.1 0) ≤ 16) := h.1
theorem LG23_1 {u : SV} (h : LG23 u) : Hid (0 ≤ (u.2.1 1) ∧ (u.2.1 1) ≤ 6) := h.2.1
theorem LG23_2 {u : SV} (h : LG23 u) : Hid (0 ≤ (u.2.1 2) ∧ (u.2.1 2) ≤ 14) := h.2.2.1
theorem LG23_3 {u : SV} (h : LG23 u) : Hid (0 ≤ (u.2.1 3) ∧ (u.2.1 3) ≤ 6) := h.2.2.2.1
theorem LG23_4 {u : SV} (h : LG23 u) : Hid (0 ≤ (u.2.1 4) ∧ (u.2.1 4) ≤ 8) := h.2.2.2.2.1
theorem LG23_5 {u : SV} (h : LG23 u) : Hid (0 ≤ (u.2.1 5) ∧ (u.2.1 5) ≤ 20) := h.2.2.2.2.2.1
theorem LG23_6 {u : SV} (h : LG23 u) : Hid (0 ≤ (u.2.1 6) ∧ (u.2.1 6) ≤ 2) := h.2.2.2.2.2.2.1
theorem LG23_7 {u : SV} (h : LG23 u) : Hid (0 ≤ (u.2.1 7) ∧ (u.2.1 7) ≤ 8) := h.2.2.2.2.2.2.2.1
theorem LG23_8 {u : SV} (h : LG23 u) : Hid ((-2147483648) ≤ (u.2.1 8) ∧ (u.2.1 8) ≤ 2147483647) := h.2.2.2.2.2.2.2.2.1
theorem LG23_9 {u : SV} (h : LG23 u) : Hid (0 ≤ (u.2.1 9) ∧ (u.2.1 9) ≤ 600) := h.2.2.2.2.2.2.2.2.2.1
theorem LG23_10 {u : SV} (h : LG23 u) : Hid ((-2147483648) ≤ (u.2.1 10) ∧ (u.2.1 10) ≤ 2147483647) := h.2.2.2.2.2.2.2.2.2.2.1
theorem LG23_11 {u : SV} (h : LG23 u) : Hid ((-2147483648) ≤ (u.2.1 11) ∧ (u.2.1 11) ≤ 2147483647) := h.2.2.2.2.2.2.2.2.2.2.2.1
theorem LG23_12 {u : SV} (h : LG23 u) : Hid ((-2147483648) ≤ (u.2.1 12) ∧ (u.2.1 12) ≤ 2147483647) := h.2.2.2.2.2.2.2.2.2.2.2.2.1
theorem LG23_13 {u : SV} (h : LG23 u) : Hid (inv_ 96 0 99 (u.2.2 0)) := h.2.2.2.2.2.2.2.2.2.2.2.2.2.1
theorem LG23_14 {u : SV} (h : LG23 u) : Hid (tab_ 4 14 [0, 0, 0, 0] [15, 5, 99, 16] (u.2.2 2)) := h.2.2.2.2.2.2.2.2.2.2.2.2.2.2.1
theorem LG23_15 {u : SV} (h : LG23 u) : Hid (tab_ 4 28 [(-2147483648), 0, (-2147483648), (-2147483648)] [2147483647, 19, 2147483647, 2147483647] (u.2.2 3)) := h.2.2.2.2.2.2.2.2.2.2.2.2.2.2.2.1
theorem LG23_16 {u : SV} (h : LG23 u) : Hid (tw_ (u.2.2 5)) := h.2.2.2.2.2.2.2.2.2.2.2.2.2.2.2.2
def LG24 (u : SV) : Prop := Hid (0 ≤ (u.2.1 0) ∧ (u.2.1 0) ≤ 5) ∧ Hid ((-2147483648) ≤ (u.2.1 1) ∧ (u.2.1 1) ≤ 2147483647) ∧ Hid ((-2147483648) ≤ (u.2.1 2) ∧ (u.2.1 2) ≤ 2147483647) ∧ Hid ((-2147483648) ≤ (u.2.1 3) ∧ (u.2.1 3) ≤ 2147483647) ∧ Hid (0 ≤ (u.2.1 4) ∧ (u.2.1 4) ≤ 5) ∧ Hid ((-2147483648) ≤ (u.2.1 5) ∧ (u.2.1 5) ≤ 2147483647)
theorem LG24_0 {u : SV} (h : LG24 u) : Hid (0 ≤ (u.2.1 0) ∧ (u.2.1 0) ≤ 5) := h.1
theorem LG24_1 {u : SV} (h : LG24 u) : Hid ((-2147483648) ≤ (u.2.1 1) ∧ (u.2.1 1) ≤ 2147483647) := h.2.1
theorem LG24_2 {u : SV} (h : LG24 u) : Hid ((-2147483648) ≤ (u.2.1 2) ∧ (u.2.1 2) ≤ 2147483647) := h.2.2.1
theorem LG24_3 {u : SV} (h : LG24 u) : Hid ((-2147483648) ≤ (u.2.1 3) ∧ (u.2.1 3) ≤ 2147483647) := h.2.2.2.1
theorem LG24_4 {u : SV} (h : LG24 u) : Hid (0 ≤ (u.2.1 4) ∧ (u.2.1 4) ≤ 5) := h.2.2.2.2.1
theorem LG24_5 {u : SV} (h : LG24 u) : Hid ((-2147483648) ≤ (u.2.1 5) ∧ (u.2.1 5) ≤ 2147483647) := h.2.2.2.2.2
def LG25 (u : SV) : Prop := True
def LG26 (u : SV) : Prop := Hid ((-2147483648) ≤ (u.2.1 0) ∧ (u.2.1 0) ≤ 2147483647) ∧ Hid ((-2147483648) ≤ (u.2.1 1) ∧ (u.2.1 1) ≤ 2147483647) ∧ Hid ((-2147483648) ≤ (u.2.1 2) ∧ (u.2.1 2) ≤ 2147483647)
theorem LG26_0 {u : SV} (h : LG26 u) : Hid ((-2147483648) ≤ (u.2.1 0) ∧ (u.2.1 0) ≤ 2147483647) := h.1
theorem LG26_1 {u : SV} (h : LG26 u) : Hid ((-2147483648) ≤ (u.2.1 1) ∧ (u.2.1 1) ≤ 2147483647) := h.2.1
theorem LG26_2 {u : SV} (h : LG26 u) : Hid ((-2147483648) ≤ (u.2.1 2) ∧ (u.2.1 2) ≤ 2147483647) := h.2.2
def LG27 (u : SV) : Prop := Hid ((-2147483648) ≤ (u.2.1 0) ∧ (u.2.1 0) ≤ 2147483647) ∧ Hid (0 ≤ (u.2.1 1) ∧ (u.2.1 1) ≤ 600) ∧ Hid (0 ≤ (u.2.1 2) ∧ (u.2.1 2) ≤ 600) ∧ Hid (0 ≤ (u.2.1 3) ∧ (u.2.1 3) ≤ 602) ∧ Hid ((-1) ≤ (u.2.1 4) ∧ (u.2.1 4) ≤ 602) ∧ Hid (0 ≤ (u.2.1 5) ∧ (u.2.1 5) ≤ 4) ∧ Hid (0 ≤ (u.2.1 6) ∧ (u.2.1 6) ≤ 7) ∧ Hid ((-2147483648) ≤ (u.2.1 7) ∧ (u.2.1 7) ≤ 2147483647) ∧ Hid (0 ≤ (u.2.1 8) ∧ (u.2.1 8) ≤ 3) ∧ Hid (0 ≤ (u.2.1 9) ∧ (u.2.1 9) ≤ 4) ∧ Hid (0 ≤ (u.2.1 10) ∧ (u.2.1 10) ≤ 4) ∧ Hid (0 ≤ (u.2.1 11) ∧ (u.2.1 11) ≤ 602) ∧ Hid ((-2147483648) ≤ (u.2.1 12) ∧ (u.2.1 12) ≤ 2147483647) ∧ Hid (0 ≤ (u.2.1 13) ∧ (u.2.1 13) ≤ 95) ∧ Hid (0 ≤ (u.2.1 14) ∧ (u.2.1 14) ≤ 5) ∧ Hid ((-2147483648) ≤ (u.2.1 15) ∧ (u.2.1 15) ≤ 2147483647) ∧ Hid ((-2147483648) ≤ (u.2.1 16) ∧ (u.2.1 16) ≤ 2147483647) ∧ Hid ((-2147483648) ≤ (u.2.1 17) ∧ (u.2.1 17) ≤ 2147483647) ∧ Hid ((-2147483648) ≤ (u.2.1 18) ∧ (u.2.1 18) ≤ 2147483647)
theorem LG27_0 {u : SV} (h : LG27 u) : Hid ((-2147483648) ≤ (u.2.1 0) ∧ (u.2.1 0) ≤ 2147483647) := h.1
theorem LG27_1 {u : SV} (h : LG27 u) : Hid (0 ≤ (u.2.1 1) ∧ (u.2.1 1) ≤ 600) := h.2.1
theorem LG27_2 {u : SV} (h : LG27 u) : Hid (0 ≤ (u.2.1 2) ∧ (u.2.1 2) ≤ 600) := h.2.2.1
theorem LG27_3 {u : SV} (h : LG27 u) : Hid (0 ≤ (u.2.1 3) ∧ (u.2.1 3) ≤ 602) := h.2.2.2.1
theorem LG27_4 {u : SV} (h : LG27 u) : Hid ((-1) ≤ (u.2.1 4) ∧ (u.2.1 4) ≤ 602) := h.2.2.2.2.1
theorem LG27_5 {u : SV} (h : LG27 u) : Hid (0 ≤ (u.2.1 5) ∧ (u.2.1 5) ≤ 4) := h.2.2.2.2.2.1
theorem LG27_6 {u : SV} (h : LG27 u) : Hid (0 ≤ (u.2.1 6) ∧ (u.2.1 6) ≤ 7) := h.2.2.2.2.2.2.1
theorem LG27_7 {u : SV} (h : LG27 u) : Hid ((-2147483648) ≤ (u.2.1 7) ∧ (u.2.1 7) ≤ 2147483647) := h.2.2.2.2.2.2.2.1
theorem LG27_8 {u : SV} (h : LG27 u) : Hid (0 ≤ (u.2.1 8) ∧ (u.2.1 8) ≤ 3) := h.2.2.2.2.2.2.2.2.1
theorem LG27_9 {u : SV} (h : LG27 u) : Hid (0 ≤ (u.2.1 9) ∧ (u.2.1 9) ≤ 4) := h.2.2.2.2.2.2.2.2.2.1
theorem LG27_10 {u : SV} (h : LG27 u) : Hid (0 ≤ (u.2.1 10) ∧ (u.2.1 10) ≤ 4) := h.2.2.2.2.2.2.2.2.2.2.1
theorem LG27_11 {u : SV} (h : LG27 u) : Hid (0 ≤ (u.2.1 11) ∧ (u.2.1 11) ≤ 602) := h.2.2.2.2.2.2.2.2.2.2.2.1
theorem LG27_12 {u : SV} (h : LG27 u) : Hid ((-2147483648) ≤ (u.2.1 12) ∧ (u.2.1 12) ≤ 2147483647) := h.2.2.2.2.2.2.2.2.2.2.2.2.1
theorem LG27_13 {u : SV} (h : LG27 u) : Hid (0 ≤ (u.2.1 13) ∧ (u.2.1 13) ≤ 95) := h.2.2.2.2.2.2.2.2.2.2.2.2.2.1
theorem LG27_14 {u : SV} (h : LG27 u) : Hid (0 ≤ (u.2.1 14) ∧ (u.2.1 14) ≤ 5) := h.2.2.2.2.2.2.2.2.2.2.2.2.2.2.1
theorem LG27_15 {u : SV} (h : LG27 u) : Hid ((-2147483648) ≤ (u.2.1 15) ∧ (u.2.1 15) ≤ 2147483647) := h.2.2.2.2.2.2.2.2.2.2.2.2.2.2.2.1
theorem LG27_16 {u : SV} (h : LG27 u) : Hid ((-2147483648) ≤ (u.2.1 16) ∧ (u.2.1 16) ≤ 2147483647) := h.2.2.2.2.2.2.2.2.2.2.2.2.2.2.2.2.1
theorem LG27_17 {u : SV} (h : LG27 u) : Hid ((-2147483648) ≤ (u.2.1 17) ∧ (u.2.1 17) ≤ 2147483647) := h.2.2.2.2.2.2.2.2.2.2.2.2.2.2.2.2.2.1
theorem LG27_18 {u : SV} (h : LG27 u) : Hid ((-2147483648) ≤ (u.2.1 18) ∧ (u.2.1 18) ≤ 2147483647) := h.2.2.2.2.2.2.2.2.2.2.2.2.2.2.2.2.2.2
def LG28 (u : SV) : Prop := True
def LG29 (u : SV) : Prop := Hid (inv_ 600 0 255 (u.2.2 0))
theorem LG29_0 {u : SV} (h : LG29 u) : Hid (inv_ 600 0 255 (u.2.2 0)) := h
def LG30 (u : SV) : Prop := Hid (BI (u.2.2 0))
theorem LG30_0 {u : SV} (h : LG30 u) : Hid (BI (u.2.2 0)) := h
def LG31 (u : SV) : Prop := Hid (NI (u.2.2 0)) ∧ Hid (SI 8 (u.2.2 1))
theorem LG31_0 {u : SV} (h : LG31 u) : Hid (NI (u.2.2 0)) := h.1
theorem LG31_1 {u : SV} (h : LG31 u) : Hid (SI 8 (u.2.2 1)) := h.2
def LG32 (u : SV) : Prop := Hid (SI 8 (u.2.2 0))
theorem LG32_0 {u : SV} (h : LG32 u) : Hid (SI 8 (u.2.2 0)) := h
def LG33 (u : SV) : Prop := Hid (SI 8 (u.2.2 0))
theorem LG33_0 {u : SV} (h : LG33 u) : Hid (SI 8 (u.2.2 0)) := h
def LG34 (u : SV) : Prop := Hid (IM (u.2.2 0))
theorem LG34_0 {u : SV} (h : LG34 u) : Hid (IM (u.2.2 0)) := h
def LG35 (u : SV) : Prop := Hid (inv_ 4 0 8 (u.2.2 0))
theorem LG35_0 {u : SV} (h : LG35 u) : Hid (inv_ 4 0 8 (u.2.2 0)) := h
def LG36 (u : SV) : Prop := True
def LG37 (u : SV) : Prop := True
def LG38 (u : SV) : Prop := True
def LG39 (u : SV) : Prop := True
def LGS (i : Nat) (u : SV) : Prop := (([LG0, LG1, LG2, LG3, LG4, LG5, LG6, LG7, LG8, LG9, LG10, LG11, LG12, LG13, LG14, LG15, LG16, LG17, LG18, LG19, LG20, LG21, LG22, LG23, LG24, LG25, LG26, LG27, LG28, LG29, LG30, LG31, LG32, LG33, LG34, LG35, LG36, LG37, LG38, LG39] : List (SV → Prop)).getD i (fun _ => True)) u
def LF (u : Nat → SV) : Prop := (∀ i : Nat, LGS i (u i)) ∧ Hid (((u 1).2.1 0) = ((u 27).2.1 1)) ∧ Hid (LI ((u 27).2.1 10) ((u 36).2.2 0) ((u 36).2.2 1) ((u 36).2.2 2) ((u 36).2.2 3)) ∧ Hid (TPR ((u 1).2.2 0) ((u 29).2.2 0)) ∧ Hid (RSt ((u 12).2.1 0) ((u 12).2.1 1) ((u 12).2.1 3) ((u 12).2.1 4) ((u 12).2.1 6) ((u 12).2.1 7) ((u 12).2.2 4) ((u 12).2.2 5) (nz ((u 30).2.2 0))) ∧ Hid (RPl ((u 14).2.1 0) ((u 14).2.1 1) ((u 14).2.2 0) ((u 14).2.2 1) ((u 14).2.2 2) (nz ((u 32).2.2 0))) ∧ Hid (((u 0).2.1 2) = ((u 27).2.1 8)) ∧ Hid (GIm 0 ((u 0).2.1 2) ((u 16).2.1 0) ((u 16).2.1 1) ((u 16).2.1 3) ((u 16).2.1 4) ((u 16).2.1 6) ((u 16).2.1 7) ((u 19).2.1 0) ((u 19).2.1 1) ((u 16).2.2 4) ((u 16).2.2 5) ((u 19).2.2 0) ((u 19).2.2 1) ((u 19).2.2 2) (nz ((u 30).2.2 0)) (imz ((u 34).2.2 0) 0)) ∧ Hid (GIm 1 ((u 0).2.1 2) ((u 17).2.1 0) ((u 17).2.1 1) ((u 17).2.1 3) ((u 17).2.1 4) ((u 17).2.1 6) ((u 17).2.1 7) ((u 20).2.1 0) ((u 20).2.1 1) ((u 17).2.2 4) ((u 17).2.2 5) ((u 20).2.2 0) ((u 20).2.2 1) ((u 20).2.2 2) (nz ((u 30).2.2 0)) (imz ((u 34).2.2 0) 1)) ∧ Hid (GIm 2 ((u 0).2.1 2) ((u 18).2.1 0) ((u 18).2.1 1) ((u 18).2.1 3) ((u 18).2.1 4) ((u 18).2.1 6) ((u 18).2.1 7) ((u 21).2.1 0) ((u 21).2.1 1) ((u 18).2.2 4) ((u 18).2.2 5) ((u 21).2.2 0) ((u 21).2.2 1) ((u 21).2.2 2) (nz ((u 30).2.2 0)) (imz ((u 34).2.2 0) 2))
theorem LFx_ft {u : Nat → SV} (h : LF u) : Hid (((u 1).2.1 0) = ((u 27).2.1 1)) := h.2.1
theorem LFx_li {u : Nat → SV} (h : LF u) : Hid (LI ((u 27).2.1 10) ((u 36).2.2 0) ((u 36).2.2 1) ((u 36).2.2 2) ((u 36).2.2 3)) := h.2.2.1
theorem LFx_tpr {u : Nat → SV} (h : LF u) : Hid (TPR ((u 1).2.2 0) ((u 29).2.2 0)) := h.2.2.2.1
theorem LFx_st {u : Nat → SV} (h : LF u) : Hid (RSt ((u 12).2.1 0) ((u 12).2.1 1) ((u 12).2.1 3) ((u 12).2.1 4) ((u 12).2.1 6) ((u 12).2.1 7) ((u 12).2.2 4) ((u 12).2.2 5) (nz ((u 30).2.2 0))) := h.2.2.2.2.1
theorem LFx_pl {u : Nat → SV} (h : LF u) : Hid (RPl ((u 14).2.1 0) ((u 14).2.1 1) ((u 14).2.2 0) ((u 14).2.2 1) ((u 14).2.2 2) (nz ((u 32).2.2 0))) := h.2.2.2.2.2.1
theorem LFx_ie {u : Nat → SV} (h : LF u) : Hid (((u 0).2.1 2) = ((u 27).2.1 8)) := h.2.2.2.2.2.2.1
theorem LFx_g0 {u : Nat → SV} (h : LF u) : Hid (GIm 0 ((u 0).2.1 2) ((u 16).2.1 0) ((u 16).2.1 1) ((u 16).2.1 3) ((u 16).2.1 4) ((u 16).2.1 6) ((u 16).2.1 7) ((u 19).2.1 0) ((u 19).2.1 1) ((u 16).2.2 4) ((u 16).2.2 5) ((u 19).2.2 0) ((u 19).2.2 1) ((u 19).2.2 2) (nz ((u 30).2.2 0)) (imz ((u 34).2.2 0) 0)) := h.2.2.2.2.2.2.2.1
theorem LFx_g1 {u : Nat → SV} (h : LF u) : Hid (GIm 1 ((u 0).2.1 2) ((u 17).2.1 0) ((u 17).2.1 1) ((u 17).2.1 3) ((u 17).2.1 4) ((u 17).2.1 6) ((u 17).2.1 7) ((u 20).2.1 0) ((u 20).2.1 1) ((u 17).2.2 4) ((u 17).2.2 5) ((u 20).2.2 0) ((u 20).2.2 1) ((u 20).2.2 2) (nz ((u 30).2.2 0)) (imz ((u 34).2.2 0) 1)) := h.2.2.2.2.2.2.2.2.1
theorem LFx_g2 {u : Nat → SV} (h : LF u) : Hid (GIm 2 ((u 0).2.1 2) ((u 18).2.1 0) ((u 18).2.1 1) ((u 18).2.1 3) ((u 18).2.1 4) ((u 18).2.1 6) ((u 18).2.1 7) ((u 21).2.1 0) ((u 21).2.1 1) ((u 18).2.2 4) ((u 18).2.2 5) ((u 21).2.2 0) ((u 21).2.2 1) ((u 21).2.2 2) (nz ((u 30).2.2 0)) (imz ((u 34).2.2 0) 2)) := h.2.2.2.2.2.2.2.2.2
def KG (cy : Nat → ClassId) (kk mm ao : Nat) (q1 q2 : Nat → Nat) (u : Nat → SV) : va_W := [zO kk 11 [vR (q1 0), vR (q1 1), vR (q1 2), vI ((u 0).2.1 0), vI ((u 0).2.1 1), vR ((u 12).1 0), vR ((u 13).1 0), vR (q1 7), vR (q1 8), vR (q1 9), vI ((u 0).2.1 2), vR (q1 11), vR (q1 12), vR (q1 13)], zI (q1 13) (cy 0) 4 ((u 0).2.2 0), zL ao (cy 2) 1 (fun _ => (iI ((u 0).2.1 3)).toInt64)]
def GQ1 (cy : Nat → ClassId) (kk mm ao : Nat) (q1 q2 : Nat → Nat) (u : SV) : va_W := [zO (q1 0) 8 [vR (q1 20), vI (u.2.1 0), vI (u.2.1 1), vI (u.2.1 2), vI (u.2.1 3), vI (u.2.1 4), vI (u.2.1 5)], zI (q1 20) (cy 1) 600 (u.2.2 0)]
def GQ2 (cy : Nat → ClassId) (kk mm ao : Nat) (q1 q2 : Nat → Nat) (u : SV) : va_W := [zQ (q1 1) (cy 4) 4 (fun k => some (q1 (100 + k)))]
def GQ3 (cy : Nat → ClassId) (kk mm ao : Nat) (q1 q2 : Nat → Nat) (u : SV) : va_W := [zO (q1 100) 5 [vR (q1 140), vI (u.2.1 0)], zI (q1 140) (cy 0) 240 (u.2.2 0)]
def GQ4 (cy : Nat → ClassId) (kk mm ao : Nat) (q1 q2 : Nat → Nat) (u : SV) : va_W := [zO (q1 101) 5 [vR (q1 141), vI (u.2.1 0)], zI (q1 141) (cy 0) 240 (u.2.2 0)]
def GQ5 (cy : Nat → ClassId) (kk mm ao : Nat) (q1 q2 : Nat → Nat) (u : SV) : va_W := [zO (q1 102) 5 [vR (q1 142), vI (u.2.1 0)], zI (q1 142) (cy 0) 240 (u.2.2 0)]
def GQ6 (cy : Nat → ClassId) (kk mm ao : Nat) (q1 q2 : Nat → Nat) (u : SV) : va_W := [zO (q1 103) 5 [vR (q1 143), vI (u.2.1 0)], zI (q1 143) (cy 0) 240 (u.2.2 0)]
def GQ7 (cy : Nat → ClassId) (kk mm ao : Nat) (q1 q2 : Nat → Nat) (u : SV) : va_W := [zQ (q1 2) (cy 5) 4 (fun k => some (q1 (110 + k)))]
def GQ8 (cy : Nat → ClassId) (kk mm ao : Nat) (q1 q2 : Nat → Nat) (u : SV) : va_W := [zO (q1 110) 1 [vR (q1 150), vI (u.2.1 0), vR (q1 151), vR (q1 152)], zI (q1 150) (cy 0) 600 (u.2.2 0), zI (q1 151) (cy 0) 5 (u.2.2 1), zI (q1 152) (cy 0) 40 (u.2.2 2)]
def GQ9 (cy : Nat → ClassId) (kk mm ao : Nat) (q1 q2 : Nat → Nat) (u : SV) : va_W := [zO (q1 111) 1 [vR (q1 153), vI (u.2.1 0), vR (q1 154), vR (q1 155)], zI (q1 153) (cy 0) 600 (u.2.2 0), zI (q1 154) (cy 0) 5 (u.2.2 1), zI (q1 155) (cy 0) 40 (u.2.2 2)]
def GQ10 (cy : Nat → ClassId) (kk mm ao : Nat) (q1 q2 : Nat → Nat) (u : SV) : va_W := [zO (q1 112) 1 [vR (q1 156), vI (u.2.1 0), vR (q1 157), vR (q1 158)], zI (q1 156) (cy 0) 600 (u.2.2 0), zI (q1 157) (cy 0) 5 (u.2.2 1), zI (q1 158) (cy 0) 40 (u.2.2 2)]
def GQ11 (cy : Nat → ClassId) (kk mm ao : Nat) (q1 q2 : Nat → Nat) (u : SV) : va_W := [zO (q1 113) 1 [vR (q1 159), vI (u.2.1 0), vR (q1 160), vR (q1 161)], zI (q1 159) (cy 0) 600 (u.2.2 0), zI (q1 160) (cy 0) 5 (u.2.2 1), zI (q1 161) (cy 0) 40 (u.2.2 2)]
def GQ12 (cy : Nat → ClassId) (kk mm ao : Nat) (q1 q2 : Nat → Nat) (u : SV) : va_W := [zO (u.1 0) 6 [vI (u.2.1 0), vI (u.2.1 1), vR (u.1 1), vR (u.1 2), vI (u.2.1 2), vI (u.2.1 3), vR (u.1 3), vI (u.2.1 4), vR (u.1 4), vI (u.2.1 5), vI (u.2.1 6), vR (u.1 5), vI (u.2.1 7), vR (u.1 6), vI (u.2.1 8), vI (u.2.1 9), vI (u.2.1 10), vI (u.2.1 11), vI (u.2.1 12)], zI (u.1 1) (cy 0) 96 (u.2.2 0), zI (u.1 2) (cy 0) 96 (u.2.2 1), zI (u.1 3) (cy 0) 56 (u.2.2 2), zI (u.1 4) (cy 0) 112 (u.2.2 3), zI (u.1 5) (cy 0) 4 (u.2.2 4), zI (u.1 6) (cy 0) 40 (u.2.2 5)]
def GQ13 (cy : Nat → ClassId) (kk mm ao : Nat) (q1 q2 : Nat → Nat) (u : SV) : va_W := [zO (u.1 0) 6 [vI (u.2.1 0), vI (u.2.1 1), vR (u.1 1), vR (u.1 2), vI (u.2.1 2), vI (u.2.1 3), vR (u.1 3), vI (u.2.1 4), vR (u.1 4), vI (u.2.1 5), vI (u.2.1 6), vR (u.1 5), vI (u.2.1 7), vR (u.1 6), vI (u.2.1 8), vI (u.2.1 9), vI (u.2.1 10), vI (u.2.1 11), vI (u.2.1 12)], zI (u.1 1) (cy 0) 96 (u.2.2 0), zI (u.1 2) (cy 0) 96 (u.2.2 1), zI (u.1 3) (cy 0) 56 (u.2.2 2), zI (u.1 4) (cy 0) 112 (u.2.2 3), zI (u.1 5) (cy 0) 4 (u.2.2 4), zI (u.1 6) (cy 0) 40 (u.2.2 5)]
def GQ14 (cy : Nat → ClassId) (kk mm ao : Nat) (q1 q2 : Nat → Nat) (u : SV) : va_W := [zO (q1 7) 4 [vI (u.2.1 0), vR (q1 41), vI (u.2.1 1), vR (q1 42), vR (q1 43)], zI (q1 41) (cy 0) 100 (u.2.2 0), zI (q1 42) (cy 0) 27 (u.2.2 1), zI (q1 43) (cy 0) 4 (u.2.2 2)]
def GQ15 (cy : Nat → ClassId) (kk mm ao : Nat) (q1 q2 : Nat → Nat) (u : SV) : va_W := [zQ (q1 8) (cy 3) 3 (fun k => some (q1 (120 + k))), zQ (q1 9) (cy 6) 3 (fun k => some (q1 (130 + k)))]
def GQ16 (cy : Nat → ClassId) (kk mm ao : Nat) (q1 q2 : Nat → Nat) (u : SV) : va_W := [zO (q1 120) 6 [vI (u.2.1 0), vI (u.2.1 1), vR (q1 170), vR (q1 171), vI (u.2.1 2), vI (u.2.1 3), vR (q1 172), vI (u.2.1 4), vR (q1 173), vI (u.2.1 5), vI (u.2.1 6), vR (q1 174), vI (u.2.1 7), vR (q1 175), vI (u.2.1 8), vI (u.2.1 9), vI (u.2.1 10), vI (u.2.1 11), vI (u.2.1 12)], zI (q1 170) (cy 0) 96 (u.2.2 0), zI (q1 171) (cy 0) 96 (u.2.2 1), zI (q1 172) (cy 0) 56 (u.2.2 2), zI (q1 173) (cy 0) 112 (u.2.2 3), zI (q1 174) (cy 0) 4 (u.2.2 4), zI (q1 175) (cy 0) 40 (u.2.2 5)]
def GQ17 (cy : Nat → ClassId) (kk mm ao : Nat) (q1 q2 : Nat → Nat) (u : SV) : va_W := [zO (q1 121) 6 [vI (u.2.1 0), vI (u.2.1 1), vR (q1 176), vR (q1 177), vI (u.2.1 2), vI (u.2.1 3), vR (q1 178), vI (u.2.1 4), vR (q1 179), vI (u.2.1 5), vI (u.2.1 6), vR (q1 180), vI (u.2.1 7), vR (q1 181), vI (u.2.1 8), vI (u.2.1 9), vI (u.2.1 10), vI (u.2.1 11), vI (u.2.1 12)], zI (q1 176) (cy 0) 96 (u.2.2 0), zI (q1 177) (cy 0) 96 (u.2.2 1), zI (q1 178) (cy 0) 56 (u.2.2 2), zI (q1 179) (cy 0) 112 (u.2.2 3), zI (q1 180) (cy 0) 4 (u.2.2 4), zI (q1 181) (cy 0) 40 (u.2.2 5)]
def GQ18 (cy : Nat → ClassId) (kk mm ao : Nat) (q1 q2 : Nat → Nat) (u : SV) : va_W := [zO (q1 122) 6 [vI (u.2.1 0), vI (u.2.1 1), vR (q1 182), vR (q1 183), vI (u.2.1 2), vI (u.2.1 3), vR (q1 184), vI (u.2.1 4), vR (q1 185), vI (u.2.1 5), vI (u.2.1 6), vR (q1 186), vI (u.2.1 7), vR (q1 187), vI (u.2.1 8), vI (u.2.1 9), vI (u.2.1 10), vI (u.2.1 11), vI (u.2.1 12)], zI (q1 182) (cy 0) 96 (u.2.2 0), zI (q1 183) (cy 0) 96 (u.2.2 1), zI (q1 184) (cy 0) 56 (u.2.2 2), zI (q1 185) (cy 0) 112 (u.2.2 3), zI (q1 186) (cy 0) 4 (u.2.2 4), zI (q1 187) (cy 0) 40 (u.2.2 5)]
def GQ19 (cy : Nat → ClassId) (kk mm ao : Nat) (q1 q2 : Nat → Nat) (u : SV) : va_W := [zO (q1 130) 4 [vI (u.2.1 0), vR (q1 190), vI (u.2.1 1), vR (q1 191), vR (q1 192)], zI (q1 190) (cy 0) 100 (u.2.2 0), zI (q1 191) (cy 0) 27 (u.2.2 1), zI (q1 192) (cy 0) 4 (u.2.2 2)]
def GQ20 (cy : Nat → ClassId) (kk mm ao : Nat) (q1 q2 : Nat → Nat) (u : SV) : va_W := [zO (q1 131) 4 [vI (u.2.1 0), vR (q1 193), vI (u.2.1 1), vR (q1 194), vR (q1 195)], zI (q1 193) (cy 0) 100 (u.2.2 0), zI (q1 194) (cy 0) 27 (u.2.2 1), zI (q1 195) (cy 0) 4 (u.2.2 2)]
def GQ21 (cy : Nat → ClassId) (kk mm ao : Nat) (q1 q2 : Nat → Nat) (u : SV) : va_W := [zO (q1 132) 4 [vI (u.2.1 0), vR (q1 196), vI (u.2.1 1), vR (q1 197), vR (q1 198)], zI (q1 196) (cy 0) 100 (u.2.2 0), zI (q1 197) (cy 0) 27 (u.2.2 1), zI (q1 198) (cy 0) 4 (u.2.2 2)]
def GQ22 (cy : Nat → ClassId) (kk mm ao : Nat) (q1 q2 : Nat → Nat) (u : SV) : va_W := [zO (q1 11) 9 [vR (q1 60), vR (q1 67), vR (q1 69), vI (u.2.1 0), vI (u.2.1 1)]]
def GQ23 (cy : Nat → ClassId) (kk mm ao : Nat) (q1 q2 : Nat → Nat) (u : SV) : va_W := [zO (q1 60) 6 [vI (u.2.1 0), vI (u.2.1 1), vR (q1 61), vR (q1 62), vI (u.2.1 2), vI (u.2.1 3), vR (q1 63), vI (u.2.1 4), vR (q1 64), vI (u.2.1 5), vI (u.2.1 6), vR (q1 65), vI (u.2.1 7), vR (q1 66), vI (u.2.1 8), vI (u.2.1 9), vI (u.2.1 10), vI (u.2.1 11), vI (u.2.1 12)], zI (q1 61) (cy 0) 96 (u.2.2 0), zI (q1 62) (cy 0) 96 (u.2.2 1), zI (q1 63) (cy 0) 56 (u.2.2 2), zI (q1 64) (cy 0) 112 (u.2.2 3), zI (q1 65) (cy 0) 4 (u.2.2 4), zI (q1 66) (cy 0) 40 (u.2.2 5)]
def GQ24 (cy : Nat → ClassId) (kk mm ao : Nat) (q1 q2 : Nat → Nat) (u : SV) : va_W := [zO (q1 67) 0 [vR (q1 68), vI (u.2.1 0), vI (u.2.1 1), vI (u.2.1 2), vI (u.2.1 3), vI (u.2.1 4), vI (u.2.1 5)], zI (q1 68) (cy 0) 7 (u.2.2 0)]
def GQ25 (cy : Nat → ClassId) (kk mm ao : Nat) (q1 q2 : Nat → Nat) (u : SV) : va_W := [zI (q1 69) (cy 0) 1344 (u.2.2 0)]
def GQ26 (cy : Nat → ClassId) (kk mm ao : Nat) (q1 q2 : Nat → Nat) (u : SV) : va_W := [zO (q1 12) 3 [vI (u.2.1 0), vI (u.2.1 1), vI (u.2.1 2), vR (q1 80)], zI (q1 80) (cy 0) 512 (u.2.2 0)]
def GQ27 (cy : Nat → ClassId) (kk mm ao : Nat) (q1 q2 : Nat → Nat) (u : SV) : va_W := [zO mm 12 [vI (u.2.1 0), vR (q2 1), vI (u.2.1 1), vI (u.2.1 2), vI (u.2.1 3), vI (u.2.1 4), vI (u.2.1 5), vI (u.2.1 6), vI (u.2.1 7), vR (q2 9), vR (q2 10), vR (q2 11), vR (q2 12), vR (q2 13), vR (q2 14), vR (q2 15), vI (u.2.1 8), vI (u.2.1 9), vI (u.2.1 10), vR (q2 19), vR (q2 20), vR (q2 21), vI (u.2.1 11), vR (q2 23), vR (q2 24), vR (q2 25), vR (q2 26), vR (q2 27), vR (q2 28), vI (u.2.1 12), vI (u.2.1 13), vI (u.2.1 14), vI (u.2.1 15), vR (q2 33), vI (u.2.1 16), vR (q2 35), vI (u.2.1 17), vI (u.2.1 18)]]
def GQ28 (cy : Nat → ClassId) (kk mm ao : Nat) (q1 q2 : Nat → Nat) (u : SV) : va_W := [zI (q2 1) (cy 0) 4 (u.2.2 0)]
def GQ29 (cy : Nat → ClassId) (kk mm ao : Nat) (q1 q2 : Nat → Nat) (u : SV) : va_W := [zI (q2 9) (cy 0) 600 (u.2.2 0)]
def GQ30 (cy : Nat → ClassId) (kk mm ao : Nat) (q1 q2 : Nat → Nat) (u : SV) : va_W := [zI (q2 10) (cy 0) 68 (u.2.2 0)]
def GQ31 (cy : Nat → ClassId) (kk mm ao : Nat) (q1 q2 : Nat → Nat) (u : SV) : va_W := [zI (q2 11) (cy 0) 68 (u.2.2 0), zI (q2 13) (cy 0) 389 (u.2.2 1)]
def GQ32 (cy : Nat → ClassId) (kk mm ao : Nat) (q1 q2 : Nat → Nat) (u : SV) : va_W := [zI (q2 12) (cy 0) 389 (u.2.2 0)]
def GQ33 (cy : Nat → ClassId) (kk mm ao : Nat) (q1 q2 : Nat → Nat) (u : SV) : va_W := [zI (q2 14) (cy 0) 389 (u.2.2 0)]
def GQ34 (cy : Nat → ClassId) (kk mm ao : Nat) (q1 q2 : Nat → Nat) (u : SV) : va_W := [zI (q2 15) (cy 0) 1167 (u.2.2 0)]
def GQ35 (cy : Nat → ClassId) (kk mm ao : Nat) (q1 q2 : Nat → Nat) (u : SV) : va_W := [zI (q2 19) (cy 0) 4 (u.2.2 0), zI (q2 20) (cy 0) 32 (u.2.2 1), zI (q2 21) (cy 0) 32 (u.2.2 2)]
def GQ36 (cy : Nat → ClassId) (kk mm ao : Nat) (q1 q2 : Nat → Nat) (u : SV) : va_W := [zI (q2 23) (cy 0) 2480 (u.2.2 0), zI (q2 24) (cy 0) 2480 (u.2.2 1), zI (q2 25) (cy 0) 20 (u.2.2 2), zI (q2 26) (cy 0) 20 (u.2.2 3)]
def GQ37 (cy : Nat → ClassId) (kk mm ao : Nat) (q1 q2 : Nat → Nat) (u : SV) : va_W := [zI (q2 27) (cy 0) 620 (u.2.2 0), zI (q2 28) (cy 0) 7 (u.2.2 1)]
def GQ38 (cy : Nat → ClassId) (kk mm ao : Nat) (q1 q2 : Nat → Nat) (u : SV) : va_W := [zI (q2 33) (cy 0) 1344 (u.2.2 0)]
def GQ39 (cy : Nat → ClassId) (kk mm ao : Nat) (q1 q2 : Nat → Nat) (u : SV) : va_W := [zI (q2 35) (cy 0) 512 (u.2.2 0)]
def GQ (cy : Nat → ClassId) (kk mm ao : Nat) (q1 q2 : Nat → Nat) (i : Nat) (u : SV) : va_W := (([fun _ => [], GQ1 cy kk mm ao q1 q2, GQ2 cy kk mm ao q1 q2, GQ3 cy kk mm ao q1 q2, GQ4 cy kk mm ao q1 q2, GQ5 cy kk mm ao q1 q2, GQ6 cy kk mm ao q1 q2, GQ7 cy kk mm ao q1 q2, GQ8 cy kk mm ao q1 q2, GQ9 cy kk mm ao q1 q2, GQ10 cy kk mm ao q1 q2, GQ11 cy kk mm ao q1 q2, GQ12 cy kk mm ao q1 q2, GQ13 cy kk mm ao q1 q2, GQ14 cy kk mm ao q1 q2, GQ15 cy kk mm ao q1 q2, GQ16 cy kk mm ao q1 q2, GQ17 cy kk mm ao q1 q2, GQ18 cy kk mm ao q1 q2, GQ19 cy kk mm ao q1 q2, GQ20 cy kk mm ao q1 q2, GQ21 cy kk mm ao q1 q2, GQ22 cy kk mm ao q1 q2, GQ23 cy kk mm ao q1 q2, GQ24 cy kk mm ao q1 q2, GQ25 cy kk mm ao q1 q2, GQ26 cy kk mm ao q1 q2, GQ27 cy kk mm ao q1 q2, GQ28 cy kk mm ao q1 q2, GQ29 cy kk mm ao q1 q2, GQ30 cy kk mm ao q1 q2, GQ31 cy kk mm ao q1 q2, GQ32 cy kk mm ao q1 q2, GQ33 cy kk mm ao q1 q2, GQ34 cy kk mm ao q1 q2, GQ35 cy kk mm ao q1 q2, GQ36 cy kk mm ao q1 q2, GQ37 cy kk mm ao q1 q2, GQ38 cy kk mm ao q1 q2, GQ39 cy kk mm ao q1 q2] : List (SV → va_W)).getD i (fun _ => [])) u
def GW (cy : Nat → ClassId) (kk mm ao : Nat) (q1 q2 : Nat → Nat) (u : Nat → SV) (i : Nat) : va_W := cond (Nat.beq i 0) (KG cy kk mm ao q1 q2 u) (GQ cy kk mm ao q1 q2 i (u i))
/-- the world of some groups -/
def LWG (G : Nat → va_W) : List Nat → va_W
  | [] => []
  | i :: is => G i ++ LWG G is
def LW (cy : Nat → ClassId) (kk mm ao : Nat) (q1 q2 : Nat → Nat) (u : Nat → SV) : va_W := LWG (GW cy kk mm ao q1 q2 u) [0, 1, 2, 3, 4, 5, 6, 7, 8, 9, 10, 11, 12, 13, 14, 15, 16, 17, 18, 19, 20, 21, 22, 23, 24, 25, 26, 27, 28, 29, 30, 31, 32, 33, 34, 35, 36, 37, 38, 39]
theorem LWG_app (G : Nat → va_W) : ∀ a b : List Nat, LWG G (a ++ b) = LWG G a ++ LWG G b
  | [], _ => rfl
  | i :: a, b => by
    show G i ++ LWG G (a ++ b) = (G i ++ LWG G a) ++ LWG G b
    rw [LWG_app G a b, List.append_assoc]
theorem LWG_perm (G : Nat → va_W) {a b : List Nat} (h : a.Perm b) : (LWG G a).Perm (LWG G b) := by
  induction h with
  | nil => exact List.Perm.refl _
  | cons i _ ih => exact List.Perm.append_left (G i) ih
  | swap i j l =>
    show (G j ++ (G i ++ LWG G l)).Perm (G i ++ (G j ++ LWG G l))
    rw [← List.append_assoc, ← List.append_assoc]
    exact List.Perm.append_right _ List.perm_append_comm
  | trans _ _ h1 h2 => exact h1.trans h2
theorem LWG_congr {G K : Nat → va_W} : ∀ is : List Nat, (∀ i ∈ is, G i = K i) → LWG G is = LWG K is
  | [], _ => rfl
  | i :: is, h => by
    show G i ++ LWG G is = K i ++ LWG K is
    rw [h i List.mem_cons_self, LWG_congr is (fun j hj => h j (List.mem_cons_of_mem _ hj))]
theorem va_P.perm {D : va_G} {cl : List vw_C} {a b : va_W} {H : Heap} (p : a.Perm b) (h : va_P D cl a H) : va_P D cl b H := by
  intro k q hk
  obtain ⟨i, hi⟩ := List.getElem?_of_mem (p.mem_iff.mpr (List.mem_of_getElem? hk))
  exact h i q hi
theorem va_D.nodup {A : Nat → Prop} {a : va_W} (h : va_D A a) : (a.map Prod.fst).Nodup := by
  unfold List.Nodup
  rw [List.pairwise_iff_getElem]
  intro i j hi hj hij e
  have h1 : i < a.length := by simpa using hi
  have h2 : j < a.length := by simpa using hj
  have := h.1 i j a[i] a[j] (List.getElem?_eq_getElem h1) (List.getElem?_eq_getElem h2) (by simpa using e)
  omega
theorem va_D.perm {A : Nat → Prop} {a b : va_W} (p : a.Perm b) (h : va_D A a) : va_D A b := by
  have hn : (b.map Prod.fst).Nodup := (p.map Prod.fst).nodup_iff.mp h.nodup
  unfold List.Nodup at hn
  rw [List.pairwise_iff_getElem] at hn
  refine ⟨fun i j x y hx hy e => ?_, fun k q hk => ?_⟩
  · obtain ⟨hi, rfl⟩ := List.getElem?_eq_some_iff.mp hx
    obtain ⟨hj, rfl⟩ := List.getElem?_eq_some_iff.mp hy
    rcases Nat.lt_trichotomy i j with q | q | q
    · exact absurd (by rw [List.getElem_map, List.getElem_map]; exact e) (hn i j (by simpa using hi) (by simpa using hj) q)
    · exact q
    · exact absurd (by rw [List.getElem_map, List.getElem_map]; exact e.symm) (hn j i (by simpa using hj) (by simpa using hi) q)
  · obtain ⟨i, hi⟩ := List.getElem?_of_mem (p.mem_iff.mpr (List.mem_of_getElem? hk))
    exact h.2 i q hi
theorem va_P.left {D : va_G} {cl : List vw_C} {a b : va_W} {H : Heap} (h : va_P D cl (a ++ b) H) : va_P D cl a H := by
  intro k q hk
  exact h k q (by rw [List.getElem?_append_left (List.getElem?_eq_some_iff.mp hk).1]; exact hk)
theorem va_D.left {A : Nat → Prop} {a b : va_W} (h : va_D A (a ++ b)) : va_D A a :=
  ⟨fun i j p q hi hj e => h.1 i j p q (by rw [List.getElem?_append_left (List.getElem?_eq_some_iff.mp hi).1]; exact hi) (by rw [List.getElem?_append_left (List.getElem?_eq_some_iff.mp hj).1]; exact hj) e, fun k q hk => h.2 k q (by rw [List.getElem?_append_left (List.getElem?_eq_some_iff.mp hk).1]; exact hk)⟩
theorem lw_open {D : va_G} {cl : List vw_C} {A : Nat → Prop} {G : Nat → va_W} {H : Heap} {ids : List Nat} (tt oo : List Nat) (p : ids.Perm (tt ++ oo)) (hP : va_P D cl (LWG G ids) H) (hD : va_D A (LWG G ids)) : va_P D cl (LWG G tt ++ LWG G oo) H ∧ va_D A (LWG G tt ++ LWG G oo) := by
  rw [← LWG_app]
  exact ⟨hP.perm (LWG_perm G p), hD.perm (LWG_perm G p)⟩
theorem lw_close {D : va_G} {cl : List vw_C} {A : Nat → Prop} {G : Nat → va_W} {H : Heap} {ids : List Nat} {X pl : va_W} (tt oo : List Nat) (p : (tt ++ oo).Perm ids) (is : List Nat) (hn : va_nd is = true) (hs : is.map (fun i => X[i]?) = (LWG G tt).map some) (hpl : pl = LWG G oo) (hP : va_P D cl (X ++ pl) H) (hD : va_D A (X ++ pl)) : va_P D cl (LWG G ids) H ∧ va_D A (LWG G ids) := by
  have h1 := va_P.part hP is hs
  have h2 := hD.part is hn hs
  rw [hpl, ← LWG_app] at h1 h2
  exact ⟨h1.perm (LWG_perm G p), h2.perm (LWG_perm G p)⟩
/-- some groups anew -/
def ups (u : Nat → SV) : List Nat → List SV → Nat → SV
  | t :: ts, v :: vs, i => cond (Nat.beq i t) v (ups u ts vs i)
  | _, _, i => u i
def upsP (P : Nat → SV → Prop) : List Nat → List SV → Prop
  | t :: ts, v :: vs => P t v ∧ upsP P ts vs
  | _, _ => True
theorem ups_all {P : Nat → SV → Prop} {u : Nat → SV} (h : ∀ i, P i (u i)) : ∀ (ts : List Nat) (vs : List SV), upsP P ts vs → ∀ i, P i (ups u ts vs i)
  | [], _, _, i => h i
  | _ :: _, [], _, i => h i
  | t :: ts, v :: vs, q, i => by
    show P i (cond (Nat.beq i t) v (ups u ts vs i))
    by_cases e : i = t
    · subst e
      rw [Nat.beq_refl]
      exact q.1
    · have : Nat.beq i t = false := by
        cases hb : Nat.beq i t
        · rfl
        · exact absurd (Nat.eq_of_beq_eq_true hb) e
      rw [this]
      exact ups_all h ts vs q.2 i
theorem ups_ne {u : Nat → SV} {i : Nat} : ∀ (ts : List Nat) (vs : List SV), i ∉ ts → ups u ts vs i = u i
  | [], _, _ => rfl
  | _ :: _, [], _ => rfl
  | t :: ts, v :: vs, q => by
    show cond (Nat.beq i t) v (ups u ts vs i) = u i
    have : Nat.beq i t = false := by
      cases hb : Nat.beq i t
      · rfl
      · exact absurd (Nat.eq_of_beq_eq_true hb) (fun e => q (e ▸ List.mem_cons_self))
    rw [this]
    exact ups_ne ts vs (fun h => q (List.mem_cons_of_mem _ h))
theorem GW_ups (cy : Nat → ClassId) (kk mm ao : Nat) (q1 q2 : Nat → Nat) (u : Nat → SV) (ts : List Nat) (vs : List SV) (oo : List Nat) (h : (oo.all fun i => !(i == 0) && !(ts.contains i)) = true) : LWG (GW cy kk mm ao q1 q2 u) oo = LWG (GW cy kk mm ao q1 q2 (ups u ts vs)) oo := by
  refine LWG_congr oo (fun i hi => ?_)
  have h1 := List.all_eq_true.mp h i hi
  have h2 : i ≠ 0 ∧ i ∉ ts := by simpa using h1
  have h3 : Nat.beq i 0 = false := by
    cases hb : Nat.beq i 0
    · rfl
    · exact absurd (Nat.eq_of_beq_eq_true hb) h2.1
  unfold GW
  rw [h3, ups_ne ts vs h2.2]
  rfl
section CJP
variable {p : Program} {l : Launch} {e : Env} {R : Room} {s : State} {m : MethodId} {args : Array Value} {below : List Frame} {meth : Method} {c : Code} {H : Heap} {locs : List Loc} {cells slots : Nat} {Q : State → Prop} {pc : Nat} {ls : Array Slot} {rest st0 : List Value} {a : Array Value} {A : Nat → Prop} {mc ms : Nat} {D : va_G} {ws wc wr pl : va_W}
theorem cjP_i {S : Type} {post : Int32 → S → Prop} {wB : S → va_W} (hr : va_Run p l e R s m args below meth c H locs cells slots mc ms (F0 m pc ls st0) rest (va_Qi post (fun u t => atW D (va_A wc H.size) (wB u) t) (va_A wc H.size) a) (va_A wc H.size))
    (hP : va_P D vwCl (ws ++ pl) H) (hD : va_D A (ws ++ pl)) (hS : va_S A s.heap H locs) (hA : ∀ q, s.heap.size ≤ q → A q) (isC isR : List Nat) (hC : isC.map (fun i => ws[i]?) = wc.map some) (hR : isR.map (fun i => ws[i]?) = wr.map some) (hn : va_nd isR = true) (hdis : ∀ i ∈ isR, i ∉ isC)
    (kk : ∀ (r : Int32) (u : S) (H1 : Heap) (locs1 : List Loc), post r u → va_P D vwCl ((wr ++ wB u) ++ pl) H1 → va_D A ((wr ++ wB u) ++ pl) → va_S A s.heap H1 locs1 → W p l e R s m args below meth c H1 locs1 (cells + mc) (slots + ms) Q (F0 m (pc + 3) ls (.int r :: rest))) : W p l e R s m args below meth c H locs cells slots Q (F0 m pc ls st0) := by
  have hF := va_free hD.left hS hA isC hC
  refine va_calli hr hS (fun q _ h => hF q h) hF (fun r u t H1 locs1 ht hvm hw hB hz hk hS1 => ?_)
  obtain ⟨hP1, hD1⟩ := hB
  rw [ht] at hP1
  obtain ⟨hP2, hD2⟩ := va_joinQ hP hD isC isR hC hR hn hdis hk hF hP1 hD1
  exact kk r u H1 locs1 hw hP2 hD2 hS1
end CJP
theorem ix_in {i z k : Int} {L : Nat} (hi : 0 ≤ i ∧ i ≤ (L : Int) - 10) (hz : z = i + k) (hk : 0 ≤ k ∧ k ≤ 9) : 0 ≤ z ∧ z < (L : Int) := by omega
theorem ln_in {L : Nat} (h : L ≤ 5120) : L ≤ 2147483647 := by omega
section C9P
variable {p : Program} {l : Launch} {e : Env} {R : Room} {s : State} {m : MethodId} {args : Array Value} {below : List Frame} {meth : Method} {c : Code} {H : Heap} {locs : List Loc} {cells slots mc ms : Nat} {Q : State → Prop} {pc : Nat} {ls : Array Slot} {st0 rest : List Value} {a : Array Value} {D : va_G} {A : Nat → Prop} {ws wc pl : va_W} {cy : Nat → ClassId} {sa : Nat → Nat} {av : List Value}
theorem cjrP_i {S : Type} {post : Int32 → S → Prop} {wB : S → va_W} (bs : List Bool) (hr : (∀ U : State, U.heap = H → s.WarmedH U.vm → va_Pc av (pcW D cy sa H.size wc) av.toArray U) → va_Run p l e R s m args below meth c H locs cells slots mc ms (F0 m pc ls st0) rest (va_Qi post (fun u t => atW D (va_A wc H.size) (wB u) t) (va_A wc H.size) a) (va_A wc H.size)) (hP : va_P D vwCl (ws ++ pl) H) (hD : va_D A (ws ++ pl)) (hS : va_S A s.heap H locs) (hA : ∀ q, s.heap.size ≤ q → A q) (hG : GC D cy sa s) (hT : TH sa A s s.heap) (isC : List Nat) (hC : isC.map (fun i => ws[i]?) = wc.map some) (hd : dj9 bs isC = true)
    (kk : ∀ (r : Int32) (u : S) (H1 : Heap) (locs1 : List Loc), post r u → PD9 D A ((pm9 ws bs ++ wB u) ++ pl) H1 → va_S A s.heap H1 locs1 → W p l e R s m args below meth c H1 locs1 (cells + mc) (slots + ms) Q (F0 m (pc + 3) ls (.int r :: rest))) : W p l e R s m args below meth c H locs cells slots Q (F0 m pc ls st0) :=
  cjP_i (hr (pcW.mk hP.left hD.left hS hA hG hT isC hC (dj9_nd hd))) hP hD hS hA isC (ix9 0 ws bs) hC (ix9_map ws bs []) (ix9_nd ws bs 0) (dj9_dis hd) (fun r u H1 locs1 h1 h2 h3 h4 => kk r u H1 locs1 h1 ⟨h2, h3⟩ h4)
end C9P
theorem lw_openE {D : va_G} {cl : List vw_C} {A : Nat → Prop} {G : Nat → va_W} {H : Heap} {ids : List Nat} (tt oo : List Nat) (p : ids.Perm (tt ++ oo)) (hP : va_P D cl (LWG G ids) H) (hD : va_D A (LWG G ids)) : ∃ pl : va_W, pl = LWG G oo ∧ va_P D cl (LWG G tt ++ pl) H ∧ va_D A (LWG G tt ++ pl) := ⟨_, rfl, lw_open tt oo p hP hD⟩
theorem ofN_i (n : Nat) : Int32.ofNat n = iI (n : Int) := iI_nI n
end
section

/-! THE CLAIM OUT OF ONE WALK OF THE LAW'S BODY. Your part is whole_start (and what it stands on); all else here is the same for every law, but numbers. -/
def R_law : String := "KerbSplashLaw"
def lw_P (b : Addr) (xs : List Int32) (args : Array Value) (s : State) : Prop := args = #[.ref b] ∧ s.IntsAt b xs ∧ xs.length ≤ 5120 ∧ (Jvm.Cond.and given_1 narrow_1).before args s = true
def lw_Q (_ : Array Value) (s : State) (o : Outcome) (t : State) : Prop := o = .returned (some (.int 1)) ∧ Framed s o t [] 601024 7293034
def lw_Z (below : List Frame) (a : Array Value) (s : State) : State → Prop := fun t => ∃ o, t.status = .running ∧ Ended t below o ∧ lw_Q a s o t
/-- the law's own end, with 1 on the stack, nothing written that was there before, its room as the claim has it -/
theorem lw_ret {p : Program} {l : Launch} {e : Env} {s : State} {m : MethodId} {below : List Frame} {meth : Method} {c : Code} {b : Nat} (hx : p.tables.exec = Jvm.exec) (hb : c.code = code) (hr : meth.sig.returnType = ret) (hlocks : meth.locks = false) {pc : Nat} {H : Heap} {ls : Array Slot} (hdg : decode code pc = .ok (.ireturn, 1)) : W p l e room_1 s m #[Value.ref b] below meth c H [] 601024 7293034 (lw_Z below #[Value.ref b] s) (F0 m pc ls [.int 1]) := by
  intro T hT X
  obtain ⟨fs, hret, hrun, hended, hW, hframe⟩ := X.leave (v := some (.int 1)) (hlocks := hlocks) (fun h => by rw [hr] at h; cases h)
  have hmeth' : T.vm.method? m = some meth := X.method'
  refine ⟨T.setFrames fs, ?_, .returned (some (.int 1)), hrun, hended, rfl, ⟨_, rfl⟩, hW, hframe⟩
  jvm_step X.here [X.here.top, hx, hb, hdg, hmeth', hr, ret, narrow_b1]
  (try refine ⟨rfl, ?_⟩); (try refine ⟨rfl, ?_⟩)
  first | (intro acts; rw [hret _ acts rfl rfl rfl]) | rw [hret _ _ rfl rfl rfl]
  exact Steps.refl _
/-- what holds at the law's entry: the machine, the code, the tables' words (any of lw_tbl by 'hts w (by decide +kernel)'), the script of L ints xs at the cell b, what the Statement gives of the start (any of its parts by flat_of_before) -/
def lw_At (p : Program) (s : State) (m : MethodId) (meth : Method) (c : Code) (b L : Nat) (xs : Nat → Int32) : Prop :=
  p.tables.exec = Jvm.exec ∧ c.code = code ∧ meth.sig.returnType = ret ∧ c.maxLocals = 7 ∧ s.vm.findClass R_law = some m.cls ∧ (∀ w ∈ lw_tbl, w.before #[Value.ref b] s = true) ∧ va_X b L xs s s.heap ∧ b < s.heap.size ∧ meth.locks = false ∧ (Jvm.Cond.and given_1 narrow_1).before #[Value.ref b] s = true
set_option maxRecDepth 1000000 in
theorem inX0 : ∀ w ∈ wsX00, w ∈ lw_tbl := by
  intro w hw
  obtain ⟨k, hk, rfl⟩ := List.mem_map.mp hw
  have hk := List.mem_range.mp hk
  match k, hk with
  | 0, _ => exact mb_1 _ (List.mem_of_getElem? (i := 237) rfl)
  | 1, _ => exact mb_1 _ (List.mem_of_getElem? (i := 239) rfl)
  | 2, _ => exact mb_2 _ (List.mem_of_getElem? (i := 1) rfl)
  | 3, _ => exact mb_2 _ (List.mem_of_getElem? (i := 3) rfl)
  | 4, _ => exact mb_2 _ (List.mem_of_getElem? (i := 5) rfl)
  | 5, _ => exact mb_2 _ (List.mem_of_getElem? (i := 7) rfl)
  | 6, _ => exact mb_2 _ (List.mem_of_getElem? (i := 9) rfl)
  | k + 7, h => exact absurd h (by omega)
set_option maxRecDepth 1000000 in
theorem inX1 : ∀ w ∈ wsX10, w ∈ lw_tbl := by
  intro w hw
  obtain ⟨k, hk, rfl⟩ := List.mem_map.mp hw
  have hk := List.mem_range.mp hk
  match k, hk with
  | 0, _ => exact mb_2 _ (List.mem_of_getElem? (i := 78) rfl)
  | 1, _ => exact mb_2 _ (List.mem_of_getElem? (i := 80) rfl)
  | 2, _ => exact mb_2 _ (List.mem_of_getElem? (i := 82) rfl)
  | 3, _ => exact mb_2 _ (List.mem_of_getElem? (i := 84) rfl)
  | k + 4, h => exact absurd h (by omega)
set_option maxRecDepth 1000000 in
theorem inX2 : ∀ w ∈ wsX20, w ∈ lw_tbl := by
  intro w hw
  obtain ⟨k, hk, rfl⟩ := List.mem_map.mp hw
  have hk := List.mem_range.mp hk
  match k, hk with
  | 0, _ => exact mb_4 _ (List.mem_of_getElem? (i := 43) rfl)
  | 1, _ => exact mb_4 _ (List.mem_of_getElem? (i := 45) rfl)
  | 2, _ => exact mb_4 _ (List.mem_of_getElem? (i := 47) rfl)
  | k + 3, h => exact absurd h (by omega)
set_option maxRecDepth 1000000 in
theorem inX3 : ∀ w ∈ wsX30, w ∈ lw_tbl := by
  intro w hw
  obtain ⟨k, hk, rfl⟩ := List.mem_map.mp hw
  have hk := List.mem_range.mp hk
  match k, hk with
  | 0, _ => exact mb_2 _ (List.mem_of_getElem? (i := 42) rfl)
  | 1, _ => exact mb_2 _ (List.mem_of_getElem? (i := 44) rfl)
  | 2, _ => exact mb_2 _ (List.mem_of_getElem? (i := 46) rfl)
  | 3, _ => exact mb_2 _ (List.mem_of_getElem? (i := 48) rfl)
  | k + 4, h => exact absurd h (by omega)
set_option maxRecDepth 1000000 in
theorem inX4 : ∀ w ∈ wsX40, w ∈ lw_tbl := by
  intro w hw
  obtain ⟨k, hk, rfl⟩ := List.mem_map.mp hw
  have hk := List.mem_range.mp hk
  match k, hk with
  | 0, _ => exact mb_1 _ (List.mem_of_getElem? (i := 199) rfl)
  | 1, _ => exact mb_1 _ (List.mem_of_getElem? (i := 201) rfl)
  | 2, _ => exact mb_1 _ (List.mem_of_getElem? (i := 203) rfl)
  | 3, _ => exact mb_1 _ (List.mem_of_getElem? (i := 205) rfl)
  | 4, _ => exact mb_1 _ (List.mem_of_getElem? (i := 207) rfl)
  | k + 5, h => exact absurd h (by omega)
set_option maxRecDepth 1000000 in
theorem inX5 : ∀ w ∈ wsX50, w ∈ lw_tbl := by
  intro w hw
  obtain ⟨k, hk, rfl⟩ := List.mem_map.mp hw
  have hk := List.mem_range.mp hk
  match k, hk with
  | 0, _ => exact mb_2 _ (List.mem_of_getElem? (i := 62) rfl)
  | 1, _ => exact mb_2 _ (List.mem_of_getElem? (i := 64) rfl)
  | k + 2, h => exact absurd h (by omega)
set_option maxRecDepth 1000000 in
theorem inX6 : ∀ w ∈ wsX60, w ∈ lw_tbl := by
  intro w hw
  obtain ⟨k, hk, rfl⟩ := List.mem_map.mp hw
  have hk := List.mem_range.mp hk
  match k, hk with
  | 0, _ => exact mb_1 _ (List.mem_of_getElem? (i := 140) rfl)
  | 1, _ => exact mb_1 _ (List.mem_of_getElem? (i := 142) rfl)
  | 2, _ => exact mb_1 _ (List.mem_of_getElem? (i := 144) rfl)
  | 3, _ => exact mb_1 _ (List.mem_of_getElem? (i := 146) rfl)
  | 4, _ => exact mb_1 _ (List.mem_of_getElem? (i := 148) rfl)
  | 5, _ => exact mb_1 _ (List.mem_of_getElem? (i := 150) rfl)
  | 6, _ => exact mb_1 _ (List.mem_of_getElem? (i := 152) rfl)
  | 7, _ => exact mb_1 _ (List.mem_of_getElem? (i := 154) rfl)
  | 8, _ => exact mb_1 _ (List.mem_of_getElem? (i := 156) rfl)
  | 9, _ => exact mb_1 _ (List.mem_of_getElem? (i := 158) rfl)
  | 10, _ => exact mb_1 _ (List.mem_of_getElem? (i := 160) rfl)
  | 11, _ => exact mb_1 _ (List.mem_of_getElem? (i := 162) rfl)
  | 12, _ => exact mb_1 _ (List.mem_of_getElem? (i := 164) rfl)
  | 13, _ => exact mb_1 _ (List.mem_of_getElem? (i := 166) rfl)
  | 14, _ => exact mb_1 _ (List.mem_of_getElem? (i := 168) rfl)
  | 15, _ => exact mb_1 _ (List.mem_of_getElem? (i := 170) rfl)
  | 16, _ => exact mb_1 _ (List.mem_of_getElem? (i := 172) rfl)
  | 17, _ => exact mb_1 _ (List.mem_of_getElem? (i := 174) rfl)
  | 18, _ => exact mb_1 _ (List.mem_of_getElem? (i := 176) rfl)
  | k + 19, h => exact absurd h (by omega)
set_option maxRecDepth 1000000 in
theorem inX7 : ∀ w ∈ wsX70, w ∈ lw_tbl := by
  intro w hw
  obtain ⟨k, hk, rfl⟩ := List.mem_map.mp hw
  have hk := List.mem_range.mp hk
  match k, hk with
  | 0, _ => exact mb_3 _ (List.mem_of_getElem? (i := 37) rfl)
  | 1, _ => exact mb_3 _ (List.mem_of_getElem? (i := 39) rfl)
  | k + 2, h => exact absurd h (by omega)
set_option maxRecDepth 1000000 in
theorem inX8 : ∀ w ∈ wsX80, w ∈ lw_tbl := by
  intro w hw
  obtain ⟨k, hk, rfl⟩ := List.mem_map.mp hw
  have hk := List.mem_range.mp hk
  match k, hk with
  | 0, _ => exact mb_1 _ (List.mem_of_getElem? (i := 53) rfl)
  | 1, _ => exact mb_1 _ (List.mem_of_getElem? (i := 55) rfl)
  | 2, _ => exact mb_1 _ (List.mem_of_getElem? (i := 57) rfl)
  | 3, _ => exact mb_1 _ (List.mem_of_getElem? (i := 59) rfl)
  | 4, _ => exact mb_1 _ (List.mem_of_getElem? (i := 61) rfl)
  | 5, _ => exact mb_1 _ (List.mem_of_getElem? (i := 63) rfl)
  | 6, _ => exact mb_1 _ (List.mem_of_getElem? (i := 65) rfl)
  | k + 7, h => exact absurd h (by omega)
set_option maxRecDepth 1000000 in
theorem inX9 : ∀ w ∈ wsX90, w ∈ lw_tbl := by
  intro w hw
  obtain ⟨k, hk, rfl⟩ := List.mem_map.mp hw
  have hk := List.mem_range.mp hk
  match k, hk with
  | 0, _ => exact mb_2 _ (List.mem_of_getElem? (i := 18) rfl)
  | 1, _ => exact mb_2 _ (List.mem_of_getElem? (i := 20) rfl)
  | 2, _ => exact mb_2 _ (List.mem_of_getElem? (i := 22) rfl)
  | 3, _ => exact mb_2 _ (List.mem_of_getElem? (i := 24) rfl)
  | 4, _ => exact mb_2 _ (List.mem_of_getElem? (i := 26) rfl)
  | k + 5, h => exact absurd h (by omega)
theorem inX10 : ∀ w ∈ wsX100, w ∈ lw_tbl := by decide +kernel
set_option maxRecDepth 1000000 in
theorem inX11 : ∀ w ∈ wsX110, w ∈ lw_tbl := by
  intro w hw
  obtain ⟨k, hk, rfl⟩ := List.mem_map.mp hw
  have hk := List.mem_range.mp hk
  match k, hk with
  | 0, _ => exact mb_2 _ (List.mem_of_getElem? (i := 101) rfl)
  | 1, _ => exact mb_2 _ (List.mem_of_getElem? (i := 103) rfl)
  | 2, _ => exact mb_2 _ (List.mem_of_getElem? (i := 105) rfl)
  | 3, _ => exact mb_2 _ (List.mem_of_getElem? (i := 107) rfl)
  | 4, _ => exact mb_2 _ (List.mem_of_getElem? (i := 109) rfl)
  | 5, _ => exact mb_2 _ (List.mem_of_getElem? (i := 111) rfl)
  | 6, _ => exact mb_2 _ (List.mem_of_getElem? (i := 113) rfl)
  | 7, _ => exact mb_2 _ (List.mem_of_getElem? (i := 115) rfl)
  | 8, _ => exact mb_2 _ (List.mem_of_getElem? (i := 117) rfl)
  | 9, _ => exact mb_2 _ (List.mem_of_getElem? (i := 119) rfl)
  | 10, _ => exact mb_2 _ (List.mem_of_getElem? (i := 121) rfl)
  | 11, _ => exact mb_2 _ (List.mem_of_getElem? (i := 123) rfl)
  | 12, _ => exact mb_2 _ (List.mem_of_getElem? (i := 125) rfl)
  | 13, _ => exact mb_2 _ (List.mem_of_getElem? (i := 127) rfl)
  | k + 14, h => exact absurd h (by omega)
set_option maxRecDepth 1000000 in
theorem inX12 : ∀ w ∈ wsX120, w ∈ lw_tbl := by
  intro w hw
  obtain ⟨k, hk, rfl⟩ := List.mem_map.mp hw
  have hk := List.mem_range.mp hk
  match k, hk with
  | 0, _ => exact mb_6 _ (List.mem_of_getElem? (i := 215) rfl)
  | 1, _ => exact mb_6 _ (List.mem_of_getElem? (i := 217) rfl)
  | 2, _ => exact mb_6 _ (List.mem_of_getElem? (i := 219) rfl)
  | 3, _ => exact mb_6 _ (List.mem_of_getElem? (i := 221) rfl)
  | 4, _ => exact mb_6 _ (List.mem_of_getElem? (i := 223) rfl)
  | 5, _ => exact mb_6 _ (List.mem_of_getElem? (i := 225) rfl)
  | 6, _ => exact mb_6 _ (List.mem_of_getElem? (i := 227) rfl)
  | 7, _ => exact mb_6 _ (List.mem_of_getElem? (i := 229) rfl)
  | 8, _ => exact mb_6 _ (List.mem_of_getElem? (i := 231) rfl)
  | 9, _ => exact mb_6 _ (List.mem_of_getElem? (i := 233) rfl)
  | 10, _ => exact mb_6 _ (List.mem_of_getElem? (i := 235) rfl)
  | 11, _ => exact mb_6 _ (List.mem_of_getElem? (i := 237) rfl)
  | 12, _ => exact mb_6 _ (List.mem_of_getElem? (i := 239) rfl)
  | 13, _ => exact mb_7 _ (List.mem_of_getElem? (i := 1) rfl)
  | 14, _ => exact mb_7 _ (List.mem_of_getElem? (i := 3) rfl)
  | 15, _ => exact mb_7 _ (List.mem_of_getElem? (i := 5) rfl)
  | 16, _ => exact mb_7 _ (List.mem_of_getElem? (i := 7) rfl)
  | 17, _ => exact mb_7 _ (List.mem_of_getElem? (i := 9) rfl)
  | 18, _ => exact mb_7 _ (List.mem_of_getElem? (i := 11) rfl)
  | 19, _ => exact mb_7 _ (List.mem_of_getElem? (i := 13) rfl)
  | 20, _ => exact mb_7 _ (List.mem_of_getElem? (i := 15) rfl)
  | 21, _ => exact mb_7 _ (List.mem_of_getElem? (i := 17) rfl)
  | 22, _ => exact mb_7 _ (List.mem_of_getElem? (i := 19) rfl)
  | 23, _ => exact mb_7 _ (List.mem_of_getElem? (i := 21) rfl)
  | 24, _ => exact mb_7 _ (List.mem_of_getElem? (i := 23) rfl)
  | 25, _ => exact mb_7 _ (List.mem_of_getElem? (i := 25) rfl)
  | 26, _ => exact mb_7 _ (List.mem_of_getElem? (i := 27) rfl)
  | 27, _ => exact mb_7 _ (List.mem_of_getElem? (i := 29) rfl)
  | 28, _ => exact mb_7 _ (List.mem_of_getElem? (i := 31) rfl)
  | 29, _ => exact mb_7 _ (List.mem_of_getElem? (i := 33) rfl)
  | 30, _ => exact mb_7 _ (List.mem_of_getElem? (i := 35) rfl)
  | 31, _ => exact mb_7 _ (List.mem_of_getElem? (i := 37) rfl)
  | 32, _ => exact mb_7 _ (List.mem_of_getElem? (i := 39) rfl)
  | 33, _ => exact mb_7 _ (List.mem_of_getElem? (i := 41) rfl)
  | 34, _ => exact mb_7 _ (List.mem_of_getElem? (i := 43) rfl)
  | 35, _ => exact mb_7 _ (List.mem_of_getElem? (i := 45) rfl)
  | 36, _ => exact mb_7 _ (List.mem_of_getElem? (i := 47) rfl)
  | 37, _ => exact mb_7 _ (List.mem_of_getElem? (i := 49) rfl)
  | k + 38, h => exact absurd h (by omega)
end
