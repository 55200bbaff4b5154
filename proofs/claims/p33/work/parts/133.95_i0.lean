theorem dX0_init_0 : decode cX0_init 0 = .ok (.aload_n 0, 1) := by decide +kernel
theorem dX0_init_1 : decode cX0_init 1 = .ok (.invokespecial 1, 3) := by decide +kernel
theorem dX0_init_12 : decode cX0_init 12 = .ok (.return_, 1) := by decide +kernel
theorem dX0_init_4 : decode cX0_init 4 = .ok (.aload_n 0, 1) := by decide +kernel
theorem dX0_init_5 : decode cX0_init 5 = .ok (.bipush 7, 2) := by decide +kernel
theorem dX0_init_7 : decode cX0_init 7 = .ok (.newarray .int, 2) := by decide +kernel
theorem dX0_init_9 : decode cX0_init 9 = .ok (.putfield 9, 3) := by decide +kernel
theorem dX1_init_0 : decode cX1_init 0 = .ok (.aload_n 0, 1) := by decide +kernel
theorem dX1_init_1 : decode cX1_init 1 = .ok (.invokespecial 3, 3) := by decide +kernel
theorem dX1_init_10 : decode cX1_init 10 = .ok (.putfield 11, 3) := by decide +kernel
theorem dX1_init_13 : decode cX1_init 13 = .ok (.aload_n 0, 1) := by decide +kernel
theorem dX1_init_14 : decode cX1_init 14 = .ok (.iconst 5, 1) := by decide +kernel
theorem dX1_init_15 : decode cX1_init 15 = .ok (.newarray .int, 2) := by decide +kernel
theorem dX1_init_17 : decode cX1_init 17 = .ok (.putfield 17, 3) := by decide +kernel
theorem dX1_init_20 : decode cX1_init 20 = .ok (.aload_n 0, 1) := by decide +kernel
theorem dX1_init_21 : decode cX1_init 21 = .ok (.bipush 40, 2) := by decide +kernel
theorem dX1_init_23 : decode cX1_init 23 = .ok (.newarray .int, 2) := by decide +kernel
theorem dX1_init_25 : decode cX1_init 25 = .ok (.putfield 20, 3) := by decide +kernel
theorem dX1_init_28 : decode cX1_init 28 = .ok (.return_, 1) := by decide +kernel
theorem dX1_init_4 : decode cX1_init 4 = .ok (.aload_n 0, 1) := by decide +kernel
theorem dX1_init_5 : decode cX1_init 5 = .ok (.sipush 600, 3) := by decide +kernel
theorem dX1_init_8 : decode cX1_init 8 = .ok (.newarray .int, 2) := by decide +kernel
theorem dX3_init_0 : decode cX3_init 0 = .ok (.aload_n 0, 1) := by decide +kernel
theorem dX3_init_1 : decode cX3_init 1 = .ok (.invokespecial 3, 3) := by decide +kernel
theorem dX3_init_10 : decode cX3_init 10 = .ok (.putfield 11, 3) := by decide +kernel
theorem dX3_init_13 : decode cX3_init 13 = .ok (.return_, 1) := by decide +kernel
theorem dX3_init_4 : decode cX3_init 4 = .ok (.aload_n 0, 1) := by decide +kernel
theorem dX3_init_5 : decode cX3_init 5 = .ok (.sipush 512, 3) := by decide +kernel
theorem dX3_init_8 : decode cX3_init 8 = .ok (.newarray .int, 2) := by decide +kernel
theorem dX5_init_0 : decode cX5_init 0 = .ok (.aload_n 0, 1) := by decide +kernel
theorem dX5_init_1 : decode cX5_init 1 = .ok (.invokespecial 1, 3) := by decide +kernel
theorem dX5_init_10 : decode cX5_init 10 = .ok (.putfield 9, 3) := by decide +kernel
theorem dX5_init_13 : decode cX5_init 13 = .ok (.return_, 1) := by decide +kernel
theorem dX5_init_4 : decode cX5_init 4 = .ok (.aload_n 0, 1) := by decide +kernel
theorem dX5_init_5 : decode cX5_init 5 = .ok (.sipush 240, 3) := by decide +kernel
theorem dX5_init_8 : decode cX5_init 8 = .ok (.newarray .int, 2) := by decide +kernel
theorem dX6_init_0 : decode cX6_init 0 = .ok (.aload_n 0, 1) := by decide +kernel
theorem dX6_init_1 : decode cX6_init 1 = .ok (.invokespecial 1, 3) := by decide +kernel
theorem dX6_init_12 : decode cX6_init 12 = .ok (.aload_n 0, 1) := by decide +kernel
theorem dX6_init_13 : decode cX6_init 13 = .ok (.bipush 96, 2) := by decide +kernel
theorem dX6_init_15 : decode cX6_init 15 = .ok (.newarray .int, 2) := by decide +kernel
theorem dX6_init_17 : decode cX6_init 17 = .ok (.putfield 13, 3) := by decide +kernel
theorem dX6_init_20 : decode cX6_init 20 = .ok (.aload_n 0, 1) := by decide +kernel
theorem dX6_init_21 : decode cX6_init 21 = .ok (.bipush 56, 2) := by decide +kernel
theorem dX6_init_23 : decode cX6_init 23 = .ok (.newarray .int, 2) := by decide +kernel
theorem dX6_init_25 : decode cX6_init 25 = .ok (.putfield 16, 3) := by decide +kernel
theorem dX6_init_28 : decode cX6_init 28 = .ok (.aload_n 0, 1) := by decide +kernel
theorem dX6_init_29 : decode cX6_init 29 = .ok (.bipush 112, 2) := by decide +kernel
theorem dX6_init_31 : decode cX6_init 31 = .ok (.newarray .int, 2) := by decide +kernel
theorem dX6_init_33 : decode cX6_init 33 = .ok (.putfield 19, 3) := by decide +kernel
theorem dX6_init_36 : decode cX6_init 36 = .ok (.aload_n 0, 1) := by decide +kernel
theorem dX6_init_37 : decode cX6_init 37 = .ok (.iconst 4, 1) := by decide +kernel
theorem dX6_init_38 : decode cX6_init 38 = .ok (.newarray .int, 2) := by decide +kernel
theorem dX6_init_4 : decode cX6_init 4 = .ok (.aload_n 0, 1) := by decide +kernel
theorem dX6_init_40 : decode cX6_init 40 = .ok (.putfield 22, 3) := by decide +kernel
theorem dX6_init_43 : decode cX6_init 43 = .ok (.aload_n 0, 1) := by decide +kernel
theorem dX6_init_44 : decode cX6_init 44 = .ok (.bipush 40, 2) := by decide +kernel
theorem dX6_init_46 : decode cX6_init 46 = .ok (.newarray .int, 2) := by decide +kernel
theorem dX6_init_48 : decode cX6_init 48 = .ok (.putfield 25, 3) := by decide +kernel
theorem dX6_init_5 : decode cX6_init 5 = .ok (.bipush 96, 2) := by decide +kernel
theorem dX6_init_51 : decode cX6_init 51 = .ok (.return_, 1) := by decide +kernel
theorem dX6_init_7 : decode cX6_init 7 = .ok (.newarray .int, 2) := by decide +kernel
theorem dX6_init_9 : decode cX6_init 9 = .ok (.putfield 9, 3) := by decide +kernel
theorem dX8_init_0 : decode cX8_init 0 = .ok (.aload_n 0, 1) := by decide +kernel
theorem dX8_init_1 : decode cX8_init 1 = .ok (.invokespecial 3, 3) := by decide +kernel
theorem dX8_init_10 : decode cX8_init 10 = .ok (.putfield 11, 3) := by decide +kernel
theorem dX8_init_13 : decode cX8_init 13 = .ok (.aload_n 0, 1) := by decide +kernel
theorem dX8_init_14 : decode cX8_init 14 = .ok (.iconst (-1), 1) := by decide +kernel
theorem dX8_init_15 : decode cX8_init 15 = .ok (.putfield 15, 3) := by decide +kernel
theorem dX8_init_18 : decode cX8_init 18 = .ok (.return_, 1) := by decide +kernel
theorem dX8_init_4 : decode cX8_init 4 = .ok (.aload_n 0, 1) := by decide +kernel
theorem dX8_init_5 : decode cX8_init 5 = .ok (.sipush 600, 3) := by decide +kernel
theorem dX8_init_8 : decode cX8_init 8 = .ok (.newarray .byte, 2) := by decide +kernel
set_option maxHeartbeats 4000000 in
set_option maxRecDepth 100000 in
theorem c_X8_init (l : Launch) (hl : l.stackTraces = false) (D : va_G) (cy : Nat → ClassId) (sa : Nat → Nat) (h0 : Nat) (sz : Nat) : Met l yX8_init wsX8_init ({ frames := 1, cells := 1, slots := 600, locals := 20 }) (va_Pc [vR h0] (pcW D cy sa sz [zO h0 8 [vN, Value.int 0, Value.int 0, Value.int 0, Value.int 0, Value.int 0, Value.int 0]])) (va_Qv (fun u : SU => (True)) (fun u t => atW D (va_A [zO h0 8 [vN, Value.int 0, Value.int 0, Value.int 0, Value.int 0, Value.int 0, Value.int 0]] sz) [zO h0 8 [vR (u.1 0), Value.int 0, Value.int 0, Value.int 0, Value.int 0, Value.int 0, Value.int (-1)], zI (u.1 0) (cy 1) 600 (fun _ => 0)] t) (va_A [zO h0 8 [vN, Value.int 0, Value.int 0, Value.int 0, Value.int 0, Value.int 0, Value.int 0]] sz)) 1 600 (va_A [zO h0 8 [vN, Value.int 0, Value.int 0, Value.int 0, Value.int 0, Value.int 0, Value.int 0]] sz) := by
  refine Met.ofW (cc := cX8_init) (maxL := 1) (ret := none) (by decide) rfl ?_
  intro p e s m args below meth c s₁ B hml hv
  obtain ⟨rfl, hsz, hP, hG, hD0, hT⟩ := hv
  have hx := B.exec
  have hb := B.bytes
  have hr := B.returns
  have hts := atoms_spec (ws := wsX8_init) B.pre
  have hown : s.vm.findClass RX8 = some m.cls := findClass_of_methodNamed B.named
  have hlocks := B.notSynchronized
  have hin : meth.name = "<init>" := (name_of_methodNamed B.named B.method).1
  subst hsz
  have hD := hD0.self (sz := s.heap.size)
  generalize hAe : va_A [zO h0 8 [vN, Value.int 0, Value.int 0, Value.int 0, Value.int 0, Value.int 0, Value.int 0]] s.heap.size = A at hD hT ⊢
  have hA : ∀ q : Nat, s.heap.size ≤ q → A q := fun q h => by rw [← hAe]; exact Or.inr h
  have hS : va_S A s.heap s.heap [] := va_S.rf
  have hl0 := lv_entry ([vR h0]) (n := 1) (Nat.le_of_ble_eq_true rfl)
  rw [lg_entry_eq]
  generalize (lg_sl ([vR h0]) ++ List.replicate (1 - (lg_sl ([vR h0])).length) Slot.unset).toArray = ls at hl0 ⊢
  have hlv : lv_has ls 1 [(0, vR h0)] := hl0
  have lo3 := hts (.methodLink RX8 3 objectInit) (by decide +kernel)
  have oi := hts (.instanceMethod objectInit) (by decide +kernel)
  have oc := hts (.code objectInit ⟨#[0xb1]⟩ 1 none) (by decide +kernel)
  have ac1 := hts (.arrayClass .byte) (by decide +kernel)
  have lf11 := hts (.fieldLink RX8 11 "KerbSplash$Tape" "bytes" "[B") (by decide +kernel)
  have hi8 : ∀ w ∈ wsX80, w ∈ wsX8_init := by decide +kernel
  have lf15 := hts (.fieldLink RX8 15 "KerbSplash$Tape" "faultAt" "I") (by decide +kernel)
  refine lv_aload_n hx hb dX8_init_0 rfl (lv_at hlv 0 rfl) ?_
  refine W.objInit hx hb hown lo3 oi oc rfl (by rw [hml]; exact hlv.1) rfl dX8_init_1 (Nat.le_of_ble_eq_true rfl) (Nat.le_of_ble_eq_true rfl) ?_
  refine W.eq (g2 := F0 m 4 ls []) rfl ?_
  refine lv_aload_n hx hb dX8_init_4 rfl (lv_at hlv 0 rfl) ?_
  refine lv_sipush (v := 600) hx hb dX8_init_5 (by decide) ?_
  refine nw_a (atype := .byte) (cy := cy) (a0 := (600, .inl (fun _ => 0))) (N' := 600) hx hb ac1 (ty := .byte) rfl 1 rfl (fun C h => nomatch h) hG.1 hP hD hS hA (fun cA => rfl) (by decide) (by decide) (Nat.le_of_ble_eq_true rfl) (Nat.le_of_ble_eq_true rfl) (Nat.le_of_ble_eq_true rfl) dX8_init_8 (fun q_1 H hP hD hS => ?_)
  have hP : va_P D vwCl [zO h0 8 [vN, Value.int 0, Value.int 0, Value.int 0, Value.int 0, Value.int 0, Value.int 0], zI q_1 (cy 1) 600 (fun _ => 0)] H := hP
  have hD : va_D A [zO h0 8 [vN, Value.int 0, Value.int 0, Value.int 0, Value.int 0, Value.int 0, Value.int 0], zI q_1 (cy 1) 600 (fun _ => 0)] := hD
  refine va_putF (D := D) (ci := 8) (v := vR q_1) (ty := .array .byte) (C := RX8) (T := TX8) (N := 7) hx hb hts hi8 tyX8 tyX8_ok nmX8 hown hG.1 hP hD hS 0 rfl rfl 0 (by decide) lf11 (fun _ h9 => h9) rfl hin rfl (by decide +kernel) rfl rfl (Nat.le_of_ble_eq_true rfl) dX8_init_10 (fun H locs hP hD hS => ?_)
  have hP : va_P D vwCl [zO h0 8 [vR q_1, Value.int 0, Value.int 0, Value.int 0, Value.int 0, Value.int 0, Value.int 0], zI q_1 (cy 1) 600 (fun _ => 0)] H := hP
  have hD : va_D A [zO h0 8 [vR q_1, Value.int 0, Value.int 0, Value.int 0, Value.int 0, Value.int 0, Value.int 0], zI q_1 (cy 1) 600 (fun _ => 0)] := hD
  refine lv_aload_n hx hb dX8_init_13 rfl (lv_at hlv 0 rfl) ?_
  refine lv_iconst (v := (-1)) hx hb dX8_init_14 (by decide) ?_
  refine va_put (D := D) (ci := 8) (v := Value.int (-1)) (ty := .int) (C := RX8) (T := TX8) (N := 7) hx hb hts hi8 tyX8 tyX8_ok nmX8 hown hG.1 hP hD hS 0 rfl rfl 6 (by decide) lf15 (fun _ h9 => h9) rfl (by decide +kernel) rfl rfl (Nat.le_of_ble_eq_true rfl) dX8_init_15 (fun H locs hP hD hS => ?_)
  have hP : va_P D vwCl [zO h0 8 [vR q_1, Value.int 0, Value.int 0, Value.int 0, Value.int 0, Value.int 0, Value.int (-1)], zI q_1 (cy 1) 600 (fun _ => 0)] H := hP
  have hD : va_D A [zO h0 8 [vR q_1, Value.int 0, Value.int 0, Value.int 0, Value.int 0, Value.int 0, Value.int (-1)], zI q_1 (cy 1) 600 (fun _ => 0)] := hD
  refine W.widen (k := 1) (n := 600) (Nat.le_of_ble_eq_true rfl) (Nat.le_of_ble_eq_true rfl) ?_
  exact W.vret hx hb hr (fun t ht hW => ⟨⟨((fun k => ([q_1] : List Nat).getD k 0), (fun k => ([] : List Int32).getD k 0), (fun k => ([] : List (Nat → Int32)).getD k (fun _ => 0))), rfl, (by first | (trivial)), by rw [ht]; exact hP.sub [0, 1] rfl, hD.sub [0, 1] (by decide) rfl⟩, hS.F ht⟩) hS.2.2 dX8_init_18
set_option maxHeartbeats 4000000 in
set_option maxRecDepth 100000 in
theorem c_X5_init (l : Launch) (hl : l.stackTraces = false) (D : va_G) (cy : Nat → ClassId) (sa : Nat → Nat) (h0 : Nat) (sz : Nat) : Met l yX5_init wsX5_init ({ frames := 1, cells := 1, slots := 240, locals := 20 }) (va_Pc [vR h0] (pcW D cy sa sz [zO h0 5 [vN, Value.int 0]])) (va_Qv (fun u : SU => (True)) (fun u t => atW D (va_A [zO h0 5 [vN, Value.int 0]] sz) [zO h0 5 [vR (u.1 0), Value.int 0], zI (u.1 0) (cy 0) 240 (fun _ => 0)] t) (va_A [zO h0 5 [vN, Value.int 0]] sz)) 1 240 (va_A [zO h0 5 [vN, Value.int 0]] sz) := by
  refine Met.ofW (cc := cX5_init) (maxL := 1) (ret := none) (by decide) rfl ?_
  intro p e s m args below meth c s₁ B hml hv
  obtain ⟨rfl, hsz, hP, hG, hD0, hT⟩ := hv
  have hx := B.exec
  have hb := B.bytes
  have hr := B.returns
  have hts := atoms_spec (ws := wsX5_init) B.pre
  have hown : s.vm.findClass RX5 = some m.cls := findClass_of_methodNamed B.named
  have hlocks := B.notSynchronized
  have hin : meth.name = "<init>" := (name_of_methodNamed B.named B.method).1
  subst hsz
  have hD := hD0.self (sz := s.heap.size)
  generalize hAe : va_A [zO h0 5 [vN, Value.int 0]] s.heap.size = A at hD hT ⊢
  have hA : ∀ q : Nat, s.heap.size ≤ q → A q := fun q h => by rw [← hAe]; exact Or.inr h
  have hS : va_S A s.heap s.heap [] := va_S.rf
  have hl0 := lv_entry ([vR h0]) (n := 1) (Nat.le_of_ble_eq_true rfl)
  rw [lg_entry_eq]
  generalize (lg_sl ([vR h0]) ++ List.replicate (1 - (lg_sl ([vR h0])).length) Slot.unset).toArray = ls at hl0 ⊢
  have hlv : lv_has ls 1 [(0, vR h0)] := hl0
  have lo1 := hts (.methodLink RX5 1 objectInit) (by decide +kernel)
  have oi := hts (.instanceMethod objectInit) (by decide +kernel)
  have oc := hts (.code objectInit ⟨#[0xb1]⟩ 1 none) (by decide +kernel)
  have ac0 := hts (.arrayClass .int) (by decide +kernel)
  have lf9 := hts (.fieldLink RX5 9 "KerbSplash$Rain" "falls" "[I") (by decide +kernel)
  have hi5 : ∀ w ∈ wsX50, w ∈ wsX5_init := by decide +kernel
  refine lv_aload_n hx hb dX5_init_0 rfl (lv_at hlv 0 rfl) ?_
  refine W.objInit hx hb hown lo1 oi oc rfl (by rw [hml]; exact hlv.1) rfl dX5_init_1 (Nat.le_of_ble_eq_true rfl) (Nat.le_of_ble_eq_true rfl) ?_
  refine W.eq (g2 := F0 m 4 ls []) rfl ?_
  refine lv_aload_n hx hb dX5_init_4 rfl (lv_at hlv 0 rfl) ?_
  refine lv_sipush (v := 240) hx hb dX5_init_5 (by decide) ?_
  refine nw_a (atype := .int) (cy := cy) (a0 := (240, .inl (fun _ => 0))) (N' := 240) hx hb ac0 (ty := .int) rfl 0 rfl (fun C h => nomatch h) hG.1 hP hD hS hA (fun cA => rfl) (by decide) (by decide) (Nat.le_of_ble_eq_true rfl) (Nat.le_of_ble_eq_true rfl) (Nat.le_of_ble_eq_true rfl) dX5_init_8 (fun q_1 H hP hD hS => ?_)
  have hP : va_P D vwCl [zO h0 5 [vN, Value.int 0], zI q_1 (cy 0) 240 (fun _ => 0)] H := hP
  have hD : va_D A [zO h0 5 [vN, Value.int 0], zI q_1 (cy 0) 240 (fun _ => 0)] := hD
  refine va_putF (D := D) (ci := 5) (v := vR q_1) (ty := .array .int) (C := RX5) (T := TX5) (N := 2) hx hb hts hi5 tyX5 tyX5_ok nmX5 hown hG.1 hP hD hS 0 rfl rfl 0 (by decide) lf9 (fun _ h9 => h9) rfl hin rfl (by decide +kernel) rfl rfl (Nat.le_of_ble_eq_true rfl) dX5_init_10 (fun H locs hP hD hS => ?_)
  have hP : va_P D vwCl [zO h0 5 [vR q_1, Value.int 0], zI q_1 (cy 0) 240 (fun _ => 0)] H := hP
  have hD : va_D A [zO h0 5 [vR q_1, Value.int 0], zI q_1 (cy 0) 240 (fun _ => 0)] := hD
  refine W.widen (k := 1) (n := 240) (Nat.le_of_ble_eq_true rfl) (Nat.le_of_ble_eq_true rfl) ?_
  exact W.vret hx hb hr (fun t ht hW => ⟨⟨((fun k => ([q_1] : List Nat).getD k 0), (fun k => ([] : List Int32).getD k 0), (fun k => ([] : List (Nat → Int32)).getD k (fun _ => 0))), rfl, (by first | (trivial)), by rw [ht]; exact hP.sub [0, 1] rfl, hD.sub [0, 1] (by decide) rfl⟩, hS.F ht⟩) hS.2.2 dX5_init_13
set_option maxHeartbeats 4000000 in
set_option maxRecDepth 100000 in
theorem c_X1_init (l : Launch) (hl : l.stackTraces = false) (D : va_G) (cy : Nat → ClassId) (sa : Nat → Nat) (h0 : Nat) (sz : Nat) : Met l yX1_init wsX1_init ({ frames := 1, cells := 3, slots := 645, locals := 20 }) (va_Pc [vR h0] (pcW D cy sa sz [zO h0 1 [vN, Value.int 0, vN, vN]])) (va_Qv (fun u : SU => (True)) (fun u t => atW D (va_A [zO h0 1 [vN, Value.int 0, vN, vN]] sz) [zO h0 1 [vR (u.1 0), Value.int 0, vR (u.1 1), vR (u.1 2)], zI (u.1 0) (cy 0) 600 (fun _ => 0), zI (u.1 1) (cy 0) 5 (fun _ => 0), zI (u.1 2) (cy 0) 40 (fun _ => 0)] t) (va_A [zO h0 1 [vN, Value.int 0, vN, vN]] sz)) 3 645 (va_A [zO h0 1 [vN, Value.int 0, vN, vN]] sz) := by
  refine Met.ofW (cc := cX1_init) (maxL := 1) (ret := none) (by decide) rfl ?_
  intro p e s m args below meth c s₁ B hml hv
  obtain ⟨rfl, hsz, hP, hG, hD0, hT⟩ := hv
  have hx := B.exec
  have hb := B.bytes
  have hr := B.returns
  have hts := atoms_spec (ws := wsX1_init) B.pre
  have hown : s.vm.findClass RX1 = some m.cls := findClass_of_methodNamed B.named
  have hlocks := B.notSynchronized
  have hin : meth.name = "<init>" := (name_of_methodNamed B.named B.method).1
  subst hsz
  have hD := hD0.self (sz := s.heap.size)
  generalize hAe : va_A [zO h0 1 [vN, Value.int 0, vN, vN]] s.heap.size = A at hD hT ⊢
  have hA : ∀ q : Nat, s.heap.size ≤ q → A q := fun q h => by rw [← hAe]; exact Or.inr h
  have hS : va_S A s.heap s.heap [] := va_S.rf
  have hl0 := lv_entry ([vR h0]) (n := 1) (Nat.le_of_ble_eq_true rfl)
  rw [lg_entry_eq]
  generalize (lg_sl ([vR h0]) ++ List.replicate (1 - (lg_sl ([vR h0])).length) Slot.unset).toArray = ls at hl0 ⊢
  have hlv : lv_has ls 1 [(0, vR h0)] := hl0
  have lo3 := hts (.methodLink RX1 3 objectInit) (by decide +kernel)
  have oi := hts (.instanceMethod objectInit) (by decide +kernel)
  have oc := hts (.code objectInit ⟨#[0xb1]⟩ 1 none) (by decide +kernel)
  have ac0 := hts (.arrayClass .int) (by decide +kernel)
  have lf11 := hts (.fieldLink RX1 11 "KerbSplash$Law" "steps" "[I") (by decide +kernel)
  have hi1 : ∀ w ∈ wsX10, w ∈ wsX1_init := by decide +kernel
  have lf17 := hts (.fieldLink RX1 17 "KerbSplash$Law" "starts" "[I") (by decide +kernel)
  have lf20 := hts (.fieldLink RX1 20 "KerbSplash$Law" "values" "[I") (by decide +kernel)
  refine lv_aload_n hx hb dX1_init_0 rfl (lv_at hlv 0 rfl) ?_
  refine W.objInit hx hb hown lo3 oi oc rfl (by rw [hml]; exact hlv.1) rfl dX1_init_1 (Nat.le_of_ble_eq_true rfl) (Nat.le_of_ble_eq_true rfl) ?_
  refine W.eq (g2 := F0 m 4 ls []) rfl ?_
  refine lv_aload_n hx hb dX1_init_4 rfl (lv_at hlv 0 rfl) ?_
  refine lv_sipush (v := 600) hx hb dX1_init_5 (by decide) ?_
  refine nw_a (atype := .int) (cy := cy) (a0 := (600, .inl (fun _ => 0))) (N' := 600) hx hb ac0 (ty := .int) rfl 0 rfl (fun C h => nomatch h) hG.1 hP hD hS hA (fun cA => rfl) (by decide) (by decide) (Nat.le_of_ble_eq_true rfl) (Nat.le_of_ble_eq_true rfl) (Nat.le_of_ble_eq_true rfl) dX1_init_8 (fun q_1 H hP hD hS => ?_)
  have hP : va_P D vwCl [zO h0 1 [vN, Value.int 0, vN, vN], zI q_1 (cy 0) 600 (fun _ => 0)] H := hP
  have hD : va_D A [zO h0 1 [vN, Value.int 0, vN, vN], zI q_1 (cy 0) 600 (fun _ => 0)] := hD
  refine va_putF (D := D) (ci := 1) (v := vR q_1) (ty := .array .int) (C := RX1) (T := TX1) (N := 4) hx hb hts hi1 tyX1 tyX1_ok nmX1 hown hG.1 hP hD hS 0 rfl rfl 0 (by decide) lf11 (fun _ h9 => h9) rfl hin rfl (by decide +kernel) rfl rfl (Nat.le_of_ble_eq_true rfl) dX1_init_10 (fun H locs hP hD hS => ?_)
  have hP : va_P D vwCl [zO h0 1 [vR q_1, Value.int 0, vN, vN], zI q_1 (cy 0) 600 (fun _ => 0)] H := hP
  have hD : va_D A [zO h0 1 [vR q_1, Value.int 0, vN, vN], zI q_1 (cy 0) 600 (fun _ => 0)] := hD
  refine lv_aload_n hx hb dX1_init_13 rfl (lv_at hlv 0 rfl) ?_
  refine lv_iconst (v := 5) hx hb dX1_init_14 (by decide) ?_
  refine nw_a (atype := .int) (cy := cy) (a0 := (5, .inl (fun _ => 0))) (N' := 5) hx hb ac0 (ty := .int) rfl 0 rfl (fun C h => nomatch h) hG.1 hP hD hS hA (fun cA => rfl) (by decide) (by decide) (Nat.le_of_ble_eq_true rfl) (Nat.le_of_ble_eq_true rfl) (Nat.le_of_ble_eq_true rfl) dX1_init_15 (fun q_2 H hP hD hS => ?_)
  have hP : va_P D vwCl [zO h0 1 [vR q_1, Value.int 0, vN, vN], zI q_1 (cy 0) 600 (fun _ => 0), zI q_2 (cy 0) 5 (fun _ => 0)] H := hP
  have hD : va_D A [zO h0 1 [vR q_1, Value.int 0, vN, vN], zI q_1 (cy 0) 600 (fun _ => 0), zI q_2 (cy 0) 5 (fun _ => 0)] := hD
  refine va_putF (D := D) (ci := 1) (v := vR q_2) (ty := .array .int) (C := RX1) (T := TX1) (N := 4) hx hb hts hi1 tyX1 tyX1_ok nmX1 hown hG.1 hP hD hS 0 rfl rfl 2 (by decide) lf17 (fun _ h9 => h9) rfl hin rfl (by decide +kernel) rfl rfl (Nat.le_of_ble_eq_true rfl) dX1_init_17 (fun H locs hP hD hS => ?_)
  have hP : va_P D vwCl [zO h0 1 [vR q_1, Value.int 0, vR q_2, vN], zI q_1 (cy 0) 600 (fun _ => 0), zI q_2 (cy 0) 5 (fun _ => 0)] H := hP
  have hD : va_D A [zO h0 1 [vR q_1, Value.int 0, vR q_2, vN], zI q_1 (cy 0) 600 (fun _ => 0), zI q_2 (cy 0) 5 (fun _ => 0)] := hD
  refine lv_aload_n hx hb dX1_init_20 rfl (lv_at hlv 0 rfl) ?_
  refine lv_bipush (v := 40) hx hb dX1_init_21 (by decide) ?_
  refine nw_a (atype := .int) (cy := cy) (a0 := (40, .inl (fun _ => 0))) (N' := 40) hx hb ac0 (ty := .int) rfl 0 rfl (fun C h => nomatch h) hG.1 hP hD hS hA (fun cA => rfl) (by decide) (by decide) (Nat.le_of_ble_eq_true rfl) (Nat.le_of_ble_eq_true rfl) (Nat.le_of_ble_eq_true rfl) dX1_init_23 (fun q_3 H hP hD hS => ?_)
  have hP : va_P D vwCl [zO h0 1 [vR q_1, Value.int 0, vR q_2, vN], zI q_1 (cy 0) 600 (fun _ => 0), zI q_2 (cy 0) 5 (fun _ => 0), zI q_3 (cy 0) 40 (fun _ => 0)] H := hP
  have hD : va_D A [zO h0 1 [vR q_1, Value.int 0, vR q_2, vN], zI q_1 (cy 0) 600 (fun _ => 0), zI q_2 (cy 0) 5 (fun _ => 0), zI q_3 (cy 0) 40 (fun _ => 0)] := hD
  refine va_putF (D := D) (ci := 1) (v := vR q_3) (ty := .array .int) (C := RX1) (T := TX1) (N := 4) hx hb hts hi1 tyX1 tyX1_ok nmX1 hown hG.1 hP hD hS 0 rfl rfl 3 (by decide) lf20 (fun _ h9 => h9) rfl hin rfl (by decide +kernel) rfl rfl (Nat.le_of_ble_eq_true rfl) dX1_init_25 (fun H locs hP hD hS => ?_)
  have hP : va_P D vwCl [zO h0 1 [vR q_1, Value.int 0, vR q_2, vR q_3], zI q_1 (cy 0) 600 (fun _ => 0), zI q_2 (cy 0) 5 (fun _ => 0), zI q_3 (cy 0) 40 (fun _ => 0)] H := hP
  have hD : va_D A [zO h0 1 [vR q_1, Value.int 0, vR q_2, vR q_3], zI q_1 (cy 0) 600 (fun _ => 0), zI q_2 (cy 0) 5 (fun _ => 0), zI q_3 (cy 0) 40 (fun _ => 0)] := hD
  refine W.widen (k := 3) (n := 645) (Nat.le_of_ble_eq_true rfl) (Nat.le_of_ble_eq_true rfl) ?_
  exact W.vret hx hb hr (fun t ht hW => ⟨⟨((fun k => ([q_1, q_2, q_3] : List Nat).getD k 0), (fun k => ([] : List Int32).getD k 0), (fun k => ([] : List (Nat → Int32)).getD k (fun _ => 0))), rfl, (by first | (trivial)), by rw [ht]; exact hP.sub [0, 1, 2, 3] rfl, hD.sub [0, 1, 2, 3] (by decide) rfl⟩, hS.F ht⟩) hS.2.2 dX1_init_28
set_option maxHeartbeats 4000000 in
set_option maxRecDepth 100000 in
theorem c_X6_init (l : Launch) (hl : l.stackTraces = false) (D : va_G) (cy : Nat → ClassId) (sa : Nat → Nat) (h0 : Nat) (sz : Nat) : Met l yX6_init wsX6_init ({ frames := 1, cells := 6, slots := 404, locals := 20 }) (va_Pc [vR h0] (pcW D cy sa sz [zO h0 6 [Value.int 0, Value.int 0, vN, vN, Value.int 0, Value.int 0, vN, Value.int 0, vN, Value.int 0, Value.int 0, vN, Value.int 0, vN, Value.int 0, Value.int 0, Value.int 0, Value.int 0, Value.int 0]])) (va_Qv (fun u : SU => (True)) (fun u t => atW D (va_A [zO h0 6 [Value.int 0, Value.int 0, vN, vN, Value.int 0, Value.int 0, vN, Value.int 0, vN, Value.int 0, Value.int 0, vN, Value.int 0, vN, Value.int 0, Value.int 0, Value.int 0, Value.int 0, Value.int 0]] sz) [zO h0 6 [Value.int 0, Value.int 0, vR (u.1 0), vR (u.1 1), Value.int 0, Value.int 0, vR (u.1 2), Value.int 0, vR (u.1 3), Value.int 0, Value.int 0, vR (u.1 4), Value.int 0, vR (u.1 5), Value.int 0, Value.int 0, Value.int 0, Value.int 0, Value.int 0], zI (u.1 0) (cy 0) 96 (fun _ => 0), zI (u.1 1) (cy 0) 96 (fun _ => 0), zI (u.1 2) (cy 0) 56 (fun _ => 0), zI (u.1 3) (cy 0) 112 (fun _ => 0), zI (u.1 4) (cy 0) 4 (fun _ => 0), zI (u.1 5) (cy 0) 40 (fun _ => 0)] t) (va_A [zO h0 6 [Value.int 0, Value.int 0, vN, vN, Value.int 0, Value.int 0, vN, Value.int 0, vN, Value.int 0, Value.int 0, vN, Value.int 0, vN, Value.int 0, Value.int 0, Value.int 0, Value.int 0, Value.int 0]] sz)) 6 404 (va_A [zO h0 6 [Value.int 0, Value.int 0, vN, vN, Value.int 0, Value.int 0, vN, Value.int 0, vN, Value.int 0, Value.int 0, vN, Value.int 0, vN, Value.int 0, Value.int 0, Value.int 0, Value.int 0, Value.int 0]] sz) := by
  refine Met.ofW (cc := cX6_init) (maxL := 1) (ret := none) (by decide) rfl ?_
  intro p e s m args below meth c s₁ B hml hv
  obtain ⟨rfl, hsz, hP, hG, hD0, hT⟩ := hv
  have hx := B.exec
  have hb := B.bytes
  have hr := B.returns
  have hts := atoms_spec (ws := wsX6_init) B.pre
  have hown : s.vm.findClass RX6 = some m.cls := findClass_of_methodNamed B.named
  have hlocks := B.notSynchronized
  have hin : meth.name = "<init>" := (name_of_methodNamed B.named B.method).1
  subst hsz
  have hD := hD0.self (sz := s.heap.size)
  generalize hAe : va_A [zO h0 6 [Value.int 0, Value.int 0, vN, vN, Value.int 0, Value.int 0, vN, Value.int 0, vN, Value.int 0, Value.int 0, vN, Value.int 0, vN, Value.int 0, Value.int 0, Value.int 0, Value.int 0, Value.int 0]] s.heap.size = A at hD hT ⊢
  have hA : ∀ q : Nat, s.heap.size ≤ q → A q := fun q h => by rw [← hAe]; exact Or.inr h
  have hS : va_S A s.heap s.heap [] := va_S.rf
  have hl0 := lv_entry ([vR h0]) (n := 1) (Nat.le_of_ble_eq_true rfl)
  rw [lg_entry_eq]
  generalize (lg_sl ([vR h0]) ++ List.replicate (1 - (lg_sl ([vR h0])).length) Slot.unset).toArray = ls at hl0 ⊢
  have hlv : lv_has ls 1 [(0, vR h0)] := hl0
  have lo1 := hts (.methodLink RX6 1 objectInit) (by decide +kernel)
  have oi := hts (.instanceMethod objectInit) (by decide +kernel)
  have oc := hts (.code objectInit ⟨#[0xb1]⟩ 1 none) (by decide +kernel)
  have ac0 := hts (.arrayClass .int) (by decide +kernel)
  have lf9 := hts (.fieldLink RX6 9 "KerbSplash$Street" "height" "[I") (by decide +kernel)
  have hi6 : ∀ w ∈ wsX60, w ∈ wsX6_init := by decide +kernel
  have lf13 := hts (.fieldLink RX6 13 "KerbSplash$Street" "water" "[I") (by decide +kernel)
  have lf16 := hts (.fieldLink RX6 16 "KerbSplash$Street" "drain" "[I") (by decide +kernel)
  have lf19 := hts (.fieldLink RX6 19 "KerbSplash$Street" "person" "[I") (by decide +kernel)
  have lf22 := hts (.fieldLink RX6 22 "KerbSplash$Street" "shelter" "[I") (by decide +kernel)
  have lf25 := hts (.fieldLink RX6 25 "KerbSplash$Street" "work" "[I") (by decide +kernel)
  refine lv_aload_n hx hb dX6_init_0 rfl (lv_at hlv 0 rfl) ?_
  refine W.objInit hx hb hown lo1 oi oc rfl (by rw [hml]; exact hlv.1) rfl dX6_init_1 (Nat.le_of_ble_eq_true rfl) (Nat.le_of_ble_eq_true rfl) ?_
  refine W.eq (g2 := F0 m 4 ls []) rfl ?_
  refine lv_aload_n hx hb dX6_init_4 rfl (lv_at hlv 0 rfl) ?_
  refine lv_bipush (v := 96) hx hb dX6_init_5 (by decide) ?_
  refine nw_a (atype := .int) (cy := cy) (a0 := (96, .inl (fun _ => 0))) (N' := 96) hx hb ac0 (ty := .int) rfl 0 rfl (fun C h => nomatch h) hG.1 hP hD hS hA (fun cA => rfl) (by decide) (by decide) (Nat.le_of_ble_eq_true rfl) (Nat.le_of_ble_eq_true rfl) (Nat.le_of_ble_eq_true rfl) dX6_init_7 (fun q_1 H hP hD hS => ?_)
  have hP : va_P D vwCl [zO h0 6 [Value.int 0, Value.int 0, vN, vN, Value.int 0, Value.int 0, vN, Value.int 0, vN, Value.int 0, Value.int 0, vN, Value.int 0, vN, Value.int 0, Value.int 0, Value.int 0, Value.int 0, Value.int 0], zI q_1 (cy 0) 96 (fun _ => 0)] H := hP
  have hD : va_D A [zO h0 6 [Value.int 0, Value.int 0, vN, vN, Value.int 0, Value.int 0, vN, Value.int 0, vN, Value.int 0, Value.int 0, vN, Value.int 0, vN, Value.int 0, Value.int 0, Value.int 0, Value.int 0, Value.int 0], zI q_1 (cy 0) 96 (fun _ => 0)] := hD
  refine va_putF (D := D) (ci := 6) (v := vR q_1) (ty := .array .int) (C := RX6) (T := TX6) (N := 19) hx hb hts hi6 tyX6 tyX6_ok nmX6 hown hG.1 hP hD hS 0 rfl rfl 2 (by decide) lf9 (fun _ h9 => h9) rfl hin rfl (by decide +kernel) rfl rfl (Nat.le_of_ble_eq_true rfl) dX6_init_9 (fun H locs hP hD hS => ?_)
  have hP : va_P D vwCl [zO h0 6 [Value.int 0, Value.int 0, vR q_1, vN, Value.int 0, Value.int 0, vN, Value.int 0, vN, Value.int 0, Value.int 0, vN, Value.int 0, vN, Value.int 0, Value.int 0, Value.int 0, Value.int 0, Value.int 0], zI q_1 (cy 0) 96 (fun _ => 0)] H := hP
  have hD : va_D A [zO h0 6 [Value.int 0, Value.int 0, vR q_1, vN, Value.int 0, Value.int 0, vN, Value.int 0, vN, Value.int 0, Value.int 0, vN, Value.int 0, vN, Value.int 0, Value.int 0, Value.int 0, Value.int 0, Value.int 0], zI q_1 (cy 0) 96 (fun _ => 0)] := hD
  refine lv_aload_n hx hb dX6_init_12 rfl (lv_at hlv 0 rfl) ?_
  refine lv_bipush (v := 96) hx hb dX6_init_13 (by decide) ?_
  refine nw_a (atype := .int) (cy := cy) (a0 := (96, .inl (fun _ => 0))) (N' := 96) hx hb ac0 (ty := .int) rfl 0 rfl (fun C h => nomatch h) hG.1 hP hD hS hA (fun cA => rfl) (by decide) (by decide) (Nat.le_of_ble_eq_true rfl) (Nat.le_of_ble_eq_true rfl) (Nat.le_of_ble_eq_true rfl) dX6_init_15 (fun q_2 H hP hD hS => ?_)
  have hP : va_P D vwCl [zO h0 6 [Value.int 0, Value.int 0, vR q_1, vN, Value.int 0, Value.int 0, vN, Value.int 0, vN, Value.int 0, Value.int 0, vN, Value.int 0, vN, Value.int 0, Value.int 0, Value.int 0, Value.int 0, Value.int 0], zI q_1 (cy 0) 96 (fun _ => 0), zI q_2 (cy 0) 96 (fun _ => 0)] H := hP
  have hD : va_D A [zO h0 6 [Value.int 0, Value.int 0, vR q_1, vN, Value.int 0, Value.int 0, vN, Value.int 0, vN, Value.int 0, Value.int 0, vN, Value.int 0, vN, Value.int 0, Value.int 0, Value.int 0, Value.int 0, Value.int 0], zI q_1 (cy 0) 96 (fun _ => 0), zI q_2 (cy 0) 96 (fun _ => 0)] := hD
  refine va_putF (D := D) (ci := 6) (v := vR q_2) (ty := .array .int) (C := RX6) (T := TX6) (N := 19) hx hb hts hi6 tyX6 tyX6_ok nmX6 hown hG.1 hP hD hS 0 rfl rfl 3 (by decide) lf13 (fun _ h9 => h9) rfl hin rfl (by decide +kernel) rfl rfl (Nat.le_of_ble_eq_true rfl) dX6_init_17 (fun H locs hP hD hS => ?_)
  have hP : va_P D vwCl [zO h0 6 [Value.int 0, Value.int 0, vR q_1, vR q_2, Value.int 0, Value.int 0, vN, Value.int 0, vN, Value.int 0, Value.int 0, vN, Value.int 0, vN, Value.int 0, Value.int 0, Value.int 0, Value.int 0, Value.int 0], zI q_1 (cy 0) 96 (fun _ => 0), zI q_2 (cy 0) 96 (fun _ => 0)] H := hP
  have hD : va_D A [zO h0 6 [Value.int 0, Value.int 0, vR q_1, vR q_2, Value.int 0, Value.int 0, vN, Value.int 0, vN, Value.int 0, Value.int 0, vN, Value.int 0, vN, Value.int 0, Value.int 0, Value.int 0, Value.int 0, Value.int 0], zI q_1 (cy 0) 96 (fun _ => 0), zI q_2 (cy 0) 96 (fun _ => 0)] := hD
  refine lv_aload_n hx hb dX6_init_20 rfl (lv_at hlv 0 rfl) ?_
  refine lv_bipush (v := 56) hx hb dX6_init_21 (by decide) ?_
  refine nw_a (atype := .int) (cy := cy) (a0 := (56, .inl (fun _ => 0))) (N' := 56) hx hb ac0 (ty := .int) rfl 0 rfl (fun C h => nomatch h) hG.1 hP hD hS hA (fun cA => rfl) (by decide) (by decide) (Nat.le_of_ble_eq_true rfl) (Nat.le_of_ble_eq_true rfl) (Nat.le_of_ble_eq_true rfl) dX6_init_23 (fun q_3 H hP hD hS => ?_)
  have hP : va_P D vwCl [zO h0 6 [Value.int 0, Value.int 0, vR q_1, vR q_2, Value.int 0, Value.int 0, vN, Value.int 0, vN, Value.int 0, Value.int 0, vN, Value.int 0, vN, Value.int 0, Value.int 0, Value.int 0, Value.int 0, Value.int 0], zI q_1 (cy 0) 96 (fun _ => 0), zI q_2 (cy 0) 96 (fun _ => 0), zI q_3 (cy 0) 56 (fun _ => 0)] H := hP
  have hD : va_D A [zO h0 6 [Value.int 0, Value.int 0, vR q_1, vR q_2, Value.int 0, Value.int 0, vN, Value.int 0, vN, Value.int 0, Value.int 0, vN, Value.int 0, vN, Value.int 0, Value.int 0, Value.int 0, Value.int 0, Value.int 0], zI q_1 (cy 0) 96 (fun _ => 0), zI q_2 (cy 0) 96 (fun _ => 0), zI q_3 (cy 0) 56 (fun _ => 0)] := hD
  refine va_putF (D := D) (ci := 6) (v := vR q_3) (ty := .array .int) (C := RX6) (T := TX6) (N := 19) hx hb hts hi6 tyX6 tyX6_ok nmX6 hown hG.1 hP hD hS 0 rfl rfl 6 (by decide) lf16 (fun _ h9 => h9) rfl hin rfl (by decide +kernel) rfl rfl (Nat.le_of_ble_eq_true rfl) dX6_init_25 (fun H locs hP hD hS => ?_)
  have hP : va_P D vwCl [zO h0 6 [Value.int 0, Value.int 0, vR q_1, vR q_2, Value.int 0, Value.int 0, vR q_3, Value.int 0, vN, Value.int 0, Value.int 0, vN, Value.int 0, vN, Value.int 0, Value.int 0, Value.int 0, Value.int 0, Value.int 0], zI q_1 (cy 0) 96 (fun _ => 0), zI q_2 (cy 0) 96 (fun _ => 0), zI q_3 (cy 0) 56 (fun _ => 0)] H := hP
  have hD : va_D A [zO h0 6 [Value.int 0, Value.int 0, vR q_1, vR q_2, Value.int 0, Value.int 0, vR q_3, Value.int 0, vN, Value.int 0, Value.int 0, vN, Value.int 0, vN, Value.int 0, Value.int 0, Value.int 0, Value.int 0, Value.int 0], zI q_1 (cy 0) 96 (fun _ => 0), zI q_2 (cy 0) 96 (fun _ => 0), zI q_3 (cy 0) 56 (fun _ => 0)] := hD
  refine lv_aload_n hx hb dX6_init_28 rfl (lv_at hlv 0 rfl) ?_
  refine lv_bipush (v := 112) hx hb dX6_init_29 (by decide) ?_
  refine nw_a (atype := .int) (cy := cy) (a0 := (112, .inl (fun _ => 0))) (N' := 112) hx hb ac0 (ty := .int) rfl 0 rfl (fun C h => nomatch h) hG.1 hP hD hS hA (fun cA => rfl) (by decide) (by decide) (Nat.le_of_ble_eq_true rfl) (Nat.le_of_ble_eq_true rfl) (Nat.le_of_ble_eq_true rfl) dX6_init_31 (fun q_4 H hP hD hS => ?_)
  have hP : va_P D vwCl [zO h0 6 [Value.int 0, Value.int 0, vR q_1, vR q_2, Value.int 0, Value.int 0, vR q_3, Value.int 0, vN, Value.int 0, Value.int 0, vN, Value.int 0, vN, Value.int 0, Value.int 0, Value.int 0, Value.int 0, Value.int 0], zI q_1 (cy 0) 96 (fun _ => 0), zI q_2 (cy 0) 96 (fun _ => 0), zI q_3 (cy 0) 56 (fun _ => 0), zI q_4 (cy 0) 112 (fun _ => 0)] H := hP
  have hD : va_D A [zO h0 6 [Value.int 0, Value.int 0, vR q_1, vR q_2, Value.int 0, Value.int 0, vR q_3, Value.int 0, vN, Value.int 0, Value.int 0, vN, Value.int 0, vN, Value.int 0, Value.int 0, Value.int 0, Value.int 0, Value.int 0], zI q_1 (cy 0) 96 (fun _ => 0), zI q_2 (cy 0) 96 (fun _ => 0), zI q_3 (cy 0) 56 (fun _ => 0), zI q_4 (cy 0) 112 (fun _ => 0)] := hD
  refine va_putF (D := D) (ci := 6) (v := vR q_4) (ty := .array .int) (C := RX6) (T := TX6) (N := 19) hx hb hts hi6 tyX6 tyX6_ok nmX6 hown hG.1 hP hD hS 0 rfl rfl 8 (by decide) lf19 (fun _ h9 => h9) rfl hin rfl (by decide +kernel) rfl rfl (Nat.le_of_ble_eq_true rfl) dX6_init_33 (fun H locs hP hD hS => ?_)
  have hP : va_P D vwCl [zO h0 6 [Value.int 0, Value.int 0, vR q_1, vR q_2, Value.int 0, Value.int 0, vR q_3, Value.int 0, vR q_4, Value.int 0, Value.int 0, vN, Value.int 0, vN, Value.int 0, Value.int 0, Value.int 0, Value.int 0, Value.int 0], zI q_1 (cy 0) 96 (fun _ => 0), zI q_2 (cy 0) 96 (fun _ => 0), zI q_3 (cy 0) 56 (fun _ => 0), zI q_4 (cy 0) 112 (fun _ => 0)] H := hP
  have hD : va_D A [zO h0 6 [Value.int 0, Value.int 0, vR q_1, vR q_2, Value.int 0, Value.int 0, vR q_3, Value.int 0, vR q_4, Value.int 0, Value.int 0, vN, Value.int 0, vN, Value.int 0, Value.int 0, Value.int 0, Value.int 0, Value.int 0], zI q_1 (cy 0) 96 (fun _ => 0), zI q_2 (cy 0) 96 (fun _ => 0), zI q_3 (cy 0) 56 (fun _ => 0), zI q_4 (cy 0) 112 (fun _ => 0)] := hD
  refine lv_aload_n hx hb dX6_init_36 rfl (lv_at hlv 0 rfl) ?_
  refine lv_iconst (v := 4) hx hb dX6_init_37 (by decide) ?_
  refine nw_a (atype := .int) (cy := cy) (a0 := (4, .inl (fun _ => 0))) (N' := 4) hx hb ac0 (ty := .int) rfl 0 rfl (fun C h => nomatch h) hG.1 hP hD hS hA (fun cA => rfl) (by decide) (by decide) (Nat.le_of_ble_eq_true rfl) (Nat.le_of_ble_eq_true rfl) (Nat.le_of_ble_eq_true rfl) dX6_init_38 (fun q_5 H hP hD hS => ?_)
  have hP : va_P D vwCl [zO h0 6 [Value.int 0, Value.int 0, vR q_1, vR q_2, Value.int 0, Value.int 0, vR q_3, Value.int 0, vR q_4, Value.int 0, Value.int 0, vN, Value.int 0, vN, Value.int 0, Value.int 0, Value.int 0, Value.int 0, Value.int 0], zI q_1 (cy 0) 96 (fun _ => 0), zI q_2 (cy 0) 96 (fun _ => 0), zI q_3 (cy 0) 56 (fun _ => 0), zI q_4 (cy 0) 112 (fun _ => 0), zI q_5 (cy 0) 4 (fun _ => 0)] H := hP
  have hD : va_D A [zO h0 6 [Value.int 0, Value.int 0, vR q_1, vR q_2, Value.int 0, Value.int 0, vR q_3, Value.int 0, vR q_4, Value.int 0, Value.int 0, vN, Value.int 0, vN, Value.int 0, Value.int 0, Value.int 0, Value.int 0, Value.int 0], zI q_1 (cy 0) 96 (fun _ => 0), zI q_2 (cy 0) 96 (fun _ => 0), zI q_3 (cy 0) 56 (fun _ => 0), zI q_4 (cy 0) 112 (fun _ => 0), zI q_5 (cy 0) 4 (fun _ => 0)] := hD
  refine va_putF (D := D) (ci := 6) (v := vR q_5) (ty := .array .int) (C := RX6) (T := TX6) (N := 19) hx hb hts hi6 tyX6 tyX6_ok nmX6 hown hG.1 hP hD hS 0 rfl rfl 11 (by decide) lf22 (fun _ h9 => h9) rfl hin rfl (by decide +kernel) rfl rfl (Nat.le_of_ble_eq_true rfl) dX6_init_40 (fun H locs hP hD hS => ?_)
  have hP : va_P D vwCl [zO h0 6 [Value.int 0, Value.int 0, vR q_1, vR q_2, Value.int 0, Value.int 0, vR q_3, Value.int 0, vR q_4, Value.int 0, Value.int 0, vR q_5, Value.int 0, vN, Value.int 0, Value.int 0, Value.int 0, Value.int 0, Value.int 0], zI q_1 (cy 0) 96 (fun _ => 0), zI q_2 (cy 0) 96 (fun _ => 0), zI q_3 (cy 0) 56 (fun _ => 0), zI q_4 (cy 0) 112 (fun _ => 0), zI q_5 (cy 0) 4 (fun _ => 0)] H := hP
  have hD : va_D A [zO h0 6 [Value.int 0, Value.int 0, vR q_1, vR q_2, Value.int 0, Value.int 0, vR q_3, Value.int 0, vR q_4, Value.int 0, Value.int 0, vR q_5, Value.int 0, vN, Value.int 0, Value.int 0, Value.int 0, Value.int 0, Value.int 0], zI q_1 (cy 0) 96 (fun _ => 0), zI q_2 (cy 0) 96 (fun _ => 0), zI q_3 (cy 0) 56 (fun _ => 0), zI q_4 (cy 0) 112 (fun _ => 0), zI q_5 (cy 0) 4 (fun _ => 0)] := hD
  refine lv_aload_n hx hb dX6_init_43 rfl (lv_at hlv 0 rfl) ?_
  refine lv_bipush (v := 40) hx hb dX6_init_44 (by decide) ?_
  refine nw_a (atype := .int) (cy := cy) (a0 := (40, .inl (fun _ => 0))) (N' := 40) hx hb ac0 (ty := .int) rfl 0 rfl (fun C h => nomatch h) hG.1 hP hD hS hA (fun cA => rfl) (by decide) (by decide) (Nat.le_of_ble_eq_true rfl) (Nat.le_of_ble_eq_true rfl) (Nat.le_of_ble_eq_true rfl) dX6_init_46 (fun q_6 H hP hD hS => ?_)
  have hP : va_P D vwCl [zO h0 6 [Value.int 0, Value.int 0, vR q_1, vR q_2, Value.int 0, Value.int 0, vR q_3, Value.int 0, vR q_4, Value.int 0, Value.int 0, vR q_5, Value.int 0, vN, Value.int 0, Value.int 0, Value.int 0, Value.int 0, Value.int 0], zI q_1 (cy 0) 96 (fun _ => 0), zI q_2 (cy 0) 96 (fun _ => 0), zI q_3 (cy 0) 56 (fun _ => 0), zI q_4 (cy 0) 112 (fun _ => 0), zI q_5 (cy 0) 4 (fun _ => 0), zI q_6 (cy 0) 40 (fun _ => 0)] H := hP
  have hD : va_D A [zO h0 6 [Value.int 0, Value.int 0, vR q_1, vR q_2, Value.int 0, Value.int 0, vR q_3, Value.int 0, vR q_4, Value.int 0, Value.int 0, vR q_5, Value.int 0, vN, Value.int 0, Value.int 0, Value.int 0, Value.int 0, Value.int 0], zI q_1 (cy 0) 96 (fun _ => 0), zI q_2 (cy 0) 96 (fun _ => 0), zI q_3 (cy 0) 56 (fun _ => 0), zI q_4 (cy 0) 112 (fun _ => 0), zI q_5 (cy 0) 4 (fun _ => 0), zI q_6 (cy 0) 40 (fun _ => 0)] := hD
  refine va_putF (D := D) (ci := 6) (v := vR q_6) (ty := .array .int) (C := RX6) (T := TX6) (N := 19) hx hb hts hi6 tyX6 tyX6_ok nmX6 hown hG.1 hP hD hS 0 rfl rfl 13 (by decide) lf25 (fun _ h9 => h9) rfl hin rfl (by decide +kernel) rfl rfl (Nat.le_of_ble_eq_true rfl) dX6_init_48 (fun H locs hP hD hS => ?_)
  have hP : va_P D vwCl [zO h0 6 [Value.int 0, Value.int 0, vR q_1, vR q_2, Value.int 0, Value.int 0, vR q_3, Value.int 0, vR q_4, Value.int 0, Value.int 0, vR q_5, Value.int 0, vR q_6, Value.int 0, Value.int 0, Value.int 0, Value.int 0, Value.int 0], zI q_1 (cy 0) 96 (fun _ => 0), zI q_2 (cy 0) 96 (fun _ => 0), zI q_3 (cy 0) 56 (fun _ => 0), zI q_4 (cy 0) 112 (fun _ => 0), zI q_5 (cy 0) 4 (fun _ => 0), zI q_6 (cy 0) 40 (fun _ => 0)] H := hP
  have hD : va_D A [zO h0 6 [Value.int 0, Value.int 0, vR q_1, vR q_2, Value.int 0, Value.int 0, vR q_3, Value.int 0, vR q_4, Value.int 0, Value.int 0, vR q_5, Value.int 0, vR q_6, Value.int 0, Value.int 0, Value.int 0, Value.int 0, Value.int 0], zI q_1 (cy 0) 96 (fun _ => 0), zI q_2 (cy 0) 96 (fun _ => 0), zI q_3 (cy 0) 56 (fun _ => 0), zI q_4 (cy 0) 112 (fun _ => 0), zI q_5 (cy 0) 4 (fun _ => 0), zI q_6 (cy 0) 40 (fun _ => 0)] := hD
  refine W.widen (k := 6) (n := 404) (Nat.le_of_ble_eq_true rfl) (Nat.le_of_ble_eq_true rfl) ?_
  exact W.vret hx hb hr (fun t ht hW => ⟨⟨((fun k => ([q_1, q_2, q_3, q_4, q_5, q_6] : List Nat).getD k 0), (fun k => ([] : List Int32).getD k 0), (fun k => ([] : List (Nat → Int32)).getD k (fun _ => 0))), rfl, (by first | (trivial)), by rw [ht]; exact hP.sub [0, 1, 2, 3, 4, 5, 6] rfl, hD.sub [0, 1, 2, 3, 4, 5, 6] (by decide) rfl⟩, hS.F ht⟩) hS.2.2 dX6_init_51
set_option maxHeartbeats 4000000 in
set_option maxRecDepth 100000 in
theorem c_X3_init (l : Launch) (hl : l.stackTraces = false) (D : va_G) (cy : Nat → ClassId) (sa : Nat → Nat) (h0 : Nat) (sz : Nat) : Met l yX3_init wsX3_init ({ frames := 1, cells := 1, slots := 512, locals := 20 }) (va_Pc [vR h0] (pcW D cy sa sz [zO h0 3 [Value.int 0, Value.int 0, Value.int 0, vN]])) (va_Qv (fun u : SU => (True)) (fun u t => atW D (va_A [zO h0 3 [Value.int 0, Value.int 0, Value.int 0, vN]] sz) [zO h0 3 [Value.int 0, Value.int 0, Value.int 0, vR (u.1 0)], zI (u.1 0) (cy 0) 512 (fun _ => 0)] t) (va_A [zO h0 3 [Value.int 0, Value.int 0, Value.int 0, vN]] sz)) 1 512 (va_A [zO h0 3 [Value.int 0, Value.int 0, Value.int 0, vN]] sz) := by
  refine Met.ofW (cc := cX3_init) (maxL := 1) (ret := none) (by decide) rfl ?_
  intro p e s m args below meth c s₁ B hml hv
  obtain ⟨rfl, hsz, hP, hG, hD0, hT⟩ := hv
  have hx := B.exec
  have hb := B.bytes
  have hr := B.returns
  have hts := atoms_spec (ws := wsX3_init) B.pre
  have hown : s.vm.findClass RX3 = some m.cls := findClass_of_methodNamed B.named
  have hlocks := B.notSynchronized
  have hin : meth.name = "<init>" := (name_of_methodNamed B.named B.method).1
  subst hsz
  have hD := hD0.self (sz := s.heap.size)
  generalize hAe : va_A [zO h0 3 [Value.int 0, Value.int 0, Value.int 0, vN]] s.heap.size = A at hD hT ⊢
  have hA : ∀ q : Nat, s.heap.size ≤ q → A q := fun q h => by rw [← hAe]; exact Or.inr h
  have hS : va_S A s.heap s.heap [] := va_S.rf
  have hl0 := lv_entry ([vR h0]) (n := 1) (Nat.le_of_ble_eq_true rfl)
  rw [lg_entry_eq]
  generalize (lg_sl ([vR h0]) ++ List.replicate (1 - (lg_sl ([vR h0])).length) Slot.unset).toArray = ls at hl0 ⊢
  have hlv : lv_has ls 1 [(0, vR h0)] := hl0
  have lo3 := hts (.methodLink RX3 3 objectInit) (by decide +kernel)
  have oi := hts (.instanceMethod objectInit) (by decide +kernel)
  have oc := hts (.code objectInit ⟨#[0xb1]⟩ 1 none) (by decide +kernel)
  have ac0 := hts (.arrayClass .int) (by decide +kernel)
  have lf11 := hts (.fieldLink RX3 11 "KerbSplash$Orders" "best" "[I") (by decide +kernel)
  have hi3 : ∀ w ∈ wsX30, w ∈ wsX3_init := by decide +kernel
  refine lv_aload_n hx hb dX3_init_0 rfl (lv_at hlv 0 rfl) ?_
  refine W.objInit hx hb hown lo3 oi oc rfl (by rw [hml]; exact hlv.1) rfl dX3_init_1 (Nat.le_of_ble_eq_true rfl) (Nat.le_of_ble_eq_true rfl) ?_
  refine W.eq (g2 := F0 m 4 ls []) rfl ?_
  refine lv_aload_n hx hb dX3_init_4 rfl (lv_at hlv 0 rfl) ?_
  refine lv_sipush (v := 512) hx hb dX3_init_5 (by decide) ?_
  refine nw_a (atype := .int) (cy := cy) (a0 := (512, .inl (fun _ => 0))) (N' := 512) hx hb ac0 (ty := .int) rfl 0 rfl (fun C h => nomatch h) hG.1 hP hD hS hA (fun cA => rfl) (by decide) (by decide) (Nat.le_of_ble_eq_true rfl) (Nat.le_of_ble_eq_true rfl) (Nat.le_of_ble_eq_true rfl) dX3_init_8 (fun q_1 H hP hD hS => ?_)
  have hP : va_P D vwCl [zO h0 3 [Value.int 0, Value.int 0, Value.int 0, vN], zI q_1 (cy 0) 512 (fun _ => 0)] H := hP
  have hD : va_D A [zO h0 3 [Value.int 0, Value.int 0, Value.int 0, vN], zI q_1 (cy 0) 512 (fun _ => 0)] := hD
  refine va_putF (D := D) (ci := 3) (v := vR q_1) (ty := .array .int) (C := RX3) (T := TX3) (N := 4) hx hb hts hi3 tyX3 tyX3_ok nmX3 hown hG.1 hP hD hS 0 rfl rfl 3 (by decide) lf11 (fun _ h9 => h9) rfl hin rfl (by decide +kernel) rfl rfl (Nat.le_of_ble_eq_true rfl) dX3_init_10 (fun H locs hP hD hS => ?_)
  have hP : va_P D vwCl [zO h0 3 [Value.int 0, Value.int 0, Value.int 0, vR q_1], zI q_1 (cy 0) 512 (fun _ => 0)] H := hP
  have hD : va_D A [zO h0 3 [Value.int 0, Value.int 0, Value.int 0, vR q_1], zI q_1 (cy 0) 512 (fun _ => 0)] := hD
  refine W.widen (k := 1) (n := 512) (Nat.le_of_ble_eq_true rfl) (Nat.le_of_ble_eq_true rfl) ?_
  exact W.vret hx hb hr (fun t ht hW => ⟨⟨((fun k => ([q_1] : List Nat).getD k 0), (fun k => ([] : List Int32).getD k 0), (fun k => ([] : List (Nat → Int32)).getD k (fun _ => 0))), rfl, (by first | (trivial)), by rw [ht]; exact hP.sub [0, 1] rfl, hD.sub [0, 1] (by decide) rfl⟩, hS.F ht⟩) hS.2.2 dX3_init_13
set_option maxHeartbeats 4000000 in
set_option maxRecDepth 100000 in
theorem c_X0_init (l : Launch) (hl : l.stackTraces = false) (D : va_G) (cy : Nat → ClassId) (sa : Nat → Nat) (h0 : Nat) (sz : Nat) : Met l yX0_init wsX0_init ({ frames := 1, cells := 1, slots := 7, locals := 20 }) (va_Pc [vR h0] (pcW D cy sa sz [zO h0 0 [vN, Value.int 0, Value.int 0, Value.int 0, Value.int 0, Value.int 0, Value.int 0]])) (va_Qv (fun u : SU => (True)) (fun u t => atW D (va_A [zO h0 0 [vN, Value.int 0, Value.int 0, Value.int 0, Value.int 0, Value.int 0, Value.int 0]] sz) [zO h0 0 [vR (u.1 0), Value.int 0, Value.int 0, Value.int 0, Value.int 0, Value.int 0, Value.int 0], zI (u.1 0) (cy 0) 7 (fun _ => 0)] t) (va_A [zO h0 0 [vN, Value.int 0, Value.int 0, Value.int 0, Value.int 0, Value.int 0, Value.int 0]] sz)) 1 7 (va_A [zO h0 0 [vN, Value.int 0, Value.int 0, Value.int 0, Value.int 0, Value.int 0, Value.int 0]] sz) := by
  refine Met.ofW (cc := cX0_init) (maxL := 1) (ret := none) (by decide) rfl ?_
  intro p e s m args below meth c s₁ B hml hv
  obtain ⟨rfl, hsz, hP, hG, hD0, hT⟩ := hv
  have hx := B.exec
  have hb := B.bytes
  have hr := B.returns
  have hts := atoms_spec (ws := wsX0_init) B.pre
  have hown : s.vm.findClass RX0 = some m.cls := findClass_of_methodNamed B.named
  have hlocks := B.notSynchronized
  have hin : meth.name = "<init>" := (name_of_methodNamed B.named B.method).1
  subst hsz
  have hD := hD0.self (sz := s.heap.size)
  generalize hAe : va_A [zO h0 0 [vN, Value.int 0, Value.int 0, Value.int 0, Value.int 0, Value.int 0, Value.int 0]] s.heap.size = A at hD hT ⊢
  have hA : ∀ q : Nat, s.heap.size ≤ q → A q := fun q h => by rw [← hAe]; exact Or.inr h
  have hS : va_S A s.heap s.heap [] := va_S.rf
  have hl0 := lv_entry ([vR h0]) (n := 1) (Nat.le_of_ble_eq_true rfl)
  rw [lg_entry_eq]
  generalize (lg_sl ([vR h0]) ++ List.replicate (1 - (lg_sl ([vR h0])).length) Slot.unset).toArray = ls at hl0 ⊢
  have hlv : lv_has ls 1 [(0, vR h0)] := hl0
  have lo1 := hts (.methodLink RX0 1 objectInit) (by decide +kernel)
  have oi := hts (.instanceMethod objectInit) (by decide +kernel)
  have oc := hts (.code objectInit ⟨#[0xb1]⟩ 1 none) (by decide +kernel)
  have ac0 := hts (.arrayClass .int) (by decide +kernel)
  have lf9 := hts (.fieldLink RX0 9 "KerbSplash$Car" "names" "[I") (by decide +kernel)
  have hi0 : ∀ w ∈ wsX00, w ∈ wsX0_init := by decide +kernel
  refine lv_aload_n hx hb dX0_init_0 rfl (lv_at hlv 0 rfl) ?_
  refine W.objInit hx hb hown lo1 oi oc rfl (by rw [hml]; exact hlv.1) rfl dX0_init_1 (Nat.le_of_ble_eq_true rfl) (Nat.le_of_ble_eq_true rfl) ?_
  refine W.eq (g2 := F0 m 4 ls []) rfl ?_
  refine lv_aload_n hx hb dX0_init_4 rfl (lv_at hlv 0 rfl) ?_
  refine lv_bipush (v := 7) hx hb dX0_init_5 (by decide) ?_
  refine nw_a (atype := .int) (cy := cy) (a0 := (7, .inl (fun _ => 0))) (N' := 7) hx hb ac0 (ty := .int) rfl 0 rfl (fun C h => nomatch h) hG.1 hP hD hS hA (fun cA => rfl) (by decide) (by decide) (Nat.le_of_ble_eq_true rfl) (Nat.le_of_ble_eq_true rfl) (Nat.le_of_ble_eq_true rfl) dX0_init_7 (fun q_1 H hP hD hS => ?_)
  have hP : va_P D vwCl [zO h0 0 [vN, Value.int 0, Value.int 0, Value.int 0, Value.int 0, Value.int 0, Value.int 0], zI q_1 (cy 0) 7 (fun _ => 0)] H := hP
  have hD : va_D A [zO h0 0 [vN, Value.int 0, Value.int 0, Value.int 0, Value.int 0, Value.int 0, Value.int 0], zI q_1 (cy 0) 7 (fun _ => 0)] := hD
  refine va_putF (D := D) (ci := 0) (v := vR q_1) (ty := .array .int) (C := RX0) (T := TX0) (N := 7) hx hb hts hi0 tyX0 tyX0_ok nmX0 hown hG.1 hP hD hS 0 rfl rfl 0 (by decide) lf9 (fun _ h9 => h9) rfl hin rfl (by decide +kernel) rfl rfl (Nat.le_of_ble_eq_true rfl) dX0_init_9 (fun H locs hP hD hS => ?_)
  have hP : va_P D vwCl [zO h0 0 [vR q_1, Value.int 0, Value.int 0, Value.int 0, Value.int 0, Value.int 0, Value.int 0], zI q_1 (cy 0) 7 (fun _ => 0)] H := hP
  have hD : va_D A [zO h0 0 [vR q_1, Value.int 0, Value.int 0, Value.int 0, Value.int 0, Value.int 0, Value.int 0], zI q_1 (cy 0) 7 (fun _ => 0)] := hD
  refine W.widen (k := 1) (n := 7) (Nat.le_of_ble_eq_true rfl) (Nat.le_of_ble_eq_true rfl) ?_
  exact W.vret hx hb hr (fun t ht hW => ⟨⟨((fun k => ([q_1] : List Nat).getD k 0), (fun k => ([] : List Int32).getD k 0), (fun k => ([] : List (Nat → Int32)).getD k (fun _ => 0))), rfl, (by first | (trivial)), by rw [ht]; exact hP.sub [0, 1] rfl, hD.sub [0, 1] (by decide) rfl⟩, hS.F ht⟩) hS.2.2 dX0_init_12
