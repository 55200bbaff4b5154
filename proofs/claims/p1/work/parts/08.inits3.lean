
set_option maxHeartbeats 4000000 in
set_option maxRecDepth 100000 in
theorem c_X8_init_o (l : Launch) (hl : l.stackTraces = false) (D : va_G) (cy : Nat → ClassId) (sa : Nat → Nat) (h0 : Nat) (sz : Nat) : Met l yX8_init wsX8_init ({ frames := 1, cells := 1, slots := 600, locals := 20 }) (va_Pc [.ref h0] (pcW D cy sa sz [(h0, .inr (8, [.null, .int 0, .int 0, .int 0, .int 0, .int 0, .int 0]))])) (va_Qv (fun u : SU => (True)) (fun u t => atW D (va_A [(h0, .inr (8, [.null, .int 0, .int 0, .int 0, .int 0, .int 0, .int 0]))] sz) [(h0, .inr (8, [.ref (u.1 0), .int 0, .int 0, .int 0, .int 0, .int 0, .int (-1)]))] t) (va_A [(h0, .inr (8, [.null, .int 0, .int 0, .int 0, .int 0, .int 0, .int 0]))] sz)) 1 600 (va_A [(h0, .inr (8, [.null, .int 0, .int 0, .int 0, .int 0, .int 0, .int 0]))] sz) := by
  refine Met.ofW (cc := cX8_init) (maxL := 1) (ret := none) (by decide) rfl ?_
  intro p e s m args below meth c s₁ B hml hv
  obtain ⟨rfl, hsz, hP, hG, hD0, hT⟩ := hv
  have hx := B.exec
  have hb := B.bytes
  have hr := B.returns
  have hts := atoms_spec (ws := wsX8_init) B.pre
  have hown : s.vm.findClass RX8 = some m.cls := findClass_of_methodNamed B.named
  have hlocks := B.notSynchronized
  have hin : meth.name = "<init>" := (name_of_methodNamed B.named B.method).1
  subst hsz
  have hD := hD0.self (sz := s.heap.size)
  generalize hAe : va_A [(h0, .inr (8, [.null, .int 0, .int 0, .int 0, .int 0, .int 0, .int 0]))] s.heap.size = A at hD hT ⊢
  have hA : ∀ q : Nat, s.heap.size ≤ q → A q := fun q h => by rw [← hAe]; exact Or.inr h
  have hS : va_S A s.heap s.heap [] := va_S.rf
  have hl0 := lv_entry ([.ref h0]) (n := 1) (Nat.le_of_ble_eq_true rfl)
  rw [lg_entry_eq]
  generalize (lg_sl ([.ref h0]) ++ List.replicate (1 - (lg_sl ([.ref h0])).length) Slot.unset).toArray = ls at hl0 ⊢
  have hlv : lv_has ls 1 [(0, .ref h0)] := hl0
  have lo3 := hts (.methodLink RX8 3 objectInit) (by decide +kernel)
  have oi := hts (.instanceMethod objectInit) (by decide +kernel)
  have oc := hts (.code objectInit ⟨#[0xb1]⟩ 1 none) (by decide +kernel)
  have ac1 := hts (.arrayClass .byte) (by decide +kernel)
  have lf11 := hts (.fieldLink RX8 11 "KerbSplash$Tape" "bytes" "[B") (by decide +kernel)
  have hi8 : ∀ w ∈ wsX80, w ∈ wsX8_init := by decide +kernel
  have lf15 := hts (.fieldLink RX8 15 "KerbSplash$Tape" "faultAt" "I") (by decide +kernel)
  refine lv_aload_n hx hb dX8_init_0 rfl (lv_at hlv 0 rfl) ?_
  refine W.objInit hx hb hown lo3 oi oc rfl (by rw [hml]; exact hlv.1) rfl dX8_init_1 (Nat.le_of_ble_eq_true rfl) (Nat.le_of_ble_eq_true rfl) ?_
  refine W.eq (g2 := F0 m 4 ls []) rfl ?_
  refine lv_aload_n hx hb dX8_init_4 rfl (lv_at hlv 0 rfl) ?_
  refine lv_sipush (v := 600) hx hb dX8_init_5 (by decide) ?_
  refine nw_a (atype := .byte) (cy := cy) (a0 := (600, .inl (fun _ => 0))) (N' := 600) hx hb ac1 (ty := .byte) rfl 1 rfl (fun C h => nomatch h) hG.1 hP hD hS hA (fun cA => rfl) (by decide) (by decide) (Nat.le_of_ble_eq_true rfl) (Nat.le_of_ble_eq_true rfl) (Nat.le_of_ble_eq_true rfl) dX8_init_8 (fun q_1 H hP hD hS => ?_)
  have hP : va_P D vwCl [(h0, .inr (8, [.null, .int 0, .int 0, .int 0, .int 0, .int 0, .int 0])), (q_1, .inl (cy 1, 600, .inl (fun _ => 0)))] H := hP
  have hD : va_D A [(h0, .inr (8, [.null, .int 0, .int 0, .int 0, .int 0, .int 0, .int 0])), (q_1, .inl (cy 1, 600, .inl (fun _ => 0)))] := hD
  refine va_putF (D := D) (ci := 8) (v := .ref q_1) (ty := .array .byte) (C := RX8) (T := TX8) (N := 7) hx hb hts hi8 tyX8 tyX8_ok nmX8 hown hG.1 hP hD hS 0 rfl rfl 0 (by decide) lf11 (fun _ h9 => h9) rfl hin rfl (by decide +kernel) rfl rfl (Nat.le_of_ble_eq_true rfl) dX8_init_10 (fun H locs hP hD hS => ?_)
  have hP : va_P D vwCl [(h0, .inr (8, [.ref q_1, .int 0, .int 0, .int 0, .int 0, .int 0, .int 0])), (q_1, .inl (cy 1, 600, .inl (fun _ => 0)))] H := hP
  have hD : va_D A [(h0, .inr (8, [.ref q_1, .int 0, .int 0, .int 0, .int 0, .int 0, .int 0])), (q_1, .inl (cy 1, 600, .inl (fun _ => 0)))] := hD
  refine lv_aload_n hx hb dX8_init_13 rfl (lv_at hlv 0 rfl) ?_
  refine lv_iconst (v := (-1)) hx hb dX8_init_14 (by decide) ?_
  refine va_put (D := D) (ci := 8) (v := .int (-1)) (ty := .int) (C := RX8) (T := TX8) (N := 7) hx hb hts hi8 tyX8 tyX8_ok nmX8 hown hG.1 hP hD hS 0 rfl rfl 6 (by decide) lf15 (fun _ h9 => h9) rfl (by decide +kernel) rfl rfl (Nat.le_of_ble_eq_true rfl) dX8_init_15 (fun H locs hP hD hS => ?_)
  have hP : va_P D vwCl [(h0, .inr (8, [.ref q_1, .int 0, .int 0, .int 0, .int 0, .int 0, .int (-1)])), (q_1, .inl (cy 1, 600, .inl (fun _ => 0)))] H := hP
  have hD : va_D A [(h0, .inr (8, [.ref q_1, .int 0, .int 0, .int 0, .int 0, .int 0, .int (-1)])), (q_1, .inl (cy 1, 600, .inl (fun _ => 0)))] := hD
  refine W.widen (k := 1) (n := 600) (Nat.le_of_ble_eq_true rfl) (Nat.le_of_ble_eq_true rfl) ?_
  exact W.vret hx hb hr (fun t ht hW => ⟨⟨((fun k => ([q_1] : List Nat).getD k 0), (fun k => ([] : List Int32).getD k 0), (fun k => ([] : List (Nat → Int32)).getD k (fun _ => 0))), rfl, (by first | (trivial)), by rw [ht]; exact hP.sub [0] rfl, hD.sub [0] (by decide) rfl⟩, hS.F ht⟩) hS.2.2 dX8_init_18
set_option maxHeartbeats 4000000 in
set_option maxRecDepth 100000 in
theorem c_X5_init_o (l : Launch) (hl : l.stackTraces = false) (D : va_G) (cy : Nat → ClassId) (sa : Nat → Nat) (h0 : Nat) (sz : Nat) : Met l yX5_init wsX5_init ({ frames := 1, cells := 1, slots := 240, locals := 20 }) (va_Pc [.ref h0] (pcW D cy sa sz [(h0, .inr (5, [.null, .int 0]))])) (va_Qv (fun u : SU => (True)) (fun u t => atW D (va_A [(h0, .inr (5, [.null, .int 0]))] sz) [(h0, .inr (5, [.ref (u.1 0), .int 0]))] t) (va_A [(h0, .inr (5, [.null, .int 0]))] sz)) 1 240 (va_A [(h0, .inr (5, [.null, .int 0]))] sz) := by
  refine Met.ofW (cc := cX5_init) (maxL := 1) (ret := none) (by decide) rfl ?_
  intro p e s m args below meth c s₁ B hml hv
  obtain ⟨rfl, hsz, hP, hG, hD0, hT⟩ := hv
  have hx := B.exec
  have hb := B.bytes
  have hr := B.returns
  have hts := atoms_spec (ws := wsX5_init) B.pre
  have hown : s.vm.findClass RX5 = some m.cls := findClass_of_methodNamed B.named
  have hlocks := B.notSynchronized
  have hin : meth.name = "<init>" := (name_of_methodNamed B.named B.method).1
  subst hsz
  have hD := hD0.self (sz := s.heap.size)
  generalize hAe : va_A [(h0, .inr (5, [.null, .int 0]))] s.heap.size = A at hD hT ⊢
  have hA : ∀ q : Nat, s.heap.size ≤ q → A q := fun q h => by rw [← hAe]; exact Or.inr h
  have hS : va_S A s.heap s.heap [] := va_S.rf
  have hl0 := lv_entry ([.ref h0]) (n := 1) (Nat.le_of_ble_eq_true rfl)
  rw [lg_entry_eq]
  generalize (lg_sl ([.ref h0]) ++ List.replicate (1 - (lg_sl ([.ref h0])).length) Slot.unset).toArray = ls at hl0 ⊢
  have hlv : lv_has ls 1 [(0, .ref h0)] := hl0
  have lo1 := hts (.methodLink RX5 1 objectInit) (by decide +kernel)
  have oi := hts (.instanceMethod objectInit) (by decide +kernel)
  have oc := hts (.code objectInit ⟨#[0xb1]⟩ 1 none) (by decide +kernel)
  have ac0 := hts (.arrayClass .int) (by decide +kernel)
  have lf9 := hts (.fieldLink RX5 9 "KerbSplash$Rain" "falls" "[I") (by decide +kernel)
  have hi5 : ∀ w ∈ wsX50, w ∈ wsX5_init := by decide +kernel
  refine lv_aload_n hx hb dX5_init_0 rfl (lv_at hlv 0 rfl) ?_
  refine W.objInit hx hb hown lo1 oi oc rfl (by rw [hml]; exact hlv.1) rfl dX5_init_1 (Nat.le_of_ble_eq_true rfl) (Nat.le_of_ble_eq_true rfl) ?_
  refine W.eq (g2 := F0 m 4 ls []) rfl ?_
  refine lv_aload_n hx hb dX5_init_4 rfl (lv_at hlv 0 rfl) ?_
  refine lv_sipush (v := 240) hx hb dX5_init_5 (by decide) ?_
  refine nw_a (atype := .int) (cy := cy) (a0 := (240, .inl (fun _ => 0))) (N' := 240) hx hb ac0 (ty := .int) rfl 0 rfl (fun C h => nomatch h) hG.1 hP hD hS hA (fun cA => rfl) (by decide) (by decide) (Nat.le_of_ble_eq_true rfl) (Nat.le_of_ble_eq_true rfl) (Nat.le_of_ble_eq_true rfl) dX5_init_8 (fun q_1 H hP hD hS => ?_)
  have hP : va_P D vwCl [(h0, .inr (5, [.null, .int 0])), (q_1, .inl (cy 0, 240, .inl (fun _ => 0)))] H := hP
  have hD : va_D A [(h0, .inr (5, [.null, .int 0])), (q_1, .inl (cy 0, 240, .inl (fun _ => 0)))] := hD
  refine va_putF (D := D) (ci := 5) (v := .ref q_1) (ty := .array .int) (C := RX5) (T := TX5) (N := 2) hx hb hts hi5 tyX5 tyX5_ok nmX5 hown hG.1 hP hD hS 0 rfl rfl 0 (by decide) lf9 (fun _ h9 => h9) rfl hin rfl (by decide +kernel) rfl rfl (Nat.le_of_ble_eq_true rfl) dX5_init_10 (fun H locs hP hD hS => ?_)
  have hP : va_P D vwCl [(h0, .inr (5, [.ref q_1, .int 0])), (q_1, .inl (cy 0, 240, .inl (fun _ => 0)))] H := hP
  have hD : va_D A [(h0, .inr (5, [.ref q_1, .int 0])), (q_1, .inl (cy 0, 240, .inl (fun _ => 0)))] := hD
  refine W.widen (k := 1) (n := 240) (Nat.le_of_ble_eq_true rfl) (Nat.le_of_ble_eq_true rfl) ?_
  exact W.vret hx hb hr (fun t ht hW => ⟨⟨((fun k => ([q_1] : List Nat).getD k 0), (fun k => ([] : List Int32).getD k 0), (fun k => ([] : List (Nat → Int32)).getD k (fun _ => 0))), rfl, (by first | (trivial)), by rw [ht]; exact hP.sub [0] rfl, hD.sub [0] (by decide) rfl⟩, hS.F ht⟩) hS.2.2 dX5_init_13
set_option maxHeartbeats 4000000 in
set_option maxRecDepth 100000 in
theorem c_X1_init_o (l : Launch) (hl : l.stackTraces = false) (D : va_G) (cy : Nat → ClassId) (sa : Nat → Nat) (h0 : Nat) (sz : Nat) : Met l yX1_init wsX1_init ({ frames := 1, cells := 3, slots := 645, locals := 20 }) (va_Pc [.ref h0] (pcW D cy sa sz [(h0, .inr (1, [.null, .int 0, .null, .null]))])) (va_Qv (fun u : SU => (True)) (fun u t => atW D (va_A [(h0, .inr (1, [.null, .int 0, .null, .null]))] sz) [(h0, .inr (1, [.ref (u.1 0), .int 0, .ref (u.1 1), .ref (u.1 2)]))] t) (va_A [(h0, .inr (1, [.null, .int 0, .null, .null]))] sz)) 3 645 (va_A [(h0, .inr (1, [.null, .int 0, .null, .null]))] sz) := by
  refine Met.ofW (cc := cX1_init) (maxL := 1) (ret := none) (by decide) rfl ?_
  intro p e s m args below meth c s₁ B hml hv
  obtain ⟨rfl, hsz, hP, hG, hD0, hT⟩ := hv
  have hx := B.exec
  have hb := B.bytes
  have hr := B.returns
  have hts := atoms_spec (ws := wsX1_init) B.pre
  have hown : s.vm.findClass RX1 = some m.cls := findClass_of_methodNamed B.named
  have hlocks := B.notSynchronized
  have hin : meth.name = "<init>" := (name_of_methodNamed B.named B.method).1
  subst hsz
  have hD := hD0.self (sz := s.heap.size)
  generalize hAe : va_A [(h0, .inr (1, [.null, .int 0, .null, .null]))] s.heap.size = A at hD hT ⊢
  have hA : ∀ q : Nat, s.heap.size ≤ q → A q := fun q h => by rw [← hAe]; exact Or.inr h
  have hS : va_S A s.heap s.heap [] := va_S.rf
  have hl0 := lv_entry ([.ref h0]) (n := 1) (Nat.le_of_ble_eq_true rfl)
  rw [lg_entry_eq]
  generalize (lg_sl ([.ref h0]) ++ List.replicate (1 - (lg_sl ([.ref h0])).length) Slot.unset).toArray = ls at hl0 ⊢
  have hlv : lv_has ls 1 [(0, .ref h0)] := hl0
  have lo3 := hts (.methodLink RX1 3 objectInit) (by decide +kernel)
  have oi := hts (.instanceMethod objectInit) (by decide +kernel)
  have oc := hts (.code objectInit ⟨#[0xb1]⟩ 1 none) (by decide +kernel)
  have ac0 := hts (.arrayClass .int) (by decide +kernel)
  have lf11 := hts (.fieldLink RX1 11 "KerbSplash$Law" "steps" "[I") (by decide +kernel)
  have hi1 : ∀ w ∈ wsX10, w ∈ wsX1_init := by decide +kernel
  have lf17 := hts (.fieldLink RX1 17 "KerbSplash$Law" "starts" "[I") (by decide +kernel)
  have lf20 := hts (.fieldLink RX1 20 "KerbSplash$Law" "values" "[I") (by decide +kernel)
  refine lv_aload_n hx hb dX1_init_0 rfl (lv_at hlv 0 rfl) ?_
  refine W.objInit hx hb hown lo3 oi oc rfl (by rw [hml]; exact hlv.1) rfl dX1_init_1 (Nat.le_of_ble_eq_true rfl) (Nat.le_of_ble_eq_true rfl) ?_
  refine W.eq (g2 := F0 m 4 ls []) rfl ?_
  refine lv_aload_n hx hb dX1_init_4 rfl (lv_at hlv 0 rfl) ?_
  refine lv_sipush (v := 600) hx hb dX1_init_5 (by decide) ?_
  refine nw_a (atype := .int) (cy := cy) (a0 := (600, .inl (fun _ => 0))) (N' := 600) hx hb ac0 (ty := .int) rfl 0 rfl (fun C h => nomatch h) hG.1 hP hD hS hA (fun cA => rfl) (by decide) (by decide) (Nat.le_of_ble_eq_true rfl) (Nat.le_of_ble_eq_true rfl) (Nat.le_of_ble_eq_true rfl) dX1_init_8 (fun q_1 H hP hD hS => ?_)
  have hP : va_P D vwCl [(h0, .inr (1, [.null, .int 0, .null, .null])), (q_1, .inl (cy 0, 600, .inl (fun _ => 0)))] H := hP
  have hD : va_D A [(h0, .inr (1, [.null, .int 0, .null, .null])), (q_1, .inl (cy 0, 600, .inl (fun _ => 0)))] := hD
  refine va_putF (D := D) (ci := 1) (v := .ref q_1) (ty := .array .int) (C := RX1) (T := TX1) (N := 4) hx hb hts hi1 tyX1 tyX1_ok nmX1 hown hG.1 hP hD hS 0 rfl rfl 0 (by decide) lf11 (fun _ h9 => h9) rfl hin rfl (by decide +kernel) rfl rfl (Nat.le_of_ble_eq_true rfl) dX1_init_10 (fun H locs hP hD hS => ?_)
  have hP : va_P D vwCl [(h0, .inr (1, [.ref q_1, .int 0, .null, .null])), (q_1, .inl (cy 0, 600, .inl (fun _ => 0)))] H := hP
  have hD : va_D A [(h0, .inr (1, [.ref q_1, .int 0, .null, .null])), (q_1, .inl (cy 0, 600, .inl (fun _ => 0)))] := hD
  refine lv_aload_n hx hb dX1_init_13 rfl (lv_at hlv 0 rfl) ?_
  refine lv_iconst (v := 5) hx hb dX1_init_14 (by decide) ?_
  refine nw_a (atype := .int) (cy := cy) (a0 := (5, .inl (fun _ => 0))) (N' := 5) hx hb ac0 (ty := .int) rfl 0 rfl (fun C h => nomatch h) hG.1 hP hD hS hA (fun cA => rfl) (by decide) (by decide) (Nat.le_of_ble_eq_true rfl) (Nat.le_of_ble_eq_true rfl) (Nat.le_of_ble_eq_true rfl) dX1_init_15 (fun q_2 H hP hD hS => ?_)
  have hP : va_P D vwCl [(h0, .inr (1, [.ref q_1, .int 0, .null, .null])), (q_1, .inl (cy 0, 600, .inl (fun _ => 0))), (q_2, .inl (cy 0, 5, .inl (fun _ => 0)))] H := hP
  have hD : va_D A [(h0, .inr (1, [.ref q_1, .int 0, .null, .null])), (q_1, .inl (cy 0, 600, .inl (fun _ => 0))), (q_2, .inl (cy 0, 5, .inl (fun _ => 0)))] := hD
  refine va_putF (D := D) (ci := 1) (v := .ref q_2) (ty := .array .int) (C := RX1) (T := TX1) (N := 4) hx hb hts hi1 tyX1 tyX1_ok nmX1 hown hG.1 hP hD hS 0 rfl rfl 2 (by decide) lf17 (fun _ h9 => h9) rfl hin rfl (by decide +kernel) rfl rfl (Nat.le_of_ble_eq_true rfl) dX1_init_17 (fun H locs hP hD hS => ?_)
  have hP : va_P D vwCl [(h0, .inr (1, [.ref q_1, .int 0, .ref q_2, .null])), (q_1, .inl (cy 0, 600, .inl (fun _ => 0))), (q_2, .inl (cy 0, 5, .inl (fun _ => 0)))] H := hP
  have hD : va_D A [(h0, .inr (1, [.ref q_1, .int 0, .ref q_2, .null])), (q_1, .inl (cy 0, 600, .inl (fun _ => 0))), (q_2, .inl (cy 0, 5, .inl (fun _ => 0)))] := hD
  refine lv_aload_n hx hb dX1_init_20 rfl (lv_at hlv 0 rfl) ?_
  refine lv_bipush (v := 40) hx hb dX1_init_21 (by decide) ?_
  refine nw_a (atype := .int) (cy := cy) (a0 := (40, .inl (fun _ => 0))) (N' := 40) hx hb ac0 (ty := .int) rfl 0 rfl (fun C h => nomatch h) hG.1 hP hD hS hA (fun cA => rfl) (by decide) (by decide) (Nat.le_of_ble_eq_true rfl) (Nat.le_of_ble_eq_true rfl) (Nat.le_of_ble_eq_true rfl) dX1_init_23 (fun q_3 H hP hD hS => ?_)
  have hP : va_P D vwCl [(h0, .inr (1, [.ref q_1, .int 0, .ref q_2, .null])), (q_1, .inl (cy 0, 600, .inl (fun _ => 0))), (q_2, .inl (cy 0, 5, .inl (fun _ => 0))), (q_3, .inl (cy 0, 40, .inl (fun _ => 0)))] H := hP
  have hD : va_D A [(h0, .inr (1, [.ref q_1, .int 0, .ref q_2, .null])), (q_1, .inl (cy 0, 600, .inl (fun _ => 0))), (q_2, .inl (cy 0, 5, .inl (fun _ => 0))), (q_3, .inl (cy 0, 40, .inl (fun _ => 0)))] := hD
  refine va_putF (D := D) (ci := 1) (v := .ref q_3) (ty := .array .int) (C := RX1) (T := TX1) (N := 4) hx hb hts hi1 tyX1 tyX1_ok nmX1 hown hG.1 hP hD hS 0 rfl rfl 3 (by decide) lf20 (fun _ h9 => h9) rfl hin rfl (by decide +kernel) rfl rfl (Nat.le_of_ble_eq_true rfl) dX1_init_25 (fun H locs hP hD hS => ?_)
  have hP : va_P D vwCl [(h0, .inr (1, [.ref q_1, .int 0, .ref q_2, .ref q_3])), (q_1, .inl (cy 0, 600, .inl (fun _ => 0))), (q_2, .inl (cy 0, 5, .inl (fun _ => 0))), (q_3, .inl (cy 0, 40, .inl (fun _ => 0)))] H := hP
  have hD : va_D A [(h0, .inr (1, [.ref q_1, .int 0, .ref q_2, .ref q_3])), (q_1, .inl (cy 0, 600, .inl (fun _ => 0))), (q_2, .inl (cy 0, 5, .inl (fun _ => 0))), (q_3, .inl (cy 0, 40, .inl (fun _ => 0)))] := hD
  refine W.widen (k := 3) (n := 645) (Nat.le_of_ble_eq_true rfl) (Nat.le_of_ble_eq_true rfl) ?_
  exact W.vret hx hb hr (fun t ht hW => ⟨⟨((fun k => ([q_1, q_2, q_3] : List Nat).getD k 0), (fun k => ([] : List Int32).getD k 0), (fun k => ([] : List (Nat → Int32)).getD k (fun _ => 0))), rfl, (by first | (trivial)), by rw [ht]; exact hP.sub [0] rfl, hD.sub [0] (by decide) rfl⟩, hS.F ht⟩) hS.2.2 dX1_init_28
set_option maxHeartbeats 4000000 in
set_option maxRecDepth 100000 in
theorem c_X6_init_o (l : Launch) (hl : l.stackTraces = false) (D : va_G) (cy : Nat → ClassId) (sa : Nat → Nat) (h0 : Nat) (sz : Nat) : Met l yX6_init wsX6_init ({ frames := 1, cells := 6, slots := 404, locals := 20 }) (va_Pc [.ref h0] (pcW D cy sa sz [(h0, .inr (6, [.int 0, .int 0, .null, .null, .int 0, .int 0, .null, .int 0, .null, .int 0, .int 0, .null, .int 0, .null, .int 0, .int 0, .int 0, .int 0, .int 0]))])) (va_Qv (fun u : SU => (True)) (fun u t => atW D (va_A [(h0, .inr (6, [.int 0, .int 0, .null, .null, .int 0, .int 0, .null, .int 0, .null, .int 0, .int 0, .null, .int 0, .null, .int 0, .int 0, .int 0, .int 0, .int 0]))] sz) [(h0, .inr (6, [.int 0, .int 0, .ref (u.1 0), .ref (u.1 1), .int 0, .int 0, .ref (u.1 2), .int 0, .ref (u.1 3), .int 0, .int 0, .ref (u.1 4), .int 0, .ref (u.1 5), .int 0, .int 0, .int 0, .int 0, .int 0]))] t) (va_A [(h0, .inr (6, [.int 0, .int 0, .null, .null, .int 0, .int 0, .null, .int 0, .null, .int 0, .int 0, .null, .int 0, .null, .int 0, .int 0, .int 0, .int 0, .int 0]))] sz)) 6 404 (va_A [(h0, .inr (6, [.int 0, .int 0, .null, .null, .int 0, .int 0, .null, .int 0, .null, .int 0, .int 0, .null, .int 0, .null, .int 0, .int 0, .int 0, .int 0, .int 0]))] sz) := by
  refine Met.ofW (cc := cX6_init) (maxL := 1) (ret := none) (by decide) rfl ?_
  intro p e s m args below meth c s₁ B hml hv
  obtain ⟨rfl, hsz, hP, hG, hD0, hT⟩ := hv
  have hx := B.exec
  have hb := B.bytes
  have hr := B.returns
  have hts := atoms_spec (ws := wsX6_init) B.pre
  have hown : s.vm.findClass RX6 = some m.cls := findClass_of_methodNamed B.named
  have hlocks := B.notSynchronized
  have hin : meth.name = "<init>" := (name_of_methodNamed B.named B.method).1
  subst hsz
  have hD := hD0.self (sz := s.heap.size)
  generalize hAe : va_A [(h0, .inr (6, [.int 0, .int 0, .null, .null, .int 0, .int 0, .null, .int 0, .null, .int 0, .int 0, .null, .int 0, .null, .int 0, .int 0, .int 0, .int 0, .int 0]))] s.heap.size = A at hD hT ⊢
  have hA : ∀ q : Nat, s.heap.size ≤ q → A q := fun q h => by rw [← hAe]; exact Or.inr h
  have hS : va_S A s.heap s.heap [] := va_S.rf
  have hl0 := lv_entry ([.ref h0]) (n := 1) (Nat.le_of_ble_eq_true rfl)
  rw [lg_entry_eq]
  generalize (lg_sl ([.ref h0]) ++ List.replicate (1 - (lg_sl ([.ref h0])).length) Slot.unset).toArray = ls at hl0 ⊢
  have hlv : lv_has ls 1 [(0, .ref h0)] := hl0
  have lo1 := hts (.methodLink RX6 1 objectInit) (by decide +kernel)
  have oi := hts (.instanceMethod objectInit) (by decide +kernel)
  have oc := hts (.code objectInit ⟨#[0xb1]⟩ 1 none) (by decide +kernel)
  have ac0 := hts (.arrayClass .int) (by decide +kernel)
  have lf9 := hts (.fieldLink RX6 9 "KerbSplash$Street" "height" "[I") (by decide +kernel)
  have hi6 : ∀ w ∈ wsX60, w ∈ wsX6_init := by decide +kernel
  have lf13 := hts (.fieldLink RX6 13 "KerbSplash$Street" "water" "[I") (by decide +kernel)
  have lf16 := hts (.fieldLink RX6 16 "KerbSplash$Street" "drain" "[I") (by decide +kernel)
  have lf19 := hts (.fieldLink RX6 19 "KerbSplash$Street" "person" "[I") (by decide +kernel)
  have lf22 := hts (.fieldLink RX6 22 "KerbSplash$Street" "shelter" "[I") (by decide +kernel)
  have lf25 := hts (.fieldLink RX6 25 "KerbSplash$Street" "work" "[I") (by decide +kernel)
  refine lv_aload_n hx hb dX6_init_0 rfl (lv_at hlv 0 rfl) ?_
  refine W.objInit hx hb hown lo1 oi oc rfl (by rw [hml]; exact hlv.1) rfl dX6_init_1 (Nat.le_of_ble_eq_true rfl) (Nat.le_of_ble_eq_true rfl) ?_
  refine W.eq (g2 := F0 m 4 ls []) rfl ?_
  refine lv_aload_n hx hb dX6_init_4 rfl (lv_at hlv 0 rfl) ?_
  refine lv_bipush (v := 96) hx hb dX6_init_5 (by decide) ?_
  refine nw_a (atype := .int) (cy := cy) (a0 := (96, .inl (fun _ => 0))) (N' := 96) hx hb ac0 (ty := .int) rfl 0 rfl (fun C h => nomatch h) hG.1 hP hD hS hA (fun cA => rfl) (by decide) (by decide) (Nat.le_of_ble_eq_true rfl) (Nat.le_of_ble_eq_true rfl) (Nat.le_of_ble_eq_true rfl) dX6_init_7 (fun q_1 H hP hD hS => ?_)
  have hP : va_P D vwCl [(h0, .inr (6, [.int 0, .int 0, .null, .null, .int 0, .int 0, .null, .int 0, .null, .int 0, .int 0, .null, .int 0, .null, .int 0, .int 0, .int 0, .int 0, .int 0])), (q_1, .inl (cy 0, 96, .inl (fun _ => 0)))] H := hP
  have hD : va_D A [(h0, .inr (6, [.int 0, .int 0, .null, .null, .int 0, .int 0, .null, .int 0, .null, .int 0, .int 0, .null, .int 0, .null, .int 0, .int 0, .int 0, .int 0, .int 0])), (q_1, .inl (cy 0, 96, .inl (fun _ => 0)))] := hD
  refine va_putF (D := D) (ci := 6) (v := .ref q_1) (ty := .array .int) (C := RX6) (T := TX6) (N := 19) hx hb hts hi6 tyX6 tyX6_ok nmX6 hown hG.1 hP hD hS 0 rfl rfl 2 (by decide) lf9 (fun _ h9 => h9) rfl hin rfl (by decide +kernel) rfl rfl (Nat.le_of_ble_eq_true rfl) dX6_init_9 (fun H locs hP hD hS => ?_)
  have hP : va_P D vwCl [(h0, .inr (6, [.int 0, .int 0, .ref q_1, .null, .int 0, .int 0, .null, .int 0, .null, .int 0, .int 0, .null, .int 0, .null, .int 0, .int 0, .int 0, .int 0, .int 0])), (q_1, .inl (cy 0, 96, .inl (fun _ => 0)))] H := hP
  have hD : va_D A [(h0, .inr (6, [.int 0, .int 0, .ref q_1, .null, .int 0, .int 0, .null, .int 0, .null, .int 0, .int 0, .null, .int 0, .null, .int 0, .int 0, .int 0, .int 0, .int 0])), (q_1, .inl (cy 0, 96, .inl (fun _ => 0)))] := hD
  refine lv_aload_n hx hb dX6_init_12 rfl (lv_at hlv 0 rfl) ?_
  refine lv_bipush (v := 96) hx hb dX6_init_13 (by decide) ?_
  refine nw_a (atype := .int) (cy := cy) (a0 := (96, .inl (fun _ => 0))) (N' := 96) hx hb ac0 (ty := .int) rfl 0 rfl (fun C h => nomatch h) hG.1 hP hD hS hA (fun cA => rfl) (by decide) (by decide) (Nat.le_of_ble_eq_true rfl) (Nat.le_of_ble_eq_true rfl) (Nat.le_of_ble_eq_true rfl) dX6_init_15 (fun q_2 H hP hD hS => ?_)
  have hP : va_P D vwCl [(h0, .inr (6, [.int 0, .int 0, .ref q_1, .null, .int 0, .int 0, .null, .int 0, .null, .int 0, .int 0, .null, .int 0, .null, .int 0, .int 0, .int 0, .int 0, .int 0])), (q_1, .inl (cy 0, 96, .inl (fun _ => 0))), (q_2, .inl (cy 0, 96, .inl (fun _ => 0)))] H := hP
  have hD : va_D A [(h0, .inr (6, [.int 0, .int 0, .ref q_1, .null, .int 0, .int 0, .null, .int 0, .null, .int 0, .int 0, .null, .int 0, .null, .int 0, .int 0, .int 0, .int 0, .int 0])), (q_1, .inl (cy 0, 96, .inl (fun _ => 0))), (q_2, .inl (cy 0, 96, .inl (fun _ => 0)))] := hD
  refine va_putF (D := D) (ci := 6) (v := .ref q_2) (ty := .array .int) (C := RX6) (T := TX6) (N := 19) hx hb hts hi6 tyX6 tyX6_ok nmX6 hown hG.1 hP hD hS 0 rfl rfl 3 (by decide) lf13 (fun _ h9 => h9) rfl hin rfl (by decide +kernel) rfl rfl (Nat.le_of_ble_eq_true rfl) dX6_init_17 (fun H locs hP hD hS => ?_)
  have hP : va_P D vwCl [(h0, .inr (6, [.int 0, .int 0, .ref q_1, .ref q_2, .int 0, .int 0, .null, .int 0, .null, .int 0, .int 0, .null, .int 0, .null, .int 0, .int 0, .int 0, .int 0, .int 0])), (q_1, .inl (cy 0, 96, .inl (fun _ => 0))), (q_2, .inl (cy 0, 96, .inl (fun _ => 0)))] H := hP
  have hD : va_D A [(h0, .inr (6, [.int 0, .int 0, .ref q_1, .ref q_2, .int 0, .int 0, .null, .int 0, .null, .int 0, .int 0, .null, .int 0, .null, .int 0, .int 0, .int 0, .int 0, .int 0])), (q_1, .inl (cy 0, 96, .inl (fun _ => 0))), (q_2, .inl (cy 0, 96, .inl (fun _ => 0)))] := hD
  refine lv_aload_n hx hb dX6_init_20 rfl (lv_at hlv 0 rfl) ?_
  refine lv_bipush (v := 56) hx hb dX6_init_21 (by decide) ?_
  refine nw_a (atype := .int) (cy := cy) (a0 := (56, .inl (fun _ => 0))) (N' := 56) hx hb ac0 (ty := .int) rfl 0 rfl (fun C h => nomatch h) hG.1 hP hD hS hA (fun cA => rfl) (by decide) (by decide) (Nat.le_of_ble_eq_true rfl) (Nat.le_of_ble_eq_true rfl) (Nat.le_of_ble_eq_true rfl) dX6_init_23 (fun q_3 H hP hD hS => ?_)
  have hP : va_P D vwCl [(h0, .inr (6, [.int 0, .int 0, .ref q_1, .ref q_2, .int 0, .int 0, .null, .int 0, .null, .int 0, .int 0, .null, .int 0, .null, .int 0, .int 0, .int 0, .int 0, .int 0])), (q_1, .inl (cy 0, 96, .inl (fun _ => 0))), (q_2, .inl (cy 0, 96, .inl (fun _ => 0))), (q_3, .inl (cy 0, 56, .inl (fun _ => 0)))] H := hP
  have hD : va_D A [(h0, .inr (6, [.int 0, .int 0, .ref q_1, .ref q_2, .int 0, .int 0, .null, .int 0, .null, .int 0, .int 0, .null, .int 0, .null, .int 0, .int 0, .int 0, .int 0, .int 0])), (q_1, .inl (cy 0, 96, .inl (fun _ => 0))), (q_2, .inl (cy 0, 96, .inl (fun _ => 0))), (q_3, .inl (cy 0, 56, .inl (fun _ => 0)))] := hD
  refine va_putF (D := D) (ci := 6) (v := .ref q_3) (ty := .array .int) (C := RX6) (T := TX6) (N := 19) hx hb hts hi6 tyX6 tyX6_ok nmX6 hown hG.1 hP hD hS 0 rfl rfl 6 (by decide) lf16 (fun _ h9 => h9) rfl hin rfl (by decide +kernel) rfl rfl (Nat.le_of_ble_eq_true rfl) dX6_init_25 (fun H locs hP hD hS => ?_)
  have hP : va_P D vwCl [(h0, .inr (6, [.int 0, .int 0, .ref q_1, .ref q_2, .int 0, .int 0, .ref q_3, .int 0, .null, .int 0, .int 0, .null, .int 0, .null, .int 0, .int 0, .int 0, .int 0, .int 0])), (q_1, .inl (cy 0, 96, .inl (fun _ => 0))), (q_2, .inl (cy 0, 96, .inl (fun _ => 0))), (q_3, .inl (cy 0, 56, .inl (fun _ => 0)))] H := hP
  have hD : va_D A [(h0, .inr (6, [.int 0, .int 0, .ref q_1, .ref q_2, .int 0, .int 0, .ref q_3, .int 0, .null, .int 0, .int 0, .null, .int 0, .null, .int 0, .int 0, .int 0, .int 0, .int 0])), (q_1, .inl (cy 0, 96, .inl (fun _ => 0))), (q_2, .inl (cy 0, 96, .inl (fun _ => 0))), (q_3, .inl (cy 0, 56, .inl (fun _ => 0)))] := hD
  refine lv_aload_n hx hb dX6_init_28 rfl (lv_at hlv 0 rfl) ?_
  refine lv_bipush (v := 112) hx hb dX6_init_29 (by decide) ?_
  refine nw_a (atype := .int) (cy := cy) (a0 := (112, .inl (fun _ => 0))) (N' := 112) hx hb ac0 (ty := .int) rfl 0 rfl (fun C h => nomatch h) hG.1 hP hD hS hA (fun cA => rfl) (by decide) (by decide) (Nat.le_of_ble_eq_true rfl) (Nat.le_of_ble_eq_true rfl) (Nat.le_of_ble_eq_true rfl) dX6_init_31 (fun q_4 H hP hD hS => ?_)
  have hP : va_P D vwCl [(h0, .inr (6, [.int 0, .int 0, .ref q_1, .ref q_2, .int 0, .int 0, .ref q_3, .int 0, .null, .int 0, .int 0, .null, .int 0, .null, .int 0, .int 0, .int 0, .int 0, .int 0])), (q_1, .inl (cy 0, 96, .inl (fun _ => 0))), (q_2, .inl (cy 0, 96, .inl (fun _ => 0))), (q_3, .inl (cy 0, 56, .inl (fun _ => 0))), (q_4, .inl (cy 0, 112, .inl (fun _ => 0)))] H := hP
  have hD : va_D A [(h0, .inr (6, [.int 0, .int 0, .ref q_1, .ref q_2, .int 0, .int 0, .ref q_3, .int 0, .null, .int 0, .int 0, .null, .int 0, .null, .int 0, .int 0, .int 0, .int 0, .int 0])), (q_1, .inl (cy 0, 96, .inl (fun _ => 0))), (q_2, .inl (cy 0, 96, .inl (fun _ => 0))), (q_3, .inl (cy 0, 56, .inl (fun _ => 0))), (q_4, .inl (cy 0, 112, .inl (fun _ => 0)))] := hD
  refine va_putF (D := D) (ci := 6) (v := .ref q_4) (ty := .array .int) (C := RX6) (T := TX6) (N := 19) hx hb hts hi6 tyX6 tyX6_ok nmX6 hown hG.1 hP hD hS 0 rfl rfl 8 (by decide) lf19 (fun _ h9 => h9) rfl hin rfl (by decide +kernel) rfl rfl (Nat.le_of_ble_eq_true rfl) dX6_init_33 (fun H locs hP hD hS => ?_)
  have hP : va_P D vwCl [(h0, .inr (6, [.int 0, .int 0, .ref q_1, .ref q_2, .int 0, .int 0, .ref q_3, .int 0, .ref q_4, .int 0, .int 0, .null, .int 0, .null, .int 0, .int 0, .int 0, .int 0, .int 0])), (q_1, .inl (cy 0, 96, .inl (fun _ => 0))), (q_2, .inl (cy 0, 96, .inl (fun _ => 0))), (q_3, .inl (cy 0, 56, .inl (fun _ => 0))), (q_4, .inl (cy 0, 112, .inl (fun _ => 0)))] H := hP
  have hD : va_D A [(h0, .inr (6, [.int 0, .int 0, .ref q_1, .ref q_2, .int 0, .int 0, .ref q_3, .int 0, .ref q_4, .int 0, .int 0, .null, .int 0, .null, .int 0, .int 0, .int 0, .int 0, .int 0])), (q_1, .inl (cy 0, 96, .inl (fun _ => 0))), (q_2, .inl (cy 0, 96, .inl (fun _ => 0))), (q_3, .inl (cy 0, 56, .inl (fun _ => 0))), (q_4, .inl (cy 0, 112, .inl (fun _ => 0)))] := hD
  refine lv_aload_n hx hb dX6_init_36 rfl (lv_at hlv 0 rfl) ?_
  refine lv_iconst (v := 4) hx hb dX6_init_37 (by decide) ?_
  refine nw_a (atype := .int) (cy := cy) (a0 := (4, .inl (fun _ => 0))) (N' := 4) hx hb ac0 (ty := .int) rfl 0 rfl (fun C h => nomatch h) hG.1 hP hD hS hA (fun cA => rfl) (by decide) (by decide) (Nat.le_of_ble_eq_true rfl) (Nat.le_of_ble_eq_true rfl) (Nat.le_of_ble_eq_true rfl) dX6_init_38 (fun q_5 H hP hD hS => ?_)
  have hP : va_P D vwCl [(h0, .inr (6, [.int 0, .int 0, .ref q_1, .ref q_2, .int 0, .int 0, .ref q_3, .int 0, .ref q_4, .int 0, .int 0, .null, .int 0, .null, .int 0, .int 0, .int 0, .int 0, .int 0])), (q_1, .inl (cy 0, 96, .inl (fun _ => 0))), (q_2, .inl (cy 0, 96, .inl (fun _ => 0))), (q_3, .inl (cy 0, 56, .inl (fun _ => 0))), (q_4, .inl (cy 0, 112, .inl (fun _ => 0))), (q_5, .inl (cy 0, 4, .inl (fun _ => 0)))] H := hP
  have hD : va_D A [(h0, .inr (6, [.int 0, .int 0, .ref q_1, .ref q_2, .int 0, .int 0, .ref q_3, .int 0, .ref q_4, .int 0, .int 0, .null, .int 0, .null, .int 0, .int 0, .int 0, .int 0, .int 0])), (q_1, .inl (cy 0, 96, .inl (fun _ => 0))), (q_2, .inl (cy 0, 96, .inl (fun _ => 0))), (q_3, .inl (cy 0, 56, .inl (fun _ => 0))), (q_4, .inl (cy 0, 112, .inl (fun _ => 0))), (q_5, .inl (cy 0, 4, .inl (fun _ => 0)))] := hD
  refine va_putF (D := D) (ci := 6) (v := .ref q_5) (ty := .array .int) (C := RX6) (T := TX6) (N := 19) hx hb hts hi6 tyX6 tyX6_ok nmX6 hown hG.1 hP hD hS 0 rfl rfl 11 (by decide) lf22 (fun _ h9 => h9) rfl hin rfl (by decide +kernel) rfl rfl (Nat.le_of_ble_eq_true rfl) dX6_init_40 (fun H locs hP hD hS => ?_)
  have hP : va_P D vwCl [(h0, .inr (6, [.int 0, .int 0, .ref q_1, .ref q_2, .int 0, .int 0, .ref q_3, .int 0, .ref q_4, .int 0, .int 0, .ref q_5, .int 0, .null, .int 0, .int 0, .int 0, .int 0, .int 0])), (q_1, .inl (cy 0, 96, .inl (fun _ => 0))), (q_2, .inl (cy 0, 96, .inl (fun _ => 0))), (q_3, .inl (cy 0, 56, .inl (fun _ => 0))), (q_4, .inl (cy 0, 112, .inl (fun _ => 0))), (q_5, .inl (cy 0, 4, .inl (fun _ => 0)))] H := hP
  have hD : va_D A [(h0, .inr (6, [.int 0, .int 0, .ref q_1, .ref q_2, .int 0, .int 0, .ref q_3, .int 0, .ref q_4, .int 0, .int 0, .ref q_5, .int 0, .null, .int 0, .int 0, .int 0, .int 0, .int 0])), (q_1, .inl (cy 0, 96, .inl (fun _ => 0))), (q_2, .inl (cy 0, 96, .inl (fun _ => 0))), (q_3, .inl (cy 0, 56, .inl (fun _ => 0))), (q_4, .inl (cy 0, 112, .inl (fun _ => 0))), (q_5, .inl (cy 0, 4, .inl (fun _ => 0)))] := hD
  refine lv_aload_n hx hb dX6_init_43 rfl (lv_at hlv 0 rfl) ?_
  refine lv_bipush (v := 40) hx hb dX6_init_44 (by decide) ?_
  refine nw_a (atype := .int) (cy := cy) (a0 := (40, .inl (fun _ => 0))) (N' := 40) hx hb ac0 (ty := .int) rfl 0 rfl (fun C h => nomatch h) hG.1 hP hD hS hA (fun cA => rfl) (by decide) (by decide) (Nat.le_of_ble_eq_true rfl) (Nat.le_of_ble_eq_true rfl) (Nat.le_of_ble_eq_true rfl) dX6_init_46 (fun q_6 H hP hD hS => ?_)
  have hP : va_P D vwCl [(h0, .inr (6, [.int 0, .int 0, .ref q_1, .ref q_2, .int 0, .int 0, .ref q_3, .int 0, .ref q_4, .int 0, .int 0, .ref q_5, .int 0, .null, .int 0, .int 0, .int 0, .int 0, .int 0])), (q_1, .inl (cy 0, 96, .inl (fun _ => 0))), (q_2, .inl (cy 0, 96, .inl (fun _ => 0))), (q_3, .inl (cy 0, 56, .inl (fun _ => 0))), (q_4, .inl (cy 0, 112, .inl (fun _ => 0))), (q_5, .inl (cy 0, 4, .inl (fun _ => 0))), (q_6, .inl (cy 0, 40, .inl (fun _ => 0)))] H := hP
  have hD : va_D A [(h0, .inr (6, [.int 0, .int 0, .ref q_1, .ref q_2, .int 0, .int 0, .ref q_3, .int 0, .ref q_4, .int 0, .int 0, .ref q_5, .int 0, .null, .int 0, .int 0, .int 0, .int 0, .int 0])), (q_1, .inl (cy 0, 96, .inl (fun _ => 0))), (q_2, .inl (cy 0, 96, .inl (fun _ => 0))), (q_3, .inl (cy 0, 56, .inl (fun _ => 0))), (q_4, .inl (cy 0, 112, .inl (fun _ => 0))), (q_5, .inl (cy 0, 4, .inl (fun _ => 0))), (q_6, .inl (cy 0, 40, .inl (fun _ => 0)))] := hD
  refine va_putF (D := D) (ci := 6) (v := .ref q_6) (ty := .array .int) (C := RX6) (T := TX6) (N := 19) hx hb hts hi6 tyX6 tyX6_ok nmX6 hown hG.1 hP hD hS 0 rfl rfl 13 (by decide) lf25 (fun _ h9 => h9) rfl hin rfl (by decide +kernel) rfl rfl (Nat.le_of_ble_eq_true rfl) dX6_init_48 (fun H locs hP hD hS => ?_)
  have hP : va_P D vwCl [(h0, .inr (6, [.int 0, .int 0, .ref q_1, .ref q_2, .int 0, .int 0, .ref q_3, .int 0, .ref q_4, .int 0, .int 0, .ref q_5, .int 0, .ref q_6, .int 0, .int 0, .int 0, .int 0, .int 0])), (q_1, .inl (cy 0, 96, .inl (fun _ => 0))), (q_2, .inl (cy 0, 96, .inl (fun _ => 0))), (q_3, .inl (cy 0, 56, .inl (fun _ => 0))), (q_4, .inl (cy 0, 112, .inl (fun _ => 0))), (q_5, .inl (cy 0, 4, .inl (fun _ => 0))), (q_6, .inl (cy 0, 40, .inl (fun _ => 0)))] H := hP
  have hD : va_D A [(h0, .inr (6, [.int 0, .int 0, .ref q_1, .ref q_2, .int 0, .int 0, .ref q_3, .int 0, .ref q_4, .int 0, .int 0, .ref q_5, .int 0, .ref q_6, .int 0, .int 0, .int 0, .int 0, .int 0])), (q_1, .inl (cy 0, 96, .inl (fun _ => 0))), (q_2, .inl (cy 0, 96, .inl (fun _ => 0))), (q_3, .inl (cy 0, 56, .inl (fun _ => 0))), (q_4, .inl (cy 0, 112, .inl (fun _ => 0))), (q_5, .inl (cy 0, 4, .inl (fun _ => 0))), (q_6, .inl (cy 0, 40, .inl (fun _ => 0)))] := hD
  refine W.widen (k := 6) (n := 404) (Nat.le_of_ble_eq_true rfl) (Nat.le_of_ble_eq_true rfl) ?_
  exact W.vret hx hb hr (fun t ht hW => ⟨⟨((fun k => ([q_1, q_2, q_3, q_4, q_5, q_6] : List Nat).getD k 0), (fun k => ([] : List Int32).getD k 0), (fun k => ([] : List (Nat → Int32)).getD k (fun _ => 0))), rfl, (by first | (trivial)), by rw [ht]; exact hP.sub [0] rfl, hD.sub [0] (by decide) rfl⟩, hS.F ht⟩) hS.2.2 dX6_init_51
set_option maxHeartbeats 4000000 in
set_option maxRecDepth 100000 in
theorem c_X3_init_o (l : Launch) (hl : l.stackTraces = false) (D : va_G) (cy : Nat → ClassId) (sa : Nat → Nat) (h0 : Nat) (sz : Nat) : Met l yX3_init wsX3_init ({ frames := 1, cells := 1, slots := 512, locals := 20 }) (va_Pc [.ref h0] (pcW D cy sa sz [(h0, .inr (3, [.int 0, .int 0, .int 0, .null]))])) (va_Qv (fun u : SU => (True)) (fun u t => atW D (va_A [(h0, .inr (3, [.int 0, .int 0, .int 0, .null]))] sz) [(h0, .inr (3, [.int 0, .int 0, .int 0, .ref (u.1 0)]))] t) (va_A [(h0, .inr (3, [.int 0, .int 0, .int 0, .null]))] sz)) 1 512 (va_A [(h0, .inr (3, [.int 0, .int 0, .int 0, .null]))] sz) := by
  refine Met.ofW (cc := cX3_init) (maxL := 1) (ret := none) (by decide) rfl ?_
  intro p e s m args below meth c s₁ B hml hv
  obtain ⟨rfl, hsz, hP, hG, hD0, hT⟩ := hv
  have hx := B.exec
  have hb := B.bytes
  have hr := B.returns
  have hts := atoms_spec (ws := wsX3_init) B.pre
  have hown : s.vm.findClass RX3 = some m.cls := findClass_of_methodNamed B.named
  have hlocks := B.notSynchronized
  have hin : meth.name = "<init>" := (name_of_methodNamed B.named B.method).1
  subst hsz
  have hD := hD0.self (sz := s.heap.size)
  generalize hAe : va_A [(h0, .inr (3, [.int 0, .int 0, .int 0, .null]))] s.heap.size = A at hD hT ⊢
  have hA : ∀ q : Nat, s.heap.size ≤ q → A q := fun q h => by rw [← hAe]; exact Or.inr h
  have hS : va_S A s.heap s.heap [] := va_S.rf
  have hl0 := lv_entry ([.ref h0]) (n := 1) (Nat.le_of_ble_eq_true rfl)
  rw [lg_entry_eq]
  generalize (lg_sl ([.ref h0]) ++ List.replicate (1 - (lg_sl ([.ref h0])).length) Slot.unset).toArray = ls at hl0 ⊢
  have hlv : lv_has ls 1 [(0, .ref h0)] := hl0
  have lo3 := hts (.methodLink RX3 3 objectInit) (by decide +kernel)
  have oi := hts (.instanceMethod objectInit) (by decide +kernel)
  have oc := hts (.code objectInit ⟨#[0xb1]⟩ 1 none) (by decide +kernel)
  have ac0 := hts (.arrayClass .int) (by decide +kernel)
  have lf11 := hts (.fieldLink RX3 11 "KerbSplash$Orders" "best" "[I") (by decide +kernel)
  have hi3 : ∀ w ∈ wsX30, w ∈ wsX3_init := by decide +kernel
  refine lv_aload_n hx hb dX3_init_0 rfl (lv_at hlv 0 rfl) ?_
  refine W.objInit hx hb hown lo3 oi oc rfl (by rw [hml]; exact hlv.1) rfl dX3_init_1 (Nat.le_of_ble_eq_true rfl) (Nat.le_of_ble_eq_true rfl) ?_
  refine W.eq (g2 := F0 m 4 ls []) rfl ?_
  refine lv_aload_n hx hb dX3_init_4 rfl (lv_at hlv 0 rfl) ?_
  refine lv_sipush (v := 512) hx hb dX3_init_5 (by decide) ?_
  refine nw_a (atype := .int) (cy := cy) (a0 := (512, .inl (fun _ => 0))) (N' := 512) hx hb ac0 (ty := .int) rfl 0 rfl (fun C h => nomatch h) hG.1 hP hD hS hA (fun cA => rfl) (by decide) (by decide) (Nat.le_of_ble_eq_true rfl) (Nat.le_of_ble_eq_true rfl) (Nat.le_of_ble_eq_true rfl) dX3_init_8 (fun q_1 H hP hD hS => ?_)
  have hP : va_P D vwCl [(h0, .inr (3, [.int 0, .int 0, .int 0, .null])), (q_1, .inl (cy 0, 512, .inl (fun _ => 0)))] H := hP
  have hD : va_D A [(h0, .inr (3, [.int 0, .int 0, .int 0, .null])), (q_1, .inl (cy 0, 512, .inl (fun _ => 0)))] := hD
  refine va_putF (D := D) (ci := 3) (v := .ref q_1) (ty := .array .int) (C := RX3) (T := TX3) (N := 4) hx hb hts hi3 tyX3 tyX3_ok nmX3 hown hG.1 hP hD hS 0 rfl rfl 3 (by decide) lf11 (fun _ h9 => h9) rfl hin rfl (by decide +kernel) rfl rfl (Nat.le_of_ble_eq_true rfl) dX3_init_10 (fun H locs hP hD hS => ?_)
  have hP : va_P D vwCl [(h0, .inr (3, [.int 0, .int 0, .int 0, .ref q_1])), (q_1, .inl (cy 0, 512, .inl (fun _ => 0)))] H := hP
  have hD : va_D A [(h0, .inr (3, [.int 0, .int 0, .int 0, .ref q_1])), (q_1, .inl (cy 0, 512, .inl (fun _ => 0)))] := hD
  refine W.widen (k := 1) (n := 512) (Nat.le_of_ble_eq_true rfl) (Nat.le_of_ble_eq_true rfl) ?_
  exact W.vret hx hb hr (fun t ht hW => ⟨⟨((fun k => ([q_1] : List Nat).getD k 0), (fun k => ([] : List Int32).getD k 0), (fun k => ([] : List (Nat → Int32)).getD k (fun _ => 0))), rfl, (by first | (trivial)), by rw [ht]; exact hP.sub [0] rfl, hD.sub [0] (by decide) rfl⟩, hS.F ht⟩) hS.2.2 dX3_init_13
set_option maxHeartbeats 4000000 in
set_option maxRecDepth 100000 in
theorem c_X4_init_o (l : Launch) (hl : l.stackTraces = false) (D : va_G) (cy : Nat → ClassId) (sa : Nat → Nat) (h0 : Nat) (sz : Nat) : Met l yX4_init wsX4_init ({ frames := 1, cells := 3, slots := 131, locals := 20 }) (va_Pc [.ref h0] (pcW D cy sa sz [(h0, .inr (4, [.int 0, .null, .int 0, .null, .null]))])) (va_Qv (fun u : SU => (True)) (fun u t => atW D (va_A [(h0, .inr (4, [.int 0, .null, .int 0, .null, .null]))] sz) [(h0, .inr (4, [.int 0, .ref (u.1 0), .int 0, .ref (u.1 1), .ref (u.1 2)]))] t) (va_A [(h0, .inr (4, [.int 0, .null, .int 0, .null, .null]))] sz)) 3 131 (va_A [(h0, .inr (4, [.int 0, .null, .int 0, .null, .null]))] sz) := by
  refine Met.ofW (cc := cX4_init) (maxL := 1) (ret := none) (by decide) rfl ?_
  intro p e s m args below meth c s₁ B hml hv
  obtain ⟨rfl, hsz, hP, hG, hD0, hT⟩ := hv
  have hx := B.exec
  have hb := B.bytes
  have hr := B.returns
  have hts := atoms_spec (ws := wsX4_init) B.pre
  have hown : s.vm.findClass RX4 = some m.cls := findClass_of_methodNamed B.named
  have hlocks := B.notSynchronized
  have hin : meth.name = "<init>" := (name_of_methodNamed B.named B.method).1
  subst hsz
  have hD := hD0.self (sz := s.heap.size)
  generalize hAe : va_A [(h0, .inr (4, [.int 0, .null, .int 0, .null, .null]))] s.heap.size = A at hD hT ⊢
  have hA : ∀ q : Nat, s.heap.size ≤ q → A q := fun q h => by rw [← hAe]; exact Or.inr h
  have hS : va_S A s.heap s.heap [] := va_S.rf
  have hl0 := lv_entry ([.ref h0]) (n := 1) (Nat.le_of_ble_eq_true rfl)
  rw [lg_entry_eq]
  generalize (lg_sl ([.ref h0]) ++ List.replicate (1 - (lg_sl ([.ref h0])).length) Slot.unset).toArray = ls at hl0 ⊢
  have hlv : lv_has ls 1 [(0, .ref h0)] := hl0
  have lo3 := hts (.methodLink RX4 3 objectInit) (by decide +kernel)
  have oi := hts (.instanceMethod objectInit) (by decide +kernel)
  have oc := hts (.code objectInit ⟨#[0xb1]⟩ 1 none) (by decide +kernel)
  have ac0 := hts (.arrayClass .int) (by decide +kernel)
  have lf11 := hts (.fieldLink RX4 11 "KerbSplash$Plan" "traffic" "[I") (by decide +kernel)
  have hi4 : ∀ w ∈ wsX40, w ∈ wsX4_init := by decide +kernel
  have lf15 := hts (.fieldLink RX4 15 "KerbSplash$Plan" "dip" "[I") (by decide +kernel)
  have lf18 := hts (.fieldLink RX4 18 "KerbSplash$Plan" "shares" "[I") (by decide +kernel)
  refine lv_aload_n hx hb dX4_init_0 rfl (lv_at hlv 0 rfl) ?_
  refine W.objInit hx hb hown lo3 oi oc rfl (by rw [hml]; exact hlv.1) rfl dX4_init_1 (Nat.le_of_ble_eq_true rfl) (Nat.le_of_ble_eq_true rfl) ?_
  refine W.eq (g2 := F0 m 4 ls []) rfl ?_
  refine lv_aload_n hx hb dX4_init_4 rfl (lv_at hlv 0 rfl) ?_
  refine lv_bipush (v := 100) hx hb dX4_init_5 (by decide) ?_
  refine nw_a (atype := .int) (cy := cy) (a0 := (100, .inl (fun _ => 0))) (N' := 100) hx hb ac0 (ty := .int) rfl 0 rfl (fun C h => nomatch h) hG.1 hP hD hS hA (fun cA => rfl) (by decide) (by decide) (Nat.le_of_ble_eq_true rfl) (Nat.le_of_ble_eq_true rfl) (Nat.le_of_ble_eq_true rfl) dX4_init_7 (fun q_1 H hP hD hS => ?_)
  have hP : va_P D vwCl [(h0, .inr (4, [.int 0, .null, .int 0, .null, .null])), (q_1, .inl (cy 0, 100, .inl (fun _ => 0)))] H := hP
  have hD : va_D A [(h0, .inr (4, [.int 0, .null, .int 0, .null, .null])), (q_1, .inl (cy 0, 100, .inl (fun _ => 0)))] := hD
  refine va_putF (D := D) (ci := 4) (v := .ref q_1) (ty := .array .int) (C := RX4) (T := TX4) (N := 5) hx hb hts hi4 tyX4 tyX4_ok nmX4 hown hG.1 hP hD hS 0 rfl rfl 1 (by decide) lf11 (fun _ h9 => h9) rfl hin rfl (by decide +kernel) rfl rfl (Nat.le_of_ble_eq_true rfl) dX4_init_9 (fun H locs hP hD hS => ?_)
  have hP : va_P D vwCl [(h0, .inr (4, [.int 0, .ref q_1, .int 0, .null, .null])), (q_1, .inl (cy 0, 100, .inl (fun _ => 0)))] H := hP
  have hD : va_D A [(h0, .inr (4, [.int 0, .ref q_1, .int 0, .null, .null])), (q_1, .inl (cy 0, 100, .inl (fun _ => 0)))] := hD
  refine lv_aload_n hx hb dX4_init_12 rfl (lv_at hlv 0 rfl) ?_
  refine lv_bipush (v := 27) hx hb dX4_init_13 (by decide) ?_
  refine nw_a (atype := .int) (cy := cy) (a0 := (27, .inl (fun _ => 0))) (N' := 27) hx hb ac0 (ty := .int) rfl 0 rfl (fun C h => nomatch h) hG.1 hP hD hS hA (fun cA => rfl) (by decide) (by decide) (Nat.le_of_ble_eq_true rfl) (Nat.le_of_ble_eq_true rfl) (Nat.le_of_ble_eq_true rfl) dX4_init_15 (fun q_2 H hP hD hS => ?_)
  have hP : va_P D vwCl [(h0, .inr (4, [.int 0, .ref q_1, .int 0, .null, .null])), (q_1, .inl (cy 0, 100, .inl (fun _ => 0))), (q_2, .inl (cy 0, 27, .inl (fun _ => 0)))] H := hP
  have hD : va_D A [(h0, .inr (4, [.int 0, .ref q_1, .int 0, .null, .null])), (q_1, .inl (cy 0, 100, .inl (fun _ => 0))), (q_2, .inl (cy 0, 27, .inl (fun _ => 0)))] := hD
  refine va_putF (D := D) (ci := 4) (v := .ref q_2) (ty := .array .int) (C := RX4) (T := TX4) (N := 5) hx hb hts hi4 tyX4 tyX4_ok nmX4 hown hG.1 hP hD hS 0 rfl rfl 3 (by decide) lf15 (fun _ h9 => h9) rfl hin rfl (by decide +kernel) rfl rfl (Nat.le_of_ble_eq_true rfl) dX4_init_17 (fun H locs hP hD hS => ?_)
  have hP : va_P D vwCl [(h0, .inr (4, [.int 0, .ref q_1, .int 0, .ref q_2, .null])), (q_1, .inl (cy 0, 100, .inl (fun _ => 0))), (q_2, .inl (cy 0, 27, .inl (fun _ => 0)))] H := hP
  have hD : va_D A [(h0, .inr (4, [.int 0, .ref q_1, .int 0, .ref q_2, .null])), (q_1, .inl (cy 0, 100, .inl (fun _ => 0))), (q_2, .inl (cy 0, 27, .inl (fun _ => 0)))] := hD
  refine lv_aload_n hx hb dX4_init_20 rfl (lv_at hlv 0 rfl) ?_
  refine lv_iconst (v := 4) hx hb dX4_init_21 (by decide) ?_
  refine nw_a (atype := .int) (cy := cy) (a0 := (4, .inl (fun _ => 0))) (N' := 4) hx hb ac0 (ty := .int) rfl 0 rfl (fun C h => nomatch h) hG.1 hP hD hS hA (fun cA => rfl) (by decide) (by decide) (Nat.le_of_ble_eq_true rfl) (Nat.le_of_ble_eq_true rfl) (Nat.le_of_ble_eq_true rfl) dX4_init_22 (fun q_3 H hP hD hS => ?_)
  have hP : va_P D vwCl [(h0, .inr (4, [.int 0, .ref q_1, .int 0, .ref q_2, .null])), (q_1, .inl (cy 0, 100, .inl (fun _ => 0))), (q_2, .inl (cy 0, 27, .inl (fun _ => 0))), (q_3, .inl (cy 0, 4, .inl (fun _ => 0)))] H := hP
  have hD : va_D A [(h0, .inr (4, [.int 0, .ref q_1, .int 0, .ref q_2, .null])), (q_1, .inl (cy 0, 100, .inl (fun _ => 0))), (q_2, .inl (cy 0, 27, .inl (fun _ => 0))), (q_3, .inl (cy 0, 4, .inl (fun _ => 0)))] := hD
  refine lv_dup hx hb dX4_init_24 rfl ?_
  refine lv_iconst (v := 0) hx hb dX4_init_25 (by decide) ?_
  refine lv_iconst (v := 1) hx hb dX4_init_26 (by decide) ?_
  refine va_iast hx hb hG.1 hP hD hS 3 0 rfl rfl (vpd (by decide)) dX4_init_27 (fun H locs hP hD hS => ?_)
  have hP : va_P D vwCl [(h0, .inr (4, [.int 0, .ref q_1, .int 0, .ref q_2, .null])), (q_1, .inl (cy 0, 100, .inl (fun _ => 0))), (q_2, .inl (cy 0, 27, .inl (fun _ => 0))), (q_3, .inl (cy 0, 4, .inl (upd (fun _ => 0) 0 1)))] H := hP
  have hD : va_D A [(h0, .inr (4, [.int 0, .ref q_1, .int 0, .ref q_2, .null])), (q_1, .inl (cy 0, 100, .inl (fun _ => 0))), (q_2, .inl (cy 0, 27, .inl (fun _ => 0))), (q_3, .inl (cy 0, 4, .inl (upd (fun _ => 0) 0 1)))] := hD
  refine lv_dup hx hb dX4_init_28 rfl ?_
  refine lv_iconst (v := 1) hx hb dX4_init_29 (by decide) ?_
  refine lv_iconst (v := 1) hx hb dX4_init_30 (by decide) ?_
  refine va_iast hx hb hG.1 hP hD hS 3 0 rfl rfl (vpd (by decide)) dX4_init_31 (fun H locs hP hD hS => ?_)
  have hP : va_P D vwCl [(h0, .inr (4, [.int 0, .ref q_1, .int 0, .ref q_2, .null])), (q_1, .inl (cy 0, 100, .inl (fun _ => 0))), (q_2, .inl (cy 0, 27, .inl (fun _ => 0))), (q_3, .inl (cy 0, 4, .inl (upd (upd (fun _ => 0) 0 1) 1 1)))] H := hP
  have hD : va_D A [(h0, .inr (4, [.int 0, .ref q_1, .int 0, .ref q_2, .null])), (q_1, .inl (cy 0, 100, .inl (fun _ => 0))), (q_2, .inl (cy 0, 27, .inl (fun _ => 0))), (q_3, .inl (cy 0, 4, .inl (upd (upd (fun _ => 0) 0 1) 1 1)))] := hD
  refine lv_dup hx hb dX4_init_32 rfl ?_
  refine lv_iconst (v := 2) hx hb dX4_init_33 (by decide) ?_
  refine lv_iconst (v := 1) hx hb dX4_init_34 (by decide) ?_
  refine va_iast hx hb hG.1 hP hD hS 3 0 rfl rfl (vpd (by decide)) dX4_init_35 (fun H locs hP hD hS => ?_)
  have hP : va_P D vwCl [(h0, .inr (4, [.int 0, .ref q_1, .int 0, .ref q_2, .null])), (q_1, .inl (cy 0, 100, .inl (fun _ => 0))), (q_2, .inl (cy 0, 27, .inl (fun _ => 0))), (q_3, .inl (cy 0, 4, .inl (upd (upd (upd (fun _ => 0) 0 1) 1 1) 2 1)))] H := hP
  have hD : va_D A [(h0, .inr (4, [.int 0, .ref q_1, .int 0, .ref q_2, .null])), (q_1, .inl (cy 0, 100, .inl (fun _ => 0))), (q_2, .inl (cy 0, 27, .inl (fun _ => 0))), (q_3, .inl (cy 0, 4, .inl (upd (upd (upd (fun _ => 0) 0 1) 1 1) 2 1)))] := hD
  refine lv_dup hx hb dX4_init_36 rfl ?_
  refine lv_iconst (v := 3) hx hb dX4_init_37 (by decide) ?_
  refine lv_iconst (v := 1) hx hb dX4_init_38 (by decide) ?_
  refine va_iast hx hb hG.1 hP hD hS 3 0 rfl rfl (vpd (by decide)) dX4_init_39 (fun H locs hP hD hS => ?_)
  have hP : va_P D vwCl [(h0, .inr (4, [.int 0, .ref q_1, .int 0, .ref q_2, .null])), (q_1, .inl (cy 0, 100, .inl (fun _ => 0))), (q_2, .inl (cy 0, 27, .inl (fun _ => 0))), (q_3, .inl (cy 0, 4, .inl (upd (upd (upd (upd (fun _ => 0) 0 1) 1 1) 2 1) 3 1)))] H := hP
  have hD : va_D A [(h0, .inr (4, [.int 0, .ref q_1, .int 0, .ref q_2, .null])), (q_1, .inl (cy 0, 100, .inl (fun _ => 0))), (q_2, .inl (cy 0, 27, .inl (fun _ => 0))), (q_3, .inl (cy 0, 4, .inl (upd (upd (upd (upd (fun _ => 0) 0 1) 1 1) 2 1) 3 1)))] := hD
  refine va_putF (D := D) (ci := 4) (v := .ref q_3) (ty := .array .int) (C := RX4) (T := TX4) (N := 5) hx hb hts hi4 tyX4 tyX4_ok nmX4 hown hG.1 hP hD hS 0 rfl rfl 4 (by decide) lf18 (fun _ h9 => h9) rfl hin rfl (by decide +kernel) rfl rfl (Nat.le_of_ble_eq_true rfl) dX4_init_40 (fun H locs hP hD hS => ?_)
  have hP : va_P D vwCl [(h0, .inr (4, [.int 0, .ref q_1, .int 0, .ref q_2, .ref q_3])), (q_1, .inl (cy 0, 100, .inl (fun _ => 0))), (q_2, .inl (cy 0, 27, .inl (fun _ => 0))), (q_3, .inl (cy 0, 4, .inl (upd (upd (upd (upd (fun _ => 0) 0 1) 1 1) 2 1) 3 1)))] H := hP
  have hD : va_D A [(h0, .inr (4, [.int 0, .ref q_1, .int 0, .ref q_2, .ref q_3])), (q_1, .inl (cy 0, 100, .inl (fun _ => 0))), (q_2, .inl (cy 0, 27, .inl (fun _ => 0))), (q_3, .inl (cy 0, 4, .inl (upd (upd (upd (upd (fun _ => 0) 0 1) 1 1) 2 1) 3 1)))] := hD
  have hP : va_P D vwCl [(h0, .inr (4, [.int 0, .ref q_1, .int 0, .ref q_2, .ref q_3])), (q_1, .inl (cy 0, 100, .inl (fun _ => 0))), (q_2, .inl (cy 0, 27, .inl (fun _ => 0))), (q_3, .inl (cy 0, 4, .inl shF))] H := hP
  have hD : va_D A [(h0, .inr (4, [.int 0, .ref q_1, .int 0, .ref q_2, .ref q_3])), (q_1, .inl (cy 0, 100, .inl (fun _ => 0))), (q_2, .inl (cy 0, 27, .inl (fun _ => 0))), (q_3, .inl (cy 0, 4, .inl shF))] := hD
  refine W.widen (k := 3) (n := 131) (Nat.le_of_ble_eq_true rfl) (Nat.le_of_ble_eq_true rfl) ?_
  exact W.vret hx hb hr (fun t ht hW => ⟨⟨((fun k => ([q_1, q_2, q_3] : List Nat).getD k 0), (fun k => ([] : List Int32).getD k 0), (fun k => ([] : List (Nat → Int32)).getD k (fun _ => 0))), rfl, (by first | (trivial)), by rw [ht]; exact hP.sub [0] rfl, hD.sub [0] (by decide) rfl⟩, hS.F ht⟩) hS.2.2 dX4_init_43
