set_option maxRecDepth 20000 in
theorem ggX9_init_X0_init : GoodIn wsX9_init wsX0_init := goodIn_r _ [24, 25, 2, 3, 12, 26, 51, 52, 53, 54, 55, 56, 57] (by decide +kernel) (by decide +kernel)
set_option maxRecDepth 20000 in
theorem gX9_init_X0_init_n20 : GoodIn wsX9_init (wsX0_init) := ggX9_init_X0_init
set_option maxRecDepth 20000 in
theorem ggX9_init_X6_init : GoodIn wsX9_init wsX6_init := goodIn_r _ [15, 16, 2, 3, 12, 17, 18, 19, 20, 21, 22, 27, 28, 29, 30, 31, 32, 33, 34, 35, 36, 37, 38, 39, 40, 41, 42, 43, 44, 45] (by decide +kernel) (by decide +kernel)
set_option maxRecDepth 20000 in
theorem gX9_init_X6_init_n11 : GoodIn wsX9_init (wsX6_init) := ggX9_init_X6_init
theorem dX4_init_0 : decode cX4_init 0 = .ok (.aload_n 0, 1) := by decide +kernel
theorem dX4_init_1 : decode cX4_init 1 = .ok (.invokespecial 3, 3) := by decide +kernel
theorem dX4_init_12 : decode cX4_init 12 = .ok (.aload_n 0, 1) := by decide +kernel
theorem dX4_init_13 : decode cX4_init 13 = .ok (.bipush 27, 2) := by decide +kernel
theorem dX4_init_15 : decode cX4_init 15 = .ok (.newarray .int, 2) := by decide +kernel
theorem dX4_init_17 : decode cX4_init 17 = .ok (.putfield 15, 3) := by decide +kernel
theorem dX4_init_20 : decode cX4_init 20 = .ok (.aload_n 0, 1) := by decide +kernel
theorem dX4_init_21 : decode cX4_init 21 = .ok (.iconst 4, 1) := by decide +kernel
theorem dX4_init_22 : decode cX4_init 22 = .ok (.newarray .int, 2) := by decide +kernel
theorem dX4_init_24 : decode cX4_init 24 = .ok (.dup, 1) := by decide +kernel
theorem dX4_init_25 : decode cX4_init 25 = .ok (.iconst 0, 1) := by decide +kernel
theorem dX4_init_26 : decode cX4_init 26 = .ok (.iconst 1, 1) := by decide +kernel
theorem dX4_init_27 : decode cX4_init 27 = .ok (.iastore, 1) := by decide +kernel
theorem dX4_init_28 : decode cX4_init 28 = .ok (.dup, 1) := by decide +kernel
theorem dX4_init_29 : decode cX4_init 29 = .ok (.iconst 1, 1) := by decide +kernel
theorem dX4_init_30 : decode cX4_init 30 = .ok (.iconst 1, 1) := by decide +kernel
theorem dX4_init_31 : decode cX4_init 31 = .ok (.iastore, 1) := by decide +kernel
theorem dX4_init_32 : decode cX4_init 32 = .ok (.dup, 1) := by decide +kernel
theorem dX4_init_33 : decode cX4_init 33 = .ok (.iconst 2, 1) := by decide +kernel
theorem dX4_init_34 : decode cX4_init 34 = .ok (.iconst 1, 1) := by decide +kernel
theorem dX4_init_35 : decode cX4_init 35 = .ok (.iastore, 1) := by decide +kernel
theorem dX4_init_36 : decode cX4_init 36 = .ok (.dup, 1) := by decide +kernel
theorem dX4_init_37 : decode cX4_init 37 = .ok (.iconst 3, 1) := by decide +kernel
theorem dX4_init_38 : decode cX4_init 38 = .ok (.iconst 1, 1) := by decide +kernel
theorem dX4_init_39 : decode cX4_init 39 = .ok (.iastore, 1) := by decide +kernel
theorem dX4_init_4 : decode cX4_init 4 = .ok (.aload_n 0, 1) := by decide +kernel
theorem dX4_init_40 : decode cX4_init 40 = .ok (.putfield 18, 3) := by decide +kernel
theorem dX4_init_43 : decode cX4_init 43 = .ok (.return_, 1) := by decide +kernel
theorem dX4_init_5 : decode cX4_init 5 = .ok (.bipush 100, 2) := by decide +kernel
theorem dX4_init_7 : decode cX4_init 7 = .ok (.newarray .int, 2) := by decide +kernel
theorem dX4_init_9 : decode cX4_init 9 = .ok (.putfield 11, 3) := by decide +kernel
theorem dX9_init_0 : decode cX9_init 0 = .ok (.aload_n 0, 1) := by decide +kernel
theorem dX9_init_1 : decode cX9_init 1 = .ok (.invokespecial 5, 3) := by decide +kernel
theorem dX9_init_12 : decode cX9_init 12 = .ok (.putfield 12, 3) := by decide +kernel
theorem dX9_init_15 : decode cX9_init 15 = .ok (.aload_n 0, 1) := by decide +kernel
theorem dX9_init_16 : decode cX9_init 16 = .ok (.new 18, 3) := by decide +kernel
theorem dX9_init_19 : decode cX9_init 19 = .ok (.dup, 1) := by decide +kernel
theorem dX9_init_20 : decode cX9_init 20 = .ok (.invokespecial 20, 3) := by decide +kernel
theorem dX9_init_23 : decode cX9_init 23 = .ok (.putfield 21, 3) := by decide +kernel
theorem dX9_init_26 : decode cX9_init 26 = .ok (.aload_n 0, 1) := by decide +kernel
theorem dX9_init_27 : decode cX9_init 27 = .ok (.sipush 1344, 3) := by decide +kernel
theorem dX9_init_30 : decode cX9_init 30 = .ok (.newarray .int, 2) := by decide +kernel
theorem dX9_init_32 : decode cX9_init 32 = .ok (.putfield 25, 3) := by decide +kernel
theorem dX9_init_35 : decode cX9_init 35 = .ok (.return_, 1) := by decide +kernel
theorem dX9_init_4 : decode cX9_init 4 = .ok (.aload_n 0, 1) := by decide +kernel
theorem dX9_init_5 : decode cX9_init 5 = .ok (.new 1, 3) := by decide +kernel
theorem dX9_init_8 : decode cX9_init 8 = .ok (.dup, 1) := by decide +kernel
theorem dX9_init_9 : decode cX9_init 9 = .ok (.invokespecial 11, 3) := by decide +kernel
def shF : Nat → Int32 := upd (upd (upd (upd (fun _ => 0) 0 1) 1 1) 2 1) 3 1
set_option maxHeartbeats 4000000 in
set_option maxRecDepth 100000 in
theorem c_X4_init (l : Launch) (hl : l.stackTraces = false) (D : va_G) (cy : Nat → ClassId) (sa : Nat → Nat) (h0 : Nat) (sz : Nat) : Met l yX4_init wsX4_init ({ frames := 1, cells := 3, slots := 131, locals := 20 }) (va_Pc [vR h0] (pcW D cy sa sz [zO h0 4 [Value.int 0, vN, Value.int 0, vN, vN]])) (va_Qv (fun u : SU => (True)) (fun u t => atW D (va_A [zO h0 4 [Value.int 0, vN, Value.int 0, vN, vN]] sz) [zO h0 4 [Value.int 0, vR (u.1 0), Value.int 0, vR (u.1 1), vR (u.1 2)], zI (u.1 0) (cy 0) 100 (fun _ => 0), zI (u.1 1) (cy 0) 27 (fun _ => 0), zI (u.1 2) (cy 0) 4 shF] t) (va_A [zO h0 4 [Value.int 0, vN, Value.int 0, vN, vN]] sz)) 3 131 (va_A [zO h0 4 [Value.int 0, vN, Value.int 0, vN, vN]] sz) := by
  refine Met.ofW (cc := cX4_init) (maxL := 1) (ret := none) (by decide) rfl ?_
  intro p e s m args below meth c s₁ B hml hv
  obtain ⟨rfl, hsz, hP, hG, hD0, hT⟩ := hv
  have hx := B.exec
  have hb := B.bytes
  have hr := B.returns
  have hts := atoms_spec (ws := wsX4_init) B.pre
  have hown : s.vm.findClass RX4 = some m.cls := findClass_of_methodNamed B.named
  have hlocks := B.notSynchronized
  have hin : meth.name = "<init>" := (name_of_methodNamed B.named B.method).1
  subst hsz
  have hD := hD0.self (sz := s.heap.size)
  generalize hAe : va_A [zO h0 4 [Value.int 0, vN, Value.int 0, vN, vN]] s.heap.size = A at hD hT ⊢
  have hA : ∀ q : Nat, s.heap.size ≤ q → A q := fun q h => by rw [← hAe]; exact Or.inr h
  have hS : va_S A s.heap s.heap [] := va_S.rf
  have hl0 := lv_entry ([vR h0]) (n := 1) (Nat.le_of_ble_eq_true rfl)
  rw [lg_entry_eq]
  generalize (lg_sl ([vR h0]) ++ List.replicate (1 - (lg_sl ([vR h0])).length) Slot.unset).toArray = ls at hl0 ⊢
  have hlv : lv_has ls 1 [(0, vR h0)] := hl0
  have lo3 := hts (.methodLink RX4 3 objectInit) (by decide +kernel)
  have oi := hts (.instanceMethod objectInit) (by decide +kernel)
  have oc := hts (.code objectInit ⟨#[0xb1]⟩ 1 none) (by decide +kernel)
  have ac0 := hts (.arrayClass .int) (by decide +kernel)
  have lf11 := hts (.fieldLink RX4 11 "KerbSplash$Plan" "traffic" "[I") (by decide +kernel)
  have hi4 : ∀ w ∈ wsX40, w ∈ wsX4_init := by decide +kernel
  have lf15 := hts (.fieldLink RX4 15 "KerbSplash$Plan" "dip" "[I") (by decide +kernel)
  have lf18 := hts (.fieldLink RX4 18 "KerbSplash$Plan" "shares" "[I") (by decide +kernel)
  refine lv_aload_n hx hb dX4_init_0 rfl (lv_at hlv 0 rfl) ?_
  refine W.objInit hx hb hown lo3 oi oc rfl (by rw [hml]; exact hlv.1) rfl dX4_init_1 (Nat.le_of_ble_eq_true rfl) (Nat.le_of_ble_eq_true rfl) ?_
  refine W.eq (g2 := F0 m 4 ls []) rfl ?_
  refine lv_aload_n hx hb dX4_init_4 rfl (lv_at hlv 0 rfl) ?_
  refine lv_bipush (v := 100) hx hb dX4_init_5 (by decide) ?_
  refine nw_a (atype := .int) (cy := cy) (a0 := (100, .inl (fun _ => 0))) (N' := 100) hx hb ac0 (ty := .int) rfl 0 rfl (fun C h => nomatch h) hG.1 hP hD hS hA (fun cA => rfl) (by decide) (by decide) (Nat.le_of_ble_eq_true rfl) (Nat.le_of_ble_eq_true rfl) (Nat.le_of_ble_eq_true rfl) dX4_init_7 (fun q_1 H hP hD hS => ?_)
  have hP : va_P D vwCl [zO h0 4 [Value.int 0, vN, Value.int 0, vN, vN], zI q_1 (cy 0) 100 (fun _ => 0)] H := hP
  have hD : va_D A [zO h0 4 [Value.int 0, vN, Value.int 0, vN, vN], zI q_1 (cy 0) 100 (fun _ => 0)] := hD
  refine va_putF (D := D) (ci := 4) (v := vR q_1) (ty := .array .int) (C := RX4) (T := TX4) (N := 5) hx hb hts hi4 tyX4 tyX4_ok nmX4 hown hG.1 hP hD hS 0 rfl rfl 1 (by decide) lf11 (fun _ h9 => h9) rfl hin rfl (by decide +kernel) rfl rfl (Nat.le_of_ble_eq_true rfl) dX4_init_9 (fun H locs hP hD hS => ?_)
  have hP : va_P D vwCl [zO h0 4 [Value.int 0, vR q_1, Value.int 0, vN, vN], zI q_1 (cy 0) 100 (fun _ => 0)] H := hP
  have hD : va_D A [zO h0 4 [Value.int 0, vR q_1, Value.int 0, vN, vN], zI q_1 (cy 0) 100 (fun _ => 0)] := hD
  refine lv_aload_n hx hb dX4_init_12 rfl (lv_at hlv 0 rfl) ?_
  refine lv_bipush (v := 27) hx hb dX4_init_13 (by decide) ?_
  refine nw_a (atype := .int) (cy := cy) (a0 := (27, .inl (fun _ => 0))) (N' := 27) hx hb ac0 (ty := .int) rfl 0 rfl (fun C h => nomatch h) hG.1 hP hD hS hA (fun cA => rfl) (by decide) (by decide) (Nat.le_of_ble_eq_true rfl) (Nat.le_of_ble_eq_true rfl) (Nat.le_of_ble_eq_true rfl) dX4_init_15 (fun q_2 H hP hD hS => ?_)
  have hP : va_P D vwCl [zO h0 4 [Value.int 0, vR q_1, Value.int 0, vN, vN], zI q_1 (cy 0) 100 (fun _ => 0), zI q_2 (cy 0) 27 (fun _ => 0)] H := hP
  have hD : va_D A [zO h0 4 [Value.int 0, vR q_1, Value.int 0, vN, vN], zI q_1 (cy 0) 100 (fun _ => 0), zI q_2 (cy 0) 27 (fun _ => 0)] := hD
  refine va_putF (D := D) (ci := 4) (v := vR q_2) (ty := .array .int) (C := RX4) (T := TX4) (N := 5) hx hb hts hi4 tyX4 tyX4_ok nmX4 hown hG.1 hP hD hS 0 rfl rfl 3 (by decide) lf15 (fun _ h9 => h9) rfl hin rfl (by decide +kernel) rfl rfl (Nat.le_of_ble_eq_true rfl) dX4_init_17 (fun H locs hP hD hS => ?_)
  have hP : va_P D vwCl [zO h0 4 [Value.int 0, vR q_1, Value.int 0, vR q_2, vN], zI q_1 (cy 0) 100 (fun _ => 0), zI q_2 (cy 0) 27 (fun _ => 0)] H := hP
  have hD : va_D A [zO h0 4 [Value.int 0, vR q_1, Value.int 0, vR q_2, vN], zI q_1 (cy 0) 100 (fun _ => 0), zI q_2 (cy 0) 27 (fun _ => 0)] := hD
  refine lv_aload_n hx hb dX4_init_20 rfl (lv_at hlv 0 rfl) ?_
  refine lv_iconst (v := 4) hx hb dX4_init_21 (by decide) ?_
  refine nw_a (atype := .int) (cy := cy) (a0 := (4, .inl (fun _ => 0))) (N' := 4) hx hb ac0 (ty := .int) rfl 0 rfl (fun C h => nomatch h) hG.1 hP hD hS hA (fun cA => rfl) (by decide) (by decide) (Nat.le_of_ble_eq_true rfl) (Nat.le_of_ble_eq_true rfl) (Nat.le_of_ble_eq_true rfl) dX4_init_22 (fun q_3 H hP hD hS => ?_)
  have hP : va_P D vwCl [zO h0 4 [Value.int 0, vR q_1, Value.int 0, vR q_2, vN], zI q_1 (cy 0) 100 (fun _ => 0), zI q_2 (cy 0) 27 (fun _ => 0), zI q_3 (cy 0) 4 (fun _ => 0)] H := hP
  have hD : va_D A [zO h0 4 [Value.int 0, vR q_1, Value.int 0, vR q_2, vN], zI q_1 (cy 0) 100 (fun _ => 0), zI q_2 (cy 0) 27 (fun _ => 0), zI q_3 (cy 0) 4 (fun _ => 0)] := hD
  refine lv_dup hx hb dX4_init_24 rfl ?_
  refine lv_iconst (v := 0) hx hb dX4_init_25 (by decide) ?_
  refine lv_iconst (v := 1) hx hb dX4_init_26 (by decide) ?_
  refine va_iast hx hb hG.1 hP hD hS 3 0 rfl rfl (vpd (by decide)) dX4_init_27 (fun H locs hP hD hS => ?_)
  have hP : va_P D vwCl [zO h0 4 [Value.int 0, vR q_1, Value.int 0, vR q_2, vN], zI q_1 (cy 0) 100 (fun _ => 0), zI q_2 (cy 0) 27 (fun _ => 0), zI q_3 (cy 0) 4 (upd (fun _ => 0) 0 1)] H := hP
  have hD : va_D A [zO h0 4 [Value.int 0, vR q_1, Value.int 0, vR q_2, vN], zI q_1 (cy 0) 100 (fun _ => 0), zI q_2 (cy 0) 27 (fun _ => 0), zI q_3 (cy 0) 4 (upd (fun _ => 0) 0 1)] := hD
  refine lv_dup hx hb dX4_init_28 rfl ?_
  refine lv_iconst (v := 1) hx hb dX4_init_29 (by decide) ?_
  refine lv_iconst (v := 1) hx hb dX4_init_30 (by decide) ?_
  refine va_iast hx hb hG.1 hP hD hS 3 0 rfl rfl (vpd (by decide)) dX4_init_31 (fun H locs hP hD hS => ?_)
  have hP : va_P D vwCl [zO h0 4 [Value.int 0, vR q_1, Value.int 0, vR q_2, vN], zI q_1 (cy 0) 100 (fun _ => 0), zI q_2 (cy 0) 27 (fun _ => 0), zI q_3 (cy 0) 4 (upd (upd (fun _ => 0) 0 1) 1 1)] H := hP
  have hD : va_D A [zO h0 4 [Value.int 0, vR q_1, Value.int 0, vR q_2, vN], zI q_1 (cy 0) 100 (fun _ => 0), zI q_2 (cy 0) 27 (fun _ => 0), zI q_3 (cy 0) 4 (upd (upd (fun _ => 0) 0 1) 1 1)] := hD
  refine lv_dup hx hb dX4_init_32 rfl ?_
  refine lv_iconst (v := 2) hx hb dX4_init_33 (by decide) ?_
  refine lv_iconst (v := 1) hx hb dX4_init_34 (by decide) ?_
  refine va_iast hx hb hG.1 hP hD hS 3 0 rfl rfl (vpd (by decide)) dX4_init_35 (fun H locs hP hD hS => ?_)
  have hP : va_P D vwCl [zO h0 4 [Value.int 0, vR q_1, Value.int 0, vR q_2, vN], zI q_1 (cy 0) 100 (fun _ => 0), zI q_2 (cy 0) 27 (fun _ => 0), zI q_3 (cy 0) 4 (upd (upd (upd (fun _ => 0) 0 1) 1 1) 2 1)] H := hP
  have hD : va_D A [zO h0 4 [Value.int 0, vR q_1, Value.int 0, vR q_2, vN], zI q_1 (cy 0) 100 (fun _ => 0), zI q_2 (cy 0) 27 (fun _ => 0), zI q_3 (cy 0) 4 (upd (upd (upd (fun _ => 0) 0 1) 1 1) 2 1)] := hD
  refine lv_dup hx hb dX4_init_36 rfl ?_
  refine lv_iconst (v := 3) hx hb dX4_init_37 (by decide) ?_
  refine lv_iconst (v := 1) hx hb dX4_init_38 (by decide) ?_
  refine va_iast hx hb hG.1 hP hD hS 3 0 rfl rfl (vpd (by decide)) dX4_init_39 (fun H locs hP hD hS => ?_)
  have hP : va_P D vwCl [zO h0 4 [Value.int 0, vR q_1, Value.int 0, vR q_2, vN], zI q_1 (cy 0) 100 (fun _ => 0), zI q_2 (cy 0) 27 (fun _ => 0), zI q_3 (cy 0) 4 (upd (upd (upd (upd (fun _ => 0) 0 1) 1 1) 2 1) 3 1)] H := hP
  have hD : va_D A [zO h0 4 [Value.int 0, vR q_1, Value.int 0, vR q_2, vN], zI q_1 (cy 0) 100 (fun _ => 0), zI q_2 (cy 0) 27 (fun _ => 0), zI q_3 (cy 0) 4 (upd (upd (upd (upd (fun _ => 0) 0 1) 1 1) 2 1) 3 1)] := hD
  refine va_putF (D := D) (ci := 4) (v := vR q_3) (ty := .array .int) (C := RX4) (T := TX4) (N := 5) hx hb hts hi4 tyX4 tyX4_ok nmX4 hown hG.1 hP hD hS 0 rfl rfl 4 (by decide) lf18 (fun _ h9 => h9) rfl hin rfl (by decide +kernel) rfl rfl (Nat.le_of_ble_eq_true rfl) dX4_init_40 (fun H locs hP hD hS => ?_)
  have hP : va_P D vwCl [zO h0 4 [Value.int 0, vR q_1, Value.int 0, vR q_2, vR q_3], zI q_1 (cy 0) 100 (fun _ => 0), zI q_2 (cy 0) 27 (fun _ => 0), zI q_3 (cy 0) 4 (upd (upd (upd (upd (fun _ => 0) 0 1) 1 1) 2 1) 3 1)] H := hP
  have hD : va_D A [zO h0 4 [Value.int 0, vR q_1, Value.int 0, vR q_2, vR q_3], zI q_1 (cy 0) 100 (fun _ => 0), zI q_2 (cy 0) 27 (fun _ => 0), zI q_3 (cy 0) 4 (upd (upd (upd (upd (fun _ => 0) 0 1) 1 1) 2 1) 3 1)] := hD
  have hP : va_P D vwCl [zO h0 4 [Value.int 0, vR q_1, Value.int 0, vR q_2, vR q_3], zI q_1 (cy 0) 100 (fun _ => 0), zI q_2 (cy 0) 27 (fun _ => 0), zI q_3 (cy 0) 4 shF] H := hP
  have hD : va_D A [zO h0 4 [Value.int 0, vR q_1, Value.int 0, vR q_2, vR q_3], zI q_1 (cy 0) 100 (fun _ => 0), zI q_2 (cy 0) 27 (fun _ => 0), zI q_3 (cy 0) 4 shF] := hD
  refine W.widen (k := 3) (n := 131) (Nat.le_of_ble_eq_true rfl) (Nat.le_of_ble_eq_true rfl) ?_
  exact W.vret hx hb hr (fun t ht hW => ⟨⟨((fun k => ([q_1, q_2, q_3] : List Nat).getD k 0), (fun k => ([] : List Int32).getD k 0), (fun k => ([] : List (Nat → Int32)).getD k (fun _ => 0))), rfl, (by first | (trivial)), by rw [ht]; exact hP.sub [0, 1, 2, 3] rfl, hD.sub [0, 1, 2, 3] (by decide) rfl⟩, hS.F ht⟩) hS.2.2 dX4_init_43
set_option maxHeartbeats 4000000 in
set_option maxRecDepth 100000 in
theorem c_X9_init (l : Launch) (hl : l.stackTraces = false) (D : va_G) (cy : Nat → ClassId) (sa : Nat → Nat) (h0 : Nat) (sz : Nat) : Met l yX9_init wsX9_init ({ frames := 2, cells := 10, slots := 1781, locals := 40 }) (va_Pc [vR h0] (pcW D cy sa sz [zO h0 9 [vN, vN, vN, Value.int 0, Value.int 0]])) (va_Qv (fun u : SU => (True)) (fun u t => atW D (va_A [zO h0 9 [vN, vN, vN, Value.int 0, Value.int 0]] sz) [zO h0 9 [vR (u.1 0), vR (u.1 7), vR (u.1 9), Value.int 0, Value.int 0], zO (u.1 0) 6 [Value.int 0, Value.int 0, vR (u.1 1), vR (u.1 2), Value.int 0, Value.int 0, vR (u.1 3), Value.int 0, vR (u.1 4), Value.int 0, Value.int 0, vR (u.1 5), Value.int 0, vR (u.1 6), Value.int 0, Value.int 0, Value.int 0, Value.int 0, Value.int 0], zI (u.1 1) (cy 0) 96 (fun _ => 0), zI (u.1 2) (cy 0) 96 (fun _ => 0), zI (u.1 3) (cy 0) 56 (fun _ => 0), zI (u.1 4) (cy 0) 112 (fun _ => 0), zI (u.1 5) (cy 0) 4 (fun _ => 0), zI (u.1 6) (cy 0) 40 (fun _ => 0), zO (u.1 7) 0 [vR (u.1 8), Value.int 0, Value.int 0, Value.int 0, Value.int 0, Value.int 0, Value.int 0], zI (u.1 8) (cy 0) 7 (fun _ => 0), zI (u.1 9) (cy 0) 1344 (fun _ => 0)] t) (va_A [zO h0 9 [vN, vN, vN, Value.int 0, Value.int 0]] sz)) 10 1781 (va_A [zO h0 9 [vN, vN, vN, Value.int 0, Value.int 0]] sz) := by
  refine Met.ofW (cc := cX9_init) (maxL := 1) (ret := none) (by decide) rfl ?_
  intro p e s m args below meth c s₁ B hml hv
  obtain ⟨rfl, hsz, hP, hG, hD0, hT⟩ := hv
  have hx := B.exec
  have hb := B.bytes
  have hr := B.returns
  have hts := atoms_spec (ws := wsX9_init) B.pre
  have hown : s.vm.findClass RX9 = some m.cls := findClass_of_methodNamed B.named
  have hlocks := B.notSynchronized
  have hin : meth.name = "<init>" := (name_of_methodNamed B.named B.method).1
  subst hsz
  have hD := hD0.self (sz := s.heap.size)
  generalize hAe : va_A [zO h0 9 [vN, vN, vN, Value.int 0, Value.int 0]] s.heap.size = A at hD hT ⊢
  have hA : ∀ q : Nat, s.heap.size ≤ q → A q := fun q h => by rw [← hAe]; exact Or.inr h
  have hS : va_S A s.heap s.heap [] := va_S.rf
  have hl0 := lv_entry ([vR h0]) (n := 1) (Nat.le_of_ble_eq_true rfl)
  rw [lg_entry_eq]
  generalize (lg_sl ([vR h0]) ++ List.replicate (1 - (lg_sl ([vR h0])).length) Slot.unset).toArray = ls at hl0 ⊢
  have hlv : lv_has ls 1 [(0, vR h0)] := hl0
  have lo5 := hts (.methodLink RX9 5 objectInit) (by decide +kernel)
  have oi := hts (.instanceMethod objectInit) (by decide +kernel)
  have oc := hts (.code objectInit ⟨#[0xb1]⟩ 1 none) (by decide +kernel)
  have cl1 := hts (.classLink RX9 1 RX6) (by decide +kernel)
  have in6 := hts (.instantiable RX6 19) (by decide +kernel)
  have ini6 := hts (.initialized RX6) (by decide +kernel)
  have hi6 : ∀ w ∈ wsX60, w ∈ wsX9_init := by decide +kernel
  have ini_RX6 := hts (.initialized RX6) (by decide +kernel)
  have im_X6_init := hts (.instanceMethod yX6_init) (by decide +kernel)
  have lf12 := hts (.fieldLink RX9 12 "KerbSplash$WhatIf" "trial" "LKerbSplash$Street;") (by decide +kernel)
  have hi9 : ∀ w ∈ wsX90, w ∈ wsX9_init := by decide +kernel
  have cl18 := hts (.classLink RX9 18 RX0) (by decide +kernel)
  have in0 := hts (.instantiable RX0 7) (by decide +kernel)
  have ini0 := hts (.initialized RX0) (by decide +kernel)
  have hi0 : ∀ w ∈ wsX00, w ∈ wsX9_init := by decide +kernel
  have ini_RX0 := hts (.initialized RX0) (by decide +kernel)
  have im_X0_init := hts (.instanceMethod yX0_init) (by decide +kernel)
  have lf21 := hts (.fieldLink RX9 21 "KerbSplash$WhatIf" "car" "LKerbSplash$Car;") (by decide +kernel)
  have ac0 := hts (.arrayClass .int) (by decide +kernel)
  have lf25 := hts (.fieldLink RX9 25 "KerbSplash$WhatIf" "seen" "[I") (by decide +kernel)
  refine lv_aload_n hx hb dX9_init_0 rfl (lv_at hlv 0 rfl) ?_
  refine W.objInit hx hb hown lo5 oi oc rfl (by rw [hml]; exact hlv.1) rfl dX9_init_1 (Nat.le_of_ble_eq_true rfl) (Nat.le_of_ble_eq_true rfl) ?_
  refine W.eq (g2 := F0 m 4 ls []) rfl ?_
  refine lv_aload_n hx hb dX9_init_4 rfl (lv_at hlv 0 rfl) ?_
  refine va_new (ci := 6) (fs := [Value.int 0, Value.int 0, vN, vN, Value.int 0, Value.int 0, vN, Value.int 0, vN, Value.int 0, Value.int 0, vN, Value.int 0, vN, Value.int 0, Value.int 0, Value.int 0, Value.int 0, Value.int 0]) (C := RX6) (T := TX6) (N := 19) hx hb hts hi6 tyX6 tyX6_ok hown cl1 in6 ini6 hG.1 hP hD hS hA rfl (by decide) (Nat.le_of_ble_eq_true rfl) (Nat.le_of_ble_eq_true rfl) dX9_init_5 (fun q_1 H hP hD hS => ?_)
  have hP : va_P D vwCl [zO h0 9 [vN, vN, vN, Value.int 0, Value.int 0], zO q_1 6 [Value.int 0, Value.int 0, vN, vN, Value.int 0, Value.int 0, vN, Value.int 0, vN, Value.int 0, Value.int 0, vN, Value.int 0, vN, Value.int 0, Value.int 0, Value.int 0, Value.int 0, Value.int 0]] H := hP
  have hD : va_D A [zO h0 9 [vN, vN, vN, Value.int 0, Value.int 0], zO q_1 6 [Value.int 0, Value.int 0, vN, vN, Value.int 0, Value.int 0, vN, Value.int 0, vN, Value.int 0, Value.int 0, vN, Value.int 0, vN, Value.int 0, Value.int 0, Value.int 0, Value.int 0, Value.int 0]] := hD
  refine lv_dup hx hb dX9_init_8 rfl ?_
  refine cj_v (wr := [zO h0 9 [vN, vN, vN, Value.int 0, Value.int 0]]) (va_runIN (host := "KerbSplash") (As := []) (rest := [vR q_1, vR h0]) ⟨hx, hb, hml, hown, hts⟩ (c_X6_init l hl D cy sa q_1 H.size) ⟨va_cnB 0 hts gX9_init_X6_init_n11 rfl rfl rfl (nM_WhatIf_11 hG.2.1) ini_RX6 (by decide +kernel) ⟨Nat.le_of_ble_eq_true rfl, Nat.le_of_ble_eq_true rfl⟩, rfl, im_X6_init⟩ ⟨pcW.blind, (pcW.mk hP hD hS hA hG hT [1] rfl (by decide))⟩ rfl rfl hlv.1 rfl (lv_room (Nat.le_of_ble_eq_true rfl)) dX9_init_9 ⟨Nat.le_of_ble_eq_true rfl, Nat.le_of_ble_eq_true rfl⟩) hP hD hS hA [1] [0] rfl rfl (by decide) (by decide) (fun u1 H locs hw1 hP hD hS => ?_)
  have hP : va_P D vwCl [zO h0 9 [vN, vN, vN, Value.int 0, Value.int 0], zO q_1 6 [Value.int 0, Value.int 0, vR (u1.1 0), vR (u1.1 1), Value.int 0, Value.int 0, vR (u1.1 2), Value.int 0, vR (u1.1 3), Value.int 0, Value.int 0, vR (u1.1 4), Value.int 0, vR (u1.1 5), Value.int 0, Value.int 0, Value.int 0, Value.int 0, Value.int 0], zI (u1.1 0) (cy 0) 96 (fun _ => 0), zI (u1.1 1) (cy 0) 96 (fun _ => 0), zI (u1.1 2) (cy 0) 56 (fun _ => 0), zI (u1.1 3) (cy 0) 112 (fun _ => 0), zI (u1.1 4) (cy 0) 4 (fun _ => 0), zI (u1.1 5) (cy 0) 40 (fun _ => 0)] H := hP
  have hD : va_D A [zO h0 9 [vN, vN, vN, Value.int 0, Value.int 0], zO q_1 6 [Value.int 0, Value.int 0, vR (u1.1 0), vR (u1.1 1), Value.int 0, Value.int 0, vR (u1.1 2), Value.int 0, vR (u1.1 3), Value.int 0, Value.int 0, vR (u1.1 4), Value.int 0, vR (u1.1 5), Value.int 0, Value.int 0, Value.int 0, Value.int 0, Value.int 0], zI (u1.1 0) (cy 0) 96 (fun _ => 0), zI (u1.1 1) (cy 0) 96 (fun _ => 0), zI (u1.1 2) (cy 0) 56 (fun _ => 0), zI (u1.1 3) (cy 0) 112 (fun _ => 0), zI (u1.1 4) (cy 0) 4 (fun _ => 0), zI (u1.1 5) (cy 0) 40 (fun _ => 0)] := hD
  refine va_putF (D := D) (ci := 9) (v := vR q_1) (ty := .object "KerbSplash$Street") (C := RX9) (T := TX9) (N := 5) hx hb hts hi9 tyX9 tyX9_ok nmX9 hown hG.1 hP hD hS 0 rfl rfl 0 (by decide) lf12 (fun _ h9 => h9) rfl hin rfl (by decide +kernel) rfl rfl (Nat.le_of_ble_eq_true rfl) dX9_init_12 (fun H locs hP hD hS => ?_)
  have hP : va_P D vwCl [zO h0 9 [vR q_1, vN, vN, Value.int 0, Value.int 0], zO q_1 6 [Value.int 0, Value.int 0, vR (u1.1 0), vR (u1.1 1), Value.int 0, Value.int 0, vR (u1.1 2), Value.int 0, vR (u1.1 3), Value.int 0, Value.int 0, vR (u1.1 4), Value.int 0, vR (u1.1 5), Value.int 0, Value.int 0, Value.int 0, Value.int 0, Value.int 0], zI (u1.1 0) (cy 0) 96 (fun _ => 0), zI (u1.1 1) (cy 0) 96 (fun _ => 0), zI (u1.1 2) (cy 0) 56 (fun _ => 0), zI (u1.1 3) (cy 0) 112 (fun _ => 0), zI (u1.1 4) (cy 0) 4 (fun _ => 0), zI (u1.1 5) (cy 0) 40 (fun _ => 0)] H := hP
  have hD : va_D A [zO h0 9 [vR q_1, vN, vN, Value.int 0, Value.int 0], zO q_1 6 [Value.int 0, Value.int 0, vR (u1.1 0), vR (u1.1 1), Value.int 0, Value.int 0, vR (u1.1 2), Value.int 0, vR (u1.1 3), Value.int 0, Value.int 0, vR (u1.1 4), Value.int 0, vR (u1.1 5), Value.int 0, Value.int 0, Value.int 0, Value.int 0, Value.int 0], zI (u1.1 0) (cy 0) 96 (fun _ => 0), zI (u1.1 1) (cy 0) 96 (fun _ => 0), zI (u1.1 2) (cy 0) 56 (fun _ => 0), zI (u1.1 3) (cy 0) 112 (fun _ => 0), zI (u1.1 4) (cy 0) 4 (fun _ => 0), zI (u1.1 5) (cy 0) 40 (fun _ => 0)] := hD
  refine lv_aload_n hx hb dX9_init_15 rfl (lv_at hlv 0 rfl) ?_
  refine va_new (ci := 0) (fs := [vN, Value.int 0, Value.int 0, Value.int 0, Value.int 0, Value.int 0, Value.int 0]) (C := RX0) (T := TX0) (N := 7) hx hb hts hi0 tyX0 tyX0_ok hown cl18 in0 ini0 hG.1 hP hD hS hA rfl (by decide) (Nat.le_of_ble_eq_true rfl) (Nat.le_of_ble_eq_true rfl) dX9_init_16 (fun q_2 H hP hD hS => ?_)
  have hP : va_P D vwCl [zO h0 9 [vR q_1, vN, vN, Value.int 0, Value.int 0], zO q_1 6 [Value.int 0, Value.int 0, vR (u1.1 0), vR (u1.1 1), Value.int 0, Value.int 0, vR (u1.1 2), Value.int 0, vR (u1.1 3), Value.int 0, Value.int 0, vR (u1.1 4), Value.int 0, vR (u1.1 5), Value.int 0, Value.int 0, Value.int 0, Value.int 0, Value.int 0], zI (u1.1 0) (cy 0) 96 (fun _ => 0), zI (u1.1 1) (cy 0) 96 (fun _ => 0), zI (u1.1 2) (cy 0) 56 (fun _ => 0), zI (u1.1 3) (cy 0) 112 (fun _ => 0), zI (u1.1 4) (cy 0) 4 (fun _ => 0), zI (u1.1 5) (cy 0) 40 (fun _ => 0), zO q_2 0 [vN, Value.int 0, Value.int 0, Value.int 0, Value.int 0, Value.int 0, Value.int 0]] H := hP
  have hD : va_D A [zO h0 9 [vR q_1, vN, vN, Value.int 0, Value.int 0], zO q_1 6 [Value.int 0, Value.int 0, vR (u1.1 0), vR (u1.1 1), Value.int 0, Value.int 0, vR (u1.1 2), Value.int 0, vR (u1.1 3), Value.int 0, Value.int 0, vR (u1.1 4), Value.int 0, vR (u1.1 5), Value.int 0, Value.int 0, Value.int 0, Value.int 0, Value.int 0], zI (u1.1 0) (cy 0) 96 (fun _ => 0), zI (u1.1 1) (cy 0) 96 (fun _ => 0), zI (u1.1 2) (cy 0) 56 (fun _ => 0), zI (u1.1 3) (cy 0) 112 (fun _ => 0), zI (u1.1 4) (cy 0) 4 (fun _ => 0), zI (u1.1 5) (cy 0) 40 (fun _ => 0), zO q_2 0 [vN, Value.int 0, Value.int 0, Value.int 0, Value.int 0, Value.int 0, Value.int 0]] := hD
  refine lv_dup hx hb dX9_init_19 rfl ?_
  refine cj_v (wr := [zO h0 9 [vR q_1, vN, vN, Value.int 0, Value.int 0], zO q_1 6 [Value.int 0, Value.int 0, vR (u1.1 0), vR (u1.1 1), Value.int 0, Value.int 0, vR (u1.1 2), Value.int 0, vR (u1.1 3), Value.int 0, Value.int 0, vR (u1.1 4), Value.int 0, vR (u1.1 5), Value.int 0, Value.int 0, Value.int 0, Value.int 0, Value.int 0], zI (u1.1 0) (cy 0) 96 (fun _ => 0), zI (u1.1 1) (cy 0) 96 (fun _ => 0), zI (u1.1 2) (cy 0) 56 (fun _ => 0), zI (u1.1 3) (cy 0) 112 (fun _ => 0), zI (u1.1 4) (cy 0) 4 (fun _ => 0), zI (u1.1 5) (cy 0) 40 (fun _ => 0)]) (va_runIN (host := "KerbSplash") (As := []) (rest := [vR q_2, vR h0]) ⟨hx, hb, hml, hown, hts⟩ (c_X0_init l hl D cy sa q_2 H.size) ⟨va_cnB 0 hts gX9_init_X0_init_n20 rfl rfl rfl (nM_WhatIf_20 hG.2.1) ini_RX0 (by decide +kernel) ⟨Nat.le_of_ble_eq_true rfl, Nat.le_of_ble_eq_true rfl⟩, rfl, im_X0_init⟩ ⟨pcW.blind, (pcW.mk hP hD hS hA hG hT [8] rfl (by decide))⟩ rfl rfl hlv.1 rfl (lv_room (Nat.le_of_ble_eq_true rfl)) dX9_init_20 ⟨Nat.le_of_ble_eq_true rfl, Nat.le_of_ble_eq_true rfl⟩) hP hD hS hA [8] [0, 1, 2, 3, 4, 5, 6, 7] rfl rfl (by decide) (by decide) (fun u2 H locs hw2 hP hD hS => ?_)
  have hP : va_P D vwCl [zO h0 9 [vR q_1, vN, vN, Value.int 0, Value.int 0], zO q_1 6 [Value.int 0, Value.int 0, vR (u1.1 0), vR (u1.1 1), Value.int 0, Value.int 0, vR (u1.1 2), Value.int 0, vR (u1.1 3), Value.int 0, Value.int 0, vR (u1.1 4), Value.int 0, vR (u1.1 5), Value.int 0, Value.int 0, Value.int 0, Value.int 0, Value.int 0], zI (u1.1 0) (cy 0) 96 (fun _ => 0), zI (u1.1 1) (cy 0) 96 (fun _ => 0), zI (u1.1 2) (cy 0) 56 (fun _ => 0), zI (u1.1 3) (cy 0) 112 (fun _ => 0), zI (u1.1 4) (cy 0) 4 (fun _ => 0), zI (u1.1 5) (cy 0) 40 (fun _ => 0), zO q_2 0 [vR (u2.1 0), Value.int 0, Value.int 0, Value.int 0, Value.int 0, Value.int 0, Value.int 0], zI (u2.1 0) (cy 0) 7 (fun _ => 0)] H := hP
  have hD : va_D A [zO h0 9 [vR q_1, vN, vN, Value.int 0, Value.int 0], zO q_1 6 [Value.int 0, Value.int 0, vR (u1.1 0), vR (u1.1 1), Value.int 0, Value.int 0, vR (u1.1 2), Value.int 0, vR (u1.1 3), Value.int 0, Value.int 0, vR (u1.1 4), Value.int 0, vR (u1.1 5), Value.int 0, Value.int 0, Value.int 0, Value.int 0, Value.int 0], zI (u1.1 0) (cy 0) 96 (fun _ => 0), zI (u1.1 1) (cy 0) 96 (fun _ => 0), zI (u1.1 2) (cy 0) 56 (fun _ => 0), zI (u1.1 3) (cy 0) 112 (fun _ => 0), zI (u1.1 4) (cy 0) 4 (fun _ => 0), zI (u1.1 5) (cy 0) 40 (fun _ => 0), zO q_2 0 [vR (u2.1 0), Value.int 0, Value.int 0, Value.int 0, Value.int 0, Value.int 0, Value.int 0], zI (u2.1 0) (cy 0) 7 (fun _ => 0)] := hD
  refine va_putF (D := D) (ci := 9) (v := vR q_2) (ty := .object "KerbSplash$Car") (C := RX9) (T := TX9) (N := 5) hx hb hts hi9 tyX9 tyX9_ok nmX9 hown hG.1 hP hD hS 0 rfl rfl 1 (by decide) lf21 (fun _ h9 => h9) rfl hin rfl (by decide +kernel) rfl rfl (Nat.le_of_ble_eq_true rfl) dX9_init_23 (fun H locs hP hD hS => ?_)
  have hP : va_P D vwCl [zO h0 9 [vR q_1, vR q_2, vN, Value.int 0, Value.int 0], zO q_1 6 [Value.int 0, Value.int 0, vR (u1.1 0), vR (u1.1 1), Value.int 0, Value.int 0, vR (u1.1 2), Value.int 0, vR (u1.1 3), Value.int 0, Value.int 0, vR (u1.1 4), Value.int 0, vR (u1.1 5), Value.int 0, Value.int 0, Value.int 0, Value.int 0, Value.int 0], zI (u1.1 0) (cy 0) 96 (fun _ => 0), zI (u1.1 1) (cy 0) 96 (fun _ => 0), zI (u1.1 2) (cy 0) 56 (fun _ => 0), zI (u1.1 3) (cy 0) 112 (fun _ => 0), zI (u1.1 4) (cy 0) 4 (fun _ => 0), zI (u1.1 5) (cy 0) 40 (fun _ => 0), zO q_2 0 [vR (u2.1 0), Value.int 0, Value.int 0, Value.int 0, Value.int 0, Value.int 0, Value.int 0], zI (u2.1 0) (cy 0) 7 (fun _ => 0)] H := hP
  have hD : va_D A [zO h0 9 [vR q_1, vR q_2, vN, Value.int 0, Value.int 0], zO q_1 6 [Value.int 0, Value.int 0, vR (u1.1 0), vR (u1.1 1), Value.int 0, Value.int 0, vR (u1.1 2), Value.int 0, vR (u1.1 3), Value.int 0, Value.int 0, vR (u1.1 4), Value.int 0, vR (u1.1 5), Value.int 0, Value.int 0, Value.int 0, Value.int 0, Value.int 0], zI (u1.1 0) (cy 0) 96 (fun _ => 0), zI (u1.1 1) (cy 0) 96 (fun _ => 0), zI (u1.1 2) (cy 0) 56 (fun _ => 0), zI (u1.1 3) (cy 0) 112 (fun _ => 0), zI (u1.1 4) (cy 0) 4 (fun _ => 0), zI (u1.1 5) (cy 0) 40 (fun _ => 0), zO q_2 0 [vR (u2.1 0), Value.int 0, Value.int 0, Value.int 0, Value.int 0, Value.int 0, Value.int 0], zI (u2.1 0) (cy 0) 7 (fun _ => 0)] := hD
  refine lv_aload_n hx hb dX9_init_26 rfl (lv_at hlv 0 rfl) ?_
  refine lv_sipush (v := 1344) hx hb dX9_init_27 (by decide) ?_
  refine nw_a (atype := .int) (cy := cy) (a0 := (1344, .inl (fun _ => 0))) (N' := 1344) hx hb ac0 (ty := .int) rfl 0 rfl (fun C h => nomatch h) hG.1 hP hD hS hA (fun cA => rfl) (by decide) (by decide) (Nat.le_of_ble_eq_true rfl) (Nat.le_of_ble_eq_true rfl) (Nat.le_of_ble_eq_true rfl) dX9_init_30 (fun q_3 H hP hD hS => ?_)
  have hP : va_P D vwCl [zO h0 9 [vR q_1, vR q_2, vN, Value.int 0, Value.int 0], zO q_1 6 [Value.int 0, Value.int 0, vR (u1.1 0), vR (u1.1 1), Value.int 0, Value.int 0, vR (u1.1 2), Value.int 0, vR (u1.1 3), Value.int 0, Value.int 0, vR (u1.1 4), Value.int 0, vR (u1.1 5), Value.int 0, Value.int 0, Value.int 0, Value.int 0, Value.int 0], zI (u1.1 0) (cy 0) 96 (fun _ => 0), zI (u1.1 1) (cy 0) 96 (fun _ => 0), zI (u1.1 2) (cy 0) 56 (fun _ => 0), zI (u1.1 3) (cy 0) 112 (fun _ => 0), zI (u1.1 4) (cy 0) 4 (fun _ => 0), zI (u1.1 5) (cy 0) 40 (fun _ => 0), zO q_2 0 [vR (u2.1 0), Value.int 0, Value.int 0, Value.int 0, Value.int 0, Value.int 0, Value.int 0], zI (u2.1 0) (cy 0) 7 (fun _ => 0), zI q_3 (cy 0) 1344 (fun _ => 0)] H := hP
  have hD : va_D A [zO h0 9 [vR q_1, vR q_2, vN, Value.int 0, Value.int 0], zO q_1 6 [Value.int 0, Value.int 0, vR (u1.1 0), vR (u1.1 1), Value.int 0, Value.int 0, vR (u1.1 2), Value.int 0, vR (u1.1 3), Value.int 0, Value.int 0, vR (u1.1 4), Value.int 0, vR (u1.1 5), Value.int 0, Value.int 0, Value.int 0, Value.int 0, Value.int 0], zI (u1.1 0) (cy 0) 96 (fun _ => 0), zI (u1.1 1) (cy 0) 96 (fun _ => 0), zI (u1.1 2) (cy 0) 56 (fun _ => 0), zI (u1.1 3) (cy 0) 112 (fun _ => 0), zI (u1.1 4) (cy 0) 4 (fun _ => 0), zI (u1.1 5) (cy 0) 40 (fun _ => 0), zO q_2 0 [vR (u2.1 0), Value.int 0, Value.int 0, Value.int 0, Value.int 0, Value.int 0, Value.int 0], zI (u2.1 0) (cy 0) 7 (fun _ => 0), zI q_3 (cy 0) 1344 (fun _ => 0)] := hD
  refine va_putF (D := D) (ci := 9) (v := vR q_3) (ty := .array .int) (C := RX9) (T := TX9) (N := 5) hx hb hts hi9 tyX9 tyX9_ok nmX9 hown hG.1 hP hD hS 0 rfl rfl 2 (by decide) lf25 (fun _ h9 => h9) rfl hin rfl (by decide +kernel) rfl rfl (Nat.le_of_ble_eq_true rfl) dX9_init_32 (fun H locs hP hD hS => ?_)
  have hP : va_P D vwCl [zO h0 9 [vR q_1, vR q_2, vR q_3, Value.int 0, Value.int 0], zO q_1 6 [Value.int 0, Value.int 0, vR (u1.1 0), vR (u1.1 1), Value.int 0, Value.int 0, vR (u1.1 2), Value.int 0, vR (u1.1 3), Value.int 0, Value.int 0, vR (u1.1 4), Value.int 0, vR (u1.1 5), Value.int 0, Value.int 0, Value.int 0, Value.int 0, Value.int 0], zI (u1.1 0) (cy 0) 96 (fun _ => 0), zI (u1.1 1) (cy 0) 96 (fun _ => 0), zI (u1.1 2) (cy 0) 56 (fun _ => 0), zI (u1.1 3) (cy 0) 112 (fun _ => 0), zI (u1.1 4) (cy 0) 4 (fun _ => 0), zI (u1.1 5) (cy 0) 40 (fun _ => 0), zO q_2 0 [vR (u2.1 0), Value.int 0, Value.int 0, Value.int 0, Value.int 0, Value.int 0, Value.int 0], zI (u2.1 0) (cy 0) 7 (fun _ => 0), zI q_3 (cy 0) 1344 (fun _ => 0)] H := hP
  have hD : va_D A [zO h0 9 [vR q_1, vR q_2, vR q_3, Value.int 0, Value.int 0], zO q_1 6 [Value.int 0, Value.int 0, vR (u1.1 0), vR (u1.1 1), Value.int 0, Value.int 0, vR (u1.1 2), Value.int 0, vR (u1.1 3), Value.int 0, Value.int 0, vR (u1.1 4), Value.int 0, vR (u1.1 5), Value.int 0, Value.int 0, Value.int 0, Value.int 0, Value.int 0], zI (u1.1 0) (cy 0) 96 (fun _ => 0), zI (u1.1 1) (cy 0) 96 (fun _ => 0), zI (u1.1 2) (cy 0) 56 (fun _ => 0), zI (u1.1 3) (cy 0) 112 (fun _ => 0), zI (u1.1 4) (cy 0) 4 (fun _ => 0), zI (u1.1 5) (cy 0) 40 (fun _ => 0), zO q_2 0 [vR (u2.1 0), Value.int 0, Value.int 0, Value.int 0, Value.int 0, Value.int 0, Value.int 0], zI (u2.1 0) (cy 0) 7 (fun _ => 0), zI q_3 (cy 0) 1344 (fun _ => 0)] := hD
  refine W.widen (k := 10) (n := 1781) (Nat.le_of_ble_eq_true rfl) (Nat.le_of_ble_eq_true rfl) ?_
  exact W.vret hx hb hr (fun t ht hW => ⟨⟨((fun k => ([q_1, (u1.1 0), (u1.1 1), (u1.1 2), (u1.1 3), (u1.1 4), (u1.1 5), q_2, (u2.1 0), q_3] : List Nat).getD k 0), (fun k => ([] : List Int32).getD k 0), (fun k => ([] : List (Nat → Int32)).getD k (fun _ => 0))), rfl, (by first | (trivial)), by rw [ht]; exact hP.sub [0, 1, 2, 3, 4, 5, 6, 7, 8, 9, 10] rfl, hD.sub [0, 1, 2, 3, 4, 5, 6, 7, 8, 9, 10] (by decide) rfl⟩, hS.F ht⟩) hS.2.2 dX9_init_35
