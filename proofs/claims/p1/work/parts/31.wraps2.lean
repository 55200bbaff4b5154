theorem dL_law_0 : decode cL_law 0 = .ok (.aload_n 2, 1) := by decide +kernel
theorem dL_law_1 : decode cL_law 1 = .ok (.iconst 0, 1) := by decide +kernel
theorem dL_law_12 : decode cL_law 12 = .ok (.astore_n 3, 1) := by decide +kernel
theorem dL_law_13 : decode cL_law 13 = .ok (.iconst 1, 1) := by decide +kernel
theorem dL_law_14 : decode cL_law 14 = .ok (.ireturn, 1) := by decide +kernel
theorem dL_law_15 : decode cL_law 15 = .ok (.iconst 0, 1) := by decide +kernel
theorem dL_law_16 : decode cL_law 16 = .ok (.ireturn, 1) := by decide +kernel
theorem dL_law_2 : decode cL_law 2 = .ok (.aload_n 0, 1) := by decide +kernel
theorem dL_law_3 : decode cL_law 3 = .ok (.iload_n 1, 1) := by decide +kernel
theorem dL_law_4 : decode cL_law 4 = .ok (.invokevirtual 18, 3) := by decide +kernel
theorem dL_law_7 : decode cL_law 7 = .ok (.i2l, 1) := by decide +kernel
theorem dL_law_8 : decode cL_law 8 = .ok (.lastore, 1) := by decide +kernel
theorem dL_law_9 : decode cL_law 9 = .ok (.goto 6, 3) := by decide +kernel
theorem dL_rain_0 : decode cL_rain 0 = .ok (.aload_n 2, 1) := by decide +kernel
theorem dL_rain_1 : decode cL_rain 1 = .ok (.iconst 0, 1) := by decide +kernel
theorem dL_rain_12 : decode cL_rain 12 = .ok (.astore_n 3, 1) := by decide +kernel
theorem dL_rain_13 : decode cL_rain 13 = .ok (.iconst 1, 1) := by decide +kernel
theorem dL_rain_14 : decode cL_rain 14 = .ok (.ireturn, 1) := by decide +kernel
theorem dL_rain_15 : decode cL_rain 15 = .ok (.iconst 0, 1) := by decide +kernel
theorem dL_rain_16 : decode cL_rain 16 = .ok (.ireturn, 1) := by decide +kernel
theorem dL_rain_2 : decode cL_rain 2 = .ok (.aload_n 0, 1) := by decide +kernel
theorem dL_rain_3 : decode cL_rain 3 = .ok (.iload_n 1, 1) := by decide +kernel
theorem dL_rain_4 : decode cL_rain 4 = .ok (.invokevirtual 15, 3) := by decide +kernel
theorem dL_rain_7 : decode cL_rain 7 = .ok (.i2l, 1) := by decide +kernel
theorem dL_rain_8 : decode cL_rain 8 = .ok (.lastore, 1) := by decide +kernel
theorem dL_rain_9 : decode cL_rain 9 = .ok (.goto 6, 3) := by decide +kernel
theorem dL_street_0 : decode cL_street 0 = .ok (.aload_n 2, 1) := by decide +kernel
theorem dL_street_1 : decode cL_street 1 = .ok (.iconst 0, 1) := by decide +kernel
theorem dL_street_12 : decode cL_street 12 = .ok (.astore_n 3, 1) := by decide +kernel
theorem dL_street_13 : decode cL_street 13 = .ok (.iconst 1, 1) := by decide +kernel
theorem dL_street_14 : decode cL_street 14 = .ok (.ireturn, 1) := by decide +kernel
theorem dL_street_15 : decode cL_street 15 = .ok (.iconst 0, 1) := by decide +kernel
theorem dL_street_16 : decode cL_street 16 = .ok (.ireturn, 1) := by decide +kernel
theorem dL_street_2 : decode cL_street 2 = .ok (.aload_n 0, 1) := by decide +kernel
theorem dL_street_3 : decode cL_street 3 = .ok (.iload_n 1, 1) := by decide +kernel
theorem dL_street_4 : decode cL_street 4 = .ok (.invokevirtual 7, 3) := by decide +kernel
theorem dL_street_7 : decode cL_street 7 = .ok (.i2l, 1) := by decide +kernel
theorem dL_street_8 : decode cL_street 8 = .ok (.lastore, 1) := by decide +kernel
theorem dL_street_9 : decode cL_street 9 = .ok (.goto 6, 3) := by decide +kernel
def vs_w_street0 : List Cond := .codeWith yL_street cL_street 4 (some .int) [(0, 9, 12, 13)] :: (([] : List Cond) ++ ((wsV RL 7 RX11 yX11_street vs_c_street0) ++ ([])))
set_option maxHeartbeats 4000000 in
set_option maxRecDepth 100000 in
theorem w_street0 (l : Launch) (hl : l.stackTraces = false) (D : va_G) (cy : Nat → ClassId) (sa : Nat → Nat) (ko : Nat) (ka : Nat → Nat) (f0 f1 f2 : Nat → Int32) (ao : Nat) (sz : Nat) : Met l yL_street vs_w_street0 ({ frames := 4, cells := 1, slots := 2, locals := 86 }) (va_Pc [.ref ko, .int 0, .ref ao] (pcW D cy sa sz [(ko, .inr (11, [.ref (ka 0), .ref (ka 1), .ref (ka 2), .int 0, .int 0, .ref (ka 5), .ref (ka 6), .ref (ka 7), .ref (ka 8), .ref (ka 9), .int 0, .ref (ka 11), .ref (ka 12), .ref (ka 13)])), ((ka 0), .inr (8, [.ref (ka 20), .int 0, .int 0, .int 0, .int 0, .int 0, .int (-1)])), ((ka 6), .inr (6, [.int 0, .int 0, .ref (ka 31), .ref (ka 32), .int 0, .int 0, .ref (ka 33), .int 0, .ref (ka 34), .int 0, .int 0, .ref (ka 35), .int 0, .ref (ka 36), .int 0, .int 0, .int 0, .int 0, .int 0])), ((ka 31), .inl (cy 0, 96, .inl f0)), ((ka 32), .inl (cy 0, 96, .inl f1)), ((ka 7), .inr (4, [.int 0, .ref (ka 41), .int 0, .ref (ka 42), .ref (ka 43)])), ((ka 43), .inl (cy 0, 4, .inl f2)), (ao, .inl (cy 2, 1, .inr (.inl (fun _ => 0))))])) (va_Qi (fun (r : Int32) (u : SU) => (r = 0 ∧ (u.2.1 0) = 24)) (fun u t => atW D (va_A [(ko, .inr (11, [.ref (ka 0), .ref (ka 1), .ref (ka 2), .int 0, .int 0, .ref (ka 5), .ref (ka 6), .ref (ka 7), .ref (ka 8), .ref (ka 9), .int 0, .ref (ka 11), .ref (ka 12), .ref (ka 13)])), ((ka 0), .inr (8, [.ref (ka 20), .int 0, .int 0, .int 0, .int 0, .int 0, .int (-1)])), ((ka 6), .inr (6, [.int 0, .int 0, .ref (ka 31), .ref (ka 32), .int 0, .int 0, .ref (ka 33), .int 0, .ref (ka 34), .int 0, .int 0, .ref (ka 35), .int 0, .ref (ka 36), .int 0, .int 0, .int 0, .int 0, .int 0])), ((ka 31), .inl (cy 0, 96, .inl f0)), ((ka 32), .inl (cy 0, 96, .inl f1)), ((ka 7), .inr (4, [.int 0, .ref (ka 41), .int 0, .ref (ka 42), .ref (ka 43)])), ((ka 43), .inl (cy 0, 4, .inl f2)), (ao, .inl (cy 2, 1, .inr (.inl (fun _ => 0))))] sz) [(ao, .inl (cy 2, 1, .inr (.inl (fun _ => (u.2.1 0 : Int32).toInt64))))] t) (va_A [(ko, .inr (11, [.ref (ka 0), .ref (ka 1), .ref (ka 2), .int 0, .int 0, .ref (ka 5), .ref (ka 6), .ref (ka 7), .ref (ka 8), .ref (ka 9), .int 0, .ref (ka 11), .ref (ka 12), .ref (ka 13)])), ((ka 0), .inr (8, [.ref (ka 20), .int 0, .int 0, .int 0, .int 0, .int 0, .int (-1)])), ((ka 6), .inr (6, [.int 0, .int 0, .ref (ka 31), .ref (ka 32), .int 0, .int 0, .ref (ka 33), .int 0, .ref (ka 34), .int 0, .int 0, .ref (ka 35), .int 0, .ref (ka 36), .int 0, .int 0, .int 0, .int 0, .int 0])), ((ka 31), .inl (cy 0, 96, .inl f0)), ((ka 32), .inl (cy 0, 96, .inl f1)), ((ka 7), .inr (4, [.int 0, .ref (ka 41), .int 0, .ref (ka 42), .ref (ka 43)])), ((ka 43), .inl (cy 0, 4, .inl f2)), (ao, .inl (cy 2, 1, .inr (.inl (fun _ => 0))))] sz)) 1 2 (va_A [(ko, .inr (11, [.ref (ka 0), .ref (ka 1), .ref (ka 2), .int 0, .int 0, .ref (ka 5), .ref (ka 6), .ref (ka 7), .ref (ka 8), .ref (ka 9), .int 0, .ref (ka 11), .ref (ka 12), .ref (ka 13)])), ((ka 0), .inr (8, [.ref (ka 20), .int 0, .int 0, .int 0, .int 0, .int 0, .int (-1)])), ((ka 6), .inr (6, [.int 0, .int 0, .ref (ka 31), .ref (ka 32), .int 0, .int 0, .ref (ka 33), .int 0, .ref (ka 34), .int 0, .int 0, .ref (ka 35), .int 0, .ref (ka 36), .int 0, .int 0, .int 0, .int 0, .int 0])), ((ka 31), .inl (cy 0, 96, .inl f0)), ((ka 32), .inl (cy 0, 96, .inl f1)), ((ka 7), .inr (4, [.int 0, .ref (ka 41), .int 0, .ref (ka 42), .ref (ka 43)])), ((ka 43), .inl (cy 0, 4, .inl f2)), (ao, .inl (cy 2, 1, .inr (.inl (fun _ => 0))))] sz) := by
  refine va_MetW (cc := cL_street) (maxL := 4) (ret := (some .int)) (by decide) rfl ?_
  intro p e s m args below meth c s₁ B hml hv
  obtain ⟨rfl, hsz, hP, hG, hD0, hT⟩ := hv
  have hx := B.exec
  have hb := B.bytes
  have hr := B.returns
  have hts := atoms_spec (ws := vs_w_street0) B.pre
  have hown : s.vm.findClass RL = some m.cls := findClass_of_methodNamed B.named
  have hlocks := B.notSynchronized
  subst hsz
  have hD := hD0.self (sz := s.heap.size)
  generalize hAe : va_A [(ko, .inr (11, [.ref (ka 0), .ref (ka 1), .ref (ka 2), .int 0, .int 0, .ref (ka 5), .ref (ka 6), .ref (ka 7), .ref (ka 8), .ref (ka 9), .int 0, .ref (ka 11), .ref (ka 12), .ref (ka 13)])), ((ka 0), .inr (8, [.ref (ka 20), .int 0, .int 0, .int 0, .int 0, .int 0, .int (-1)])), ((ka 6), .inr (6, [.int 0, .int 0, .ref (ka 31), .ref (ka 32), .int 0, .int 0, .ref (ka 33), .int 0, .ref (ka 34), .int 0, .int 0, .ref (ka 35), .int 0, .ref (ka 36), .int 0, .int 0, .int 0, .int 0, .int 0])), ((ka 31), .inl (cy 0, 96, .inl f0)), ((ka 32), .inl (cy 0, 96, .inl f1)), ((ka 7), .inr (4, [.int 0, .ref (ka 41), .int 0, .ref (ka 42), .ref (ka 43)])), ((ka 43), .inl (cy 0, 4, .inl f2)), (ao, .inl (cy 2, 1, .inr (.inl (fun _ => 0))))] s.heap.size = A at hD hT ⊢
  have hA : ∀ q : Nat, s.heap.size ≤ q → A q := fun q h => by rw [← hAe]; exact Or.inr h
  have hS : va_S A s.heap s.heap [] := va_S.rf
  have hl0 := lv_entry ([.ref ko, .int 0, .ref ao]) (n := 4) (Nat.le_of_ble_eq_true rfl)
  rw [lg_entry_eq]
  generalize (lg_sl ([.ref ko, .int 0, .ref ao]) ++ List.replicate (4 - (lg_sl ([.ref ko, .int 0, .ref ao])).length) Slot.unset).toArray = ls at hl0 ⊢
  have hlv : lv_has ls 4 [(0, .ref ko), (1, .int 0), (2, .ref ao)] := hl0
  have gg_0 : GoodIn vs_w_street0 (wsV RL 7 RX11 yX11_street vs_c_street0) := goodIn_sub (fun w h => List.mem_cons_of_mem _ (List.mem_append_right _ (List.mem_append_left _ h))) (by decide +kernel)
  refine lv_aload_n hx hb dL_street_0 rfl (lv_at hlv 2 rfl) ?_
  refine lv_iconst (v := 0) hx hb dL_street_1 (by decide) ?_
  refine lv_aload_n hx hb dL_street_2 rfl (lv_at hlv 0 rfl) ?_
  refine lv_iload_n hx hb dL_street_3 rfl (lv_at hlv 1 rfl) ?_
  refine cj_i (wr := [(ao, .inl (cy 2, 1, .inr (.inl (fun _ => 0))))]) (va_runV (As := [.int 0]) (rest := [.int 0, .ref ao]) ⟨hx, hb, hml, hown, hts⟩ (c_street0 l hl D cy sa ko ka f0 f1 f2 s.heap.size) (cwV 1 hts gg_0 rfl rfl rfl (by decide +kernel) ⟨Nat.le_of_ble_eq_true rfl, Nat.le_of_ble_eq_true rfl⟩) ⟨pcW.blind, (va_recv hG.1 hP (ci := 11) (q0 := 0) rfl rfl), (pcW.mk hP hD hS hA hG hT [0, 1, 2, 3, 4, 5, 6] rfl (by decide))⟩ rfl rfl hlv.1 rfl (lv_room (Nat.le_of_ble_eq_true rfl)) dL_street_4 ⟨Nat.le_of_ble_eq_true rfl, Nat.le_of_ble_eq_true rfl⟩) hP hD hS hA [0, 1, 2, 3, 4, 5, 6] [7] rfl rfl (by decide) (by decide) (fun r1 u1 H locs hw1 hP hD hS => ?_)
  obtain rfl := hw1
  have hP : va_P D vwCl [(ao, .inl (cy 2, 1, .inr (.inl (fun _ => 0))))] H := hP
  have hD : va_D A [(ao, .inl (cy 2, 1, .inr (.inl (fun _ => 0))))] := hD
  refine lv_i2l (v := (24 : Int32).toInt64) hx hb dL_street_7 rfl ?_
  refine va_last hx hb hG.1 hP hD hS 0 2 rfl rfl (vpd (by decide)) dL_street_8 (fun H locs hP hD hS => ?_)
  have hP : va_P D vwCl [(ao, .inl (cy 2, 1, .inr (.inl (vp_updL (fun _ => 0) 0 (24 : Int32).toInt64))))] H := hP
  have hD : va_D A [(ao, .inl (cy 2, 1, .inr (.inl (vp_updL (fun _ => 0) 0 (24 : Int32).toInt64))))] := hD
  refine lv_goto (tgt := 15) hx hb dL_street_9 (by decide) ?_
  refine lv_iconst (v := 0) hx hb dL_street_15 (by decide) ?_
  obtain ⟨hP, hD⟩ := arl 0 (fun _ => (24 : Int32).toInt64) hP hD rfl arl_1
  have hP : va_P D vwCl [(ao, .inl (cy 2, 1, .inr (.inl (fun _ => (24 : Int32).toInt64))))] H := hP
  have hD : va_D A [(ao, .inl (cy 2, 1, .inr (.inl (fun _ => (24 : Int32).toInt64))))] := hD
  refine W.widen (k := 1) (n := 2) (Nat.le_of_ble_eq_true rfl) (Nat.le_of_ble_eq_true rfl) ?_
  exact W.iret (v := 0) hx hb hr (fun t ht hW => ⟨⟨0, ((fun k => ([] : List Nat).getD k 0), (fun k => ([24] : List Int32).getD k 0), (fun k => ([] : List (Nat → Int32)).getD k (fun _ => 0))), rfl, (by first | (exact ⟨by rfl, by rfl⟩)), by rw [ht]; exact hP.sub [0] rfl, hD.sub [0] (by decide) rfl⟩, hS.F ht⟩) hS.2.2 dL_street_16
def vs_w_streetx : List Cond := .codeWith yL_street cL_street 4 (some .int) [(0, 9, 12, 13)] :: (([.classLink RL 13 "java/lang/IllegalArgumentException"] : List Cond) ++ ((wsV RL 7 RX11 yX11_street vs_c_streetx) ++ ([])))
set_option maxHeartbeats 4000000 in
set_option maxRecDepth 100000 in
theorem w_streetx (l : Launch) (hl : l.stackTraces = false) (D : va_G) (cy : Nat → ClassId) (sa : Nat → Nat) (ko : Nat) (ka : Nat → Nat) (n : Int32) (ao : Nat) (sz : Nat) (hn : ¬ (0 ≤ n ∧ n ≤ 0)) : Met l yL_street vs_w_streetx ({ frames := 9, cells := 1, slots := 6, locals := 164 }) (va_Pc [.ref ko, .int n, .ref ao] (pcW D cy sa sz [(ko, .inr (11, [.ref (ka 0), .ref (ka 1), .ref (ka 2), .int 0, .int 0, .ref (ka 5), .ref (ka 6), .ref (ka 7), .ref (ka 8), .ref (ka 9), .int 0, .ref (ka 11), .ref (ka 12), .ref (ka 13)])), ((ka 0), .inr (8, [.ref (ka 20), .int 0, .int 0, .int 0, .int 0, .int 0, .int (-1)])), ((ka 13), .inl (cy 0, 4, .inl (fun _ => 0))), (ao, .inl (cy 2, 1, .inr (.inl (fun _ => 0))))])) (va_Qi (fun (r : Int32) (u : SU) => (r = 1)) (fun u t => atW D (va_A [(ko, .inr (11, [.ref (ka 0), .ref (ka 1), .ref (ka 2), .int 0, .int 0, .ref (ka 5), .ref (ka 6), .ref (ka 7), .ref (ka 8), .ref (ka 9), .int 0, .ref (ka 11), .ref (ka 12), .ref (ka 13)])), ((ka 0), .inr (8, [.ref (ka 20), .int 0, .int 0, .int 0, .int 0, .int 0, .int (-1)])), ((ka 13), .inl (cy 0, 4, .inl (fun _ => 0))), (ao, .inl (cy 2, 1, .inr (.inl (fun _ => 0))))] sz) [(ao, .inl (cy 2, 1, .inr (.inl (fun _ => (u.2.1 0 : Int32).toInt64))))] t) (va_A [(ko, .inr (11, [.ref (ka 0), .ref (ka 1), .ref (ka 2), .int 0, .int 0, .ref (ka 5), .ref (ka 6), .ref (ka 7), .ref (ka 8), .ref (ka 9), .int 0, .ref (ka 11), .ref (ka 12), .ref (ka 13)])), ((ka 0), .inr (8, [.ref (ka 20), .int 0, .int 0, .int 0, .int 0, .int 0, .int (-1)])), ((ka 13), .inl (cy 0, 4, .inl (fun _ => 0))), (ao, .inl (cy 2, 1, .inr (.inl (fun _ => 0))))] sz)) 1 6 (va_A [(ko, .inr (11, [.ref (ka 0), .ref (ka 1), .ref (ka 2), .int 0, .int 0, .ref (ka 5), .ref (ka 6), .ref (ka 7), .ref (ka 8), .ref (ka 9), .int 0, .ref (ka 11), .ref (ka 12), .ref (ka 13)])), ((ka 0), .inr (8, [.ref (ka 20), .int 0, .int 0, .int 0, .int 0, .int 0, .int (-1)])), ((ka 13), .inl (cy 0, 4, .inl (fun _ => 0))), (ao, .inl (cy 2, 1, .inr (.inl (fun _ => 0))))] sz) := by
  refine va_MetW (cc := cL_street) (maxL := 4) (ret := (some .int)) (by decide) rfl ?_
  intro p e s m args below meth c s₁ B hml hv
  obtain ⟨rfl, hsz, hP, hG, hD0, hT⟩ := hv
  have hx := B.exec
  have hb := B.bytes
  have hr := B.returns
  have hts := atoms_spec (ws := vs_w_streetx) B.pre
  have hown : s.vm.findClass RL = some m.cls := findClass_of_methodNamed B.named
  have hlocks := B.notSynchronized
  subst hsz
  have hD := hD0.self (sz := s.heap.size)
  generalize hAe : va_A [(ko, .inr (11, [.ref (ka 0), .ref (ka 1), .ref (ka 2), .int 0, .int 0, .ref (ka 5), .ref (ka 6), .ref (ka 7), .ref (ka 8), .ref (ka 9), .int 0, .ref (ka 11), .ref (ka 12), .ref (ka 13)])), ((ka 0), .inr (8, [.ref (ka 20), .int 0, .int 0, .int 0, .int 0, .int 0, .int (-1)])), ((ka 13), .inl (cy 0, 4, .inl (fun _ => 0))), (ao, .inl (cy 2, 1, .inr (.inl (fun _ => 0))))] s.heap.size = A at hD hT ⊢
  have hA : ∀ q : Nat, s.heap.size ≤ q → A q := fun q h => by rw [← hAe]; exact Or.inr h
  have hS : va_S A s.heap s.heap [] := va_S.rf
  have hl0 := lv_entry ([.ref ko, .int n, .ref ao]) (n := 4) (Nat.le_of_ble_eq_true rfl)
  rw [lg_entry_eq]
  generalize (lg_sl ([.ref ko, .int n, .ref ao]) ++ List.replicate (4 - (lg_sl ([.ref ko, .int n, .ref ao])).length) Slot.unset).toArray = ls at hl0 ⊢
  have hlv : lv_has ls 4 [(0, .ref ko), (1, .int n), (2, .ref ao)] := hl0
  have gg_0 : GoodIn vs_w_streetx (wsV RL 7 RX11 yX11_street vs_c_streetx) := goodIn_sub (fun w h => List.mem_cons_of_mem _ (List.mem_append_right _ (List.mem_append_left _ h))) (by decide +kernel)
  have xc13 := hts (.classLink RL 13 "java/lang/IllegalArgumentException") (List.mem_of_getElem? (i := 1) rfl)
  have htab : c.exceptionTable.toList = [(⟨0, 9, 12, 13⟩ : ExceptionTableEntry)] := vx_table (x := yL_street) B (hts (.codeWith yL_street cL_street 4 (some .int) [(0, 9, 12, 13)]) List.mem_cons_self)
  refine lv_aload_n hx hb dL_street_0 rfl (lv_at hlv 2 rfl) ?_
  refine lv_iconst (v := 0) hx hb dL_street_1 (by decide) ?_
  refine lv_aload_n hx hb dL_street_2 rfl (lv_at hlv 0 rfl) ?_
  refine lv_iload_n hx hb dL_street_3 rfl (lv_at hlv 1 rfl) ?_
  refine cjx_i (wr := [(ao, .inl (cy 2, 1, .inr (.inl (fun _ => 0))))]) (vx_runV (As := [.int n]) (rest := [.int 0, .ref ao]) ⟨hx, hb, hml, hown, hts⟩ (c_streetx l hl D cy sa ko ka n s.heap.size hn) (cwV 1 hts gg_0 rfl rfl rfl (by decide +kernel) ⟨Nat.le_of_ble_eq_true rfl, Nat.le_of_ble_eq_true rfl⟩) ⟨pcW.blind, (va_recv hG.1 hP (ci := 11) (q0 := 0) rfl rfl), (pcW.mk hP hD hS hA hG hT [0, 1, 2] rfl (by decide))⟩ rfl rfl hlv.1 rfl (lv_room (Nat.le_of_ble_eq_true rfl)) dL_street_4 ⟨Nat.le_of_ble_eq_true rfl, Nat.le_of_ble_eq_true rfl⟩) hP hD hS hA [0, 1, 2] [3] rfl rfl (by decide) (by decide) (fun E ce q9 H locs hp hP hD hS h1 h2 h3 => ?_) (fun r1 u1 H locs hw1 hP hD hS => ?_)
  · obtain ⟨rfl, hg1⟩ := hp
    refine vx_catch (name := "java/lang/IllegalArgumentException") hown [] (⟨0, 9, 12, 13⟩ : ExceptionTableEntry) [] htab (fun z hz => by simp at hz) (by decide) (by decide) xc13 (va_Nw.use rfl (hG.2.2.2.1 _ (List.mem_of_getElem? (i := 2) rfl))) h1 h2 h3 ?_
    refine lv_astore_n (lv' := [(3, .ref q9), (0, .ref ko), (1, .int n), (2, .ref ao)]) hx hb dL_street_12 rfl hlv (by decide) rfl (fun ls hlv => ?_)
    refine lv_iconst (v := 1) hx hb dL_street_13 (by decide) ?_
    obtain ⟨hP, hD⟩ := arl 0 (fun _ => (0 : Int32).toInt64) hP hD rfl arl_0
    have hP : va_P D vwCl [(ao, .inl (cy 2, 1, .inr (.inl (fun _ => (0 : Int32).toInt64))))] H := hP
    have hD : va_D A [(ao, .inl (cy 2, 1, .inr (.inl (fun _ => (0 : Int32).toInt64))))] := hD
    refine W.widen (k := 1) (n := 6) (Nat.le_of_ble_eq_true rfl) (Nat.le_of_ble_eq_true rfl) ?_
    exact W.iret (v := 1) hx hb hr (fun t ht hW => ⟨⟨1, ((fun k => ([] : List Nat).getD k 0), (fun k => ([0] : List Int32).getD k 0), (fun k => ([] : List (Nat → Int32)).getD k (fun _ => 0))), rfl, (by first | (exact (by rfl))), by rw [ht]; exact hP.sub [0] rfl, hD.sub [0] (by decide) rfl⟩, hS.F ht⟩) hS.2.2 dL_street_14
  · exact (hw1).elim
def vs_w_rain0 : List Cond := .codeWith yL_rain cL_rain 4 (some .int) [(0, 9, 12, 13)] :: (([] : List Cond) ++ ((wsV RL 15 RX11 yX11_rain vs_c_rain0) ++ ([])))
set_option maxHeartbeats 4000000 in
set_option maxRecDepth 100000 in
theorem w_rain0 (l : Launch) (hl : l.stackTraces = false) (D : va_G) (cy : Nat → ClassId) (sa : Nat → Nat) (ko : Nat) (ka : Nat → Nat) (ao : Nat) (sz : Nat) : Met l yL_rain vs_w_rain0 ({ frames := 4, cells := 0, slots := 0, locals := 83 }) (va_Pc [.ref ko, .int 0, .ref ao] (pcW D cy sa sz [(ko, .inr (11, [.ref (ka 0), .ref (ka 1), .ref (ka 2), .int 0, .int 0, .ref (ka 5), .ref (ka 6), .ref (ka 7), .ref (ka 8), .ref (ka 9), .int 0, .ref (ka 11), .ref (ka 12), .ref (ka 13)])), ((ka 0), .inr (8, [.ref (ka 20), .int 0, .int 0, .int 0, .int 0, .int 0, .int (-1)])), ((ka 1), .inl (cy 4, 4, .inr (.inr (.inr (.inr (fun k => some (ka (100 + k)))))))), ((ka 100), .inr (5, [.ref (ka 51), .int 0])), (ao, .inl (cy 2, 1, .inr (.inl (fun _ => 0))))])) (va_Qi (fun (r : Int32) (u : SU) => (r = 0 ∧ (u.2.1 0) = (-9))) (fun u t => atW D (va_A [(ko, .inr (11, [.ref (ka 0), .ref (ka 1), .ref (ka 2), .int 0, .int 0, .ref (ka 5), .ref (ka 6), .ref (ka 7), .ref (ka 8), .ref (ka 9), .int 0, .ref (ka 11), .ref (ka 12), .ref (ka 13)])), ((ka 0), .inr (8, [.ref (ka 20), .int 0, .int 0, .int 0, .int 0, .int 0, .int (-1)])), ((ka 1), .inl (cy 4, 4, .inr (.inr (.inr (.inr (fun k => some (ka (100 + k)))))))), ((ka 100), .inr (5, [.ref (ka 51), .int 0])), (ao, .inl (cy 2, 1, .inr (.inl (fun _ => 0))))] sz) [(ao, .inl (cy 2, 1, .inr (.inl (fun _ => (u.2.1 0 : Int32).toInt64))))] t) (va_A [(ko, .inr (11, [.ref (ka 0), .ref (ka 1), .ref (ka 2), .int 0, .int 0, .ref (ka 5), .ref (ka 6), .ref (ka 7), .ref (ka 8), .ref (ka 9), .int 0, .ref (ka 11), .ref (ka 12), .ref (ka 13)])), ((ka 0), .inr (8, [.ref (ka 20), .int 0, .int 0, .int 0, .int 0, .int 0, .int (-1)])), ((ka 1), .inl (cy 4, 4, .inr (.inr (.inr (.inr (fun k => some (ka (100 + k)))))))), ((ka 100), .inr (5, [.ref (ka 51), .int 0])), (ao, .inl (cy 2, 1, .inr (.inl (fun _ => 0))))] sz)) 0 0 (va_A [(ko, .inr (11, [.ref (ka 0), .ref (ka 1), .ref (ka 2), .int 0, .int 0, .ref (ka 5), .ref (ka 6), .ref (ka 7), .ref (ka 8), .ref (ka 9), .int 0, .ref (ka 11), .ref (ka 12), .ref (ka 13)])), ((ka 0), .inr (8, [.ref (ka 20), .int 0, .int 0, .int 0, .int 0, .int 0, .int (-1)])), ((ka 1), .inl (cy 4, 4, .inr (.inr (.inr (.inr (fun k => some (ka (100 + k)))))))), ((ka 100), .inr (5, [.ref (ka 51), .int 0])), (ao, .inl (cy 2, 1, .inr (.inl (fun _ => 0))))] sz) := by
  refine va_MetW (cc := cL_rain) (maxL := 4) (ret := (some .int)) (by decide) rfl ?_
  intro p e s m args below meth c s₁ B hml hv
  obtain ⟨rfl, hsz, hP, hG, hD0, hT⟩ := hv
  have hx := B.exec
  have hb := B.bytes
  have hr := B.returns
  have hts := atoms_spec (ws := vs_w_rain0) B.pre
  have hown : s.vm.findClass RL = some m.cls := findClass_of_methodNamed B.named
  have hlocks := B.notSynchronized
  subst hsz
  have hD := hD0.self (sz := s.heap.size)
  generalize hAe : va_A [(ko, .inr (11, [.ref (ka 0), .ref (ka 1), .ref (ka 2), .int 0, .int 0, .ref (ka 5), .ref (ka 6), .ref (ka 7), .ref (ka 8), .ref (ka 9), .int 0, .ref (ka 11), .ref (ka 12), .ref (ka 13)])), ((ka 0), .inr (8, [.ref (ka 20), .int 0, .int 0, .int 0, .int 0, .int 0, .int (-1)])), ((ka 1), .inl (cy 4, 4, .inr (.inr (.inr (.inr (fun k => some (ka (100 + k)))))))), ((ka 100), .inr (5, [.ref (ka 51), .int 0])), (ao, .inl (cy 2, 1, .inr (.inl (fun _ => 0))))] s.heap.size = A at hD hT ⊢
  have hA : ∀ q : Nat, s.heap.size ≤ q → A q := fun q h => by rw [← hAe]; exact Or.inr h
  have hS : va_S A s.heap s.heap [] := va_S.rf
  have hl0 := lv_entry ([.ref ko, .int 0, .ref ao]) (n := 4) (Nat.le_of_ble_eq_true rfl)
  rw [lg_entry_eq]
  generalize (lg_sl ([.ref ko, .int 0, .ref ao]) ++ List.replicate (4 - (lg_sl ([.ref ko, .int 0, .ref ao])).length) Slot.unset).toArray = ls at hl0 ⊢
  have hlv : lv_has ls 4 [(0, .ref ko), (1, .int 0), (2, .ref ao)] := hl0
  have gg_0 : GoodIn vs_w_rain0 (wsV RL 15 RX11 yX11_rain vs_c_rain0) := goodIn_sub (fun w h => List.mem_cons_of_mem _ (List.mem_append_right _ (List.mem_append_left _ h))) (by decide +kernel)
  refine lv_aload_n hx hb dL_rain_0 rfl (lv_at hlv 2 rfl) ?_
  refine lv_iconst (v := 0) hx hb dL_rain_1 (by decide) ?_
  refine lv_aload_n hx hb dL_rain_2 rfl (lv_at hlv 0 rfl) ?_
  refine lv_iload_n hx hb dL_rain_3 rfl (lv_at hlv 1 rfl) ?_
  refine cj_i (wr := [(ao, .inl (cy 2, 1, .inr (.inl (fun _ => 0))))]) (va_runV (As := [.int 0]) (rest := [.int 0, .ref ao]) ⟨hx, hb, hml, hown, hts⟩ (c_rain0 l hl D cy sa ko ka s.heap.size) (cwV 1 hts gg_0 rfl rfl rfl (by decide +kernel) ⟨Nat.le_of_ble_eq_true rfl, Nat.le_of_ble_eq_true rfl⟩) ⟨pcW.blind, (va_recv hG.1 hP (ci := 11) (q0 := 0) rfl rfl), (pcW.mk hP hD hS hA hG hT [0, 1, 2, 3] rfl (by decide))⟩ rfl rfl hlv.1 rfl (lv_room (Nat.le_of_ble_eq_true rfl)) dL_rain_4 ⟨Nat.le_of_ble_eq_true rfl, Nat.le_of_ble_eq_true rfl⟩) hP hD hS hA [0, 1, 2, 3] [4] rfl rfl (by decide) (by decide) (fun r1 u1 H locs hw1 hP hD hS => ?_)
  obtain rfl := hw1
  have hP : va_P D vwCl [(ao, .inl (cy 2, 1, .inr (.inl (fun _ => 0))))] H := hP
  have hD : va_D A [(ao, .inl (cy 2, 1, .inr (.inl (fun _ => 0))))] := hD
  refine lv_i2l (v := ((-9) : Int32).toInt64) hx hb dL_rain_7 rfl ?_
  refine va_last hx hb hG.1 hP hD hS 0 2 rfl rfl (vpd (by decide)) dL_rain_8 (fun H locs hP hD hS => ?_)
  have hP : va_P D vwCl [(ao, .inl (cy 2, 1, .inr (.inl (vp_updL (fun _ => 0) 0 ((-9) : Int32).toInt64))))] H := hP
  have hD : va_D A [(ao, .inl (cy 2, 1, .inr (.inl (vp_updL (fun _ => 0) 0 ((-9) : Int32).toInt64))))] := hD
  refine lv_goto (tgt := 15) hx hb dL_rain_9 (by decide) ?_
  refine lv_iconst (v := 0) hx hb dL_rain_15 (by decide) ?_
  obtain ⟨hP, hD⟩ := arl 0 (fun _ => ((-9) : Int32).toInt64) hP hD rfl arl_1
  have hP : va_P D vwCl [(ao, .inl (cy 2, 1, .inr (.inl (fun _ => ((-9) : Int32).toInt64))))] H := hP
  have hD : va_D A [(ao, .inl (cy 2, 1, .inr (.inl (fun _ => ((-9) : Int32).toInt64))))] := hD
  refine W.widen (k := 0) (n := 0) (Nat.le_of_ble_eq_true rfl) (Nat.le_of_ble_eq_true rfl) ?_
  exact W.iret (v := 0) hx hb hr (fun t ht hW => ⟨⟨0, ((fun k => ([] : List Nat).getD k 0), (fun k => ([(-9)] : List Int32).getD k 0), (fun k => ([] : List (Nat → Int32)).getD k (fun _ => 0))), rfl, (by first | (exact ⟨by rfl, by rfl⟩)), by rw [ht]; exact hP.sub [0] rfl, hD.sub [0] (by decide) rfl⟩, hS.F ht⟩) hS.2.2 dL_rain_16
def vs_w_rainx : List Cond := .codeWith yL_rain cL_rain 4 (some .int) [(0, 9, 12, 13)] :: (([.classLink RL 13 "java/lang/IllegalArgumentException"] : List Cond) ++ ((wsV RL 15 RX11 yX11_rain vs_c_rainx) ++ ([])))
set_option maxHeartbeats 4000000 in
set_option maxRecDepth 100000 in
theorem w_rainx (l : Launch) (hl : l.stackTraces = false) (D : va_G) (cy : Nat → ClassId) (sa : Nat → Nat) (ko : Nat) (ka : Nat → Nat) (n : Int32) (ao : Nat) (sz : Nat) (hn : ¬ (0 ≤ n ∧ n ≤ 0)) : Met l yL_rain vs_w_rainx ({ frames := 9, cells := 1, slots := 6, locals := 163 }) (va_Pc [.ref ko, .int n, .ref ao] (pcW D cy sa sz [(ko, .inr (11, [.ref (ka 0), .ref (ka 1), .ref (ka 2), .int 0, .int 0, .ref (ka 5), .ref (ka 6), .ref (ka 7), .ref (ka 8), .ref (ka 9), .int 0, .ref (ka 11), .ref (ka 12), .ref (ka 13)])), ((ka 0), .inr (8, [.ref (ka 20), .int 0, .int 0, .int 0, .int 0, .int 0, .int (-1)])), ((ka 13), .inl (cy 0, 4, .inl (fun _ => 0))), (ao, .inl (cy 2, 1, .inr (.inl (fun _ => 0))))])) (va_Qi (fun (r : Int32) (u : SU) => (r = 1)) (fun u t => atW D (va_A [(ko, .inr (11, [.ref (ka 0), .ref (ka 1), .ref (ka 2), .int 0, .int 0, .ref (ka 5), .ref (ka 6), .ref (ka 7), .ref (ka 8), .ref (ka 9), .int 0, .ref (ka 11), .ref (ka 12), .ref (ka 13)])), ((ka 0), .inr (8, [.ref (ka 20), .int 0, .int 0, .int 0, .int 0, .int 0, .int (-1)])), ((ka 13), .inl (cy 0, 4, .inl (fun _ => 0))), (ao, .inl (cy 2, 1, .inr (.inl (fun _ => 0))))] sz) [(ao, .inl (cy 2, 1, .inr (.inl (fun _ => (u.2.1 0 : Int32).toInt64))))] t) (va_A [(ko, .inr (11, [.ref (ka 0), .ref (ka 1), .ref (ka 2), .int 0, .int 0, .ref (ka 5), .ref (ka 6), .ref (ka 7), .ref (ka 8), .ref (ka 9), .int 0, .ref (ka 11), .ref (ka 12), .ref (ka 13)])), ((ka 0), .inr (8, [.ref (ka 20), .int 0, .int 0, .int 0, .int 0, .int 0, .int (-1)])), ((ka 13), .inl (cy 0, 4, .inl (fun _ => 0))), (ao, .inl (cy 2, 1, .inr (.inl (fun _ => 0))))] sz)) 1 6 (va_A [(ko, .inr (11, [.ref (ka 0), .ref (ka 1), .ref (ka 2), .int 0, .int 0, .ref (ka 5), .ref (ka 6), .ref (ka 7), .ref (ka 8), .ref (ka 9), .int 0, .ref (ka 11), .ref (ka 12), .ref (ka 13)])), ((ka 0), .inr (8, [.ref (ka 20), .int 0, .int 0, .int 0, .int 0, .int 0, .int (-1)])), ((ka 13), .inl (cy 0, 4, .inl (fun _ => 0))), (ao, .inl (cy 2, 1, .inr (.inl (fun _ => 0))))] sz) := by
  refine va_MetW (cc := cL_rain) (maxL := 4) (ret := (some .int)) (by decide) rfl ?_
  intro p e s m args below meth c s₁ B hml hv
  obtain ⟨rfl, hsz, hP, hG, hD0, hT⟩ := hv
  have hx := B.exec
  have hb := B.bytes
  have hr := B.returns
  have hts := atoms_spec (ws := vs_w_rainx) B.pre
  have hown : s.vm.findClass RL = some m.cls := findClass_of_methodNamed B.named
  have hlocks := B.notSynchronized
  subst hsz
  have hD := hD0.self (sz := s.heap.size)
  generalize hAe : va_A [(ko, .inr (11, [.ref (ka 0), .ref (ka 1), .ref (ka 2), .int 0, .int 0, .ref (ka 5), .ref (ka 6), .ref (ka 7), .ref (ka 8), .ref (ka 9), .int 0, .ref (ka 11), .ref (ka 12), .ref (ka 13)])), ((ka 0), .inr (8, [.ref (ka 20), .int 0, .int 0, .int 0, .int 0, .int 0, .int (-1)])), ((ka 13), .inl (cy 0, 4, .inl (fun _ => 0))), (ao, .inl (cy 2, 1, .inr (.inl (fun _ => 0))))] s.heap.size = A at hD hT ⊢
  have hA : ∀ q : Nat, s.heap.size ≤ q → A q := fun q h => by rw [← hAe]; exact Or.inr h
  have hS : va_S A s.heap s.heap [] := va_S.rf
  have hl0 := lv_entry ([.ref ko, .int n, .ref ao]) (n := 4) (Nat.le_of_ble_eq_true rfl)
  rw [lg_entry_eq]
  generalize (lg_sl ([.ref ko, .int n, .ref ao]) ++ List.replicate (4 - (lg_sl ([.ref ko, .int n, .ref ao])).length) Slot.unset).toArray = ls at hl0 ⊢
  have hlv : lv_has ls 4 [(0, .ref ko), (1, .int n), (2, .ref ao)] := hl0
  have gg_0 : GoodIn vs_w_rainx (wsV RL 15 RX11 yX11_rain vs_c_rainx) := goodIn_sub (fun w h => List.mem_cons_of_mem _ (List.mem_append_right _ (List.mem_append_left _ h))) (by decide +kernel)
  have xc13 := hts (.classLink RL 13 "java/lang/IllegalArgumentException") (List.mem_of_getElem? (i := 1) rfl)
  have htab : c.exceptionTable.toList = [(⟨0, 9, 12, 13⟩ : ExceptionTableEntry)] := vx_table (x := yL_rain) B (hts (.codeWith yL_rain cL_rain 4 (some .int) [(0, 9, 12, 13)]) List.mem_cons_self)
  refine lv_aload_n hx hb dL_rain_0 rfl (lv_at hlv 2 rfl) ?_
  refine lv_iconst (v := 0) hx hb dL_rain_1 (by decide) ?_
  refine lv_aload_n hx hb dL_rain_2 rfl (lv_at hlv 0 rfl) ?_
  refine lv_iload_n hx hb dL_rain_3 rfl (lv_at hlv 1 rfl) ?_
  refine cjx_i (wr := [(ao, .inl (cy 2, 1, .inr (.inl (fun _ => 0))))]) (vx_runV (As := [.int n]) (rest := [.int 0, .ref ao]) ⟨hx, hb, hml, hown, hts⟩ (c_rainx l hl D cy sa ko ka n s.heap.size hn) (cwV 1 hts gg_0 rfl rfl rfl (by decide +kernel) ⟨Nat.le_of_ble_eq_true rfl, Nat.le_of_ble_eq_true rfl⟩) ⟨pcW.blind, (va_recv hG.1 hP (ci := 11) (q0 := 0) rfl rfl), (pcW.mk hP hD hS hA hG hT [0, 1, 2] rfl (by decide))⟩ rfl rfl hlv.1 rfl (lv_room (Nat.le_of_ble_eq_true rfl)) dL_rain_4 ⟨Nat.le_of_ble_eq_true rfl, Nat.le_of_ble_eq_true rfl⟩) hP hD hS hA [0, 1, 2] [3] rfl rfl (by decide) (by decide) (fun E ce q9 H locs hp hP hD hS h1 h2 h3 => ?_) (fun r1 u1 H locs hw1 hP hD hS => ?_)
  · obtain ⟨rfl, hg1⟩ := hp
    refine vx_catch (name := "java/lang/IllegalArgumentException") hown [] (⟨0, 9, 12, 13⟩ : ExceptionTableEntry) [] htab (fun z hz => by simp at hz) (by decide) (by decide) xc13 (va_Nw.use rfl (hG.2.2.2.1 _ (List.mem_of_getElem? (i := 2) rfl))) h1 h2 h3 ?_
    refine lv_astore_n (lv' := [(3, .ref q9), (0, .ref ko), (1, .int n), (2, .ref ao)]) hx hb dL_rain_12 rfl hlv (by decide) rfl (fun ls hlv => ?_)
    refine lv_iconst (v := 1) hx hb dL_rain_13 (by decide) ?_
    obtain ⟨hP, hD⟩ := arl 0 (fun _ => (0 : Int32).toInt64) hP hD rfl arl_0
    have hP : va_P D vwCl [(ao, .inl (cy 2, 1, .inr (.inl (fun _ => (0 : Int32).toInt64))))] H := hP
    have hD : va_D A [(ao, .inl (cy 2, 1, .inr (.inl (fun _ => (0 : Int32).toInt64))))] := hD
    refine W.widen (k := 1) (n := 6) (Nat.le_of_ble_eq_true rfl) (Nat.le_of_ble_eq_true rfl) ?_
    exact W.iret (v := 1) hx hb hr (fun t ht hW => ⟨⟨1, ((fun k => ([] : List Nat).getD k 0), (fun k => ([0] : List Int32).getD k 0), (fun k => ([] : List (Nat → Int32)).getD k (fun _ => 0))), rfl, (by first | (exact (by rfl))), by rw [ht]; exact hP.sub [0] rfl, hD.sub [0] (by decide) rfl⟩, hS.F ht⟩) hS.2.2 dL_rain_14
  · exact (hw1).elim
def vs_w_law0 : List Cond := .codeWith yL_law cL_law 4 (some .int) [(0, 9, 12, 13)] :: (([] : List Cond) ++ ((wsV RL 18 RX11 yX11_law vs_c_law0) ++ ([])))
set_option maxHeartbeats 4000000 in
set_option maxRecDepth 100000 in
theorem w_law0 (l : Launch) (hl : l.stackTraces = false) (D : va_G) (cy : Nat → ClassId) (sa : Nat → Nat) (ko : Nat) (ka : Nat → Nat) (f0 : Nat → Int32) (ao : Nat) (sz : Nat) : Met l yL_law vs_w_law0 ({ frames := 4, cells := 1, slots := 3, locals := 85 }) (va_Pc [.ref ko, .int 0, .ref ao] (pcW D cy sa sz [(ko, .inr (11, [.ref (ka 0), .ref (ka 1), .ref (ka 2), .int 0, .int 0, .ref (ka 5), .ref (ka 6), .ref (ka 7), .ref (ka 8), .ref (ka 9), .int 0, .ref (ka 11), .ref (ka 12), .ref (ka 13)])), ((ka 0), .inr (8, [.ref (ka 20), .int 0, .int 0, .int 0, .int 0, .int 0, .int (-1)])), ((ka 2), .inl (cy 5, 4, .inr (.inr (.inr (.inr (fun k => some (ka (110 + k)))))))), ((ka 110), .inr (1, [.ref (ka 53), .int 0, .ref (ka 54), .ref (ka 55)])), ((ka 54), .inl (cy 0, 5, .inl f0)), (ao, .inl (cy 2, 1, .inr (.inl (fun _ => 0))))])) (va_Qi (fun (r : Int32) (u : SU) => (r = 0 ∧ (u.2.1 0) = 0)) (fun u t => atW D (va_A [(ko, .inr (11, [.ref (ka 0), .ref (ka 1), .ref (ka 2), .int 0, .int 0, .ref (ka 5), .ref (ka 6), .ref (ka 7), .ref (ka 8), .ref (ka 9), .int 0, .ref (ka 11), .ref (ka 12), .ref (ka 13)])), ((ka 0), .inr (8, [.ref (ka 20), .int 0, .int 0, .int 0, .int 0, .int 0, .int (-1)])), ((ka 2), .inl (cy 5, 4, .inr (.inr (.inr (.inr (fun k => some (ka (110 + k)))))))), ((ka 110), .inr (1, [.ref (ka 53), .int 0, .ref (ka 54), .ref (ka 55)])), ((ka 54), .inl (cy 0, 5, .inl f0)), (ao, .inl (cy 2, 1, .inr (.inl (fun _ => 0))))] sz) [(ao, .inl (cy 2, 1, .inr (.inl (fun _ => (u.2.1 0 : Int32).toInt64))))] t) (va_A [(ko, .inr (11, [.ref (ka 0), .ref (ka 1), .ref (ka 2), .int 0, .int 0, .ref (ka 5), .ref (ka 6), .ref (ka 7), .ref (ka 8), .ref (ka 9), .int 0, .ref (ka 11), .ref (ka 12), .ref (ka 13)])), ((ka 0), .inr (8, [.ref (ka 20), .int 0, .int 0, .int 0, .int 0, .int 0, .int (-1)])), ((ka 2), .inl (cy 5, 4, .inr (.inr (.inr (.inr (fun k => some (ka (110 + k)))))))), ((ka 110), .inr (1, [.ref (ka 53), .int 0, .ref (ka 54), .ref (ka 55)])), ((ka 54), .inl (cy 0, 5, .inl f0)), (ao, .inl (cy 2, 1, .inr (.inl (fun _ => 0))))] sz)) 1 3 (va_A [(ko, .inr (11, [.ref (ka 0), .ref (ka 1), .ref (ka 2), .int 0, .int 0, .ref (ka 5), .ref (ka 6), .ref (ka 7), .ref (ka 8), .ref (ka 9), .int 0, .ref (ka 11), .ref (ka 12), .ref (ka 13)])), ((ka 0), .inr (8, [.ref (ka 20), .int 0, .int 0, .int 0, .int 0, .int 0, .int (-1)])), ((ka 2), .inl (cy 5, 4, .inr (.inr (.inr (.inr (fun k => some (ka (110 + k)))))))), ((ka 110), .inr (1, [.ref (ka 53), .int 0, .ref (ka 54), .ref (ka 55)])), ((ka 54), .inl (cy 0, 5, .inl f0)), (ao, .inl (cy 2, 1, .inr (.inl (fun _ => 0))))] sz) := by
  refine va_MetW (cc := cL_law) (maxL := 4) (ret := (some .int)) (by decide) rfl ?_
  intro p e s m args below meth c s₁ B hml hv
  obtain ⟨rfl, hsz, hP, hG, hD0, hT⟩ := hv
  have hx := B.exec
  have hb := B.bytes
  have hr := B.returns
  have hts := atoms_spec (ws := vs_w_law0) B.pre
  have hown : s.vm.findClass RL = some m.cls := findClass_of_methodNamed B.named
  have hlocks := B.notSynchronized
  subst hsz
  have hD := hD0.self (sz := s.heap.size)
  generalize hAe : va_A [(ko, .inr (11, [.ref (ka 0), .ref (ka 1), .ref (ka 2), .int 0, .int 0, .ref (ka 5), .ref (ka 6), .ref (ka 7), .ref (ka 8), .ref (ka 9), .int 0, .ref (ka 11), .ref (ka 12), .ref (ka 13)])), ((ka 0), .inr (8, [.ref (ka 20), .int 0, .int 0, .int 0, .int 0, .int 0, .int (-1)])), ((ka 2), .inl (cy 5, 4, .inr (.inr (.inr (.inr (fun k => some (ka (110 + k)))))))), ((ka 110), .inr (1, [.ref (ka 53), .int 0, .ref (ka 54), .ref (ka 55)])), ((ka 54), .inl (cy 0, 5, .inl f0)), (ao, .inl (cy 2, 1, .inr (.inl (fun _ => 0))))] s.heap.size = A at hD hT ⊢
  have hA : ∀ q : Nat, s.heap.size ≤ q → A q := fun q h => by rw [← hAe]; exact Or.inr h
  have hS : va_S A s.heap s.heap [] := va_S.rf
  have hl0 := lv_entry ([.ref ko, .int 0, .ref ao]) (n := 4) (Nat.le_of_ble_eq_true rfl)
  rw [lg_entry_eq]
  generalize (lg_sl ([.ref ko, .int 0, .ref ao]) ++ List.replicate (4 - (lg_sl ([.ref ko, .int 0, .ref ao])).length) Slot.unset).toArray = ls at hl0 ⊢
  have hlv : lv_has ls 4 [(0, .ref ko), (1, .int 0), (2, .ref ao)] := hl0
  have gg_0 : GoodIn vs_w_law0 (wsV RL 18 RX11 yX11_law vs_c_law0) := goodIn_sub (fun w h => List.mem_cons_of_mem _ (List.mem_append_right _ (List.mem_append_left _ h))) (by decide +kernel)
  refine lv_aload_n hx hb dL_law_0 rfl (lv_at hlv 2 rfl) ?_
  refine lv_iconst (v := 0) hx hb dL_law_1 (by decide) ?_
  refine lv_aload_n hx hb dL_law_2 rfl (lv_at hlv 0 rfl) ?_
  refine lv_iload_n hx hb dL_law_3 rfl (lv_at hlv 1 rfl) ?_
  refine cj_i (wr := [(ao, .inl (cy 2, 1, .inr (.inl (fun _ => 0))))]) (va_runV (As := [.int 0]) (rest := [.int 0, .ref ao]) ⟨hx, hb, hml, hown, hts⟩ (c_law0 l hl D cy sa ko ka f0 s.heap.size) (cwV 1 hts gg_0 rfl rfl rfl (by decide +kernel) ⟨Nat.le_of_ble_eq_true rfl, Nat.le_of_ble_eq_true rfl⟩) ⟨pcW.blind, (va_recv hG.1 hP (ci := 11) (q0 := 0) rfl rfl), (pcW.mk hP hD hS hA hG hT [0, 1, 2, 3, 4] rfl (by decide))⟩ rfl rfl hlv.1 rfl (lv_room (Nat.le_of_ble_eq_true rfl)) dL_law_4 ⟨Nat.le_of_ble_eq_true rfl, Nat.le_of_ble_eq_true rfl⟩) hP hD hS hA [0, 1, 2, 3, 4] [5] rfl rfl (by decide) (by decide) (fun r1 u1 H locs hw1 hP hD hS => ?_)
  obtain rfl := hw1
  have hP : va_P D vwCl [(ao, .inl (cy 2, 1, .inr (.inl (fun _ => 0))))] H := hP
  have hD : va_D A [(ao, .inl (cy 2, 1, .inr (.inl (fun _ => 0))))] := hD
  refine lv_i2l (v := (0 : Int32).toInt64) hx hb dL_law_7 rfl ?_
  refine va_last hx hb hG.1 hP hD hS 0 2 rfl rfl (vpd (by decide)) dL_law_8 (fun H locs hP hD hS => ?_)
  have hP : va_P D vwCl [(ao, .inl (cy 2, 1, .inr (.inl (vp_updL (fun _ => 0) 0 (0 : Int32).toInt64))))] H := hP
  have hD : va_D A [(ao, .inl (cy 2, 1, .inr (.inl (vp_updL (fun _ => 0) 0 (0 : Int32).toInt64))))] := hD
  refine lv_goto (tgt := 15) hx hb dL_law_9 (by decide) ?_
  refine lv_iconst (v := 0) hx hb dL_law_15 (by decide) ?_
  obtain ⟨hP, hD⟩ := arl 0 (fun _ => (0 : Int32).toInt64) hP hD rfl arl_1
  have hP : va_P D vwCl [(ao, .inl (cy 2, 1, .inr (.inl (fun _ => (0 : Int32).toInt64))))] H := hP
  have hD : va_D A [(ao, .inl (cy 2, 1, .inr (.inl (fun _ => (0 : Int32).toInt64))))] := hD
  refine W.widen (k := 1) (n := 3) (Nat.le_of_ble_eq_true rfl) (Nat.le_of_ble_eq_true rfl) ?_
  exact W.iret (v := 0) hx hb hr (fun t ht hW => ⟨⟨0, ((fun k => ([] : List Nat).getD k 0), (fun k => ([0] : List Int32).getD k 0), (fun k => ([] : List (Nat → Int32)).getD k (fun _ => 0))), rfl, (by first | (exact ⟨by rfl, by rfl⟩)), by rw [ht]; exact hP.sub [0] rfl, hD.sub [0] (by decide) rfl⟩, hS.F ht⟩) hS.2.2 dL_law_16
def vs_w_lawx : List Cond := .codeWith yL_law cL_law 4 (some .int) [(0, 9, 12, 13)] :: (([.classLink RL 13 "java/lang/IllegalArgumentException"] : List Cond) ++ ((wsV RL 18 RX11 yX11_law vs_c_lawx) ++ ([])))
set_option maxHeartbeats 4000000 in
set_option maxRecDepth 100000 in
theorem w_lawx (l : Launch) (hl : l.stackTraces = false) (D : va_G) (cy : Nat → ClassId) (sa : Nat → Nat) (ko : Nat) (ka : Nat → Nat) (n : Int32) (ao : Nat) (sz : Nat) (hn : ¬ (0 ≤ n ∧ n ≤ 0)) : Met l yL_law vs_w_lawx ({ frames := 9, cells := 1, slots := 6, locals := 163 }) (va_Pc [.ref ko, .int n, .ref ao] (pcW D cy sa sz [(ko, .inr (11, [.ref (ka 0), .ref (ka 1), .ref (ka 2), .int 0, .int 0, .ref (ka 5), .ref (ka 6), .ref (ka 7), .ref (ka 8), .ref (ka 9), .int 0, .ref (ka 11), .ref (ka 12), .ref (ka 13)])), ((ka 0), .inr (8, [.ref (ka 20), .int 0, .int 0, .int 0, .int 0, .int 0, .int (-1)])), ((ka 13), .inl (cy 0, 4, .inl (fun _ => 0))), (ao, .inl (cy 2, 1, .inr (.inl (fun _ => 0))))])) (va_Qi (fun (r : Int32) (u : SU) => (r = 1)) (fun u t => atW D (va_A [(ko, .inr (11, [.ref (ka 0), .ref (ka 1), .ref (ka 2), .int 0, .int 0, .ref (ka 5), .ref (ka 6), .ref (ka 7), .ref (ka 8), .ref (ka 9), .int 0, .ref (ka 11), .ref (ka 12), .ref (ka 13)])), ((ka 0), .inr (8, [.ref (ka 20), .int 0, .int 0, .int 0, .int 0, .int 0, .int (-1)])), ((ka 13), .inl (cy 0, 4, .inl (fun _ => 0))), (ao, .inl (cy 2, 1, .inr (.inl (fun _ => 0))))] sz) [(ao, .inl (cy 2, 1, .inr (.inl (fun _ => (u.2.1 0 : Int32).toInt64))))] t) (va_A [(ko, .inr (11, [.ref (ka 0), .ref (ka 1), .ref (ka 2), .int 0, .int 0, .ref (ka 5), .ref (ka 6), .ref (ka 7), .ref (ka 8), .ref (ka 9), .int 0, .ref (ka 11), .ref (ka 12), .ref (ka 13)])), ((ka 0), .inr (8, [.ref (ka 20), .int 0, .int 0, .int 0, .int 0, .int 0, .int (-1)])), ((ka 13), .inl (cy 0, 4, .inl (fun _ => 0))), (ao, .inl (cy 2, 1, .inr (.inl (fun _ => 0))))] sz)) 1 6 (va_A [(ko, .inr (11, [.ref (ka 0), .ref (ka 1), .ref (ka 2), .int 0, .int 0, .ref (ka 5), .ref (ka 6), .ref (ka 7), .ref (ka 8), .ref (ka 9), .int 0, .ref (ka 11), .ref (ka 12), .ref (ka 13)])), ((ka 0), .inr (8, [.ref (ka 20), .int 0, .int 0, .int 0, .int 0, .int 0, .int (-1)])), ((ka 13), .inl (cy 0, 4, .inl (fun _ => 0))), (ao, .inl (cy 2, 1, .inr (.inl (fun _ => 0))))] sz) := by
  refine va_MetW (cc := cL_law) (maxL := 4) (ret := (some .int)) (by decide) rfl ?_
  intro p e s m args below meth c s₁ B hml hv
  obtain ⟨rfl, hsz, hP, hG, hD0, hT⟩ := hv
  have hx := B.exec
  have hb := B.bytes
  have hr := B.returns
  have hts := atoms_spec (ws := vs_w_lawx) B.pre
  have hown : s.vm.findClass RL = some m.cls := findClass_of_methodNamed B.named
  have hlocks := B.notSynchronized
  subst hsz
  have hD := hD0.self (sz := s.heap.size)
  generalize hAe : va_A [(ko, .inr (11, [.ref (ka 0), .ref (ka 1), .ref (ka 2), .int 0, .int 0, .ref (ka 5), .ref (ka 6), .ref (ka 7), .ref (ka 8), .ref (ka 9), .int 0, .ref (ka 11), .ref (ka 12), .ref (ka 13)])), ((ka 0), .inr (8, [.ref (ka 20), .int 0, .int 0, .int 0, .int 0, .int 0, .int (-1)])), ((ka 13), .inl (cy 0, 4, .inl (fun _ => 0))), (ao, .inl (cy 2, 1, .inr (.inl (fun _ => 0))))] s.heap.size = A at hD hT ⊢
  have hA : ∀ q : Nat, s.heap.size ≤ q → A q := fun q h => by rw [← hAe]; exact Or.inr h
  have hS : va_S A s.heap s.heap [] := va_S.rf
  have hl0 := lv_entry ([.ref ko, .int n, .ref ao]) (n := 4) (Nat.le_of_ble_eq_true rfl)
  rw [lg_entry_eq]
  generalize (lg_sl ([.ref ko, .int n, .ref ao]) ++ List.replicate (4 - (lg_sl ([.ref ko, .int n, .ref ao])).length) Slot.unset).toArray = ls at hl0 ⊢
  have hlv : lv_has ls 4 [(0, .ref ko), (1, .int n), (2, .ref ao)] := hl0
  have gg_0 : GoodIn vs_w_lawx (wsV RL 18 RX11 yX11_law vs_c_lawx) := goodIn_sub (fun w h => List.mem_cons_of_mem _ (List.mem_append_right _ (List.mem_append_left _ h))) (by decide +kernel)
  have xc13 := hts (.classLink RL 13 "java/lang/IllegalArgumentException") (List.mem_of_getElem? (i := 1) rfl)
  have htab : c.exceptionTable.toList = [(⟨0, 9, 12, 13⟩ : ExceptionTableEntry)] := vx_table (x := yL_law) B (hts (.codeWith yL_law cL_law 4 (some .int) [(0, 9, 12, 13)]) List.mem_cons_self)
  refine lv_aload_n hx hb dL_law_0 rfl (lv_at hlv 2 rfl) ?_
  refine lv_iconst (v := 0) hx hb dL_law_1 (by decide) ?_
  refine lv_aload_n hx hb dL_law_2 rfl (lv_at hlv 0 rfl) ?_
  refine lv_iload_n hx hb dL_law_3 rfl (lv_at hlv 1 rfl) ?_
  refine cjx_i (wr := [(ao, .inl (cy 2, 1, .inr (.inl (fun _ => 0))))]) (vx_runV (As := [.int n]) (rest := [.int 0, .ref ao]) ⟨hx, hb, hml, hown, hts⟩ (c_lawx l hl D cy sa ko ka n s.heap.size hn) (cwV 1 hts gg_0 rfl rfl rfl (by decide +kernel) ⟨Nat.le_of_ble_eq_true rfl, Nat.le_of_ble_eq_true rfl⟩) ⟨pcW.blind, (va_recv hG.1 hP (ci := 11) (q0 := 0) rfl rfl), (pcW.mk hP hD hS hA hG hT [0, 1, 2] rfl (by decide))⟩ rfl rfl hlv.1 rfl (lv_room (Nat.le_of_ble_eq_true rfl)) dL_law_4 ⟨Nat.le_of_ble_eq_true rfl, Nat.le_of_ble_eq_true rfl⟩) hP hD hS hA [0, 1, 2] [3] rfl rfl (by decide) (by decide) (fun E ce q9 H locs hp hP hD hS h1 h2 h3 => ?_) (fun r1 u1 H locs hw1 hP hD hS => ?_)
  · obtain ⟨rfl, hg1⟩ := hp
    refine vx_catch (name := "java/lang/IllegalArgumentException") hown [] (⟨0, 9, 12, 13⟩ : ExceptionTableEntry) [] htab (fun z hz => by simp at hz) (by decide) (by decide) xc13 (va_Nw.use rfl (hG.2.2.2.1 _ (List.mem_of_getElem? (i := 2) rfl))) h1 h2 h3 ?_
    refine lv_astore_n (lv' := [(3, .ref q9), (0, .ref ko), (1, .int n), (2, .ref ao)]) hx hb dL_law_12 rfl hlv (by decide) rfl (fun ls hlv => ?_)
    refine lv_iconst (v := 1) hx hb dL_law_13 (by decide) ?_
    obtain ⟨hP, hD⟩ := arl 0 (fun _ => (0 : Int32).toInt64) hP hD rfl arl_0
    have hP : va_P D vwCl [(ao, .inl (cy 2, 1, .inr (.inl (fun _ => (0 : Int32).toInt64))))] H := hP
    have hD : va_D A [(ao, .inl (cy 2, 1, .inr (.inl (fun _ => (0 : Int32).toInt64))))] := hD
    refine W.widen (k := 1) (n := 6) (Nat.le_of_ble_eq_true rfl) (Nat.le_of_ble_eq_true rfl) ?_
    exact W.iret (v := 1) hx hb hr (fun t ht hW => ⟨⟨1, ((fun k => ([] : List Nat).getD k 0), (fun k => ([0] : List Int32).getD k 0), (fun k => ([] : List (Nat → Int32)).getD k (fun _ => 0))), rfl, (by first | (exact (by rfl))), by rw [ht]; exact hP.sub [0] rfl, hD.sub [0] (by decide) rfl⟩, hS.F ht⟩) hS.2.2 dL_law_14
  · exact (hw1).elim
