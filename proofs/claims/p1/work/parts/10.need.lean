set_option maxRecDepth 20000 in
theorem ggX11_needCell_X6_has : GoodIn wsX11_needCell wsX6_has := goodIn_r _ [8, 9, 10, 25, 26, 27, 28, 29, 30, 31, 32, 33, 34, 35, 36, 37, 38, 39, 40, 41, 42, 43] (by decide +kernel) (by decide +kernel)
set_option maxRecDepth 20000 in
theorem gX11_needCell_X6_has_n348 : GoodIn wsX11_needCell (wsX6_has) := ggX11_needCell_X6_has
theorem dX11_isWithin_0 : decode cX11_isWithin 0 = .ok (.iload_n 0, 1) := by decide +kernel
theorem dX11_isWithin_1 : decode cX11_isWithin 1 = .ok (.iload_n 1, 1) := by decide +kernel
theorem dX11_isWithin_10 : decode cX11_isWithin 10 = .ok (.iconst 1, 1) := by decide +kernel
theorem dX11_isWithin_11 : decode cX11_isWithin 11 = .ok (.goto 4, 3) := by decide +kernel
theorem dX11_isWithin_14 : decode cX11_isWithin 14 = .ok (.iconst 0, 1) := by decide +kernel
theorem dX11_isWithin_15 : decode cX11_isWithin 15 = .ok (.ireturn, 1) := by decide +kernel
theorem dX11_isWithin_2 : decode cX11_isWithin 2 = .ok (.if_icmp .lt 12, 3) := by decide +kernel
theorem dX11_isWithin_5 : decode cX11_isWithin 5 = .ok (.iload_n 0, 1) := by decide +kernel
theorem dX11_isWithin_6 : decode cX11_isWithin 6 = .ok (.iload_n 2, 1) := by decide +kernel
theorem dX11_isWithin_7 : decode cX11_isWithin 7 = .ok (.if_icmp .gt 7, 3) := by decide +kernel
theorem dX11_needArgument_0 : decode cX11_needArgument 0 = .ok (.iload_n 1, 1) := by decide +kernel
theorem dX11_needArgument_1 : decode cX11_needArgument 1 = .ok (.ifCond .ne 24, 3) := by decide +kernel
theorem dX11_needArgument_10 : decode cX11_needArgument 10 = .ok (.iaload, 1) := by decide +kernel
theorem dX11_needArgument_11 : decode cX11_needArgument 11 = .ok (.iconst 1, 1) := by decide +kernel
theorem dX11_needArgument_12 : decode cX11_needArgument 12 = .ok (.iadd, 1) := by decide +kernel
theorem dX11_needArgument_13 : decode cX11_needArgument 13 = .ok (.iastore, 1) := by decide +kernel
theorem dX11_needArgument_14 : decode cX11_needArgument 14 = .ok (.new 364, 3) := by decide +kernel
theorem dX11_needArgument_17 : decode cX11_needArgument 17 = .ok (.dup, 1) := by decide +kernel
theorem dX11_needArgument_18 : decode cX11_needArgument 18 = .ok (.ldc_w 366, 3) := by decide +kernel
theorem dX11_needArgument_21 : decode cX11_needArgument 21 = .ok (.invokespecial 368, 3) := by decide +kernel
theorem dX11_needArgument_24 : decode cX11_needArgument 24 = .ok (.athrow, 1) := by decide +kernel
theorem dX11_needArgument_25 : decode cX11_needArgument 25 = .ok (.return_, 1) := by decide +kernel
theorem dX11_needArgument_4 : decode cX11_needArgument 4 = .ok (.aload_n 0, 1) := by decide +kernel
theorem dX11_needArgument_5 : decode cX11_needArgument 5 = .ok (.getfield 67, 3) := by decide +kernel
theorem dX11_needArgument_8 : decode cX11_needArgument 8 = .ok (.iconst 2, 1) := by decide +kernel
theorem dX11_needArgument_9 : decode cX11_needArgument 9 = .ok (.dup2, 1) := by decide +kernel
theorem dX11_needCell_0 : decode cX11_needCell 0 = .ok (.aload_n 0, 1) := by decide +kernel
theorem dX11_needCell_1 : decode cX11_needCell 1 = .ok (.getfield 31, 3) := by decide +kernel
theorem dX11_needCell_12 : decode cX11_needCell 12 = .ok (.aload_n 0, 1) := by decide +kernel
theorem dX11_needCell_13 : decode cX11_needCell 13 = .ok (.getfield 67, 3) := by decide +kernel
theorem dX11_needCell_16 : decode cX11_needCell 16 = .ok (.iconst 0, 1) := by decide +kernel
theorem dX11_needCell_17 : decode cX11_needCell 17 = .ok (.dup2, 1) := by decide +kernel
theorem dX11_needCell_18 : decode cX11_needCell 18 = .ok (.iaload, 1) := by decide +kernel
theorem dX11_needCell_19 : decode cX11_needCell 19 = .ok (.iconst 1, 1) := by decide +kernel
theorem dX11_needCell_20 : decode cX11_needCell 20 = .ok (.iadd, 1) := by decide +kernel
theorem dX11_needCell_21 : decode cX11_needCell 21 = .ok (.iastore, 1) := by decide +kernel
theorem dX11_needCell_22 : decode cX11_needCell 22 = .ok (.new 352, 3) := by decide +kernel
theorem dX11_needCell_25 : decode cX11_needCell 25 = .ok (.dup, 1) := by decide +kernel
theorem dX11_needCell_26 : decode cX11_needCell 26 = .ok (.ldc_w 354, 3) := by decide +kernel
theorem dX11_needCell_29 : decode cX11_needCell 29 = .ok (.invokespecial 356, 3) := by decide +kernel
theorem dX11_needCell_32 : decode cX11_needCell 32 = .ok (.athrow, 1) := by decide +kernel
theorem dX11_needCell_4 : decode cX11_needCell 4 = .ok (.iload_n 1, 1) := by decide +kernel
theorem dX11_needCell_5 : decode cX11_needCell 5 = .ok (.iload_n 2, 1) := by decide +kernel
theorem dX11_needCell_6 : decode cX11_needCell 6 = .ok (.invokevirtual 348, 3) := by decide +kernel
theorem dX11_needCell_9 : decode cX11_needCell 9 = .ok (.ifCond .ne 24, 3) := by decide +kernel
theorem dX11_needElement_0 : decode cX11_needElement 0 = .ok (.iload_n 1, 1) := by decide +kernel
theorem dX11_needElement_1 : decode cX11_needElement 1 = .ok (.ifCond .ne 24, 3) := by decide +kernel
theorem dX11_needElement_10 : decode cX11_needElement 10 = .ok (.iaload, 1) := by decide +kernel
theorem dX11_needElement_11 : decode cX11_needElement 11 = .ok (.iconst 1, 1) := by decide +kernel
theorem dX11_needElement_12 : decode cX11_needElement 12 = .ok (.iadd, 1) := by decide +kernel
theorem dX11_needElement_13 : decode cX11_needElement 13 = .ok (.iastore, 1) := by decide +kernel
theorem dX11_needElement_14 : decode cX11_needElement 14 = .ok (.new 359, 3) := by decide +kernel
theorem dX11_needElement_17 : decode cX11_needElement 17 = .ok (.dup, 1) := by decide +kernel
theorem dX11_needElement_18 : decode cX11_needElement 18 = .ok (.ldc_w 361, 3) := by decide +kernel
theorem dX11_needElement_21 : decode cX11_needElement 21 = .ok (.invokespecial 363, 3) := by decide +kernel
theorem dX11_needElement_24 : decode cX11_needElement 24 = .ok (.athrow, 1) := by decide +kernel
theorem dX11_needElement_25 : decode cX11_needElement 25 = .ok (.return_, 1) := by decide +kernel
theorem dX11_needElement_4 : decode cX11_needElement 4 = .ok (.aload_n 0, 1) := by decide +kernel
theorem dX11_needElement_5 : decode cX11_needElement 5 = .ok (.getfield 67, 3) := by decide +kernel
theorem dX11_needElement_8 : decode cX11_needElement 8 = .ok (.iconst 1, 1) := by decide +kernel
theorem dX11_needElement_9 : decode cX11_needElement 9 = .ok (.dup2, 1) := by decide +kernel
theorem dX11_needLaw_0 : decode cX11_needLaw 0 = .ok (.aload_n 0, 1) := by decide +kernel
theorem dX11_needLaw_1 : decode cX11_needLaw 1 = .ok (.iload_n 1, 1) := by decide +kernel
theorem dX11_needLaw_12 : decode cX11_needLaw 12 = .ok (.invokevirtual 177, 3) := by decide +kernel
theorem dX11_needLaw_2 : decode cX11_needLaw 2 = .ok (.iconst 0, 1) := by decide +kernel
theorem dX11_needLaw_3 : decode cX11_needLaw 3 = .ok (.aload_n 0, 1) := by decide +kernel
theorem dX11_needLaw_4 : decode cX11_needLaw 4 = .ok (.getfield 118, 3) := by decide +kernel
theorem dX11_needLaw_7 : decode cX11_needLaw 7 = .ok (.iconst 1, 1) := by decide +kernel
theorem dX11_needLaw_8 : decode cX11_needLaw 8 = .ok (.isub, 1) := by decide +kernel
theorem dX11_needLaw_9 : decode cX11_needLaw 9 = .ok (.invokestatic 130, 3) := by decide +kernel
theorem dX11_needRain_0 : decode cX11_needRain 0 = .ok (.aload_n 0, 1) := by decide +kernel
theorem dX11_needRain_1 : decode cX11_needRain 1 = .ok (.iload_n 1, 1) := by decide +kernel
theorem dX11_needRain_12 : decode cX11_needRain 12 = .ok (.invokevirtual 177, 3) := by decide +kernel
theorem dX11_needRain_2 : decode cX11_needRain 2 = .ok (.iconst 0, 1) := by decide +kernel
theorem dX11_needRain_3 : decode cX11_needRain 3 = .ok (.aload_n 0, 1) := by decide +kernel
theorem dX11_needRain_4 : decode cX11_needRain 4 = .ok (.getfield 112, 3) := by decide +kernel
theorem dX11_needRain_7 : decode cX11_needRain 7 = .ok (.iconst 1, 1) := by decide +kernel
theorem dX11_needRain_8 : decode cX11_needRain 8 = .ok (.isub, 1) := by decide +kernel
theorem dX11_needRain_9 : decode cX11_needRain 9 = .ok (.invokestatic 130, 3) := by decide +kernel
theorem dX11_needState_0 : decode cX11_needState 0 = .ok (.iload_n 1, 1) := by decide +kernel
theorem dX11_needState_1 : decode cX11_needState 1 = .ok (.ifCond .ne 24, 3) := by decide +kernel
theorem dX11_needState_10 : decode cX11_needState 10 = .ok (.iaload, 1) := by decide +kernel
theorem dX11_needState_11 : decode cX11_needState 11 = .ok (.iconst 1, 1) := by decide +kernel
theorem dX11_needState_12 : decode cX11_needState 12 = .ok (.iadd, 1) := by decide +kernel
theorem dX11_needState_13 : decode cX11_needState 13 = .ok (.iastore, 1) := by decide +kernel
theorem dX11_needState_14 : decode cX11_needState 14 = .ok (.new 369, 3) := by decide +kernel
theorem dX11_needState_17 : decode cX11_needState 17 = .ok (.dup, 1) := by decide +kernel
theorem dX11_needState_18 : decode cX11_needState 18 = .ok (.ldc_w 371, 3) := by decide +kernel
theorem dX11_needState_21 : decode cX11_needState 21 = .ok (.invokespecial 373, 3) := by decide +kernel
theorem dX11_needState_24 : decode cX11_needState 24 = .ok (.athrow, 1) := by decide +kernel
theorem dX11_needState_25 : decode cX11_needState 25 = .ok (.return_, 1) := by decide +kernel
theorem dX11_needState_4 : decode cX11_needState 4 = .ok (.aload_n 0, 1) := by decide +kernel
theorem dX11_needState_5 : decode cX11_needState 5 = .ok (.getfield 67, 3) := by decide +kernel
theorem dX11_needState_8 : decode cX11_needState 8 = .ok (.iconst 3, 1) := by decide +kernel
theorem dX11_needState_9 : decode cX11_needState 9 = .ok (.dup2, 1) := by decide +kernel
theorem dX6_has_0 : decode cX6_has 0 = .ok (.iload_n 1, 1) := by decide +kernel
theorem dX6_has_1 : decode cX6_has 1 = .ok (.ifCond .lt 27, 3) := by decide +kernel
theorem dX6_has_28 : decode cX6_has 28 = .ok (.iconst 0, 1) := by decide +kernel
theorem dX6_has_29 : decode cX6_has 29 = .ok (.ireturn, 1) := by decide +kernel
theorem dX6_has_4 : decode cX6_has 4 = .ok (.iload_n 1, 1) := by decide +kernel
theorem dX6_has_5 : decode cX6_has 5 = .ok (.aload_n 0, 1) := by decide +kernel
theorem dX6_has_6 : decode cX6_has 6 = .ok (.getfield 28, 3) := by decide +kernel
theorem dX6_has_9 : decode cX6_has 9 = .ok (.if_icmp .ge 19, 3) := by decide +kernel
set_option maxHeartbeats 4000000 in
set_option maxRecDepth 100000 in
theorem c_isWithin (l : Launch) (hl : l.stackTraces = false) (D : va_G) (cy : Nat → ClassId) (sa : Nat → Nat) (n a b : Int32) (sz : Nat) : Met l yX11_isWithin wsX11_isWithin ({ frames := 0, cells := 0, slots := 0, locals := 0 }) (va_Pc [.int n, .int a, .int b] (pcW D cy sa sz [])) (va_Qi (fun (r : Int32) (u : SU) => (((a ≤ n ∧ n ≤ b)) ∧ r = 1) ∨ ((¬ (a ≤ n ∧ n ≤ b)) ∧ r = 0)) (fun u t => atW D (va_A [] sz) [] t) (va_A [] sz)) 0 0 (va_A [] sz) := by
  refine Met.ofW (cc := cX11_isWithin) (maxL := 3) (ret := (some .boolean)) (by decide) rfl ?_
  intro p e s m args below meth c s₁ B hml hv
  obtain ⟨rfl, hsz, hP, hG, hD0, hT⟩ := hv
  have hx := B.exec
  have hb := B.bytes
  have hr := B.returns
  have hts := atoms_spec (ws := wsX11_isWithin) B.pre
  have hown : s.vm.findClass RX11 = some m.cls := findClass_of_methodNamed B.named
  have hlocks := B.notSynchronized
  subst hsz
  have hD := hD0.self (sz := s.heap.size)
  generalize hAe : va_A [] s.heap.size = A at hD hT ⊢
  have hA : ∀ q : Nat, s.heap.size ≤ q → A q := fun q h => by rw [← hAe]; exact Or.inr h
  have hS : va_S A s.heap s.heap [] := va_S.rf
  have hl0 := lv_entry ([.int n, .int a, .int b]) (n := 3) (Nat.le_of_ble_eq_true rfl)
  rw [lg_entry_eq]
  generalize (lg_sl ([.int n, .int a, .int b]) ++ List.replicate (3 - (lg_sl ([.int n, .int a, .int b])).length) Slot.unset).toArray = ls at hl0 ⊢
  have hlv : lv_has ls 3 [(0, .int n), (1, .int a), (2, .int b)] := hl0
  refine lv_iload_n hx hb dX11_isWithin_0 rfl (lv_at hlv 0 rfl) ?_
  refine lv_iload_n hx hb dX11_isWithin_1 rfl (lv_at hlv 1 rfl) ?_
  refine lv_icmp_lt (tgt := 14) hx hb dX11_isWithin_2 (by decide) (fun c_1 => ?_) (fun c_1 => ?_)
  · refine lv_iconst (v := 0) hx hb dX11_isWithin_14 (by decide) ?_
    refine W.widen (k := 0) (n := 0) (Nat.le_of_ble_eq_true rfl) (Nat.le_of_ble_eq_true rfl) ?_
    exact W.zret (v := 0) hx hb hr (by first | rfl | decide) (fun t ht hW => ⟨⟨0, ((fun k => ([] : List Nat).getD k 0), (fun k => ([] : List Int32).getD k 0), (fun k => ([] : List (Nat → Int32)).getD k (fun _ => 0))), rfl, (by first | (right; exact ⟨by first | trivial | assumption | exact ⟨Int32.not_lt.mp (by assumption), Int32.not_lt.mp (by assumption)⟩ | exact (fun q => absurd q.1 (Int32.not_le.mpr (by assumption))) | exact (fun q => absurd q.2 (Int32.not_le.mpr (by assumption))) | (refine ⟨?_, ?_⟩ <;> assumption) | decide, by rfl⟩)), by rw [ht]; exact hP.sub [] rfl, hD.sub [] (by decide) rfl⟩, hS.F ht⟩) hS.2.2 dX11_isWithin_15
  · refine lv_iload_n hx hb dX11_isWithin_5 rfl (lv_at hlv 0 rfl) ?_
    refine lv_iload_n hx hb dX11_isWithin_6 rfl (lv_at hlv 2 rfl) ?_
    refine lv_icmp_gt (tgt := 14) hx hb dX11_isWithin_7 (by decide) (fun c_2 => ?_) (fun c_2 => ?_)
    · refine lv_iconst (v := 0) hx hb dX11_isWithin_14 (by decide) ?_
      refine W.widen (k := 0) (n := 0) (Nat.le_of_ble_eq_true rfl) (Nat.le_of_ble_eq_true rfl) ?_
      exact W.zret (v := 0) hx hb hr (by first | rfl | decide) (fun t ht hW => ⟨⟨0, ((fun k => ([] : List Nat).getD k 0), (fun k => ([] : List Int32).getD k 0), (fun k => ([] : List (Nat → Int32)).getD k (fun _ => 0))), rfl, (by first | (right; exact ⟨by first | trivial | assumption | exact ⟨Int32.not_lt.mp (by assumption), Int32.not_lt.mp (by assumption)⟩ | exact (fun q => absurd q.1 (Int32.not_le.mpr (by assumption))) | exact (fun q => absurd q.2 (Int32.not_le.mpr (by assumption))) | (refine ⟨?_, ?_⟩ <;> assumption) | decide, by rfl⟩)), by rw [ht]; exact hP.sub [] rfl, hD.sub [] (by decide) rfl⟩, hS.F ht⟩) hS.2.2 dX11_isWithin_15
    · refine lv_iconst (v := 1) hx hb dX11_isWithin_10 (by decide) ?_
      refine lv_goto (tgt := 15) hx hb dX11_isWithin_11 (by decide) ?_
      refine W.widen (k := 0) (n := 0) (Nat.le_of_ble_eq_true rfl) (Nat.le_of_ble_eq_true rfl) ?_
      exact W.zret (v := 1) hx hb hr (by first | rfl | decide) (fun t ht hW => ⟨⟨1, ((fun k => ([] : List Nat).getD k 0), (fun k => ([] : List Int32).getD k 0), (fun k => ([] : List (Nat → Int32)).getD k (fun _ => 0))), rfl, (by first | (left; exact ⟨by first | trivial | assumption | exact ⟨Int32.not_lt.mp (by assumption), Int32.not_lt.mp (by assumption)⟩ | exact (fun q => absurd q.1 (Int32.not_le.mpr (by assumption))) | exact (fun q => absurd q.2 (Int32.not_le.mpr (by assumption))) | (refine ⟨?_, ?_⟩ <;> assumption) | decide, by rfl⟩)), by rw [ht]; exact hP.sub [] rfl, hD.sub [] (by decide) rfl⟩, hS.F ht⟩) hS.2.2 dX11_isWithin_15
set_option maxHeartbeats 4000000 in
set_option maxRecDepth 100000 in
theorem c_needElement1 (l : Launch) (hl : l.stackTraces = false) (D : va_G) (cy : Nat → ClassId) (sa : Nat → Nat) (ko : Nat) (sz : Nat) : Met l yX11_needElement vs_needElement ({ frames := 0, cells := 0, slots := 0, locals := 0 }) (va_Pc [.ref ko, .int 1] (pcW D cy sa sz [])) (va_Qv (fun u : SU => (True)) (fun u t => atW D (va_A [] sz) [] t) (va_A [] sz)) 0 0 (va_A [] sz) := by
  refine Met.ofW (cc := cX11_needElement) (maxL := 2) (ret := none) (by decide) rfl ?_
  intro p e s m args below meth c s₁ B hml hv
  obtain ⟨rfl, hsz, hP, hG, hD0, hT⟩ := hv
  have hx := B.exec
  have hb := B.bytes
  have hr := B.returns
  have hts := atoms_spec (ws := vs_needElement) B.pre
  have hown : s.vm.findClass RX11 = some m.cls := findClass_of_methodNamed B.named
  have hlocks := B.notSynchronized
  subst hsz
  have hD := hD0.self (sz := s.heap.size)
  generalize hAe : va_A [] s.heap.size = A at hD hT ⊢
  have hA : ∀ q : Nat, s.heap.size ≤ q → A q := fun q h => by rw [← hAe]; exact Or.inr h
  have hS : va_S A s.heap s.heap [] := va_S.rf
  have hl0 := lv_entry ([.ref ko, .int 1]) (n := 2) (Nat.le_of_ble_eq_true rfl)
  rw [lg_entry_eq]
  generalize (lg_sl ([.ref ko, .int 1]) ++ List.replicate (2 - (lg_sl ([.ref ko, .int 1])).length) Slot.unset).toArray = ls at hl0 ⊢
  have hlv : lv_has ls 2 [(0, .ref ko), (1, .int 1)] := hl0
  refine lv_iload_n hx hb dX11_needElement_0 rfl (lv_at hlv 1 rfl) ?_
  refine lv_if_ne (tgt := 25) hx hb dX11_needElement_1 (by decide) (fun _ => ?_) (fun c => absurd c (by decide))
  refine W.widen (k := 0) (n := 0) (Nat.le_of_ble_eq_true rfl) (Nat.le_of_ble_eq_true rfl) ?_
  exact W.vret hx hb hr (fun t ht hW => ⟨⟨((fun k => ([] : List Nat).getD k 0), (fun k => ([] : List Int32).getD k 0), (fun k => ([] : List (Nat → Int32)).getD k (fun _ => 0))), rfl, (by first | (trivial)), by rw [ht]; exact hP.sub [] rfl, hD.sub [] (by decide) rfl⟩, hS.F ht⟩) hS.2.2 dX11_needElement_25
set_option maxHeartbeats 4000000 in
set_option maxRecDepth 100000 in
theorem c_needElement0 (l : Launch) (hl : l.stackTraces = false) (D : va_G) (cy : Nat → ClassId) (sa : Nat → Nat) (ko : Nat) (ka : Nat → Nat) (sz : Nat) : vx_Met l yX11_needElement vs_needElement ({ frames := 6, cells := 1, slots := 6, locals := 100 }) (va_Pc [.ref ko, .int 0] (pcW D cy sa sz [(ko, .inr (11, [.ref (ka 0), .ref (ka 1), .ref (ka 2), .int 0, .int 0, .ref (ka 5), .ref (ka 6), .ref (ka 7), .ref (ka 8), .ref (ka 9), .int 0, .ref (ka 11), .ref (ka 12), .ref (ka 13)])), ((ka 13), .inl (cy 0, 4, .inl (fun _ => 0)))])) (va_Qv (fun u : SU => False) (fun u t => atW D (va_A [(ko, .inr (11, [.ref (ka 0), .ref (ka 1), .ref (ka 2), .int 0, .int 0, .ref (ka 5), .ref (ka 6), .ref (ka 7), .ref (ka 8), .ref (ka 9), .int 0, .ref (ka 11), .ref (ka 12), .ref (ka 13)])), ((ka 13), .inl (cy 0, 4, .inl (fun _ => 0)))] sz) [] t) (va_A [(ko, .inr (11, [.ref (ka 0), .ref (ka 1), .ref (ka 2), .int 0, .int 0, .ref (ka 5), .ref (ka 6), .ref (ka 7), .ref (ka 8), .ref (ka 9), .int 0, .ref (ka 11), .ref (ka 12), .ref (ka 13)])), ((ka 13), .inl (cy 0, 4, .inl (fun _ => 0)))] sz)) (xcW (fun E => (E = "java/util/NoSuchElementException" ∧ (True))) (va_A [(ko, .inr (11, [.ref (ka 0), .ref (ka 1), .ref (ka 2), .int 0, .int 0, .ref (ka 5), .ref (ka 6), .ref (ka 7), .ref (ka 8), .ref (ka 9), .int 0, .ref (ka 11), .ref (ka 12), .ref (ka 13)])), ((ka 13), .inl (cy 0, 4, .inl (fun _ => 0)))] sz)) 1 6 (va_A [(ko, .inr (11, [.ref (ka 0), .ref (ka 1), .ref (ka 2), .int 0, .int 0, .ref (ka 5), .ref (ka 6), .ref (ka 7), .ref (ka 8), .ref (ka 9), .int 0, .ref (ka 11), .ref (ka 12), .ref (ka 13)])), ((ka 13), .inl (cy 0, 4, .inl (fun _ => 0)))] sz) := by
  refine vx_ofW (cc := cX11_needElement) (maxL := 2) (ret := none) (by decide) rfl ?_
  intro p e s m args below meth c s₁ B hml hex hv
  obtain ⟨rfl, hsz, hP, hG, hD0, hT⟩ := hv
  have hx := B.exec
  have hb := B.bytes
  have hr := B.returns
  have hts := atoms_spec (ws := vs_needElement) B.pre
  have hown : s.vm.findClass RX11 = some m.cls := findClass_of_methodNamed B.named
  have hlocks := B.notSynchronized
  subst hsz
  have hD := hD0.self (sz := s.heap.size)
  generalize hAe : va_A [(ko, .inr (11, [.ref (ka 0), .ref (ka 1), .ref (ka 2), .int 0, .int 0, .ref (ka 5), .ref (ka 6), .ref (ka 7), .ref (ka 8), .ref (ka 9), .int 0, .ref (ka 11), .ref (ka 12), .ref (ka 13)])), ((ka 13), .inl (cy 0, 4, .inl (fun _ => 0)))] s.heap.size = A at hD hT ⊢
  have hA : ∀ q : Nat, s.heap.size ≤ q → A q := fun q h => by rw [← hAe]; exact Or.inr h
  have hS : va_S A s.heap s.heap [] := va_S.rf
  have hl0 := lv_entry ([.ref ko, .int 0]) (n := 2) (Nat.le_of_ble_eq_true rfl)
  rw [lg_entry_eq]
  generalize (lg_sl ([.ref ko, .int 0]) ++ List.replicate (2 - (lg_sl ([.ref ko, .int 0])).length) Slot.unset).toArray = ls at hl0 ⊢
  have hlv : lv_has ls 2 [(0, .ref ko), (1, .int 0)] := hl0
  have lf67 := hts (.fieldLink RX11 67 "KerbSplash" "refused" "[I") (by decide +kernel)
  have hi11 : ∀ w ∈ wsX110, w ∈ vs_needElement := by decide +kernel
  have cl359 := hts (.classLink RX11 359 "java/util/NoSuchElementException") (by decide +kernel)
  have inX1 := hts (.initialized "java/util/NoSuchElementException") (by decide +kernel)
  have hat1 : ∀ w ∈ vx_atN RX11 363 "java/util/NoSuchElementException" 13 rx13 ["java/lang/RuntimeException", "java/lang/Exception"], w.before ([.ref ko, .int 0] : List Value).toArray s = true := vx_hat (fun w h => hts w (List.mem_cons_of_mem _ (List.mem_append_right _ h))) xN1 (xB_ok hG (List.mem_of_getElem? (i := 1) rfl))
  refine lv_iload_n hx hb dX11_needElement_0 rfl (lv_at hlv 1 rfl) ?_
  refine lv_if_ne (tgt := 25) hx hb dX11_needElement_1 (by decide) (fun c => absurd (by decide) c) (fun _ => ?_)
  refine lv_aload_n hx hb dX11_needElement_4 rfl (lv_at hlv 0 rfl) ?_
  refine va_get (D := D) (ci := 11) (v := .ref (ka 13)) (C := RX11) (T := TX11) (N := 14) hx hb hts hi11 hown hG.1 hP 0 rfl rfl 13 (by decide) lf67 (fun _ h9 => h9) rfl dX11_needElement_5 ?_
  refine lv_iconst (v := 1) hx hb dX11_needElement_8 (by decide) ?_
  refine lv_dup2_11 hx hb dX11_needElement_9 rfl rfl ?_
  refine va_iald hx hb hG.1 hP 1 0 rfl rfl (vpd (by decide)) dX11_needElement_10 ?_
  refine lt_i (y := 0) (by rfl) ?_
  refine lv_iconst (v := 1) hx hb dX11_needElement_11 (by decide) ?_
  refine lv_iadd hx hb dX11_needElement_12 ?_
  refine lt_i (y := 1) (by decide) ?_
  refine va_iast hx hb hG.1 hP hD hS 1 0 rfl rfl (vpd (by decide)) dX11_needElement_13 (fun H locs hP hD hS => ?_)
  have ⟨f_1, hP, hD⟩ : ∃ f_1 : Nat → Int32, va_P D vwCl [(ko, .inr (11, [.ref (ka 0), .ref (ka 1), .ref (ka 2), .int 0, .int 0, .ref (ka 5), .ref (ka 6), .ref (ka 7), .ref (ka 8), .ref (ka 9), .int 0, .ref (ka 11), .ref (ka 12), .ref (ka 13)])), ((ka 13), .inl (cy 0, 4, .inl f_1))] H ∧ va_D A [(ko, .inr (11, [.ref (ka 0), .ref (ka 1), .ref (ka 2), .int 0, .int 0, .ref (ka 5), .ref (ka 6), .ref (ka 7), .ref (ka 8), .ref (ka 9), .int 0, .ref (ka 11), .ref (ka 12), .ref (ka 13)])), ((ka 13), .inl (cy 0, 4, .inl f_1))] := ⟨_, hP, hD⟩
  exact vx_throwSN rx13_0 rx13_1 rx13_2 rx13_5 (cls := "java/util/NoSuchElementException") (names := ["java/lang/RuntimeException", "java/lang/Exception"]) hx hb hl hown (by decide +kernel) (by decide +kernel) cl359 inX1 (hG.2.2.1 1 _ rfl) hat1 (by decide +kernel) hT.1 hT.2 hS (hlv.1.trans hml.symm) dX11_needElement_14 dX11_needElement_17 dX11_needElement_18 dX11_needElement_21 dX11_needElement_24 (fun x h => (hex x h).elim) (Nat.le_of_ble_eq_true rfl) (Nat.le_of_ble_eq_true rfl) (Nat.le_of_ble_eq_true rfl) (Nat.le_of_ble_eq_true rfl) hlocks (fun t hvm h1 h2 => ⟨(), trivial, (by exact ⟨rfl, trivial⟩), ⟨Nat.le_trans hS.1 h1, fun q hq hn => (h2 q (Nat.lt_of_lt_of_le hq hS.1)).trans (hS.2.1 q hq hn)⟩⟩) hS.2.2 (Nat.le_of_ble_eq_true rfl) (Nat.le_of_ble_eq_true rfl)
set_option maxHeartbeats 4000000 in
set_option maxRecDepth 100000 in
theorem c_needArgument1 (l : Launch) (hl : l.stackTraces = false) (D : va_G) (cy : Nat → ClassId) (sa : Nat → Nat) (ko : Nat) (sz : Nat) : Met l yX11_needArgument wsX11_needArgument ({ frames := 0, cells := 0, slots := 0, locals := 0 }) (va_Pc [.ref ko, .int 1] (pcW D cy sa sz [])) (va_Qv (fun u : SU => (True)) (fun u t => atW D (va_A [] sz) [] t) (va_A [] sz)) 0 0 (va_A [] sz) := by
  refine Met.ofW (cc := cX11_needArgument) (maxL := 2) (ret := none) (by decide) rfl ?_
  intro p e s m args below meth c s₁ B hml hv
  obtain ⟨rfl, hsz, hP, hG, hD0, hT⟩ := hv
  have hx := B.exec
  have hb := B.bytes
  have hr := B.returns
  have hts := atoms_spec (ws := wsX11_needArgument) B.pre
  have hown : s.vm.findClass RX11 = some m.cls := findClass_of_methodNamed B.named
  have hlocks := B.notSynchronized
  subst hsz
  have hD := hD0.self (sz := s.heap.size)
  generalize hAe : va_A [] s.heap.size = A at hD hT ⊢
  have hA : ∀ q : Nat, s.heap.size ≤ q → A q := fun q h => by rw [← hAe]; exact Or.inr h
  have hS : va_S A s.heap s.heap [] := va_S.rf
  have hl0 := lv_entry ([.ref ko, .int 1]) (n := 2) (Nat.le_of_ble_eq_true rfl)
  rw [lg_entry_eq]
  generalize (lg_sl ([.ref ko, .int 1]) ++ List.replicate (2 - (lg_sl ([.ref ko, .int 1])).length) Slot.unset).toArray = ls at hl0 ⊢
  have hlv : lv_has ls 2 [(0, .ref ko), (1, .int 1)] := hl0
  refine lv_iload_n hx hb dX11_needArgument_0 rfl (lv_at hlv 1 rfl) ?_
  refine lv_if_ne (tgt := 25) hx hb dX11_needArgument_1 (by decide) (fun _ => ?_) (fun c => absurd c (by decide))
  refine W.widen (k := 0) (n := 0) (Nat.le_of_ble_eq_true rfl) (Nat.le_of_ble_eq_true rfl) ?_
  exact W.vret hx hb hr (fun t ht hW => ⟨⟨((fun k => ([] : List Nat).getD k 0), (fun k => ([] : List Int32).getD k 0), (fun k => ([] : List (Nat → Int32)).getD k (fun _ => 0))), rfl, (by first | (trivial)), by rw [ht]; exact hP.sub [] rfl, hD.sub [] (by decide) rfl⟩, hS.F ht⟩) hS.2.2 dX11_needArgument_25
set_option maxHeartbeats 4000000 in
set_option maxRecDepth 100000 in
theorem c_needArgument0 (l : Launch) (hl : l.stackTraces = false) (D : va_G) (cy : Nat → ClassId) (sa : Nat → Nat) (ko : Nat) (ka : Nat → Nat) (sz : Nat) : vx_Met l yX11_needArgument wsX11_needArgument ({ frames := 6, cells := 1, slots := 6, locals := 100 }) (va_Pc [.ref ko, .int 0] (pcW D cy sa sz [(ko, .inr (11, [.ref (ka 0), .ref (ka 1), .ref (ka 2), .int 0, .int 0, .ref (ka 5), .ref (ka 6), .ref (ka 7), .ref (ka 8), .ref (ka 9), .int 0, .ref (ka 11), .ref (ka 12), .ref (ka 13)])), ((ka 13), .inl (cy 0, 4, .inl (fun _ => 0)))])) (va_Qv (fun u : SU => False) (fun u t => atW D (va_A [(ko, .inr (11, [.ref (ka 0), .ref (ka 1), .ref (ka 2), .int 0, .int 0, .ref (ka 5), .ref (ka 6), .ref (ka 7), .ref (ka 8), .ref (ka 9), .int 0, .ref (ka 11), .ref (ka 12), .ref (ka 13)])), ((ka 13), .inl (cy 0, 4, .inl (fun _ => 0)))] sz) [] t) (va_A [(ko, .inr (11, [.ref (ka 0), .ref (ka 1), .ref (ka 2), .int 0, .int 0, .ref (ka 5), .ref (ka 6), .ref (ka 7), .ref (ka 8), .ref (ka 9), .int 0, .ref (ka 11), .ref (ka 12), .ref (ka 13)])), ((ka 13), .inl (cy 0, 4, .inl (fun _ => 0)))] sz)) (xcW (fun E => (E = "java/lang/IllegalArgumentException" ∧ (True))) (va_A [(ko, .inr (11, [.ref (ka 0), .ref (ka 1), .ref (ka 2), .int 0, .int 0, .ref (ka 5), .ref (ka 6), .ref (ka 7), .ref (ka 8), .ref (ka 9), .int 0, .ref (ka 11), .ref (ka 12), .ref (ka 13)])), ((ka 13), .inl (cy 0, 4, .inl (fun _ => 0)))] sz)) 1 6 (va_A [(ko, .inr (11, [.ref (ka 0), .ref (ka 1), .ref (ka 2), .int 0, .int 0, .ref (ka 5), .ref (ka 6), .ref (ka 7), .ref (ka 8), .ref (ka 9), .int 0, .ref (ka 11), .ref (ka 12), .ref (ka 13)])), ((ka 13), .inl (cy 0, 4, .inl (fun _ => 0)))] sz) := by
  refine vx_ofW (cc := cX11_needArgument) (maxL := 2) (ret := none) (by decide) rfl ?_
  intro p e s m args below meth c s₁ B hml hex hv
  obtain ⟨rfl, hsz, hP, hG, hD0, hT⟩ := hv
  have hx := B.exec
  have hb := B.bytes
  have hr := B.returns
  have hts := atoms_spec (ws := wsX11_needArgument) B.pre
  have hown : s.vm.findClass RX11 = some m.cls := findClass_of_methodNamed B.named
  have hlocks := B.notSynchronized
  subst hsz
  have hD := hD0.self (sz := s.heap.size)
  generalize hAe : va_A [(ko, .inr (11, [.ref (ka 0), .ref (ka 1), .ref (ka 2), .int 0, .int 0, .ref (ka 5), .ref (ka 6), .ref (ka 7), .ref (ka 8), .ref (ka 9), .int 0, .ref (ka 11), .ref (ka 12), .ref (ka 13)])), ((ka 13), .inl (cy 0, 4, .inl (fun _ => 0)))] s.heap.size = A at hD hT ⊢
  have hA : ∀ q : Nat, s.heap.size ≤ q → A q := fun q h => by rw [← hAe]; exact Or.inr h
  have hS : va_S A s.heap s.heap [] := va_S.rf
  have hl0 := lv_entry ([.ref ko, .int 0]) (n := 2) (Nat.le_of_ble_eq_true rfl)
  rw [lg_entry_eq]
  generalize (lg_sl ([.ref ko, .int 0]) ++ List.replicate (2 - (lg_sl ([.ref ko, .int 0])).length) Slot.unset).toArray = ls at hl0 ⊢
  have hlv : lv_has ls 2 [(0, .ref ko), (1, .int 0)] := hl0
  have lf67 := hts (.fieldLink RX11 67 "KerbSplash" "refused" "[I") (by decide +kernel)
  have hi11 : ∀ w ∈ wsX110, w ∈ wsX11_needArgument := by decide +kernel
  have cl364 := hts (.classLink RX11 364 "java/lang/IllegalArgumentException") (by decide +kernel)
  have inX2 := hts (.initialized "java/lang/IllegalArgumentException") (by decide +kernel)
  have hat2 : ∀ w ∈ vx_atS RX11 368 "java/lang/IllegalArgumentException" ["java/lang/RuntimeException", "java/lang/Exception"], w.before ([.ref ko, .int 0] : List Value).toArray s = true := vx_hat (fun w h => hts w (List.mem_cons_of_mem _ (List.mem_append_right _ h))) xI2 (xB_ok hG (List.mem_of_getElem? (i := 2) rfl))
  refine lv_iload_n hx hb dX11_needArgument_0 rfl (lv_at hlv 1 rfl) ?_
  refine lv_if_ne (tgt := 25) hx hb dX11_needArgument_1 (by decide) (fun c => absurd (by decide) c) (fun _ => ?_)
  refine lv_aload_n hx hb dX11_needArgument_4 rfl (lv_at hlv 0 rfl) ?_
  refine va_get (D := D) (ci := 11) (v := .ref (ka 13)) (C := RX11) (T := TX11) (N := 14) hx hb hts hi11 hown hG.1 hP 0 rfl rfl 13 (by decide) lf67 (fun _ h9 => h9) rfl dX11_needArgument_5 ?_
  refine lv_iconst (v := 2) hx hb dX11_needArgument_8 (by decide) ?_
  refine lv_dup2_11 hx hb dX11_needArgument_9 rfl rfl ?_
  refine va_iald hx hb hG.1 hP 1 0 rfl rfl (vpd (by decide)) dX11_needArgument_10 ?_
  refine lt_i (y := 0) (by rfl) ?_
  refine lv_iconst (v := 1) hx hb dX11_needArgument_11 (by decide) ?_
  refine lv_iadd hx hb dX11_needArgument_12 ?_
  refine lt_i (y := 1) (by decide) ?_
  refine va_iast hx hb hG.1 hP hD hS 1 0 rfl rfl (vpd (by decide)) dX11_needArgument_13 (fun H locs hP hD hS => ?_)
  have ⟨f_1, hP, hD⟩ : ∃ f_1 : Nat → Int32, va_P D vwCl [(ko, .inr (11, [.ref (ka 0), .ref (ka 1), .ref (ka 2), .int 0, .int 0, .ref (ka 5), .ref (ka 6), .ref (ka 7), .ref (ka 8), .ref (ka 9), .int 0, .ref (ka 11), .ref (ka 12), .ref (ka 13)])), ((ka 13), .inl (cy 0, 4, .inl f_1))] H ∧ va_D A [(ko, .inr (11, [.ref (ka 0), .ref (ka 1), .ref (ka 2), .int 0, .int 0, .ref (ka 5), .ref (ka 6), .ref (ka 7), .ref (ka 8), .ref (ka 9), .int 0, .ref (ka 11), .ref (ka 12), .ref (ka 13)])), ((ka 13), .inl (cy 0, 4, .inl f_1))] := ⟨_, hP, hD⟩
  exact vx_throwSW (cls := "java/lang/IllegalArgumentException") (names := ["java/lang/RuntimeException", "java/lang/Exception"]) hx hb hl hown (by decide +kernel) (by decide +kernel) cl364 inX2 (hG.2.2.1 2 _ rfl) hat2 (by decide +kernel) hT.1 hT.2 hS (hlv.1.trans hml.symm) dX11_needArgument_14 dX11_needArgument_17 dX11_needArgument_18 dX11_needArgument_21 dX11_needArgument_24 (fun x h => (hex x h).elim) (Nat.le_of_ble_eq_true rfl) (Nat.le_of_ble_eq_true rfl) (Nat.le_of_ble_eq_true rfl) (Nat.le_of_ble_eq_true rfl) hlocks (fun t hvm h1 h2 => ⟨(), trivial, (by exact ⟨rfl, trivial⟩), ⟨Nat.le_trans hS.1 h1, fun q hq hn => (h2 q (Nat.lt_of_lt_of_le hq hS.1)).trans (hS.2.1 q hq hn)⟩⟩) hS.2.2 (Nat.le_of_ble_eq_true rfl) (Nat.le_of_ble_eq_true rfl)
set_option maxHeartbeats 4000000 in
set_option maxRecDepth 100000 in
theorem c_needState1 (l : Launch) (hl : l.stackTraces = false) (D : va_G) (cy : Nat → ClassId) (sa : Nat → Nat) (ko : Nat) (sz : Nat) : Met l yX11_needState wsX11_needState ({ frames := 0, cells := 0, slots := 0, locals := 0 }) (va_Pc [.ref ko, .int 1] (pcW D cy sa sz [])) (va_Qv (fun u : SU => (True)) (fun u t => atW D (va_A [] sz) [] t) (va_A [] sz)) 0 0 (va_A [] sz) := by
  refine Met.ofW (cc := cX11_needState) (maxL := 2) (ret := none) (by decide) rfl ?_
  intro p e s m args below meth c s₁ B hml hv
  obtain ⟨rfl, hsz, hP, hG, hD0, hT⟩ := hv
  have hx := B.exec
  have hb := B.bytes
  have hr := B.returns
  have hts := atoms_spec (ws := wsX11_needState) B.pre
  have hown : s.vm.findClass RX11 = some m.cls := findClass_of_methodNamed B.named
  have hlocks := B.notSynchronized
  subst hsz
  have hD := hD0.self (sz := s.heap.size)
  generalize hAe : va_A [] s.heap.size = A at hD hT ⊢
  have hA : ∀ q : Nat, s.heap.size ≤ q → A q := fun q h => by rw [← hAe]; exact Or.inr h
  have hS : va_S A s.heap s.heap [] := va_S.rf
  have hl0 := lv_entry ([.ref ko, .int 1]) (n := 2) (Nat.le_of_ble_eq_true rfl)
  rw [lg_entry_eq]
  generalize (lg_sl ([.ref ko, .int 1]) ++ List.replicate (2 - (lg_sl ([.ref ko, .int 1])).length) Slot.unset).toArray = ls at hl0 ⊢
  have hlv : lv_has ls 2 [(0, .ref ko), (1, .int 1)] := hl0
  refine lv_iload_n hx hb dX11_needState_0 rfl (lv_at hlv 1 rfl) ?_
  refine lv_if_ne (tgt := 25) hx hb dX11_needState_1 (by decide) (fun _ => ?_) (fun c => absurd c (by decide))
  refine W.widen (k := 0) (n := 0) (Nat.le_of_ble_eq_true rfl) (Nat.le_of_ble_eq_true rfl) ?_
  exact W.vret hx hb hr (fun t ht hW => ⟨⟨((fun k => ([] : List Nat).getD k 0), (fun k => ([] : List Int32).getD k 0), (fun k => ([] : List (Nat → Int32)).getD k (fun _ => 0))), rfl, (by first | (trivial)), by rw [ht]; exact hP.sub [] rfl, hD.sub [] (by decide) rfl⟩, hS.F ht⟩) hS.2.2 dX11_needState_25
set_option maxHeartbeats 4000000 in
set_option maxRecDepth 100000 in
theorem c_needState0 (l : Launch) (hl : l.stackTraces = false) (D : va_G) (cy : Nat → ClassId) (sa : Nat → Nat) (ko : Nat) (ka : Nat → Nat) (sz : Nat) : vx_Met l yX11_needState wsX11_needState ({ frames := 6, cells := 1, slots := 6, locals := 100 }) (va_Pc [.ref ko, .int 0] (pcW D cy sa sz [(ko, .inr (11, [.ref (ka 0), .ref (ka 1), .ref (ka 2), .int 0, .int 0, .ref (ka 5), .ref (ka 6), .ref (ka 7), .ref (ka 8), .ref (ka 9), .int 0, .ref (ka 11), .ref (ka 12), .ref (ka 13)])), ((ka 13), .inl (cy 0, 4, .inl (fun _ => 0)))])) (va_Qv (fun u : SU => False) (fun u t => atW D (va_A [(ko, .inr (11, [.ref (ka 0), .ref (ka 1), .ref (ka 2), .int 0, .int 0, .ref (ka 5), .ref (ka 6), .ref (ka 7), .ref (ka 8), .ref (ka 9), .int 0, .ref (ka 11), .ref (ka 12), .ref (ka 13)])), ((ka 13), .inl (cy 0, 4, .inl (fun _ => 0)))] sz) [] t) (va_A [(ko, .inr (11, [.ref (ka 0), .ref (ka 1), .ref (ka 2), .int 0, .int 0, .ref (ka 5), .ref (ka 6), .ref (ka 7), .ref (ka 8), .ref (ka 9), .int 0, .ref (ka 11), .ref (ka 12), .ref (ka 13)])), ((ka 13), .inl (cy 0, 4, .inl (fun _ => 0)))] sz)) (xcW (fun E => (E = "java/lang/IllegalStateException" ∧ (True))) (va_A [(ko, .inr (11, [.ref (ka 0), .ref (ka 1), .ref (ka 2), .int 0, .int 0, .ref (ka 5), .ref (ka 6), .ref (ka 7), .ref (ka 8), .ref (ka 9), .int 0, .ref (ka 11), .ref (ka 12), .ref (ka 13)])), ((ka 13), .inl (cy 0, 4, .inl (fun _ => 0)))] sz)) 1 6 (va_A [(ko, .inr (11, [.ref (ka 0), .ref (ka 1), .ref (ka 2), .int 0, .int 0, .ref (ka 5), .ref (ka 6), .ref (ka 7), .ref (ka 8), .ref (ka 9), .int 0, .ref (ka 11), .ref (ka 12), .ref (ka 13)])), ((ka 13), .inl (cy 0, 4, .inl (fun _ => 0)))] sz) := by
  refine vx_ofW (cc := cX11_needState) (maxL := 2) (ret := none) (by decide) rfl ?_
  intro p e s m args below meth c s₁ B hml hex hv
  obtain ⟨rfl, hsz, hP, hG, hD0, hT⟩ := hv
  have hx := B.exec
  have hb := B.bytes
  have hr := B.returns
  have hts := atoms_spec (ws := wsX11_needState) B.pre
  have hown : s.vm.findClass RX11 = some m.cls := findClass_of_methodNamed B.named
  have hlocks := B.notSynchronized
  subst hsz
  have hD := hD0.self (sz := s.heap.size)
  generalize hAe : va_A [(ko, .inr (11, [.ref (ka 0), .ref (ka 1), .ref (ka 2), .int 0, .int 0, .ref (ka 5), .ref (ka 6), .ref (ka 7), .ref (ka 8), .ref (ka 9), .int 0, .ref (ka 11), .ref (ka 12), .ref (ka 13)])), ((ka 13), .inl (cy 0, 4, .inl (fun _ => 0)))] s.heap.size = A at hD hT ⊢
  have hA : ∀ q : Nat, s.heap.size ≤ q → A q := fun q h => by rw [← hAe]; exact Or.inr h
  have hS : va_S A s.heap s.heap [] := va_S.rf
  have hl0 := lv_entry ([.ref ko, .int 0]) (n := 2) (Nat.le_of_ble_eq_true rfl)
  rw [lg_entry_eq]
  generalize (lg_sl ([.ref ko, .int 0]) ++ List.replicate (2 - (lg_sl ([.ref ko, .int 0])).length) Slot.unset).toArray = ls at hl0 ⊢
  have hlv : lv_has ls 2 [(0, .ref ko), (1, .int 0)] := hl0
  have lf67 := hts (.fieldLink RX11 67 "KerbSplash" "refused" "[I") (by decide +kernel)
  have hi11 : ∀ w ∈ wsX110, w ∈ wsX11_needState := by decide +kernel
  have cl369 := hts (.classLink RX11 369 "java/lang/IllegalStateException") (by decide +kernel)
  have inX3 := hts (.initialized "java/lang/IllegalStateException") (by decide +kernel)
  have hat3 : ∀ w ∈ vx_atS RX11 373 "java/lang/IllegalStateException" ["java/lang/RuntimeException", "java/lang/Exception"], w.before ([.ref ko, .int 0] : List Value).toArray s = true := vx_hat (fun w h => hts w (List.mem_cons_of_mem _ (List.mem_append_right _ h))) xI3 (xB_ok hG (List.mem_of_getElem? (i := 3) rfl))
  refine lv_iload_n hx hb dX11_needState_0 rfl (lv_at hlv 1 rfl) ?_
  refine lv_if_ne (tgt := 25) hx hb dX11_needState_1 (by decide) (fun c => absurd (by decide) c) (fun _ => ?_)
  refine lv_aload_n hx hb dX11_needState_4 rfl (lv_at hlv 0 rfl) ?_
  refine va_get (D := D) (ci := 11) (v := .ref (ka 13)) (C := RX11) (T := TX11) (N := 14) hx hb hts hi11 hown hG.1 hP 0 rfl rfl 13 (by decide) lf67 (fun _ h9 => h9) rfl dX11_needState_5 ?_
  refine lv_iconst (v := 3) hx hb dX11_needState_8 (by decide) ?_
  refine lv_dup2_11 hx hb dX11_needState_9 rfl rfl ?_
  refine va_iald hx hb hG.1 hP 1 0 rfl rfl (vpd (by decide)) dX11_needState_10 ?_
  refine lt_i (y := 0) (by rfl) ?_
  refine lv_iconst (v := 1) hx hb dX11_needState_11 (by decide) ?_
  refine lv_iadd hx hb dX11_needState_12 ?_
  refine lt_i (y := 1) (by decide) ?_
  refine va_iast hx hb hG.1 hP hD hS 1 0 rfl rfl (vpd (by decide)) dX11_needState_13 (fun H locs hP hD hS => ?_)
  have ⟨f_1, hP, hD⟩ : ∃ f_1 : Nat → Int32, va_P D vwCl [(ko, .inr (11, [.ref (ka 0), .ref (ka 1), .ref (ka 2), .int 0, .int 0, .ref (ka 5), .ref (ka 6), .ref (ka 7), .ref (ka 8), .ref (ka 9), .int 0, .ref (ka 11), .ref (ka 12), .ref (ka 13)])), ((ka 13), .inl (cy 0, 4, .inl f_1))] H ∧ va_D A [(ko, .inr (11, [.ref (ka 0), .ref (ka 1), .ref (ka 2), .int 0, .int 0, .ref (ka 5), .ref (ka 6), .ref (ka 7), .ref (ka 8), .ref (ka 9), .int 0, .ref (ka 11), .ref (ka 12), .ref (ka 13)])), ((ka 13), .inl (cy 0, 4, .inl f_1))] := ⟨_, hP, hD⟩
  exact vx_throwSW (cls := "java/lang/IllegalStateException") (names := ["java/lang/RuntimeException", "java/lang/Exception"]) hx hb hl hown (by decide +kernel) (by decide +kernel) cl369 inX3 (hG.2.2.1 3 _ rfl) hat3 (by decide +kernel) hT.1 hT.2 hS (hlv.1.trans hml.symm) dX11_needState_14 dX11_needState_17 dX11_needState_18 dX11_needState_21 dX11_needState_24 (fun x h => (hex x h).elim) (Nat.le_of_ble_eq_true rfl) (Nat.le_of_ble_eq_true rfl) (Nat.le_of_ble_eq_true rfl) (Nat.le_of_ble_eq_true rfl) hlocks (fun t hvm h1 h2 => ⟨(), trivial, (by exact ⟨rfl, trivial⟩), ⟨Nat.le_trans hS.1 h1, fun q hq hn => (h2 q (Nat.lt_of_lt_of_le hq hS.1)).trans (hS.2.1 q hq hn)⟩⟩) hS.2.2 (Nat.le_of_ble_eq_true rfl) (Nat.le_of_ble_eq_true rfl)
set_option maxHeartbeats 4000000 in
set_option maxRecDepth 100000 in
theorem c_has (l : Launch) (hl : l.stackTraces = false) (D : va_G) (cy : Nat → ClassId) (sa : Nat → Nat) (ka : Nat → Nat) (x y : Int32) (sz : Nat) : Met l yX6_has wsX6_has ({ frames := 0, cells := 0, slots := 0, locals := 0 }) (va_Pc [.ref (ka 5), .int x, .int y] (pcW D cy sa sz [((ka 5), .inr (6, [.int 0, .int 0, .ref (ka 21), .ref (ka 22), .int 0, .int 0, .ref (ka 23), .int 0, .ref (ka 24), .int 0, .int 0, .ref (ka 25), .int 0, .ref (ka 26), .int 0, .int 0, .int 0, .int 0, .int 0]))])) (va_Qi (fun (r : Int32) (u : SU) => (r = 0)) (fun u t => atW D (va_A [((ka 5), .inr (6, [.int 0, .int 0, .ref (ka 21), .ref (ka 22), .int 0, .int 0, .ref (ka 23), .int 0, .ref (ka 24), .int 0, .int 0, .ref (ka 25), .int 0, .ref (ka 26), .int 0, .int 0, .int 0, .int 0, .int 0]))] sz) [] t) (va_A [((ka 5), .inr (6, [.int 0, .int 0, .ref (ka 21), .ref (ka 22), .int 0, .int 0, .ref (ka 23), .int 0, .ref (ka 24), .int 0, .int 0, .ref (ka 25), .int 0, .ref (ka 26), .int 0, .int 0, .int 0, .int 0, .int 0]))] sz)) 0 0 (va_A [((ka 5), .inr (6, [.int 0, .int 0, .ref (ka 21), .ref (ka 22), .int 0, .int 0, .ref (ka 23), .int 0, .ref (ka 24), .int 0, .int 0, .ref (ka 25), .int 0, .ref (ka 26), .int 0, .int 0, .int 0, .int 0, .int 0]))] sz) := by
  refine Met.ofW (cc := cX6_has) (maxL := 3) (ret := (some .boolean)) (by decide) rfl ?_
  intro p e s m args below meth c s₁ B hml hv
  obtain ⟨rfl, hsz, hP, hG, hD0, hT⟩ := hv
  have hx := B.exec
  have hb := B.bytes
  have hr := B.returns
  have hts := atoms_spec (ws := wsX6_has) B.pre
  have hown : s.vm.findClass RX6 = some m.cls := findClass_of_methodNamed B.named
  have hlocks := B.notSynchronized
  subst hsz
  have hD := hD0.self (sz := s.heap.size)
  generalize hAe : va_A [((ka 5), .inr (6, [.int 0, .int 0, .ref (ka 21), .ref (ka 22), .int 0, .int 0, .ref (ka 23), .int 0, .ref (ka 24), .int 0, .int 0, .ref (ka 25), .int 0, .ref (ka 26), .int 0, .int 0, .int 0, .int 0, .int 0]))] s.heap.size = A at hD hT ⊢
  have hA : ∀ q : Nat, s.heap.size ≤ q → A q := fun q h => by rw [← hAe]; exact Or.inr h
  have hS : va_S A s.heap s.heap [] := va_S.rf
  have hl0 := lv_entry ([.ref (ka 5), .int x, .int y]) (n := 3) (Nat.le_of_ble_eq_true rfl)
  rw [lg_entry_eq]
  generalize (lg_sl ([.ref (ka 5), .int x, .int y]) ++ List.replicate (3 - (lg_sl ([.ref (ka 5), .int x, .int y])).length) Slot.unset).toArray = ls at hl0 ⊢
  have hlv : lv_has ls 3 [(0, .ref (ka 5)), (1, .int x), (2, .int y)] := hl0
  have lf28 := hts (.fieldLink RX6 28 "KerbSplash$Street" "wide" "I") (by decide +kernel)
  have hi6 : ∀ w ∈ wsX60, w ∈ wsX6_has := by decide +kernel
  refine lv_iload_n hx hb dX6_has_0 rfl (lv_at hlv 1 rfl) ?_
  refine lv_if_lt (tgt := 28) hx hb dX6_has_1 (by decide) (fun c_1 => ?_) (fun c_1 => ?_)
  · refine lv_iconst (v := 0) hx hb dX6_has_28 (by decide) ?_
    refine W.widen (k := 0) (n := 0) (Nat.le_of_ble_eq_true rfl) (Nat.le_of_ble_eq_true rfl) ?_
    exact W.zret (v := 0) hx hb hr (by first | rfl | decide) (fun t ht hW => ⟨⟨0, ((fun k => ([] : List Nat).getD k 0), (fun k => ([] : List Int32).getD k 0), (fun k => ([] : List (Nat → Int32)).getD k (fun _ => 0))), rfl, (by first | (exact (by rfl))), by rw [ht]; exact hP.sub [] rfl, hD.sub [] (by decide) rfl⟩, hS.F ht⟩) hS.2.2 dX6_has_29
  · refine lv_iload_n hx hb dX6_has_4 rfl (lv_at hlv 1 rfl) ?_
    refine lv_aload_n hx hb dX6_has_5 rfl (lv_at hlv 0 rfl) ?_
    refine va_get (D := D) (ci := 6) (v := .int 0) (C := RX6) (T := TX6) (N := 19) hx hb hts hi6 hown hG.1 hP 0 rfl rfl 0 (by decide) lf28 (fun _ h9 => h9) rfl dX6_has_6 ?_
    refine lv_icmp_ge (tgt := 28) hx hb dX6_has_9 (by decide) (fun _ => ?_) (fun c => absurd (Int32.not_lt.mp c_1) c)
    refine lv_iconst (v := 0) hx hb dX6_has_28 (by decide) ?_
    refine W.widen (k := 0) (n := 0) (Nat.le_of_ble_eq_true rfl) (Nat.le_of_ble_eq_true rfl) ?_
    exact W.zret (v := 0) hx hb hr (by first | rfl | decide) (fun t ht hW => ⟨⟨0, ((fun k => ([] : List Nat).getD k 0), (fun k => ([] : List Int32).getD k 0), (fun k => ([] : List (Nat → Int32)).getD k (fun _ => 0))), rfl, (by first | (exact (by rfl))), by rw [ht]; exact hP.sub [] rfl, hD.sub [] (by decide) rfl⟩, hS.F ht⟩) hS.2.2 dX6_has_29
set_option maxHeartbeats 4000000 in
set_option maxRecDepth 100000 in
theorem c_needCell (l : Launch) (hl : l.stackTraces = false) (D : va_G) (cy : Nat → ClassId) (sa : Nat → Nat) (ko : Nat) (ka : Nat → Nat) (x y : Int32) (sz : Nat) : vx_Met l yX11_needCell wsX11_needCell ({ frames := 6, cells := 1, slots := 6, locals := 100 }) (va_Pc [.ref ko, .int x, .int y] (pcW D cy sa sz [(ko, .inr (11, [.ref (ka 0), .ref (ka 1), .ref (ka 2), .int 0, .int 0, .ref (ka 5), .ref (ka 6), .ref (ka 7), .ref (ka 8), .ref (ka 9), .int 0, .ref (ka 11), .ref (ka 12), .ref (ka 13)])), ((ka 5), .inr (6, [.int 0, .int 0, .ref (ka 21), .ref (ka 22), .int 0, .int 0, .ref (ka 23), .int 0, .ref (ka 24), .int 0, .int 0, .ref (ka 25), .int 0, .ref (ka 26), .int 0, .int 0, .int 0, .int 0, .int 0])), ((ka 13), .inl (cy 0, 4, .inl (fun _ => 0)))])) (va_Qv (fun u : SU => False) (fun u t => atW D (va_A [(ko, .inr (11, [.ref (ka 0), .ref (ka 1), .ref (ka 2), .int 0, .int 0, .ref (ka 5), .ref (ka 6), .ref (ka 7), .ref (ka 8), .ref (ka 9), .int 0, .ref (ka 11), .ref (ka 12), .ref (ka 13)])), ((ka 5), .inr (6, [.int 0, .int 0, .ref (ka 21), .ref (ka 22), .int 0, .int 0, .ref (ka 23), .int 0, .ref (ka 24), .int 0, .int 0, .ref (ka 25), .int 0, .ref (ka 26), .int 0, .int 0, .int 0, .int 0, .int 0])), ((ka 13), .inl (cy 0, 4, .inl (fun _ => 0)))] sz) [] t) (va_A [(ko, .inr (11, [.ref (ka 0), .ref (ka 1), .ref (ka 2), .int 0, .int 0, .ref (ka 5), .ref (ka 6), .ref (ka 7), .ref (ka 8), .ref (ka 9), .int 0, .ref (ka 11), .ref (ka 12), .ref (ka 13)])), ((ka 5), .inr (6, [.int 0, .int 0, .ref (ka 21), .ref (ka 22), .int 0, .int 0, .ref (ka 23), .int 0, .ref (ka 24), .int 0, .int 0, .ref (ka 25), .int 0, .ref (ka 26), .int 0, .int 0, .int 0, .int 0, .int 0])), ((ka 13), .inl (cy 0, 4, .inl (fun _ => 0)))] sz)) (xcW (fun E => (E = "java/lang/IndexOutOfBoundsException" ∧ (True))) (va_A [(ko, .inr (11, [.ref (ka 0), .ref (ka 1), .ref (ka 2), .int 0, .int 0, .ref (ka 5), .ref (ka 6), .ref (ka 7), .ref (ka 8), .ref (ka 9), .int 0, .ref (ka 11), .ref (ka 12), .ref (ka 13)])), ((ka 5), .inr (6, [.int 0, .int 0, .ref (ka 21), .ref (ka 22), .int 0, .int 0, .ref (ka 23), .int 0, .ref (ka 24), .int 0, .int 0, .ref (ka 25), .int 0, .ref (ka 26), .int 0, .int 0, .int 0, .int 0, .int 0])), ((ka 13), .inl (cy 0, 4, .inl (fun _ => 0)))] sz)) 1 6 (va_A [(ko, .inr (11, [.ref (ka 0), .ref (ka 1), .ref (ka 2), .int 0, .int 0, .ref (ka 5), .ref (ka 6), .ref (ka 7), .ref (ka 8), .ref (ka 9), .int 0, .ref (ka 11), .ref (ka 12), .ref (ka 13)])), ((ka 5), .inr (6, [.int 0, .int 0, .ref (ka 21), .ref (ka 22), .int 0, .int 0, .ref (ka 23), .int 0, .ref (ka 24), .int 0, .int 0, .ref (ka 25), .int 0, .ref (ka 26), .int 0, .int 0, .int 0, .int 0, .int 0])), ((ka 13), .inl (cy 0, 4, .inl (fun _ => 0)))] sz) := by
  refine vx_ofW (cc := cX11_needCell) (maxL := 3) (ret := none) (by decide) rfl ?_
  intro p e s m args below meth c s₁ B hml hex hv
  obtain ⟨rfl, hsz, hP, hG, hD0, hT⟩ := hv
  have hx := B.exec
  have hb := B.bytes
  have hr := B.returns
  have hts := atoms_spec (ws := wsX11_needCell) B.pre
  have hown : s.vm.findClass RX11 = some m.cls := findClass_of_methodNamed B.named
  have hlocks := B.notSynchronized
  subst hsz
  have hD := hD0.self (sz := s.heap.size)
  generalize hAe : va_A [(ko, .inr (11, [.ref (ka 0), .ref (ka 1), .ref (ka 2), .int 0, .int 0, .ref (ka 5), .ref (ka 6), .ref (ka 7), .ref (ka 8), .ref (ka 9), .int 0, .ref (ka 11), .ref (ka 12), .ref (ka 13)])), ((ka 5), .inr (6, [.int 0, .int 0, .ref (ka 21), .ref (ka 22), .int 0, .int 0, .ref (ka 23), .int 0, .ref (ka 24), .int 0, .int 0, .ref (ka 25), .int 0, .ref (ka 26), .int 0, .int 0, .int 0, .int 0, .int 0])), ((ka 13), .inl (cy 0, 4, .inl (fun _ => 0)))] s.heap.size = A at hD hT ⊢
  have hA : ∀ q : Nat, s.heap.size ≤ q → A q := fun q h => by rw [← hAe]; exact Or.inr h
  have hS : va_S A s.heap s.heap [] := va_S.rf
  have hl0 := lv_entry ([.ref ko, .int x, .int y]) (n := 3) (Nat.le_of_ble_eq_true rfl)
  rw [lg_entry_eq]
  generalize (lg_sl ([.ref ko, .int x, .int y]) ++ List.replicate (3 - (lg_sl ([.ref ko, .int x, .int y])).length) Slot.unset).toArray = ls at hl0 ⊢
  have hlv : lv_has ls 3 [(0, .ref ko), (1, .int x), (2, .int y)] := hl0
  have lf31 := hts (.fieldLink RX11 31 "KerbSplash" "now" "LKerbSplash$Street;") (by decide +kernel)
  have hi11 : ∀ w ∈ wsX110, w ∈ wsX11_needCell := by decide +kernel
  have ini_RX6 := hts (.initialized RX6) (by decide +kernel)
  have im_X6_has := hts (.instanceMethod yX6_has) (by decide +kernel)
  have se_X6_has := hts (.selects RX6 yX6_has yX6_has) (by decide +kernel)
  have lf67 := hts (.fieldLink RX11 67 "KerbSplash" "refused" "[I") (by decide +kernel)
  have cl352 := hts (.classLink RX11 352 "java/lang/IndexOutOfBoundsException") (by decide +kernel)
  have inX0 := hts (.initialized "java/lang/IndexOutOfBoundsException") (by decide +kernel)
  have hat0 : ∀ w ∈ vx_atS RX11 356 "java/lang/IndexOutOfBoundsException" ["java/lang/RuntimeException", "java/lang/Exception"], w.before ([.ref ko, .int x, .int y] : List Value).toArray s = true := vx_hat (fun w h => hts w (List.mem_cons_of_mem _ (List.mem_append_right _ h))) xI0 (xB_ok hG (List.mem_of_getElem? (i := 0) rfl))
  refine lv_aload_n hx hb dX11_needCell_0 rfl (lv_at hlv 0 rfl) ?_
  refine va_get (D := D) (ci := 11) (v := .ref (ka 5)) (C := RX11) (T := TX11) (N := 14) hx hb hts hi11 hown hG.1 hP 0 rfl rfl 5 (by decide) lf31 (fun _ h9 => h9) rfl dX11_needCell_1 ?_
  refine lv_iload_n hx hb dX11_needCell_4 rfl (lv_at hlv 1 rfl) ?_
  refine lv_iload_n hx hb dX11_needCell_5 rfl (lv_at hlv 2 rfl) ?_
  refine cj_i (wr := [(ko, .inr (11, [.ref (ka 0), .ref (ka 1), .ref (ka 2), .int 0, .int 0, .ref (ka 5), .ref (ka 6), .ref (ka 7), .ref (ka 8), .ref (ka 9), .int 0, .ref (ka 11), .ref (ka 12), .ref (ka 13)])), ((ka 13), .inl (cy 0, 4, .inl (fun _ => 0)))]) (va_runVN (host := "KerbSplash") (As := [.int x, .int y]) (rest := []) ⟨hx, hb, hml, hown, hts⟩ (c_has l hl D cy sa ka x y s.heap.size) ⟨va_cnB 2 hts gX11_needCell_X6_has_n348 rfl rfl rfl (nM_K_348 hG.2.1) ini_RX6 (by decide +kernel) ⟨Nat.le_of_ble_eq_true rfl, Nat.le_of_ble_eq_true rfl⟩, im_X6_has, se_X6_has⟩ ⟨pcW.blind, (va_recv hG.1 hP (ci := 6) (q0 := 1) rfl rfl), (pcW.mk hP hD hS hA hG hT [1] rfl (by decide))⟩ rfl rfl hlv.1 rfl (lv_room (Nat.le_of_ble_eq_true rfl)) dX11_needCell_6 ⟨Nat.le_of_ble_eq_true rfl, Nat.le_of_ble_eq_true rfl⟩) hP hD hS hA [1] [0, 2] rfl rfl (by decide) (by decide) (fun r1 u1 H locs hw1 hP hD hS => ?_)
  obtain rfl := hw1
  have hP : va_P D vwCl [(ko, .inr (11, [.ref (ka 0), .ref (ka 1), .ref (ka 2), .int 0, .int 0, .ref (ka 5), .ref (ka 6), .ref (ka 7), .ref (ka 8), .ref (ka 9), .int 0, .ref (ka 11), .ref (ka 12), .ref (ka 13)])), ((ka 13), .inl (cy 0, 4, .inl (fun _ => 0)))] H := hP
  have hD : va_D A [(ko, .inr (11, [.ref (ka 0), .ref (ka 1), .ref (ka 2), .int 0, .int 0, .ref (ka 5), .ref (ka 6), .ref (ka 7), .ref (ka 8), .ref (ka 9), .int 0, .ref (ka 11), .ref (ka 12), .ref (ka 13)])), ((ka 13), .inl (cy 0, 4, .inl (fun _ => 0)))] := hD
  refine lv_if_ne (tgt := 33) hx hb dX11_needCell_9 (by decide) (fun c => absurd (by decide) c) (fun _ => ?_)
  refine lv_aload_n hx hb dX11_needCell_12 rfl (lv_at hlv 0 rfl) ?_
  refine va_get (D := D) (ci := 11) (v := .ref (ka 13)) (C := RX11) (T := TX11) (N := 14) hx hb hts hi11 hown hG.1 hP 0 rfl rfl 13 (by decide) lf67 (fun _ h9 => h9) rfl dX11_needCell_13 ?_
  refine lv_iconst (v := 0) hx hb dX11_needCell_16 (by decide) ?_
  refine lv_dup2_11 hx hb dX11_needCell_17 rfl rfl ?_
  refine va_iald hx hb hG.1 hP 1 0 rfl rfl (vpd (by decide)) dX11_needCell_18 ?_
  refine lt_i (y := 0) (by rfl) ?_
  refine lv_iconst (v := 1) hx hb dX11_needCell_19 (by decide) ?_
  refine lv_iadd hx hb dX11_needCell_20 ?_
  refine lt_i (y := 1) (by decide) ?_
  refine va_iast hx hb hG.1 hP hD hS 1 0 rfl rfl (vpd (by decide)) dX11_needCell_21 (fun H locs hP hD hS => ?_)
  have ⟨f_1, hP, hD⟩ : ∃ f_1 : Nat → Int32, va_P D vwCl [(ko, .inr (11, [.ref (ka 0), .ref (ka 1), .ref (ka 2), .int 0, .int 0, .ref (ka 5), .ref (ka 6), .ref (ka 7), .ref (ka 8), .ref (ka 9), .int 0, .ref (ka 11), .ref (ka 12), .ref (ka 13)])), ((ka 13), .inl (cy 0, 4, .inl f_1))] H ∧ va_D A [(ko, .inr (11, [.ref (ka 0), .ref (ka 1), .ref (ka 2), .int 0, .int 0, .ref (ka 5), .ref (ka 6), .ref (ka 7), .ref (ka 8), .ref (ka 9), .int 0, .ref (ka 11), .ref (ka 12), .ref (ka 13)])), ((ka 13), .inl (cy 0, 4, .inl f_1))] := ⟨_, hP, hD⟩
  exact vx_throwSW (cls := "java/lang/IndexOutOfBoundsException") (names := ["java/lang/RuntimeException", "java/lang/Exception"]) hx hb hl hown (by decide +kernel) (by decide +kernel) cl352 inX0 (hG.2.2.1 0 _ rfl) hat0 (by decide +kernel) hT.1 hT.2 hS (hlv.1.trans hml.symm) dX11_needCell_22 dX11_needCell_25 dX11_needCell_26 dX11_needCell_29 dX11_needCell_32 (fun x h => (hex x h).elim) (Nat.le_of_ble_eq_true rfl) (Nat.le_of_ble_eq_true rfl) (Nat.le_of_ble_eq_true rfl) (Nat.le_of_ble_eq_true rfl) hlocks (fun t hvm h1 h2 => ⟨(), trivial, (by exact ⟨rfl, trivial⟩), ⟨Nat.le_trans hS.1 h1, fun q hq hn => (h2 q (Nat.lt_of_lt_of_le hq hS.1)).trans (hS.2.1 q hq hn)⟩⟩) hS.2.2 (Nat.le_of_ble_eq_true rfl) (Nat.le_of_ble_eq_true rfl)
def vs_c_needRain : List Cond := .code yX11_needRain cX11_needRain 2 none :: (([.fieldLink RX11 112 "KerbSplash" "rainsTold" "I"] : List Cond) ++ ((wsX110) ++ ((va_wsS RX11 130 yX11_isWithin wsX11_isWithin) ++ ((wsV RX11 177 RX11 yX11_needElement vs_needElement) ++ ([])))))
set_option maxHeartbeats 4000000 in
set_option maxRecDepth 100000 in
theorem c_needRain (l : Launch) (hl : l.stackTraces = false) (D : va_G) (cy : Nat → ClassId) (sa : Nat → Nat) (ko : Nat) (ka : Nat → Nat) (n : Int32) (sz : Nat) : vx_Met l yX11_needRain vs_c_needRain ({ frames := 7, cells := 1, slots := 6, locals := 121 }) (va_Pc [.ref ko, .int n] (pcW D cy sa sz [(ko, .inr (11, [.ref (ka 0), .ref (ka 1), .ref (ka 2), .int 0, .int 0, .ref (ka 5), .ref (ka 6), .ref (ka 7), .ref (ka 8), .ref (ka 9), .int 0, .ref (ka 11), .ref (ka 12), .ref (ka 13)])), ((ka 13), .inl (cy 0, 4, .inl (fun _ => 0)))])) (va_Qv (fun u : SU => False) (fun u t => atW D (va_A [(ko, .inr (11, [.ref (ka 0), .ref (ka 1), .ref (ka 2), .int 0, .int 0, .ref (ka 5), .ref (ka 6), .ref (ka 7), .ref (ka 8), .ref (ka 9), .int 0, .ref (ka 11), .ref (ka 12), .ref (ka 13)])), ((ka 13), .inl (cy 0, 4, .inl (fun _ => 0)))] sz) [] t) (va_A [(ko, .inr (11, [.ref (ka 0), .ref (ka 1), .ref (ka 2), .int 0, .int 0, .ref (ka 5), .ref (ka 6), .ref (ka 7), .ref (ka 8), .ref (ka 9), .int 0, .ref (ka 11), .ref (ka 12), .ref (ka 13)])), ((ka 13), .inl (cy 0, 4, .inl (fun _ => 0)))] sz)) (xcW (fun E => (E = "java/util/NoSuchElementException" ∧ (True))) (va_A [(ko, .inr (11, [.ref (ka 0), .ref (ka 1), .ref (ka 2), .int 0, .int 0, .ref (ka 5), .ref (ka 6), .ref (ka 7), .ref (ka 8), .ref (ka 9), .int 0, .ref (ka 11), .ref (ka 12), .ref (ka 13)])), ((ka 13), .inl (cy 0, 4, .inl (fun _ => 0)))] sz)) 1 6 (va_A [(ko, .inr (11, [.ref (ka 0), .ref (ka 1), .ref (ka 2), .int 0, .int 0, .ref (ka 5), .ref (ka 6), .ref (ka 7), .ref (ka 8), .ref (ka 9), .int 0, .ref (ka 11), .ref (ka 12), .ref (ka 13)])), ((ka 13), .inl (cy 0, 4, .inl (fun _ => 0)))] sz) := by
  refine vx_ofW (cc := cX11_needRain) (maxL := 2) (ret := none) (by decide) rfl ?_
  intro p e s m args below meth c s₁ B hml hex hv
  obtain ⟨rfl, hsz, hP, hG, hD0, hT⟩ := hv
  have hx := B.exec
  have hb := B.bytes
  have hr := B.returns
  have hts := atoms_spec (ws := vs_c_needRain) B.pre
  have hown : s.vm.findClass RX11 = some m.cls := findClass_of_methodNamed B.named
  have hlocks := B.notSynchronized
  subst hsz
  have hD := hD0.self (sz := s.heap.size)
  generalize hAe : va_A [(ko, .inr (11, [.ref (ka 0), .ref (ka 1), .ref (ka 2), .int 0, .int 0, .ref (ka 5), .ref (ka 6), .ref (ka 7), .ref (ka 8), .ref (ka 9), .int 0, .ref (ka 11), .ref (ka 12), .ref (ka 13)])), ((ka 13), .inl (cy 0, 4, .inl (fun _ => 0)))] s.heap.size = A at hD hT ⊢
  have hA : ∀ q : Nat, s.heap.size ≤ q → A q := fun q h => by rw [← hAe]; exact Or.inr h
  have hS : va_S A s.heap s.heap [] := va_S.rf
  have hl0 := lv_entry ([.ref ko, .int n]) (n := 2) (Nat.le_of_ble_eq_true rfl)
  rw [lg_entry_eq]
  generalize (lg_sl ([.ref ko, .int n]) ++ List.replicate (2 - (lg_sl ([.ref ko, .int n])).length) Slot.unset).toArray = ls at hl0 ⊢
  have hlv : lv_has ls 2 [(0, .ref ko), (1, .int n)] := hl0
  have lf112 := hts (.fieldLink RX11 112 "KerbSplash" "rainsTold" "I") (List.mem_of_getElem? (i := 1) rfl)
  have hi11 : ∀ w ∈ wsX110, w ∈ vs_c_needRain := fun w h => List.mem_cons_of_mem _ (List.mem_append_right _ (List.mem_append_left _ h))
  have gg_1 : GoodIn vs_c_needRain (va_wsS RX11 130 yX11_isWithin wsX11_isWithin) := goodIn_sub (fun w h => List.mem_cons_of_mem _ (List.mem_append_right _ (List.mem_append_right _ (List.mem_append_left _ h)))) (by decide +kernel)
  have gg_2 : GoodIn vs_c_needRain (wsV RX11 177 RX11 yX11_needElement vs_needElement) := goodIn_sub (fun w h => List.mem_cons_of_mem _ (List.mem_append_right _ (List.mem_append_right _ (List.mem_append_right _ (List.mem_append_left _ h))))) (by decide +kernel)
  refine lv_aload_n hx hb dX11_needRain_0 rfl (lv_at hlv 0 rfl) ?_
  refine lv_iload_n hx hb dX11_needRain_1 rfl (lv_at hlv 1 rfl) ?_
  refine lv_iconst (v := 0) hx hb dX11_needRain_2 (by decide) ?_
  refine lv_aload_n hx hb dX11_needRain_3 rfl (lv_at hlv 0 rfl) ?_
  refine va_get (D := D) (ci := 11) (v := .int 0) (C := RX11) (T := TX11) (N := 14) hx hb hts hi11 hown hG.1 hP 0 rfl rfl 3 (by decide) lf112 (fun _ h9 => h9) rfl dX11_needRain_4 ?_
  refine lv_iconst (v := 1) hx hb dX11_needRain_7 (by decide) ?_
  refine lv_isub hx hb dX11_needRain_8 ?_
  refine lt_i (y := (-1)) (by decide) ?_
  refine cj_i (wr := [(ko, .inr (11, [.ref (ka 0), .ref (ka 1), .ref (ka 2), .int 0, .int 0, .ref (ka 5), .ref (ka 6), .ref (ka 7), .ref (ka 8), .ref (ka 9), .int 0, .ref (ka 11), .ref (ka 12), .ref (ka 13)])), ((ka 13), .inl (cy 0, 4, .inl (fun _ => 0)))]) (va_runS (As := [.int n, .int 0, .int (-1)]) (rest := [.ref ko]) ⟨hx, hb, hml, hown, hts⟩ (c_isWithin l hl D cy sa n 0 (-1) s.heap.size) (va_cwS 3 hts gg_1 rfl rfl rfl (by decide +kernel) ⟨Nat.le_of_ble_eq_true rfl, Nat.le_of_ble_eq_true rfl⟩) ⟨pcW.blind, (pcW.mk hP hD hS hA hG hT [] rfl (by decide))⟩ rfl rfl hlv.1 rfl (lv_room (Nat.le_of_ble_eq_true rfl)) dX11_needRain_9 ⟨Nat.le_of_ble_eq_true rfl, Nat.le_of_ble_eq_true rfl⟩) hP hD hS hA [] [0, 1] rfl rfl (by decide) (by decide) (fun r1 u1 H locs hw1 hP hD hS => ?_)
  rcases hw1 with ⟨hg1, rfl⟩ | ⟨hg1, rfl⟩
  · exact absurd hg1 (fun q => absurd (Int32.le_trans q.1 q.2) (by decide))
  · have hP : va_P D vwCl [(ko, .inr (11, [.ref (ka 0), .ref (ka 1), .ref (ka 2), .int 0, .int 0, .ref (ka 5), .ref (ka 6), .ref (ka 7), .ref (ka 8), .ref (ka 9), .int 0, .ref (ka 11), .ref (ka 12), .ref (ka 13)])), ((ka 13), .inl (cy 0, 4, .inl (fun _ => 0)))] H := hP
    have hD : va_D A [(ko, .inr (11, [.ref (ka 0), .ref (ka 1), .ref (ka 2), .int 0, .int 0, .ref (ka 5), .ref (ka 6), .ref (ka 7), .ref (ka 8), .ref (ka 9), .int 0, .ref (ka 11), .ref (ka 12), .ref (ka 13)])), ((ka 13), .inl (cy 0, 4, .inl (fun _ => 0)))] := hD
    refine cjx_v (wr := []) (vx_runV (As := [.int 0]) (rest := []) ⟨hx, hb, hml, hown, hts⟩ (c_needElement0 l hl D cy sa ko ka H.size) (cwV 1 hts gg_2 rfl rfl rfl (by decide +kernel) ⟨Nat.le_of_ble_eq_true rfl, Nat.le_of_ble_eq_true rfl⟩) ⟨pcW.blind, (va_recv hG.1 hP (ci := 11) (q0 := 0) rfl rfl), (pcW.mk hP hD hS hA hG hT [0, 1] rfl (by decide))⟩ rfl rfl hlv.1 rfl (lv_room (Nat.le_of_ble_eq_true rfl)) dX11_needRain_12 ⟨Nat.le_of_ble_eq_true rfl, Nat.le_of_ble_eq_true rfl⟩) hP hD hS hA [0, 1] [] rfl rfl (by decide) (by decide) (fun E ce q9 H locs hp hP hD hS h1 h2 h3 => ?_) (fun u2 H locs hw2 hP hD hS => ?_)
    · obtain ⟨rfl, hg2⟩ := hp
      exact vx_out (fun x h => (hex x h).elim) hlocks h1 h2 h3 (fun t ht hvm => ⟨(), trivial, (by exact ⟨rfl, trivial⟩), hS.F ht⟩) hS.2.2 (Nat.le_of_ble_eq_true rfl) (Nat.le_of_ble_eq_true rfl)
    · exact (hw2).elim
def vs_c_needLaw : List Cond := .code yX11_needLaw cX11_needLaw 2 none :: (([.fieldLink RX11 118 "KerbSplash" "lawsTold" "I"] : List Cond) ++ ((wsX110) ++ ((va_wsS RX11 130 yX11_isWithin wsX11_isWithin) ++ ((wsV RX11 177 RX11 yX11_needElement vs_needElement) ++ ([])))))
set_option maxHeartbeats 4000000 in
set_option maxRecDepth 100000 in
theorem c_needLaw (l : Launch) (hl : l.stackTraces = false) (D : va_G) (cy : Nat → ClassId) (sa : Nat → Nat) (ko : Nat) (ka : Nat → Nat) (n : Int32) (sz : Nat) : vx_Met l yX11_needLaw vs_c_needLaw ({ frames := 7, cells := 1, slots := 6, locals := 121 }) (va_Pc [.ref ko, .int n] (pcW D cy sa sz [(ko, .inr (11, [.ref (ka 0), .ref (ka 1), .ref (ka 2), .int 0, .int 0, .ref (ka 5), .ref (ka 6), .ref (ka 7), .ref (ka 8), .ref (ka 9), .int 0, .ref (ka 11), .ref (ka 12), .ref (ka 13)])), ((ka 13), .inl (cy 0, 4, .inl (fun _ => 0)))])) (va_Qv (fun u : SU => False) (fun u t => atW D (va_A [(ko, .inr (11, [.ref (ka 0), .ref (ka 1), .ref (ka 2), .int 0, .int 0, .ref (ka 5), .ref (ka 6), .ref (ka 7), .ref (ka 8), .ref (ka 9), .int 0, .ref (ka 11), .ref (ka 12), .ref (ka 13)])), ((ka 13), .inl (cy 0, 4, .inl (fun _ => 0)))] sz) [] t) (va_A [(ko, .inr (11, [.ref (ka 0), .ref (ka 1), .ref (ka 2), .int 0, .int 0, .ref (ka 5), .ref (ka 6), .ref (ka 7), .ref (ka 8), .ref (ka 9), .int 0, .ref (ka 11), .ref (ka 12), .ref (ka 13)])), ((ka 13), .inl (cy 0, 4, .inl (fun _ => 0)))] sz)) (xcW (fun E => (E = "java/util/NoSuchElementException" ∧ (True))) (va_A [(ko, .inr (11, [.ref (ka 0), .ref (ka 1), .ref (ka 2), .int 0, .int 0, .ref (ka 5), .ref (ka 6), .ref (ka 7), .ref (ka 8), .ref (ka 9), .int 0, .ref (ka 11), .ref (ka 12), .ref (ka 13)])), ((ka 13), .inl (cy 0, 4, .inl (fun _ => 0)))] sz)) 1 6 (va_A [(ko, .inr (11, [.ref (ka 0), .ref (ka 1), .ref (ka 2), .int 0, .int 0, .ref (ka 5), .ref (ka 6), .ref (ka 7), .ref (ka 8), .ref (ka 9), .int 0, .ref (ka 11), .ref (ka 12), .ref (ka 13)])), ((ka 13), .inl (cy 0, 4, .inl (fun _ => 0)))] sz) := by
  refine vx_ofW (cc := cX11_needLaw) (maxL := 2) (ret := none) (by decide) rfl ?_
  intro p e s m args below meth c s₁ B hml hex hv
  obtain ⟨rfl, hsz, hP, hG, hD0, hT⟩ := hv
  have hx := B.exec
  have hb := B.bytes
  have hr := B.returns
  have hts := atoms_spec (ws := vs_c_needLaw) B.pre
  have hown : s.vm.findClass RX11 = some m.cls := findClass_of_methodNamed B.named
  have hlocks := B.notSynchronized
  subst hsz
  have hD := hD0.self (sz := s.heap.size)
  generalize hAe : va_A [(ko, .inr (11, [.ref (ka 0), .ref (ka 1), .ref (ka 2), .int 0, .int 0, .ref (ka 5), .ref (ka 6), .ref (ka 7), .ref (ka 8), .ref (ka 9), .int 0, .ref (ka 11), .ref (ka 12), .ref (ka 13)])), ((ka 13), .inl (cy 0, 4, .inl (fun _ => 0)))] s.heap.size = A at hD hT ⊢
  have hA : ∀ q : Nat, s.heap.size ≤ q → A q := fun q h => by rw [← hAe]; exact Or.inr h
  have hS : va_S A s.heap s.heap [] := va_S.rf
  have hl0 := lv_entry ([.ref ko, .int n]) (n := 2) (Nat.le_of_ble_eq_true rfl)
  rw [lg_entry_eq]
  generalize (lg_sl ([.ref ko, .int n]) ++ List.replicate (2 - (lg_sl ([.ref ko, .int n])).length) Slot.unset).toArray = ls at hl0 ⊢
  have hlv : lv_has ls 2 [(0, .ref ko), (1, .int n)] := hl0
  have lf118 := hts (.fieldLink RX11 118 "KerbSplash" "lawsTold" "I") (List.mem_of_getElem? (i := 1) rfl)
  have hi11 : ∀ w ∈ wsX110, w ∈ vs_c_needLaw := fun w h => List.mem_cons_of_mem _ (List.mem_append_right _ (List.mem_append_left _ h))
  have gg_1 : GoodIn vs_c_needLaw (va_wsS RX11 130 yX11_isWithin wsX11_isWithin) := goodIn_sub (fun w h => List.mem_cons_of_mem _ (List.mem_append_right _ (List.mem_append_right _ (List.mem_append_left _ h)))) (by decide +kernel)
  have gg_2 : GoodIn vs_c_needLaw (wsV RX11 177 RX11 yX11_needElement vs_needElement) := goodIn_sub (fun w h => List.mem_cons_of_mem _ (List.mem_append_right _ (List.mem_append_right _ (List.mem_append_right _ (List.mem_append_left _ h))))) (by decide +kernel)
  refine lv_aload_n hx hb dX11_needLaw_0 rfl (lv_at hlv 0 rfl) ?_
  refine lv_iload_n hx hb dX11_needLaw_1 rfl (lv_at hlv 1 rfl) ?_
  refine lv_iconst (v := 0) hx hb dX11_needLaw_2 (by decide) ?_
  refine lv_aload_n hx hb dX11_needLaw_3 rfl (lv_at hlv 0 rfl) ?_
  refine va_get (D := D) (ci := 11) (v := .int 0) (C := RX11) (T := TX11) (N := 14) hx hb hts hi11 hown hG.1 hP 0 rfl rfl 4 (by decide) lf118 (fun _ h9 => h9) rfl dX11_needLaw_4 ?_
  refine lv_iconst (v := 1) hx hb dX11_needLaw_7 (by decide) ?_
  refine lv_isub hx hb dX11_needLaw_8 ?_
  refine lt_i (y := (-1)) (by decide) ?_
  refine cj_i (wr := [(ko, .inr (11, [.ref (ka 0), .ref (ka 1), .ref (ka 2), .int 0, .int 0, .ref (ka 5), .ref (ka 6), .ref (ka 7), .ref (ka 8), .ref (ka 9), .int 0, .ref (ka 11), .ref (ka 12), .ref (ka 13)])), ((ka 13), .inl (cy 0, 4, .inl (fun _ => 0)))]) (va_runS (As := [.int n, .int 0, .int (-1)]) (rest := [.ref ko]) ⟨hx, hb, hml, hown, hts⟩ (c_isWithin l hl D cy sa n 0 (-1) s.heap.size) (va_cwS 3 hts gg_1 rfl rfl rfl (by decide +kernel) ⟨Nat.le_of_ble_eq_true rfl, Nat.le_of_ble_eq_true rfl⟩) ⟨pcW.blind, (pcW.mk hP hD hS hA hG hT [] rfl (by decide))⟩ rfl rfl hlv.1 rfl (lv_room (Nat.le_of_ble_eq_true rfl)) dX11_needLaw_9 ⟨Nat.le_of_ble_eq_true rfl, Nat.le_of_ble_eq_true rfl⟩) hP hD hS hA [] [0, 1] rfl rfl (by decide) (by decide) (fun r1 u1 H locs hw1 hP hD hS => ?_)
  rcases hw1 with ⟨hg1, rfl⟩ | ⟨hg1, rfl⟩
  · exact absurd hg1 (fun q => absurd (Int32.le_trans q.1 q.2) (by decide))
  · have hP : va_P D vwCl [(ko, .inr (11, [.ref (ka 0), .ref (ka 1), .ref (ka 2), .int 0, .int 0, .ref (ka 5), .ref (ka 6), .ref (ka 7), .ref (ka 8), .ref (ka 9), .int 0, .ref (ka 11), .ref (ka 12), .ref (ka 13)])), ((ka 13), .inl (cy 0, 4, .inl (fun _ => 0)))] H := hP
    have hD : va_D A [(ko, .inr (11, [.ref (ka 0), .ref (ka 1), .ref (ka 2), .int 0, .int 0, .ref (ka 5), .ref (ka 6), .ref (ka 7), .ref (ka 8), .ref (ka 9), .int 0, .ref (ka 11), .ref (ka 12), .ref (ka 13)])), ((ka 13), .inl (cy 0, 4, .inl (fun _ => 0)))] := hD
    refine cjx_v (wr := []) (vx_runV (As := [.int 0]) (rest := []) ⟨hx, hb, hml, hown, hts⟩ (c_needElement0 l hl D cy sa ko ka H.size) (cwV 1 hts gg_2 rfl rfl rfl (by decide +kernel) ⟨Nat.le_of_ble_eq_true rfl, Nat.le_of_ble_eq_true rfl⟩) ⟨pcW.blind, (va_recv hG.1 hP (ci := 11) (q0 := 0) rfl rfl), (pcW.mk hP hD hS hA hG hT [0, 1] rfl (by decide))⟩ rfl rfl hlv.1 rfl (lv_room (Nat.le_of_ble_eq_true rfl)) dX11_needLaw_12 ⟨Nat.le_of_ble_eq_true rfl, Nat.le_of_ble_eq_true rfl⟩) hP hD hS hA [0, 1] [] rfl rfl (by decide) (by decide) (fun E ce q9 H locs hp hP hD hS h1 h2 h3 => ?_) (fun u2 H locs hw2 hP hD hS => ?_)
    · obtain ⟨rfl, hg2⟩ := hp
      exact vx_out (fun x h => (hex x h).elim) hlocks h1 h2 h3 (fun t ht hvm => ⟨(), trivial, (by exact ⟨rfl, trivial⟩), hS.F ht⟩) hS.2.2 (Nat.le_of_ble_eq_true rfl) (Nat.le_of_ble_eq_true rfl)
    · exact (hw2).elim
