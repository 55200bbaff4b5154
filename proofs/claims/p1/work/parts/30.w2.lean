theorem dL_car_0 : decode cL_car 0 = .ok (.aload 6, 2) := by decide +kernel
theorem dL_car_11 : decode cL_car 11 = .ok (.invokevirtual 63, 3) := by decide +kernel
theorem dL_car_19 : decode cL_car 19 = .ok (.astore 7, 2) := by decide +kernel
theorem dL_car_2 : decode cL_car 2 = .ok (.iconst 0, 1) := by decide +kernel
theorem dL_car_21 : decode cL_car 21 = .ok (.iconst 1, 1) := by decide +kernel
theorem dL_car_22 : decode cL_car 22 = .ok (.ireturn, 1) := by decide +kernel
theorem dL_car_3 : decode cL_car 3 = .ok (.aload_n 0, 1) := by decide +kernel
theorem dL_car_4 : decode cL_car 4 = .ok (.iload_n 1, 1) := by decide +kernel
theorem dL_car_5 : decode cL_car 5 = .ok (.iload_n 2, 1) := by decide +kernel
theorem dL_car_6 : decode cL_car 6 = .ok (.iload_n 3, 1) := by decide +kernel
theorem dL_car_7 : decode cL_car 7 = .ok (.iload 4, 2) := by decide +kernel
theorem dL_car_9 : decode cL_car 9 = .ok (.iload 5, 2) := by decide +kernel
theorem dL_minutes_0 : decode cL_minutes 0 = .ok (.aload_n 3, 1) := by decide +kernel
theorem dL_minutes_1 : decode cL_minutes 1 = .ok (.iconst 0, 1) := by decide +kernel
theorem dL_minutes_13 : decode cL_minutes 13 = .ok (.astore 4, 2) := by decide +kernel
theorem dL_minutes_15 : decode cL_minutes 15 = .ok (.iconst 1, 1) := by decide +kernel
theorem dL_minutes_16 : decode cL_minutes 16 = .ok (.ireturn, 1) := by decide +kernel
theorem dL_minutes_17 : decode cL_minutes 17 = .ok (.astore 4, 2) := by decide +kernel
theorem dL_minutes_19 : decode cL_minutes 19 = .ok (.iconst 2, 1) := by decide +kernel
theorem dL_minutes_2 : decode cL_minutes 2 = .ok (.aload_n 0, 1) := by decide +kernel
theorem dL_minutes_20 : decode cL_minutes 20 = .ok (.ireturn, 1) := by decide +kernel
theorem dL_minutes_3 : decode cL_minutes 3 = .ok (.iload_n 1, 1) := by decide +kernel
theorem dL_minutes_4 : decode cL_minutes 4 = .ok (.iload_n 2, 1) := by decide +kernel
theorem dL_minutes_5 : decode cL_minutes 5 = .ok (.invokevirtual 48, 3) := by decide +kernel
theorem dL_pass_0 : decode cL_pass 0 = .ok (.aload_n 2, 1) := by decide +kernel
theorem dL_pass_1 : decode cL_pass 1 = .ok (.iconst 0, 1) := by decide +kernel
theorem dL_pass_12 : decode cL_pass 12 = .ok (.astore_n 3, 1) := by decide +kernel
theorem dL_pass_13 : decode cL_pass 13 = .ok (.iconst 1, 1) := by decide +kernel
theorem dL_pass_14 : decode cL_pass 14 = .ok (.ireturn, 1) := by decide +kernel
theorem dL_pass_2 : decode cL_pass 2 = .ok (.aload_n 0, 1) := by decide +kernel
theorem dL_pass_3 : decode cL_pass 3 = .ok (.iload_n 1, 1) := by decide +kernel
theorem dL_pass_4 : decode cL_pass 4 = .ok (.invokevirtual 70, 3) := by decide +kernel
theorem dL_says_0 : decode cL_says 0 = .ok (.aload 10, 2) := by decide +kernel
theorem dL_says_11 : decode cL_says 11 = .ok (.iload 6, 2) := by decide +kernel
theorem dL_says_13 : decode cL_says 13 = .ok (.iload 7, 2) := by decide +kernel
theorem dL_says_15 : decode cL_says 15 = .ok (.iload 8, 2) := by decide +kernel
theorem dL_says_17 : decode cL_says 17 = .ok (.iload 9, 2) := by decide +kernel
theorem dL_says_19 : decode cL_says 19 = .ok (.invokevirtual 59, 3) := by decide +kernel
theorem dL_says_2 : decode cL_says 2 = .ok (.iconst 0, 1) := by decide +kernel
theorem dL_says_27 : decode cL_says 27 = .ok (.astore 11, 2) := by decide +kernel
theorem dL_says_29 : decode cL_says 29 = .ok (.iconst 1, 1) := by decide +kernel
theorem dL_says_3 : decode cL_says 3 = .ok (.aload_n 0, 1) := by decide +kernel
theorem dL_says_30 : decode cL_says 30 = .ok (.ireturn, 1) := by decide +kernel
theorem dL_says_4 : decode cL_says 4 = .ok (.iload_n 1, 1) := by decide +kernel
theorem dL_says_5 : decode cL_says 5 = .ok (.iload_n 2, 1) := by decide +kernel
theorem dL_says_6 : decode cL_says 6 = .ok (.iload_n 3, 1) := by decide +kernel
theorem dL_says_7 : decode cL_says 7 = .ok (.iload 4, 2) := by decide +kernel
theorem dL_says_9 : decode cL_says 9 = .ok (.iload 5, 2) := by decide +kernel
theorem dL_shower_0 : decode cL_shower 0 = .ok (.aload_n 2, 1) := by decide +kernel
theorem dL_shower_1 : decode cL_shower 1 = .ok (.iconst 0, 1) := by decide +kernel
theorem dL_shower_12 : decode cL_shower 12 = .ok (.astore_n 3, 1) := by decide +kernel
theorem dL_shower_13 : decode cL_shower 13 = .ok (.iconst 1, 1) := by decide +kernel
theorem dL_shower_14 : decode cL_shower 14 = .ok (.ireturn, 1) := by decide +kernel
theorem dL_shower_2 : decode cL_shower 2 = .ok (.aload_n 0, 1) := by decide +kernel
theorem dL_shower_3 : decode cL_shower 3 = .ok (.iload_n 1, 1) := by decide +kernel
theorem dL_shower_4 : decode cL_shower 4 = .ok (.invokevirtual 53, 3) := by decide +kernel
theorem dL_sums_0 : decode cL_sums 0 = .ok (.aload_n 2, 1) := by decide +kernel
theorem dL_sums_1 : decode cL_sums 1 = .ok (.iconst 0, 1) := by decide +kernel
theorem dL_sums_12 : decode cL_sums 12 = .ok (.astore_n 3, 1) := by decide +kernel
theorem dL_sums_13 : decode cL_sums 13 = .ok (.iconst 1, 1) := by decide +kernel
theorem dL_sums_14 : decode cL_sums 14 = .ok (.ireturn, 1) := by decide +kernel
theorem dL_sums_15 : decode cL_sums 15 = .ok (.iconst 0, 1) := by decide +kernel
theorem dL_sums_16 : decode cL_sums 16 = .ok (.ireturn, 1) := by decide +kernel
theorem dL_sums_2 : decode cL_sums 2 = .ok (.aload_n 0, 1) := by decide +kernel
theorem dL_sums_3 : decode cL_sums 3 = .ok (.iload_n 1, 1) := by decide +kernel
theorem dL_sums_4 : decode cL_sums 4 = .ok (.invokevirtual 56, 3) := by decide +kernel
theorem dL_sums_7 : decode cL_sums 7 = .ok (.i2l, 1) := by decide +kernel
theorem dL_sums_8 : decode cL_sums 8 = .ok (.lastore, 1) := by decide +kernel
theorem dL_sums_9 : decode cL_sums 9 = .ok (.goto 6, 3) := by decide +kernel
theorem dL_traffic_0 : decode cL_traffic 0 = .ok (.aload 6, 2) := by decide +kernel
theorem dL_traffic_11 : decode cL_traffic 11 = .ok (.invokevirtual 67, 3) := by decide +kernel
theorem dL_traffic_19 : decode cL_traffic 19 = .ok (.astore 7, 2) := by decide +kernel
theorem dL_traffic_2 : decode cL_traffic 2 = .ok (.iconst 0, 1) := by decide +kernel
theorem dL_traffic_21 : decode cL_traffic 21 = .ok (.iconst 1, 1) := by decide +kernel
theorem dL_traffic_22 : decode cL_traffic 22 = .ok (.ireturn, 1) := by decide +kernel
theorem dL_traffic_3 : decode cL_traffic 3 = .ok (.aload_n 0, 1) := by decide +kernel
theorem dL_traffic_4 : decode cL_traffic 4 = .ok (.iload_n 1, 1) := by decide +kernel
theorem dL_traffic_5 : decode cL_traffic 5 = .ok (.iload_n 2, 1) := by decide +kernel
theorem dL_traffic_6 : decode cL_traffic 6 = .ok (.iload_n 3, 1) := by decide +kernel
theorem dL_traffic_7 : decode cL_traffic 7 = .ok (.iload 4, 2) := by decide +kernel
theorem dL_traffic_9 : decode cL_traffic 9 = .ok (.iload 5, 2) := by decide +kernel
def vs_w_minutes : List Cond := .codeWith yL_minutes cL_minutes 5 (some .int) [(0, 10, 13, 13), (0, 10, 17, 51)] :: (([.classLink RL 13 "java/lang/IllegalArgumentException", .classLink RL 51 "java/lang/IllegalStateException"] : List Cond) ++ ((wsV RL 48 RX11 yX11_minutes vs_c_minutes) ++ ([])))
set_option maxHeartbeats 4000000 in
set_option maxRecDepth 100000 in
theorem w_minutes (l : Launch) (hl : l.stackTraces = false) (D : va_G) (cy : Nat → ClassId) (sa : Nat → Nat) (ko : Nat) (ka : Nat → Nat) (p0 p1 : Int32) (ao : Nat) (sz : Nat) : Met l yL_minutes vs_w_minutes ({ frames := 8, cells := 1, slots := 6, locals := 143 }) (va_Pc [.ref ko, .int p0, .int p1, .ref ao] (pcW D cy sa sz [(ko, .inr (11, [.ref (ka 0), .ref (ka 1), .ref (ka 2), .int 0, .int 0, .ref (ka 5), .ref (ka 6), .ref (ka 7), .ref (ka 8), .ref (ka 9), .int 0, .ref (ka 11), .ref (ka 12), .ref (ka 13)])), ((ka 5), .inr (6, [.int 0, .int 0, .ref (ka 21), .ref (ka 22), .int 0, .int 0, .ref (ka 23), .int 0, .ref (ka 24), .int 0, .int 0, .ref (ka 25), .int 0, .ref (ka 26), .int 0, .int 0, .int 0, .int 0, .int 0])), ((ka 13), .inl (cy 0, 4, .inl (fun _ => 0))), (ao, .inl (cy 2, 1, .inr (.inl (fun _ => 0))))])) (va_Qi (fun (r : Int32) (u : SU) => ((¬ ((1 ≤ p0 ∧ p0 ≤ 60) ∧ (0 ≤ p1 ∧ p1 ≤ 20))) ∧ r = 1) ∨ (((1 ≤ p0 ∧ p0 ≤ 60) ∧ (0 ≤ p1 ∧ p1 ≤ 20)) ∧ r = 2)) (fun u t => atW D (va_A [(ko, .inr (11, [.ref (ka 0), .ref (ka 1), .ref (ka 2), .int 0, .int 0, .ref (ka 5), .ref (ka 6), .ref (ka 7), .ref (ka 8), .ref (ka 9), .int 0, .ref (ka 11), .ref (ka 12), .ref (ka 13)])), ((ka 5), .inr (6, [.int 0, .int 0, .ref (ka 21), .ref (ka 22), .int 0, .int 0, .ref (ka 23), .int 0, .ref (ka 24), .int 0, .int 0, .ref (ka 25), .int 0, .ref (ka 26), .int 0, .int 0, .int 0, .int 0, .int 0])), ((ka 13), .inl (cy 0, 4, .inl (fun _ => 0))), (ao, .inl (cy 2, 1, .inr (.inl (fun _ => 0))))] sz) [(ao, .inl (cy 2, 1, .inr (.inl (fun _ => (u.2.1 0 : Int32).toInt64))))] t) (va_A [(ko, .inr (11, [.ref (ka 0), .ref (ka 1), .ref (ka 2), .int 0, .int 0, .ref (ka 5), .ref (ka 6), .ref (ka 7), .ref (ka 8), .ref (ka 9), .int 0, .ref (ka 11), .ref (ka 12), .ref (ka 13)])), ((ka 5), .inr (6, [.int 0, .int 0, .ref (ka 21), .ref (ka 22), .int 0, .int 0, .ref (ka 23), .int 0, .ref (ka 24), .int 0, .int 0, .ref (ka 25), .int 0, .ref (ka 26), .int 0, .int 0, .int 0, .int 0, .int 0])), ((ka 13), .inl (cy 0, 4, .inl (fun _ => 0))), (ao, .inl (cy 2, 1, .inr (.inl (fun _ => 0))))] sz)) 1 6 (va_A [(ko, .inr (11, [.ref (ka 0), .ref (ka 1), .ref (ka 2), .int 0, .int 0, .ref (ka 5), .ref (ka 6), .ref (ka 7), .ref (ka 8), .ref (ka 9), .int 0, .ref (ka 11), .ref (ka 12), .ref (ka 13)])), ((ka 5), .inr (6, [.int 0, .int 0, .ref (ka 21), .ref (ka 22), .int 0, .int 0, .ref (ka 23), .int 0, .ref (ka 24), .int 0, .int 0, .ref (ka 25), .int 0, .ref (ka 26), .int 0, .int 0, .int 0, .int 0, .int 0])), ((ka 13), .inl (cy 0, 4, .inl (fun _ => 0))), (ao, .inl (cy 2, 1, .inr (.inl (fun _ => 0))))] sz) := by
  refine va_MetW (cc := cL_minutes) (maxL := 5) (ret := (some .int)) (by decide) rfl ?_
  intro p e s m args below meth c s₁ B hml hv
  obtain ⟨rfl, hsz, hP, hG, hD0, hT⟩ := hv
  have hx := B.exec
  have hb := B.bytes
  have hr := B.returns
  have hts := atoms_spec (ws := vs_w_minutes) B.pre
  have hown : s.vm.findClass RL = some m.cls := findClass_of_methodNamed B.named
  have hlocks := B.notSynchronized
  subst hsz
  have hD := hD0.self (sz := s.heap.size)
  generalize hAe : va_A [(ko, .inr (11, [.ref (ka 0), .ref (ka 1), .ref (ka 2), .int 0, .int 0, .ref (ka 5), .ref (ka 6), .ref (ka 7), .ref (ka 8), .ref (ka 9), .int 0, .ref (ka 11), .ref (ka 12), .ref (ka 13)])), ((ka 5), .inr (6, [.int 0, .int 0, .ref (ka 21), .ref (ka 22), .int 0, .int 0, .ref (ka 23), .int 0, .ref (ka 24), .int 0, .int 0, .ref (ka 25), .int 0, .ref (ka 26), .int 0, .int 0, .int 0, .int 0, .int 0])), ((ka 13), .inl (cy 0, 4, .inl (fun _ => 0))), (ao, .inl (cy 2, 1, .inr (.inl (fun _ => 0))))] s.heap.size = A at hD hT ⊢
  have hA : ∀ q : Nat, s.heap.size ≤ q → A q := fun q h => by rw [← hAe]; exact Or.inr h
  have hS : va_S A s.heap s.heap [] := va_S.rf
  have hl0 := lv_entry ([.ref ko, .int p0, .int p1, .ref ao]) (n := 5) (Nat.le_of_ble_eq_true rfl)
  rw [lg_entry_eq]
  generalize (lg_sl ([.ref ko, .int p0, .int p1, .ref ao]) ++ List.replicate (5 - (lg_sl ([.ref ko, .int p0, .int p1, .ref ao])).length) Slot.unset).toArray = ls at hl0 ⊢
  have hlv : lv_has ls 5 [(0, .ref ko), (1, .int p0), (2, .int p1), (3, .ref ao)] := hl0
  have gg_0 : GoodIn vs_w_minutes (wsV RL 48 RX11 yX11_minutes vs_c_minutes) := goodIn_sub (fun w h => List.mem_cons_of_mem _ (List.mem_append_right _ (List.mem_append_left _ h))) (by decide +kernel)
  have xc13 := hts (.classLink RL 13 "java/lang/IllegalArgumentException") (List.mem_of_getElem? (i := 1) rfl)
  have xc51 := hts (.classLink RL 51 "java/lang/IllegalStateException") (List.mem_of_getElem? (i := 2) rfl)
  have htab : c.exceptionTable.toList = [(⟨0, 10, 13, 13⟩ : ExceptionTableEntry), (⟨0, 10, 17, 51⟩ : ExceptionTableEntry)] := vx_table (x := yL_minutes) B (hts (.codeWith yL_minutes cL_minutes 5 (some .int) [(0, 10, 13, 13), (0, 10, 17, 51)]) List.mem_cons_self)
  refine lv_aload_n hx hb dL_minutes_0 rfl (lv_at hlv 3 rfl) ?_
  refine lv_iconst (v := 0) hx hb dL_minutes_1 (by decide) ?_
  refine lv_aload_n hx hb dL_minutes_2 rfl (lv_at hlv 0 rfl) ?_
  refine lv_iload_n hx hb dL_minutes_3 rfl (lv_at hlv 1 rfl) ?_
  refine lv_iload_n hx hb dL_minutes_4 rfl (lv_at hlv 2 rfl) ?_
  refine cjx_i (wr := [(ao, .inl (cy 2, 1, .inr (.inl (fun _ => 0))))]) (vx_runV (As := [.int p0, .int p1]) (rest := [.int 0, .ref ao]) ⟨hx, hb, hml, hown, hts⟩ (c_minutes l hl D cy sa ko ka p0 p1 s.heap.size) (cwV 2 hts gg_0 rfl rfl rfl (by decide +kernel) ⟨Nat.le_of_ble_eq_true rfl, Nat.le_of_ble_eq_true rfl⟩) ⟨pcW.blind, (va_recv hG.1 hP (ci := 11) (q0 := 0) rfl rfl), (pcW.mk hP hD hS hA hG hT [0, 1, 2] rfl (by decide))⟩ rfl rfl hlv.1 rfl (lv_room (Nat.le_of_ble_eq_true rfl)) dL_minutes_5 ⟨Nat.le_of_ble_eq_true rfl, Nat.le_of_ble_eq_true rfl⟩) hP hD hS hA [0, 1, 2] [3] rfl rfl (by decide) (by decide) (fun E ce q9 H locs hp hP hD hS h1 h2 h3 => ?_) (fun r1 u1 H locs hw1 hP hD hS => ?_)
  · rcases hp with ⟨rfl, hg1⟩ | ⟨rfl, hg1⟩
    · refine vx_catch (name := "java/lang/IllegalArgumentException") hown [] (⟨0, 10, 13, 13⟩ : ExceptionTableEntry) [(⟨0, 10, 17, 51⟩ : ExceptionTableEntry)] htab (fun z hz => by simp at hz) (by decide) (by decide) xc13 (va_Nw.use rfl (hG.2.2.2.1 _ (List.mem_of_getElem? (i := 2) rfl))) h1 h2 h3 ?_
      refine lv_astore (lv' := [(4, .ref q9), (0, .ref ko), (1, .int p0), (2, .int p1), (3, .ref ao)]) hx hb dL_minutes_13 hlv (by decide) rfl (fun ls hlv => ?_)
      refine lv_iconst (v := 1) hx hb dL_minutes_15 (by decide) ?_
      obtain ⟨hP, hD⟩ := arl 0 (fun _ => (0 : Int32).toInt64) hP hD rfl arl_0
      have hP : va_P D vwCl [(ao, .inl (cy 2, 1, .inr (.inl (fun _ => (0 : Int32).toInt64))))] H := hP
      have hD : va_D A [(ao, .inl (cy 2, 1, .inr (.inl (fun _ => (0 : Int32).toInt64))))] := hD
      refine W.widen (k := 1) (n := 6) (Nat.le_of_ble_eq_true rfl) (Nat.le_of_ble_eq_true rfl) ?_
      exact W.iret (v := 1) hx hb hr (fun t ht hW => ⟨⟨1, ((fun k => ([] : List Nat).getD k 0), (fun k => ([0] : List Int32).getD k 0), (fun k => ([] : List (Nat → Int32)).getD k (fun _ => 0))), rfl, (by first | (left; exact ⟨hg1, by rfl⟩)), by rw [ht]; exact hP.sub [0] rfl, hD.sub [0] (by decide) rfl⟩, hS.F ht⟩) hS.2.2 dL_minutes_16
    · refine vx_catch (name := "java/lang/IllegalStateException") hown [(⟨0, 10, 13, 13⟩ : ExceptionTableEntry)] (⟨0, 10, 17, 51⟩ : ExceptionTableEntry) [] htab (List.forall_mem_cons.mpr ⟨Or.inr ⟨by decide, "java/lang/IllegalArgumentException", xc13, hG.2.2.2.2.1 _ (List.mem_of_getElem? (i := 3) rfl) _ (List.mem_of_getElem? (i := 2) rfl) (by decide)⟩, fun z hz => absurd hz List.not_mem_nil⟩) (by decide) (by decide) xc51 (va_Nw.use rfl (hG.2.2.2.1 _ (List.mem_of_getElem? (i := 3) rfl))) h1 h2 h3 ?_
      refine lv_astore (lv' := [(4, .ref q9), (0, .ref ko), (1, .int p0), (2, .int p1), (3, .ref ao)]) hx hb dL_minutes_17 hlv (by decide) rfl (fun ls hlv => ?_)
      refine lv_iconst (v := 2) hx hb dL_minutes_19 (by decide) ?_
      obtain ⟨hP, hD⟩ := arl 0 (fun _ => (0 : Int32).toInt64) hP hD rfl arl_0
      have hP : va_P D vwCl [(ao, .inl (cy 2, 1, .inr (.inl (fun _ => (0 : Int32).toInt64))))] H := hP
      have hD : va_D A [(ao, .inl (cy 2, 1, .inr (.inl (fun _ => (0 : Int32).toInt64))))] := hD
      refine W.widen (k := 1) (n := 6) (Nat.le_of_ble_eq_true rfl) (Nat.le_of_ble_eq_true rfl) ?_
      exact W.iret (v := 2) hx hb hr (fun t ht hW => ⟨⟨2, ((fun k => ([] : List Nat).getD k 0), (fun k => ([0] : List Int32).getD k 0), (fun k => ([] : List (Nat → Int32)).getD k (fun _ => 0))), rfl, (by first | (right; exact ⟨⟨hg1.1, hg1.2⟩, by rfl⟩)), by rw [ht]; exact hP.sub [0] rfl, hD.sub [0] (by decide) rfl⟩, hS.F ht⟩) hS.2.2 dL_minutes_20
  · exact (hw1).elim
def vs_w_shower : List Cond := .codeWith yL_shower cL_shower 4 (some .int) [(0, 9, 12, 34), (0, 9, 15, 51)] :: (([.classLink RL 34 "java/util/NoSuchElementException", .classLink RL 51 "java/lang/IllegalStateException"] : List Cond) ++ ((wsV RL 53 RX11 yX11_shower vs_c_shower) ++ ([])))
set_option maxHeartbeats 4000000 in
set_option maxRecDepth 100000 in
theorem w_shower (l : Launch) (hl : l.stackTraces = false) (D : va_G) (cy : Nat → ClassId) (sa : Nat → Nat) (ko : Nat) (ka : Nat → Nat) (p0 : Int32) (ao : Nat) (sz : Nat) : Met l yL_shower vs_w_shower ({ frames := 9, cells := 1, slots := 6, locals := 163 }) (va_Pc [.ref ko, .int p0, .ref ao] (pcW D cy sa sz [(ko, .inr (11, [.ref (ka 0), .ref (ka 1), .ref (ka 2), .int 0, .int 0, .ref (ka 5), .ref (ka 6), .ref (ka 7), .ref (ka 8), .ref (ka 9), .int 0, .ref (ka 11), .ref (ka 12), .ref (ka 13)])), ((ka 13), .inl (cy 0, 4, .inl (fun _ => 0))), (ao, .inl (cy 2, 1, .inr (.inl (fun _ => 0))))])) (va_Qi (fun (r : Int32) (u : SU) => (r = 1)) (fun u t => atW D (va_A [(ko, .inr (11, [.ref (ka 0), .ref (ka 1), .ref (ka 2), .int 0, .int 0, .ref (ka 5), .ref (ka 6), .ref (ka 7), .ref (ka 8), .ref (ka 9), .int 0, .ref (ka 11), .ref (ka 12), .ref (ka 13)])), ((ka 13), .inl (cy 0, 4, .inl (fun _ => 0))), (ao, .inl (cy 2, 1, .inr (.inl (fun _ => 0))))] sz) [(ao, .inl (cy 2, 1, .inr (.inl (fun _ => (u.2.1 0 : Int32).toInt64))))] t) (va_A [(ko, .inr (11, [.ref (ka 0), .ref (ka 1), .ref (ka 2), .int 0, .int 0, .ref (ka 5), .ref (ka 6), .ref (ka 7), .ref (ka 8), .ref (ka 9), .int 0, .ref (ka 11), .ref (ka 12), .ref (ka 13)])), ((ka 13), .inl (cy 0, 4, .inl (fun _ => 0))), (ao, .inl (cy 2, 1, .inr (.inl (fun _ => 0))))] sz)) 1 6 (va_A [(ko, .inr (11, [.ref (ka 0), .ref (ka 1), .ref (ka 2), .int 0, .int 0, .ref (ka 5), .ref (ka 6), .ref (ka 7), .ref (ka 8), .ref (ka 9), .int 0, .ref (ka 11), .ref (ka 12), .ref (ka 13)])), ((ka 13), .inl (cy 0, 4, .inl (fun _ => 0))), (ao, .inl (cy 2, 1, .inr (.inl (fun _ => 0))))] sz) := by
  refine va_MetW (cc := cL_shower) (maxL := 4) (ret := (some .int)) (by decide) rfl ?_
  intro p e s m args below meth c s₁ B hml hv
  obtain ⟨rfl, hsz, hP, hG, hD0, hT⟩ := hv
  have hx := B.exec
  have hb := B.bytes
  have hr := B.returns
  have hts := atoms_spec (ws := vs_w_shower) B.pre
  have hown : s.vm.findClass RL = some m.cls := findClass_of_methodNamed B.named
  have hlocks := B.notSynchronized
  subst hsz
  have hD := hD0.self (sz := s.heap.size)
  generalize hAe : va_A [(ko, .inr (11, [.ref (ka 0), .ref (ka 1), .ref (ka 2), .int 0, .int 0, .ref (ka 5), .ref (ka 6), .ref (ka 7), .ref (ka 8), .ref (ka 9), .int 0, .ref (ka 11), .ref (ka 12), .ref (ka 13)])), ((ka 13), .inl (cy 0, 4, .inl (fun _ => 0))), (ao, .inl (cy 2, 1, .inr (.inl (fun _ => 0))))] s.heap.size = A at hD hT ⊢
  have hA : ∀ q : Nat, s.heap.size ≤ q → A q := fun q h => by rw [← hAe]; exact Or.inr h
  have hS : va_S A s.heap s.heap [] := va_S.rf
  have hl0 := lv_entry ([.ref ko, .int p0, .ref ao]) (n := 4) (Nat.le_of_ble_eq_true rfl)
  rw [lg_entry_eq]
  generalize (lg_sl ([.ref ko, .int p0, .ref ao]) ++ List.replicate (4 - (lg_sl ([.ref ko, .int p0, .ref ao])).length) Slot.unset).toArray = ls at hl0 ⊢
  have hlv : lv_has ls 4 [(0, .ref ko), (1, .int p0), (2, .ref ao)] := hl0
  have gg_0 : GoodIn vs_w_shower (wsV RL 53 RX11 yX11_shower vs_c_shower) := goodIn_sub (fun w h => List.mem_cons_of_mem _ (List.mem_append_right _ (List.mem_append_left _ h))) (by decide +kernel)
  have xc34 := hts (.classLink RL 34 "java/util/NoSuchElementException") (List.mem_of_getElem? (i := 1) rfl)
  have xc51 := hts (.classLink RL 51 "java/lang/IllegalStateException") (List.mem_of_getElem? (i := 2) rfl)
  have htab : c.exceptionTable.toList = [(⟨0, 9, 12, 34⟩ : ExceptionTableEntry), (⟨0, 9, 15, 51⟩ : ExceptionTableEntry)] := vx_table (x := yL_shower) B (hts (.codeWith yL_shower cL_shower 4 (some .int) [(0, 9, 12, 34), (0, 9, 15, 51)]) List.mem_cons_self)
  refine lv_aload_n hx hb dL_shower_0 rfl (lv_at hlv 2 rfl) ?_
  refine lv_iconst (v := 0) hx hb dL_shower_1 (by decide) ?_
  refine lv_aload_n hx hb dL_shower_2 rfl (lv_at hlv 0 rfl) ?_
  refine lv_iload_n hx hb dL_shower_3 rfl (lv_at hlv 1 rfl) ?_
  refine cjx_i (wr := [(ao, .inl (cy 2, 1, .inr (.inl (fun _ => 0))))]) (vx_runV (As := [.int p0]) (rest := [.int 0, .ref ao]) ⟨hx, hb, hml, hown, hts⟩ (c_shower l hl D cy sa ko ka p0 s.heap.size) (cwV 1 hts gg_0 rfl rfl rfl (by decide +kernel) ⟨Nat.le_of_ble_eq_true rfl, Nat.le_of_ble_eq_true rfl⟩) ⟨pcW.blind, (va_recv hG.1 hP (ci := 11) (q0 := 0) rfl rfl), (pcW.mk hP hD hS hA hG hT [0, 1] rfl (by decide))⟩ rfl rfl hlv.1 rfl (lv_room (Nat.le_of_ble_eq_true rfl)) dL_shower_4 ⟨Nat.le_of_ble_eq_true rfl, Nat.le_of_ble_eq_true rfl⟩) hP hD hS hA [0, 1] [2] rfl rfl (by decide) (by decide) (fun E ce q9 H locs hp hP hD hS h1 h2 h3 => ?_) (fun r1 u1 H locs hw1 hP hD hS => ?_)
  · obtain ⟨rfl, hg1⟩ := hp
    refine vx_catch (name := "java/util/NoSuchElementException") hown [] (⟨0, 9, 12, 34⟩ : ExceptionTableEntry) [(⟨0, 9, 15, 51⟩ : ExceptionTableEntry)] htab (fun z hz => by simp at hz) (by decide) (by decide) xc34 (va_Nw.use rfl (hG.2.2.2.1 _ (List.mem_of_getElem? (i := 1) rfl))) h1 h2 h3 ?_
    refine lv_astore_n (lv' := [(3, .ref q9), (0, .ref ko), (1, .int p0), (2, .ref ao)]) hx hb dL_shower_12 rfl hlv (by decide) rfl (fun ls hlv => ?_)
    refine lv_iconst (v := 1) hx hb dL_shower_13 (by decide) ?_
    obtain ⟨hP, hD⟩ := arl 0 (fun _ => (0 : Int32).toInt64) hP hD rfl arl_0
    have hP : va_P D vwCl [(ao, .inl (cy 2, 1, .inr (.inl (fun _ => (0 : Int32).toInt64))))] H := hP
    have hD : va_D A [(ao, .inl (cy 2, 1, .inr (.inl (fun _ => (0 : Int32).toInt64))))] := hD
    refine W.widen (k := 1) (n := 6) (Nat.le_of_ble_eq_true rfl) (Nat.le_of_ble_eq_true rfl) ?_
    exact W.iret (v := 1) hx hb hr (fun t ht hW => ⟨⟨1, ((fun k => ([] : List Nat).getD k 0), (fun k => ([0] : List Int32).getD k 0), (fun k => ([] : List (Nat → Int32)).getD k (fun _ => 0))), rfl, (by first | (exact (by rfl))), by rw [ht]; exact hP.sub [0] rfl, hD.sub [0] (by decide) rfl⟩, hS.F ht⟩) hS.2.2 dL_shower_14
  · exact (hw1).elim
def vs_w_sums : List Cond := .codeWith yL_sums cL_sums 4 (some .int) [(0, 9, 12, 13)] :: (([.classLink RL 13 "java/lang/IllegalArgumentException"] : List Cond) ++ ((wsV RL 56 RX11 yX11_sums vs_c_sums) ++ ([])))
set_option maxHeartbeats 4000000 in
set_option maxRecDepth 100000 in
theorem w_sums (l : Launch) (hl : l.stackTraces = false) (D : va_G) (cy : Nat → ClassId) (sa : Nat → Nat) (ko : Nat) (ka : Nat → Nat) (p0 : Int32) (ao : Nat) (sz : Nat) : Met l yL_sums vs_w_sums ({ frames := 8, cells := 1, slots := 6, locals := 142 }) (va_Pc [.ref ko, .int p0, .ref ao] (pcW D cy sa sz [(ko, .inr (11, [.ref (ka 0), .ref (ka 1), .ref (ka 2), .int 0, .int 0, .ref (ka 5), .ref (ka 6), .ref (ka 7), .ref (ka 8), .ref (ka 9), .int 0, .ref (ka 11), .ref (ka 12), .ref (ka 13)])), ((ka 5), .inr (6, [.int 0, .int 0, .ref (ka 21), .ref (ka 22), .int 0, .int 0, .ref (ka 23), .int 0, .ref (ka 24), .int 0, .int 0, .ref (ka 25), .int 0, .ref (ka 26), .int 0, .int 0, .int 0, .int 0, .int 0])), ((ka 13), .inl (cy 0, 4, .inl (fun _ => 0))), (ao, .inl (cy 2, 1, .inr (.inl (fun _ => 0))))])) (va_Qi (fun (r : Int32) (u : SU) => (((0 ≤ p0 ∧ p0 ≤ 3)) ∧ r = 0 ∧ (u.2.1 0) = 0) ∨ ((¬ (0 ≤ p0 ∧ p0 ≤ 3)) ∧ r = 1)) (fun u t => atW D (va_A [(ko, .inr (11, [.ref (ka 0), .ref (ka 1), .ref (ka 2), .int 0, .int 0, .ref (ka 5), .ref (ka 6), .ref (ka 7), .ref (ka 8), .ref (ka 9), .int 0, .ref (ka 11), .ref (ka 12), .ref (ka 13)])), ((ka 5), .inr (6, [.int 0, .int 0, .ref (ka 21), .ref (ka 22), .int 0, .int 0, .ref (ka 23), .int 0, .ref (ka 24), .int 0, .int 0, .ref (ka 25), .int 0, .ref (ka 26), .int 0, .int 0, .int 0, .int 0, .int 0])), ((ka 13), .inl (cy 0, 4, .inl (fun _ => 0))), (ao, .inl (cy 2, 1, .inr (.inl (fun _ => 0))))] sz) [(ao, .inl (cy 2, 1, .inr (.inl (fun _ => (u.2.1 0 : Int32).toInt64))))] t) (va_A [(ko, .inr (11, [.ref (ka 0), .ref (ka 1), .ref (ka 2), .int 0, .int 0, .ref (ka 5), .ref (ka 6), .ref (ka 7), .ref (ka 8), .ref (ka 9), .int 0, .ref (ka 11), .ref (ka 12), .ref (ka 13)])), ((ka 5), .inr (6, [.int 0, .int 0, .ref (ka 21), .ref (ka 22), .int 0, .int 0, .ref (ka 23), .int 0, .ref (ka 24), .int 0, .int 0, .ref (ka 25), .int 0, .ref (ka 26), .int 0, .int 0, .int 0, .int 0, .int 0])), ((ka 13), .inl (cy 0, 4, .inl (fun _ => 0))), (ao, .inl (cy 2, 1, .inr (.inl (fun _ => 0))))] sz)) 1 6 (va_A [(ko, .inr (11, [.ref (ka 0), .ref (ka 1), .ref (ka 2), .int 0, .int 0, .ref (ka 5), .ref (ka 6), .ref (ka 7), .ref (ka 8), .ref (ka 9), .int 0, .ref (ka 11), .ref (ka 12), .ref (ka 13)])), ((ka 5), .inr (6, [.int 0, .int 0, .ref (ka 21), .ref (ka 22), .int 0, .int 0, .ref (ka 23), .int 0, .ref (ka 24), .int 0, .int 0, .ref (ka 25), .int 0, .ref (ka 26), .int 0, .int 0, .int 0, .int 0, .int 0])), ((ka 13), .inl (cy 0, 4, .inl (fun _ => 0))), (ao, .inl (cy 2, 1, .inr (.inl (fun _ => 0))))] sz) := by
  refine va_MetW (cc := cL_sums) (maxL := 4) (ret := (some .int)) (by decide) rfl ?_
  intro p e s m args below meth c s₁ B hml hv
  obtain ⟨rfl, hsz, hP, hG, hD0, hT⟩ := hv
  have hx := B.exec
  have hb := B.bytes
  have hr := B.returns
  have hts := atoms_spec (ws := vs_w_sums) B.pre
  have hown : s.vm.findClass RL = some m.cls := findClass_of_methodNamed B.named
  have hlocks := B.notSynchronized
  subst hsz
  have hD := hD0.self (sz := s.heap.size)
  generalize hAe : va_A [(ko, .inr (11, [.ref (ka 0), .ref (ka 1), .ref (ka 2), .int 0, .int 0, .ref (ka 5), .ref (ka 6), .ref (ka 7), .ref (ka 8), .ref (ka 9), .int 0, .ref (ka 11), .ref (ka 12), .ref (ka 13)])), ((ka 5), .inr (6, [.int 0, .int 0, .ref (ka 21), .ref (ka 22), .int 0, .int 0, .ref (ka 23), .int 0, .ref (ka 24), .int 0, .int 0, .ref (ka 25), .int 0, .ref (ka 26), .int 0, .int 0, .int 0, .int 0, .int 0])), ((ka 13), .inl (cy 0, 4, .inl (fun _ => 0))), (ao, .inl (cy 2, 1, .inr (.inl (fun _ => 0))))] s.heap.size = A at hD hT ⊢
  have hA : ∀ q : Nat, s.heap.size ≤ q → A q := fun q h => by rw [← hAe]; exact Or.inr h
  have hS : va_S A s.heap s.heap [] := va_S.rf
  have hl0 := lv_entry ([.ref ko, .int p0, .ref ao]) (n := 4) (Nat.le_of_ble_eq_true rfl)
  rw [lg_entry_eq]
  generalize (lg_sl ([.ref ko, .int p0, .ref ao]) ++ List.replicate (4 - (lg_sl ([.ref ko, .int p0, .ref ao])).length) Slot.unset).toArray = ls at hl0 ⊢
  have hlv : lv_has ls 4 [(0, .ref ko), (1, .int p0), (2, .ref ao)] := hl0
  have gg_0 : GoodIn vs_w_sums (wsV RL 56 RX11 yX11_sums vs_c_sums) := goodIn_sub (fun w h => List.mem_cons_of_mem _ (List.mem_append_right _ (List.mem_append_left _ h))) (by decide +kernel)
  have xc13 := hts (.classLink RL 13 "java/lang/IllegalArgumentException") (List.mem_of_getElem? (i := 1) rfl)
  have htab : c.exceptionTable.toList = [(⟨0, 9, 12, 13⟩ : ExceptionTableEntry)] := vx_table (x := yL_sums) B (hts (.codeWith yL_sums cL_sums 4 (some .int) [(0, 9, 12, 13)]) List.mem_cons_self)
  refine lv_aload_n hx hb dL_sums_0 rfl (lv_at hlv 2 rfl) ?_
  refine lv_iconst (v := 0) hx hb dL_sums_1 (by decide) ?_
  refine lv_aload_n hx hb dL_sums_2 rfl (lv_at hlv 0 rfl) ?_
  refine lv_iload_n hx hb dL_sums_3 rfl (lv_at hlv 1 rfl) ?_
  refine cjx_i (wr := [(ao, .inl (cy 2, 1, .inr (.inl (fun _ => 0))))]) (vx_runV (As := [.int p0]) (rest := [.int 0, .ref ao]) ⟨hx, hb, hml, hown, hts⟩ (c_sums l hl D cy sa ko ka p0 s.heap.size) (cwV 1 hts gg_0 rfl rfl rfl (by decide +kernel) ⟨Nat.le_of_ble_eq_true rfl, Nat.le_of_ble_eq_true rfl⟩) ⟨pcW.blind, (va_recv hG.1 hP (ci := 11) (q0 := 0) rfl rfl), (pcW.mk hP hD hS hA hG hT [0, 1, 2] rfl (by decide))⟩ rfl rfl hlv.1 rfl (lv_room (Nat.le_of_ble_eq_true rfl)) dL_sums_4 ⟨Nat.le_of_ble_eq_true rfl, Nat.le_of_ble_eq_true rfl⟩) hP hD hS hA [0, 1, 2] [3] rfl rfl (by decide) (by decide) (fun E ce q9 H locs hp hP hD hS h1 h2 h3 => ?_) (fun r1 u1 H locs hw1 hP hD hS => ?_)
  · obtain ⟨rfl, hg1⟩ := hp
    refine vx_catch (name := "java/lang/IllegalArgumentException") hown [] (⟨0, 9, 12, 13⟩ : ExceptionTableEntry) [] htab (fun z hz => by simp at hz) (by decide) (by decide) xc13 (va_Nw.use rfl (hG.2.2.2.1 _ (List.mem_of_getElem? (i := 2) rfl))) h1 h2 h3 ?_
    refine lv_astore_n (lv' := [(3, .ref q9), (0, .ref ko), (1, .int p0), (2, .ref ao)]) hx hb dL_sums_12 rfl hlv (by decide) rfl (fun ls hlv => ?_)
    refine lv_iconst (v := 1) hx hb dL_sums_13 (by decide) ?_
    obtain ⟨hP, hD⟩ := arl 0 (fun _ => (0 : Int32).toInt64) hP hD rfl arl_0
    have hP : va_P D vwCl [(ao, .inl (cy 2, 1, .inr (.inl (fun _ => (0 : Int32).toInt64))))] H := hP
    have hD : va_D A [(ao, .inl (cy 2, 1, .inr (.inl (fun _ => (0 : Int32).toInt64))))] := hD
    refine W.widen (k := 1) (n := 6) (Nat.le_of_ble_eq_true rfl) (Nat.le_of_ble_eq_true rfl) ?_
    exact W.iret (v := 1) hx hb hr (fun t ht hW => ⟨⟨1, ((fun k => ([] : List Nat).getD k 0), (fun k => ([0] : List Int32).getD k 0), (fun k => ([] : List (Nat → Int32)).getD k (fun _ => 0))), rfl, (by first | (right; exact ⟨hg1, by rfl⟩)), by rw [ht]; exact hP.sub [0] rfl, hD.sub [0] (by decide) rfl⟩, hS.F ht⟩) hS.2.2 dL_sums_14
  · obtain ⟨hg1, rfl⟩ := hw1
    have hP : va_P D vwCl [(ao, .inl (cy 2, 1, .inr (.inl (fun _ => 0))))] H := hP
    have hD : va_D A [(ao, .inl (cy 2, 1, .inr (.inl (fun _ => 0))))] := hD
    refine lv_i2l (v := (0 : Int32).toInt64) hx hb dL_sums_7 rfl ?_
    refine va_last hx hb hG.1 hP hD hS 0 2 rfl rfl (vpd (by decide)) dL_sums_8 (fun H locs hP hD hS => ?_)
    have hP : va_P D vwCl [(ao, .inl (cy 2, 1, .inr (.inl (vp_updL (fun _ => 0) 0 (0 : Int32).toInt64))))] H := hP
    have hD : va_D A [(ao, .inl (cy 2, 1, .inr (.inl (vp_updL (fun _ => 0) 0 (0 : Int32).toInt64))))] := hD
    refine lv_goto (tgt := 15) hx hb dL_sums_9 (by decide) ?_
    refine lv_iconst (v := 0) hx hb dL_sums_15 (by decide) ?_
    obtain ⟨hP, hD⟩ := arl 0 (fun _ => (0 : Int32).toInt64) hP hD rfl arl_1
    have hP : va_P D vwCl [(ao, .inl (cy 2, 1, .inr (.inl (fun _ => (0 : Int32).toInt64))))] H := hP
    have hD : va_D A [(ao, .inl (cy 2, 1, .inr (.inl (fun _ => (0 : Int32).toInt64))))] := hD
    refine W.widen (k := 1) (n := 6) (Nat.le_of_ble_eq_true rfl) (Nat.le_of_ble_eq_true rfl) ?_
    exact W.iret (v := 0) hx hb hr (fun t ht hW => ⟨⟨0, ((fun k => ([] : List Nat).getD k 0), (fun k => ([0] : List Int32).getD k 0), (fun k => ([] : List (Nat → Int32)).getD k (fun _ => 0))), rfl, (by first | (left; exact ⟨hg1, by rfl, by rfl⟩)), by rw [ht]; exact hP.sub [0] rfl, hD.sub [0] (by decide) rfl⟩, hS.F ht⟩) hS.2.2 dL_sums_16
def vs_w_says : List Cond := .codeWith yL_says cL_says 12 (some .int) [(0, 24, 27, 34), (0, 24, 31, 13)] :: (([.classLink RL 34 "java/util/NoSuchElementException", .classLink RL 13 "java/lang/IllegalArgumentException"] : List Cond) ++ ((wsV RL 59 RX11 yX11_says vs_c_says) ++ ([])))
set_option maxHeartbeats 4000000 in
set_option maxRecDepth 100000 in
theorem w_says (l : Launch) (hl : l.stackTraces = false) (D : va_G) (cy : Nat → ClassId) (sa : Nat → Nat) (ko : Nat) (ka : Nat → Nat) (p0 p1 p2 p3 p4 p5 p6 p7 p8 : Int32) (ao : Nat) (sz : Nat) : Met l yL_says vs_w_says ({ frames := 9, cells := 1, slots := 6, locals := 172 }) (va_Pc [.ref ko, .int p0, .int p1, .int p2, .int p3, .int p4, .int p5, .int p6, .int p7, .int p8, .ref ao] (pcW D cy sa sz [(ko, .inr (11, [.ref (ka 0), .ref (ka 1), .ref (ka 2), .int 0, .int 0, .ref (ka 5), .ref (ka 6), .ref (ka 7), .ref (ka 8), .ref (ka 9), .int 0, .ref (ka 11), .ref (ka 12), .ref (ka 13)])), ((ka 13), .inl (cy 0, 4, .inl (fun _ => 0))), (ao, .inl (cy 2, 1, .inr (.inl (fun _ => 0))))])) (va_Qi (fun (r : Int32) (u : SU) => (r = 1)) (fun u t => atW D (va_A [(ko, .inr (11, [.ref (ka 0), .ref (ka 1), .ref (ka 2), .int 0, .int 0, .ref (ka 5), .ref (ka 6), .ref (ka 7), .ref (ka 8), .ref (ka 9), .int 0, .ref (ka 11), .ref (ka 12), .ref (ka 13)])), ((ka 13), .inl (cy 0, 4, .inl (fun _ => 0))), (ao, .inl (cy 2, 1, .inr (.inl (fun _ => 0))))] sz) [(ao, .inl (cy 2, 1, .inr (.inl (fun _ => (u.2.1 0 : Int32).toInt64))))] t) (va_A [(ko, .inr (11, [.ref (ka 0), .ref (ka 1), .ref (ka 2), .int 0, .int 0, .ref (ka 5), .ref (ka 6), .ref (ka 7), .ref (ka 8), .ref (ka 9), .int 0, .ref (ka 11), .ref (ka 12), .ref (ka 13)])), ((ka 13), .inl (cy 0, 4, .inl (fun _ => 0))), (ao, .inl (cy 2, 1, .inr (.inl (fun _ => 0))))] sz)) 1 6 (va_A [(ko, .inr (11, [.ref (ka 0), .ref (ka 1), .ref (ka 2), .int 0, .int 0, .ref (ka 5), .ref (ka 6), .ref (ka 7), .ref (ka 8), .ref (ka 9), .int 0, .ref (ka 11), .ref (ka 12), .ref (ka 13)])), ((ka 13), .inl (cy 0, 4, .inl (fun _ => 0))), (ao, .inl (cy 2, 1, .inr (.inl (fun _ => 0))))] sz) := by
  refine va_MetW (cc := cL_says) (maxL := 12) (ret := (some .int)) (by decide) rfl ?_
  intro p e s m args below meth c s₁ B hml hv
  obtain ⟨rfl, hsz, hP, hG, hD0, hT⟩ := hv
  have hx := B.exec
  have hb := B.bytes
  have hr := B.returns
  have hts := atoms_spec (ws := vs_w_says) B.pre
  have hown : s.vm.findClass RL = some m.cls := findClass_of_methodNamed B.named
  have hlocks := B.notSynchronized
  subst hsz
  have hD := hD0.self (sz := s.heap.size)
  generalize hAe : va_A [(ko, .inr (11, [.ref (ka 0), .ref (ka 1), .ref (ka 2), .int 0, .int 0, .ref (ka 5), .ref (ka 6), .ref (ka 7), .ref (ka 8), .ref (ka 9), .int 0, .ref (ka 11), .ref (ka 12), .ref (ka 13)])), ((ka 13), .inl (cy 0, 4, .inl (fun _ => 0))), (ao, .inl (cy 2, 1, .inr (.inl (fun _ => 0))))] s.heap.size = A at hD hT ⊢
  have hA : ∀ q : Nat, s.heap.size ≤ q → A q := fun q h => by rw [← hAe]; exact Or.inr h
  have hS : va_S A s.heap s.heap [] := va_S.rf
  have hl0 := lv_entry ([.ref ko, .int p0, .int p1, .int p2, .int p3, .int p4, .int p5, .int p6, .int p7, .int p8, .ref ao]) (n := 12) (Nat.le_of_ble_eq_true rfl)
  rw [lg_entry_eq]
  generalize (lg_sl ([.ref ko, .int p0, .int p1, .int p2, .int p3, .int p4, .int p5, .int p6, .int p7, .int p8, .ref ao]) ++ List.replicate (12 - (lg_sl ([.ref ko, .int p0, .int p1, .int p2, .int p3, .int p4, .int p5, .int p6, .int p7, .int p8, .ref ao])).length) Slot.unset).toArray = ls at hl0 ⊢
  have hlv : lv_has ls 12 [(0, .ref ko), (1, .int p0), (2, .int p1), (3, .int p2), (4, .int p3), (5, .int p4), (6, .int p5), (7, .int p6), (8, .int p7), (9, .int p8), (10, .ref ao)] := hl0
  have gg_0 : GoodIn vs_w_says (wsV RL 59 RX11 yX11_says vs_c_says) := goodIn_sub (fun w h => List.mem_cons_of_mem _ (List.mem_append_right _ (List.mem_append_left _ h))) (by decide +kernel)
  have xc34 := hts (.classLink RL 34 "java/util/NoSuchElementException") (List.mem_of_getElem? (i := 1) rfl)
  have xc13 := hts (.classLink RL 13 "java/lang/IllegalArgumentException") (List.mem_of_getElem? (i := 2) rfl)
  have htab : c.exceptionTable.toList = [(⟨0, 24, 27, 34⟩ : ExceptionTableEntry), (⟨0, 24, 31, 13⟩ : ExceptionTableEntry)] := vx_table (x := yL_says) B (hts (.codeWith yL_says cL_says 12 (some .int) [(0, 24, 27, 34), (0, 24, 31, 13)]) List.mem_cons_self)
  refine lv_aload hx hb dL_says_0 (lv_at hlv 10 rfl) ?_
  refine lv_iconst (v := 0) hx hb dL_says_2 (by decide) ?_
  refine lv_aload_n hx hb dL_says_3 rfl (lv_at hlv 0 rfl) ?_
  refine lv_iload_n hx hb dL_says_4 rfl (lv_at hlv 1 rfl) ?_
  refine lv_iload_n hx hb dL_says_5 rfl (lv_at hlv 2 rfl) ?_
  refine lv_iload_n hx hb dL_says_6 rfl (lv_at hlv 3 rfl) ?_
  refine lv_iload hx hb dL_says_7 (lv_at hlv 4 rfl) ?_
  refine lv_iload hx hb dL_says_9 (lv_at hlv 5 rfl) ?_
  refine lv_iload hx hb dL_says_11 (lv_at hlv 6 rfl) ?_
  refine lv_iload hx hb dL_says_13 (lv_at hlv 7 rfl) ?_
  refine lv_iload hx hb dL_says_15 (lv_at hlv 8 rfl) ?_
  refine lv_iload hx hb dL_says_17 (lv_at hlv 9 rfl) ?_
  refine cjx_i (wr := [(ao, .inl (cy 2, 1, .inr (.inl (fun _ => 0))))]) (vx_runV (As := [.int p0, .int p1, .int p2, .int p3, .int p4, .int p5, .int p6, .int p7, .int p8]) (rest := [.int 0, .ref ao]) ⟨hx, hb, hml, hown, hts⟩ (c_says l hl D cy sa ko ka p0 p1 p2 p3 p4 p5 p6 p7 p8 s.heap.size) (cwV 9 hts gg_0 rfl rfl rfl (by decide +kernel) ⟨Nat.le_of_ble_eq_true rfl, Nat.le_of_ble_eq_true rfl⟩) ⟨pcW.blind, (va_recv hG.1 hP (ci := 11) (q0 := 0) rfl rfl), (pcW.mk hP hD hS hA hG hT [0, 1] rfl (by decide))⟩ rfl rfl hlv.1 rfl (lv_room (Nat.le_of_ble_eq_true rfl)) dL_says_19 ⟨Nat.le_of_ble_eq_true rfl, Nat.le_of_ble_eq_true rfl⟩) hP hD hS hA [0, 1] [2] rfl rfl (by decide) (by decide) (fun E ce q9 H locs hp hP hD hS h1 h2 h3 => ?_) (fun r1 u1 H locs hw1 hP hD hS => ?_)
  · obtain ⟨rfl, hg1⟩ := hp
    refine vx_catch (name := "java/util/NoSuchElementException") hown [] (⟨0, 24, 27, 34⟩ : ExceptionTableEntry) [(⟨0, 24, 31, 13⟩ : ExceptionTableEntry)] htab (fun z hz => by simp at hz) (by decide) (by decide) xc34 (va_Nw.use rfl (hG.2.2.2.1 _ (List.mem_of_getElem? (i := 1) rfl))) h1 h2 h3 ?_
    refine lv_astore (lv' := [(11, .ref q9), (0, .ref ko), (1, .int p0), (2, .int p1), (3, .int p2), (4, .int p3), (5, .int p4), (6, .int p5), (7, .int p6), (8, .int p7), (9, .int p8), (10, .ref ao)]) hx hb dL_says_27 hlv (by decide) rfl (fun ls hlv => ?_)
    refine lv_iconst (v := 1) hx hb dL_says_29 (by decide) ?_
    obtain ⟨hP, hD⟩ := arl 0 (fun _ => (0 : Int32).toInt64) hP hD rfl arl_0
    have hP : va_P D vwCl [(ao, .inl (cy 2, 1, .inr (.inl (fun _ => (0 : Int32).toInt64))))] H := hP
    have hD : va_D A [(ao, .inl (cy 2, 1, .inr (.inl (fun _ => (0 : Int32).toInt64))))] := hD
    refine W.widen (k := 1) (n := 6) (Nat.le_of_ble_eq_true rfl) (Nat.le_of_ble_eq_true rfl) ?_
    exact W.iret (v := 1) hx hb hr (fun t ht hW => ⟨⟨1, ((fun k => ([] : List Nat).getD k 0), (fun k => ([0] : List Int32).getD k 0), (fun k => ([] : List (Nat → Int32)).getD k (fun _ => 0))), rfl, (by first | (exact (by rfl))), by rw [ht]; exact hP.sub [0] rfl, hD.sub [0] (by decide) rfl⟩, hS.F ht⟩) hS.2.2 dL_says_30
  · exact (hw1).elim
def vs_w_car : List Cond := .codeWith yL_car cL_car 8 (some .int) [(0, 16, 19, 34), (0, 16, 23, 13), (0, 16, 27, 51)] :: (([.classLink RL 34 "java/util/NoSuchElementException", .classLink RL 13 "java/lang/IllegalArgumentException", .classLink RL 51 "java/lang/IllegalStateException"] : List Cond) ++ ((wsV RL 63 RX11 yX11_car vs_c_car) ++ ([])))
set_option maxHeartbeats 4000000 in
set_option maxRecDepth 100000 in
theorem w_car (l : Launch) (hl : l.stackTraces = false) (D : va_G) (cy : Nat → ClassId) (sa : Nat → Nat) (ko : Nat) (ka : Nat → Nat) (p0 p1 p2 p3 p4 : Int32) (ao : Nat) (sz : Nat) : Met l yL_car vs_w_car ({ frames := 9, cells := 1, slots := 6, locals := 167 }) (va_Pc [.ref ko, .int p0, .int p1, .int p2, .int p3, .int p4, .ref ao] (pcW D cy sa sz [(ko, .inr (11, [.ref (ka 0), .ref (ka 1), .ref (ka 2), .int 0, .int 0, .ref (ka 5), .ref (ka 6), .ref (ka 7), .ref (ka 8), .ref (ka 9), .int 0, .ref (ka 11), .ref (ka 12), .ref (ka 13)])), ((ka 13), .inl (cy 0, 4, .inl (fun _ => 0))), (ao, .inl (cy 2, 1, .inr (.inl (fun _ => 0))))])) (va_Qi (fun (r : Int32) (u : SU) => (r = 1)) (fun u t => atW D (va_A [(ko, .inr (11, [.ref (ka 0), .ref (ka 1), .ref (ka 2), .int 0, .int 0, .ref (ka 5), .ref (ka 6), .ref (ka 7), .ref (ka 8), .ref (ka 9), .int 0, .ref (ka 11), .ref (ka 12), .ref (ka 13)])), ((ka 13), .inl (cy 0, 4, .inl (fun _ => 0))), (ao, .inl (cy 2, 1, .inr (.inl (fun _ => 0))))] sz) [(ao, .inl (cy 2, 1, .inr (.inl (fun _ => (u.2.1 0 : Int32).toInt64))))] t) (va_A [(ko, .inr (11, [.ref (ka 0), .ref (ka 1), .ref (ka 2), .int 0, .int 0, .ref (ka 5), .ref (ka 6), .ref (ka 7), .ref (ka 8), .ref (ka 9), .int 0, .ref (ka 11), .ref (ka 12), .ref (ka 13)])), ((ka 13), .inl (cy 0, 4, .inl (fun _ => 0))), (ao, .inl (cy 2, 1, .inr (.inl (fun _ => 0))))] sz)) 1 6 (va_A [(ko, .inr (11, [.ref (ka 0), .ref (ka 1), .ref (ka 2), .int 0, .int 0, .ref (ka 5), .ref (ka 6), .ref (ka 7), .ref (ka 8), .ref (ka 9), .int 0, .ref (ka 11), .ref (ka 12), .ref (ka 13)])), ((ka 13), .inl (cy 0, 4, .inl (fun _ => 0))), (ao, .inl (cy 2, 1, .inr (.inl (fun _ => 0))))] sz) := by
  refine va_MetW (cc := cL_car) (maxL := 8) (ret := (some .int)) (by decide) rfl ?_
  intro p e s m args below meth c s₁ B hml hv
  obtain ⟨rfl, hsz, hP, hG, hD0, hT⟩ := hv
  have hx := B.exec
  have hb := B.bytes
  have hr := B.returns
  have hts := atoms_spec (ws := vs_w_car) B.pre
  have hown : s.vm.findClass RL = some m.cls := findClass_of_methodNamed B.named
  have hlocks := B.notSynchronized
  subst hsz
  have hD := hD0.self (sz := s.heap.size)
  generalize hAe : va_A [(ko, .inr (11, [.ref (ka 0), .ref (ka 1), .ref (ka 2), .int 0, .int 0, .ref (ka 5), .ref (ka 6), .ref (ka 7), .ref (ka 8), .ref (ka 9), .int 0, .ref (ka 11), .ref (ka 12), .ref (ka 13)])), ((ka 13), .inl (cy 0, 4, .inl (fun _ => 0))), (ao, .inl (cy 2, 1, .inr (.inl (fun _ => 0))))] s.heap.size = A at hD hT ⊢
  have hA : ∀ q : Nat, s.heap.size ≤ q → A q := fun q h => by rw [← hAe]; exact Or.inr h
  have hS : va_S A s.heap s.heap [] := va_S.rf
  have hl0 := lv_entry ([.ref ko, .int p0, .int p1, .int p2, .int p3, .int p4, .ref ao]) (n := 8) (Nat.le_of_ble_eq_true rfl)
  rw [lg_entry_eq]
  generalize (lg_sl ([.ref ko, .int p0, .int p1, .int p2, .int p3, .int p4, .ref ao]) ++ List.replicate (8 - (lg_sl ([.ref ko, .int p0, .int p1, .int p2, .int p3, .int p4, .ref ao])).length) Slot.unset).toArray = ls at hl0 ⊢
  have hlv : lv_has ls 8 [(0, .ref ko), (1, .int p0), (2, .int p1), (3, .int p2), (4, .int p3), (5, .int p4), (6, .ref ao)] := hl0
  have gg_0 : GoodIn vs_w_car (wsV RL 63 RX11 yX11_car vs_c_car) := goodIn_sub (fun w h => List.mem_cons_of_mem _ (List.mem_append_right _ (List.mem_append_left _ h))) (by decide +kernel)
  have xc34 := hts (.classLink RL 34 "java/util/NoSuchElementException") (List.mem_of_getElem? (i := 1) rfl)
  have xc13 := hts (.classLink RL 13 "java/lang/IllegalArgumentException") (List.mem_of_getElem? (i := 2) rfl)
  have xc51 := hts (.classLink RL 51 "java/lang/IllegalStateException") (List.mem_of_getElem? (i := 3) rfl)
  have htab : c.exceptionTable.toList = [(⟨0, 16, 19, 34⟩ : ExceptionTableEntry), (⟨0, 16, 23, 13⟩ : ExceptionTableEntry), (⟨0, 16, 27, 51⟩ : ExceptionTableEntry)] := vx_table (x := yL_car) B (hts (.codeWith yL_car cL_car 8 (some .int) [(0, 16, 19, 34), (0, 16, 23, 13), (0, 16, 27, 51)]) List.mem_cons_self)
  refine lv_aload hx hb dL_car_0 (lv_at hlv 6 rfl) ?_
  refine lv_iconst (v := 0) hx hb dL_car_2 (by decide) ?_
  refine lv_aload_n hx hb dL_car_3 rfl (lv_at hlv 0 rfl) ?_
  refine lv_iload_n hx hb dL_car_4 rfl (lv_at hlv 1 rfl) ?_
  refine lv_iload_n hx hb dL_car_5 rfl (lv_at hlv 2 rfl) ?_
  refine lv_iload_n hx hb dL_car_6 rfl (lv_at hlv 3 rfl) ?_
  refine lv_iload hx hb dL_car_7 (lv_at hlv 4 rfl) ?_
  refine lv_iload hx hb dL_car_9 (lv_at hlv 5 rfl) ?_
  refine cjx_i (wr := [(ao, .inl (cy 2, 1, .inr (.inl (fun _ => 0))))]) (vx_runV (As := [.int p0, .int p1, .int p2, .int p3, .int p4]) (rest := [.int 0, .ref ao]) ⟨hx, hb, hml, hown, hts⟩ (c_car l hl D cy sa ko ka p0 p1 p2 p3 p4 s.heap.size) (cwV 5 hts gg_0 rfl rfl rfl (by decide +kernel) ⟨Nat.le_of_ble_eq_true rfl, Nat.le_of_ble_eq_true rfl⟩) ⟨pcW.blind, (va_recv hG.1 hP (ci := 11) (q0 := 0) rfl rfl), (pcW.mk hP hD hS hA hG hT [0, 1] rfl (by decide))⟩ rfl rfl hlv.1 rfl (lv_room (Nat.le_of_ble_eq_true rfl)) dL_car_11 ⟨Nat.le_of_ble_eq_true rfl, Nat.le_of_ble_eq_true rfl⟩) hP hD hS hA [0, 1] [2] rfl rfl (by decide) (by decide) (fun E ce q9 H locs hp hP hD hS h1 h2 h3 => ?_) (fun r1 u1 H locs hw1 hP hD hS => ?_)
  · obtain ⟨rfl, hg1⟩ := hp
    refine vx_catch (name := "java/util/NoSuchElementException") hown [] (⟨0, 16, 19, 34⟩ : ExceptionTableEntry) [(⟨0, 16, 23, 13⟩ : ExceptionTableEntry), (⟨0, 16, 27, 51⟩ : ExceptionTableEntry)] htab (fun z hz => by simp at hz) (by decide) (by decide) xc34 (va_Nw.use rfl (hG.2.2.2.1 _ (List.mem_of_getElem? (i := 1) rfl))) h1 h2 h3 ?_
    refine lv_astore (lv' := [(7, .ref q9), (0, .ref ko), (1, .int p0), (2, .int p1), (3, .int p2), (4, .int p3), (5, .int p4), (6, .ref ao)]) hx hb dL_car_19 hlv (by decide) rfl (fun ls hlv => ?_)
    refine lv_iconst (v := 1) hx hb dL_car_21 (by decide) ?_
    obtain ⟨hP, hD⟩ := arl 0 (fun _ => (0 : Int32).toInt64) hP hD rfl arl_0
    have hP : va_P D vwCl [(ao, .inl (cy 2, 1, .inr (.inl (fun _ => (0 : Int32).toInt64))))] H := hP
    have hD : va_D A [(ao, .inl (cy 2, 1, .inr (.inl (fun _ => (0 : Int32).toInt64))))] := hD
    refine W.widen (k := 1) (n := 6) (Nat.le_of_ble_eq_true rfl) (Nat.le_of_ble_eq_true rfl) ?_
    exact W.iret (v := 1) hx hb hr (fun t ht hW => ⟨⟨1, ((fun k => ([] : List Nat).getD k 0), (fun k => ([0] : List Int32).getD k 0), (fun k => ([] : List (Nat → Int32)).getD k (fun _ => 0))), rfl, (by first | (exact (by rfl))), by rw [ht]; exact hP.sub [0] rfl, hD.sub [0] (by decide) rfl⟩, hS.F ht⟩) hS.2.2 dL_car_22
  · exact (hw1).elim
def vs_w_traffic : List Cond := .codeWith yL_traffic cL_traffic 8 (some .int) [(0, 16, 19, 13)] :: (([.classLink RL 13 "java/lang/IllegalArgumentException"] : List Cond) ++ ((wsV RL 67 RX11 yX11_traffic vs_c_traffic) ++ ([])))
set_option maxHeartbeats 4000000 in
set_option maxRecDepth 100000 in
theorem w_traffic (l : Launch) (hl : l.stackTraces = false) (D : va_G) (cy : Nat → ClassId) (sa : Nat → Nat) (ko : Nat) (ka : Nat → Nat) (p0 p1 p2 p3 p4 : Int32) (ao : Nat) (sz : Nat) : Met l yL_traffic vs_w_traffic ({ frames := 8, cells := 1, slots := 6, locals := 146 }) (va_Pc [.ref ko, .int p0, .int p1, .int p2, .int p3, .int p4, .ref ao] (pcW D cy sa sz [(ko, .inr (11, [.ref (ka 0), .ref (ka 1), .ref (ka 2), .int 0, .int 0, .ref (ka 5), .ref (ka 6), .ref (ka 7), .ref (ka 8), .ref (ka 9), .int 0, .ref (ka 11), .ref (ka 12), .ref (ka 13)])), ((ka 5), .inr (6, [.int 0, .int 0, .ref (ka 21), .ref (ka 22), .int 0, .int 0, .ref (ka 23), .int 0, .ref (ka 24), .int 0, .int 0, .ref (ka 25), .int 0, .ref (ka 26), .int 0, .int 0, .int 0, .int 0, .int 0])), ((ka 13), .inl (cy 0, 4, .inl (fun _ => 0))), (ao, .inl (cy 2, 1, .inr (.inl (fun _ => 0))))])) (va_Qi (fun (r : Int32) (u : SU) => (r = 1)) (fun u t => atW D (va_A [(ko, .inr (11, [.ref (ka 0), .ref (ka 1), .ref (ka 2), .int 0, .int 0, .ref (ka 5), .ref (ka 6), .ref (ka 7), .ref (ka 8), .ref (ka 9), .int 0, .ref (ka 11), .ref (ka 12), .ref (ka 13)])), ((ka 5), .inr (6, [.int 0, .int 0, .ref (ka 21), .ref (ka 22), .int 0, .int 0, .ref (ka 23), .int 0, .ref (ka 24), .int 0, .int 0, .ref (ka 25), .int 0, .ref (ka 26), .int 0, .int 0, .int 0, .int 0, .int 0])), ((ka 13), .inl (cy 0, 4, .inl (fun _ => 0))), (ao, .inl (cy 2, 1, .inr (.inl (fun _ => 0))))] sz) [(ao, .inl (cy 2, 1, .inr (.inl (fun _ => (u.2.1 0 : Int32).toInt64))))] t) (va_A [(ko, .inr (11, [.ref (ka 0), .ref (ka 1), .ref (ka 2), .int 0, .int 0, .ref (ka 5), .ref (ka 6), .ref (ka 7), .ref (ka 8), .ref (ka 9), .int 0, .ref (ka 11), .ref (ka 12), .ref (ka 13)])), ((ka 5), .inr (6, [.int 0, .int 0, .ref (ka 21), .ref (ka 22), .int 0, .int 0, .ref (ka 23), .int 0, .ref (ka 24), .int 0, .int 0, .ref (ka 25), .int 0, .ref (ka 26), .int 0, .int 0, .int 0, .int 0, .int 0])), ((ka 13), .inl (cy 0, 4, .inl (fun _ => 0))), (ao, .inl (cy 2, 1, .inr (.inl (fun _ => 0))))] sz)) 1 6 (va_A [(ko, .inr (11, [.ref (ka 0), .ref (ka 1), .ref (ka 2), .int 0, .int 0, .ref (ka 5), .ref (ka 6), .ref (ka 7), .ref (ka 8), .ref (ka 9), .int 0, .ref (ka 11), .ref (ka 12), .ref (ka 13)])), ((ka 5), .inr (6, [.int 0, .int 0, .ref (ka 21), .ref (ka 22), .int 0, .int 0, .ref (ka 23), .int 0, .ref (ka 24), .int 0, .int 0, .ref (ka 25), .int 0, .ref (ka 26), .int 0, .int 0, .int 0, .int 0, .int 0])), ((ka 13), .inl (cy 0, 4, .inl (fun _ => 0))), (ao, .inl (cy 2, 1, .inr (.inl (fun _ => 0))))] sz) := by
  refine va_MetW (cc := cL_traffic) (maxL := 8) (ret := (some .int)) (by decide) rfl ?_
  intro p e s m args below meth c s₁ B hml hv
  obtain ⟨rfl, hsz, hP, hG, hD0, hT⟩ := hv
  have hx := B.exec
  have hb := B.bytes
  have hr := B.returns
  have hts := atoms_spec (ws := vs_w_traffic) B.pre
  have hown : s.vm.findClass RL = some m.cls := findClass_of_methodNamed B.named
  have hlocks := B.notSynchronized
  subst hsz
  have hD := hD0.self (sz := s.heap.size)
  generalize hAe : va_A [(ko, .inr (11, [.ref (ka 0), .ref (ka 1), .ref (ka 2), .int 0, .int 0, .ref (ka 5), .ref (ka 6), .ref (ka 7), .ref (ka 8), .ref (ka 9), .int 0, .ref (ka 11), .ref (ka 12), .ref (ka 13)])), ((ka 5), .inr (6, [.int 0, .int 0, .ref (ka 21), .ref (ka 22), .int 0, .int 0, .ref (ka 23), .int 0, .ref (ka 24), .int 0, .int 0, .ref (ka 25), .int 0, .ref (ka 26), .int 0, .int 0, .int 0, .int 0, .int 0])), ((ka 13), .inl (cy 0, 4, .inl (fun _ => 0))), (ao, .inl (cy 2, 1, .inr (.inl (fun _ => 0))))] s.heap.size = A at hD hT ⊢
  have hA : ∀ q : Nat, s.heap.size ≤ q → A q := fun q h => by rw [← hAe]; exact Or.inr h
  have hS : va_S A s.heap s.heap [] := va_S.rf
  have hl0 := lv_entry ([.ref ko, .int p0, .int p1, .int p2, .int p3, .int p4, .ref ao]) (n := 8) (Nat.le_of_ble_eq_true rfl)
  rw [lg_entry_eq]
  generalize (lg_sl ([.ref ko, .int p0, .int p1, .int p2, .int p3, .int p4, .ref ao]) ++ List.replicate (8 - (lg_sl ([.ref ko, .int p0, .int p1, .int p2, .int p3, .int p4, .ref ao])).length) Slot.unset).toArray = ls at hl0 ⊢
  have hlv : lv_has ls 8 [(0, .ref ko), (1, .int p0), (2, .int p1), (3, .int p2), (4, .int p3), (5, .int p4), (6, .ref ao)] := hl0
  have gg_0 : GoodIn vs_w_traffic (wsV RL 67 RX11 yX11_traffic vs_c_traffic) := goodIn_sub (fun w h => List.mem_cons_of_mem _ (List.mem_append_right _ (List.mem_append_left _ h))) (by decide +kernel)
  have xc13 := hts (.classLink RL 13 "java/lang/IllegalArgumentException") (List.mem_of_getElem? (i := 1) rfl)
  have htab : c.exceptionTable.toList = [(⟨0, 16, 19, 13⟩ : ExceptionTableEntry)] := vx_table (x := yL_traffic) B (hts (.codeWith yL_traffic cL_traffic 8 (some .int) [(0, 16, 19, 13)]) List.mem_cons_self)
  refine lv_aload hx hb dL_traffic_0 (lv_at hlv 6 rfl) ?_
  refine lv_iconst (v := 0) hx hb dL_traffic_2 (by decide) ?_
  refine lv_aload_n hx hb dL_traffic_3 rfl (lv_at hlv 0 rfl) ?_
  refine lv_iload_n hx hb dL_traffic_4 rfl (lv_at hlv 1 rfl) ?_
  refine lv_iload_n hx hb dL_traffic_5 rfl (lv_at hlv 2 rfl) ?_
  refine lv_iload_n hx hb dL_traffic_6 rfl (lv_at hlv 3 rfl) ?_
  refine lv_iload hx hb dL_traffic_7 (lv_at hlv 4 rfl) ?_
  refine lv_iload hx hb dL_traffic_9 (lv_at hlv 5 rfl) ?_
  refine cjx_i (wr := [(ao, .inl (cy 2, 1, .inr (.inl (fun _ => 0))))]) (vx_runV (As := [.int p0, .int p1, .int p2, .int p3, .int p4]) (rest := [.int 0, .ref ao]) ⟨hx, hb, hml, hown, hts⟩ (c_traffic l hl D cy sa ko ka p0 p1 p2 p3 p4 s.heap.size) (cwV 5 hts gg_0 rfl rfl rfl (by decide +kernel) ⟨Nat.le_of_ble_eq_true rfl, Nat.le_of_ble_eq_true rfl⟩) ⟨pcW.blind, (va_recv hG.1 hP (ci := 11) (q0 := 0) rfl rfl), (pcW.mk hP hD hS hA hG hT [0, 1, 2] rfl (by decide))⟩ rfl rfl hlv.1 rfl (lv_room (Nat.le_of_ble_eq_true rfl)) dL_traffic_11 ⟨Nat.le_of_ble_eq_true rfl, Nat.le_of_ble_eq_true rfl⟩) hP hD hS hA [0, 1, 2] [3] rfl rfl (by decide) (by decide) (fun E ce q9 H locs hp hP hD hS h1 h2 h3 => ?_) (fun r1 u1 H locs hw1 hP hD hS => ?_)
  · obtain ⟨rfl, hg1⟩ := hp
    refine vx_catch (name := "java/lang/IllegalArgumentException") hown [] (⟨0, 16, 19, 13⟩ : ExceptionTableEntry) [] htab (fun z hz => by simp at hz) (by decide) (by decide) xc13 (va_Nw.use rfl (hG.2.2.2.1 _ (List.mem_of_getElem? (i := 2) rfl))) h1 h2 h3 ?_
    refine lv_astore (lv' := [(7, .ref q9), (0, .ref ko), (1, .int p0), (2, .int p1), (3, .int p2), (4, .int p3), (5, .int p4), (6, .ref ao)]) hx hb dL_traffic_19 hlv (by decide) rfl (fun ls hlv => ?_)
    refine lv_iconst (v := 1) hx hb dL_traffic_21 (by decide) ?_
    obtain ⟨hP, hD⟩ := arl 0 (fun _ => (0 : Int32).toInt64) hP hD rfl arl_0
    have hP : va_P D vwCl [(ao, .inl (cy 2, 1, .inr (.inl (fun _ => (0 : Int32).toInt64))))] H := hP
    have hD : va_D A [(ao, .inl (cy 2, 1, .inr (.inl (fun _ => (0 : Int32).toInt64))))] := hD
    refine W.widen (k := 1) (n := 6) (Nat.le_of_ble_eq_true rfl) (Nat.le_of_ble_eq_true rfl) ?_
    exact W.iret (v := 1) hx hb hr (fun t ht hW => ⟨⟨1, ((fun k => ([] : List Nat).getD k 0), (fun k => ([0] : List Int32).getD k 0), (fun k => ([] : List (Nat → Int32)).getD k (fun _ => 0))), rfl, (by first | (exact (by rfl))), by rw [ht]; exact hP.sub [0] rfl, hD.sub [0] (by decide) rfl⟩, hS.F ht⟩) hS.2.2 dL_traffic_22
  · exact (hw1).elim
def vs_w_pass : List Cond := .codeWith yL_pass cL_pass 4 (some .int) [(0, 9, 12, 34), (0, 9, 15, 51)] :: (([.classLink RL 34 "java/util/NoSuchElementException", .classLink RL 51 "java/lang/IllegalStateException"] : List Cond) ++ ((wsV RL 70 RX11 yX11_pass vs_c_pass) ++ ([])))
set_option maxHeartbeats 4000000 in
set_option maxRecDepth 100000 in
theorem w_pass (l : Launch) (hl : l.stackTraces = false) (D : va_G) (cy : Nat → ClassId) (sa : Nat → Nat) (ko : Nat) (ka : Nat → Nat) (p0 : Int32) (ao : Nat) (sz : Nat) : Met l yL_pass vs_w_pass ({ frames := 9, cells := 1, slots := 6, locals := 163 }) (va_Pc [.ref ko, .int p0, .ref ao] (pcW D cy sa sz [(ko, .inr (11, [.ref (ka 0), .ref (ka 1), .ref (ka 2), .int 0, .int 0, .ref (ka 5), .ref (ka 6), .ref (ka 7), .ref (ka 8), .ref (ka 9), .int 0, .ref (ka 11), .ref (ka 12), .ref (ka 13)])), ((ka 13), .inl (cy 0, 4, .inl (fun _ => 0))), (ao, .inl (cy 2, 1, .inr (.inl (fun _ => 0))))])) (va_Qi (fun (r : Int32) (u : SU) => (r = 1)) (fun u t => atW D (va_A [(ko, .inr (11, [.ref (ka 0), .ref (ka 1), .ref (ka 2), .int 0, .int 0, .ref (ka 5), .ref (ka 6), .ref (ka 7), .ref (ka 8), .ref (ka 9), .int 0, .ref (ka 11), .ref (ka 12), .ref (ka 13)])), ((ka 13), .inl (cy 0, 4, .inl (fun _ => 0))), (ao, .inl (cy 2, 1, .inr (.inl (fun _ => 0))))] sz) [(ao, .inl (cy 2, 1, .inr (.inl (fun _ => (u.2.1 0 : Int32).toInt64))))] t) (va_A [(ko, .inr (11, [.ref (ka 0), .ref (ka 1), .ref (ka 2), .int 0, .int 0, .ref (ka 5), .ref (ka 6), .ref (ka 7), .ref (ka 8), .ref (ka 9), .int 0, .ref (ka 11), .ref (ka 12), .ref (ka 13)])), ((ka 13), .inl (cy 0, 4, .inl (fun _ => 0))), (ao, .inl (cy 2, 1, .inr (.inl (fun _ => 0))))] sz)) 1 6 (va_A [(ko, .inr (11, [.ref (ka 0), .ref (ka 1), .ref (ka 2), .int 0, .int 0, .ref (ka 5), .ref (ka 6), .ref (ka 7), .ref (ka 8), .ref (ka 9), .int 0, .ref (ka 11), .ref (ka 12), .ref (ka 13)])), ((ka 13), .inl (cy 0, 4, .inl (fun _ => 0))), (ao, .inl (cy 2, 1, .inr (.inl (fun _ => 0))))] sz) := by
  refine va_MetW (cc := cL_pass) (maxL := 4) (ret := (some .int)) (by decide) rfl ?_
  intro p e s m args below meth c s₁ B hml hv
  obtain ⟨rfl, hsz, hP, hG, hD0, hT⟩ := hv
  have hx := B.exec
  have hb := B.bytes
  have hr := B.returns
  have hts := atoms_spec (ws := vs_w_pass) B.pre
  have hown : s.vm.findClass RL = some m.cls := findClass_of_methodNamed B.named
  have hlocks := B.notSynchronized
  subst hsz
  have hD := hD0.self (sz := s.heap.size)
  generalize hAe : va_A [(ko, .inr (11, [.ref (ka 0), .ref (ka 1), .ref (ka 2), .int 0, .int 0, .ref (ka 5), .ref (ka 6), .ref (ka 7), .ref (ka 8), .ref (ka 9), .int 0, .ref (ka 11), .ref (ka 12), .ref (ka 13)])), ((ka 13), .inl (cy 0, 4, .inl (fun _ => 0))), (ao, .inl (cy 2, 1, .inr (.inl (fun _ => 0))))] s.heap.size = A at hD hT ⊢
  have hA : ∀ q : Nat, s.heap.size ≤ q → A q := fun q h => by rw [← hAe]; exact Or.inr h
  have hS : va_S A s.heap s.heap [] := va_S.rf
  have hl0 := lv_entry ([.ref ko, .int p0, .ref ao]) (n := 4) (Nat.le_of_ble_eq_true rfl)
  rw [lg_entry_eq]
  generalize (lg_sl ([.ref ko, .int p0, .ref ao]) ++ List.replicate (4 - (lg_sl ([.ref ko, .int p0, .ref ao])).length) Slot.unset).toArray = ls at hl0 ⊢
  have hlv : lv_has ls 4 [(0, .ref ko), (1, .int p0), (2, .ref ao)] := hl0
  have gg_0 : GoodIn vs_w_pass (wsV RL 70 RX11 yX11_pass vs_c_pass) := goodIn_sub (fun w h => List.mem_cons_of_mem _ (List.mem_append_right _ (List.mem_append_left _ h))) (by decide +kernel)
  have xc34 := hts (.classLink RL 34 "java/util/NoSuchElementException") (List.mem_of_getElem? (i := 1) rfl)
  have xc51 := hts (.classLink RL 51 "java/lang/IllegalStateException") (List.mem_of_getElem? (i := 2) rfl)
  have htab : c.exceptionTable.toList = [(⟨0, 9, 12, 34⟩ : ExceptionTableEntry), (⟨0, 9, 15, 51⟩ : ExceptionTableEntry)] := vx_table (x := yL_pass) B (hts (.codeWith yL_pass cL_pass 4 (some .int) [(0, 9, 12, 34), (0, 9, 15, 51)]) List.mem_cons_self)
  refine lv_aload_n hx hb dL_pass_0 rfl (lv_at hlv 2 rfl) ?_
  refine lv_iconst (v := 0) hx hb dL_pass_1 (by decide) ?_
  refine lv_aload_n hx hb dL_pass_2 rfl (lv_at hlv 0 rfl) ?_
  refine lv_iload_n hx hb dL_pass_3 rfl (lv_at hlv 1 rfl) ?_
  refine cjx_i (wr := [(ao, .inl (cy 2, 1, .inr (.inl (fun _ => 0))))]) (vx_runV (As := [.int p0]) (rest := [.int 0, .ref ao]) ⟨hx, hb, hml, hown, hts⟩ (c_pass l hl D cy sa ko ka p0 s.heap.size) (cwV 1 hts gg_0 rfl rfl rfl (by decide +kernel) ⟨Nat.le_of_ble_eq_true rfl, Nat.le_of_ble_eq_true rfl⟩) ⟨pcW.blind, (va_recv hG.1 hP (ci := 11) (q0 := 0) rfl rfl), (pcW.mk hP hD hS hA hG hT [0, 1] rfl (by decide))⟩ rfl rfl hlv.1 rfl (lv_room (Nat.le_of_ble_eq_true rfl)) dL_pass_4 ⟨Nat.le_of_ble_eq_true rfl, Nat.le_of_ble_eq_true rfl⟩) hP hD hS hA [0, 1] [2] rfl rfl (by decide) (by decide) (fun E ce q9 H locs hp hP hD hS h1 h2 h3 => ?_) (fun r1 u1 H locs hw1 hP hD hS => ?_)
  · obtain ⟨rfl, hg1⟩ := hp
    refine vx_catch (name := "java/util/NoSuchElementException") hown [] (⟨0, 9, 12, 34⟩ : ExceptionTableEntry) [(⟨0, 9, 15, 51⟩ : ExceptionTableEntry)] htab (fun z hz => by simp at hz) (by decide) (by decide) xc34 (va_Nw.use rfl (hG.2.2.2.1 _ (List.mem_of_getElem? (i := 1) rfl))) h1 h2 h3 ?_
    refine lv_astore_n (lv' := [(3, .ref q9), (0, .ref ko), (1, .int p0), (2, .ref ao)]) hx hb dL_pass_12 rfl hlv (by decide) rfl (fun ls hlv => ?_)
    refine lv_iconst (v := 1) hx hb dL_pass_13 (by decide) ?_
    obtain ⟨hP, hD⟩ := arl 0 (fun _ => (0 : Int32).toInt64) hP hD rfl arl_0
    have hP : va_P D vwCl [(ao, .inl (cy 2, 1, .inr (.inl (fun _ => (0 : Int32).toInt64))))] H := hP
    have hD : va_D A [(ao, .inl (cy 2, 1, .inr (.inl (fun _ => (0 : Int32).toInt64))))] := hD
    refine W.widen (k := 1) (n := 6) (Nat.le_of_ble_eq_true rfl) (Nat.le_of_ble_eq_true rfl) ?_
    exact W.iret (v := 1) hx hb hr (fun t ht hW => ⟨⟨1, ((fun k => ([] : List Nat).getD k 0), (fun k => ([0] : List Int32).getD k 0), (fun k => ([] : List (Nat → Int32)).getD k (fun _ => 0))), rfl, (by first | (exact (by rfl))), by rw [ht]; exact hP.sub [0] rfl, hD.sub [0] (by decide) rfl⟩, hS.F ht⟩) hS.2.2 dL_pass_14
  · exact (hw1).elim
