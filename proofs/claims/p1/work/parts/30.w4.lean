theorem dL_meant_0 : decode cL_meant 0 = .ok (.aload 8, 2) := by decide +kernel
theorem dL_meant_11 : decode cL_meant 11 = .ok (.iload 6, 2) := by decide +kernel
theorem dL_meant_13 : decode cL_meant 13 = .ok (.iload 7, 2) := by decide +kernel
theorem dL_meant_15 : decode cL_meant 15 = .ok (.invokevirtual 101, 3) := by decide +kernel
theorem dL_meant_2 : decode cL_meant 2 = .ok (.iconst 0, 1) := by decide +kernel
theorem dL_meant_23 : decode cL_meant 23 = .ok (.astore 9, 2) := by decide +kernel
theorem dL_meant_25 : decode cL_meant 25 = .ok (.iconst 1, 1) := by decide +kernel
theorem dL_meant_26 : decode cL_meant 26 = .ok (.ireturn, 1) := by decide +kernel
theorem dL_meant_3 : decode cL_meant 3 = .ok (.aload_n 0, 1) := by decide +kernel
theorem dL_meant_4 : decode cL_meant 4 = .ok (.iload_n 1, 1) := by decide +kernel
theorem dL_meant_5 : decode cL_meant 5 = .ok (.iload_n 2, 1) := by decide +kernel
theorem dL_meant_6 : decode cL_meant 6 = .ok (.iload_n 3, 1) := by decide +kernel
theorem dL_meant_7 : decode cL_meant 7 = .ok (.iload 4, 2) := by decide +kernel
theorem dL_meant_9 : decode cL_meant 9 = .ok (.iload 5, 2) := by decide +kernel
theorem dL_mend_0 : decode cL_mend 0 = .ok (.aload 6, 2) := by decide +kernel
theorem dL_mend_11 : decode cL_mend 11 = .ok (.invokevirtual 95, 3) := by decide +kernel
theorem dL_mend_19 : decode cL_mend 19 = .ok (.astore 7, 2) := by decide +kernel
theorem dL_mend_2 : decode cL_mend 2 = .ok (.iconst 0, 1) := by decide +kernel
theorem dL_mend_21 : decode cL_mend 21 = .ok (.iconst 1, 1) := by decide +kernel
theorem dL_mend_22 : decode cL_mend 22 = .ok (.ireturn, 1) := by decide +kernel
theorem dL_mend_3 : decode cL_mend 3 = .ok (.aload_n 0, 1) := by decide +kernel
theorem dL_mend_4 : decode cL_mend 4 = .ok (.iload_n 1, 1) := by decide +kernel
theorem dL_mend_5 : decode cL_mend 5 = .ok (.iload_n 2, 1) := by decide +kernel
theorem dL_mend_6 : decode cL_mend 6 = .ok (.iload_n 3, 1) := by decide +kernel
theorem dL_mend_7 : decode cL_mend 7 = .ok (.iload 4, 2) := by decide +kernel
theorem dL_mend_9 : decode cL_mend 9 = .ok (.iload 5, 2) := by decide +kernel
theorem dL_moved_0 : decode cL_moved 0 = .ok (.aload_n 3, 1) := by decide +kernel
theorem dL_moved_1 : decode cL_moved 1 = .ok (.iconst 0, 1) := by decide +kernel
theorem dL_moved_13 : decode cL_moved 13 = .ok (.astore 4, 2) := by decide +kernel
theorem dL_moved_15 : decode cL_moved 15 = .ok (.iconst 1, 1) := by decide +kernel
theorem dL_moved_16 : decode cL_moved 16 = .ok (.ireturn, 1) := by decide +kernel
theorem dL_moved_2 : decode cL_moved 2 = .ok (.aload_n 0, 1) := by decide +kernel
theorem dL_moved_3 : decode cL_moved 3 = .ok (.iload_n 1, 1) := by decide +kernel
theorem dL_moved_4 : decode cL_moved 4 = .ok (.iload_n 2, 1) := by decide +kernel
theorem dL_moved_5 : decode cL_moved 5 = .ok (.invokevirtual 92, 3) := by decide +kernel
theorem dL_pace_0 : decode cL_pace 0 = .ok (.aload 5, 2) := by decide +kernel
theorem dL_pace_17 : decode cL_pace 17 = .ok (.astore 6, 2) := by decide +kernel
theorem dL_pace_19 : decode cL_pace 19 = .ok (.iconst 1, 1) := by decide +kernel
theorem dL_pace_2 : decode cL_pace 2 = .ok (.iconst 0, 1) := by decide +kernel
theorem dL_pace_20 : decode cL_pace 20 = .ok (.ireturn, 1) := by decide +kernel
theorem dL_pace_3 : decode cL_pace 3 = .ok (.aload_n 0, 1) := by decide +kernel
theorem dL_pace_4 : decode cL_pace 4 = .ok (.iload_n 1, 1) := by decide +kernel
theorem dL_pace_5 : decode cL_pace 5 = .ok (.iload_n 2, 1) := by decide +kernel
theorem dL_pace_6 : decode cL_pace 6 = .ok (.iload_n 3, 1) := by decide +kernel
theorem dL_pace_7 : decode cL_pace 7 = .ok (.iload 4, 2) := by decide +kernel
theorem dL_pace_9 : decode cL_pace 9 = .ok (.invokevirtual 89, 3) := by decide +kernel
theorem dL_share_0 : decode cL_share 0 = .ok (.aload_n 3, 1) := by decide +kernel
theorem dL_share_1 : decode cL_share 1 = .ok (.iconst 0, 1) := by decide +kernel
theorem dL_share_10 : decode cL_share 10 = .ok (.goto 7, 3) := by decide +kernel
theorem dL_share_13 : decode cL_share 13 = .ok (.astore 4, 2) := by decide +kernel
theorem dL_share_15 : decode cL_share 15 = .ok (.iconst 1, 1) := by decide +kernel
theorem dL_share_16 : decode cL_share 16 = .ok (.ireturn, 1) := by decide +kernel
theorem dL_share_17 : decode cL_share 17 = .ok (.iconst 0, 1) := by decide +kernel
theorem dL_share_18 : decode cL_share 18 = .ok (.ireturn, 1) := by decide +kernel
theorem dL_share_2 : decode cL_share 2 = .ok (.aload_n 0, 1) := by decide +kernel
theorem dL_share_3 : decode cL_share 3 = .ok (.iload_n 1, 1) := by decide +kernel
theorem dL_share_4 : decode cL_share 4 = .ok (.iload_n 2, 1) := by decide +kernel
theorem dL_share_5 : decode cL_share 5 = .ok (.invokevirtual 98, 3) := by decide +kernel
theorem dL_share_8 : decode cL_share 8 = .ok (.i2l, 1) := by decide +kernel
theorem dL_share_9 : decode cL_share 9 = .ok (.lastore, 1) := by decide +kernel
def vs_w_pace : List Cond := .codeWith yL_pace cL_pace 7 (some .int) [(0, 14, 17, 34), (0, 14, 21, 13), (0, 14, 25, 51)] :: (([.classLink RL 34 "java/util/NoSuchElementException", .classLink RL 13 "java/lang/IllegalArgumentException", .classLink RL 51 "java/lang/IllegalStateException"] : List Cond) ++ ((wsV RL 89 RX11 yX11_pace vs_c_pace) ++ ([])))
set_option maxHeartbeats 4000000 in
set_option maxRecDepth 100000 in
theorem w_pace (l : Launch) (hl : l.stackTraces = false) (D : va_G) (cy : Nat → ClassId) (sa : Nat → Nat) (ko : Nat) (ka : Nat → Nat) (p0 p1 p2 p3 : Int32) (ao : Nat) (sz : Nat) : Met l yL_pace vs_w_pace ({ frames := 9, cells := 1, slots := 6, locals := 166 }) (va_Pc [.ref ko, .int p0, .int p1, .int p2, .int p3, .ref ao] (pcW D cy sa sz [(ko, .inr (11, [.ref (ka 0), .ref (ka 1), .ref (ka 2), .int 0, .int 0, .ref (ka 5), .ref (ka 6), .ref (ka 7), .ref (ka 8), .ref (ka 9), .int 0, .ref (ka 11), .ref (ka 12), .ref (ka 13)])), ((ka 13), .inl (cy 0, 4, .inl (fun _ => 0))), (ao, .inl (cy 2, 1, .inr (.inl (fun _ => 0))))])) (va_Qi (fun (r : Int32) (u : SU) => (r = 1)) (fun u t => atW D (va_A [(ko, .inr (11, [.ref (ka 0), .ref (ka 1), .ref (ka 2), .int 0, .int 0, .ref (ka 5), .ref (ka 6), .ref (ka 7), .ref (ka 8), .ref (ka 9), .int 0, .ref (ka 11), .ref (ka 12), .ref (ka 13)])), ((ka 13), .inl (cy 0, 4, .inl (fun _ => 0))), (ao, .inl (cy 2, 1, .inr (.inl (fun _ => 0))))] sz) [(ao, .inl (cy 2, 1, .inr (.inl (fun _ => (u.2.1 0 : Int32).toInt64))))] t) (va_A [(ko, .inr (11, [.ref (ka 0), .ref (ka 1), .ref (ka 2), .int 0, .int 0, .ref (ka 5), .ref (ka 6), .ref (ka 7), .ref (ka 8), .ref (ka 9), .int 0, .ref (ka 11), .ref (ka 12), .ref (ka 13)])), ((ka 13), .inl (cy 0, 4, .inl (fun _ => 0))), (ao, .inl (cy 2, 1, .inr (.inl (fun _ => 0))))] sz)) 1 6 (va_A [(ko, .inr (11, [.ref (ka 0), .ref (ka 1), .ref (ka 2), .int 0, .int 0, .ref (ka 5), .ref (ka 6), .ref (ka 7), .ref (ka 8), .ref (ka 9), .int 0, .ref (ka 11), .ref (ka 12), .ref (ka 13)])), ((ka 13), .inl (cy 0, 4, .inl (fun _ => 0))), (ao, .inl (cy 2, 1, .inr (.inl (fun _ => 0))))] sz) := by
  refine va_MetW (cc := cL_pace) (maxL := 7) (ret := (some .int)) (by decide) rfl ?_
  intro p e s m args below meth c s₁ B hml hv
  obtain ⟨rfl, hsz, hP, hG, hD0, hT⟩ := hv
  have hx := B.exec
  have hb := B.bytes
  have hr := B.returns
  have hts := atoms_spec (ws := vs_w_pace) B.pre
  have hown : s.vm.findClass RL = some m.cls := findClass_of_methodNamed B.named
  have hlocks := B.notSynchronized
  subst hsz
  have hD := hD0.self (sz := s.heap.size)
  generalize hAe : va_A [(ko, .inr (11, [.ref (ka 0), .ref (ka 1), .ref (ka 2), .int 0, .int 0, .ref (ka 5), .ref (ka 6), .ref (ka 7), .ref (ka 8), .ref (ka 9), .int 0, .ref (ka 11), .ref (ka 12), .ref (ka 13)])), ((ka 13), .inl (cy 0, 4, .inl (fun _ => 0))), (ao, .inl (cy 2, 1, .inr (.inl (fun _ => 0))))] s.heap.size = A at hD hT ⊢
  have hA : ∀ q : Nat, s.heap.size ≤ q → A q := fun q h => by rw [← hAe]; exact Or.inr h
  have hS : va_S A s.heap s.heap [] := va_S.rf
  have hl0 := lv_entry ([.ref ko, .int p0, .int p1, .int p2, .int p3, .ref ao]) (n := 7) (Nat.le_of_ble_eq_true rfl)
  rw [lg_entry_eq]
  generalize (lg_sl ([.ref ko, .int p0, .int p1, .int p2, .int p3, .ref ao]) ++ List.replicate (7 - (lg_sl ([.ref ko, .int p0, .int p1, .int p2, .int p3, .ref ao])).length) Slot.unset).toArray = ls at hl0 ⊢
  have hlv : lv_has ls 7 [(0, .ref ko), (1, .int p0), (2, .int p1), (3, .int p2), (4, .int p3), (5, .ref ao)] := hl0
  have gg_0 : GoodIn vs_w_pace (wsV RL 89 RX11 yX11_pace vs_c_pace) := goodIn_sub (fun w h => List.mem_cons_of_mem _ (List.mem_append_right _ (List.mem_append_left _ h))) (by decide +kernel)
  have xc34 := hts (.classLink RL 34 "java/util/NoSuchElementException") (List.mem_of_getElem? (i := 1) rfl)
  have xc13 := hts (.classLink RL 13 "java/lang/IllegalArgumentException") (List.mem_of_getElem? (i := 2) rfl)
  have xc51 := hts (.classLink RL 51 "java/lang/IllegalStateException") (List.mem_of_getElem? (i := 3) rfl)
  have htab : c.exceptionTable.toList = [(⟨0, 14, 17, 34⟩ : ExceptionTableEntry), (⟨0, 14, 21, 13⟩ : ExceptionTableEntry), (⟨0, 14, 25, 51⟩ : ExceptionTableEntry)] := vx_table (x := yL_pace) B (hts (.codeWith yL_pace cL_pace 7 (some .int) [(0, 14, 17, 34), (0, 14, 21, 13), (0, 14, 25, 51)]) List.mem_cons_self)
  refine lv_aload hx hb dL_pace_0 (lv_at hlv 5 rfl) ?_
  refine lv_iconst (v := 0) hx hb dL_pace_2 (by decide) ?_
  refine lv_aload_n hx hb dL_pace_3 rfl (lv_at hlv 0 rfl) ?_
  refine lv_iload_n hx hb dL_pace_4 rfl (lv_at hlv 1 rfl) ?_
  refine lv_iload_n hx hb dL_pace_5 rfl (lv_at hlv 2 rfl) ?_
  refine lv_iload_n hx hb dL_pace_6 rfl (lv_at hlv 3 rfl) ?_
  refine lv_iload hx hb dL_pace_7 (lv_at hlv 4 rfl) ?_
  refine cjx_i (wr := [(ao, .inl (cy 2, 1, .inr (.inl (fun _ => 0))))]) (vx_runV (As := [.int p0, .int p1, .int p2, .int p3]) (rest := [.int 0, .ref ao]) ⟨hx, hb, hml, hown, hts⟩ (c_pace l hl D cy sa ko ka p0 p1 p2 p3 s.heap.size) (cwV 4 hts gg_0 rfl rfl rfl (by decide +kernel) ⟨Nat.le_of_ble_eq_true rfl, Nat.le_of_ble_eq_true rfl⟩) ⟨pcW.blind, (va_recv hG.1 hP (ci := 11) (q0 := 0) rfl rfl), (pcW.mk hP hD hS hA hG hT [0, 1] rfl (by decide))⟩ rfl rfl hlv.1 rfl (lv_room (Nat.le_of_ble_eq_true rfl)) dL_pace_9 ⟨Nat.le_of_ble_eq_true rfl, Nat.le_of_ble_eq_true rfl⟩) hP hD hS hA [0, 1] [2] rfl rfl (by decide) (by decide) (fun E ce q9 H locs hp hP hD hS h1 h2 h3 => ?_) (fun r1 u1 H locs hw1 hP hD hS => ?_)
  · obtain ⟨rfl, hg1⟩ := hp
    refine vx_catch (name := "java/util/NoSuchElementException") hown [] (⟨0, 14, 17, 34⟩ : ExceptionTableEntry) [(⟨0, 14, 21, 13⟩ : ExceptionTableEntry), (⟨0, 14, 25, 51⟩ : ExceptionTableEntry)] htab (fun z hz => by simp at hz) (by decide) (by decide) xc34 (va_Nw.use rfl (hG.2.2.2.1 _ (List.mem_of_getElem? (i := 1) rfl))) h1 h2 h3 ?_
    refine lv_astore (lv' := [(6, .ref q9), (0, .ref ko), (1, .int p0), (2, .int p1), (3, .int p2), (4, .int p3), (5, .ref ao)]) hx hb dL_pace_17 hlv (by decide) rfl (fun ls hlv => ?_)
    refine lv_iconst (v := 1) hx hb dL_pace_19 (by decide) ?_
    obtain ⟨hP, hD⟩ := arl 0 (fun _ => (0 : Int32).toInt64) hP hD rfl arl_0
    have hP : va_P D vwCl [(ao, .inl (cy 2, 1, .inr (.inl (fun _ => (0 : Int32).toInt64))))] H := hP
    have hD : va_D A [(ao, .inl (cy 2, 1, .inr (.inl (fun _ => (0 : Int32).toInt64))))] := hD
    refine W.widen (k := 1) (n := 6) (Nat.le_of_ble_eq_true rfl) (Nat.le_of_ble_eq_true rfl) ?_
    exact W.iret (v := 1) hx hb hr (fun t ht hW => ⟨⟨1, ((fun k => ([] : List Nat).getD k 0), (fun k => ([0] : List Int32).getD k 0), (fun k => ([] : List (Nat → Int32)).getD k (fun _ => 0))), rfl, (by first | (exact (by rfl))), by rw [ht]; exact hP.sub [0] rfl, hD.sub [0] (by decide) rfl⟩, hS.F ht⟩) hS.2.2 dL_pace_20
  · exact (hw1).elim
def vs_w_moved : List Cond := .codeWith yL_moved cL_moved 5 (some .int) [(0, 10, 13, 34), (0, 10, 17, 13), (0, 10, 21, 51)] :: (([.classLink RL 34 "java/util/NoSuchElementException", .classLink RL 13 "java/lang/IllegalArgumentException", .classLink RL 51 "java/lang/IllegalStateException"] : List Cond) ++ ((wsV RL 92 RX11 yX11_moved vs_c_moved) ++ ([])))
set_option maxHeartbeats 4000000 in
set_option maxRecDepth 100000 in
theorem w_moved (l : Launch) (hl : l.stackTraces = false) (D : va_G) (cy : Nat → ClassId) (sa : Nat → Nat) (ko : Nat) (ka : Nat → Nat) (p0 p1 : Int32) (ao : Nat) (sz : Nat) : Met l yL_moved vs_w_moved ({ frames := 9, cells := 1, slots := 6, locals := 164 }) (va_Pc [.ref ko, .int p0, .int p1, .ref ao] (pcW D cy sa sz [(ko, .inr (11, [.ref (ka 0), .ref (ka 1), .ref (ka 2), .int 0, .int 0, .ref (ka 5), .ref (ka 6), .ref (ka 7), .ref (ka 8), .ref (ka 9), .int 0, .ref (ka 11), .ref (ka 12), .ref (ka 13)])), ((ka 13), .inl (cy 0, 4, .inl (fun _ => 0))), (ao, .inl (cy 2, 1, .inr (.inl (fun _ => 0))))])) (va_Qi (fun (r : Int32) (u : SU) => (r = 1)) (fun u t => atW D (va_A [(ko, .inr (11, [.ref (ka 0), .ref (ka 1), .ref (ka 2), .int 0, .int 0, .ref (ka 5), .ref (ka 6), .ref (ka 7), .ref (ka 8), .ref (ka 9), .int 0, .ref (ka 11), .ref (ka 12), .ref (ka 13)])), ((ka 13), .inl (cy 0, 4, .inl (fun _ => 0))), (ao, .inl (cy 2, 1, .inr (.inl (fun _ => 0))))] sz) [(ao, .inl (cy 2, 1, .inr (.inl (fun _ => (u.2.1 0 : Int32).toInt64))))] t) (va_A [(ko, .inr (11, [.ref (ka 0), .ref (ka 1), .ref (ka 2), .int 0, .int 0, .ref (ka 5), .ref (ka 6), .ref (ka 7), .ref (ka 8), .ref (ka 9), .int 0, .ref (ka 11), .ref (ka 12), .ref (ka 13)])), ((ka 13), .inl (cy 0, 4, .inl (fun _ => 0))), (ao, .inl (cy 2, 1, .inr (.inl (fun _ => 0))))] sz)) 1 6 (va_A [(ko, .inr (11, [.ref (ka 0), .ref (ka 1), .ref (ka 2), .int 0, .int 0, .ref (ka 5), .ref (ka 6), .ref (ka 7), .ref (ka 8), .ref (ka 9), .int 0, .ref (ka 11), .ref (ka 12), .ref (ka 13)])), ((ka 13), .inl (cy 0, 4, .inl (fun _ => 0))), (ao, .inl (cy 2, 1, .inr (.inl (fun _ => 0))))] sz) := by
  refine va_MetW (cc := cL_moved) (maxL := 5) (ret := (some .int)) (by decide) rfl ?_
  intro p e s m args below meth c s₁ B hml hv
  obtain ⟨rfl, hsz, hP, hG, hD0, hT⟩ := hv
  have hx := B.exec
  have hb := B.bytes
  have hr := B.returns
  have hts := atoms_spec (ws := vs_w_moved) B.pre
  have hown : s.vm.findClass RL = some m.cls := findClass_of_methodNamed B.named
  have hlocks := B.notSynchronized
  subst hsz
  have hD := hD0.self (sz := s.heap.size)
  generalize hAe : va_A [(ko, .inr (11, [.ref (ka 0), .ref (ka 1), .ref (ka 2), .int 0, .int 0, .ref (ka 5), .ref (ka 6), .ref (ka 7), .ref (ka 8), .ref (ka 9), .int 0, .ref (ka 11), .ref (ka 12), .ref (ka 13)])), ((ka 13), .inl (cy 0, 4, .inl (fun _ => 0))), (ao, .inl (cy 2, 1, .inr (.inl (fun _ => 0))))] s.heap.size = A at hD hT ⊢
  have hA : ∀ q : Nat, s.heap.size ≤ q → A q := fun q h => by rw [← hAe]; exact Or.inr h
  have hS : va_S A s.heap s.heap [] := va_S.rf
  have hl0 := lv_entry ([.ref ko, .int p0, .int p1, .ref ao]) (n := 5) (Nat.le_of_ble_eq_true rfl)
  rw [lg_entry_eq]
  generalize (lg_sl ([.ref ko, .int p0, .int p1, .ref ao]) ++ List.replicate (5 - (lg_sl ([.ref ko, .int p0, .int p1, .ref ao])).length) Slot.unset).toArray = ls at hl0 ⊢
  have hlv : lv_has ls 5 [(0, .ref ko), (1, .int p0), (2, .int p1), (3, .ref ao)] := hl0
  have gg_0 : GoodIn vs_w_moved (wsV RL 92 RX11 yX11_moved vs_c_moved) := goodIn_sub (fun w h => List.mem_cons_of_mem _ (List.mem_append_right _ (List.mem_append_left _ h))) (by decide +kernel)
  have xc34 := hts (.classLink RL 34 "java/util/NoSuchElementException") (List.mem_of_getElem? (i := 1) rfl)
  have xc13 := hts (.classLink RL 13 "java/lang/IllegalArgumentException") (List.mem_of_getElem? (i := 2) rfl)
  have xc51 := hts (.classLink RL 51 "java/lang/IllegalStateException") (List.mem_of_getElem? (i := 3) rfl)
  have htab : c.exceptionTable.toList = [(⟨0, 10, 13, 34⟩ : ExceptionTableEntry), (⟨0, 10, 17, 13⟩ : ExceptionTableEntry), (⟨0, 10, 21, 51⟩ : ExceptionTableEntry)] := vx_table (x := yL_moved) B (hts (.codeWith yL_moved cL_moved 5 (some .int) [(0, 10, 13, 34), (0, 10, 17, 13), (0, 10, 21, 51)]) List.mem_cons_self)
  refine lv_aload_n hx hb dL_moved_0 rfl (lv_at hlv 3 rfl) ?_
  refine lv_iconst (v := 0) hx hb dL_moved_1 (by decide) ?_
  refine lv_aload_n hx hb dL_moved_2 rfl (lv_at hlv 0 rfl) ?_
  refine lv_iload_n hx hb dL_moved_3 rfl (lv_at hlv 1 rfl) ?_
  refine lv_iload_n hx hb dL_moved_4 rfl (lv_at hlv 2 rfl) ?_
  refine cjx_i (wr := [(ao, .inl (cy 2, 1, .inr (.inl (fun _ => 0))))]) (vx_runV (As := [.int p0, .int p1]) (rest := [.int 0, .ref ao]) ⟨hx, hb, hml, hown, hts⟩ (c_moved l hl D cy sa ko ka p0 p1 s.heap.size) (cwV 2 hts gg_0 rfl rfl rfl (by decide +kernel) ⟨Nat.le_of_ble_eq_true rfl, Nat.le_of_ble_eq_true rfl⟩) ⟨pcW.blind, (va_recv hG.1 hP (ci := 11) (q0 := 0) rfl rfl), (pcW.mk hP hD hS hA hG hT [0, 1] rfl (by decide))⟩ rfl rfl hlv.1 rfl (lv_room (Nat.le_of_ble_eq_true rfl)) dL_moved_5 ⟨Nat.le_of_ble_eq_true rfl, Nat.le_of_ble_eq_true rfl⟩) hP hD hS hA [0, 1] [2] rfl rfl (by decide) (by decide) (fun E ce q9 H locs hp hP hD hS h1 h2 h3 => ?_) (fun r1 u1 H locs hw1 hP hD hS => ?_)
  · obtain ⟨rfl, hg1⟩ := hp
    refine vx_catch (name := "java/util/NoSuchElementException") hown [] (⟨0, 10, 13, 34⟩ : ExceptionTableEntry) [(⟨0, 10, 17, 13⟩ : ExceptionTableEntry), (⟨0, 10, 21, 51⟩ : ExceptionTableEntry)] htab (fun z hz => by simp at hz) (by decide) (by decide) xc34 (va_Nw.use rfl (hG.2.2.2.1 _ (List.mem_of_getElem? (i := 1) rfl))) h1 h2 h3 ?_
    refine lv_astore (lv' := [(4, .ref q9), (0, .ref ko), (1, .int p0), (2, .int p1), (3, .ref ao)]) hx hb dL_moved_13 hlv (by decide) rfl (fun ls hlv => ?_)
    refine lv_iconst (v := 1) hx hb dL_moved_15 (by decide) ?_
    obtain ⟨hP, hD⟩ := arl 0 (fun _ => (0 : Int32).toInt64) hP hD rfl arl_0
    have hP : va_P D vwCl [(ao, .inl (cy 2, 1, .inr (.inl (fun _ => (0 : Int32).toInt64))))] H := hP
    have hD : va_D A [(ao, .inl (cy 2, 1, .inr (.inl (fun _ => (0 : Int32).toInt64))))] := hD
    refine W.widen (k := 1) (n := 6) (Nat.le_of_ble_eq_true rfl) (Nat.le_of_ble_eq_true rfl) ?_
    exact W.iret (v := 1) hx hb hr (fun t ht hW => ⟨⟨1, ((fun k => ([] : List Nat).getD k 0), (fun k => ([0] : List Int32).getD k 0), (fun k => ([] : List (Nat → Int32)).getD k (fun _ => 0))), rfl, (by first | (exact (by rfl))), by rw [ht]; exact hP.sub [0] rfl, hD.sub [0] (by decide) rfl⟩, hS.F ht⟩) hS.2.2 dL_moved_16
  · exact (hw1).elim
def vs_w_mend : List Cond := .codeWith yL_mend cL_mend 8 (some .int) [(0, 16, 19, 28), (0, 16, 23, 34), (0, 16, 27, 13), (0, 16, 31, 51)] :: (([.classLink RL 28 "java/lang/IndexOutOfBoundsException", .classLink RL 34 "java/util/NoSuchElementException", .classLink RL 13 "java/lang/IllegalArgumentException", .classLink RL 51 "java/lang/IllegalStateException"] : List Cond) ++ ((wsV RL 95 RX11 yX11_mend vs_c_mend) ++ ([])))
set_option maxHeartbeats 4000000 in
set_option maxRecDepth 100000 in
theorem w_mend (l : Launch) (hl : l.stackTraces = false) (D : va_G) (cy : Nat → ClassId) (sa : Nat → Nat) (ko : Nat) (ka : Nat → Nat) (p0 p1 p2 p3 p4 : Int32) (ao : Nat) (sz : Nat) : Met l yL_mend vs_w_mend ({ frames := 8, cells := 1, slots := 6, locals := 147 }) (va_Pc [.ref ko, .int p0, .int p1, .int p2, .int p3, .int p4, .ref ao] (pcW D cy sa sz [(ko, .inr (11, [.ref (ka 0), .ref (ka 1), .ref (ka 2), .int 0, .int 0, .ref (ka 5), .ref (ka 6), .ref (ka 7), .ref (ka 8), .ref (ka 9), .int 0, .ref (ka 11), .ref (ka 12), .ref (ka 13)])), ((ka 5), .inr (6, [.int 0, .int 0, .ref (ka 21), .ref (ka 22), .int 0, .int 0, .ref (ka 23), .int 0, .ref (ka 24), .int 0, .int 0, .ref (ka 25), .int 0, .ref (ka 26), .int 0, .int 0, .int 0, .int 0, .int 0])), ((ka 13), .inl (cy 0, 4, .inl (fun _ => 0))), (ao, .inl (cy 2, 1, .inr (.inl (fun _ => 0))))])) (va_Qi (fun (r : Int32) (u : SU) => (r = 1)) (fun u t => atW D (va_A [(ko, .inr (11, [.ref (ka 0), .ref (ka 1), .ref (ka 2), .int 0, .int 0, .ref (ka 5), .ref (ka 6), .ref (ka 7), .ref (ka 8), .ref (ka 9), .int 0, .ref (ka 11), .ref (ka 12), .ref (ka 13)])), ((ka 5), .inr (6, [.int 0, .int 0, .ref (ka 21), .ref (ka 22), .int 0, .int 0, .ref (ka 23), .int 0, .ref (ka 24), .int 0, .int 0, .ref (ka 25), .int 0, .ref (ka 26), .int 0, .int 0, .int 0, .int 0, .int 0])), ((ka 13), .inl (cy 0, 4, .inl (fun _ => 0))), (ao, .inl (cy 2, 1, .inr (.inl (fun _ => 0))))] sz) [(ao, .inl (cy 2, 1, .inr (.inl (fun _ => (u.2.1 0 : Int32).toInt64))))] t) (va_A [(ko, .inr (11, [.ref (ka 0), .ref (ka 1), .ref (ka 2), .int 0, .int 0, .ref (ka 5), .ref (ka 6), .ref (ka 7), .ref (ka 8), .ref (ka 9), .int 0, .ref (ka 11), .ref (ka 12), .ref (ka 13)])), ((ka 5), .inr (6, [.int 0, .int 0, .ref (ka 21), .ref (ka 22), .int 0, .int 0, .ref (ka 23), .int 0, .ref (ka 24), .int 0, .int 0, .ref (ka 25), .int 0, .ref (ka 26), .int 0, .int 0, .int 0, .int 0, .int 0])), ((ka 13), .inl (cy 0, 4, .inl (fun _ => 0))), (ao, .inl (cy 2, 1, .inr (.inl (fun _ => 0))))] sz)) 1 6 (va_A [(ko, .inr (11, [.ref (ka 0), .ref (ka 1), .ref (ka 2), .int 0, .int 0, .ref (ka 5), .ref (ka 6), .ref (ka 7), .ref (ka 8), .ref (ka 9), .int 0, .ref (ka 11), .ref (ka 12), .ref (ka 13)])), ((ka 5), .inr (6, [.int 0, .int 0, .ref (ka 21), .ref (ka 22), .int 0, .int 0, .ref (ka 23), .int 0, .ref (ka 24), .int 0, .int 0, .ref (ka 25), .int 0, .ref (ka 26), .int 0, .int 0, .int 0, .int 0, .int 0])), ((ka 13), .inl (cy 0, 4, .inl (fun _ => 0))), (ao, .inl (cy 2, 1, .inr (.inl (fun _ => 0))))] sz) := by
  refine va_MetW (cc := cL_mend) (maxL := 8) (ret := (some .int)) (by decide) rfl ?_
  intro p e s m args below meth c s₁ B hml hv
  obtain ⟨rfl, hsz, hP, hG, hD0, hT⟩ := hv
  have hx := B.exec
  have hb := B.bytes
  have hr := B.returns
  have hts := atoms_spec (ws := vs_w_mend) B.pre
  have hown : s.vm.findClass RL = some m.cls := findClass_of_methodNamed B.named
  have hlocks := B.notSynchronized
  subst hsz
  have hD := hD0.self (sz := s.heap.size)
  generalize hAe : va_A [(ko, .inr (11, [.ref (ka 0), .ref (ka 1), .ref (ka 2), .int 0, .int 0, .ref (ka 5), .ref (ka 6), .ref (ka 7), .ref (ka 8), .ref (ka 9), .int 0, .ref (ka 11), .ref (ka 12), .ref (ka 13)])), ((ka 5), .inr (6, [.int 0, .int 0, .ref (ka 21), .ref (ka 22), .int 0, .int 0, .ref (ka 23), .int 0, .ref (ka 24), .int 0, .int 0, .ref (ka 25), .int 0, .ref (ka 26), .int 0, .int 0, .int 0, .int 0, .int 0])), ((ka 13), .inl (cy 0, 4, .inl (fun _ => 0))), (ao, .inl (cy 2, 1, .inr (.inl (fun _ => 0))))] s.heap.size = A at hD hT ⊢
  have hA : ∀ q : Nat, s.heap.size ≤ q → A q := fun q h => by rw [← hAe]; exact Or.inr h
  have hS : va_S A s.heap s.heap [] := va_S.rf
  have hl0 := lv_entry ([.ref ko, .int p0, .int p1, .int p2, .int p3, .int p4, .ref ao]) (n := 8) (Nat.le_of_ble_eq_true rfl)
  rw [lg_entry_eq]
  generalize (lg_sl ([.ref ko, .int p0, .int p1, .int p2, .int p3, .int p4, .ref ao]) ++ List.replicate (8 - (lg_sl ([.ref ko, .int p0, .int p1, .int p2, .int p3, .int p4, .ref ao])).length) Slot.unset).toArray = ls at hl0 ⊢
  have hlv : lv_has ls 8 [(0, .ref ko), (1, .int p0), (2, .int p1), (3, .int p2), (4, .int p3), (5, .int p4), (6, .ref ao)] := hl0
  have gg_0 : GoodIn vs_w_mend (wsV RL 95 RX11 yX11_mend vs_c_mend) := goodIn_sub (fun w h => List.mem_cons_of_mem _ (List.mem_append_right _ (List.mem_append_left _ h))) (by decide +kernel)
  have xc28 := hts (.classLink RL 28 "java/lang/IndexOutOfBoundsException") (List.mem_of_getElem? (i := 1) rfl)
  have xc34 := hts (.classLink RL 34 "java/util/NoSuchElementException") (List.mem_of_getElem? (i := 2) rfl)
  have xc13 := hts (.classLink RL 13 "java/lang/IllegalArgumentException") (List.mem_of_getElem? (i := 3) rfl)
  have xc51 := hts (.classLink RL 51 "java/lang/IllegalStateException") (List.mem_of_getElem? (i := 4) rfl)
  have htab : c.exceptionTable.toList = [(⟨0, 16, 19, 28⟩ : ExceptionTableEntry), (⟨0, 16, 23, 34⟩ : ExceptionTableEntry), (⟨0, 16, 27, 13⟩ : ExceptionTableEntry), (⟨0, 16, 31, 51⟩ : ExceptionTableEntry)] := vx_table (x := yL_mend) B (hts (.codeWith yL_mend cL_mend 8 (some .int) [(0, 16, 19, 28), (0, 16, 23, 34), (0, 16, 27, 13), (0, 16, 31, 51)]) List.mem_cons_self)
  refine lv_aload hx hb dL_mend_0 (lv_at hlv 6 rfl) ?_
  refine lv_iconst (v := 0) hx hb dL_mend_2 (by decide) ?_
  refine lv_aload_n hx hb dL_mend_3 rfl (lv_at hlv 0 rfl) ?_
  refine lv_iload_n hx hb dL_mend_4 rfl (lv_at hlv 1 rfl) ?_
  refine lv_iload_n hx hb dL_mend_5 rfl (lv_at hlv 2 rfl) ?_
  refine lv_iload_n hx hb dL_mend_6 rfl (lv_at hlv 3 rfl) ?_
  refine lv_iload hx hb dL_mend_7 (lv_at hlv 4 rfl) ?_
  refine lv_iload hx hb dL_mend_9 (lv_at hlv 5 rfl) ?_
  refine cjx_i (wr := [(ao, .inl (cy 2, 1, .inr (.inl (fun _ => 0))))]) (vx_runV (As := [.int p0, .int p1, .int p2, .int p3, .int p4]) (rest := [.int 0, .ref ao]) ⟨hx, hb, hml, hown, hts⟩ (c_mend l hl D cy sa ko ka p0 p1 p2 p3 p4 s.heap.size) (cwV 5 hts gg_0 rfl rfl rfl (by decide +kernel) ⟨Nat.le_of_ble_eq_true rfl, Nat.le_of_ble_eq_true rfl⟩) ⟨pcW.blind, (va_recv hG.1 hP (ci := 11) (q0 := 0) rfl rfl), (pcW.mk hP hD hS hA hG hT [0, 1, 2] rfl (by decide))⟩ rfl rfl hlv.1 rfl (lv_room (Nat.le_of_ble_eq_true rfl)) dL_mend_11 ⟨Nat.le_of_ble_eq_true rfl, Nat.le_of_ble_eq_true rfl⟩) hP hD hS hA [0, 1, 2] [3] rfl rfl (by decide) (by decide) (fun E ce q9 H locs hp hP hD hS h1 h2 h3 => ?_) (fun r1 u1 H locs hw1 hP hD hS => ?_)
  · obtain ⟨rfl, hg1⟩ := hp
    refine vx_catch (name := "java/lang/IndexOutOfBoundsException") hown [] (⟨0, 16, 19, 28⟩ : ExceptionTableEntry) [(⟨0, 16, 23, 34⟩ : ExceptionTableEntry), (⟨0, 16, 27, 13⟩ : ExceptionTableEntry), (⟨0, 16, 31, 51⟩ : ExceptionTableEntry)] htab (fun z hz => by simp at hz) (by decide) (by decide) xc28 (va_Nw.use rfl (hG.2.2.2.1 _ (List.mem_of_getElem? (i := 0) rfl))) h1 h2 h3 ?_
    refine lv_astore (lv' := [(7, .ref q9), (0, .ref ko), (1, .int p0), (2, .int p1), (3, .int p2), (4, .int p3), (5, .int p4), (6, .ref ao)]) hx hb dL_mend_19 hlv (by decide) rfl (fun ls hlv => ?_)
    refine lv_iconst (v := 1) hx hb dL_mend_21 (by decide) ?_
    obtain ⟨hP, hD⟩ := arl 0 (fun _ => (0 : Int32).toInt64) hP hD rfl arl_0
    have hP : va_P D vwCl [(ao, .inl (cy 2, 1, .inr (.inl (fun _ => (0 : Int32).toInt64))))] H := hP
    have hD : va_D A [(ao, .inl (cy 2, 1, .inr (.inl (fun _ => (0 : Int32).toInt64))))] := hD
    refine W.widen (k := 1) (n := 6) (Nat.le_of_ble_eq_true rfl) (Nat.le_of_ble_eq_true rfl) ?_
    exact W.iret (v := 1) hx hb hr (fun t ht hW => ⟨⟨1, ((fun k => ([] : List Nat).getD k 0), (fun k => ([0] : List Int32).getD k 0), (fun k => ([] : List (Nat → Int32)).getD k (fun _ => 0))), rfl, (by first | (exact (by rfl))), by rw [ht]; exact hP.sub [0] rfl, hD.sub [0] (by decide) rfl⟩, hS.F ht⟩) hS.2.2 dL_mend_22
  · exact (hw1).elim
def vs_w_share : List Cond := .codeWith yL_share cL_share 5 (some .int) [(0, 10, 13, 13)] :: (([.classLink RL 13 "java/lang/IllegalArgumentException"] : List Cond) ++ ((wsV RL 98 RX11 yX11_share vs_c_share) ++ ([])))
set_option maxHeartbeats 4000000 in
set_option maxRecDepth 100000 in
theorem w_share (l : Launch) (hl : l.stackTraces = false) (D : va_G) (cy : Nat → ClassId) (sa : Nat → Nat) (ko : Nat) (ka : Nat → Nat) (p0 p1 : Int32) (ao : Nat) (sz : Nat) : Met l yL_share vs_w_share ({ frames := 8, cells := 1, slots := 6, locals := 144 }) (va_Pc [.ref ko, .int p0, .int p1, .ref ao] (pcW D cy sa sz [(ko, .inr (11, [.ref (ka 0), .ref (ka 1), .ref (ka 2), .int 0, .int 0, .ref (ka 5), .ref (ka 6), .ref (ka 7), .ref (ka 8), .ref (ka 9), .int 0, .ref (ka 11), .ref (ka 12), .ref (ka 13)])), ((ka 7), .inr (4, [.int 0, .ref (ka 41), .int 0, .ref (ka 42), .ref (ka 43)])), ((ka 43), .inl (cy 0, 4, .inl shF)), ((ka 13), .inl (cy 0, 4, .inl (fun _ => 0))), (ao, .inl (cy 2, 1, .inr (.inl (fun _ => 0))))])) (va_Qi (fun (r : Int32) (u : SU) => (((0 ≤ p0 ∧ p0 ≤ 3) ∧ (0 ≤ p1 ∧ p1 ≤ 99)) ∧ r = 0 ∧ (u.2.1 0) = 1) ∨ ((¬ ((0 ≤ p0 ∧ p0 ≤ 3) ∧ (0 ≤ p1 ∧ p1 ≤ 99))) ∧ r = 1)) (fun u t => atW D (va_A [(ko, .inr (11, [.ref (ka 0), .ref (ka 1), .ref (ka 2), .int 0, .int 0, .ref (ka 5), .ref (ka 6), .ref (ka 7), .ref (ka 8), .ref (ka 9), .int 0, .ref (ka 11), .ref (ka 12), .ref (ka 13)])), ((ka 7), .inr (4, [.int 0, .ref (ka 41), .int 0, .ref (ka 42), .ref (ka 43)])), ((ka 43), .inl (cy 0, 4, .inl shF)), ((ka 13), .inl (cy 0, 4, .inl (fun _ => 0))), (ao, .inl (cy 2, 1, .inr (.inl (fun _ => 0))))] sz) [(ao, .inl (cy 2, 1, .inr (.inl (fun _ => (u.2.1 0 : Int32).toInt64))))] t) (va_A [(ko, .inr (11, [.ref (ka 0), .ref (ka 1), .ref (ka 2), .int 0, .int 0, .ref (ka 5), .ref (ka 6), .ref (ka 7), .ref (ka 8), .ref (ka 9), .int 0, .ref (ka 11), .ref (ka 12), .ref (ka 13)])), ((ka 7), .inr (4, [.int 0, .ref (ka 41), .int 0, .ref (ka 42), .ref (ka 43)])), ((ka 43), .inl (cy 0, 4, .inl shF)), ((ka 13), .inl (cy 0, 4, .inl (fun _ => 0))), (ao, .inl (cy 2, 1, .inr (.inl (fun _ => 0))))] sz)) 1 6 (va_A [(ko, .inr (11, [.ref (ka 0), .ref (ka 1), .ref (ka 2), .int 0, .int 0, .ref (ka 5), .ref (ka 6), .ref (ka 7), .ref (ka 8), .ref (ka 9), .int 0, .ref (ka 11), .ref (ka 12), .ref (ka 13)])), ((ka 7), .inr (4, [.int 0, .ref (ka 41), .int 0, .ref (ka 42), .ref (ka 43)])), ((ka 43), .inl (cy 0, 4, .inl shF)), ((ka 13), .inl (cy 0, 4, .inl (fun _ => 0))), (ao, .inl (cy 2, 1, .inr (.inl (fun _ => 0))))] sz) := by
  refine va_MetW (cc := cL_share) (maxL := 5) (ret := (some .int)) (by decide) rfl ?_
  intro p e s m args below meth c s₁ B hml hv
  obtain ⟨rfl, hsz, hP, hG, hD0, hT⟩ := hv
  have hx := B.exec
  have hb := B.bytes
  have hr := B.returns
  have hts := atoms_spec (ws := vs_w_share) B.pre
  have hown : s.vm.findClass RL = some m.cls := findClass_of_methodNamed B.named
  have hlocks := B.notSynchronized
  subst hsz
  have hD := hD0.self (sz := s.heap.size)
  generalize hAe : va_A [(ko, .inr (11, [.ref (ka 0), .ref (ka 1), .ref (ka 2), .int 0, .int 0, .ref (ka 5), .ref (ka 6), .ref (ka 7), .ref (ka 8), .ref (ka 9), .int 0, .ref (ka 11), .ref (ka 12), .ref (ka 13)])), ((ka 7), .inr (4, [.int 0, .ref (ka 41), .int 0, .ref (ka 42), .ref (ka 43)])), ((ka 43), .inl (cy 0, 4, .inl shF)), ((ka 13), .inl (cy 0, 4, .inl (fun _ => 0))), (ao, .inl (cy 2, 1, .inr (.inl (fun _ => 0))))] s.heap.size = A at hD hT ⊢
  have hA : ∀ q : Nat, s.heap.size ≤ q → A q := fun q h => by rw [← hAe]; exact Or.inr h
  have hS : va_S A s.heap s.heap [] := va_S.rf
  have hl0 := lv_entry ([.ref ko, .int p0, .int p1, .ref ao]) (n := 5) (Nat.le_of_ble_eq_true rfl)
  rw [lg_entry_eq]
  generalize (lg_sl ([.ref ko, .int p0, .int p1, .ref ao]) ++ List.replicate (5 - (lg_sl ([.ref ko, .int p0, .int p1, .ref ao])).length) Slot.unset).toArray = ls at hl0 ⊢
  have hlv : lv_has ls 5 [(0, .ref ko), (1, .int p0), (2, .int p1), (3, .ref ao)] := hl0
  have gg_0 : GoodIn vs_w_share (wsV RL 98 RX11 yX11_share vs_c_share) := goodIn_sub (fun w h => List.mem_cons_of_mem _ (List.mem_append_right _ (List.mem_append_left _ h))) (by decide +kernel)
  have xc13 := hts (.classLink RL 13 "java/lang/IllegalArgumentException") (List.mem_of_getElem? (i := 1) rfl)
  have htab : c.exceptionTable.toList = [(⟨0, 10, 13, 13⟩ : ExceptionTableEntry)] := vx_table (x := yL_share) B (hts (.codeWith yL_share cL_share 5 (some .int) [(0, 10, 13, 13)]) List.mem_cons_self)
  refine lv_aload_n hx hb dL_share_0 rfl (lv_at hlv 3 rfl) ?_
  refine lv_iconst (v := 0) hx hb dL_share_1 (by decide) ?_
  refine lv_aload_n hx hb dL_share_2 rfl (lv_at hlv 0 rfl) ?_
  refine lv_iload_n hx hb dL_share_3 rfl (lv_at hlv 1 rfl) ?_
  refine lv_iload_n hx hb dL_share_4 rfl (lv_at hlv 2 rfl) ?_
  refine cjx_i (wr := [(ao, .inl (cy 2, 1, .inr (.inl (fun _ => 0))))]) (vx_runV (As := [.int p0, .int p1]) (rest := [.int 0, .ref ao]) ⟨hx, hb, hml, hown, hts⟩ (c_share l hl D cy sa ko ka p0 p1 s.heap.size) (cwV 2 hts gg_0 rfl rfl rfl (by decide +kernel) ⟨Nat.le_of_ble_eq_true rfl, Nat.le_of_ble_eq_true rfl⟩) ⟨pcW.blind, (va_recv hG.1 hP (ci := 11) (q0 := 0) rfl rfl), (pcW.mk hP hD hS hA hG hT [0, 1, 2, 3] rfl (by decide))⟩ rfl rfl hlv.1 rfl (lv_room (Nat.le_of_ble_eq_true rfl)) dL_share_5 ⟨Nat.le_of_ble_eq_true rfl, Nat.le_of_ble_eq_true rfl⟩) hP hD hS hA [0, 1, 2, 3] [4] rfl rfl (by decide) (by decide) (fun E ce q9 H locs hp hP hD hS h1 h2 h3 => ?_) (fun r1 u1 H locs hw1 hP hD hS => ?_)
  · obtain ⟨rfl, hg1⟩ := hp
    refine vx_catch (name := "java/lang/IllegalArgumentException") hown [] (⟨0, 10, 13, 13⟩ : ExceptionTableEntry) [] htab (fun z hz => by simp at hz) (by decide) (by decide) xc13 (va_Nw.use rfl (hG.2.2.2.1 _ (List.mem_of_getElem? (i := 2) rfl))) h1 h2 h3 ?_
    refine lv_astore (lv' := [(4, .ref q9), (0, .ref ko), (1, .int p0), (2, .int p1), (3, .ref ao)]) hx hb dL_share_13 hlv (by decide) rfl (fun ls hlv => ?_)
    refine lv_iconst (v := 1) hx hb dL_share_15 (by decide) ?_
    obtain ⟨hP, hD⟩ := arl 0 (fun _ => (0 : Int32).toInt64) hP hD rfl arl_0
    have hP : va_P D vwCl [(ao, .inl (cy 2, 1, .inr (.inl (fun _ => (0 : Int32).toInt64))))] H := hP
    have hD : va_D A [(ao, .inl (cy 2, 1, .inr (.inl (fun _ => (0 : Int32).toInt64))))] := hD
    refine W.widen (k := 1) (n := 6) (Nat.le_of_ble_eq_true rfl) (Nat.le_of_ble_eq_true rfl) ?_
    exact W.iret (v := 1) hx hb hr (fun t ht hW => ⟨⟨1, ((fun k => ([] : List Nat).getD k 0), (fun k => ([0] : List Int32).getD k 0), (fun k => ([] : List (Nat → Int32)).getD k (fun _ => 0))), rfl, (by first | (right; exact ⟨hg1, by rfl⟩)), by rw [ht]; exact hP.sub [0] rfl, hD.sub [0] (by decide) rfl⟩, hS.F ht⟩) hS.2.2 dL_share_16
  · obtain ⟨hg1, rfl⟩ := hw1
    have hP : va_P D vwCl [(ao, .inl (cy 2, 1, .inr (.inl (fun _ => 0))))] H := hP
    have hD : va_D A [(ao, .inl (cy 2, 1, .inr (.inl (fun _ => 0))))] := hD
    refine lv_i2l (v := (1 : Int32).toInt64) hx hb dL_share_8 rfl ?_
    refine va_last hx hb hG.1 hP hD hS 0 2 rfl rfl (vpd (by decide)) dL_share_9 (fun H locs hP hD hS => ?_)
    have hP : va_P D vwCl [(ao, .inl (cy 2, 1, .inr (.inl (vp_updL (fun _ => 0) 0 (1 : Int32).toInt64))))] H := hP
    have hD : va_D A [(ao, .inl (cy 2, 1, .inr (.inl (vp_updL (fun _ => 0) 0 (1 : Int32).toInt64))))] := hD
    refine lv_goto (tgt := 17) hx hb dL_share_10 (by decide) ?_
    refine lv_iconst (v := 0) hx hb dL_share_17 (by decide) ?_
    obtain ⟨hP, hD⟩ := arl 0 (fun _ => (1 : Int32).toInt64) hP hD rfl arl_1
    have hP : va_P D vwCl [(ao, .inl (cy 2, 1, .inr (.inl (fun _ => (1 : Int32).toInt64))))] H := hP
    have hD : va_D A [(ao, .inl (cy 2, 1, .inr (.inl (fun _ => (1 : Int32).toInt64))))] := hD
    refine W.widen (k := 1) (n := 6) (Nat.le_of_ble_eq_true rfl) (Nat.le_of_ble_eq_true rfl) ?_
    exact W.iret (v := 0) hx hb hr (fun t ht hW => ⟨⟨0, ((fun k => ([] : List Nat).getD k 0), (fun k => ([1] : List Int32).getD k 0), (fun k => ([] : List (Nat → Int32)).getD k (fun _ => 0))), rfl, (by first | (left; exact ⟨⟨hg1.1, hg1.2⟩, by rfl, by rfl⟩)), by rw [ht]; exact hP.sub [0] rfl, hD.sub [0] (by decide) rfl⟩, hS.F ht⟩) hS.2.2 dL_share_18
def vs_w_meant : List Cond := .codeWith yL_meant cL_meant 10 (some .int) [(0, 20, 23, 28), (0, 20, 27, 34), (0, 20, 31, 13), (0, 20, 35, 51)] :: (([.classLink RL 28 "java/lang/IndexOutOfBoundsException", .classLink RL 34 "java/util/NoSuchElementException", .classLink RL 13 "java/lang/IllegalArgumentException", .classLink RL 51 "java/lang/IllegalStateException"] : List Cond) ++ ((wsV RL 101 RX11 yX11_meant vs_c_meant) ++ ([])))
set_option maxHeartbeats 4000000 in
set_option maxRecDepth 100000 in
theorem w_meant (l : Launch) (hl : l.stackTraces = false) (D : va_G) (cy : Nat → ClassId) (sa : Nat → Nat) (ko : Nat) (ka : Nat → Nat) (p0 p1 p2 p3 p4 p5 p6 : Int32) (ao : Nat) (sz : Nat) : Met l yL_meant vs_w_meant ({ frames := 8, cells := 1, slots := 6, locals := 149 }) (va_Pc [.ref ko, .int p0, .int p1, .int p2, .int p3, .int p4, .int p5, .int p6, .ref ao] (pcW D cy sa sz [(ko, .inr (11, [.ref (ka 0), .ref (ka 1), .ref (ka 2), .int 0, .int 0, .ref (ka 5), .ref (ka 6), .ref (ka 7), .ref (ka 8), .ref (ka 9), .int 0, .ref (ka 11), .ref (ka 12), .ref (ka 13)])), ((ka 5), .inr (6, [.int 0, .int 0, .ref (ka 21), .ref (ka 22), .int 0, .int 0, .ref (ka 23), .int 0, .ref (ka 24), .int 0, .int 0, .ref (ka 25), .int 0, .ref (ka 26), .int 0, .int 0, .int 0, .int 0, .int 0])), ((ka 13), .inl (cy 0, 4, .inl (fun _ => 0))), (ao, .inl (cy 2, 1, .inr (.inl (fun _ => 0))))])) (va_Qi (fun (r : Int32) (u : SU) => (r = 1)) (fun u t => atW D (va_A [(ko, .inr (11, [.ref (ka 0), .ref (ka 1), .ref (ka 2), .int 0, .int 0, .ref (ka 5), .ref (ka 6), .ref (ka 7), .ref (ka 8), .ref (ka 9), .int 0, .ref (ka 11), .ref (ka 12), .ref (ka 13)])), ((ka 5), .inr (6, [.int 0, .int 0, .ref (ka 21), .ref (ka 22), .int 0, .int 0, .ref (ka 23), .int 0, .ref (ka 24), .int 0, .int 0, .ref (ka 25), .int 0, .ref (ka 26), .int 0, .int 0, .int 0, .int 0, .int 0])), ((ka 13), .inl (cy 0, 4, .inl (fun _ => 0))), (ao, .inl (cy 2, 1, .inr (.inl (fun _ => 0))))] sz) [(ao, .inl (cy 2, 1, .inr (.inl (fun _ => (u.2.1 0 : Int32).toInt64))))] t) (va_A [(ko, .inr (11, [.ref (ka 0), .ref (ka 1), .ref (ka 2), .int 0, .int 0, .ref (ka 5), .ref (ka 6), .ref (ka 7), .ref (ka 8), .ref (ka 9), .int 0, .ref (ka 11), .ref (ka 12), .ref (ka 13)])), ((ka 5), .inr (6, [.int 0, .int 0, .ref (ka 21), .ref (ka 22), .int 0, .int 0, .ref (ka 23), .int 0, .ref (ka 24), .int 0, .int 0, .ref (ka 25), .int 0, .ref (ka 26), .int 0, .int 0, .int 0, .int 0, .int 0])), ((ka 13), .inl (cy 0, 4, .inl (fun _ => 0))), (ao, .inl (cy 2, 1, .inr (.inl (fun _ => 0))))] sz)) 1 6 (va_A [(ko, .inr (11, [.ref (ka 0), .ref (ka 1), .ref (ka 2), .int 0, .int 0, .ref (ka 5), .ref (ka 6), .ref (ka 7), .ref (ka 8), .ref (ka 9), .int 0, .ref (ka 11), .ref (ka 12), .ref (ka 13)])), ((ka 5), .inr (6, [.int 0, .int 0, .ref (ka 21), .ref (ka 22), .int 0, .int 0, .ref (ka 23), .int 0, .ref (ka 24), .int 0, .int 0, .ref (ka 25), .int 0, .ref (ka 26), .int 0, .int 0, .int 0, .int 0, .int 0])), ((ka 13), .inl (cy 0, 4, .inl (fun _ => 0))), (ao, .inl (cy 2, 1, .inr (.inl (fun _ => 0))))] sz) := by
  refine va_MetW (cc := cL_meant) (maxL := 10) (ret := (some .int)) (by decide) rfl ?_
  intro p e s m args below meth c s₁ B hml hv
  obtain ⟨rfl, hsz, hP, hG, hD0, hT⟩ := hv
  have hx := B.exec
  have hb := B.bytes
  have hr := B.returns
  have hts := atoms_spec (ws := vs_w_meant) B.pre
  have hown : s.vm.findClass RL = some m.cls := findClass_of_methodNamed B.named
  have hlocks := B.notSynchronized
  subst hsz
  have hD := hD0.self (sz := s.heap.size)
  generalize hAe : va_A [(ko, .inr (11, [.ref (ka 0), .ref (ka 1), .ref (ka 2), .int 0, .int 0, .ref (ka 5), .ref (ka 6), .ref (ka 7), .ref (ka 8), .ref (ka 9), .int 0, .ref (ka 11), .ref (ka 12), .ref (ka 13)])), ((ka 5), .inr (6, [.int 0, .int 0, .ref (ka 21), .ref (ka 22), .int 0, .int 0, .ref (ka 23), .int 0, .ref (ka 24), .int 0, .int 0, .ref (ka 25), .int 0, .ref (ka 26), .int 0, .int 0, .int 0, .int 0, .int 0])), ((ka 13), .inl (cy 0, 4, .inl (fun _ => 0))), (ao, .inl (cy 2, 1, .inr (.inl (fun _ => 0))))] s.heap.size = A at hD hT ⊢
  have hA : ∀ q : Nat, s.heap.size ≤ q → A q := fun q h => by rw [← hAe]; exact Or.inr h
  have hS : va_S A s.heap s.heap [] := va_S.rf
  have hl0 := lv_entry ([.ref ko, .int p0, .int p1, .int p2, .int p3, .int p4, .int p5, .int p6, .ref ao]) (n := 10) (Nat.le_of_ble_eq_true rfl)
  rw [lg_entry_eq]
  generalize (lg_sl ([.ref ko, .int p0, .int p1, .int p2, .int p3, .int p4, .int p5, .int p6, .ref ao]) ++ List.replicate (10 - (lg_sl ([.ref ko, .int p0, .int p1, .int p2, .int p3, .int p4, .int p5, .int p6, .ref ao])).length) Slot.unset).toArray = ls at hl0 ⊢
  have hlv : lv_has ls 10 [(0, .ref ko), (1, .int p0), (2, .int p1), (3, .int p2), (4, .int p3), (5, .int p4), (6, .int p5), (7, .int p6), (8, .ref ao)] := hl0
  have gg_0 : GoodIn vs_w_meant (wsV RL 101 RX11 yX11_meant vs_c_meant) := goodIn_sub (fun w h => List.mem_cons_of_mem _ (List.mem_append_right _ (List.mem_append_left _ h))) (by decide +kernel)
  have xc28 := hts (.classLink RL 28 "java/lang/IndexOutOfBoundsException") (List.mem_of_getElem? (i := 1) rfl)
  have xc34 := hts (.classLink RL 34 "java/util/NoSuchElementException") (List.mem_of_getElem? (i := 2) rfl)
  have xc13 := hts (.classLink RL 13 "java/lang/IllegalArgumentException") (List.mem_of_getElem? (i := 3) rfl)
  have xc51 := hts (.classLink RL 51 "java/lang/IllegalStateException") (List.mem_of_getElem? (i := 4) rfl)
  have htab : c.exceptionTable.toList = [(⟨0, 20, 23, 28⟩ : ExceptionTableEntry), (⟨0, 20, 27, 34⟩ : ExceptionTableEntry), (⟨0, 20, 31, 13⟩ : ExceptionTableEntry), (⟨0, 20, 35, 51⟩ : ExceptionTableEntry)] := vx_table (x := yL_meant) B (hts (.codeWith yL_meant cL_meant 10 (some .int) [(0, 20, 23, 28), (0, 20, 27, 34), (0, 20, 31, 13), (0, 20, 35, 51)]) List.mem_cons_self)
  refine lv_aload hx hb dL_meant_0 (lv_at hlv 8 rfl) ?_
  refine lv_iconst (v := 0) hx hb dL_meant_2 (by decide) ?_
  refine lv_aload_n hx hb dL_meant_3 rfl (lv_at hlv 0 rfl) ?_
  refine lv_iload_n hx hb dL_meant_4 rfl (lv_at hlv 1 rfl) ?_
  refine lv_iload_n hx hb dL_meant_5 rfl (lv_at hlv 2 rfl) ?_
  refine lv_iload_n hx hb dL_meant_6 rfl (lv_at hlv 3 rfl) ?_
  refine lv_iload hx hb dL_meant_7 (lv_at hlv 4 rfl) ?_
  refine lv_iload hx hb dL_meant_9 (lv_at hlv 5 rfl) ?_
  refine lv_iload hx hb dL_meant_11 (lv_at hlv 6 rfl) ?_
  refine lv_iload hx hb dL_meant_13 (lv_at hlv 7 rfl) ?_
  refine cjx_i (wr := [(ao, .inl (cy 2, 1, .inr (.inl (fun _ => 0))))]) (vx_runV (As := [.int p0, .int p1, .int p2, .int p3, .int p4, .int p5, .int p6]) (rest := [.int 0, .ref ao]) ⟨hx, hb, hml, hown, hts⟩ (c_meant l hl D cy sa ko ka p0 p1 p2 p3 p4 p5 p6 s.heap.size) (cwV 7 hts gg_0 rfl rfl rfl (by decide +kernel) ⟨Nat.le_of_ble_eq_true rfl, Nat.le_of_ble_eq_true rfl⟩) ⟨pcW.blind, (va_recv hG.1 hP (ci := 11) (q0 := 0) rfl rfl), (pcW.mk hP hD hS hA hG hT [0, 1, 2] rfl (by decide))⟩ rfl rfl hlv.1 rfl (lv_room (Nat.le_of_ble_eq_true rfl)) dL_meant_15 ⟨Nat.le_of_ble_eq_true rfl, Nat.le_of_ble_eq_true rfl⟩) hP hD hS hA [0, 1, 2] [3] rfl rfl (by decide) (by decide) (fun E ce q9 H locs hp hP hD hS h1 h2 h3 => ?_) (fun r1 u1 H locs hw1 hP hD hS => ?_)
  · obtain ⟨rfl, hg1⟩ := hp
    refine vx_catch (name := "java/lang/IndexOutOfBoundsException") hown [] (⟨0, 20, 23, 28⟩ : ExceptionTableEntry) [(⟨0, 20, 27, 34⟩ : ExceptionTableEntry), (⟨0, 20, 31, 13⟩ : ExceptionTableEntry), (⟨0, 20, 35, 51⟩ : ExceptionTableEntry)] htab (fun z hz => by simp at hz) (by decide) (by decide) xc28 (va_Nw.use rfl (hG.2.2.2.1 _ (List.mem_of_getElem? (i := 0) rfl))) h1 h2 h3 ?_
    refine lv_astore (lv' := [(9, .ref q9), (0, .ref ko), (1, .int p0), (2, .int p1), (3, .int p2), (4, .int p3), (5, .int p4), (6, .int p5), (7, .int p6), (8, .ref ao)]) hx hb dL_meant_23 hlv (by decide) rfl (fun ls hlv => ?_)
    refine lv_iconst (v := 1) hx hb dL_meant_25 (by decide) ?_
    obtain ⟨hP, hD⟩ := arl 0 (fun _ => (0 : Int32).toInt64) hP hD rfl arl_0
    have hP : va_P D vwCl [(ao, .inl (cy 2, 1, .inr (.inl (fun _ => (0 : Int32).toInt64))))] H := hP
    have hD : va_D A [(ao, .inl (cy 2, 1, .inr (.inl (fun _ => (0 : Int32).toInt64))))] := hD
    refine W.widen (k := 1) (n := 6) (Nat.le_of_ble_eq_true rfl) (Nat.le_of_ble_eq_true rfl) ?_
    exact W.iret (v := 1) hx hb hr (fun t ht hW => ⟨⟨1, ((fun k => ([] : List Nat).getD k 0), (fun k => ([0] : List Int32).getD k 0), (fun k => ([] : List (Nat → Int32)).getD k (fun _ => 0))), rfl, (by first | (exact (by rfl))), by rw [ht]; exact hP.sub [0] rfl, hD.sub [0] (by decide) rfl⟩, hS.F ht⟩) hS.2.2 dL_meant_26
  · exact (hw1).elim
