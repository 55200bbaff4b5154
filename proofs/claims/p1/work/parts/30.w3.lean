theorem dL_blame_0 : decode cL_blame 0 = .ok (.aload 5, 2) := by decide +kernel
theorem dL_blame_17 : decode cL_blame 17 = .ok (.astore 6, 2) := by decide +kernel
theorem dL_blame_19 : decode cL_blame 19 = .ok (.iconst 1, 1) := by decide +kernel
theorem dL_blame_2 : decode cL_blame 2 = .ok (.iconst 0, 1) := by decide +kernel
theorem dL_blame_20 : decode cL_blame 20 = .ok (.ireturn, 1) := by decide +kernel
theorem dL_blame_3 : decode cL_blame 3 = .ok (.aload_n 0, 1) := by decide +kernel
theorem dL_blame_4 : decode cL_blame 4 = .ok (.iload_n 1, 1) := by decide +kernel
theorem dL_blame_5 : decode cL_blame 5 = .ok (.iload_n 2, 1) := by decide +kernel
theorem dL_blame_6 : decode cL_blame 6 = .ok (.iload_n 3, 1) := by decide +kernel
theorem dL_blame_7 : decode cL_blame 7 = .ok (.iload 4, 2) := by decide +kernel
theorem dL_blame_9 : decode cL_blame 9 = .ok (.invokevirtual 80, 3) := by decide +kernel
theorem dL_deep_0 : decode cL_deep 0 = .ok (.aload 4, 2) := by decide +kernel
theorem dL_deep_15 : decode cL_deep 15 = .ok (.astore 5, 2) := by decide +kernel
theorem dL_deep_17 : decode cL_deep 17 = .ok (.iconst 1, 1) := by decide +kernel
theorem dL_deep_18 : decode cL_deep 18 = .ok (.ireturn, 1) := by decide +kernel
theorem dL_deep_2 : decode cL_deep 2 = .ok (.iconst 0, 1) := by decide +kernel
theorem dL_deep_3 : decode cL_deep 3 = .ok (.aload_n 0, 1) := by decide +kernel
theorem dL_deep_4 : decode cL_deep 4 = .ok (.iload_n 1, 1) := by decide +kernel
theorem dL_deep_5 : decode cL_deep 5 = .ok (.iload_n 2, 1) := by decide +kernel
theorem dL_deep_6 : decode cL_deep 6 = .ok (.iload_n 3, 1) := by decide +kernel
theorem dL_deep_7 : decode cL_deep 7 = .ok (.invokevirtual 73, 3) := by decide +kernel
theorem dL_look_0 : decode cL_look 0 = .ok (.aload_n 3, 1) := by decide +kernel
theorem dL_look_1 : decode cL_look 1 = .ok (.iconst 0, 1) := by decide +kernel
theorem dL_look_13 : decode cL_look 13 = .ok (.astore 4, 2) := by decide +kernel
theorem dL_look_15 : decode cL_look 15 = .ok (.iconst 1, 1) := by decide +kernel
theorem dL_look_16 : decode cL_look 16 = .ok (.ireturn, 1) := by decide +kernel
theorem dL_look_2 : decode cL_look 2 = .ok (.aload_n 0, 1) := by decide +kernel
theorem dL_look_3 : decode cL_look 3 = .ok (.iload_n 1, 1) := by decide +kernel
theorem dL_look_4 : decode cL_look 4 = .ok (.iload_n 2, 1) := by decide +kernel
theorem dL_look_5 : decode cL_look 5 = .ok (.invokevirtual 83, 3) := by decide +kernel
theorem dL_stand_0 : decode cL_stand 0 = .ok (.aload 4, 2) := by decide +kernel
theorem dL_stand_15 : decode cL_stand 15 = .ok (.astore 5, 2) := by decide +kernel
theorem dL_stand_17 : decode cL_stand 17 = .ok (.iconst 1, 1) := by decide +kernel
theorem dL_stand_18 : decode cL_stand 18 = .ok (.ireturn, 1) := by decide +kernel
theorem dL_stand_2 : decode cL_stand 2 = .ok (.iconst 0, 1) := by decide +kernel
theorem dL_stand_3 : decode cL_stand 3 = .ok (.aload_n 0, 1) := by decide +kernel
theorem dL_stand_4 : decode cL_stand 4 = .ok (.iload_n 1, 1) := by decide +kernel
theorem dL_stand_5 : decode cL_stand 5 = .ok (.iload_n 2, 1) := by decide +kernel
theorem dL_stand_6 : decode cL_stand 6 = .ok (.iload_n 3, 1) := by decide +kernel
theorem dL_stand_7 : decode cL_stand 7 = .ok (.invokevirtual 86, 3) := by decide +kernel
theorem dL_when_0 : decode cL_when 0 = .ok (.aload 5, 2) := by decide +kernel
theorem dL_when_17 : decode cL_when 17 = .ok (.astore 6, 2) := by decide +kernel
theorem dL_when_19 : decode cL_when 19 = .ok (.iconst 1, 1) := by decide +kernel
theorem dL_when_2 : decode cL_when 2 = .ok (.iconst 0, 1) := by decide +kernel
theorem dL_when_20 : decode cL_when 20 = .ok (.ireturn, 1) := by decide +kernel
theorem dL_when_3 : decode cL_when 3 = .ok (.aload_n 0, 1) := by decide +kernel
theorem dL_when_4 : decode cL_when 4 = .ok (.iload_n 1, 1) := by decide +kernel
theorem dL_when_5 : decode cL_when 5 = .ok (.iload_n 2, 1) := by decide +kernel
theorem dL_when_6 : decode cL_when 6 = .ok (.iload_n 3, 1) := by decide +kernel
theorem dL_when_7 : decode cL_when 7 = .ok (.iload 4, 2) := by decide +kernel
theorem dL_when_9 : decode cL_when 9 = .ok (.invokevirtual 76, 3) := by decide +kernel
def vs_w_deep : List Cond := .codeWith yL_deep cL_deep 6 (some .int) [(0, 12, 15, 28), (0, 12, 19, 34), (0, 12, 23, 51)] :: (([.classLink RL 28 "java/lang/IndexOutOfBoundsException", .classLink RL 34 "java/util/NoSuchElementException", .classLink RL 51 "java/lang/IllegalStateException"] : List Cond) ++ ((wsV RL 73 RX11 yX11_deep vs_c_deep) ++ ([])))
set_option maxHeartbeats 4000000 in
set_option maxRecDepth 100000 in
theorem w_deep (l : Launch) (hl : l.stackTraces = false) (D : va_G) (cy : Nat → ClassId) (sa : Nat → Nat) (ko : Nat) (ka : Nat → Nat) (p0 p1 p2 : Int32) (ao : Nat) (sz : Nat) : Met l yL_deep vs_w_deep ({ frames := 8, cells := 1, slots := 6, locals := 145 }) (va_Pc [.ref ko, .int p0, .int p1, .int p2, .ref ao] (pcW D cy sa sz [(ko, .inr (11, [.ref (ka 0), .ref (ka 1), .ref (ka 2), .int 0, .int 0, .ref (ka 5), .ref (ka 6), .ref (ka 7), .ref (ka 8), .ref (ka 9), .int 0, .ref (ka 11), .ref (ka 12), .ref (ka 13)])), ((ka 5), .inr (6, [.int 0, .int 0, .ref (ka 21), .ref (ka 22), .int 0, .int 0, .ref (ka 23), .int 0, .ref (ka 24), .int 0, .int 0, .ref (ka 25), .int 0, .ref (ka 26), .int 0, .int 0, .int 0, .int 0, .int 0])), ((ka 13), .inl (cy 0, 4, .inl (fun _ => 0))), (ao, .inl (cy 2, 1, .inr (.inl (fun _ => 0))))])) (va_Qi (fun (r : Int32) (u : SU) => (r = 1)) (fun u t => atW D (va_A [(ko, .inr (11, [.ref (ka 0), .ref (ka 1), .ref (ka 2), .int 0, .int 0, .ref (ka 5), .ref (ka 6), .ref (ka 7), .ref (ka 8), .ref (ka 9), .int 0, .ref (ka 11), .ref (ka 12), .ref (ka 13)])), ((ka 5), .inr (6, [.int 0, .int 0, .ref (ka 21), .ref (ka 22), .int 0, .int 0, .ref (ka 23), .int 0, .ref (ka 24), .int 0, .int 0, .ref (ka 25), .int 0, .ref (ka 26), .int 0, .int 0, .int 0, .int 0, .int 0])), ((ka 13), .inl (cy 0, 4, .inl (fun _ => 0))), (ao, .inl (cy 2, 1, .inr (.inl (fun _ => 0))))] sz) [(ao, .inl (cy 2, 1, .inr (.inl (fun _ => (u.2.1 0 : Int32).toInt64))))] t) (va_A [(ko, .inr (11, [.ref (ka 0), .ref (ka 1), .ref (ka 2), .int 0, .int 0, .ref (ka 5), .ref (ka 6), .ref (ka 7), .ref (ka 8), .ref (ka 9), .int 0, .ref (ka 11), .ref (ka 12), .ref (ka 13)])), ((ka 5), .inr (6, [.int 0, .int 0, .ref (ka 21), .ref (ka 22), .int 0, .int 0, .ref (ka 23), .int 0, .ref (ka 24), .int 0, .int 0, .ref (ka 25), .int 0, .ref (ka 26), .int 0, .int 0, .int 0, .int 0, .int 0])), ((ka 13), .inl (cy 0, 4, .inl (fun _ => 0))), (ao, .inl (cy 2, 1, .inr (.inl (fun _ => 0))))] sz)) 1 6 (va_A [(ko, .inr (11, [.ref (ka 0), .ref (ka 1), .ref (ka 2), .int 0, .int 0, .ref (ka 5), .ref (ka 6), .ref (ka 7), .ref (ka 8), .ref (ka 9), .int 0, .ref (ka 11), .ref (ka 12), .ref (ka 13)])), ((ka 5), .inr (6, [.int 0, .int 0, .ref (ka 21), .ref (ka 22), .int 0, .int 0, .ref (ka 23), .int 0, .ref (ka 24), .int 0, .int 0, .ref (ka 25), .int 0, .ref (ka 26), .int 0, .int 0, .int 0, .int 0, .int 0])), ((ka 13), .inl (cy 0, 4, .inl (fun _ => 0))), (ao, .inl (cy 2, 1, .inr (.inl (fun _ => 0))))] sz) := by
  refine va_MetW (cc := cL_deep) (maxL := 6) (ret := (some .int)) (by decide) rfl ?_
  intro p e s m args below meth c s₁ B hml hv
  obtain ⟨rfl, hsz, hP, hG, hD0, hT⟩ := hv
  have hx := B.exec
  have hb := B.bytes
  have hr := B.returns
  have hts := atoms_spec (ws := vs_w_deep) B.pre
  have hown : s.vm.findClass RL = some m.cls := findClass_of_methodNamed B.named
  have hlocks := B.notSynchronized
  subst hsz
  have hD := hD0.self (sz := s.heap.size)
  generalize hAe : va_A [(ko, .inr (11, [.ref (ka 0), .ref (ka 1), .ref (ka 2), .int 0, .int 0, .ref (ka 5), .ref (ka 6), .ref (ka 7), .ref (ka 8), .ref (ka 9), .int 0, .ref (ka 11), .ref (ka 12), .ref (ka 13)])), ((ka 5), .inr (6, [.int 0, .int 0, .ref (ka 21), .ref (ka 22), .int 0, .int 0, .ref (ka 23), .int 0, .ref (ka 24), .int 0, .int 0, .ref (ka 25), .int 0, .ref (ka 26), .int 0, .int 0, .int 0, .int 0, .int 0])), ((ka 13), .inl (cy 0, 4, .inl (fun _ => 0))), (ao, .inl (cy 2, 1, .inr (.inl (fun _ => 0))))] s.heap.size = A at hD hT ⊢
  have hA : ∀ q : Nat, s.heap.size ≤ q → A q := fun q h => by rw [← hAe]; exact Or.inr h
  have hS : va_S A s.heap s.heap [] := va_S.rf
  have hl0 := lv_entry ([.ref ko, .int p0, .int p1, .int p2, .ref ao]) (n := 6) (Nat.le_of_ble_eq_true rfl)
  rw [lg_entry_eq]
  generalize (lg_sl ([.ref ko, .int p0, .int p1, .int p2, .ref ao]) ++ List.replicate (6 - (lg_sl ([.ref ko, .int p0, .int p1, .int p2, .ref ao])).length) Slot.unset).toArray = ls at hl0 ⊢
  have hlv : lv_has ls 6 [(0, .ref ko), (1, .int p0), (2, .int p1), (3, .int p2), (4, .ref ao)] := hl0
  have gg_0 : GoodIn vs_w_deep (wsV RL 73 RX11 yX11_deep vs_c_deep) := goodIn_sub (fun w h => List.mem_cons_of_mem _ (List.mem_append_right _ (List.mem_append_left _ h))) (by decide +kernel)
  have xc28 := hts (.classLink RL 28 "java/lang/IndexOutOfBoundsException") (List.mem_of_getElem? (i := 1) rfl)
  have xc34 := hts (.classLink RL 34 "java/util/NoSuchElementException") (List.mem_of_getElem? (i := 2) rfl)
  have xc51 := hts (.classLink RL 51 "java/lang/IllegalStateException") (List.mem_of_getElem? (i := 3) rfl)
  have htab : c.exceptionTable.toList = [(⟨0, 12, 15, 28⟩ : ExceptionTableEntry), (⟨0, 12, 19, 34⟩ : ExceptionTableEntry), (⟨0, 12, 23, 51⟩ : ExceptionTableEntry)] := vx_table (x := yL_deep) B (hts (.codeWith yL_deep cL_deep 6 (some .int) [(0, 12, 15, 28), (0, 12, 19, 34), (0, 12, 23, 51)]) List.mem_cons_self)
  refine lv_aload hx hb dL_deep_0 (lv_at hlv 4 rfl) ?_
  refine lv_iconst (v := 0) hx hb dL_deep_2 (by decide) ?_
  refine lv_aload_n hx hb dL_deep_3 rfl (lv_at hlv 0 rfl) ?_
  refine lv_iload_n hx hb dL_deep_4 rfl (lv_at hlv 1 rfl) ?_
  refine lv_iload_n hx hb dL_deep_5 rfl (lv_at hlv 2 rfl) ?_
  refine lv_iload_n hx hb dL_deep_6 rfl (lv_at hlv 3 rfl) ?_
  refine cjx_i (wr := [(ao, .inl (cy 2, 1, .inr (.inl (fun _ => 0))))]) (vx_runV (As := [.int p0, .int p1, .int p2]) (rest := [.int 0, .ref ao]) ⟨hx, hb, hml, hown, hts⟩ (c_deep l hl D cy sa ko ka p0 p1 p2 s.heap.size) (cwV 3 hts gg_0 rfl rfl rfl (by decide +kernel) ⟨Nat.le_of_ble_eq_true rfl, Nat.le_of_ble_eq_true rfl⟩) ⟨pcW.blind, (va_recv hG.1 hP (ci := 11) (q0 := 0) rfl rfl), (pcW.mk hP hD hS hA hG hT [0, 1, 2] rfl (by decide))⟩ rfl rfl hlv.1 rfl (lv_room (Nat.le_of_ble_eq_true rfl)) dL_deep_7 ⟨Nat.le_of_ble_eq_true rfl, Nat.le_of_ble_eq_true rfl⟩) hP hD hS hA [0, 1, 2] [3] rfl rfl (by decide) (by decide) (fun E ce q9 H locs hp hP hD hS h1 h2 h3 => ?_) (fun r1 u1 H locs hw1 hP hD hS => ?_)
  · obtain ⟨rfl, hg1⟩ := hp
    refine vx_catch (name := "java/lang/IndexOutOfBoundsException") hown [] (⟨0, 12, 15, 28⟩ : ExceptionTableEntry) [(⟨0, 12, 19, 34⟩ : ExceptionTableEntry), (⟨0, 12, 23, 51⟩ : ExceptionTableEntry)] htab (fun z hz => by simp at hz) (by decide) (by decide) xc28 (va_Nw.use rfl (hG.2.2.2.1 _ (List.mem_of_getElem? (i := 0) rfl))) h1 h2 h3 ?_
    refine lv_astore (lv' := [(5, .ref q9), (0, .ref ko), (1, .int p0), (2, .int p1), (3, .int p2), (4, .ref ao)]) hx hb dL_deep_15 hlv (by decide) rfl (fun ls hlv => ?_)
    refine lv_iconst (v := 1) hx hb dL_deep_17 (by decide) ?_
    obtain ⟨hP, hD⟩ := arl 0 (fun _ => (0 : Int32).toInt64) hP hD rfl arl_0
    have hP : va_P D vwCl [(ao, .inl (cy 2, 1, .inr (.inl (fun _ => (0 : Int32).toInt64))))] H := hP
    have hD : va_D A [(ao, .inl (cy 2, 1, .inr (.inl (fun _ => (0 : Int32).toInt64))))] := hD
    refine W.widen (k := 1) (n := 6) (Nat.le_of_ble_eq_true rfl) (Nat.le_of_ble_eq_true rfl) ?_
    exact W.iret (v := 1) hx hb hr (fun t ht hW => ⟨⟨1, ((fun k => ([] : List Nat).getD k 0), (fun k => ([0] : List Int32).getD k 0), (fun k => ([] : List (Nat → Int32)).getD k (fun _ => 0))), rfl, (by first | (exact (by rfl))), by rw [ht]; exact hP.sub [0] rfl, hD.sub [0] (by decide) rfl⟩, hS.F ht⟩) hS.2.2 dL_deep_18
  · exact (hw1).elim
def vs_w_when : List Cond := .codeWith yL_when cL_when 7 (some .int) [(0, 14, 17, 28), (0, 14, 21, 34), (0, 14, 25, 13), (0, 14, 29, 51)] :: (([.classLink RL 28 "java/lang/IndexOutOfBoundsException", .classLink RL 34 "java/util/NoSuchElementException", .classLink RL 13 "java/lang/IllegalArgumentException", .classLink RL 51 "java/lang/IllegalStateException"] : List Cond) ++ ((wsV RL 76 RX11 yX11_when vs_c_when) ++ ([])))
set_option maxHeartbeats 4000000 in
set_option maxRecDepth 100000 in
theorem w_when (l : Launch) (hl : l.stackTraces = false) (D : va_G) (cy : Nat → ClassId) (sa : Nat → Nat) (ko : Nat) (ka : Nat → Nat) (p0 p1 p2 p3 : Int32) (ao : Nat) (sz : Nat) : Met l yL_when vs_w_when ({ frames := 8, cells := 1, slots := 6, locals := 146 }) (va_Pc [.ref ko, .int p0, .int p1, .int p2, .int p3, .ref ao] (pcW D cy sa sz [(ko, .inr (11, [.ref (ka 0), .ref (ka 1), .ref (ka 2), .int 0, .int 0, .ref (ka 5), .ref (ka 6), .ref (ka 7), .ref (ka 8), .ref (ka 9), .int 0, .ref (ka 11), .ref (ka 12), .ref (ka 13)])), ((ka 5), .inr (6, [.int 0, .int 0, .ref (ka 21), .ref (ka 22), .int 0, .int 0, .ref (ka 23), .int 0, .ref (ka 24), .int 0, .int 0, .ref (ka 25), .int 0, .ref (ka 26), .int 0, .int 0, .int 0, .int 0, .int 0])), ((ka 13), .inl (cy 0, 4, .inl (fun _ => 0))), (ao, .inl (cy 2, 1, .inr (.inl (fun _ => 0))))])) (va_Qi (fun (r : Int32) (u : SU) => (r = 1)) (fun u t => atW D (va_A [(ko, .inr (11, [.ref (ka 0), .ref (ka 1), .ref (ka 2), .int 0, .int 0, .ref (ka 5), .ref (ka 6), .ref (ka 7), .ref (ka 8), .ref (ka 9), .int 0, .ref (ka 11), .ref (ka 12), .ref (ka 13)])), ((ka 5), .inr (6, [.int 0, .int 0, .ref (ka 21), .ref (ka 22), .int 0, .int 0, .ref (ka 23), .int 0, .ref (ka 24), .int 0, .int 0, .ref (ka 25), .int 0, .ref (ka 26), .int 0, .int 0, .int 0, .int 0, .int 0])), ((ka 13), .inl (cy 0, 4, .inl (fun _ => 0))), (ao, .inl (cy 2, 1, .inr (.inl (fun _ => 0))))] sz) [(ao, .inl (cy 2, 1, .inr (.inl (fun _ => (u.2.1 0 : Int32).toInt64))))] t) (va_A [(ko, .inr (11, [.ref (ka 0), .ref (ka 1), .ref (ka 2), .int 0, .int 0, .ref (ka 5), .ref (ka 6), .ref (ka 7), .ref (ka 8), .ref (ka 9), .int 0, .ref (ka 11), .ref (ka 12), .ref (ka 13)])), ((ka 5), .inr (6, [.int 0, .int 0, .ref (ka 21), .ref (ka 22), .int 0, .int 0, .ref (ka 23), .int 0, .ref (ka 24), .int 0, .int 0, .ref (ka 25), .int 0, .ref (ka 26), .int 0, .int 0, .int 0, .int 0, .int 0])), ((ka 13), .inl (cy 0, 4, .inl (fun _ => 0))), (ao, .inl (cy 2, 1, .inr (.inl (fun _ => 0))))] sz)) 1 6 (va_A [(ko, .inr (11, [.ref (ka 0), .ref (ka 1), .ref (ka 2), .int 0, .int 0, .ref (ka 5), .ref (ka 6), .ref (ka 7), .ref (ka 8), .ref (ka 9), .int 0, .ref (ka 11), .ref (ka 12), .ref (ka 13)])), ((ka 5), .inr (6, [.int 0, .int 0, .ref (ka 21), .ref (ka 22), .int 0, .int 0, .ref (ka 23), .int 0, .ref (ka 24), .int 0, .int 0, .ref (ka 25), .int 0, .ref (ka 26), .int 0, .int 0, .int 0, .int 0, .int 0])), ((ka 13), .inl (cy 0, 4, .inl (fun _ => 0))), (ao, .inl (cy 2, 1, .inr (.inl (fun _ => 0))))] sz) := by
  refine va_MetW (cc := cL_when) (maxL := 7) (ret := (some .int)) (by decide) rfl ?_
  intro p e s m args below meth c s₁ B hml hv
  obtain ⟨rfl, hsz, hP, hG, hD0, hT⟩ := hv
  have hx := B.exec
  have hb := B.bytes
  have hr := B.returns
  have hts := atoms_spec (ws := vs_w_when) B.pre
  have hown : s.vm.findClass RL = some m.cls := findClass_of_methodNamed B.named
  have hlocks := B.notSynchronized
  subst hsz
  have hD := hD0.self (sz := s.heap.size)
  generalize hAe : va_A [(ko, .inr (11, [.ref (ka 0), .ref (ka 1), .ref (ka 2), .int 0, .int 0, .ref (ka 5), .ref (ka 6), .ref (ka 7), .ref (ka 8), .ref (ka 9), .int 0, .ref (ka 11), .ref (ka 12), .ref (ka 13)])), ((ka 5), .inr (6, [.int 0, .int 0, .ref (ka 21), .ref (ka 22), .int 0, .int 0, .ref (ka 23), .int 0, .ref (ka 24), .int 0, .int 0, .ref (ka 25), .int 0, .ref (ka 26), .int 0, .int 0, .int 0, .int 0, .int 0])), ((ka 13), .inl (cy 0, 4, .inl (fun _ => 0))), (ao, .inl (cy 2, 1, .inr (.inl (fun _ => 0))))] s.heap.size = A at hD hT ⊢
  have hA : ∀ q : Nat, s.heap.size ≤ q → A q := fun q h => by rw [← hAe]; exact Or.inr h
  have hS : va_S A s.heap s.heap [] := va_S.rf
  have hl0 := lv_entry ([.ref ko, .int p0, .int p1, .int p2, .int p3, .ref ao]) (n := 7) (Nat.le_of_ble_eq_true rfl)
  rw [lg_entry_eq]
  generalize (lg_sl ([.ref ko, .int p0, .int p1, .int p2, .int p3, .ref ao]) ++ List.replicate (7 - (lg_sl ([.ref ko, .int p0, .int p1, .int p2, .int p3, .ref ao])).length) Slot.unset).toArray = ls at hl0 ⊢
  have hlv : lv_has ls 7 [(0, .ref ko), (1, .int p0), (2, .int p1), (3, .int p2), (4, .int p3), (5, .ref ao)] := hl0
  have gg_0 : GoodIn vs_w_when (wsV RL 76 RX11 yX11_when vs_c_when) := goodIn_sub (fun w h => List.mem_cons_of_mem _ (List.mem_append_right _ (List.mem_append_left _ h))) (by decide +kernel)
  have xc28 := hts (.classLink RL 28 "java/lang/IndexOutOfBoundsException") (List.mem_of_getElem? (i := 1) rfl)
  have xc34 := hts (.classLink RL 34 "java/util/NoSuchElementException") (List.mem_of_getElem? (i := 2) rfl)
  have xc13 := hts (.classLink RL 13 "java/lang/IllegalArgumentException") (List.mem_of_getElem? (i := 3) rfl)
  have xc51 := hts (.classLink RL 51 "java/lang/IllegalStateException") (List.mem_of_getElem? (i := 4) rfl)
  have htab : c.exceptionTable.toList = [(⟨0, 14, 17, 28⟩ : ExceptionTableEntry), (⟨0, 14, 21, 34⟩ : ExceptionTableEntry), (⟨0, 14, 25, 13⟩ : ExceptionTableEntry), (⟨0, 14, 29, 51⟩ : ExceptionTableEntry)] := vx_table (x := yL_when) B (hts (.codeWith yL_when cL_when 7 (some .int) [(0, 14, 17, 28), (0, 14, 21, 34), (0, 14, 25, 13), (0, 14, 29, 51)]) List.mem_cons_self)
  refine lv_aload hx hb dL_when_0 (lv_at hlv 5 rfl) ?_
  refine lv_iconst (v := 0) hx hb dL_when_2 (by decide) ?_
  refine lv_aload_n hx hb dL_when_3 rfl (lv_at hlv 0 rfl) ?_
  refine lv_iload_n hx hb dL_when_4 rfl (lv_at hlv 1 rfl) ?_
  refine lv_iload_n hx hb dL_when_5 rfl (lv_at hlv 2 rfl) ?_
  refine lv_iload_n hx hb dL_when_6 rfl (lv_at hlv 3 rfl) ?_
  refine lv_iload hx hb dL_when_7 (lv_at hlv 4 rfl) ?_
  refine cjx_i (wr := [(ao, .inl (cy 2, 1, .inr (.inl (fun _ => 0))))]) (vx_runV (As := [.int p0, .int p1, .int p2, .int p3]) (rest := [.int 0, .ref ao]) ⟨hx, hb, hml, hown, hts⟩ (c_when l hl D cy sa ko ka p0 p1 p2 p3 s.heap.size) (cwV 4 hts gg_0 rfl rfl rfl (by decide +kernel) ⟨Nat.le_of_ble_eq_true rfl, Nat.le_of_ble_eq_true rfl⟩) ⟨pcW.blind, (va_recv hG.1 hP (ci := 11) (q0 := 0) rfl rfl), (pcW.mk hP hD hS hA hG hT [0, 1, 2] rfl (by decide))⟩ rfl rfl hlv.1 rfl (lv_room (Nat.le_of_ble_eq_true rfl)) dL_when_9 ⟨Nat.le_of_ble_eq_true rfl, Nat.le_of_ble_eq_true rfl⟩) hP hD hS hA [0, 1, 2] [3] rfl rfl (by decide) (by decide) (fun E ce q9 H locs hp hP hD hS h1 h2 h3 => ?_) (fun r1 u1 H locs hw1 hP hD hS => ?_)
  · obtain ⟨rfl, hg1⟩ := hp
    refine vx_catch (name := "java/lang/IndexOutOfBoundsException") hown [] (⟨0, 14, 17, 28⟩ : ExceptionTableEntry) [(⟨0, 14, 21, 34⟩ : ExceptionTableEntry), (⟨0, 14, 25, 13⟩ : ExceptionTableEntry), (⟨0, 14, 29, 51⟩ : ExceptionTableEntry)] htab (fun z hz => by simp at hz) (by decide) (by decide) xc28 (va_Nw.use rfl (hG.2.2.2.1 _ (List.mem_of_getElem? (i := 0) rfl))) h1 h2 h3 ?_
    refine lv_astore (lv' := [(6, .ref q9), (0, .ref ko), (1, .int p0), (2, .int p1), (3, .int p2), (4, .int p3), (5, .ref ao)]) hx hb dL_when_17 hlv (by decide) rfl (fun ls hlv => ?_)
    refine lv_iconst (v := 1) hx hb dL_when_19 (by decide) ?_
    obtain ⟨hP, hD⟩ := arl 0 (fun _ => (0 : Int32).toInt64) hP hD rfl arl_0
    have hP : va_P D vwCl [(ao, .inl (cy 2, 1, .inr (.inl (fun _ => (0 : Int32).toInt64))))] H := hP
    have hD : va_D A [(ao, .inl (cy 2, 1, .inr (.inl (fun _ => (0 : Int32).toInt64))))] := hD
    refine W.widen (k := 1) (n := 6) (Nat.le_of_ble_eq_true rfl) (Nat.le_of_ble_eq_true rfl) ?_
    exact W.iret (v := 1) hx hb hr (fun t ht hW => ⟨⟨1, ((fun k => ([] : List Nat).getD k 0), (fun k => ([0] : List Int32).getD k 0), (fun k => ([] : List (Nat → Int32)).getD k (fun _ => 0))), rfl, (by first | (exact (by rfl))), by rw [ht]; exact hP.sub [0] rfl, hD.sub [0] (by decide) rfl⟩, hS.F ht⟩) hS.2.2 dL_when_20
  · exact (hw1).elim
def vs_w_blame : List Cond := .codeWith yL_blame cL_blame 7 (some .int) [(0, 14, 17, 28), (0, 14, 21, 34), (0, 14, 25, 13), (0, 14, 29, 51)] :: (([.classLink RL 28 "java/lang/IndexOutOfBoundsException", .classLink RL 34 "java/util/NoSuchElementException", .classLink RL 13 "java/lang/IllegalArgumentException", .classLink RL 51 "java/lang/IllegalStateException"] : List Cond) ++ ((wsV RL 80 RX11 yX11_blame vs_c_blame) ++ ([])))
set_option maxHeartbeats 4000000 in
set_option maxRecDepth 100000 in
theorem w_blame (l : Launch) (hl : l.stackTraces = false) (D : va_G) (cy : Nat → ClassId) (sa : Nat → Nat) (ko : Nat) (ka : Nat → Nat) (p0 p1 p2 p3 : Int32) (ao : Nat) (sz : Nat) : Met l yL_blame vs_w_blame ({ frames := 8, cells := 1, slots := 6, locals := 146 }) (va_Pc [.ref ko, .int p0, .int p1, .int p2, .int p3, .ref ao] (pcW D cy sa sz [(ko, .inr (11, [.ref (ka 0), .ref (ka 1), .ref (ka 2), .int 0, .int 0, .ref (ka 5), .ref (ka 6), .ref (ka 7), .ref (ka 8), .ref (ka 9), .int 0, .ref (ka 11), .ref (ka 12), .ref (ka 13)])), ((ka 5), .inr (6, [.int 0, .int 0, .ref (ka 21), .ref (ka 22), .int 0, .int 0, .ref (ka 23), .int 0, .ref (ka 24), .int 0, .int 0, .ref (ka 25), .int 0, .ref (ka 26), .int 0, .int 0, .int 0, .int 0, .int 0])), ((ka 13), .inl (cy 0, 4, .inl (fun _ => 0))), (ao, .inl (cy 2, 1, .inr (.inl (fun _ => 0))))])) (va_Qi (fun (r : Int32) (u : SU) => (r = 1)) (fun u t => atW D (va_A [(ko, .inr (11, [.ref (ka 0), .ref (ka 1), .ref (ka 2), .int 0, .int 0, .ref (ka 5), .ref (ka 6), .ref (ka 7), .ref (ka 8), .ref (ka 9), .int 0, .ref (ka 11), .ref (ka 12), .ref (ka 13)])), ((ka 5), .inr (6, [.int 0, .int 0, .ref (ka 21), .ref (ka 22), .int 0, .int 0, .ref (ka 23), .int 0, .ref (ka 24), .int 0, .int 0, .ref (ka 25), .int 0, .ref (ka 26), .int 0, .int 0, .int 0, .int 0, .int 0])), ((ka 13), .inl (cy 0, 4, .inl (fun _ => 0))), (ao, .inl (cy 2, 1, .inr (.inl (fun _ => 0))))] sz) [(ao, .inl (cy 2, 1, .inr (.inl (fun _ => (u.2.1 0 : Int32).toInt64))))] t) (va_A [(ko, .inr (11, [.ref (ka 0), .ref (ka 1), .ref (ka 2), .int 0, .int 0, .ref (ka 5), .ref (ka 6), .ref (ka 7), .ref (ka 8), .ref (ka 9), .int 0, .ref (ka 11), .ref (ka 12), .ref (ka 13)])), ((ka 5), .inr (6, [.int 0, .int 0, .ref (ka 21), .ref (ka 22), .int 0, .int 0, .ref (ka 23), .int 0, .ref (ka 24), .int 0, .int 0, .ref (ka 25), .int 0, .ref (ka 26), .int 0, .int 0, .int 0, .int 0, .int 0])), ((ka 13), .inl (cy 0, 4, .inl (fun _ => 0))), (ao, .inl (cy 2, 1, .inr (.inl (fun _ => 0))))] sz)) 1 6 (va_A [(ko, .inr (11, [.ref (ka 0), .ref (ka 1), .ref (ka 2), .int 0, .int 0, .ref (ka 5), .ref (ka 6), .ref (ka 7), .ref (ka 8), .ref (ka 9), .int 0, .ref (ka 11), .ref (ka 12), .ref (ka 13)])), ((ka 5), .inr (6, [.int 0, .int 0, .ref (ka 21), .ref (ka 22), .int 0, .int 0, .ref (ka 23), .int 0, .ref (ka 24), .int 0, .int 0, .ref (ka 25), .int 0, .ref (ka 26), .int 0, .int 0, .int 0, .int 0, .int 0])), ((ka 13), .inl (cy 0, 4, .inl (fun _ => 0))), (ao, .inl (cy 2, 1, .inr (.inl (fun _ => 0))))] sz) := by
  refine va_MetW (cc := cL_blame) (maxL := 7) (ret := (some .int)) (by decide) rfl ?_
  intro p e s m args below meth c s₁ B hml hv
  obtain ⟨rfl, hsz, hP, hG, hD0, hT⟩ := hv
  have hx := B.exec
  have hb := B.bytes
  have hr := B.returns
  have hts := atoms_spec (ws := vs_w_blame) B.pre
  have hown : s.vm.findClass RL = some m.cls := findClass_of_methodNamed B.named
  have hlocks := B.notSynchronized
  subst hsz
  have hD := hD0.self (sz := s.heap.size)
  generalize hAe : va_A [(ko, .inr (11, [.ref (ka 0), .ref (ka 1), .ref (ka 2), .int 0, .int 0, .ref (ka 5), .ref (ka 6), .ref (ka 7), .ref (ka 8), .ref (ka 9), .int 0, .ref (ka 11), .ref (ka 12), .ref (ka 13)])), ((ka 5), .inr (6, [.int 0, .int 0, .ref (ka 21), .ref (ka 22), .int 0, .int 0, .ref (ka 23), .int 0, .ref (ka 24), .int 0, .int 0, .ref (ka 25), .int 0, .ref (ka 26), .int 0, .int 0, .int 0, .int 0, .int 0])), ((ka 13), .inl (cy 0, 4, .inl (fun _ => 0))), (ao, .inl (cy 2, 1, .inr (.inl (fun _ => 0))))] s.heap.size = A at hD hT ⊢
  have hA : ∀ q : Nat, s.heap.size ≤ q → A q := fun q h => by rw [← hAe]; exact Or.inr h
  have hS : va_S A s.heap s.heap [] := va_S.rf
  have hl0 := lv_entry ([.ref ko, .int p0, .int p1, .int p2, .int p3, .ref ao]) (n := 7) (Nat.le_of_ble_eq_true rfl)
  rw [lg_entry_eq]
  generalize (lg_sl ([.ref ko, .int p0, .int p1, .int p2, .int p3, .ref ao]) ++ List.replicate (7 - (lg_sl ([.ref ko, .int p0, .int p1, .int p2, .int p3, .ref ao])).length) Slot.unset).toArray = ls at hl0 ⊢
  have hlv : lv_has ls 7 [(0, .ref ko), (1, .int p0), (2, .int p1), (3, .int p2), (4, .int p3), (5, .ref ao)] := hl0
  have gg_0 : GoodIn vs_w_blame (wsV RL 80 RX11 yX11_blame vs_c_blame) := goodIn_sub (fun w h => List.mem_cons_of_mem _ (List.mem_append_right _ (List.mem_append_left _ h))) (by decide +kernel)
  have xc28 := hts (.classLink RL 28 "java/lang/IndexOutOfBoundsException") (List.mem_of_getElem? (i := 1) rfl)
  have xc34 := hts (.classLink RL 34 "java/util/NoSuchElementException") (List.mem_of_getElem? (i := 2) rfl)
  have xc13 := hts (.classLink RL 13 "java/lang/IllegalArgumentException") (List.mem_of_getElem? (i := 3) rfl)
  have xc51 := hts (.classLink RL 51 "java/lang/IllegalStateException") (List.mem_of_getElem? (i := 4) rfl)
  have htab : c.exceptionTable.toList = [(⟨0, 14, 17, 28⟩ : ExceptionTableEntry), (⟨0, 14, 21, 34⟩ : ExceptionTableEntry), (⟨0, 14, 25, 13⟩ : ExceptionTableEntry), (⟨0, 14, 29, 51⟩ : ExceptionTableEntry)] := vx_table (x := yL_blame) B (hts (.codeWith yL_blame cL_blame 7 (some .int) [(0, 14, 17, 28), (0, 14, 21, 34), (0, 14, 25, 13), (0, 14, 29, 51)]) List.mem_cons_self)
  refine lv_aload hx hb dL_blame_0 (lv_at hlv 5 rfl) ?_
  refine lv_iconst (v := 0) hx hb dL_blame_2 (by decide) ?_
  refine lv_aload_n hx hb dL_blame_3 rfl (lv_at hlv 0 rfl) ?_
  refine lv_iload_n hx hb dL_blame_4 rfl (lv_at hlv 1 rfl) ?_
  refine lv_iload_n hx hb dL_blame_5 rfl (lv_at hlv 2 rfl) ?_
  refine lv_iload_n hx hb dL_blame_6 rfl (lv_at hlv 3 rfl) ?_
  refine lv_iload hx hb dL_blame_7 (lv_at hlv 4 rfl) ?_
  refine cjx_i (wr := [(ao, .inl (cy 2, 1, .inr (.inl (fun _ => 0))))]) (vx_runV (As := [.int p0, .int p1, .int p2, .int p3]) (rest := [.int 0, .ref ao]) ⟨hx, hb, hml, hown, hts⟩ (c_blame l hl D cy sa ko ka p0 p1 p2 p3 s.heap.size) (cwV 4 hts gg_0 rfl rfl rfl (by decide +kernel) ⟨Nat.le_of_ble_eq_true rfl, Nat.le_of_ble_eq_true rfl⟩) ⟨pcW.blind, (va_recv hG.1 hP (ci := 11) (q0 := 0) rfl rfl), (pcW.mk hP hD hS hA hG hT [0, 1, 2] rfl (by decide))⟩ rfl rfl hlv.1 rfl (lv_room (Nat.le_of_ble_eq_true rfl)) dL_blame_9 ⟨Nat.le_of_ble_eq_true rfl, Nat.le_of_ble_eq_true rfl⟩) hP hD hS hA [0, 1, 2] [3] rfl rfl (by decide) (by decide) (fun E ce q9 H locs hp hP hD hS h1 h2 h3 => ?_) (fun r1 u1 H locs hw1 hP hD hS => ?_)
  · obtain ⟨rfl, hg1⟩ := hp
    refine vx_catch (name := "java/lang/IndexOutOfBoundsException") hown [] (⟨0, 14, 17, 28⟩ : ExceptionTableEntry) [(⟨0, 14, 21, 34⟩ : ExceptionTableEntry), (⟨0, 14, 25, 13⟩ : ExceptionTableEntry), (⟨0, 14, 29, 51⟩ : ExceptionTableEntry)] htab (fun z hz => by simp at hz) (by decide) (by decide) xc28 (va_Nw.use rfl (hG.2.2.2.1 _ (List.mem_of_getElem? (i := 0) rfl))) h1 h2 h3 ?_
    refine lv_astore (lv' := [(6, .ref q9), (0, .ref ko), (1, .int p0), (2, .int p1), (3, .int p2), (4, .int p3), (5, .ref ao)]) hx hb dL_blame_17 hlv (by decide) rfl (fun ls hlv => ?_)
    refine lv_iconst (v := 1) hx hb dL_blame_19 (by decide) ?_
    obtain ⟨hP, hD⟩ := arl 0 (fun _ => (0 : Int32).toInt64) hP hD rfl arl_0
    have hP : va_P D vwCl [(ao, .inl (cy 2, 1, .inr (.inl (fun _ => (0 : Int32).toInt64))))] H := hP
    have hD : va_D A [(ao, .inl (cy 2, 1, .inr (.inl (fun _ => (0 : Int32).toInt64))))] := hD
    refine W.widen (k := 1) (n := 6) (Nat.le_of_ble_eq_true rfl) (Nat.le_of_ble_eq_true rfl) ?_
    exact W.iret (v := 1) hx hb hr (fun t ht hW => ⟨⟨1, ((fun k => ([] : List Nat).getD k 0), (fun k => ([0] : List Int32).getD k 0), (fun k => ([] : List (Nat → Int32)).getD k (fun _ => 0))), rfl, (by first | (exact (by rfl))), by rw [ht]; exact hP.sub [0] rfl, hD.sub [0] (by decide) rfl⟩, hS.F ht⟩) hS.2.2 dL_blame_20
  · exact (hw1).elim
def vs_w_look : List Cond := .codeWith yL_look cL_look 5 (some .int) [(0, 10, 13, 34), (0, 10, 17, 13), (0, 10, 21, 51)] :: (([.classLink RL 34 "java/util/NoSuchElementException", .classLink RL 13 "java/lang/IllegalArgumentException", .classLink RL 51 "java/lang/IllegalStateException"] : List Cond) ++ ((wsV RL 83 RX11 yX11_look vs_c_look) ++ ([])))
set_option maxHeartbeats 4000000 in
set_option maxRecDepth 100000 in
theorem w_look (l : Launch) (hl : l.stackTraces = false) (D : va_G) (cy : Nat → ClassId) (sa : Nat → Nat) (ko : Nat) (ka : Nat → Nat) (p0 p1 : Int32) (ao : Nat) (sz : Nat) : Met l yL_look vs_w_look ({ frames := 9, cells := 1, slots := 6, locals := 164 }) (va_Pc [.ref ko, .int p0, .int p1, .ref ao] (pcW D cy sa sz [(ko, .inr (11, [.ref (ka 0), .ref (ka 1), .ref (ka 2), .int 0, .int 0, .ref (ka 5), .ref (ka 6), .ref (ka 7), .ref (ka 8), .ref (ka 9), .int 0, .ref (ka 11), .ref (ka 12), .ref (ka 13)])), ((ka 13), .inl (cy 0, 4, .inl (fun _ => 0))), (ao, .inl (cy 2, 1, .inr (.inl (fun _ => 0))))])) (va_Qi (fun (r : Int32) (u : SU) => (r = 1)) (fun u t => atW D (va_A [(ko, .inr (11, [.ref (ka 0), .ref (ka 1), .ref (ka 2), .int 0, .int 0, .ref (ka 5), .ref (ka 6), .ref (ka 7), .ref (ka 8), .ref (ka 9), .int 0, .ref (ka 11), .ref (ka 12), .ref (ka 13)])), ((ka 13), .inl (cy 0, 4, .inl (fun _ => 0))), (ao, .inl (cy 2, 1, .inr (.inl (fun _ => 0))))] sz) [(ao, .inl (cy 2, 1, .inr (.inl (fun _ => (u.2.1 0 : Int32).toInt64))))] t) (va_A [(ko, .inr (11, [.ref (ka 0), .ref (ka 1), .ref (ka 2), .int 0, .int 0, .ref (ka 5), .ref (ka 6), .ref (ka 7), .ref (ka 8), .ref (ka 9), .int 0, .ref (ka 11), .ref (ka 12), .ref (ka 13)])), ((ka 13), .inl (cy 0, 4, .inl (fun _ => 0))), (ao, .inl (cy 2, 1, .inr (.inl (fun _ => 0))))] sz)) 1 6 (va_A [(ko, .inr (11, [.ref (ka 0), .ref (ka 1), .ref (ka 2), .int 0, .int 0, .ref (ka 5), .ref (ka 6), .ref (ka 7), .ref (ka 8), .ref (ka 9), .int 0, .ref (ka 11), .ref (ka 12), .ref (ka 13)])), ((ka 13), .inl (cy 0, 4, .inl (fun _ => 0))), (ao, .inl (cy 2, 1, .inr (.inl (fun _ => 0))))] sz) := by
  refine va_MetW (cc := cL_look) (maxL := 5) (ret := (some .int)) (by decide) rfl ?_
  intro p e s m args below meth c s₁ B hml hv
  obtain ⟨rfl, hsz, hP, hG, hD0, hT⟩ := hv
  have hx := B.exec
  have hb := B.bytes
  have hr := B.returns
  have hts := atoms_spec (ws := vs_w_look) B.pre
  have hown : s.vm.findClass RL = some m.cls := findClass_of_methodNamed B.named
  have hlocks := B.notSynchronized
  subst hsz
  have hD := hD0.self (sz := s.heap.size)
  generalize hAe : va_A [(ko, .inr (11, [.ref (ka 0), .ref (ka 1), .ref (ka 2), .int 0, .int 0, .ref (ka 5), .ref (ka 6), .ref (ka 7), .ref (ka 8), .ref (ka 9), .int 0, .ref (ka 11), .ref (ka 12), .ref (ka 13)])), ((ka 13), .inl (cy 0, 4, .inl (fun _ => 0))), (ao, .inl (cy 2, 1, .inr (.inl (fun _ => 0))))] s.heap.size = A at hD hT ⊢
  have hA : ∀ q : Nat, s.heap.size ≤ q → A q := fun q h => by rw [← hAe]; exact Or.inr h
  have hS : va_S A s.heap s.heap [] := va_S.rf
  have hl0 := lv_entry ([.ref ko, .int p0, .int p1, .ref ao]) (n := 5) (Nat.le_of_ble_eq_true rfl)
  rw [lg_entry_eq]
  generalize (lg_sl ([.ref ko, .int p0, .int p1, .ref ao]) ++ List.replicate (5 - (lg_sl ([.ref ko, .int p0, .int p1, .ref ao])).length) Slot.unset).toArray = ls at hl0 ⊢
  have hlv : lv_has ls 5 [(0, .ref ko), (1, .int p0), (2, .int p1), (3, .ref ao)] := hl0
  have gg_0 : GoodIn vs_w_look (wsV RL 83 RX11 yX11_look vs_c_look) := goodIn_sub (fun w h => List.mem_cons_of_mem _ (List.mem_append_right _ (List.mem_append_left _ h))) (by decide +kernel)
  have xc34 := hts (.classLink RL 34 "java/util/NoSuchElementException") (List.mem_of_getElem? (i := 1) rfl)
  have xc13 := hts (.classLink RL 13 "java/lang/IllegalArgumentException") (List.mem_of_getElem? (i := 2) rfl)
  have xc51 := hts (.classLink RL 51 "java/lang/IllegalStateException") (List.mem_of_getElem? (i := 3) rfl)
  have htab : c.exceptionTable.toList = [(⟨0, 10, 13, 34⟩ : ExceptionTableEntry), (⟨0, 10, 17, 13⟩ : ExceptionTableEntry), (⟨0, 10, 21, 51⟩ : ExceptionTableEntry)] := vx_table (x := yL_look) B (hts (.codeWith yL_look cL_look 5 (some .int) [(0, 10, 13, 34), (0, 10, 17, 13), (0, 10, 21, 51)]) List.mem_cons_self)
  refine lv_aload_n hx hb dL_look_0 rfl (lv_at hlv 3 rfl) ?_
  refine lv_iconst (v := 0) hx hb dL_look_1 (by decide) ?_
  refine lv_aload_n hx hb dL_look_2 rfl (lv_at hlv 0 rfl) ?_
  refine lv_iload_n hx hb dL_look_3 rfl (lv_at hlv 1 rfl) ?_
  refine lv_iload_n hx hb dL_look_4 rfl (lv_at hlv 2 rfl) ?_
  refine cjx_i (wr := [(ao, .inl (cy 2, 1, .inr (.inl (fun _ => 0))))]) (vx_runV (As := [.int p0, .int p1]) (rest := [.int 0, .ref ao]) ⟨hx, hb, hml, hown, hts⟩ (c_look l hl D cy sa ko ka p0 p1 s.heap.size) (cwV 2 hts gg_0 rfl rfl rfl (by decide +kernel) ⟨Nat.le_of_ble_eq_true rfl, Nat.le_of_ble_eq_true rfl⟩) ⟨pcW.blind, (va_recv hG.1 hP (ci := 11) (q0 := 0) rfl rfl), (pcW.mk hP hD hS hA hG hT [0, 1] rfl (by decide))⟩ rfl rfl hlv.1 rfl (lv_room (Nat.le_of_ble_eq_true rfl)) dL_look_5 ⟨Nat.le_of_ble_eq_true rfl, Nat.le_of_ble_eq_true rfl⟩) hP hD hS hA [0, 1] [2] rfl rfl (by decide) (by decide) (fun E ce q9 H locs hp hP hD hS h1 h2 h3 => ?_) (fun r1 u1 H locs hw1 hP hD hS => ?_)
  · obtain ⟨rfl, hg1⟩ := hp
    refine vx_catch (name := "java/util/NoSuchElementException") hown [] (⟨0, 10, 13, 34⟩ : ExceptionTableEntry) [(⟨0, 10, 17, 13⟩ : ExceptionTableEntry), (⟨0, 10, 21, 51⟩ : ExceptionTableEntry)] htab (fun z hz => by simp at hz) (by decide) (by decide) xc34 (va_Nw.use rfl (hG.2.2.2.1 _ (List.mem_of_getElem? (i := 1) rfl))) h1 h2 h3 ?_
    refine lv_astore (lv' := [(4, .ref q9), (0, .ref ko), (1, .int p0), (2, .int p1), (3, .ref ao)]) hx hb dL_look_13 hlv (by decide) rfl (fun ls hlv => ?_)
    refine lv_iconst (v := 1) hx hb dL_look_15 (by decide) ?_
    obtain ⟨hP, hD⟩ := arl 0 (fun _ => (0 : Int32).toInt64) hP hD rfl arl_0
    have hP : va_P D vwCl [(ao, .inl (cy 2, 1, .inr (.inl (fun _ => (0 : Int32).toInt64))))] H := hP
    have hD : va_D A [(ao, .inl (cy 2, 1, .inr (.inl (fun _ => (0 : Int32).toInt64))))] := hD
    refine W.widen (k := 1) (n := 6) (Nat.le_of_ble_eq_true rfl) (Nat.le_of_ble_eq_true rfl) ?_
    exact W.iret (v := 1) hx hb hr (fun t ht hW => ⟨⟨1, ((fun k => ([] : List Nat).getD k 0), (fun k => ([0] : List Int32).getD k 0), (fun k => ([] : List (Nat → Int32)).getD k (fun _ => 0))), rfl, (by first | (exact (by rfl))), by rw [ht]; exact hP.sub [0] rfl, hD.sub [0] (by decide) rfl⟩, hS.F ht⟩) hS.2.2 dL_look_16
  · exact (hw1).elim
def vs_w_stand : List Cond := .codeWith yL_stand cL_stand 6 (some .int) [(0, 12, 15, 34), (0, 12, 19, 13), (0, 12, 23, 51)] :: (([.classLink RL 34 "java/util/NoSuchElementException", .classLink RL 13 "java/lang/IllegalArgumentException", .classLink RL 51 "java/lang/IllegalStateException"] : List Cond) ++ ((wsV RL 86 RX11 yX11_stand vs_c_stand) ++ ([])))
set_option maxHeartbeats 4000000 in
set_option maxRecDepth 100000 in
theorem w_stand (l : Launch) (hl : l.stackTraces = false) (D : va_G) (cy : Nat → ClassId) (sa : Nat → Nat) (ko : Nat) (ka : Nat → Nat) (p0 p1 p2 : Int32) (ao : Nat) (sz : Nat) : Met l yL_stand vs_w_stand ({ frames := 9, cells := 1, slots := 6, locals := 165 }) (va_Pc [.ref ko, .int p0, .int p1, .int p2, .ref ao] (pcW D cy sa sz [(ko, .inr (11, [.ref (ka 0), .ref (ka 1), .ref (ka 2), .int 0, .int 0, .ref (ka 5), .ref (ka 6), .ref (ka 7), .ref (ka 8), .ref (ka 9), .int 0, .ref (ka 11), .ref (ka 12), .ref (ka 13)])), ((ka 13), .inl (cy 0, 4, .inl (fun _ => 0))), (ao, .inl (cy 2, 1, .inr (.inl (fun _ => 0))))])) (va_Qi (fun (r : Int32) (u : SU) => (r = 1)) (fun u t => atW D (va_A [(ko, .inr (11, [.ref (ka 0), .ref (ka 1), .ref (ka 2), .int 0, .int 0, .ref (ka 5), .ref (ka 6), .ref (ka 7), .ref (ka 8), .ref (ka 9), .int 0, .ref (ka 11), .ref (ka 12), .ref (ka 13)])), ((ka 13), .inl (cy 0, 4, .inl (fun _ => 0))), (ao, .inl (cy 2, 1, .inr (.inl (fun _ => 0))))] sz) [(ao, .inl (cy 2, 1, .inr (.inl (fun _ => (u.2.1 0 : Int32).toInt64))))] t) (va_A [(ko, .inr (11, [.ref (ka 0), .ref (ka 1), .ref (ka 2), .int 0, .int 0, .ref (ka 5), .ref (ka 6), .ref (ka 7), .ref (ka 8), .ref (ka 9), .int 0, .ref (ka 11), .ref (ka 12), .ref (ka 13)])), ((ka 13), .inl (cy 0, 4, .inl (fun _ => 0))), (ao, .inl (cy 2, 1, .inr (.inl (fun _ => 0))))] sz)) 1 6 (va_A [(ko, .inr (11, [.ref (ka 0), .ref (ka 1), .ref (ka 2), .int 0, .int 0, .ref (ka 5), .ref (ka 6), .ref (ka 7), .ref (ka 8), .ref (ka 9), .int 0, .ref (ka 11), .ref (ka 12), .ref (ka 13)])), ((ka 13), .inl (cy 0, 4, .inl (fun _ => 0))), (ao, .inl (cy 2, 1, .inr (.inl (fun _ => 0))))] sz) := by
  refine va_MetW (cc := cL_stand) (maxL := 6) (ret := (some .int)) (by decide) rfl ?_
  intro p e s m args below meth c s₁ B hml hv
  obtain ⟨rfl, hsz, hP, hG, hD0, hT⟩ := hv
  have hx := B.exec
  have hb := B.bytes
  have hr := B.returns
  have hts := atoms_spec (ws := vs_w_stand) B.pre
  have hown : s.vm.findClass RL = some m.cls := findClass_of_methodNamed B.named
  have hlocks := B.notSynchronized
  subst hsz
  have hD := hD0.self (sz := s.heap.size)
  generalize hAe : va_A [(ko, .inr (11, [.ref (ka 0), .ref (ka 1), .ref (ka 2), .int 0, .int 0, .ref (ka 5), .ref (ka 6), .ref (ka 7), .ref (ka 8), .ref (ka 9), .int 0, .ref (ka 11), .ref (ka 12), .ref (ka 13)])), ((ka 13), .inl (cy 0, 4, .inl (fun _ => 0))), (ao, .inl (cy 2, 1, .inr (.inl (fun _ => 0))))] s.heap.size = A at hD hT ⊢
  have hA : ∀ q : Nat, s.heap.size ≤ q → A q := fun q h => by rw [← hAe]; exact Or.inr h
  have hS : va_S A s.heap s.heap [] := va_S.rf
  have hl0 := lv_entry ([.ref ko, .int p0, .int p1, .int p2, .ref ao]) (n := 6) (Nat.le_of_ble_eq_true rfl)
  rw [lg_entry_eq]
  generalize (lg_sl ([.ref ko, .int p0, .int p1, .int p2, .ref ao]) ++ List.replicate (6 - (lg_sl ([.ref ko, .int p0, .int p1, .int p2, .ref ao])).length) Slot.unset).toArray = ls at hl0 ⊢
  have hlv : lv_has ls 6 [(0, .ref ko), (1, .int p0), (2, .int p1), (3, .int p2), (4, .ref ao)] := hl0
  have gg_0 : GoodIn vs_w_stand (wsV RL 86 RX11 yX11_stand vs_c_stand) := goodIn_sub (fun w h => List.mem_cons_of_mem _ (List.mem_append_right _ (List.mem_append_left _ h))) (by decide +kernel)
  have xc34 := hts (.classLink RL 34 "java/util/NoSuchElementException") (List.mem_of_getElem? (i := 1) rfl)
  have xc13 := hts (.classLink RL 13 "java/lang/IllegalArgumentException") (List.mem_of_getElem? (i := 2) rfl)
  have xc51 := hts (.classLink RL 51 "java/lang/IllegalStateException") (List.mem_of_getElem? (i := 3) rfl)
  have htab : c.exceptionTable.toList = [(⟨0, 12, 15, 34⟩ : ExceptionTableEntry), (⟨0, 12, 19, 13⟩ : ExceptionTableEntry), (⟨0, 12, 23, 51⟩ : ExceptionTableEntry)] := vx_table (x := yL_stand) B (hts (.codeWith yL_stand cL_stand 6 (some .int) [(0, 12, 15, 34), (0, 12, 19, 13), (0, 12, 23, 51)]) List.mem_cons_self)
  refine lv_aload hx hb dL_stand_0 (lv_at hlv 4 rfl) ?_
  refine lv_iconst (v := 0) hx hb dL_stand_2 (by decide) ?_
  refine lv_aload_n hx hb dL_stand_3 rfl (lv_at hlv 0 rfl) ?_
  refine lv_iload_n hx hb dL_stand_4 rfl (lv_at hlv 1 rfl) ?_
  refine lv_iload_n hx hb dL_stand_5 rfl (lv_at hlv 2 rfl) ?_
  refine lv_iload_n hx hb dL_stand_6 rfl (lv_at hlv 3 rfl) ?_
  refine cjx_i (wr := [(ao, .inl (cy 2, 1, .inr (.inl (fun _ => 0))))]) (vx_runV (As := [.int p0, .int p1, .int p2]) (rest := [.int 0, .ref ao]) ⟨hx, hb, hml, hown, hts⟩ (c_stand l hl D cy sa ko ka p0 p1 p2 s.heap.size) (cwV 3 hts gg_0 rfl rfl rfl (by decide +kernel) ⟨Nat.le_of_ble_eq_true rfl, Nat.le_of_ble_eq_true rfl⟩) ⟨pcW.blind, (va_recv hG.1 hP (ci := 11) (q0 := 0) rfl rfl), (pcW.mk hP hD hS hA hG hT [0, 1] rfl (by decide))⟩ rfl rfl hlv.1 rfl (lv_room (Nat.le_of_ble_eq_true rfl)) dL_stand_7 ⟨Nat.le_of_ble_eq_true rfl, Nat.le_of_ble_eq_true rfl⟩) hP hD hS hA [0, 1] [2] rfl rfl (by decide) (by decide) (fun E ce q9 H locs hp hP hD hS h1 h2 h3 => ?_) (fun r1 u1 H locs hw1 hP hD hS => ?_)
  · obtain ⟨rfl, hg1⟩ := hp
    refine vx_catch (name := "java/util/NoSuchElementException") hown [] (⟨0, 12, 15, 34⟩ : ExceptionTableEntry) [(⟨0, 12, 19, 13⟩ : ExceptionTableEntry), (⟨0, 12, 23, 51⟩ : ExceptionTableEntry)] htab (fun z hz => by simp at hz) (by decide) (by decide) xc34 (va_Nw.use rfl (hG.2.2.2.1 _ (List.mem_of_getElem? (i := 1) rfl))) h1 h2 h3 ?_
    refine lv_astore (lv' := [(5, .ref q9), (0, .ref ko), (1, .int p0), (2, .int p1), (3, .int p2), (4, .ref ao)]) hx hb dL_stand_15 hlv (by decide) rfl (fun ls hlv => ?_)
    refine lv_iconst (v := 1) hx hb dL_stand_17 (by decide) ?_
    obtain ⟨hP, hD⟩ := arl 0 (fun _ => (0 : Int32).toInt64) hP hD rfl arl_0
    have hP : va_P D vwCl [(ao, .inl (cy 2, 1, .inr (.inl (fun _ => (0 : Int32).toInt64))))] H := hP
    have hD : va_D A [(ao, .inl (cy 2, 1, .inr (.inl (fun _ => (0 : Int32).toInt64))))] := hD
    refine W.widen (k := 1) (n := 6) (Nat.le_of_ble_eq_true rfl) (Nat.le_of_ble_eq_true rfl) ?_
    exact W.iret (v := 1) hx hb hr (fun t ht hW => ⟨⟨1, ((fun k => ([] : List Nat).getD k 0), (fun k => ([0] : List Int32).getD k 0), (fun k => ([] : List (Nat → Int32)).getD k (fun _ => 0))), rfl, (by first | (exact (by rfl))), by rw [ht]; exact hP.sub [0] rfl, hD.sub [0] (by decide) rfl⟩, hS.F ht⟩) hS.2.2 dL_stand_18
  · exact (hw1).elim
