theorem dX11_blame_0 : decode cX11_blame 0 = .ok (.aload_n 0, 1) := by decide +kernel
theorem dX11_blame_1 : decode cX11_blame 1 = .ok (.iload_n 2, 1) := by decide +kernel
theorem dX11_blame_2 : decode cX11_blame 2 = .ok (.iload_n 3, 1) := by decide +kernel
theorem dX11_blame_3 : decode cX11_blame 3 = .ok (.invokevirtual 159, 3) := by decide +kernel
theorem dX11_car_0 : decode cX11_car 0 = .ok (.aload_n 0, 1) := by decide +kernel
theorem dX11_car_1 : decode cX11_car 1 = .ok (.iload_n 1, 1) := by decide +kernel
theorem dX11_car_2 : decode cX11_car 2 = .ok (.invokevirtual 227, 3) := by decide +kernel
theorem dX11_cell_0 : decode cX11_cell 0 = .ok (.aload_n 0, 1) := by decide +kernel
theorem dX11_cell_1 : decode cX11_cell 1 = .ok (.iload_n 1, 1) := by decide +kernel
theorem dX11_cell_2 : decode cX11_cell 2 = .ok (.iload_n 2, 1) := by decide +kernel
theorem dX11_cell_3 : decode cX11_cell 3 = .ok (.invokevirtual 159, 3) := by decide +kernel
theorem dX11_deep_0 : decode cX11_deep 0 = .ok (.aload_n 0, 1) := by decide +kernel
theorem dX11_deep_1 : decode cX11_deep 1 = .ok (.iload_n 2, 1) := by decide +kernel
theorem dX11_deep_2 : decode cX11_deep 2 = .ok (.iload_n 3, 1) := by decide +kernel
theorem dX11_deep_3 : decode cX11_deep 3 = .ok (.invokevirtual 159, 3) := by decide +kernel
theorem dX11_does_0 : decode cX11_does 0 = .ok (.aload_n 0, 1) := by decide +kernel
theorem dX11_does_1 : decode cX11_does 1 = .ok (.iload_n 1, 1) := by decide +kernel
theorem dX11_does_10 : decode cX11_does 10 = .ok (.iconst 1, 1) := by decide +kernel
theorem dX11_does_11 : decode cX11_does 11 = .ok (.isub, 1) := by decide +kernel
theorem dX11_does_12 : decode cX11_does 12 = .ok (.invokestatic 130, 3) := by decide +kernel
theorem dX11_does_15 : decode cX11_does 15 = .ok (.invokevirtual 177, 3) := by decide +kernel
theorem dX11_does_2 : decode cX11_does 2 = .ok (.iconst 0, 1) := by decide +kernel
theorem dX11_does_3 : decode cX11_does 3 = .ok (.aload_n 0, 1) := by decide +kernel
theorem dX11_does_4 : decode cX11_does 4 = .ok (.getfield 31, 3) := by decide +kernel
theorem dX11_does_7 : decode cX11_does 7 = .ok (.getfield 153, 3) := by decide +kernel
theorem dX11_drain_0 : decode cX11_drain 0 = .ok (.aload_n 0, 1) := by decide +kernel
theorem dX11_drain_1 : decode cX11_drain 1 = .ok (.iload_n 1, 1) := by decide +kernel
theorem dX11_drain_10 : decode cX11_drain 10 = .ok (.iconst 1, 1) := by decide +kernel
theorem dX11_drain_11 : decode cX11_drain 11 = .ok (.isub, 1) := by decide +kernel
theorem dX11_drain_12 : decode cX11_drain 12 = .ok (.invokestatic 130, 3) := by decide +kernel
theorem dX11_drain_15 : decode cX11_drain 15 = .ok (.invokevirtual 177, 3) := by decide +kernel
theorem dX11_drain_2 : decode cX11_drain 2 = .ok (.iconst 0, 1) := by decide +kernel
theorem dX11_drain_3 : decode cX11_drain 3 = .ok (.aload_n 0, 1) := by decide +kernel
theorem dX11_drain_4 : decode cX11_drain 4 = .ok (.getfield 31, 3) := by decide +kernel
theorem dX11_drain_7 : decode cX11_drain 7 = .ok (.getfield 144, 3) := by decide +kernel
theorem dX11_isCar_0 : decode cX11_isCar 0 = .ok (.iload_n 1, 1) := by decide +kernel
theorem dX11_isCar_1 : decode cX11_isCar 1 = .ok (.iconst 0, 1) := by decide +kernel
theorem dX11_isCar_10 : decode cX11_isCar 10 = .ok (.isub, 1) := by decide +kernel
theorem dX11_isCar_11 : decode cX11_isCar 11 = .ok (.invokestatic 130, 3) := by decide +kernel
theorem dX11_isCar_14 : decode cX11_isCar 14 = .ok (.ifCond .eq 37, 3) := by decide +kernel
theorem dX11_isCar_2 : decode cX11_isCar 2 = .ok (.aload_n 0, 1) := by decide +kernel
theorem dX11_isCar_3 : decode cX11_isCar 3 = .ok (.getfield 31, 3) := by decide +kernel
theorem dX11_isCar_51 : decode cX11_isCar 51 = .ok (.iconst 0, 1) := by decide +kernel
theorem dX11_isCar_52 : decode cX11_isCar 52 = .ok (.ireturn, 1) := by decide +kernel
theorem dX11_isCar_6 : decode cX11_isCar 6 = .ok (.getfield 141, 3) := by decide +kernel
theorem dX11_isCar_9 : decode cX11_isCar 9 = .ok (.iconst 1, 1) := by decide +kernel
theorem dX11_leaves_0 : decode cX11_leaves 0 = .ok (.aload_n 0, 1) := by decide +kernel
theorem dX11_leaves_1 : decode cX11_leaves 1 = .ok (.iload_n 1, 1) := by decide +kernel
theorem dX11_leaves_10 : decode cX11_leaves 10 = .ok (.iconst 1, 1) := by decide +kernel
theorem dX11_leaves_11 : decode cX11_leaves 11 = .ok (.isub, 1) := by decide +kernel
theorem dX11_leaves_12 : decode cX11_leaves 12 = .ok (.invokestatic 130, 3) := by decide +kernel
theorem dX11_leaves_15 : decode cX11_leaves 15 = .ok (.invokevirtual 177, 3) := by decide +kernel
theorem dX11_leaves_2 : decode cX11_leaves 2 = .ok (.iconst 0, 1) := by decide +kernel
theorem dX11_leaves_3 : decode cX11_leaves 3 = .ok (.aload_n 0, 1) := by decide +kernel
theorem dX11_leaves_4 : decode cX11_leaves 4 = .ok (.getfield 31, 3) := by decide +kernel
theorem dX11_leaves_7 : decode cX11_leaves 7 = .ok (.getfield 144, 3) := by decide +kernel
theorem dX11_look_0 : decode cX11_look 0 = .ok (.aload_n 0, 1) := by decide +kernel
theorem dX11_look_1 : decode cX11_look 1 = .ok (.iload_n 1, 1) := by decide +kernel
theorem dX11_look_2 : decode cX11_look 2 = .ok (.invokevirtual 208, 3) := by decide +kernel
theorem dX11_meant_0 : decode cX11_meant 0 = .ok (.aload_n 0, 1) := by decide +kernel
theorem dX11_meant_1 : decode cX11_meant 1 = .ok (.iload_n 2, 1) := by decide +kernel
theorem dX11_meant_2 : decode cX11_meant 2 = .ok (.iload_n 3, 1) := by decide +kernel
theorem dX11_meant_3 : decode cX11_meant 3 = .ok (.invokevirtual 159, 3) := by decide +kernel
theorem dX11_mend_0 : decode cX11_mend 0 = .ok (.aload_n 0, 1) := by decide +kernel
theorem dX11_mend_1 : decode cX11_mend 1 = .ok (.iload_n 2, 1) := by decide +kernel
theorem dX11_mend_2 : decode cX11_mend 2 = .ok (.iload_n 3, 1) := by decide +kernel
theorem dX11_mend_3 : decode cX11_mend 3 = .ok (.invokevirtual 159, 3) := by decide +kernel
theorem dX11_moved_0 : decode cX11_moved 0 = .ok (.aload_n 0, 1) := by decide +kernel
theorem dX11_moved_1 : decode cX11_moved 1 = .ok (.iload_n 1, 1) := by decide +kernel
theorem dX11_moved_2 : decode cX11_moved 2 = .ok (.invokevirtual 227, 3) := by decide +kernel
theorem dX11_pace_0 : decode cX11_pace 0 = .ok (.aload_n 0, 1) := by decide +kernel
theorem dX11_pace_1 : decode cX11_pace 1 = .ok (.iload_n 1, 1) := by decide +kernel
theorem dX11_pace_2 : decode cX11_pace 2 = .ok (.invokevirtual 227, 3) := by decide +kernel
theorem dX11_pass_0 : decode cX11_pass 0 = .ok (.aload_n 0, 1) := by decide +kernel
theorem dX11_pass_1 : decode cX11_pass 1 = .ok (.iload_n 1, 1) := by decide +kernel
theorem dX11_pass_2 : decode cX11_pass 2 = .ok (.invokevirtual 227, 3) := by decide +kernel
theorem dX11_person_0 : decode cX11_person 0 = .ok (.aload_n 0, 1) := by decide +kernel
theorem dX11_person_1 : decode cX11_person 1 = .ok (.iload_n 1, 1) := by decide +kernel
theorem dX11_person_10 : decode cX11_person 10 = .ok (.iconst 1, 1) := by decide +kernel
theorem dX11_person_11 : decode cX11_person 11 = .ok (.isub, 1) := by decide +kernel
theorem dX11_person_12 : decode cX11_person 12 = .ok (.invokestatic 130, 3) := by decide +kernel
theorem dX11_person_15 : decode cX11_person 15 = .ok (.invokevirtual 177, 3) := by decide +kernel
theorem dX11_person_2 : decode cX11_person 2 = .ok (.iconst 0, 1) := by decide +kernel
theorem dX11_person_3 : decode cX11_person 3 = .ok (.aload_n 0, 1) := by decide +kernel
theorem dX11_person_4 : decode cX11_person 4 = .ok (.getfield 31, 3) := by decide +kernel
theorem dX11_person_7 : decode cX11_person 7 = .ok (.getfield 147, 3) := by decide +kernel
theorem dX11_says_0 : decode cX11_says 0 = .ok (.aload_n 0, 1) := by decide +kernel
theorem dX11_says_1 : decode cX11_says 1 = .ok (.iload_n 1, 1) := by decide +kernel
theorem dX11_says_2 : decode cX11_says 2 = .ok (.invokevirtual 227, 3) := by decide +kernel
theorem dX11_shower_0 : decode cX11_shower 0 = .ok (.aload_n 0, 1) := by decide +kernel
theorem dX11_shower_1 : decode cX11_shower 1 = .ok (.iload_n 1, 1) := by decide +kernel
theorem dX11_shower_2 : decode cX11_shower 2 = .ok (.invokevirtual 208, 3) := by decide +kernel
theorem dX11_stand_0 : decode cX11_stand 0 = .ok (.aload_n 0, 1) := by decide +kernel
theorem dX11_stand_1 : decode cX11_stand 1 = .ok (.iload_n 1, 1) := by decide +kernel
theorem dX11_stand_2 : decode cX11_stand 2 = .ok (.invokevirtual 227, 3) := by decide +kernel
theorem dX11_traffic_0 : decode cX11_traffic 0 = .ok (.aload_n 0, 1) := by decide +kernel
theorem dX11_traffic_1 : decode cX11_traffic 1 = .ok (.iload_n 1, 1) := by decide +kernel
theorem dX11_traffic_11 : decode cX11_traffic 11 = .ok (.aload_n 0, 1) := by decide +kernel
theorem dX11_traffic_12 : decode cX11_traffic 12 = .ok (.iload_n 2, 1) := by decide +kernel
theorem dX11_traffic_13 : decode cX11_traffic 13 = .ok (.iload_n 3, 1) := by decide +kernel
theorem dX11_traffic_14 : decode cX11_traffic 14 = .ok (.iload 4, 2) := by decide +kernel
theorem dX11_traffic_16 : decode cX11_traffic 16 = .ok (.iload 5, 2) := by decide +kernel
theorem dX11_traffic_18 : decode cX11_traffic 18 = .ok (.invokevirtual 243, 3) := by decide +kernel
theorem dX11_traffic_2 : decode cX11_traffic 2 = .ok (.iconst 0, 1) := by decide +kernel
theorem dX11_traffic_21 : decode cX11_traffic 21 = .ok (.ifCond .eq 7, 3) := by decide +kernel
theorem dX11_traffic_28 : decode cX11_traffic 28 = .ok (.iconst 0, 1) := by decide +kernel
theorem dX11_traffic_29 : decode cX11_traffic 29 = .ok (.invokevirtual 134, 3) := by decide +kernel
theorem dX11_traffic_3 : decode cX11_traffic 3 = .ok (.bipush 99, 2) := by decide +kernel
theorem dX11_traffic_5 : decode cX11_traffic 5 = .ok (.invokestatic 130, 3) := by decide +kernel
theorem dX11_traffic_8 : decode cX11_traffic 8 = .ok (.ifCond .eq 20, 3) := by decide +kernel
theorem dX11_when_0 : decode cX11_when 0 = .ok (.aload_n 0, 1) := by decide +kernel
theorem dX11_when_1 : decode cX11_when 1 = .ok (.iload_n 2, 1) := by decide +kernel
theorem dX11_when_2 : decode cX11_when 2 = .ok (.iload_n 3, 1) := by decide +kernel
theorem dX11_when_3 : decode cX11_when 3 = .ok (.invokevirtual 159, 3) := by decide +kernel
theorem dX11_work_0 : decode cX11_work 0 = .ok (.aload_n 0, 1) := by decide +kernel
theorem dX11_work_1 : decode cX11_work 1 = .ok (.iload_n 1, 1) := by decide +kernel
theorem dX11_work_10 : decode cX11_work 10 = .ok (.iconst 1, 1) := by decide +kernel
theorem dX11_work_11 : decode cX11_work 11 = .ok (.isub, 1) := by decide +kernel
theorem dX11_work_12 : decode cX11_work 12 = .ok (.invokestatic 130, 3) := by decide +kernel
theorem dX11_work_15 : decode cX11_work 15 = .ok (.invokevirtual 177, 3) := by decide +kernel
theorem dX11_work_2 : decode cX11_work 2 = .ok (.iconst 0, 1) := by decide +kernel
theorem dX11_work_3 : decode cX11_work 3 = .ok (.aload_n 0, 1) := by decide +kernel
theorem dX11_work_4 : decode cX11_work 4 = .ok (.getfield 31, 3) := by decide +kernel
theorem dX11_work_7 : decode cX11_work 7 = .ok (.getfield 153, 3) := by decide +kernel
def vs_c_cell : List Cond := .code yX11_cell cX11_cell 5 (some .int) :: (([] : List Cond) ++ ((wsV RX11 159 RX11 yX11_needCell wsX11_needCell) ++ ([])))
set_option maxHeartbeats 4000000 in
set_option maxRecDepth 100000 in
theorem c_cell (l : Launch) (hl : l.stackTraces = false) (D : va_G) (cy : Nat → ClassId) (sa : Nat → Nat) (ko : Nat) (ka : Nat → Nat) (p0 p1 p2 : Int32) (sz : Nat) : vx_Met l yX11_cell vs_c_cell ({ frames := 7, cells := 1, slots := 6, locals := 122 }) (va_Pc [.ref ko, .int p0, .int p1, .int p2] (pcW D cy sa sz [(ko, .inr (11, [.ref (ka 0), .ref (ka 1), .ref (ka 2), .int 0, .int 0, .ref (ka 5), .ref (ka 6), .ref (ka 7), .ref (ka 8), .ref (ka 9), .int 0, .ref (ka 11), .ref (ka 12), .ref (ka 13)])), ((ka 5), .inr (6, [.int 0, .int 0, .ref (ka 21), .ref (ka 22), .int 0, .int 0, .ref (ka 23), .int 0, .ref (ka 24), .int 0, .int 0, .ref (ka 25), .int 0, .ref (ka 26), .int 0, .int 0, .int 0, .int 0, .int 0])), ((ka 13), .inl (cy 0, 4, .inl (fun _ => 0)))])) (va_Qi (fun (r : Int32) (u : SU) => False) (fun u t => atW D (va_A [(ko, .inr (11, [.ref (ka 0), .ref (ka 1), .ref (ka 2), .int 0, .int 0, .ref (ka 5), .ref (ka 6), .ref (ka 7), .ref (ka 8), .ref (ka 9), .int 0, .ref (ka 11), .ref (ka 12), .ref (ka 13)])), ((ka 5), .inr (6, [.int 0, .int 0, .ref (ka 21), .ref (ka 22), .int 0, .int 0, .ref (ka 23), .int 0, .ref (ka 24), .int 0, .int 0, .ref (ka 25), .int 0, .ref (ka 26), .int 0, .int 0, .int 0, .int 0, .int 0])), ((ka 13), .inl (cy 0, 4, .inl (fun _ => 0)))] sz) [] t) (va_A [(ko, .inr (11, [.ref (ka 0), .ref (ka 1), .ref (ka 2), .int 0, .int 0, .ref (ka 5), .ref (ka 6), .ref (ka 7), .ref (ka 8), .ref (ka 9), .int 0, .ref (ka 11), .ref (ka 12), .ref (ka 13)])), ((ka 5), .inr (6, [.int 0, .int 0, .ref (ka 21), .ref (ka 22), .int 0, .int 0, .ref (ka 23), .int 0, .ref (ka 24), .int 0, .int 0, .ref (ka 25), .int 0, .ref (ka 26), .int 0, .int 0, .int 0, .int 0, .int 0])), ((ka 13), .inl (cy 0, 4, .inl (fun _ => 0)))] sz)) (xcW (fun E => (E = "java/lang/IndexOutOfBoundsException" ∧ (True))) (va_A [(ko, .inr (11, [.ref (ka 0), .ref (ka 1), .ref (ka 2), .int 0, .int 0, .ref (ka 5), .ref (ka 6), .ref (ka 7), .ref (ka 8), .ref (ka 9), .int 0, .ref (ka 11), .ref (ka 12), .ref (ka 13)])), ((ka 5), .inr (6, [.int 0, .int 0, .ref (ka 21), .ref (ka 22), .int 0, .int 0, .ref (ka 23), .int 0, .ref (ka 24), .int 0, .int 0, .ref (ka 25), .int 0, .ref (ka 26), .int 0, .int 0, .int 0, .int 0, .int 0])), ((ka 13), .inl (cy 0, 4, .inl (fun _ => 0)))] sz)) 1 6 (va_A [(ko, .inr (11, [.ref (ka 0), .ref (ka 1), .ref (ka 2), .int 0, .int 0, .ref (ka 5), .ref (ka 6), .ref (ka 7), .ref (ka 8), .ref (ka 9), .int 0, .ref (ka 11), .ref (ka 12), .ref (ka 13)])), ((ka 5), .inr (6, [.int 0, .int 0, .ref (ka 21), .ref (ka 22), .int 0, .int 0, .ref (ka 23), .int 0, .ref (ka 24), .int 0, .int 0, .ref (ka 25), .int 0, .ref (ka 26), .int 0, .int 0, .int 0, .int 0, .int 0])), ((ka 13), .inl (cy 0, 4, .inl (fun _ => 0)))] sz) := by
  refine vx_ofW (cc := cX11_cell) (maxL := 5) (ret := (some .int)) (by decide) rfl ?_
  intro p e s m args below meth c s₁ B hml hex hv
  obtain ⟨rfl, hsz, hP, hG, hD0, hT⟩ := hv
  have hx := B.exec
  have hb := B.bytes
  have hr := B.returns
  have hts := atoms_spec (ws := vs_c_cell) B.pre
  have hown : s.vm.findClass RX11 = some m.cls := findClass_of_methodNamed B.named
  have hlocks := B.notSynchronized
  subst hsz
  have hD := hD0.self (sz := s.heap.size)
  generalize hAe : va_A [(ko, .inr (11, [.ref (ka 0), .ref (ka 1), .ref (ka 2), .int 0, .int 0, .ref (ka 5), .ref (ka 6), .ref (ka 7), .ref (ka 8), .ref (ka 9), .int 0, .ref (ka 11), .ref (ka 12), .ref (ka 13)])), ((ka 5), .inr (6, [.int 0, .int 0, .ref (ka 21), .ref (ka 22), .int 0, .int 0, .ref (ka 23), .int 0, .ref (ka 24), .int 0, .int 0, .ref (ka 25), .int 0, .ref (ka 26), .int 0, .int 0, .int 0, .int 0, .int 0])), ((ka 13), .inl (cy 0, 4, .inl (fun _ => 0)))] s.heap.size = A at hD hT ⊢
  have hA : ∀ q : Nat, s.heap.size ≤ q → A q := fun q h => by rw [← hAe]; exact Or.inr h
  have hS : va_S A s.heap s.heap [] := va_S.rf
  have hl0 := lv_entry ([.ref ko, .int p0, .int p1, .int p2]) (n := 5) (Nat.le_of_ble_eq_true rfl)
  rw [lg_entry_eq]
  generalize (lg_sl ([.ref ko, .int p0, .int p1, .int p2]) ++ List.replicate (5 - (lg_sl ([.ref ko, .int p0, .int p1, .int p2])).length) Slot.unset).toArray = ls at hl0 ⊢
  have hlv : lv_has ls 5 [(0, .ref ko), (1, .int p0), (2, .int p1), (3, .int p2)] := hl0
  have gg_0 : GoodIn vs_c_cell (wsV RX11 159 RX11 yX11_needCell wsX11_needCell) := goodIn_sub (fun w h => List.mem_cons_of_mem _ (List.mem_append_right _ (List.mem_append_left _ h))) (by decide +kernel)
  refine lv_aload_n hx hb dX11_cell_0 rfl (lv_at hlv 0 rfl) ?_
  refine lv_iload_n hx hb dX11_cell_1 rfl (lv_at hlv 1 rfl) ?_
  refine lv_iload_n hx hb dX11_cell_2 rfl (lv_at hlv 2 rfl) ?_
  refine cjx_v (wr := []) (vx_runV (As := [.int p0, .int p1]) (rest := []) ⟨hx, hb, hml, hown, hts⟩ (c_needCell l hl D cy sa ko ka p0 p1 s.heap.size) (cwV 2 hts gg_0 rfl rfl rfl (by decide +kernel) ⟨Nat.le_of_ble_eq_true rfl, Nat.le_of_ble_eq_true rfl⟩) ⟨pcW.blind, (va_recv hG.1 hP (ci := 11) (q0 := 0) rfl rfl), (pcW.mk hP hD hS hA hG hT [0, 1, 2] rfl (by decide))⟩ rfl rfl hlv.1 rfl (lv_room (Nat.le_of_ble_eq_true rfl)) dX11_cell_3 ⟨Nat.le_of_ble_eq_true rfl, Nat.le_of_ble_eq_true rfl⟩) hP hD hS hA [0, 1, 2] [] rfl rfl (by decide) (by decide) (fun E ce q9 H locs hp hP hD hS h1 h2 h3 => ?_) (fun u1 H locs hw1 hP hD hS => ?_)
  · obtain ⟨rfl, hg1⟩ := hp
    exact vx_out (fun x h => (hex x h).elim) hlocks h1 h2 h3 (fun t ht hvm => ⟨(), trivial, (by exact ⟨rfl, trivial⟩), hS.F ht⟩) hS.2.2 (Nat.le_of_ble_eq_true rfl) (Nat.le_of_ble_eq_true rfl)
  · exact (hw1).elim
def vs_c_deep : List Cond := .code yX11_deep cX11_deep 4 (some .int) :: (([] : List Cond) ++ ((wsV RX11 159 RX11 yX11_needCell wsX11_needCell) ++ ([])))
set_option maxHeartbeats 4000000 in
set_option maxRecDepth 100000 in
theorem c_deep (l : Launch) (hl : l.stackTraces = false) (D : va_G) (cy : Nat → ClassId) (sa : Nat → Nat) (ko : Nat) (ka : Nat → Nat) (p0 p1 p2 : Int32) (sz : Nat) : vx_Met l yX11_deep vs_c_deep ({ frames := 7, cells := 1, slots := 6, locals := 122 }) (va_Pc [.ref ko, .int p0, .int p1, .int p2] (pcW D cy sa sz [(ko, .inr (11, [.ref (ka 0), .ref (ka 1), .ref (ka 2), .int 0, .int 0, .ref (ka 5), .ref (ka 6), .ref (ka 7), .ref (ka 8), .ref (ka 9), .int 0, .ref (ka 11), .ref (ka 12), .ref (ka 13)])), ((ka 5), .inr (6, [.int 0, .int 0, .ref (ka 21), .ref (ka 22), .int 0, .int 0, .ref (ka 23), .int 0, .ref (ka 24), .int 0, .int 0, .ref (ka 25), .int 0, .ref (ka 26), .int 0, .int 0, .int 0, .int 0, .int 0])), ((ka 13), .inl (cy 0, 4, .inl (fun _ => 0)))])) (va_Qi (fun (r : Int32) (u : SU) => False) (fun u t => atW D (va_A [(ko, .inr (11, [.ref (ka 0), .ref (ka 1), .ref (ka 2), .int 0, .int 0, .ref (ka 5), .ref (ka 6), .ref (ka 7), .ref (ka 8), .ref (ka 9), .int 0, .ref (ka 11), .ref (ka 12), .ref (ka 13)])), ((ka 5), .inr (6, [.int 0, .int 0, .ref (ka 21), .ref (ka 22), .int 0, .int 0, .ref (ka 23), .int 0, .ref (ka 24), .int 0, .int 0, .ref (ka 25), .int 0, .ref (ka 26), .int 0, .int 0, .int 0, .int 0, .int 0])), ((ka 13), .inl (cy 0, 4, .inl (fun _ => 0)))] sz) [] t) (va_A [(ko, .inr (11, [.ref (ka 0), .ref (ka 1), .ref (ka 2), .int 0, .int 0, .ref (ka 5), .ref (ka 6), .ref (ka 7), .ref (ka 8), .ref (ka 9), .int 0, .ref (ka 11), .ref (ka 12), .ref (ka 13)])), ((ka 5), .inr (6, [.int 0, .int 0, .ref (ka 21), .ref (ka 22), .int 0, .int 0, .ref (ka 23), .int 0, .ref (ka 24), .int 0, .int 0, .ref (ka 25), .int 0, .ref (ka 26), .int 0, .int 0, .int 0, .int 0, .int 0])), ((ka 13), .inl (cy 0, 4, .inl (fun _ => 0)))] sz)) (xcW (fun E => (E = "java/lang/IndexOutOfBoundsException" ∧ (True))) (va_A [(ko, .inr (11, [.ref (ka 0), .ref (ka 1), .ref (ka 2), .int 0, .int 0, .ref (ka 5), .ref (ka 6), .ref (ka 7), .ref (ka 8), .ref (ka 9), .int 0, .ref (ka 11), .ref (ka 12), .ref (ka 13)])), ((ka 5), .inr (6, [.int 0, .int 0, .ref (ka 21), .ref (ka 22), .int 0, .int 0, .ref (ka 23), .int 0, .ref (ka 24), .int 0, .int 0, .ref (ka 25), .int 0, .ref (ka 26), .int 0, .int 0, .int 0, .int 0, .int 0])), ((ka 13), .inl (cy 0, 4, .inl (fun _ => 0)))] sz)) 1 6 (va_A [(ko, .inr (11, [.ref (ka 0), .ref (ka 1), .ref (ka 2), .int 0, .int 0, .ref (ka 5), .ref (ka 6), .ref (ka 7), .ref (ka 8), .ref (ka 9), .int 0, .ref (ka 11), .ref (ka 12), .ref (ka 13)])), ((ka 5), .inr (6, [.int 0, .int 0, .ref (ka 21), .ref (ka 22), .int 0, .int 0, .ref (ka 23), .int 0, .ref (ka 24), .int 0, .int 0, .ref (ka 25), .int 0, .ref (ka 26), .int 0, .int 0, .int 0, .int 0, .int 0])), ((ka 13), .inl (cy 0, 4, .inl (fun _ => 0)))] sz) := by
  refine vx_ofW (cc := cX11_deep) (maxL := 4) (ret := (some .int)) (by decide) rfl ?_
  intro p e s m args below meth c s₁ B hml hex hv
  obtain ⟨rfl, hsz, hP, hG, hD0, hT⟩ := hv
  have hx := B.exec
  have hb := B.bytes
  have hr := B.returns
  have hts := atoms_spec (ws := vs_c_deep) B.pre
  have hown : s.vm.findClass RX11 = some m.cls := findClass_of_methodNamed B.named
  have hlocks := B.notSynchronized
  subst hsz
  have hD := hD0.self (sz := s.heap.size)
  generalize hAe : va_A [(ko, .inr (11, [.ref (ka 0), .ref (ka 1), .ref (ka 2), .int 0, .int 0, .ref (ka 5), .ref (ka 6), .ref (ka 7), .ref (ka 8), .ref (ka 9), .int 0, .ref (ka 11), .ref (ka 12), .ref (ka 13)])), ((ka 5), .inr (6, [.int 0, .int 0, .ref (ka 21), .ref (ka 22), .int 0, .int 0, .ref (ka 23), .int 0, .ref (ka 24), .int 0, .int 0, .ref (ka 25), .int 0, .ref (ka 26), .int 0, .int 0, .int 0, .int 0, .int 0])), ((ka 13), .inl (cy 0, 4, .inl (fun _ => 0)))] s.heap.size = A at hD hT ⊢
  have hA : ∀ q : Nat, s.heap.size ≤ q → A q := fun q h => by rw [← hAe]; exact Or.inr h
  have hS : va_S A s.heap s.heap [] := va_S.rf
  have hl0 := lv_entry ([.ref ko, .int p0, .int p1, .int p2]) (n := 4) (Nat.le_of_ble_eq_true rfl)
  rw [lg_entry_eq]
  generalize (lg_sl ([.ref ko, .int p0, .int p1, .int p2]) ++ List.replicate (4 - (lg_sl ([.ref ko, .int p0, .int p1, .int p2])).length) Slot.unset).toArray = ls at hl0 ⊢
  have hlv : lv_has ls 4 [(0, .ref ko), (1, .int p0), (2, .int p1), (3, .int p2)] := hl0
  have gg_0 : GoodIn vs_c_deep (wsV RX11 159 RX11 yX11_needCell wsX11_needCell) := goodIn_sub (fun w h => List.mem_cons_of_mem _ (List.mem_append_right _ (List.mem_append_left _ h))) (by decide +kernel)
  refine lv_aload_n hx hb dX11_deep_0 rfl (lv_at hlv 0 rfl) ?_
  refine lv_iload_n hx hb dX11_deep_1 rfl (lv_at hlv 2 rfl) ?_
  refine lv_iload_n hx hb dX11_deep_2 rfl (lv_at hlv 3 rfl) ?_
  refine cjx_v (wr := []) (vx_runV (As := [.int p1, .int p2]) (rest := []) ⟨hx, hb, hml, hown, hts⟩ (c_needCell l hl D cy sa ko ka p1 p2 s.heap.size) (cwV 2 hts gg_0 rfl rfl rfl (by decide +kernel) ⟨Nat.le_of_ble_eq_true rfl, Nat.le_of_ble_eq_true rfl⟩) ⟨pcW.blind, (va_recv hG.1 hP (ci := 11) (q0 := 0) rfl rfl), (pcW.mk hP hD hS hA hG hT [0, 1, 2] rfl (by decide))⟩ rfl rfl hlv.1 rfl (lv_room (Nat.le_of_ble_eq_true rfl)) dX11_deep_3 ⟨Nat.le_of_ble_eq_true rfl, Nat.le_of_ble_eq_true rfl⟩) hP hD hS hA [0, 1, 2] [] rfl rfl (by decide) (by decide) (fun E ce q9 H locs hp hP hD hS h1 h2 h3 => ?_) (fun u1 H locs hw1 hP hD hS => ?_)
  · obtain ⟨rfl, hg1⟩ := hp
    exact vx_out (fun x h => (hex x h).elim) hlocks h1 h2 h3 (fun t ht hvm => ⟨(), trivial, (by exact ⟨rfl, trivial⟩), hS.F ht⟩) hS.2.2 (Nat.le_of_ble_eq_true rfl) (Nat.le_of_ble_eq_true rfl)
  · exact (hw1).elim
def vs_c_when : List Cond := .code yX11_when cX11_when 5 (some .int) :: (([] : List Cond) ++ ((wsV RX11 159 RX11 yX11_needCell wsX11_needCell) ++ ([])))
set_option maxHeartbeats 4000000 in
set_option maxRecDepth 100000 in
theorem c_when (l : Launch) (hl : l.stackTraces = false) (D : va_G) (cy : Nat → ClassId) (sa : Nat → Nat) (ko : Nat) (ka : Nat → Nat) (p0 p1 p2 p3 : Int32) (sz : Nat) : vx_Met l yX11_when vs_c_when ({ frames := 7, cells := 1, slots := 6, locals := 122 }) (va_Pc [.ref ko, .int p0, .int p1, .int p2, .int p3] (pcW D cy sa sz [(ko, .inr (11, [.ref (ka 0), .ref (ka 1), .ref (ka 2), .int 0, .int 0, .ref (ka 5), .ref (ka 6), .ref (ka 7), .ref (ka 8), .ref (ka 9), .int 0, .ref (ka 11), .ref (ka 12), .ref (ka 13)])), ((ka 5), .inr (6, [.int 0, .int 0, .ref (ka 21), .ref (ka 22), .int 0, .int 0, .ref (ka 23), .int 0, .ref (ka 24), .int 0, .int 0, .ref (ka 25), .int 0, .ref (ka 26), .int 0, .int 0, .int 0, .int 0, .int 0])), ((ka 13), .inl (cy 0, 4, .inl (fun _ => 0)))])) (va_Qi (fun (r : Int32) (u : SU) => False) (fun u t => atW D (va_A [(ko, .inr (11, [.ref (ka 0), .ref (ka 1), .ref (ka 2), .int 0, .int 0, .ref (ka 5), .ref (ka 6), .ref (ka 7), .ref (ka 8), .ref (ka 9), .int 0, .ref (ka 11), .ref (ka 12), .ref (ka 13)])), ((ka 5), .inr (6, [.int 0, .int 0, .ref (ka 21), .ref (ka 22), .int 0, .int 0, .ref (ka 23), .int 0, .ref (ka 24), .int 0, .int 0, .ref (ka 25), .int 0, .ref (ka 26), .int 0, .int 0, .int 0, .int 0, .int 0])), ((ka 13), .inl (cy 0, 4, .inl (fun _ => 0)))] sz) [] t) (va_A [(ko, .inr (11, [.ref (ka 0), .ref (ka 1), .ref (ka 2), .int 0, .int 0, .ref (ka 5), .ref (ka 6), .ref (ka 7), .ref (ka 8), .ref (ka 9), .int 0, .ref (ka 11), .ref (ka 12), .ref (ka 13)])), ((ka 5), .inr (6, [.int 0, .int 0, .ref (ka 21), .ref (ka 22), .int 0, .int 0, .ref (ka 23), .int 0, .ref (ka 24), .int 0, .int 0, .ref (ka 25), .int 0, .ref (ka 26), .int 0, .int 0, .int 0, .int 0, .int 0])), ((ka 13), .inl (cy 0, 4, .inl (fun _ => 0)))] sz)) (xcW (fun E => (E = "java/lang/IndexOutOfBoundsException" ∧ (True))) (va_A [(ko, .inr (11, [.ref (ka 0), .ref (ka 1), .ref (ka 2), .int 0, .int 0, .ref (ka 5), .ref (ka 6), .ref (ka 7), .ref (ka 8), .ref (ka 9), .int 0, .ref (ka 11), .ref (ka 12), .ref (ka 13)])), ((ka 5), .inr (6, [.int 0, .int 0, .ref (ka 21), .ref (ka 22), .int 0, .int 0, .ref (ka 23), .int 0, .ref (ka 24), .int 0, .int 0, .ref (ka 25), .int 0, .ref (ka 26), .int 0, .int 0, .int 0, .int 0, .int 0])), ((ka 13), .inl (cy 0, 4, .inl (fun _ => 0)))] sz)) 1 6 (va_A [(ko, .inr (11, [.ref (ka 0), .ref (ka 1), .ref (ka 2), .int 0, .int 0, .ref (ka 5), .ref (ka 6), .ref (ka 7), .ref (ka 8), .ref (ka 9), .int 0, .ref (ka 11), .ref (ka 12), .ref (ka 13)])), ((ka 5), .inr (6, [.int 0, .int 0, .ref (ka 21), .ref (ka 22), .int 0, .int 0, .ref (ka 23), .int 0, .ref (ka 24), .int 0, .int 0, .ref (ka 25), .int 0, .ref (ka 26), .int 0, .int 0, .int 0, .int 0, .int 0])), ((ka 13), .inl (cy 0, 4, .inl (fun _ => 0)))] sz) := by
  refine vx_ofW (cc := cX11_when) (maxL := 5) (ret := (some .int)) (by decide) rfl ?_
  intro p e s m args below meth c s₁ B hml hex hv
  obtain ⟨rfl, hsz, hP, hG, hD0, hT⟩ := hv
  have hx := B.exec
  have hb := B.bytes
  have hr := B.returns
  have hts := atoms_spec (ws := vs_c_when) B.pre
  have hown : s.vm.findClass RX11 = some m.cls := findClass_of_methodNamed B.named
  have hlocks := B.notSynchronized
  subst hsz
  have hD := hD0.self (sz := s.heap.size)
  generalize hAe : va_A [(ko, .inr (11, [.ref (ka 0), .ref (ka 1), .ref (ka 2), .int 0, .int 0, .ref (ka 5), .ref (ka 6), .ref (ka 7), .ref (ka 8), .ref (ka 9), .int 0, .ref (ka 11), .ref (ka 12), .ref (ka 13)])), ((ka 5), .inr (6, [.int 0, .int 0, .ref (ka 21), .ref (ka 22), .int 0, .int 0, .ref (ka 23), .int 0, .ref (ka 24), .int 0, .int 0, .ref (ka 25), .int 0, .ref (ka 26), .int 0, .int 0, .int 0, .int 0, .int 0])), ((ka 13), .inl (cy 0, 4, .inl (fun _ => 0)))] s.heap.size = A at hD hT ⊢
  have hA : ∀ q : Nat, s.heap.size ≤ q → A q := fun q h => by rw [← hAe]; exact Or.inr h
  have hS : va_S A s.heap s.heap [] := va_S.rf
  have hl0 := lv_entry ([.ref ko, .int p0, .int p1, .int p2, .int p3]) (n := 5) (Nat.le_of_ble_eq_true rfl)
  rw [lg_entry_eq]
  generalize (lg_sl ([.ref ko, .int p0, .int p1, .int p2, .int p3]) ++ List.replicate (5 - (lg_sl ([.ref ko, .int p0, .int p1, .int p2, .int p3])).length) Slot.unset).toArray = ls at hl0 ⊢
  have hlv : lv_has ls 5 [(0, .ref ko), (1, .int p0), (2, .int p1), (3, .int p2), (4, .int p3)] := hl0
  have gg_0 : GoodIn vs_c_when (wsV RX11 159 RX11 yX11_needCell wsX11_needCell) := goodIn_sub (fun w h => List.mem_cons_of_mem _ (List.mem_append_right _ (List.mem_append_left _ h))) (by decide +kernel)
  refine lv_aload_n hx hb dX11_when_0 rfl (lv_at hlv 0 rfl) ?_
  refine lv_iload_n hx hb dX11_when_1 rfl (lv_at hlv 2 rfl) ?_
  refine lv_iload_n hx hb dX11_when_2 rfl (lv_at hlv 3 rfl) ?_
  refine cjx_v (wr := []) (vx_runV (As := [.int p1, .int p2]) (rest := []) ⟨hx, hb, hml, hown, hts⟩ (c_needCell l hl D cy sa ko ka p1 p2 s.heap.size) (cwV 2 hts gg_0 rfl rfl rfl (by decide +kernel) ⟨Nat.le_of_ble_eq_true rfl, Nat.le_of_ble_eq_true rfl⟩) ⟨pcW.blind, (va_recv hG.1 hP (ci := 11) (q0 := 0) rfl rfl), (pcW.mk hP hD hS hA hG hT [0, 1, 2] rfl (by decide))⟩ rfl rfl hlv.1 rfl (lv_room (Nat.le_of_ble_eq_true rfl)) dX11_when_3 ⟨Nat.le_of_ble_eq_true rfl, Nat.le_of_ble_eq_true rfl⟩) hP hD hS hA [0, 1, 2] [] rfl rfl (by decide) (by decide) (fun E ce q9 H locs hp hP hD hS h1 h2 h3 => ?_) (fun u1 H locs hw1 hP hD hS => ?_)
  · obtain ⟨rfl, hg1⟩ := hp
    exact vx_out (fun x h => (hex x h).elim) hlocks h1 h2 h3 (fun t ht hvm => ⟨(), trivial, (by exact ⟨rfl, trivial⟩), hS.F ht⟩) hS.2.2 (Nat.le_of_ble_eq_true rfl) (Nat.le_of_ble_eq_true rfl)
  · exact (hw1).elim
def vs_c_blame : List Cond := .code yX11_blame cX11_blame 5 (some .int) :: (([] : List Cond) ++ ((wsV RX11 159 RX11 yX11_needCell wsX11_needCell) ++ ([])))
set_option maxHeartbeats 4000000 in
set_option maxRecDepth 100000 in
theorem c_blame (l : Launch) (hl : l.stackTraces = false) (D : va_G) (cy : Nat → ClassId) (sa : Nat → Nat) (ko : Nat) (ka : Nat → Nat) (p0 p1 p2 p3 : Int32) (sz : Nat) : vx_Met l yX11_blame vs_c_blame ({ frames := 7, cells := 1, slots := 6, locals := 122 }) (va_Pc [.ref ko, .int p0, .int p1, .int p2, .int p3] (pcW D cy sa sz [(ko, .inr (11, [.ref (ka 0), .ref (ka 1), .ref (ka 2), .int 0, .int 0, .ref (ka 5), .ref (ka 6), .ref (ka 7), .ref (ka 8), .ref (ka 9), .int 0, .ref (ka 11), .ref (ka 12), .ref (ka 13)])), ((ka 5), .inr (6, [.int 0, .int 0, .ref (ka 21), .ref (ka 22), .int 0, .int 0, .ref (ka 23), .int 0, .ref (ka 24), .int 0, .int 0, .ref (ka 25), .int 0, .ref (ka 26), .int 0, .int 0, .int 0, .int 0, .int 0])), ((ka 13), .inl (cy 0, 4, .inl (fun _ => 0)))])) (va_Qi (fun (r : Int32) (u : SU) => False) (fun u t => atW D (va_A [(ko, .inr (11, [.ref (ka 0), .ref (ka 1), .ref (ka 2), .int 0, .int 0, .ref (ka 5), .ref (ka 6), .ref (ka 7), .ref (ka 8), .ref (ka 9), .int 0, .ref (ka 11), .ref (ka 12), .ref (ka 13)])), ((ka 5), .inr (6, [.int 0, .int 0, .ref (ka 21), .ref (ka 22), .int 0, .int 0, .ref (ka 23), .int 0, .ref (ka 24), .int 0, .int 0, .ref (ka 25), .int 0, .ref (ka 26), .int 0, .int 0, .int 0, .int 0, .int 0])), ((ka 13), .inl (cy 0, 4, .inl (fun _ => 0)))] sz) [] t) (va_A [(ko, .inr (11, [.ref (ka 0), .ref (ka 1), .ref (ka 2), .int 0, .int 0, .ref (ka 5), .ref (ka 6), .ref (ka 7), .ref (ka 8), .ref (ka 9), .int 0, .ref (ka 11), .ref (ka 12), .ref (ka 13)])), ((ka 5), .inr (6, [.int 0, .int 0, .ref (ka 21), .ref (ka 22), .int 0, .int 0, .ref (ka 23), .int 0, .ref (ka 24), .int 0, .int 0, .ref (ka 25), .int 0, .ref (ka 26), .int 0, .int 0, .int 0, .int 0, .int 0])), ((ka 13), .inl (cy 0, 4, .inl (fun _ => 0)))] sz)) (xcW (fun E => (E = "java/lang/IndexOutOfBoundsException" ∧ (True))) (va_A [(ko, .inr (11, [.ref (ka 0), .ref (ka 1), .ref (ka 2), .int 0, .int 0, .ref (ka 5), .ref (ka 6), .ref (ka 7), .ref (ka 8), .ref (ka 9), .int 0, .ref (ka 11), .ref (ka 12), .ref (ka 13)])), ((ka 5), .inr (6, [.int 0, .int 0, .ref (ka 21), .ref (ka 22), .int 0, .int 0, .ref (ka 23), .int 0, .ref (ka 24), .int 0, .int 0, .ref (ka 25), .int 0, .ref (ka 26), .int 0, .int 0, .int 0, .int 0, .int 0])), ((ka 13), .inl (cy 0, 4, .inl (fun _ => 0)))] sz)) 1 6 (va_A [(ko, .inr (11, [.ref (ka 0), .ref (ka 1), .ref (ka 2), .int 0, .int 0, .ref (ka 5), .ref (ka 6), .ref (ka 7), .ref (ka 8), .ref (ka 9), .int 0, .ref (ka 11), .ref (ka 12), .ref (ka 13)])), ((ka 5), .inr (6, [.int 0, .int 0, .ref (ka 21), .ref (ka 22), .int 0, .int 0, .ref (ka 23), .int 0, .ref (ka 24), .int 0, .int 0, .ref (ka 25), .int 0, .ref (ka 26), .int 0, .int 0, .int 0, .int 0, .int 0])), ((ka 13), .inl (cy 0, 4, .inl (fun _ => 0)))] sz) := by
  refine vx_ofW (cc := cX11_blame) (maxL := 5) (ret := (some .int)) (by decide) rfl ?_
  intro p e s m args below meth c s₁ B hml hex hv
  obtain ⟨rfl, hsz, hP, hG, hD0, hT⟩ := hv
  have hx := B.exec
  have hb := B.bytes
  have hr := B.returns
  have hts := atoms_spec (ws := vs_c_blame) B.pre
  have hown : s.vm.findClass RX11 = some m.cls := findClass_of_methodNamed B.named
  have hlocks := B.notSynchronized
  subst hsz
  have hD := hD0.self (sz := s.heap.size)
  generalize hAe : va_A [(ko, .inr (11, [.ref (ka 0), .ref (ka 1), .ref (ka 2), .int 0, .int 0, .ref (ka 5), .ref (ka 6), .ref (ka 7), .ref (ka 8), .ref (ka 9), .int 0, .ref (ka 11), .ref (ka 12), .ref (ka 13)])), ((ka 5), .inr (6, [.int 0, .int 0, .ref (ka 21), .ref (ka 22), .int 0, .int 0, .ref (ka 23), .int 0, .ref (ka 24), .int 0, .int 0, .ref (ka 25), .int 0, .ref (ka 26), .int 0, .int 0, .int 0, .int 0, .int 0])), ((ka 13), .inl (cy 0, 4, .inl (fun _ => 0)))] s.heap.size = A at hD hT ⊢
  have hA : ∀ q : Nat, s.heap.size ≤ q → A q := fun q h => by rw [← hAe]; exact Or.inr h
  have hS : va_S A s.heap s.heap [] := va_S.rf
  have hl0 := lv_entry ([.ref ko, .int p0, .int p1, .int p2, .int p3]) (n := 5) (Nat.le_of_ble_eq_true rfl)
  rw [lg_entry_eq]
  generalize (lg_sl ([.ref ko, .int p0, .int p1, .int p2, .int p3]) ++ List.replicate (5 - (lg_sl ([.ref ko, .int p0, .int p1, .int p2, .int p3])).length) Slot.unset).toArray = ls at hl0 ⊢
  have hlv : lv_has ls 5 [(0, .ref ko), (1, .int p0), (2, .int p1), (3, .int p2), (4, .int p3)] := hl0
  have gg_0 : GoodIn vs_c_blame (wsV RX11 159 RX11 yX11_needCell wsX11_needCell) := goodIn_sub (fun w h => List.mem_cons_of_mem _ (List.mem_append_right _ (List.mem_append_left _ h))) (by decide +kernel)
  refine lv_aload_n hx hb dX11_blame_0 rfl (lv_at hlv 0 rfl) ?_
  refine lv_iload_n hx hb dX11_blame_1 rfl (lv_at hlv 2 rfl) ?_
  refine lv_iload_n hx hb dX11_blame_2 rfl (lv_at hlv 3 rfl) ?_
  refine cjx_v (wr := []) (vx_runV (As := [.int p1, .int p2]) (rest := []) ⟨hx, hb, hml, hown, hts⟩ (c_needCell l hl D cy sa ko ka p1 p2 s.heap.size) (cwV 2 hts gg_0 rfl rfl rfl (by decide +kernel) ⟨Nat.le_of_ble_eq_true rfl, Nat.le_of_ble_eq_true rfl⟩) ⟨pcW.blind, (va_recv hG.1 hP (ci := 11) (q0 := 0) rfl rfl), (pcW.mk hP hD hS hA hG hT [0, 1, 2] rfl (by decide))⟩ rfl rfl hlv.1 rfl (lv_room (Nat.le_of_ble_eq_true rfl)) dX11_blame_3 ⟨Nat.le_of_ble_eq_true rfl, Nat.le_of_ble_eq_true rfl⟩) hP hD hS hA [0, 1, 2] [] rfl rfl (by decide) (by decide) (fun E ce q9 H locs hp hP hD hS h1 h2 h3 => ?_) (fun u1 H locs hw1 hP hD hS => ?_)
  · obtain ⟨rfl, hg1⟩ := hp
    exact vx_out (fun x h => (hex x h).elim) hlocks h1 h2 h3 (fun t ht hvm => ⟨(), trivial, (by exact ⟨rfl, trivial⟩), hS.F ht⟩) hS.2.2 (Nat.le_of_ble_eq_true rfl) (Nat.le_of_ble_eq_true rfl)
  · exact (hw1).elim
def vs_c_mend : List Cond := .code yX11_mend cX11_mend 6 (some .int) :: (([] : List Cond) ++ ((wsV RX11 159 RX11 yX11_needCell wsX11_needCell) ++ ([])))
set_option maxHeartbeats 4000000 in
set_option maxRecDepth 100000 in
theorem c_mend (l : Launch) (hl : l.stackTraces = false) (D : va_G) (cy : Nat → ClassId) (sa : Nat → Nat) (ko : Nat) (ka : Nat → Nat) (p0 p1 p2 p3 p4 : Int32) (sz : Nat) : vx_Met l yX11_mend vs_c_mend ({ frames := 7, cells := 1, slots := 6, locals := 122 }) (va_Pc [.ref ko, .int p0, .int p1, .int p2, .int p3, .int p4] (pcW D cy sa sz [(ko, .inr (11, [.ref (ka 0), .ref (ka 1), .ref (ka 2), .int 0, .int 0, .ref (ka 5), .ref (ka 6), .ref (ka 7), .ref (ka 8), .ref (ka 9), .int 0, .ref (ka 11), .ref (ka 12), .ref (ka 13)])), ((ka 5), .inr (6, [.int 0, .int 0, .ref (ka 21), .ref (ka 22), .int 0, .int 0, .ref (ka 23), .int 0, .ref (ka 24), .int 0, .int 0, .ref (ka 25), .int 0, .ref (ka 26), .int 0, .int 0, .int 0, .int 0, .int 0])), ((ka 13), .inl (cy 0, 4, .inl (fun _ => 0)))])) (va_Qi (fun (r : Int32) (u : SU) => False) (fun u t => atW D (va_A [(ko, .inr (11, [.ref (ka 0), .ref (ka 1), .ref (ka 2), .int 0, .int 0, .ref (ka 5), .ref (ka 6), .ref (ka 7), .ref (ka 8), .ref (ka 9), .int 0, .ref (ka 11), .ref (ka 12), .ref (ka 13)])), ((ka 5), .inr (6, [.int 0, .int 0, .ref (ka 21), .ref (ka 22), .int 0, .int 0, .ref (ka 23), .int 0, .ref (ka 24), .int 0, .int 0, .ref (ka 25), .int 0, .ref (ka 26), .int 0, .int 0, .int 0, .int 0, .int 0])), ((ka 13), .inl (cy 0, 4, .inl (fun _ => 0)))] sz) [] t) (va_A [(ko, .inr (11, [.ref (ka 0), .ref (ka 1), .ref (ka 2), .int 0, .int 0, .ref (ka 5), .ref (ka 6), .ref (ka 7), .ref (ka 8), .ref (ka 9), .int 0, .ref (ka 11), .ref (ka 12), .ref (ka 13)])), ((ka 5), .inr (6, [.int 0, .int 0, .ref (ka 21), .ref (ka 22), .int 0, .int 0, .ref (ka 23), .int 0, .ref (ka 24), .int 0, .int 0, .ref (ka 25), .int 0, .ref (ka 26), .int 0, .int 0, .int 0, .int 0, .int 0])), ((ka 13), .inl (cy 0, 4, .inl (fun _ => 0)))] sz)) (xcW (fun E => (E = "java/lang/IndexOutOfBoundsException" ∧ (True))) (va_A [(ko, .inr (11, [.ref (ka 0), .ref (ka 1), .ref (ka 2), .int 0, .int 0, .ref (ka 5), .ref (ka 6), .ref (ka 7), .ref (ka 8), .ref (ka 9), .int 0, .ref (ka 11), .ref (ka 12), .ref (ka 13)])), ((ka 5), .inr (6, [.int 0, .int 0, .ref (ka 21), .ref (ka 22), .int 0, .int 0, .ref (ka 23), .int 0, .ref (ka 24), .int 0, .int 0, .ref (ka 25), .int 0, .ref (ka 26), .int 0, .int 0, .int 0, .int 0, .int 0])), ((ka 13), .inl (cy 0, 4, .inl (fun _ => 0)))] sz)) 1 6 (va_A [(ko, .inr (11, [.ref (ka 0), .ref (ka 1), .ref (ka 2), .int 0, .int 0, .ref (ka 5), .ref (ka 6), .ref (ka 7), .ref (ka 8), .ref (ka 9), .int 0, .ref (ka 11), .ref (ka 12), .ref (ka 13)])), ((ka 5), .inr (6, [.int 0, .int 0, .ref (ka 21), .ref (ka 22), .int 0, .int 0, .ref (ka 23), .int 0, .ref (ka 24), .int 0, .int 0, .ref (ka 25), .int 0, .ref (ka 26), .int 0, .int 0, .int 0, .int 0, .int 0])), ((ka 13), .inl (cy 0, 4, .inl (fun _ => 0)))] sz) := by
  refine vx_ofW (cc := cX11_mend) (maxL := 6) (ret := (some .int)) (by decide) rfl ?_
  intro p e s m args below meth c s₁ B hml hex hv
  obtain ⟨rfl, hsz, hP, hG, hD0, hT⟩ := hv
  have hx := B.exec
  have hb := B.bytes
  have hr := B.returns
  have hts := atoms_spec (ws := vs_c_mend) B.pre
  have hown : s.vm.findClass RX11 = some m.cls := findClass_of_methodNamed B.named
  have hlocks := B.notSynchronized
  subst hsz
  have hD := hD0.self (sz := s.heap.size)
  generalize hAe : va_A [(ko, .inr (11, [.ref (ka 0), .ref (ka 1), .ref (ka 2), .int 0, .int 0, .ref (ka 5), .ref (ka 6), .ref (ka 7), .ref (ka 8), .ref (ka 9), .int 0, .ref (ka 11), .ref (ka 12), .ref (ka 13)])), ((ka 5), .inr (6, [.int 0, .int 0, .ref (ka 21), .ref (ka 22), .int 0, .int 0, .ref (ka 23), .int 0, .ref (ka 24), .int 0, .int 0, .ref (ka 25), .int 0, .ref (ka 26), .int 0, .int 0, .int 0, .int 0, .int 0])), ((ka 13), .inl (cy 0, 4, .inl (fun _ => 0)))] s.heap.size = A at hD hT ⊢
  have hA : ∀ q : Nat, s.heap.size ≤ q → A q := fun q h => by rw [← hAe]; exact Or.inr h
  have hS : va_S A s.heap s.heap [] := va_S.rf
  have hl0 := lv_entry ([.ref ko, .int p0, .int p1, .int p2, .int p3, .int p4]) (n := 6) (Nat.le_of_ble_eq_true rfl)
  rw [lg_entry_eq]
  generalize (lg_sl ([.ref ko, .int p0, .int p1, .int p2, .int p3, .int p4]) ++ List.replicate (6 - (lg_sl ([.ref ko, .int p0, .int p1, .int p2, .int p3, .int p4])).length) Slot.unset).toArray = ls at hl0 ⊢
  have hlv : lv_has ls 6 [(0, .ref ko), (1, .int p0), (2, .int p1), (3, .int p2), (4, .int p3), (5, .int p4)] := hl0
  have gg_0 : GoodIn vs_c_mend (wsV RX11 159 RX11 yX11_needCell wsX11_needCell) := goodIn_sub (fun w h => List.mem_cons_of_mem _ (List.mem_append_right _ (List.mem_append_left _ h))) (by decide +kernel)
  refine lv_aload_n hx hb dX11_mend_0 rfl (lv_at hlv 0 rfl) ?_
  refine lv_iload_n hx hb dX11_mend_1 rfl (lv_at hlv 2 rfl) ?_
  refine lv_iload_n hx hb dX11_mend_2 rfl (lv_at hlv 3 rfl) ?_
  refine cjx_v (wr := []) (vx_runV (As := [.int p1, .int p2]) (rest := []) ⟨hx, hb, hml, hown, hts⟩ (c_needCell l hl D cy sa ko ka p1 p2 s.heap.size) (cwV 2 hts gg_0 rfl rfl rfl (by decide +kernel) ⟨Nat.le_of_ble_eq_true rfl, Nat.le_of_ble_eq_true rfl⟩) ⟨pcW.blind, (va_recv hG.1 hP (ci := 11) (q0 := 0) rfl rfl), (pcW.mk hP hD hS hA hG hT [0, 1, 2] rfl (by decide))⟩ rfl rfl hlv.1 rfl (lv_room (Nat.le_of_ble_eq_true rfl)) dX11_mend_3 ⟨Nat.le_of_ble_eq_true rfl, Nat.le_of_ble_eq_true rfl⟩) hP hD hS hA [0, 1, 2] [] rfl rfl (by decide) (by decide) (fun E ce q9 H locs hp hP hD hS h1 h2 h3 => ?_) (fun u1 H locs hw1 hP hD hS => ?_)
  · obtain ⟨rfl, hg1⟩ := hp
    exact vx_out (fun x h => (hex x h).elim) hlocks h1 h2 h3 (fun t ht hvm => ⟨(), trivial, (by exact ⟨rfl, trivial⟩), hS.F ht⟩) hS.2.2 (Nat.le_of_ble_eq_true rfl) (Nat.le_of_ble_eq_true rfl)
  · exact (hw1).elim
def vs_c_meant : List Cond := .code yX11_meant cX11_meant 8 (some .int) :: (([] : List Cond) ++ ((wsV RX11 159 RX11 yX11_needCell wsX11_needCell) ++ ([])))
set_option maxHeartbeats 4000000 in
set_option maxRecDepth 100000 in
theorem c_meant (l : Launch) (hl : l.stackTraces = false) (D : va_G) (cy : Nat → ClassId) (sa : Nat → Nat) (ko : Nat) (ka : Nat → Nat) (p0 p1 p2 p3 p4 p5 p6 : Int32) (sz : Nat) : vx_Met l yX11_meant vs_c_meant ({ frames := 7, cells := 1, slots := 6, locals := 122 }) (va_Pc [.ref ko, .int p0, .int p1, .int p2, .int p3, .int p4, .int p5, .int p6] (pcW D cy sa sz [(ko, .inr (11, [.ref (ka 0), .ref (ka 1), .ref (ka 2), .int 0, .int 0, .ref (ka 5), .ref (ka 6), .ref (ka 7), .ref (ka 8), .ref (ka 9), .int 0, .ref (ka 11), .ref (ka 12), .ref (ka 13)])), ((ka 5), .inr (6, [.int 0, .int 0, .ref (ka 21), .ref (ka 22), .int 0, .int 0, .ref (ka 23), .int 0, .ref (ka 24), .int 0, .int 0, .ref (ka 25), .int 0, .ref (ka 26), .int 0, .int 0, .int 0, .int 0, .int 0])), ((ka 13), .inl (cy 0, 4, .inl (fun _ => 0)))])) (va_Qi (fun (r : Int32) (u : SU) => False) (fun u t => atW D (va_A [(ko, .inr (11, [.ref (ka 0), .ref (ka 1), .ref (ka 2), .int 0, .int 0, .ref (ka 5), .ref (ka 6), .ref (ka 7), .ref (ka 8), .ref (ka 9), .int 0, .ref (ka 11), .ref (ka 12), .ref (ka 13)])), ((ka 5), .inr (6, [.int 0, .int 0, .ref (ka 21), .ref (ka 22), .int 0, .int 0, .ref (ka 23), .int 0, .ref (ka 24), .int 0, .int 0, .ref (ka 25), .int 0, .ref (ka 26), .int 0, .int 0, .int 0, .int 0, .int 0])), ((ka 13), .inl (cy 0, 4, .inl (fun _ => 0)))] sz) [] t) (va_A [(ko, .inr (11, [.ref (ka 0), .ref (ka 1), .ref (ka 2), .int 0, .int 0, .ref (ka 5), .ref (ka 6), .ref (ka 7), .ref (ka 8), .ref (ka 9), .int 0, .ref (ka 11), .ref (ka 12), .ref (ka 13)])), ((ka 5), .inr (6, [.int 0, .int 0, .ref (ka 21), .ref (ka 22), .int 0, .int 0, .ref (ka 23), .int 0, .ref (ka 24), .int 0, .int 0, .ref (ka 25), .int 0, .ref (ka 26), .int 0, .int 0, .int 0, .int 0, .int 0])), ((ka 13), .inl (cy 0, 4, .inl (fun _ => 0)))] sz)) (xcW (fun E => (E = "java/lang/IndexOutOfBoundsException" ∧ (True))) (va_A [(ko, .inr (11, [.ref (ka 0), .ref (ka 1), .ref (ka 2), .int 0, .int 0, .ref (ka 5), .ref (ka 6), .ref (ka 7), .ref (ka 8), .ref (ka 9), .int 0, .ref (ka 11), .ref (ka 12), .ref (ka 13)])), ((ka 5), .inr (6, [.int 0, .int 0, .ref (ka 21), .ref (ka 22), .int 0, .int 0, .ref (ka 23), .int 0, .ref (ka 24), .int 0, .int 0, .ref (ka 25), .int 0, .ref (ka 26), .int 0, .int 0, .int 0, .int 0, .int 0])), ((ka 13), .inl (cy 0, 4, .inl (fun _ => 0)))] sz)) 1 6 (va_A [(ko, .inr (11, [.ref (ka 0), .ref (ka 1), .ref (ka 2), .int 0, .int 0, .ref (ka 5), .ref (ka 6), .ref (ka 7), .ref (ka 8), .ref (ka 9), .int 0, .ref (ka 11), .ref (ka 12), .ref (ka 13)])), ((ka 5), .inr (6, [.int 0, .int 0, .ref (ka 21), .ref (ka 22), .int 0, .int 0, .ref (ka 23), .int 0, .ref (ka 24), .int 0, .int 0, .ref (ka 25), .int 0, .ref (ka 26), .int 0, .int 0, .int 0, .int 0, .int 0])), ((ka 13), .inl (cy 0, 4, .inl (fun _ => 0)))] sz) := by
  refine vx_ofW (cc := cX11_meant) (maxL := 8) (ret := (some .int)) (by decide) rfl ?_
  intro p e s m args below meth c s₁ B hml hex hv
  obtain ⟨rfl, hsz, hP, hG, hD0, hT⟩ := hv
  have hx := B.exec
  have hb := B.bytes
  have hr := B.returns
  have hts := atoms_spec (ws := vs_c_meant) B.pre
  have hown : s.vm.findClass RX11 = some m.cls := findClass_of_methodNamed B.named
  have hlocks := B.notSynchronized
  subst hsz
  have hD := hD0.self (sz := s.heap.size)
  generalize hAe : va_A [(ko, .inr (11, [.ref (ka 0), .ref (ka 1), .ref (ka 2), .int 0, .int 0, .ref (ka 5), .ref (ka 6), .ref (ka 7), .ref (ka 8), .ref (ka 9), .int 0, .ref (ka 11), .ref (ka 12), .ref (ka 13)])), ((ka 5), .inr (6, [.int 0, .int 0, .ref (ka 21), .ref (ka 22), .int 0, .int 0, .ref (ka 23), .int 0, .ref (ka 24), .int 0, .int 0, .ref (ka 25), .int 0, .ref (ka 26), .int 0, .int 0, .int 0, .int 0, .int 0])), ((ka 13), .inl (cy 0, 4, .inl (fun _ => 0)))] s.heap.size = A at hD hT ⊢
  have hA : ∀ q : Nat, s.heap.size ≤ q → A q := fun q h => by rw [← hAe]; exact Or.inr h
  have hS : va_S A s.heap s.heap [] := va_S.rf
  have hl0 := lv_entry ([.ref ko, .int p0, .int p1, .int p2, .int p3, .int p4, .int p5, .int p6]) (n := 8) (Nat.le_of_ble_eq_true rfl)
  rw [lg_entry_eq]
  generalize (lg_sl ([.ref ko, .int p0, .int p1, .int p2, .int p3, .int p4, .int p5, .int p6]) ++ List.replicate (8 - (lg_sl ([.ref ko, .int p0, .int p1, .int p2, .int p3, .int p4, .int p5, .int p6])).length) Slot.unset).toArray = ls at hl0 ⊢
  have hlv : lv_has ls 8 [(0, .ref ko), (1, .int p0), (2, .int p1), (3, .int p2), (4, .int p3), (5, .int p4), (6, .int p5), (7, .int p6)] := hl0
  have gg_0 : GoodIn vs_c_meant (wsV RX11 159 RX11 yX11_needCell wsX11_needCell) := goodIn_sub (fun w h => List.mem_cons_of_mem _ (List.mem_append_right _ (List.mem_append_left _ h))) (by decide +kernel)
  refine lv_aload_n hx hb dX11_meant_0 rfl (lv_at hlv 0 rfl) ?_
  refine lv_iload_n hx hb dX11_meant_1 rfl (lv_at hlv 2 rfl) ?_
  refine lv_iload_n hx hb dX11_meant_2 rfl (lv_at hlv 3 rfl) ?_
  refine cjx_v (wr := []) (vx_runV (As := [.int p1, .int p2]) (rest := []) ⟨hx, hb, hml, hown, hts⟩ (c_needCell l hl D cy sa ko ka p1 p2 s.heap.size) (cwV 2 hts gg_0 rfl rfl rfl (by decide +kernel) ⟨Nat.le_of_ble_eq_true rfl, Nat.le_of_ble_eq_true rfl⟩) ⟨pcW.blind, (va_recv hG.1 hP (ci := 11) (q0 := 0) rfl rfl), (pcW.mk hP hD hS hA hG hT [0, 1, 2] rfl (by decide))⟩ rfl rfl hlv.1 rfl (lv_room (Nat.le_of_ble_eq_true rfl)) dX11_meant_3 ⟨Nat.le_of_ble_eq_true rfl, Nat.le_of_ble_eq_true rfl⟩) hP hD hS hA [0, 1, 2] [] rfl rfl (by decide) (by decide) (fun E ce q9 H locs hp hP hD hS h1 h2 h3 => ?_) (fun u1 H locs hw1 hP hD hS => ?_)
  · obtain ⟨rfl, hg1⟩ := hp
    exact vx_out (fun x h => (hex x h).elim) hlocks h1 h2 h3 (fun t ht hvm => ⟨(), trivial, (by exact ⟨rfl, trivial⟩), hS.F ht⟩) hS.2.2 (Nat.le_of_ble_eq_true rfl) (Nat.le_of_ble_eq_true rfl)
  · exact (hw1).elim
def vs_c_drain : List Cond := .code yX11_drain cX11_drain 3 (some .int) :: (([.fieldLink RX11 31 "KerbSplash" "now" "LKerbSplash$Street;"] : List Cond) ++ ((wsX110) ++ ((wsX60) ++ ((va_wsS RX11 130 yX11_isWithin wsX11_isWithin) ++ ((wsV RX11 177 RX11 yX11_needElement vs_needElement) ++ ([]))))))
set_option maxHeartbeats 4000000 in
set_option maxRecDepth 100000 in
theorem c_drain (l : Launch) (hl : l.stackTraces = false) (D : va_G) (cy : Nat → ClassId) (sa : Nat → Nat) (ko : Nat) (ka : Nat → Nat) (p0 p1 : Int32) (sz : Nat) : vx_Met l yX11_drain vs_c_drain ({ frames := 7, cells := 1, slots := 6, locals := 121 }) (va_Pc [.ref ko, .int p0, .int p1] (pcW D cy sa sz [(ko, .inr (11, [.ref (ka 0), .ref (ka 1), .ref (ka 2), .int 0, .int 0, .ref (ka 5), .ref (ka 6), .ref (ka 7), .ref (ka 8), .ref (ka 9), .int 0, .ref (ka 11), .ref (ka 12), .ref (ka 13)])), ((ka 5), .inr (6, [.int 0, .int 0, .ref (ka 21), .ref (ka 22), .int 0, .int 0, .ref (ka 23), .int 0, .ref (ka 24), .int 0, .int 0, .ref (ka 25), .int 0, .ref (ka 26), .int 0, .int 0, .int 0, .int 0, .int 0])), ((ka 13), .inl (cy 0, 4, .inl (fun _ => 0)))])) (va_Qi (fun (r : Int32) (u : SU) => False) (fun u t => atW D (va_A [(ko, .inr (11, [.ref (ka 0), .ref (ka 1), .ref (ka 2), .int 0, .int 0, .ref (ka 5), .ref (ka 6), .ref (ka 7), .ref (ka 8), .ref (ka 9), .int 0, .ref (ka 11), .ref (ka 12), .ref (ka 13)])), ((ka 5), .inr (6, [.int 0, .int 0, .ref (ka 21), .ref (ka 22), .int 0, .int 0, .ref (ka 23), .int 0, .ref (ka 24), .int 0, .int 0, .ref (ka 25), .int 0, .ref (ka 26), .int 0, .int 0, .int 0, .int 0, .int 0])), ((ka 13), .inl (cy 0, 4, .inl (fun _ => 0)))] sz) [] t) (va_A [(ko, .inr (11, [.ref (ka 0), .ref (ka 1), .ref (ka 2), .int 0, .int 0, .ref (ka 5), .ref (ka 6), .ref (ka 7), .ref (ka 8), .ref (ka 9), .int 0, .ref (ka 11), .ref (ka 12), .ref (ka 13)])), ((ka 5), .inr (6, [.int 0, .int 0, .ref (ka 21), .ref (ka 22), .int 0, .int 0, .ref (ka 23), .int 0, .ref (ka 24), .int 0, .int 0, .ref (ka 25), .int 0, .ref (ka 26), .int 0, .int 0, .int 0, .int 0, .int 0])), ((ka 13), .inl (cy 0, 4, .inl (fun _ => 0)))] sz)) (xcW (fun E => (E = "java/util/NoSuchElementException" ∧ (True))) (va_A [(ko, .inr (11, [.ref (ka 0), .ref (ka 1), .ref (ka 2), .int 0, .int 0, .ref (ka 5), .ref (ka 6), .ref (ka 7), .ref (ka 8), .ref (ka 9), .int 0, .ref (ka 11), .ref (ka 12), .ref (ka 13)])), ((ka 5), .inr (6, [.int 0, .int 0, .ref (ka 21), .ref (ka 22), .int 0, .int 0, .ref (ka 23), .int 0, .ref (ka 24), .int 0, .int 0, .ref (ka 25), .int 0, .ref (ka 26), .int 0, .int 0, .int 0, .int 0, .int 0])), ((ka 13), .inl (cy 0, 4, .inl (fun _ => 0)))] sz)) 1 6 (va_A [(ko, .inr (11, [.ref (ka 0), .ref (ka 1), .ref (ka 2), .int 0, .int 0, .ref (ka 5), .ref (ka 6), .ref (ka 7), .ref (ka 8), .ref (ka 9), .int 0, .ref (ka 11), .ref (ka 12), .ref (ka 13)])), ((ka 5), .inr (6, [.int 0, .int 0, .ref (ka 21), .ref (ka 22), .int 0, .int 0, .ref (ka 23), .int 0, .ref (ka 24), .int 0, .int 0, .ref (ka 25), .int 0, .ref (ka 26), .int 0, .int 0, .int 0, .int 0, .int 0])), ((ka 13), .inl (cy 0, 4, .inl (fun _ => 0)))] sz) := by
  refine vx_ofW (cc := cX11_drain) (maxL := 3) (ret := (some .int)) (by decide) rfl ?_
  intro p e s m args below meth c s₁ B hml hex hv
  obtain ⟨rfl, hsz, hP, hG, hD0, hT⟩ := hv
  have hx := B.exec
  have hb := B.bytes
  have hr := B.returns
  have hts := atoms_spec (ws := vs_c_drain) B.pre
  have hown : s.vm.findClass RX11 = some m.cls := findClass_of_methodNamed B.named
  have hlocks := B.notSynchronized
  subst hsz
  have hD := hD0.self (sz := s.heap.size)
  generalize hAe : va_A [(ko, .inr (11, [.ref (ka 0), .ref (ka 1), .ref (ka 2), .int 0, .int 0, .ref (ka 5), .ref (ka 6), .ref (ka 7), .ref (ka 8), .ref (ka 9), .int 0, .ref (ka 11), .ref (ka 12), .ref (ka 13)])), ((ka 5), .inr (6, [.int 0, .int 0, .ref (ka 21), .ref (ka 22), .int 0, .int 0, .ref (ka 23), .int 0, .ref (ka 24), .int 0, .int 0, .ref (ka 25), .int 0, .ref (ka 26), .int 0, .int 0, .int 0, .int 0, .int 0])), ((ka 13), .inl (cy 0, 4, .inl (fun _ => 0)))] s.heap.size = A at hD hT ⊢
  have hA : ∀ q : Nat, s.heap.size ≤ q → A q := fun q h => by rw [← hAe]; exact Or.inr h
  have hS : va_S A s.heap s.heap [] := va_S.rf
  have hl0 := lv_entry ([.ref ko, .int p0, .int p1]) (n := 3) (Nat.le_of_ble_eq_true rfl)
  rw [lg_entry_eq]
  generalize (lg_sl ([.ref ko, .int p0, .int p1]) ++ List.replicate (3 - (lg_sl ([.ref ko, .int p0, .int p1])).length) Slot.unset).toArray = ls at hl0 ⊢
  have hlv : lv_has ls 3 [(0, .ref ko), (1, .int p0), (2, .int p1)] := hl0
  have lf31 := hts (.fieldLink RX11 31 "KerbSplash" "now" "LKerbSplash$Street;") (List.mem_of_getElem? (i := 1) rfl)
  have hi11 : ∀ w ∈ wsX110, w ∈ vs_c_drain := fun w h => List.mem_cons_of_mem _ (List.mem_append_right _ (List.mem_append_left _ h))
  have hi6 : ∀ w ∈ wsX60, w ∈ vs_c_drain := fun w h => List.mem_cons_of_mem _ (List.mem_append_right _ (List.mem_append_right _ (List.mem_append_left _ h)))
  have gg_2 : GoodIn vs_c_drain (va_wsS RX11 130 yX11_isWithin wsX11_isWithin) := goodIn_sub (fun w h => List.mem_cons_of_mem _ (List.mem_append_right _ (List.mem_append_right _ (List.mem_append_right _ (List.mem_append_left _ h))))) (by decide +kernel)
  have gg_3 : GoodIn vs_c_drain (wsV RX11 177 RX11 yX11_needElement vs_needElement) := goodIn_sub (fun w h => List.mem_cons_of_mem _ (List.mem_append_right _ (List.mem_append_right _ (List.mem_append_right _ (List.mem_append_right _ (List.mem_append_left _ h)))))) (by decide +kernel)
  refine lv_aload_n hx hb dX11_drain_0 rfl (lv_at hlv 0 rfl) ?_
  refine lv_iload_n hx hb dX11_drain_1 rfl (lv_at hlv 1 rfl) ?_
  refine lv_iconst (v := 0) hx hb dX11_drain_2 (by decide) ?_
  refine lv_aload_n hx hb dX11_drain_3 rfl (lv_at hlv 0 rfl) ?_
  refine va_get (D := D) (ci := 11) (v := .ref (ka 5)) (C := RX11) (T := TX11) (N := 14) hx hb hts hi11 hown hG.1 hP 0 rfl rfl 5 (by decide) lf31 (fun _ h9 => h9) rfl dX11_drain_4 ?_
  refine va_getN (D := D) (ci := 6) (v := .int 0) (C := RX6) (T := TX6) (N := 19) hx hb hts hi6 hown hG.1 hP 1 rfl rfl 4 (by decide) (va_Nw.use rfl (nF_K_144 hG.2.1)) (fun _ h9 => h9) rfl dX11_drain_7 ?_
  refine lv_iconst (v := 1) hx hb dX11_drain_10 (by decide) ?_
  refine lv_isub hx hb dX11_drain_11 ?_
  refine lt_i (y := (-1)) (by decide) ?_
  refine cj_i (wr := [(ko, .inr (11, [.ref (ka 0), .ref (ka 1), .ref (ka 2), .int 0, .int 0, .ref (ka 5), .ref (ka 6), .ref (ka 7), .ref (ka 8), .ref (ka 9), .int 0, .ref (ka 11), .ref (ka 12), .ref (ka 13)])), ((ka 5), .inr (6, [.int 0, .int 0, .ref (ka 21), .ref (ka 22), .int 0, .int 0, .ref (ka 23), .int 0, .ref (ka 24), .int 0, .int 0, .ref (ka 25), .int 0, .ref (ka 26), .int 0, .int 0, .int 0, .int 0, .int 0])), ((ka 13), .inl (cy 0, 4, .inl (fun _ => 0)))]) (va_runS (As := [.int p0, .int 0, .int (-1)]) (rest := [.ref ko]) ⟨hx, hb, hml, hown, hts⟩ (c_isWithin l hl D cy sa p0 0 (-1) s.heap.size) (va_cwS 3 hts gg_2 rfl rfl rfl (by decide +kernel) ⟨Nat.le_of_ble_eq_true rfl, Nat.le_of_ble_eq_true rfl⟩) ⟨pcW.blind, (pcW.mk hP hD hS hA hG hT [] rfl (by decide))⟩ rfl rfl hlv.1 rfl (lv_room (Nat.le_of_ble_eq_true rfl)) dX11_drain_12 ⟨Nat.le_of_ble_eq_true rfl, Nat.le_of_ble_eq_true rfl⟩) hP hD hS hA [] [0, 1, 2] rfl rfl (by decide) (by decide) (fun r1 u1 H locs hw1 hP hD hS => ?_)
  rcases hw1 with ⟨hg1, rfl⟩ | ⟨hg1, rfl⟩
  · exact absurd hg1 (fun q => absurd (Int32.le_trans q.1 q.2) (by decide))
  · have hP : va_P D vwCl [(ko, .inr (11, [.ref (ka 0), .ref (ka 1), .ref (ka 2), .int 0, .int 0, .ref (ka 5), .ref (ka 6), .ref (ka 7), .ref (ka 8), .ref (ka 9), .int 0, .ref (ka 11), .ref (ka 12), .ref (ka 13)])), ((ka 5), .inr (6, [.int 0, .int 0, .ref (ka 21), .ref (ka 22), .int 0, .int 0, .ref (ka 23), .int 0, .ref (ka 24), .int 0, .int 0, .ref (ka 25), .int 0, .ref (ka 26), .int 0, .int 0, .int 0, .int 0, .int 0])), ((ka 13), .inl (cy 0, 4, .inl (fun _ => 0)))] H := hP
    have hD : va_D A [(ko, .inr (11, [.ref (ka 0), .ref (ka 1), .ref (ka 2), .int 0, .int 0, .ref (ka 5), .ref (ka 6), .ref (ka 7), .ref (ka 8), .ref (ka 9), .int 0, .ref (ka 11), .ref (ka 12), .ref (ka 13)])), ((ka 5), .inr (6, [.int 0, .int 0, .ref (ka 21), .ref (ka 22), .int 0, .int 0, .ref (ka 23), .int 0, .ref (ka 24), .int 0, .int 0, .ref (ka 25), .int 0, .ref (ka 26), .int 0, .int 0, .int 0, .int 0, .int 0])), ((ka 13), .inl (cy 0, 4, .inl (fun _ => 0)))] := hD
    refine cjx_v (wr := [((ka 5), .inr (6, [.int 0, .int 0, .ref (ka 21), .ref (ka 22), .int 0, .int 0, .ref (ka 23), .int 0, .ref (ka 24), .int 0, .int 0, .ref (ka 25), .int 0, .ref (ka 26), .int 0, .int 0, .int 0, .int 0, .int 0]))]) (vx_runV (As := [.int 0]) (rest := []) ⟨hx, hb, hml, hown, hts⟩ (c_needElement0 l hl D cy sa ko ka H.size) (cwV 1 hts gg_3 rfl rfl rfl (by decide +kernel) ⟨Nat.le_of_ble_eq_true rfl, Nat.le_of_ble_eq_true rfl⟩) ⟨pcW.blind, (va_recv hG.1 hP (ci := 11) (q0 := 0) rfl rfl), (pcW.mk hP hD hS hA hG hT [0, 2] rfl (by decide))⟩ rfl rfl hlv.1 rfl (lv_room (Nat.le_of_ble_eq_true rfl)) dX11_drain_15 ⟨Nat.le_of_ble_eq_true rfl, Nat.le_of_ble_eq_true rfl⟩) hP hD hS hA [0, 2] [1] rfl rfl (by decide) (by decide) (fun E ce q9 H locs hp hP hD hS h1 h2 h3 => ?_) (fun u2 H locs hw2 hP hD hS => ?_)
    · obtain ⟨rfl, hg2⟩ := hp
      exact vx_out (fun x h => (hex x h).elim) hlocks h1 h2 h3 (fun t ht hvm => ⟨(), trivial, (by exact ⟨rfl, trivial⟩), hS.F ht⟩) hS.2.2 (Nat.le_of_ble_eq_true rfl) (Nat.le_of_ble_eq_true rfl)
    · exact (hw2).elim
def vs_c_leaves : List Cond := .code yX11_leaves cX11_leaves 5 (some .int) :: (([.fieldLink RX11 31 "KerbSplash" "now" "LKerbSplash$Street;"] : List Cond) ++ ((wsX110) ++ ((wsX60) ++ ((va_wsS RX11 130 yX11_isWithin wsX11_isWithin) ++ ((wsV RX11 177 RX11 yX11_needElement vs_needElement) ++ ([]))))))
set_option maxHeartbeats 4000000 in
set_option maxRecDepth 100000 in
theorem c_leaves (l : Launch) (hl : l.stackTraces = false) (D : va_G) (cy : Nat → ClassId) (sa : Nat → Nat) (ko : Nat) (ka : Nat → Nat) (p0 p1 : Int32) (sz : Nat) : vx_Met l yX11_leaves vs_c_leaves ({ frames := 7, cells := 1, slots := 6, locals := 121 }) (va_Pc [.ref ko, .int p0, .int p1] (pcW D cy sa sz [(ko, .inr (11, [.ref (ka 0), .ref (ka 1), .ref (ka 2), .int 0, .int 0, .ref (ka 5), .ref (ka 6), .ref (ka 7), .ref (ka 8), .ref (ka 9), .int 0, .ref (ka 11), .ref (ka 12), .ref (ka 13)])), ((ka 5), .inr (6, [.int 0, .int 0, .ref (ka 21), .ref (ka 22), .int 0, .int 0, .ref (ka 23), .int 0, .ref (ka 24), .int 0, .int 0, .ref (ka 25), .int 0, .ref (ka 26), .int 0, .int 0, .int 0, .int 0, .int 0])), ((ka 13), .inl (cy 0, 4, .inl (fun _ => 0)))])) (va_Qi (fun (r : Int32) (u : SU) => False) (fun u t => atW D (va_A [(ko, .inr (11, [.ref (ka 0), .ref (ka 1), .ref (ka 2), .int 0, .int 0, .ref (ka 5), .ref (ka 6), .ref (ka 7), .ref (ka 8), .ref (ka 9), .int 0, .ref (ka 11), .ref (ka 12), .ref (ka 13)])), ((ka 5), .inr (6, [.int 0, .int 0, .ref (ka 21), .ref (ka 22), .int 0, .int 0, .ref (ka 23), .int 0, .ref (ka 24), .int 0, .int 0, .ref (ka 25), .int 0, .ref (ka 26), .int 0, .int 0, .int 0, .int 0, .int 0])), ((ka 13), .inl (cy 0, 4, .inl (fun _ => 0)))] sz) [] t) (va_A [(ko, .inr (11, [.ref (ka 0), .ref (ka 1), .ref (ka 2), .int 0, .int 0, .ref (ka 5), .ref (ka 6), .ref (ka 7), .ref (ka 8), .ref (ka 9), .int 0, .ref (ka 11), .ref (ka 12), .ref (ka 13)])), ((ka 5), .inr (6, [.int 0, .int 0, .ref (ka 21), .ref (ka 22), .int 0, .int 0, .ref (ka 23), .int 0, .ref (ka 24), .int 0, .int 0, .ref (ka 25), .int 0, .ref (ka 26), .int 0, .int 0, .int 0, .int 0, .int 0])), ((ka 13), .inl (cy 0, 4, .inl (fun _ => 0)))] sz)) (xcW (fun E => (E = "java/util/NoSuchElementException" ∧ (True))) (va_A [(ko, .inr (11, [.ref (ka 0), .ref (ka 1), .ref (ka 2), .int 0, .int 0, .ref (ka 5), .ref (ka 6), .ref (ka 7), .ref (ka 8), .ref (ka 9), .int 0, .ref (ka 11), .ref (ka 12), .ref (ka 13)])), ((ka 5), .inr (6, [.int 0, .int 0, .ref (ka 21), .ref (ka 22), .int 0, .int 0, .ref (ka 23), .int 0, .ref (ka 24), .int 0, .int 0, .ref (ka 25), .int 0, .ref (ka 26), .int 0, .int 0, .int 0, .int 0, .int 0])), ((ka 13), .inl (cy 0, 4, .inl (fun _ => 0)))] sz)) 1 6 (va_A [(ko, .inr (11, [.ref (ka 0), .ref (ka 1), .ref (ka 2), .int 0, .int 0, .ref (ka 5), .ref (ka 6), .ref (ka 7), .ref (ka 8), .ref (ka 9), .int 0, .ref (ka 11), .ref (ka 12), .ref (ka 13)])), ((ka 5), .inr (6, [.int 0, .int 0, .ref (ka 21), .ref (ka 22), .int 0, .int 0, .ref (ka 23), .int 0, .ref (ka 24), .int 0, .int 0, .ref (ka 25), .int 0, .ref (ka 26), .int 0, .int 0, .int 0, .int 0, .int 0])), ((ka 13), .inl (cy 0, 4, .inl (fun _ => 0)))] sz) := by
  refine vx_ofW (cc := cX11_leaves) (maxL := 5) (ret := (some .int)) (by decide) rfl ?_
  intro p e s m args below meth c s₁ B hml hex hv
  obtain ⟨rfl, hsz, hP, hG, hD0, hT⟩ := hv
  have hx := B.exec
  have hb := B.bytes
  have hr := B.returns
  have hts := atoms_spec (ws := vs_c_leaves) B.pre
  have hown : s.vm.findClass RX11 = some m.cls := findClass_of_methodNamed B.named
  have hlocks := B.notSynchronized
  subst hsz
  have hD := hD0.self (sz := s.heap.size)
  generalize hAe : va_A [(ko, .inr (11, [.ref (ka 0), .ref (ka 1), .ref (ka 2), .int 0, .int 0, .ref (ka 5), .ref (ka 6), .ref (ka 7), .ref (ka 8), .ref (ka 9), .int 0, .ref (ka 11), .ref (ka 12), .ref (ka 13)])), ((ka 5), .inr (6, [.int 0, .int 0, .ref (ka 21), .ref (ka 22), .int 0, .int 0, .ref (ka 23), .int 0, .ref (ka 24), .int 0, .int 0, .ref (ka 25), .int 0, .ref (ka 26), .int 0, .int 0, .int 0, .int 0, .int 0])), ((ka 13), .inl (cy 0, 4, .inl (fun _ => 0)))] s.heap.size = A at hD hT ⊢
  have hA : ∀ q : Nat, s.heap.size ≤ q → A q := fun q h => by rw [← hAe]; exact Or.inr h
  have hS : va_S A s.heap s.heap [] := va_S.rf
  have hl0 := lv_entry ([.ref ko, .int p0, .int p1]) (n := 5) (Nat.le_of_ble_eq_true rfl)
  rw [lg_entry_eq]
  generalize (lg_sl ([.ref ko, .int p0, .int p1]) ++ List.replicate (5 - (lg_sl ([.ref ko, .int p0, .int p1])).length) Slot.unset).toArray = ls at hl0 ⊢
  have hlv : lv_has ls 5 [(0, .ref ko), (1, .int p0), (2, .int p1)] := hl0
  have lf31 := hts (.fieldLink RX11 31 "KerbSplash" "now" "LKerbSplash$Street;") (List.mem_of_getElem? (i := 1) rfl)
  have hi11 : ∀ w ∈ wsX110, w ∈ vs_c_leaves := fun w h => List.mem_cons_of_mem _ (List.mem_append_right _ (List.mem_append_left _ h))
  have hi6 : ∀ w ∈ wsX60, w ∈ vs_c_leaves := fun w h => List.mem_cons_of_mem _ (List.mem_append_right _ (List.mem_append_right _ (List.mem_append_left _ h)))
  have gg_2 : GoodIn vs_c_leaves (va_wsS RX11 130 yX11_isWithin wsX11_isWithin) := goodIn_sub (fun w h => List.mem_cons_of_mem _ (List.mem_append_right _ (List.mem_append_right _ (List.mem_append_right _ (List.mem_append_left _ h))))) (by decide +kernel)
  have gg_3 : GoodIn vs_c_leaves (wsV RX11 177 RX11 yX11_needElement vs_needElement) := goodIn_sub (fun w h => List.mem_cons_of_mem _ (List.mem_append_right _ (List.mem_append_right _ (List.mem_append_right _ (List.mem_append_right _ (List.mem_append_left _ h)))))) (by decide +kernel)
  refine lv_aload_n hx hb dX11_leaves_0 rfl (lv_at hlv 0 rfl) ?_
  refine lv_iload_n hx hb dX11_leaves_1 rfl (lv_at hlv 1 rfl) ?_
  refine lv_iconst (v := 0) hx hb dX11_leaves_2 (by decide) ?_
  refine lv_aload_n hx hb dX11_leaves_3 rfl (lv_at hlv 0 rfl) ?_
  refine va_get (D := D) (ci := 11) (v := .ref (ka 5)) (C := RX11) (T := TX11) (N := 14) hx hb hts hi11 hown hG.1 hP 0 rfl rfl 5 (by decide) lf31 (fun _ h9 => h9) rfl dX11_leaves_4 ?_
  refine va_getN (D := D) (ci := 6) (v := .int 0) (C := RX6) (T := TX6) (N := 19) hx hb hts hi6 hown hG.1 hP 1 rfl rfl 4 (by decide) (va_Nw.use rfl (nF_K_144 hG.2.1)) (fun _ h9 => h9) rfl dX11_leaves_7 ?_
  refine lv_iconst (v := 1) hx hb dX11_leaves_10 (by decide) ?_
  refine lv_isub hx hb dX11_leaves_11 ?_
  refine lt_i (y := (-1)) (by decide) ?_
  refine cj_i (wr := [(ko, .inr (11, [.ref (ka 0), .ref (ka 1), .ref (ka 2), .int 0, .int 0, .ref (ka 5), .ref (ka 6), .ref (ka 7), .ref (ka 8), .ref (ka 9), .int 0, .ref (ka 11), .ref (ka 12), .ref (ka 13)])), ((ka 5), .inr (6, [.int 0, .int 0, .ref (ka 21), .ref (ka 22), .int 0, .int 0, .ref (ka 23), .int 0, .ref (ka 24), .int 0, .int 0, .ref (ka 25), .int 0, .ref (ka 26), .int 0, .int 0, .int 0, .int 0, .int 0])), ((ka 13), .inl (cy 0, 4, .inl (fun _ => 0)))]) (va_runS (As := [.int p0, .int 0, .int (-1)]) (rest := [.ref ko]) ⟨hx, hb, hml, hown, hts⟩ (c_isWithin l hl D cy sa p0 0 (-1) s.heap.size) (va_cwS 3 hts gg_2 rfl rfl rfl (by decide +kernel) ⟨Nat.le_of_ble_eq_true rfl, Nat.le_of_ble_eq_true rfl⟩) ⟨pcW.blind, (pcW.mk hP hD hS hA hG hT [] rfl (by decide))⟩ rfl rfl hlv.1 rfl (lv_room (Nat.le_of_ble_eq_true rfl)) dX11_leaves_12 ⟨Nat.le_of_ble_eq_true rfl, Nat.le_of_ble_eq_true rfl⟩) hP hD hS hA [] [0, 1, 2] rfl rfl (by decide) (by decide) (fun r1 u1 H locs hw1 hP hD hS => ?_)
  rcases hw1 with ⟨hg1, rfl⟩ | ⟨hg1, rfl⟩
  · exact absurd hg1 (fun q => absurd (Int32.le_trans q.1 q.2) (by decide))
  · have hP : va_P D vwCl [(ko, .inr (11, [.ref (ka 0), .ref (ka 1), .ref (ka 2), .int 0, .int 0, .ref (ka 5), .ref (ka 6), .ref (ka 7), .ref (ka 8), .ref (ka 9), .int 0, .ref (ka 11), .ref (ka 12), .ref (ka 13)])), ((ka 5), .inr (6, [.int 0, .int 0, .ref (ka 21), .ref (ka 22), .int 0, .int 0, .ref (ka 23), .int 0, .ref (ka 24), .int 0, .int 0, .ref (ka 25), .int 0, .ref (ka 26), .int 0, .int 0, .int 0, .int 0, .int 0])), ((ka 13), .inl (cy 0, 4, .inl (fun _ => 0)))] H := hP
    have hD : va_D A [(ko, .inr (11, [.ref (ka 0), .ref (ka 1), .ref (ka 2), .int 0, .int 0, .ref (ka 5), .ref (ka 6), .ref (ka 7), .ref (ka 8), .ref (ka 9), .int 0, .ref (ka 11), .ref (ka 12), .ref (ka 13)])), ((ka 5), .inr (6, [.int 0, .int 0, .ref (ka 21), .ref (ka 22), .int 0, .int 0, .ref (ka 23), .int 0, .ref (ka 24), .int 0, .int 0, .ref (ka 25), .int 0, .ref (ka 26), .int 0, .int 0, .int 0, .int 0, .int 0])), ((ka 13), .inl (cy 0, 4, .inl (fun _ => 0)))] := hD
    refine cjx_v (wr := [((ka 5), .inr (6, [.int 0, .int 0, .ref (ka 21), .ref (ka 22), .int 0, .int 0, .ref (ka 23), .int 0, .ref (ka 24), .int 0, .int 0, .ref (ka 25), .int 0, .ref (ka 26), .int 0, .int 0, .int 0, .int 0, .int 0]))]) (vx_runV (As := [.int 0]) (rest := []) ⟨hx, hb, hml, hown, hts⟩ (c_needElement0 l hl D cy sa ko ka H.size) (cwV 1 hts gg_3 rfl rfl rfl (by decide +kernel) ⟨Nat.le_of_ble_eq_true rfl, Nat.le_of_ble_eq_true rfl⟩) ⟨pcW.blind, (va_recv hG.1 hP (ci := 11) (q0 := 0) rfl rfl), (pcW.mk hP hD hS hA hG hT [0, 2] rfl (by decide))⟩ rfl rfl hlv.1 rfl (lv_room (Nat.le_of_ble_eq_true rfl)) dX11_leaves_15 ⟨Nat.le_of_ble_eq_true rfl, Nat.le_of_ble_eq_true rfl⟩) hP hD hS hA [0, 2] [1] rfl rfl (by decide) (by decide) (fun E ce q9 H locs hp hP hD hS h1 h2 h3 => ?_) (fun u2 H locs hw2 hP hD hS => ?_)
    · obtain ⟨rfl, hg2⟩ := hp
      exact vx_out (fun x h => (hex x h).elim) hlocks h1 h2 h3 (fun t ht hvm => ⟨(), trivial, (by exact ⟨rfl, trivial⟩), hS.F ht⟩) hS.2.2 (Nat.le_of_ble_eq_true rfl) (Nat.le_of_ble_eq_true rfl)
    · exact (hw2).elim
def vs_c_person : List Cond := .code yX11_person cX11_person 3 (some .int) :: (([.fieldLink RX11 31 "KerbSplash" "now" "LKerbSplash$Street;"] : List Cond) ++ ((wsX110) ++ ((wsX60) ++ ((va_wsS RX11 130 yX11_isWithin wsX11_isWithin) ++ ((wsV RX11 177 RX11 yX11_needElement vs_needElement) ++ ([]))))))
set_option maxHeartbeats 4000000 in
set_option maxRecDepth 100000 in
theorem c_person (l : Launch) (hl : l.stackTraces = false) (D : va_G) (cy : Nat → ClassId) (sa : Nat → Nat) (ko : Nat) (ka : Nat → Nat) (p0 p1 : Int32) (sz : Nat) : vx_Met l yX11_person vs_c_person ({ frames := 7, cells := 1, slots := 6, locals := 121 }) (va_Pc [.ref ko, .int p0, .int p1] (pcW D cy sa sz [(ko, .inr (11, [.ref (ka 0), .ref (ka 1), .ref (ka 2), .int 0, .int 0, .ref (ka 5), .ref (ka 6), .ref (ka 7), .ref (ka 8), .ref (ka 9), .int 0, .ref (ka 11), .ref (ka 12), .ref (ka 13)])), ((ka 5), .inr (6, [.int 0, .int 0, .ref (ka 21), .ref (ka 22), .int 0, .int 0, .ref (ka 23), .int 0, .ref (ka 24), .int 0, .int 0, .ref (ka 25), .int 0, .ref (ka 26), .int 0, .int 0, .int 0, .int 0, .int 0])), ((ka 13), .inl (cy 0, 4, .inl (fun _ => 0)))])) (va_Qi (fun (r : Int32) (u : SU) => False) (fun u t => atW D (va_A [(ko, .inr (11, [.ref (ka 0), .ref (ka 1), .ref (ka 2), .int 0, .int 0, .ref (ka 5), .ref (ka 6), .ref (ka 7), .ref (ka 8), .ref (ka 9), .int 0, .ref (ka 11), .ref (ka 12), .ref (ka 13)])), ((ka 5), .inr (6, [.int 0, .int 0, .ref (ka 21), .ref (ka 22), .int 0, .int 0, .ref (ka 23), .int 0, .ref (ka 24), .int 0, .int 0, .ref (ka 25), .int 0, .ref (ka 26), .int 0, .int 0, .int 0, .int 0, .int 0])), ((ka 13), .inl (cy 0, 4, .inl (fun _ => 0)))] sz) [] t) (va_A [(ko, .inr (11, [.ref (ka 0), .ref (ka 1), .ref (ka 2), .int 0, .int 0, .ref (ka 5), .ref (ka 6), .ref (ka 7), .ref (ka 8), .ref (ka 9), .int 0, .ref (ka 11), .ref (ka 12), .ref (ka 13)])), ((ka 5), .inr (6, [.int 0, .int 0, .ref (ka 21), .ref (ka 22), .int 0, .int 0, .ref (ka 23), .int 0, .ref (ka 24), .int 0, .int 0, .ref (ka 25), .int 0, .ref (ka 26), .int 0, .int 0, .int 0, .int 0, .int 0])), ((ka 13), .inl (cy 0, 4, .inl (fun _ => 0)))] sz)) (xcW (fun E => (E = "java/util/NoSuchElementException" ∧ (True))) (va_A [(ko, .inr (11, [.ref (ka 0), .ref (ka 1), .ref (ka 2), .int 0, .int 0, .ref (ka 5), .ref (ka 6), .ref (ka 7), .ref (ka 8), .ref (ka 9), .int 0, .ref (ka 11), .ref (ka 12), .ref (ka 13)])), ((ka 5), .inr (6, [.int 0, .int 0, .ref (ka 21), .ref (ka 22), .int 0, .int 0, .ref (ka 23), .int 0, .ref (ka 24), .int 0, .int 0, .ref (ka 25), .int 0, .ref (ka 26), .int 0, .int 0, .int 0, .int 0, .int 0])), ((ka 13), .inl (cy 0, 4, .inl (fun _ => 0)))] sz)) 1 6 (va_A [(ko, .inr (11, [.ref (ka 0), .ref (ka 1), .ref (ka 2), .int 0, .int 0, .ref (ka 5), .ref (ka 6), .ref (ka 7), .ref (ka 8), .ref (ka 9), .int 0, .ref (ka 11), .ref (ka 12), .ref (ka 13)])), ((ka 5), .inr (6, [.int 0, .int 0, .ref (ka 21), .ref (ka 22), .int 0, .int 0, .ref (ka 23), .int 0, .ref (ka 24), .int 0, .int 0, .ref (ka 25), .int 0, .ref (ka 26), .int 0, .int 0, .int 0, .int 0, .int 0])), ((ka 13), .inl (cy 0, 4, .inl (fun _ => 0)))] sz) := by
  refine vx_ofW (cc := cX11_person) (maxL := 3) (ret := (some .int)) (by decide) rfl ?_
  intro p e s m args below meth c s₁ B hml hex hv
  obtain ⟨rfl, hsz, hP, hG, hD0, hT⟩ := hv
  have hx := B.exec
  have hb := B.bytes
  have hr := B.returns
  have hts := atoms_spec (ws := vs_c_person) B.pre
  have hown : s.vm.findClass RX11 = some m.cls := findClass_of_methodNamed B.named
  have hlocks := B.notSynchronized
  subst hsz
  have hD := hD0.self (sz := s.heap.size)
  generalize hAe : va_A [(ko, .inr (11, [.ref (ka 0), .ref (ka 1), .ref (ka 2), .int 0, .int 0, .ref (ka 5), .ref (ka 6), .ref (ka 7), .ref (ka 8), .ref (ka 9), .int 0, .ref (ka 11), .ref (ka 12), .ref (ka 13)])), ((ka 5), .inr (6, [.int 0, .int 0, .ref (ka 21), .ref (ka 22), .int 0, .int 0, .ref (ka 23), .int 0, .ref (ka 24), .int 0, .int 0, .ref (ka 25), .int 0, .ref (ka 26), .int 0, .int 0, .int 0, .int 0, .int 0])), ((ka 13), .inl (cy 0, 4, .inl (fun _ => 0)))] s.heap.size = A at hD hT ⊢
  have hA : ∀ q : Nat, s.heap.size ≤ q → A q := fun q h => by rw [← hAe]; exact Or.inr h
  have hS : va_S A s.heap s.heap [] := va_S.rf
  have hl0 := lv_entry ([.ref ko, .int p0, .int p1]) (n := 3) (Nat.le_of_ble_eq_true rfl)
  rw [lg_entry_eq]
  generalize (lg_sl ([.ref ko, .int p0, .int p1]) ++ List.replicate (3 - (lg_sl ([.ref ko, .int p0, .int p1])).length) Slot.unset).toArray = ls at hl0 ⊢
  have hlv : lv_has ls 3 [(0, .ref ko), (1, .int p0), (2, .int p1)] := hl0
  have lf31 := hts (.fieldLink RX11 31 "KerbSplash" "now" "LKerbSplash$Street;") (List.mem_of_getElem? (i := 1) rfl)
  have hi11 : ∀ w ∈ wsX110, w ∈ vs_c_person := fun w h => List.mem_cons_of_mem _ (List.mem_append_right _ (List.mem_append_left _ h))
  have hi6 : ∀ w ∈ wsX60, w ∈ vs_c_person := fun w h => List.mem_cons_of_mem _ (List.mem_append_right _ (List.mem_append_right _ (List.mem_append_left _ h)))
  have gg_2 : GoodIn vs_c_person (va_wsS RX11 130 yX11_isWithin wsX11_isWithin) := goodIn_sub (fun w h => List.mem_cons_of_mem _ (List.mem_append_right _ (List.mem_append_right _ (List.mem_append_right _ (List.mem_append_left _ h))))) (by decide +kernel)
  have gg_3 : GoodIn vs_c_person (wsV RX11 177 RX11 yX11_needElement vs_needElement) := goodIn_sub (fun w h => List.mem_cons_of_mem _ (List.mem_append_right _ (List.mem_append_right _ (List.mem_append_right _ (List.mem_append_right _ (List.mem_append_left _ h)))))) (by decide +kernel)
  refine lv_aload_n hx hb dX11_person_0 rfl (lv_at hlv 0 rfl) ?_
  refine lv_iload_n hx hb dX11_person_1 rfl (lv_at hlv 1 rfl) ?_
  refine lv_iconst (v := 0) hx hb dX11_person_2 (by decide) ?_
  refine lv_aload_n hx hb dX11_person_3 rfl (lv_at hlv 0 rfl) ?_
  refine va_get (D := D) (ci := 11) (v := .ref (ka 5)) (C := RX11) (T := TX11) (N := 14) hx hb hts hi11 hown hG.1 hP 0 rfl rfl 5 (by decide) lf31 (fun _ h9 => h9) rfl dX11_person_4 ?_
  refine va_getN (D := D) (ci := 6) (v := .int 0) (C := RX6) (T := TX6) (N := 19) hx hb hts hi6 hown hG.1 hP 1 rfl rfl 7 (by decide) (va_Nw.use rfl (nF_K_147 hG.2.1)) (fun _ h9 => h9) rfl dX11_person_7 ?_
  refine lv_iconst (v := 1) hx hb dX11_person_10 (by decide) ?_
  refine lv_isub hx hb dX11_person_11 ?_
  refine lt_i (y := (-1)) (by decide) ?_
  refine cj_i (wr := [(ko, .inr (11, [.ref (ka 0), .ref (ka 1), .ref (ka 2), .int 0, .int 0, .ref (ka 5), .ref (ka 6), .ref (ka 7), .ref (ka 8), .ref (ka 9), .int 0, .ref (ka 11), .ref (ka 12), .ref (ka 13)])), ((ka 5), .inr (6, [.int 0, .int 0, .ref (ka 21), .ref (ka 22), .int 0, .int 0, .ref (ka 23), .int 0, .ref (ka 24), .int 0, .int 0, .ref (ka 25), .int 0, .ref (ka 26), .int 0, .int 0, .int 0, .int 0, .int 0])), ((ka 13), .inl (cy 0, 4, .inl (fun _ => 0)))]) (va_runS (As := [.int p0, .int 0, .int (-1)]) (rest := [.ref ko]) ⟨hx, hb, hml, hown, hts⟩ (c_isWithin l hl D cy sa p0 0 (-1) s.heap.size) (va_cwS 3 hts gg_2 rfl rfl rfl (by decide +kernel) ⟨Nat.le_of_ble_eq_true rfl, Nat.le_of_ble_eq_true rfl⟩) ⟨pcW.blind, (pcW.mk hP hD hS hA hG hT [] rfl (by decide))⟩ rfl rfl hlv.1 rfl (lv_room (Nat.le_of_ble_eq_true rfl)) dX11_person_12 ⟨Nat.le_of_ble_eq_true rfl, Nat.le_of_ble_eq_true rfl⟩) hP hD hS hA [] [0, 1, 2] rfl rfl (by decide) (by decide) (fun r1 u1 H locs hw1 hP hD hS => ?_)
  rcases hw1 with ⟨hg1, rfl⟩ | ⟨hg1, rfl⟩
  · exact absurd hg1 (fun q => absurd (Int32.le_trans q.1 q.2) (by decide))
  · have hP : va_P D vwCl [(ko, .inr (11, [.ref (ka 0), .ref (ka 1), .ref (ka 2), .int 0, .int 0, .ref (ka 5), .ref (ka 6), .ref (ka 7), .ref (ka 8), .ref (ka 9), .int 0, .ref (ka 11), .ref (ka 12), .ref (ka 13)])), ((ka 5), .inr (6, [.int 0, .int 0, .ref (ka 21), .ref (ka 22), .int 0, .int 0, .ref (ka 23), .int 0, .ref (ka 24), .int 0, .int 0, .ref (ka 25), .int 0, .ref (ka 26), .int 0, .int 0, .int 0, .int 0, .int 0])), ((ka 13), .inl (cy 0, 4, .inl (fun _ => 0)))] H := hP
    have hD : va_D A [(ko, .inr (11, [.ref (ka 0), .ref (ka 1), .ref (ka 2), .int 0, .int 0, .ref (ka 5), .ref (ka 6), .ref (ka 7), .ref (ka 8), .ref (ka 9), .int 0, .ref (ka 11), .ref (ka 12), .ref (ka 13)])), ((ka 5), .inr (6, [.int 0, .int 0, .ref (ka 21), .ref (ka 22), .int 0, .int 0, .ref (ka 23), .int 0, .ref (ka 24), .int 0, .int 0, .ref (ka 25), .int 0, .ref (ka 26), .int 0, .int 0, .int 0, .int 0, .int 0])), ((ka 13), .inl (cy 0, 4, .inl (fun _ => 0)))] := hD
    refine cjx_v (wr := [((ka 5), .inr (6, [.int 0, .int 0, .ref (ka 21), .ref (ka 22), .int 0, .int 0, .ref (ka 23), .int 0, .ref (ka 24), .int 0, .int 0, .ref (ka 25), .int 0, .ref (ka 26), .int 0, .int 0, .int 0, .int 0, .int 0]))]) (vx_runV (As := [.int 0]) (rest := []) ⟨hx, hb, hml, hown, hts⟩ (c_needElement0 l hl D cy sa ko ka H.size) (cwV 1 hts gg_3 rfl rfl rfl (by decide +kernel) ⟨Nat.le_of_ble_eq_true rfl, Nat.le_of_ble_eq_true rfl⟩) ⟨pcW.blind, (va_recv hG.1 hP (ci := 11) (q0 := 0) rfl rfl), (pcW.mk hP hD hS hA hG hT [0, 2] rfl (by decide))⟩ rfl rfl hlv.1 rfl (lv_room (Nat.le_of_ble_eq_true rfl)) dX11_person_15 ⟨Nat.le_of_ble_eq_true rfl, Nat.le_of_ble_eq_true rfl⟩) hP hD hS hA [0, 2] [1] rfl rfl (by decide) (by decide) (fun E ce q9 H locs hp hP hD hS h1 h2 h3 => ?_) (fun u2 H locs hw2 hP hD hS => ?_)
    · obtain ⟨rfl, hg2⟩ := hp
      exact vx_out (fun x h => (hex x h).elim) hlocks h1 h2 h3 (fun t ht hvm => ⟨(), trivial, (by exact ⟨rfl, trivial⟩), hS.F ht⟩) hS.2.2 (Nat.le_of_ble_eq_true rfl) (Nat.le_of_ble_eq_true rfl)
    · exact (hw2).elim
def vs_c_work : List Cond := .code yX11_work cX11_work 3 (some .int) :: (([.fieldLink RX11 31 "KerbSplash" "now" "LKerbSplash$Street;"] : List Cond) ++ ((wsX110) ++ ((wsX60) ++ ((va_wsS RX11 130 yX11_isWithin wsX11_isWithin) ++ ((wsV RX11 177 RX11 yX11_needElement vs_needElement) ++ ([]))))))
set_option maxHeartbeats 4000000 in
set_option maxRecDepth 100000 in
theorem c_work (l : Launch) (hl : l.stackTraces = false) (D : va_G) (cy : Nat → ClassId) (sa : Nat → Nat) (ko : Nat) (ka : Nat → Nat) (p0 p1 : Int32) (sz : Nat) : vx_Met l yX11_work vs_c_work ({ frames := 7, cells := 1, slots := 6, locals := 121 }) (va_Pc [.ref ko, .int p0, .int p1] (pcW D cy sa sz [(ko, .inr (11, [.ref (ka 0), .ref (ka 1), .ref (ka 2), .int 0, .int 0, .ref (ka 5), .ref (ka 6), .ref (ka 7), .ref (ka 8), .ref (ka 9), .int 0, .ref (ka 11), .ref (ka 12), .ref (ka 13)])), ((ka 5), .inr (6, [.int 0, .int 0, .ref (ka 21), .ref (ka 22), .int 0, .int 0, .ref (ka 23), .int 0, .ref (ka 24), .int 0, .int 0, .ref (ka 25), .int 0, .ref (ka 26), .int 0, .int 0, .int 0, .int 0, .int 0])), ((ka 13), .inl (cy 0, 4, .inl (fun _ => 0)))])) (va_Qi (fun (r : Int32) (u : SU) => False) (fun u t => atW D (va_A [(ko, .inr (11, [.ref (ka 0), .ref (ka 1), .ref (ka 2), .int 0, .int 0, .ref (ka 5), .ref (ka 6), .ref (ka 7), .ref (ka 8), .ref (ka 9), .int 0, .ref (ka 11), .ref (ka 12), .ref (ka 13)])), ((ka 5), .inr (6, [.int 0, .int 0, .ref (ka 21), .ref (ka 22), .int 0, .int 0, .ref (ka 23), .int 0, .ref (ka 24), .int 0, .int 0, .ref (ka 25), .int 0, .ref (ka 26), .int 0, .int 0, .int 0, .int 0, .int 0])), ((ka 13), .inl (cy 0, 4, .inl (fun _ => 0)))] sz) [] t) (va_A [(ko, .inr (11, [.ref (ka 0), .ref (ka 1), .ref (ka 2), .int 0, .int 0, .ref (ka 5), .ref (ka 6), .ref (ka 7), .ref (ka 8), .ref (ka 9), .int 0, .ref (ka 11), .ref (ka 12), .ref (ka 13)])), ((ka 5), .inr (6, [.int 0, .int 0, .ref (ka 21), .ref (ka 22), .int 0, .int 0, .ref (ka 23), .int 0, .ref (ka 24), .int 0, .int 0, .ref (ka 25), .int 0, .ref (ka 26), .int 0, .int 0, .int 0, .int 0, .int 0])), ((ka 13), .inl (cy 0, 4, .inl (fun _ => 0)))] sz)) (xcW (fun E => (E = "java/util/NoSuchElementException" ∧ (True))) (va_A [(ko, .inr (11, [.ref (ka 0), .ref (ka 1), .ref (ka 2), .int 0, .int 0, .ref (ka 5), .ref (ka 6), .ref (ka 7), .ref (ka 8), .ref (ka 9), .int 0, .ref (ka 11), .ref (ka 12), .ref (ka 13)])), ((ka 5), .inr (6, [.int 0, .int 0, .ref (ka 21), .ref (ka 22), .int 0, .int 0, .ref (ka 23), .int 0, .ref (ka 24), .int 0, .int 0, .ref (ka 25), .int 0, .ref (ka 26), .int 0, .int 0, .int 0, .int 0, .int 0])), ((ka 13), .inl (cy 0, 4, .inl (fun _ => 0)))] sz)) 1 6 (va_A [(ko, .inr (11, [.ref (ka 0), .ref (ka 1), .ref (ka 2), .int 0, .int 0, .ref (ka 5), .ref (ka 6), .ref (ka 7), .ref (ka 8), .ref (ka 9), .int 0, .ref (ka 11), .ref (ka 12), .ref (ka 13)])), ((ka 5), .inr (6, [.int 0, .int 0, .ref (ka 21), .ref (ka 22), .int 0, .int 0, .ref (ka 23), .int 0, .ref (ka 24), .int 0, .int 0, .ref (ka 25), .int 0, .ref (ka 26), .int 0, .int 0, .int 0, .int 0, .int 0])), ((ka 13), .inl (cy 0, 4, .inl (fun _ => 0)))] sz) := by
  refine vx_ofW (cc := cX11_work) (maxL := 3) (ret := (some .int)) (by decide) rfl ?_
  intro p e s m args below meth c s₁ B hml hex hv
  obtain ⟨rfl, hsz, hP, hG, hD0, hT⟩ := hv
  have hx := B.exec
  have hb := B.bytes
  have hr := B.returns
  have hts := atoms_spec (ws := vs_c_work) B.pre
  have hown : s.vm.findClass RX11 = some m.cls := findClass_of_methodNamed B.named
  have hlocks := B.notSynchronized
  subst hsz
  have hD := hD0.self (sz := s.heap.size)
  generalize hAe : va_A [(ko, .inr (11, [.ref (ka 0), .ref (ka 1), .ref (ka 2), .int 0, .int 0, .ref (ka 5), .ref (ka 6), .ref (ka 7), .ref (ka 8), .ref (ka 9), .int 0, .ref (ka 11), .ref (ka 12), .ref (ka 13)])), ((ka 5), .inr (6, [.int 0, .int 0, .ref (ka 21), .ref (ka 22), .int 0, .int 0, .ref (ka 23), .int 0, .ref (ka 24), .int 0, .int 0, .ref (ka 25), .int 0, .ref (ka 26), .int 0, .int 0, .int 0, .int 0, .int 0])), ((ka 13), .inl (cy 0, 4, .inl (fun _ => 0)))] s.heap.size = A at hD hT ⊢
  have hA : ∀ q : Nat, s.heap.size ≤ q → A q := fun q h => by rw [← hAe]; exact Or.inr h
  have hS : va_S A s.heap s.heap [] := va_S.rf
  have hl0 := lv_entry ([.ref ko, .int p0, .int p1]) (n := 3) (Nat.le_of_ble_eq_true rfl)
  rw [lg_entry_eq]
  generalize (lg_sl ([.ref ko, .int p0, .int p1]) ++ List.replicate (3 - (lg_sl ([.ref ko, .int p0, .int p1])).length) Slot.unset).toArray = ls at hl0 ⊢
  have hlv : lv_has ls 3 [(0, .ref ko), (1, .int p0), (2, .int p1)] := hl0
  have lf31 := hts (.fieldLink RX11 31 "KerbSplash" "now" "LKerbSplash$Street;") (List.mem_of_getElem? (i := 1) rfl)
  have hi11 : ∀ w ∈ wsX110, w ∈ vs_c_work := fun w h => List.mem_cons_of_mem _ (List.mem_append_right _ (List.mem_append_left _ h))
  have hi6 : ∀ w ∈ wsX60, w ∈ vs_c_work := fun w h => List.mem_cons_of_mem _ (List.mem_append_right _ (List.mem_append_right _ (List.mem_append_left _ h)))
  have gg_2 : GoodIn vs_c_work (va_wsS RX11 130 yX11_isWithin wsX11_isWithin) := goodIn_sub (fun w h => List.mem_cons_of_mem _ (List.mem_append_right _ (List.mem_append_right _ (List.mem_append_right _ (List.mem_append_left _ h))))) (by decide +kernel)
  have gg_3 : GoodIn vs_c_work (wsV RX11 177 RX11 yX11_needElement vs_needElement) := goodIn_sub (fun w h => List.mem_cons_of_mem _ (List.mem_append_right _ (List.mem_append_right _ (List.mem_append_right _ (List.mem_append_right _ (List.mem_append_left _ h)))))) (by decide +kernel)
  refine lv_aload_n hx hb dX11_work_0 rfl (lv_at hlv 0 rfl) ?_
  refine lv_iload_n hx hb dX11_work_1 rfl (lv_at hlv 1 rfl) ?_
  refine lv_iconst (v := 0) hx hb dX11_work_2 (by decide) ?_
  refine lv_aload_n hx hb dX11_work_3 rfl (lv_at hlv 0 rfl) ?_
  refine va_get (D := D) (ci := 11) (v := .ref (ka 5)) (C := RX11) (T := TX11) (N := 14) hx hb hts hi11 hown hG.1 hP 0 rfl rfl 5 (by decide) lf31 (fun _ h9 => h9) rfl dX11_work_4 ?_
  refine va_getN (D := D) (ci := 6) (v := .int 0) (C := RX6) (T := TX6) (N := 19) hx hb hts hi6 hown hG.1 hP 1 rfl rfl 12 (by decide) (va_Nw.use rfl (nF_K_153 hG.2.1)) (fun _ h9 => h9) rfl dX11_work_7 ?_
  refine lv_iconst (v := 1) hx hb dX11_work_10 (by decide) ?_
  refine lv_isub hx hb dX11_work_11 ?_
  refine lt_i (y := (-1)) (by decide) ?_
  refine cj_i (wr := [(ko, .inr (11, [.ref (ka 0), .ref (ka 1), .ref (ka 2), .int 0, .int 0, .ref (ka 5), .ref (ka 6), .ref (ka 7), .ref (ka 8), .ref (ka 9), .int 0, .ref (ka 11), .ref (ka 12), .ref (ka 13)])), ((ka 5), .inr (6, [.int 0, .int 0, .ref (ka 21), .ref (ka 22), .int 0, .int 0, .ref (ka 23), .int 0, .ref (ka 24), .int 0, .int 0, .ref (ka 25), .int 0, .ref (ka 26), .int 0, .int 0, .int 0, .int 0, .int 0])), ((ka 13), .inl (cy 0, 4, .inl (fun _ => 0)))]) (va_runS (As := [.int p0, .int 0, .int (-1)]) (rest := [.ref ko]) ⟨hx, hb, hml, hown, hts⟩ (c_isWithin l hl D cy sa p0 0 (-1) s.heap.size) (va_cwS 3 hts gg_2 rfl rfl rfl (by decide +kernel) ⟨Nat.le_of_ble_eq_true rfl, Nat.le_of_ble_eq_true rfl⟩) ⟨pcW.blind, (pcW.mk hP hD hS hA hG hT [] rfl (by decide))⟩ rfl rfl hlv.1 rfl (lv_room (Nat.le_of_ble_eq_true rfl)) dX11_work_12 ⟨Nat.le_of_ble_eq_true rfl, Nat.le_of_ble_eq_true rfl⟩) hP hD hS hA [] [0, 1, 2] rfl rfl (by decide) (by decide) (fun r1 u1 H locs hw1 hP hD hS => ?_)
  rcases hw1 with ⟨hg1, rfl⟩ | ⟨hg1, rfl⟩
  · exact absurd hg1 (fun q => absurd (Int32.le_trans q.1 q.2) (by decide))
  · have hP : va_P D vwCl [(ko, .inr (11, [.ref (ka 0), .ref (ka 1), .ref (ka 2), .int 0, .int 0, .ref (ka 5), .ref (ka 6), .ref (ka 7), .ref (ka 8), .ref (ka 9), .int 0, .ref (ka 11), .ref (ka 12), .ref (ka 13)])), ((ka 5), .inr (6, [.int 0, .int 0, .ref (ka 21), .ref (ka 22), .int 0, .int 0, .ref (ka 23), .int 0, .ref (ka 24), .int 0, .int 0, .ref (ka 25), .int 0, .ref (ka 26), .int 0, .int 0, .int 0, .int 0, .int 0])), ((ka 13), .inl (cy 0, 4, .inl (fun _ => 0)))] H := hP
    have hD : va_D A [(ko, .inr (11, [.ref (ka 0), .ref (ka 1), .ref (ka 2), .int 0, .int 0, .ref (ka 5), .ref (ka 6), .ref (ka 7), .ref (ka 8), .ref (ka 9), .int 0, .ref (ka 11), .ref (ka 12), .ref (ka 13)])), ((ka 5), .inr (6, [.int 0, .int 0, .ref (ka 21), .ref (ka 22), .int 0, .int 0, .ref (ka 23), .int 0, .ref (ka 24), .int 0, .int 0, .ref (ka 25), .int 0, .ref (ka 26), .int 0, .int 0, .int 0, .int 0, .int 0])), ((ka 13), .inl (cy 0, 4, .inl (fun _ => 0)))] := hD
    refine cjx_v (wr := [((ka 5), .inr (6, [.int 0, .int 0, .ref (ka 21), .ref (ka 22), .int 0, .int 0, .ref (ka 23), .int 0, .ref (ka 24), .int 0, .int 0, .ref (ka 25), .int 0, .ref (ka 26), .int 0, .int 0, .int 0, .int 0, .int 0]))]) (vx_runV (As := [.int 0]) (rest := []) ⟨hx, hb, hml, hown, hts⟩ (c_needElement0 l hl D cy sa ko ka H.size) (cwV 1 hts gg_3 rfl rfl rfl (by decide +kernel) ⟨Nat.le_of_ble_eq_true rfl, Nat.le_of_ble_eq_true rfl⟩) ⟨pcW.blind, (va_recv hG.1 hP (ci := 11) (q0 := 0) rfl rfl), (pcW.mk hP hD hS hA hG hT [0, 2] rfl (by decide))⟩ rfl rfl hlv.1 rfl (lv_room (Nat.le_of_ble_eq_true rfl)) dX11_work_15 ⟨Nat.le_of_ble_eq_true rfl, Nat.le_of_ble_eq_true rfl⟩) hP hD hS hA [0, 2] [1] rfl rfl (by decide) (by decide) (fun E ce q9 H locs hp hP hD hS h1 h2 h3 => ?_) (fun u2 H locs hw2 hP hD hS => ?_)
    · obtain ⟨rfl, hg2⟩ := hp
      exact vx_out (fun x h => (hex x h).elim) hlocks h1 h2 h3 (fun t ht hvm => ⟨(), trivial, (by exact ⟨rfl, trivial⟩), hS.F ht⟩) hS.2.2 (Nat.le_of_ble_eq_true rfl) (Nat.le_of_ble_eq_true rfl)
    · exact (hw2).elim
def vs_c_does : List Cond := .code yX11_does cX11_does 2 (some .int) :: (([.fieldLink RX11 31 "KerbSplash" "now" "LKerbSplash$Street;"] : List Cond) ++ ((wsX110) ++ ((wsX60) ++ ((va_wsS RX11 130 yX11_isWithin wsX11_isWithin) ++ ((wsV RX11 177 RX11 yX11_needElement vs_needElement) ++ ([]))))))
set_option maxHeartbeats 4000000 in
set_option maxRecDepth 100000 in
theorem c_does (l : Launch) (hl : l.stackTraces = false) (D : va_G) (cy : Nat → ClassId) (sa : Nat → Nat) (ko : Nat) (ka : Nat → Nat) (p0 : Int32) (sz : Nat) : vx_Met l yX11_does vs_c_does ({ frames := 7, cells := 1, slots := 6, locals := 121 }) (va_Pc [.ref ko, .int p0] (pcW D cy sa sz [(ko, .inr (11, [.ref (ka 0), .ref (ka 1), .ref (ka 2), .int 0, .int 0, .ref (ka 5), .ref (ka 6), .ref (ka 7), .ref (ka 8), .ref (ka 9), .int 0, .ref (ka 11), .ref (ka 12), .ref (ka 13)])), ((ka 5), .inr (6, [.int 0, .int 0, .ref (ka 21), .ref (ka 22), .int 0, .int 0, .ref (ka 23), .int 0, .ref (ka 24), .int 0, .int 0, .ref (ka 25), .int 0, .ref (ka 26), .int 0, .int 0, .int 0, .int 0, .int 0])), ((ka 13), .inl (cy 0, 4, .inl (fun _ => 0)))])) (va_Qi (fun (r : Int32) (u : SU) => False) (fun u t => atW D (va_A [(ko, .inr (11, [.ref (ka 0), .ref (ka 1), .ref (ka 2), .int 0, .int 0, .ref (ka 5), .ref (ka 6), .ref (ka 7), .ref (ka 8), .ref (ka 9), .int 0, .ref (ka 11), .ref (ka 12), .ref (ka 13)])), ((ka 5), .inr (6, [.int 0, .int 0, .ref (ka 21), .ref (ka 22), .int 0, .int 0, .ref (ka 23), .int 0, .ref (ka 24), .int 0, .int 0, .ref (ka 25), .int 0, .ref (ka 26), .int 0, .int 0, .int 0, .int 0, .int 0])), ((ka 13), .inl (cy 0, 4, .inl (fun _ => 0)))] sz) [] t) (va_A [(ko, .inr (11, [.ref (ka 0), .ref (ka 1), .ref (ka 2), .int 0, .int 0, .ref (ka 5), .ref (ka 6), .ref (ka 7), .ref (ka 8), .ref (ka 9), .int 0, .ref (ka 11), .ref (ka 12), .ref (ka 13)])), ((ka 5), .inr (6, [.int 0, .int 0, .ref (ka 21), .ref (ka 22), .int 0, .int 0, .ref (ka 23), .int 0, .ref (ka 24), .int 0, .int 0, .ref (ka 25), .int 0, .ref (ka 26), .int 0, .int 0, .int 0, .int 0, .int 0])), ((ka 13), .inl (cy 0, 4, .inl (fun _ => 0)))] sz)) (xcW (fun E => (E = "java/util/NoSuchElementException" ∧ (True))) (va_A [(ko, .inr (11, [.ref (ka 0), .ref (ka 1), .ref (ka 2), .int 0, .int 0, .ref (ka 5), .ref (ka 6), .ref (ka 7), .ref (ka 8), .ref (ka 9), .int 0, .ref (ka 11), .ref (ka 12), .ref (ka 13)])), ((ka 5), .inr (6, [.int 0, .int 0, .ref (ka 21), .ref (ka 22), .int 0, .int 0, .ref (ka 23), .int 0, .ref (ka 24), .int 0, .int 0, .ref (ka 25), .int 0, .ref (ka 26), .int 0, .int 0, .int 0, .int 0, .int 0])), ((ka 13), .inl (cy 0, 4, .inl (fun _ => 0)))] sz)) 1 6 (va_A [(ko, .inr (11, [.ref (ka 0), .ref (ka 1), .ref (ka 2), .int 0, .int 0, .ref (ka 5), .ref (ka 6), .ref (ka 7), .ref (ka 8), .ref (ka 9), .int 0, .ref (ka 11), .ref (ka 12), .ref (ka 13)])), ((ka 5), .inr (6, [.int 0, .int 0, .ref (ka 21), .ref (ka 22), .int 0, .int 0, .ref (ka 23), .int 0, .ref (ka 24), .int 0, .int 0, .ref (ka 25), .int 0, .ref (ka 26), .int 0, .int 0, .int 0, .int 0, .int 0])), ((ka 13), .inl (cy 0, 4, .inl (fun _ => 0)))] sz) := by
  refine vx_ofW (cc := cX11_does) (maxL := 2) (ret := (some .int)) (by decide) rfl ?_
  intro p e s m args below meth c s₁ B hml hex hv
  obtain ⟨rfl, hsz, hP, hG, hD0, hT⟩ := hv
  have hx := B.exec
  have hb := B.bytes
  have hr := B.returns
  have hts := atoms_spec (ws := vs_c_does) B.pre
  have hown : s.vm.findClass RX11 = some m.cls := findClass_of_methodNamed B.named
  have hlocks := B.notSynchronized
  subst hsz
  have hD := hD0.self (sz := s.heap.size)
  generalize hAe : va_A [(ko, .inr (11, [.ref (ka 0), .ref (ka 1), .ref (ka 2), .int 0, .int 0, .ref (ka 5), .ref (ka 6), .ref (ka 7), .ref (ka 8), .ref (ka 9), .int 0, .ref (ka 11), .ref (ka 12), .ref (ka 13)])), ((ka 5), .inr (6, [.int 0, .int 0, .ref (ka 21), .ref (ka 22), .int 0, .int 0, .ref (ka 23), .int 0, .ref (ka 24), .int 0, .int 0, .ref (ka 25), .int 0, .ref (ka 26), .int 0, .int 0, .int 0, .int 0, .int 0])), ((ka 13), .inl (cy 0, 4, .inl (fun _ => 0)))] s.heap.size = A at hD hT ⊢
  have hA : ∀ q : Nat, s.heap.size ≤ q → A q := fun q h => by rw [← hAe]; exact Or.inr h
  have hS : va_S A s.heap s.heap [] := va_S.rf
  have hl0 := lv_entry ([.ref ko, .int p0]) (n := 2) (Nat.le_of_ble_eq_true rfl)
  rw [lg_entry_eq]
  generalize (lg_sl ([.ref ko, .int p0]) ++ List.replicate (2 - (lg_sl ([.ref ko, .int p0])).length) Slot.unset).toArray = ls at hl0 ⊢
  have hlv : lv_has ls 2 [(0, .ref ko), (1, .int p0)] := hl0
  have lf31 := hts (.fieldLink RX11 31 "KerbSplash" "now" "LKerbSplash$Street;") (List.mem_of_getElem? (i := 1) rfl)
  have hi11 : ∀ w ∈ wsX110, w ∈ vs_c_does := fun w h => List.mem_cons_of_mem _ (List.mem_append_right _ (List.mem_append_left _ h))
  have hi6 : ∀ w ∈ wsX60, w ∈ vs_c_does := fun w h => List.mem_cons_of_mem _ (List.mem_append_right _ (List.mem_append_right _ (List.mem_append_left _ h)))
  have gg_2 : GoodIn vs_c_does (va_wsS RX11 130 yX11_isWithin wsX11_isWithin) := goodIn_sub (fun w h => List.mem_cons_of_mem _ (List.mem_append_right _ (List.mem_append_right _ (List.mem_append_right _ (List.mem_append_left _ h))))) (by decide +kernel)
  have gg_3 : GoodIn vs_c_does (wsV RX11 177 RX11 yX11_needElement vs_needElement) := goodIn_sub (fun w h => List.mem_cons_of_mem _ (List.mem_append_right _ (List.mem_append_right _ (List.mem_append_right _ (List.mem_append_right _ (List.mem_append_left _ h)))))) (by decide +kernel)
  refine lv_aload_n hx hb dX11_does_0 rfl (lv_at hlv 0 rfl) ?_
  refine lv_iload_n hx hb dX11_does_1 rfl (lv_at hlv 1 rfl) ?_
  refine lv_iconst (v := 0) hx hb dX11_does_2 (by decide) ?_
  refine lv_aload_n hx hb dX11_does_3 rfl (lv_at hlv 0 rfl) ?_
  refine va_get (D := D) (ci := 11) (v := .ref (ka 5)) (C := RX11) (T := TX11) (N := 14) hx hb hts hi11 hown hG.1 hP 0 rfl rfl 5 (by decide) lf31 (fun _ h9 => h9) rfl dX11_does_4 ?_
  refine va_getN (D := D) (ci := 6) (v := .int 0) (C := RX6) (T := TX6) (N := 19) hx hb hts hi6 hown hG.1 hP 1 rfl rfl 12 (by decide) (va_Nw.use rfl (nF_K_153 hG.2.1)) (fun _ h9 => h9) rfl dX11_does_7 ?_
  refine lv_iconst (v := 1) hx hb dX11_does_10 (by decide) ?_
  refine lv_isub hx hb dX11_does_11 ?_
  refine lt_i (y := (-1)) (by decide) ?_
  refine cj_i (wr := [(ko, .inr (11, [.ref (ka 0), .ref (ka 1), .ref (ka 2), .int 0, .int 0, .ref (ka 5), .ref (ka 6), .ref (ka 7), .ref (ka 8), .ref (ka 9), .int 0, .ref (ka 11), .ref (ka 12), .ref (ka 13)])), ((ka 5), .inr (6, [.int 0, .int 0, .ref (ka 21), .ref (ka 22), .int 0, .int 0, .ref (ka 23), .int 0, .ref (ka 24), .int 0, .int 0, .ref (ka 25), .int 0, .ref (ka 26), .int 0, .int 0, .int 0, .int 0, .int 0])), ((ka 13), .inl (cy 0, 4, .inl (fun _ => 0)))]) (va_runS (As := [.int p0, .int 0, .int (-1)]) (rest := [.ref ko]) ⟨hx, hb, hml, hown, hts⟩ (c_isWithin l hl D cy sa p0 0 (-1) s.heap.size) (va_cwS 3 hts gg_2 rfl rfl rfl (by decide +kernel) ⟨Nat.le_of_ble_eq_true rfl, Nat.le_of_ble_eq_true rfl⟩) ⟨pcW.blind, (pcW.mk hP hD hS hA hG hT [] rfl (by decide))⟩ rfl rfl hlv.1 rfl (lv_room (Nat.le_of_ble_eq_true rfl)) dX11_does_12 ⟨Nat.le_of_ble_eq_true rfl, Nat.le_of_ble_eq_true rfl⟩) hP hD hS hA [] [0, 1, 2] rfl rfl (by decide) (by decide) (fun r1 u1 H locs hw1 hP hD hS => ?_)
  rcases hw1 with ⟨hg1, rfl⟩ | ⟨hg1, rfl⟩
  · exact absurd hg1 (fun q => absurd (Int32.le_trans q.1 q.2) (by decide))
  · have hP : va_P D vwCl [(ko, .inr (11, [.ref (ka 0), .ref (ka 1), .ref (ka 2), .int 0, .int 0, .ref (ka 5), .ref (ka 6), .ref (ka 7), .ref (ka 8), .ref (ka 9), .int 0, .ref (ka 11), .ref (ka 12), .ref (ka 13)])), ((ka 5), .inr (6, [.int 0, .int 0, .ref (ka 21), .ref (ka 22), .int 0, .int 0, .ref (ka 23), .int 0, .ref (ka 24), .int 0, .int 0, .ref (ka 25), .int 0, .ref (ka 26), .int 0, .int 0, .int 0, .int 0, .int 0])), ((ka 13), .inl (cy 0, 4, .inl (fun _ => 0)))] H := hP
    have hD : va_D A [(ko, .inr (11, [.ref (ka 0), .ref (ka 1), .ref (ka 2), .int 0, .int 0, .ref (ka 5), .ref (ka 6), .ref (ka 7), .ref (ka 8), .ref (ka 9), .int 0, .ref (ka 11), .ref (ka 12), .ref (ka 13)])), ((ka 5), .inr (6, [.int 0, .int 0, .ref (ka 21), .ref (ka 22), .int 0, .int 0, .ref (ka 23), .int 0, .ref (ka 24), .int 0, .int 0, .ref (ka 25), .int 0, .ref (ka 26), .int 0, .int 0, .int 0, .int 0, .int 0])), ((ka 13), .inl (cy 0, 4, .inl (fun _ => 0)))] := hD
    refine cjx_v (wr := [((ka 5), .inr (6, [.int 0, .int 0, .ref (ka 21), .ref (ka 22), .int 0, .int 0, .ref (ka 23), .int 0, .ref (ka 24), .int 0, .int 0, .ref (ka 25), .int 0, .ref (ka 26), .int 0, .int 0, .int 0, .int 0, .int 0]))]) (vx_runV (As := [.int 0]) (rest := []) ⟨hx, hb, hml, hown, hts⟩ (c_needElement0 l hl D cy sa ko ka H.size) (cwV 1 hts gg_3 rfl rfl rfl (by decide +kernel) ⟨Nat.le_of_ble_eq_true rfl, Nat.le_of_ble_eq_true rfl⟩) ⟨pcW.blind, (va_recv hG.1 hP (ci := 11) (q0 := 0) rfl rfl), (pcW.mk hP hD hS hA hG hT [0, 2] rfl (by decide))⟩ rfl rfl hlv.1 rfl (lv_room (Nat.le_of_ble_eq_true rfl)) dX11_does_15 ⟨Nat.le_of_ble_eq_true rfl, Nat.le_of_ble_eq_true rfl⟩) hP hD hS hA [0, 2] [1] rfl rfl (by decide) (by decide) (fun E ce q9 H locs hp hP hD hS h1 h2 h3 => ?_) (fun u2 H locs hw2 hP hD hS => ?_)
    · obtain ⟨rfl, hg2⟩ := hp
      exact vx_out (fun x h => (hex x h).elim) hlocks h1 h2 h3 (fun t ht hvm => ⟨(), trivial, (by exact ⟨rfl, trivial⟩), hS.F ht⟩) hS.2.2 (Nat.le_of_ble_eq_true rfl) (Nat.le_of_ble_eq_true rfl)
    · exact (hw2).elim
def vs_c_shower : List Cond := .code yX11_shower cX11_shower 2 (some .int) :: (([] : List Cond) ++ ((wsV RX11 208 RX11 yX11_needRain vs_c_needRain) ++ ([])))
set_option maxHeartbeats 4000000 in
set_option maxRecDepth 100000 in
theorem c_shower (l : Launch) (hl : l.stackTraces = false) (D : va_G) (cy : Nat → ClassId) (sa : Nat → Nat) (ko : Nat) (ka : Nat → Nat) (p0 : Int32) (sz : Nat) : vx_Met l yX11_shower vs_c_shower ({ frames := 8, cells := 1, slots := 6, locals := 142 }) (va_Pc [.ref ko, .int p0] (pcW D cy sa sz [(ko, .inr (11, [.ref (ka 0), .ref (ka 1), .ref (ka 2), .int 0, .int 0, .ref (ka 5), .ref (ka 6), .ref (ka 7), .ref (ka 8), .ref (ka 9), .int 0, .ref (ka 11), .ref (ka 12), .ref (ka 13)])), ((ka 13), .inl (cy 0, 4, .inl (fun _ => 0)))])) (va_Qi (fun (r : Int32) (u : SU) => False) (fun u t => atW D (va_A [(ko, .inr (11, [.ref (ka 0), .ref (ka 1), .ref (ka 2), .int 0, .int 0, .ref (ka 5), .ref (ka 6), .ref (ka 7), .ref (ka 8), .ref (ka 9), .int 0, .ref (ka 11), .ref (ka 12), .ref (ka 13)])), ((ka 13), .inl (cy 0, 4, .inl (fun _ => 0)))] sz) [] t) (va_A [(ko, .inr (11, [.ref (ka 0), .ref (ka 1), .ref (ka 2), .int 0, .int 0, .ref (ka 5), .ref (ka 6), .ref (ka 7), .ref (ka 8), .ref (ka 9), .int 0, .ref (ka 11), .ref (ka 12), .ref (ka 13)])), ((ka 13), .inl (cy 0, 4, .inl (fun _ => 0)))] sz)) (xcW (fun E => (E = "java/util/NoSuchElementException" ∧ (True))) (va_A [(ko, .inr (11, [.ref (ka 0), .ref (ka 1), .ref (ka 2), .int 0, .int 0, .ref (ka 5), .ref (ka 6), .ref (ka 7), .ref (ka 8), .ref (ka 9), .int 0, .ref (ka 11), .ref (ka 12), .ref (ka 13)])), ((ka 13), .inl (cy 0, 4, .inl (fun _ => 0)))] sz)) 1 6 (va_A [(ko, .inr (11, [.ref (ka 0), .ref (ka 1), .ref (ka 2), .int 0, .int 0, .ref (ka 5), .ref (ka 6), .ref (ka 7), .ref (ka 8), .ref (ka 9), .int 0, .ref (ka 11), .ref (ka 12), .ref (ka 13)])), ((ka 13), .inl (cy 0, 4, .inl (fun _ => 0)))] sz) := by
  refine vx_ofW (cc := cX11_shower) (maxL := 2) (ret := (some .int)) (by decide) rfl ?_
  intro p e s m args below meth c s₁ B hml hex hv
  obtain ⟨rfl, hsz, hP, hG, hD0, hT⟩ := hv
  have hx := B.exec
  have hb := B.bytes
  have hr := B.returns
  have hts := atoms_spec (ws := vs_c_shower) B.pre
  have hown : s.vm.findClass RX11 = some m.cls := findClass_of_methodNamed B.named
  have hlocks := B.notSynchronized
  subst hsz
  have hD := hD0.self (sz := s.heap.size)
  generalize hAe : va_A [(ko, .inr (11, [.ref (ka 0), .ref (ka 1), .ref (ka 2), .int 0, .int 0, .ref (ka 5), .ref (ka 6), .ref (ka 7), .ref (ka 8), .ref (ka 9), .int 0, .ref (ka 11), .ref (ka 12), .ref (ka 13)])), ((ka 13), .inl (cy 0, 4, .inl (fun _ => 0)))] s.heap.size = A at hD hT ⊢
  have hA : ∀ q : Nat, s.heap.size ≤ q → A q := fun q h => by rw [← hAe]; exact Or.inr h
  have hS : va_S A s.heap s.heap [] := va_S.rf
  have hl0 := lv_entry ([.ref ko, .int p0]) (n := 2) (Nat.le_of_ble_eq_true rfl)
  rw [lg_entry_eq]
  generalize (lg_sl ([.ref ko, .int p0]) ++ List.replicate (2 - (lg_sl ([.ref ko, .int p0])).length) Slot.unset).toArray = ls at hl0 ⊢
  have hlv : lv_has ls 2 [(0, .ref ko), (1, .int p0)] := hl0
  have gg_0 : GoodIn vs_c_shower (wsV RX11 208 RX11 yX11_needRain vs_c_needRain) := goodIn_sub (fun w h => List.mem_cons_of_mem _ (List.mem_append_right _ (List.mem_append_left _ h))) (by decide +kernel)
  refine lv_aload_n hx hb dX11_shower_0 rfl (lv_at hlv 0 rfl) ?_
  refine lv_iload_n hx hb dX11_shower_1 rfl (lv_at hlv 1 rfl) ?_
  refine cjx_v (wr := []) (vx_runV (As := [.int p0]) (rest := []) ⟨hx, hb, hml, hown, hts⟩ (c_needRain l hl D cy sa ko ka p0 s.heap.size) (cwV 1 hts gg_0 rfl rfl rfl (by decide +kernel) ⟨Nat.le_of_ble_eq_true rfl, Nat.le_of_ble_eq_true rfl⟩) ⟨pcW.blind, (va_recv hG.1 hP (ci := 11) (q0 := 0) rfl rfl), (pcW.mk hP hD hS hA hG hT [0, 1] rfl (by decide))⟩ rfl rfl hlv.1 rfl (lv_room (Nat.le_of_ble_eq_true rfl)) dX11_shower_2 ⟨Nat.le_of_ble_eq_true rfl, Nat.le_of_ble_eq_true rfl⟩) hP hD hS hA [0, 1] [] rfl rfl (by decide) (by decide) (fun E ce q9 H locs hp hP hD hS h1 h2 h3 => ?_) (fun u1 H locs hw1 hP hD hS => ?_)
  · obtain ⟨rfl, hg1⟩ := hp
    exact vx_out (fun x h => (hex x h).elim) hlocks h1 h2 h3 (fun t ht hvm => ⟨(), trivial, (by exact ⟨rfl, trivial⟩), hS.F ht⟩) hS.2.2 (Nat.le_of_ble_eq_true rfl) (Nat.le_of_ble_eq_true rfl)
  · exact (hw1).elim
def vs_c_says : List Cond := .code yX11_says cX11_says 11 (some .int) :: (([] : List Cond) ++ ((wsV RX11 227 RX11 yX11_needLaw vs_c_needLaw) ++ ([])))
set_option maxHeartbeats 4000000 in
set_option maxRecDepth 100000 in
theorem c_says (l : Launch) (hl : l.stackTraces = false) (D : va_G) (cy : Nat → ClassId) (sa : Nat → Nat) (ko : Nat) (ka : Nat → Nat) (p0 p1 p2 p3 p4 p5 p6 p7 p8 : Int32) (sz : Nat) : vx_Met l yX11_says vs_c_says ({ frames := 8, cells := 1, slots := 6, locals := 142 }) (va_Pc [.ref ko, .int p0, .int p1, .int p2, .int p3, .int p4, .int p5, .int p6, .int p7, .int p8] (pcW D cy sa sz [(ko, .inr (11, [.ref (ka 0), .ref (ka 1), .ref (ka 2), .int 0, .int 0, .ref (ka 5), .ref (ka 6), .ref (ka 7), .ref (ka 8), .ref (ka 9), .int 0, .ref (ka 11), .ref (ka 12), .ref (ka 13)])), ((ka 13), .inl (cy 0, 4, .inl (fun _ => 0)))])) (va_Qi (fun (r : Int32) (u : SU) => False) (fun u t => atW D (va_A [(ko, .inr (11, [.ref (ka 0), .ref (ka 1), .ref (ka 2), .int 0, .int 0, .ref (ka 5), .ref (ka 6), .ref (ka 7), .ref (ka 8), .ref (ka 9), .int 0, .ref (ka 11), .ref (ka 12), .ref (ka 13)])), ((ka 13), .inl (cy 0, 4, .inl (fun _ => 0)))] sz) [] t) (va_A [(ko, .inr (11, [.ref (ka 0), .ref (ka 1), .ref (ka 2), .int 0, .int 0, .ref (ka 5), .ref (ka 6), .ref (ka 7), .ref (ka 8), .ref (ka 9), .int 0, .ref (ka 11), .ref (ka 12), .ref (ka 13)])), ((ka 13), .inl (cy 0, 4, .inl (fun _ => 0)))] sz)) (xcW (fun E => (E = "java/util/NoSuchElementException" ∧ (True))) (va_A [(ko, .inr (11, [.ref (ka 0), .ref (ka 1), .ref (ka 2), .int 0, .int 0, .ref (ka 5), .ref (ka 6), .ref (ka 7), .ref (ka 8), .ref (ka 9), .int 0, .ref (ka 11), .ref (ka 12), .ref (ka 13)])), ((ka 13), .inl (cy 0, 4, .inl (fun _ => 0)))] sz)) 1 6 (va_A [(ko, .inr (11, [.ref (ka 0), .ref (ka 1), .ref (ka 2), .int 0, .int 0, .ref (ka 5), .ref (ka 6), .ref (ka 7), .ref (ka 8), .ref (ka 9), .int 0, .ref (ka 11), .ref (ka 12), .ref (ka 13)])), ((ka 13), .inl (cy 0, 4, .inl (fun _ => 0)))] sz) := by
  refine vx_ofW (cc := cX11_says) (maxL := 11) (ret := (some .int)) (by decide) rfl ?_
  intro p e s m args below meth c s₁ B hml hex hv
  obtain ⟨rfl, hsz, hP, hG, hD0, hT⟩ := hv
  have hx := B.exec
  have hb := B.bytes
  have hr := B.returns
  have hts := atoms_spec (ws := vs_c_says) B.pre
  have hown : s.vm.findClass RX11 = some m.cls := findClass_of_methodNamed B.named
  have hlocks := B.notSynchronized
  subst hsz
  have hD := hD0.self (sz := s.heap.size)
  generalize hAe : va_A [(ko, .inr (11, [.ref (ka 0), .ref (ka 1), .ref (ka 2), .int 0, .int 0, .ref (ka 5), .ref (ka 6), .ref (ka 7), .ref (ka 8), .ref (ka 9), .int 0, .ref (ka 11), .ref (ka 12), .ref (ka 13)])), ((ka 13), .inl (cy 0, 4, .inl (fun _ => 0)))] s.heap.size = A at hD hT ⊢
  have hA : ∀ q : Nat, s.heap.size ≤ q → A q := fun q h => by rw [← hAe]; exact Or.inr h
  have hS : va_S A s.heap s.heap [] := va_S.rf
  have hl0 := lv_entry ([.ref ko, .int p0, .int p1, .int p2, .int p3, .int p4, .int p5, .int p6, .int p7, .int p8]) (n := 11) (Nat.le_of_ble_eq_true rfl)
  rw [lg_entry_eq]
  generalize (lg_sl ([.ref ko, .int p0, .int p1, .int p2, .int p3, .int p4, .int p5, .int p6, .int p7, .int p8]) ++ List.replicate (11 - (lg_sl ([.ref ko, .int p0, .int p1, .int p2, .int p3, .int p4, .int p5, .int p6, .int p7, .int p8])).length) Slot.unset).toArray = ls at hl0 ⊢
  have hlv : lv_has ls 11 [(0, .ref ko), (1, .int p0), (2, .int p1), (3, .int p2), (4, .int p3), (5, .int p4), (6, .int p5), (7, .int p6), (8, .int p7), (9, .int p8)] := hl0
  have gg_0 : GoodIn vs_c_says (wsV RX11 227 RX11 yX11_needLaw vs_c_needLaw) := goodIn_sub (fun w h => List.mem_cons_of_mem _ (List.mem_append_right _ (List.mem_append_left _ h))) (by decide +kernel)
  refine lv_aload_n hx hb dX11_says_0 rfl (lv_at hlv 0 rfl) ?_
  refine lv_iload_n hx hb dX11_says_1 rfl (lv_at hlv 1 rfl) ?_
  refine cjx_v (wr := []) (vx_runV (As := [.int p0]) (rest := []) ⟨hx, hb, hml, hown, hts⟩ (c_needLaw l hl D cy sa ko ka p0 s.heap.size) (cwV 1 hts gg_0 rfl rfl rfl (by decide +kernel) ⟨Nat.le_of_ble_eq_true rfl, Nat.le_of_ble_eq_true rfl⟩) ⟨pcW.blind, (va_recv hG.1 hP (ci := 11) (q0 := 0) rfl rfl), (pcW.mk hP hD hS hA hG hT [0, 1] rfl (by decide))⟩ rfl rfl hlv.1 rfl (lv_room (Nat.le_of_ble_eq_true rfl)) dX11_says_2 ⟨Nat.le_of_ble_eq_true rfl, Nat.le_of_ble_eq_true rfl⟩) hP hD hS hA [0, 1] [] rfl rfl (by decide) (by decide) (fun E ce q9 H locs hp hP hD hS h1 h2 h3 => ?_) (fun u1 H locs hw1 hP hD hS => ?_)
  · obtain ⟨rfl, hg1⟩ := hp
    exact vx_out (fun x h => (hex x h).elim) hlocks h1 h2 h3 (fun t ht hvm => ⟨(), trivial, (by exact ⟨rfl, trivial⟩), hS.F ht⟩) hS.2.2 (Nat.le_of_ble_eq_true rfl) (Nat.le_of_ble_eq_true rfl)
  · exact (hw1).elim
def vs_c_car : List Cond := .code yX11_car cX11_car 6 (some .int) :: (([] : List Cond) ++ ((wsV RX11 227 RX11 yX11_needLaw vs_c_needLaw) ++ ([])))
set_option maxHeartbeats 4000000 in
set_option maxRecDepth 100000 in
theorem c_car (l : Launch) (hl : l.stackTraces = false) (D : va_G) (cy : Nat → ClassId) (sa : Nat → Nat) (ko : Nat) (ka : Nat → Nat) (p0 p1 p2 p3 p4 : Int32) (sz : Nat) : vx_Met l yX11_car vs_c_car ({ frames := 8, cells := 1, slots := 6, locals := 142 }) (va_Pc [.ref ko, .int p0, .int p1, .int p2, .int p3, .int p4] (pcW D cy sa sz [(ko, .inr (11, [.ref (ka 0), .ref (ka 1), .ref (ka 2), .int 0, .int 0, .ref (ka 5), .ref (ka 6), .ref (ka 7), .ref (ka 8), .ref (ka 9), .int 0, .ref (ka 11), .ref (ka 12), .ref (ka 13)])), ((ka 13), .inl (cy 0, 4, .inl (fun _ => 0)))])) (va_Qi (fun (r : Int32) (u : SU) => False) (fun u t => atW D (va_A [(ko, .inr (11, [.ref (ka 0), .ref (ka 1), .ref (ka 2), .int 0, .int 0, .ref (ka 5), .ref (ka 6), .ref (ka 7), .ref (ka 8), .ref (ka 9), .int 0, .ref (ka 11), .ref (ka 12), .ref (ka 13)])), ((ka 13), .inl (cy 0, 4, .inl (fun _ => 0)))] sz) [] t) (va_A [(ko, .inr (11, [.ref (ka 0), .ref (ka 1), .ref (ka 2), .int 0, .int 0, .ref (ka 5), .ref (ka 6), .ref (ka 7), .ref (ka 8), .ref (ka 9), .int 0, .ref (ka 11), .ref (ka 12), .ref (ka 13)])), ((ka 13), .inl (cy 0, 4, .inl (fun _ => 0)))] sz)) (xcW (fun E => (E = "java/util/NoSuchElementException" ∧ (True))) (va_A [(ko, .inr (11, [.ref (ka 0), .ref (ka 1), .ref (ka 2), .int 0, .int 0, .ref (ka 5), .ref (ka 6), .ref (ka 7), .ref (ka 8), .ref (ka 9), .int 0, .ref (ka 11), .ref (ka 12), .ref (ka 13)])), ((ka 13), .inl (cy 0, 4, .inl (fun _ => 0)))] sz)) 1 6 (va_A [(ko, .inr (11, [.ref (ka 0), .ref (ka 1), .ref (ka 2), .int 0, .int 0, .ref (ka 5), .ref (ka 6), .ref (ka 7), .ref (ka 8), .ref (ka 9), .int 0, .ref (ka 11), .ref (ka 12), .ref (ka 13)])), ((ka 13), .inl (cy 0, 4, .inl (fun _ => 0)))] sz) := by
  refine vx_ofW (cc := cX11_car) (maxL := 6) (ret := (some .int)) (by decide) rfl ?_
  intro p e s m args below meth c s₁ B hml hex hv
  obtain ⟨rfl, hsz, hP, hG, hD0, hT⟩ := hv
  have hx := B.exec
  have hb := B.bytes
  have hr := B.returns
  have hts := atoms_spec (ws := vs_c_car) B.pre
  have hown : s.vm.findClass RX11 = some m.cls := findClass_of_methodNamed B.named
  have hlocks := B.notSynchronized
  subst hsz
  have hD := hD0.self (sz := s.heap.size)
  generalize hAe : va_A [(ko, .inr (11, [.ref (ka 0), .ref (ka 1), .ref (ka 2), .int 0, .int 0, .ref (ka 5), .ref (ka 6), .ref (ka 7), .ref (ka 8), .ref (ka 9), .int 0, .ref (ka 11), .ref (ka 12), .ref (ka 13)])), ((ka 13), .inl (cy 0, 4, .inl (fun _ => 0)))] s.heap.size = A at hD hT ⊢
  have hA : ∀ q : Nat, s.heap.size ≤ q → A q := fun q h => by rw [← hAe]; exact Or.inr h
  have hS : va_S A s.heap s.heap [] := va_S.rf
  have hl0 := lv_entry ([.ref ko, .int p0, .int p1, .int p2, .int p3, .int p4]) (n := 6) (Nat.le_of_ble_eq_true rfl)
  rw [lg_entry_eq]
  generalize (lg_sl ([.ref ko, .int p0, .int p1, .int p2, .int p3, .int p4]) ++ List.replicate (6 - (lg_sl ([.ref ko, .int p0, .int p1, .int p2, .int p3, .int p4])).length) Slot.unset).toArray = ls at hl0 ⊢
  have hlv : lv_has ls 6 [(0, .ref ko), (1, .int p0), (2, .int p1), (3, .int p2), (4, .int p3), (5, .int p4)] := hl0
  have gg_0 : GoodIn vs_c_car (wsV RX11 227 RX11 yX11_needLaw vs_c_needLaw) := goodIn_sub (fun w h => List.mem_cons_of_mem _ (List.mem_append_right _ (List.mem_append_left _ h))) (by decide +kernel)
  refine lv_aload_n hx hb dX11_car_0 rfl (lv_at hlv 0 rfl) ?_
  refine lv_iload_n hx hb dX11_car_1 rfl (lv_at hlv 1 rfl) ?_
  refine cjx_v (wr := []) (vx_runV (As := [.int p0]) (rest := []) ⟨hx, hb, hml, hown, hts⟩ (c_needLaw l hl D cy sa ko ka p0 s.heap.size) (cwV 1 hts gg_0 rfl rfl rfl (by decide +kernel) ⟨Nat.le_of_ble_eq_true rfl, Nat.le_of_ble_eq_true rfl⟩) ⟨pcW.blind, (va_recv hG.1 hP (ci := 11) (q0 := 0) rfl rfl), (pcW.mk hP hD hS hA hG hT [0, 1] rfl (by decide))⟩ rfl rfl hlv.1 rfl (lv_room (Nat.le_of_ble_eq_true rfl)) dX11_car_2 ⟨Nat.le_of_ble_eq_true rfl, Nat.le_of_ble_eq_true rfl⟩) hP hD hS hA [0, 1] [] rfl rfl (by decide) (by decide) (fun E ce q9 H locs hp hP hD hS h1 h2 h3 => ?_) (fun u1 H locs hw1 hP hD hS => ?_)
  · obtain ⟨rfl, hg1⟩ := hp
    exact vx_out (fun x h => (hex x h).elim) hlocks h1 h2 h3 (fun t ht hvm => ⟨(), trivial, (by exact ⟨rfl, trivial⟩), hS.F ht⟩) hS.2.2 (Nat.le_of_ble_eq_true rfl) (Nat.le_of_ble_eq_true rfl)
  · exact (hw1).elim
def vs_c_pass : List Cond := .code yX11_pass cX11_pass 2 (some .int) :: (([] : List Cond) ++ ((wsV RX11 227 RX11 yX11_needLaw vs_c_needLaw) ++ ([])))
set_option maxHeartbeats 4000000 in
set_option maxRecDepth 100000 in
theorem c_pass (l : Launch) (hl : l.stackTraces = false) (D : va_G) (cy : Nat → ClassId) (sa : Nat → Nat) (ko : Nat) (ka : Nat → Nat) (p0 : Int32) (sz : Nat) : vx_Met l yX11_pass vs_c_pass ({ frames := 8, cells := 1, slots := 6, locals := 142 }) (va_Pc [.ref ko, .int p0] (pcW D cy sa sz [(ko, .inr (11, [.ref (ka 0), .ref (ka 1), .ref (ka 2), .int 0, .int 0, .ref (ka 5), .ref (ka 6), .ref (ka 7), .ref (ka 8), .ref (ka 9), .int 0, .ref (ka 11), .ref (ka 12), .ref (ka 13)])), ((ka 13), .inl (cy 0, 4, .inl (fun _ => 0)))])) (va_Qi (fun (r : Int32) (u : SU) => False) (fun u t => atW D (va_A [(ko, .inr (11, [.ref (ka 0), .ref (ka 1), .ref (ka 2), .int 0, .int 0, .ref (ka 5), .ref (ka 6), .ref (ka 7), .ref (ka 8), .ref (ka 9), .int 0, .ref (ka 11), .ref (ka 12), .ref (ka 13)])), ((ka 13), .inl (cy 0, 4, .inl (fun _ => 0)))] sz) [] t) (va_A [(ko, .inr (11, [.ref (ka 0), .ref (ka 1), .ref (ka 2), .int 0, .int 0, .ref (ka 5), .ref (ka 6), .ref (ka 7), .ref (ka 8), .ref (ka 9), .int 0, .ref (ka 11), .ref (ka 12), .ref (ka 13)])), ((ka 13), .inl (cy 0, 4, .inl (fun _ => 0)))] sz)) (xcW (fun E => (E = "java/util/NoSuchElementException" ∧ (True))) (va_A [(ko, .inr (11, [.ref (ka 0), .ref (ka 1), .ref (ka 2), .int 0, .int 0, .ref (ka 5), .ref (ka 6), .ref (ka 7), .ref (ka 8), .ref (ka 9), .int 0, .ref (ka 11), .ref (ka 12), .ref (ka 13)])), ((ka 13), .inl (cy 0, 4, .inl (fun _ => 0)))] sz)) 1 6 (va_A [(ko, .inr (11, [.ref (ka 0), .ref (ka 1), .ref (ka 2), .int 0, .int 0, .ref (ka 5), .ref (ka 6), .ref (ka 7), .ref (ka 8), .ref (ka 9), .int 0, .ref (ka 11), .ref (ka 12), .ref (ka 13)])), ((ka 13), .inl (cy 0, 4, .inl (fun _ => 0)))] sz) := by
  refine vx_ofW (cc := cX11_pass) (maxL := 2) (ret := (some .int)) (by decide) rfl ?_
  intro p e s m args below meth c s₁ B hml hex hv
  obtain ⟨rfl, hsz, hP, hG, hD0, hT⟩ := hv
  have hx := B.exec
  have hb := B.bytes
  have hr := B.returns
  have hts := atoms_spec (ws := vs_c_pass) B.pre
  have hown : s.vm.findClass RX11 = some m.cls := findClass_of_methodNamed B.named
  have hlocks := B.notSynchronized
  subst hsz
  have hD := hD0.self (sz := s.heap.size)
  generalize hAe : va_A [(ko, .inr (11, [.ref (ka 0), .ref (ka 1), .ref (ka 2), .int 0, .int 0, .ref (ka 5), .ref (ka 6), .ref (ka 7), .ref (ka 8), .ref (ka 9), .int 0, .ref (ka 11), .ref (ka 12), .ref (ka 13)])), ((ka 13), .inl (cy 0, 4, .inl (fun _ => 0)))] s.heap.size = A at hD hT ⊢
  have hA : ∀ q : Nat, s.heap.size ≤ q → A q := fun q h => by rw [← hAe]; exact Or.inr h
  have hS : va_S A s.heap s.heap [] := va_S.rf
  have hl0 := lv_entry ([.ref ko, .int p0]) (n := 2) (Nat.le_of_ble_eq_true rfl)
  rw [lg_entry_eq]
  generalize (lg_sl ([.ref ko, .int p0]) ++ List.replicate (2 - (lg_sl ([.ref ko, .int p0])).length) Slot.unset).toArray = ls at hl0 ⊢
  have hlv : lv_has ls 2 [(0, .ref ko), (1, .int p0)] := hl0
  have gg_0 : GoodIn vs_c_pass (wsV RX11 227 RX11 yX11_needLaw vs_c_needLaw) := goodIn_sub (fun w h => List.mem_cons_of_mem _ (List.mem_append_right _ (List.mem_append_left _ h))) (by decide +kernel)
  refine lv_aload_n hx hb dX11_pass_0 rfl (lv_at hlv 0 rfl) ?_
  refine lv_iload_n hx hb dX11_pass_1 rfl (lv_at hlv 1 rfl) ?_
  refine cjx_v (wr := []) (vx_runV (As := [.int p0]) (rest := []) ⟨hx, hb, hml, hown, hts⟩ (c_needLaw l hl D cy sa ko ka p0 s.heap.size) (cwV 1 hts gg_0 rfl rfl rfl (by decide +kernel) ⟨Nat.le_of_ble_eq_true rfl, Nat.le_of_ble_eq_true rfl⟩) ⟨pcW.blind, (va_recv hG.1 hP (ci := 11) (q0 := 0) rfl rfl), (pcW.mk hP hD hS hA hG hT [0, 1] rfl (by decide))⟩ rfl rfl hlv.1 rfl (lv_room (Nat.le_of_ble_eq_true rfl)) dX11_pass_2 ⟨Nat.le_of_ble_eq_true rfl, Nat.le_of_ble_eq_true rfl⟩) hP hD hS hA [0, 1] [] rfl rfl (by decide) (by decide) (fun E ce q9 H locs hp hP hD hS h1 h2 h3 => ?_) (fun u1 H locs hw1 hP hD hS => ?_)
  · obtain ⟨rfl, hg1⟩ := hp
    exact vx_out (fun x h => (hex x h).elim) hlocks h1 h2 h3 (fun t ht hvm => ⟨(), trivial, (by exact ⟨rfl, trivial⟩), hS.F ht⟩) hS.2.2 (Nat.le_of_ble_eq_true rfl) (Nat.le_of_ble_eq_true rfl)
  · exact (hw1).elim
def vs_c_look : List Cond := .code yX11_look cX11_look 3 (some .int) :: (([] : List Cond) ++ ((wsV RX11 208 RX11 yX11_needRain vs_c_needRain) ++ ([])))
set_option maxHeartbeats 4000000 in
set_option maxRecDepth 100000 in
theorem c_look (l : Launch) (hl : l.stackTraces = false) (D : va_G) (cy : Nat → ClassId) (sa : Nat → Nat) (ko : Nat) (ka : Nat → Nat) (p0 p1 : Int32) (sz : Nat) : vx_Met l yX11_look vs_c_look ({ frames := 8, cells := 1, slots := 6, locals := 142 }) (va_Pc [.ref ko, .int p0, .int p1] (pcW D cy sa sz [(ko, .inr (11, [.ref (ka 0), .ref (ka 1), .ref (ka 2), .int 0, .int 0, .ref (ka 5), .ref (ka 6), .ref (ka 7), .ref (ka 8), .ref (ka 9), .int 0, .ref (ka 11), .ref (ka 12), .ref (ka 13)])), ((ka 13), .inl (cy 0, 4, .inl (fun _ => 0)))])) (va_Qi (fun (r : Int32) (u : SU) => False) (fun u t => atW D (va_A [(ko, .inr (11, [.ref (ka 0), .ref (ka 1), .ref (ka 2), .int 0, .int 0, .ref (ka 5), .ref (ka 6), .ref (ka 7), .ref (ka 8), .ref (ka 9), .int 0, .ref (ka 11), .ref (ka 12), .ref (ka 13)])), ((ka 13), .inl (cy 0, 4, .inl (fun _ => 0)))] sz) [] t) (va_A [(ko, .inr (11, [.ref (ka 0), .ref (ka 1), .ref (ka 2), .int 0, .int 0, .ref (ka 5), .ref (ka 6), .ref (ka 7), .ref (ka 8), .ref (ka 9), .int 0, .ref (ka 11), .ref (ka 12), .ref (ka 13)])), ((ka 13), .inl (cy 0, 4, .inl (fun _ => 0)))] sz)) (xcW (fun E => (E = "java/util/NoSuchElementException" ∧ (True))) (va_A [(ko, .inr (11, [.ref (ka 0), .ref (ka 1), .ref (ka 2), .int 0, .int 0, .ref (ka 5), .ref (ka 6), .ref (ka 7), .ref (ka 8), .ref (ka 9), .int 0, .ref (ka 11), .ref (ka 12), .ref (ka 13)])), ((ka 13), .inl (cy 0, 4, .inl (fun _ => 0)))] sz)) 1 6 (va_A [(ko, .inr (11, [.ref (ka 0), .ref (ka 1), .ref (ka 2), .int 0, .int 0, .ref (ka 5), .ref (ka 6), .ref (ka 7), .ref (ka 8), .ref (ka 9), .int 0, .ref (ka 11), .ref (ka 12), .ref (ka 13)])), ((ka 13), .inl (cy 0, 4, .inl (fun _ => 0)))] sz) := by
  refine vx_ofW (cc := cX11_look) (maxL := 3) (ret := (some .int)) (by decide) rfl ?_
  intro p e s m args below meth c s₁ B hml hex hv
  obtain ⟨rfl, hsz, hP, hG, hD0, hT⟩ := hv
  have hx := B.exec
  have hb := B.bytes
  have hr := B.returns
  have hts := atoms_spec (ws := vs_c_look) B.pre
  have hown : s.vm.findClass RX11 = some m.cls := findClass_of_methodNamed B.named
  have hlocks := B.notSynchronized
  subst hsz
  have hD := hD0.self (sz := s.heap.size)
  generalize hAe : va_A [(ko, .inr (11, [.ref (ka 0), .ref (ka 1), .ref (ka 2), .int 0, .int 0, .ref (ka 5), .ref (ka 6), .ref (ka 7), .ref (ka 8), .ref (ka 9), .int 0, .ref (ka 11), .ref (ka 12), .ref (ka 13)])), ((ka 13), .inl (cy 0, 4, .inl (fun _ => 0)))] s.heap.size = A at hD hT ⊢
  have hA : ∀ q : Nat, s.heap.size ≤ q → A q := fun q h => by rw [← hAe]; exact Or.inr h
  have hS : va_S A s.heap s.heap [] := va_S.rf
  have hl0 := lv_entry ([.ref ko, .int p0, .int p1]) (n := 3) (Nat.le_of_ble_eq_true rfl)
  rw [lg_entry_eq]
  generalize (lg_sl ([.ref ko, .int p0, .int p1]) ++ List.replicate (3 - (lg_sl ([.ref ko, .int p0, .int p1])).length) Slot.unset).toArray = ls at hl0 ⊢
  have hlv : lv_has ls 3 [(0, .ref ko), (1, .int p0), (2, .int p1)] := hl0
  have gg_0 : GoodIn vs_c_look (wsV RX11 208 RX11 yX11_needRain vs_c_needRain) := goodIn_sub (fun w h => List.mem_cons_of_mem _ (List.mem_append_right _ (List.mem_append_left _ h))) (by decide +kernel)
  refine lv_aload_n hx hb dX11_look_0 rfl (lv_at hlv 0 rfl) ?_
  refine lv_iload_n hx hb dX11_look_1 rfl (lv_at hlv 1 rfl) ?_
  refine cjx_v (wr := []) (vx_runV (As := [.int p0]) (rest := []) ⟨hx, hb, hml, hown, hts⟩ (c_needRain l hl D cy sa ko ka p0 s.heap.size) (cwV 1 hts gg_0 rfl rfl rfl (by decide +kernel) ⟨Nat.le_of_ble_eq_true rfl, Nat.le_of_ble_eq_true rfl⟩) ⟨pcW.blind, (va_recv hG.1 hP (ci := 11) (q0 := 0) rfl rfl), (pcW.mk hP hD hS hA hG hT [0, 1] rfl (by decide))⟩ rfl rfl hlv.1 rfl (lv_room (Nat.le_of_ble_eq_true rfl)) dX11_look_2 ⟨Nat.le_of_ble_eq_true rfl, Nat.le_of_ble_eq_true rfl⟩) hP hD hS hA [0, 1] [] rfl rfl (by decide) (by decide) (fun E ce q9 H locs hp hP hD hS h1 h2 h3 => ?_) (fun u1 H locs hw1 hP hD hS => ?_)
  · obtain ⟨rfl, hg1⟩ := hp
    exact vx_out (fun x h => (hex x h).elim) hlocks h1 h2 h3 (fun t ht hvm => ⟨(), trivial, (by exact ⟨rfl, trivial⟩), hS.F ht⟩) hS.2.2 (Nat.le_of_ble_eq_true rfl) (Nat.le_of_ble_eq_true rfl)
  · exact (hw1).elim
def vs_c_stand : List Cond := .code yX11_stand cX11_stand 4 (some .int) :: (([] : List Cond) ++ ((wsV RX11 227 RX11 yX11_needLaw vs_c_needLaw) ++ ([])))
set_option maxHeartbeats 4000000 in
set_option maxRecDepth 100000 in
theorem c_stand (l : Launch) (hl : l.stackTraces = false) (D : va_G) (cy : Nat → ClassId) (sa : Nat → Nat) (ko : Nat) (ka : Nat → Nat) (p0 p1 p2 : Int32) (sz : Nat) : vx_Met l yX11_stand vs_c_stand ({ frames := 8, cells := 1, slots := 6, locals := 142 }) (va_Pc [.ref ko, .int p0, .int p1, .int p2] (pcW D cy sa sz [(ko, .inr (11, [.ref (ka 0), .ref (ka 1), .ref (ka 2), .int 0, .int 0, .ref (ka 5), .ref (ka 6), .ref (ka 7), .ref (ka 8), .ref (ka 9), .int 0, .ref (ka 11), .ref (ka 12), .ref (ka 13)])), ((ka 13), .inl (cy 0, 4, .inl (fun _ => 0)))])) (va_Qi (fun (r : Int32) (u : SU) => False) (fun u t => atW D (va_A [(ko, .inr (11, [.ref (ka 0), .ref (ka 1), .ref (ka 2), .int 0, .int 0, .ref (ka 5), .ref (ka 6), .ref (ka 7), .ref (ka 8), .ref (ka 9), .int 0, .ref (ka 11), .ref (ka 12), .ref (ka 13)])), ((ka 13), .inl (cy 0, 4, .inl (fun _ => 0)))] sz) [] t) (va_A [(ko, .inr (11, [.ref (ka 0), .ref (ka 1), .ref (ka 2), .int 0, .int 0, .ref (ka 5), .ref (ka 6), .ref (ka 7), .ref (ka 8), .ref (ka 9), .int 0, .ref (ka 11), .ref (ka 12), .ref (ka 13)])), ((ka 13), .inl (cy 0, 4, .inl (fun _ => 0)))] sz)) (xcW (fun E => (E = "java/util/NoSuchElementException" ∧ (True))) (va_A [(ko, .inr (11, [.ref (ka 0), .ref (ka 1), .ref (ka 2), .int 0, .int 0, .ref (ka 5), .ref (ka 6), .ref (ka 7), .ref (ka 8), .ref (ka 9), .int 0, .ref (ka 11), .ref (ka 12), .ref (ka 13)])), ((ka 13), .inl (cy 0, 4, .inl (fun _ => 0)))] sz)) 1 6 (va_A [(ko, .inr (11, [.ref (ka 0), .ref (ka 1), .ref (ka 2), .int 0, .int 0, .ref (ka 5), .ref (ka 6), .ref (ka 7), .ref (ka 8), .ref (ka 9), .int 0, .ref (ka 11), .ref (ka 12), .ref (ka 13)])), ((ka 13), .inl (cy 0, 4, .inl (fun _ => 0)))] sz) := by
  refine vx_ofW (cc := cX11_stand) (maxL := 4) (ret := (some .int)) (by decide) rfl ?_
  intro p e s m args below meth c s₁ B hml hex hv
  obtain ⟨rfl, hsz, hP, hG, hD0, hT⟩ := hv
  have hx := B.exec
  have hb := B.bytes
  have hr := B.returns
  have hts := atoms_spec (ws := vs_c_stand) B.pre
  have hown : s.vm.findClass RX11 = some m.cls := findClass_of_methodNamed B.named
  have hlocks := B.notSynchronized
  subst hsz
  have hD := hD0.self (sz := s.heap.size)
  generalize hAe : va_A [(ko, .inr (11, [.ref (ka 0), .ref (ka 1), .ref (ka 2), .int 0, .int 0, .ref (ka 5), .ref (ka 6), .ref (ka 7), .ref (ka 8), .ref (ka 9), .int 0, .ref (ka 11), .ref (ka 12), .ref (ka 13)])), ((ka 13), .inl (cy 0, 4, .inl (fun _ => 0)))] s.heap.size = A at hD hT ⊢
  have hA : ∀ q : Nat, s.heap.size ≤ q → A q := fun q h => by rw [← hAe]; exact Or.inr h
  have hS : va_S A s.heap s.heap [] := va_S.rf
  have hl0 := lv_entry ([.ref ko, .int p0, .int p1, .int p2]) (n := 4) (Nat.le_of_ble_eq_true rfl)
  rw [lg_entry_eq]
  generalize (lg_sl ([.ref ko, .int p0, .int p1, .int p2]) ++ List.replicate (4 - (lg_sl ([.ref ko, .int p0, .int p1, .int p2])).length) Slot.unset).toArray = ls at hl0 ⊢
  have hlv : lv_has ls 4 [(0, .ref ko), (1, .int p0), (2, .int p1), (3, .int p2)] := hl0
  have gg_0 : GoodIn vs_c_stand (wsV RX11 227 RX11 yX11_needLaw vs_c_needLaw) := goodIn_sub (fun w h => List.mem_cons_of_mem _ (List.mem_append_right _ (List.mem_append_left _ h))) (by decide +kernel)
  refine lv_aload_n hx hb dX11_stand_0 rfl (lv_at hlv 0 rfl) ?_
  refine lv_iload_n hx hb dX11_stand_1 rfl (lv_at hlv 1 rfl) ?_
  refine cjx_v (wr := []) (vx_runV (As := [.int p0]) (rest := []) ⟨hx, hb, hml, hown, hts⟩ (c_needLaw l hl D cy sa ko ka p0 s.heap.size) (cwV 1 hts gg_0 rfl rfl rfl (by decide +kernel) ⟨Nat.le_of_ble_eq_true rfl, Nat.le_of_ble_eq_true rfl⟩) ⟨pcW.blind, (va_recv hG.1 hP (ci := 11) (q0 := 0) rfl rfl), (pcW.mk hP hD hS hA hG hT [0, 1] rfl (by decide))⟩ rfl rfl hlv.1 rfl (lv_room (Nat.le_of_ble_eq_true rfl)) dX11_stand_2 ⟨Nat.le_of_ble_eq_true rfl, Nat.le_of_ble_eq_true rfl⟩) hP hD hS hA [0, 1] [] rfl rfl (by decide) (by decide) (fun E ce q9 H locs hp hP hD hS h1 h2 h3 => ?_) (fun u1 H locs hw1 hP hD hS => ?_)
  · obtain ⟨rfl, hg1⟩ := hp
    exact vx_out (fun x h => (hex x h).elim) hlocks h1 h2 h3 (fun t ht hvm => ⟨(), trivial, (by exact ⟨rfl, trivial⟩), hS.F ht⟩) hS.2.2 (Nat.le_of_ble_eq_true rfl) (Nat.le_of_ble_eq_true rfl)
  · exact (hw1).elim
def vs_c_pace : List Cond := .code yX11_pace cX11_pace 5 (some .int) :: (([] : List Cond) ++ ((wsV RX11 227 RX11 yX11_needLaw vs_c_needLaw) ++ ([])))
set_option maxHeartbeats 4000000 in
set_option maxRecDepth 100000 in
theorem c_pace (l : Launch) (hl : l.stackTraces = false) (D : va_G) (cy : Nat → ClassId) (sa : Nat → Nat) (ko : Nat) (ka : Nat → Nat) (p0 p1 p2 p3 : Int32) (sz : Nat) : vx_Met l yX11_pace vs_c_pace ({ frames := 8, cells := 1, slots := 6, locals := 142 }) (va_Pc [.ref ko, .int p0, .int p1, .int p2, .int p3] (pcW D cy sa sz [(ko, .inr (11, [.ref (ka 0), .ref (ka 1), .ref (ka 2), .int 0, .int 0, .ref (ka 5), .ref (ka 6), .ref (ka 7), .ref (ka 8), .ref (ka 9), .int 0, .ref (ka 11), .ref (ka 12), .ref (ka 13)])), ((ka 13), .inl (cy 0, 4, .inl (fun _ => 0)))])) (va_Qi (fun (r : Int32) (u : SU) => False) (fun u t => atW D (va_A [(ko, .inr (11, [.ref (ka 0), .ref (ka 1), .ref (ka 2), .int 0, .int 0, .ref (ka 5), .ref (ka 6), .ref (ka 7), .ref (ka 8), .ref (ka 9), .int 0, .ref (ka 11), .ref (ka 12), .ref (ka 13)])), ((ka 13), .inl (cy 0, 4, .inl (fun _ => 0)))] sz) [] t) (va_A [(ko, .inr (11, [.ref (ka 0), .ref (ka 1), .ref (ka 2), .int 0, .int 0, .ref (ka 5), .ref (ka 6), .ref (ka 7), .ref (ka 8), .ref (ka 9), .int 0, .ref (ka 11), .ref (ka 12), .ref (ka 13)])), ((ka 13), .inl (cy 0, 4, .inl (fun _ => 0)))] sz)) (xcW (fun E => (E = "java/util/NoSuchElementException" ∧ (True))) (va_A [(ko, .inr (11, [.ref (ka 0), .ref (ka 1), .ref (ka 2), .int 0, .int 0, .ref (ka 5), .ref (ka 6), .ref (ka 7), .ref (ka 8), .ref (ka 9), .int 0, .ref (ka 11), .ref (ka 12), .ref (ka 13)])), ((ka 13), .inl (cy 0, 4, .inl (fun _ => 0)))] sz)) 1 6 (va_A [(ko, .inr (11, [.ref (ka 0), .ref (ka 1), .ref (ka 2), .int 0, .int 0, .ref (ka 5), .ref (ka 6), .ref (ka 7), .ref (ka 8), .ref (ka 9), .int 0, .ref (ka 11), .ref (ka 12), .ref (ka 13)])), ((ka 13), .inl (cy 0, 4, .inl (fun _ => 0)))] sz) := by
  refine vx_ofW (cc := cX11_pace) (maxL := 5) (ret := (some .int)) (by decide) rfl ?_
  intro p e s m args below meth c s₁ B hml hex hv
  obtain ⟨rfl, hsz, hP, hG, hD0, hT⟩ := hv
  have hx := B.exec
  have hb := B.bytes
  have hr := B.returns
  have hts := atoms_spec (ws := vs_c_pace) B.pre
  have hown : s.vm.findClass RX11 = some m.cls := findClass_of_methodNamed B.named
  have hlocks := B.notSynchronized
  subst hsz
  have hD := hD0.self (sz := s.heap.size)
  generalize hAe : va_A [(ko, .inr (11, [.ref (ka 0), .ref (ka 1), .ref (ka 2), .int 0, .int 0, .ref (ka 5), .ref (ka 6), .ref (ka 7), .ref (ka 8), .ref (ka 9), .int 0, .ref (ka 11), .ref (ka 12), .ref (ka 13)])), ((ka 13), .inl (cy 0, 4, .inl (fun _ => 0)))] s.heap.size = A at hD hT ⊢
  have hA : ∀ q : Nat, s.heap.size ≤ q → A q := fun q h => by rw [← hAe]; exact Or.inr h
  have hS : va_S A s.heap s.heap [] := va_S.rf
  have hl0 := lv_entry ([.ref ko, .int p0, .int p1, .int p2, .int p3]) (n := 5) (Nat.le_of_ble_eq_true rfl)
  rw [lg_entry_eq]
  generalize (lg_sl ([.ref ko, .int p0, .int p1, .int p2, .int p3]) ++ List.replicate (5 - (lg_sl ([.ref ko, .int p0, .int p1, .int p2, .int p3])).length) Slot.unset).toArray = ls at hl0 ⊢
  have hlv : lv_has ls 5 [(0, .ref ko), (1, .int p0), (2, .int p1), (3, .int p2), (4, .int p3)] := hl0
  have gg_0 : GoodIn vs_c_pace (wsV RX11 227 RX11 yX11_needLaw vs_c_needLaw) := goodIn_sub (fun w h => List.mem_cons_of_mem _ (List.mem_append_right _ (List.mem_append_left _ h))) (by decide +kernel)
  refine lv_aload_n hx hb dX11_pace_0 rfl (lv_at hlv 0 rfl) ?_
  refine lv_iload_n hx hb dX11_pace_1 rfl (lv_at hlv 1 rfl) ?_
  refine cjx_v (wr := []) (vx_runV (As := [.int p0]) (rest := []) ⟨hx, hb, hml, hown, hts⟩ (c_needLaw l hl D cy sa ko ka p0 s.heap.size) (cwV 1 hts gg_0 rfl rfl rfl (by decide +kernel) ⟨Nat.le_of_ble_eq_true rfl, Nat.le_of_ble_eq_true rfl⟩) ⟨pcW.blind, (va_recv hG.1 hP (ci := 11) (q0 := 0) rfl rfl), (pcW.mk hP hD hS hA hG hT [0, 1] rfl (by decide))⟩ rfl rfl hlv.1 rfl (lv_room (Nat.le_of_ble_eq_true rfl)) dX11_pace_2 ⟨Nat.le_of_ble_eq_true rfl, Nat.le_of_ble_eq_true rfl⟩) hP hD hS hA [0, 1] [] rfl rfl (by decide) (by decide) (fun E ce q9 H locs hp hP hD hS h1 h2 h3 => ?_) (fun u1 H locs hw1 hP hD hS => ?_)
  · obtain ⟨rfl, hg1⟩ := hp
    exact vx_out (fun x h => (hex x h).elim) hlocks h1 h2 h3 (fun t ht hvm => ⟨(), trivial, (by exact ⟨rfl, trivial⟩), hS.F ht⟩) hS.2.2 (Nat.le_of_ble_eq_true rfl) (Nat.le_of_ble_eq_true rfl)
  · exact (hw1).elim
def vs_c_moved : List Cond := .code yX11_moved cX11_moved 3 (some .int) :: (([] : List Cond) ++ ((wsV RX11 227 RX11 yX11_needLaw vs_c_needLaw) ++ ([])))
set_option maxHeartbeats 4000000 in
set_option maxRecDepth 100000 in
theorem c_moved (l : Launch) (hl : l.stackTraces = false) (D : va_G) (cy : Nat → ClassId) (sa : Nat → Nat) (ko : Nat) (ka : Nat → Nat) (p0 p1 : Int32) (sz : Nat) : vx_Met l yX11_moved vs_c_moved ({ frames := 8, cells := 1, slots := 6, locals := 142 }) (va_Pc [.ref ko, .int p0, .int p1] (pcW D cy sa sz [(ko, .inr (11, [.ref (ka 0), .ref (ka 1), .ref (ka 2), .int 0, .int 0, .ref (ka 5), .ref (ka 6), .ref (ka 7), .ref (ka 8), .ref (ka 9), .int 0, .ref (ka 11), .ref (ka 12), .ref (ka 13)])), ((ka 13), .inl (cy 0, 4, .inl (fun _ => 0)))])) (va_Qi (fun (r : Int32) (u : SU) => False) (fun u t => atW D (va_A [(ko, .inr (11, [.ref (ka 0), .ref (ka 1), .ref (ka 2), .int 0, .int 0, .ref (ka 5), .ref (ka 6), .ref (ka 7), .ref (ka 8), .ref (ka 9), .int 0, .ref (ka 11), .ref (ka 12), .ref (ka 13)])), ((ka 13), .inl (cy 0, 4, .inl (fun _ => 0)))] sz) [] t) (va_A [(ko, .inr (11, [.ref (ka 0), .ref (ka 1), .ref (ka 2), .int 0, .int 0, .ref (ka 5), .ref (ka 6), .ref (ka 7), .ref (ka 8), .ref (ka 9), .int 0, .ref (ka 11), .ref (ka 12), .ref (ka 13)])), ((ka 13), .inl (cy 0, 4, .inl (fun _ => 0)))] sz)) (xcW (fun E => (E = "java/util/NoSuchElementException" ∧ (True))) (va_A [(ko, .inr (11, [.ref (ka 0), .ref (ka 1), .ref (ka 2), .int 0, .int 0, .ref (ka 5), .ref (ka 6), .ref (ka 7), .ref (ka 8), .ref (ka 9), .int 0, .ref (ka 11), .ref (ka 12), .ref (ka 13)])), ((ka 13), .inl (cy 0, 4, .inl (fun _ => 0)))] sz)) 1 6 (va_A [(ko, .inr (11, [.ref (ka 0), .ref (ka 1), .ref (ka 2), .int 0, .int 0, .ref (ka 5), .ref (ka 6), .ref (ka 7), .ref (ka 8), .ref (ka 9), .int 0, .ref (ka 11), .ref (ka 12), .ref (ka 13)])), ((ka 13), .inl (cy 0, 4, .inl (fun _ => 0)))] sz) := by
  refine vx_ofW (cc := cX11_moved) (maxL := 3) (ret := (some .int)) (by decide) rfl ?_
  intro p e s m args below meth c s₁ B hml hex hv
  obtain ⟨rfl, hsz, hP, hG, hD0, hT⟩ := hv
  have hx := B.exec
  have hb := B.bytes
  have hr := B.returns
  have hts := atoms_spec (ws := vs_c_moved) B.pre
  have hown : s.vm.findClass RX11 = some m.cls := findClass_of_methodNamed B.named
  have hlocks := B.notSynchronized
  subst hsz
  have hD := hD0.self (sz := s.heap.size)
  generalize hAe : va_A [(ko, .inr (11, [.ref (ka 0), .ref (ka 1), .ref (ka 2), .int 0, .int 0, .ref (ka 5), .ref (ka 6), .ref (ka 7), .ref (ka 8), .ref (ka 9), .int 0, .ref (ka 11), .ref (ka 12), .ref (ka 13)])), ((ka 13), .inl (cy 0, 4, .inl (fun _ => 0)))] s.heap.size = A at hD hT ⊢
  have hA : ∀ q : Nat, s.heap.size ≤ q → A q := fun q h => by rw [← hAe]; exact Or.inr h
  have hS : va_S A s.heap s.heap [] := va_S.rf
  have hl0 := lv_entry ([.ref ko, .int p0, .int p1]) (n := 3) (Nat.le_of_ble_eq_true rfl)
  rw [lg_entry_eq]
  generalize (lg_sl ([.ref ko, .int p0, .int p1]) ++ List.replicate (3 - (lg_sl ([.ref ko, .int p0, .int p1])).length) Slot.unset).toArray = ls at hl0 ⊢
  have hlv : lv_has ls 3 [(0, .ref ko), (1, .int p0), (2, .int p1)] := hl0
  have gg_0 : GoodIn vs_c_moved (wsV RX11 227 RX11 yX11_needLaw vs_c_needLaw) := goodIn_sub (fun w h => List.mem_cons_of_mem _ (List.mem_append_right _ (List.mem_append_left _ h))) (by decide +kernel)
  refine lv_aload_n hx hb dX11_moved_0 rfl (lv_at hlv 0 rfl) ?_
  refine lv_iload_n hx hb dX11_moved_1 rfl (lv_at hlv 1 rfl) ?_
  refine cjx_v (wr := []) (vx_runV (As := [.int p0]) (rest := []) ⟨hx, hb, hml, hown, hts⟩ (c_needLaw l hl D cy sa ko ka p0 s.heap.size) (cwV 1 hts gg_0 rfl rfl rfl (by decide +kernel) ⟨Nat.le_of_ble_eq_true rfl, Nat.le_of_ble_eq_true rfl⟩) ⟨pcW.blind, (va_recv hG.1 hP (ci := 11) (q0 := 0) rfl rfl), (pcW.mk hP hD hS hA hG hT [0, 1] rfl (by decide))⟩ rfl rfl hlv.1 rfl (lv_room (Nat.le_of_ble_eq_true rfl)) dX11_moved_2 ⟨Nat.le_of_ble_eq_true rfl, Nat.le_of_ble_eq_true rfl⟩) hP hD hS hA [0, 1] [] rfl rfl (by decide) (by decide) (fun E ce q9 H locs hp hP hD hS h1 h2 h3 => ?_) (fun u1 H locs hw1 hP hD hS => ?_)
  · obtain ⟨rfl, hg1⟩ := hp
    exact vx_out (fun x h => (hex x h).elim) hlocks h1 h2 h3 (fun t ht hvm => ⟨(), trivial, (by exact ⟨rfl, trivial⟩), hS.F ht⟩) hS.2.2 (Nat.le_of_ble_eq_true rfl) (Nat.le_of_ble_eq_true rfl)
  · exact (hw1).elim
def vs_c_isCar : List Cond := .code yX11_isCar cX11_isCar 5 (some .boolean) :: (([.fieldLink RX11 31 "KerbSplash" "now" "LKerbSplash$Street;"] : List Cond) ++ ((wsX110) ++ ((wsX60) ++ ((va_wsS RX11 130 yX11_isWithin wsX11_isWithin) ++ ([])))))
set_option maxHeartbeats 4000000 in
set_option maxRecDepth 100000 in
theorem c_isCar (l : Launch) (hl : l.stackTraces = false) (D : va_G) (cy : Nat → ClassId) (sa : Nat → Nat) (ko : Nat) (ka : Nat → Nat) (p1 p2 p3 p4 : Int32) (sz : Nat) : Met l yX11_isCar vs_c_isCar ({ frames := 1, cells := 0, slots := 0, locals := 22 }) (va_Pc [.ref ko, .int p1, .int p2, .int p3, .int p4] (pcW D cy sa sz [(ko, .inr (11, [.ref (ka 0), .ref (ka 1), .ref (ka 2), .int 0, .int 0, .ref (ka 5), .ref (ka 6), .ref (ka 7), .ref (ka 8), .ref (ka 9), .int 0, .ref (ka 11), .ref (ka 12), .ref (ka 13)])), ((ka 5), .inr (6, [.int 0, .int 0, .ref (ka 21), .ref (ka 22), .int 0, .int 0, .ref (ka 23), .int 0, .ref (ka 24), .int 0, .int 0, .ref (ka 25), .int 0, .ref (ka 26), .int 0, .int 0, .int 0, .int 0, .int 0]))])) (va_Qi (fun (r : Int32) (u : SU) => (r = 0)) (fun u t => atW D (va_A [(ko, .inr (11, [.ref (ka 0), .ref (ka 1), .ref (ka 2), .int 0, .int 0, .ref (ka 5), .ref (ka 6), .ref (ka 7), .ref (ka 8), .ref (ka 9), .int 0, .ref (ka 11), .ref (ka 12), .ref (ka 13)])), ((ka 5), .inr (6, [.int 0, .int 0, .ref (ka 21), .ref (ka 22), .int 0, .int 0, .ref (ka 23), .int 0, .ref (ka 24), .int 0, .int 0, .ref (ka 25), .int 0, .ref (ka 26), .int 0, .int 0, .int 0, .int 0, .int 0]))] sz) [(ko, .inr (11, [.ref (ka 0), .ref (ka 1), .ref (ka 2), .int 0, .int 0, .ref (ka 5), .ref (ka 6), .ref (ka 7), .ref (ka 8), .ref (ka 9), .int 0, .ref (ka 11), .ref (ka 12), .ref (ka 13)])), ((ka 5), .inr (6, [.int 0, .int 0, .ref (ka 21), .ref (ka 22), .int 0, .int 0, .ref (ka 23), .int 0, .ref (ka 24), .int 0, .int 0, .ref (ka 25), .int 0, .ref (ka 26), .int 0, .int 0, .int 0, .int 0, .int 0]))] t) (va_A [(ko, .inr (11, [.ref (ka 0), .ref (ka 1), .ref (ka 2), .int 0, .int 0, .ref (ka 5), .ref (ka 6), .ref (ka 7), .ref (ka 8), .ref (ka 9), .int 0, .ref (ka 11), .ref (ka 12), .ref (ka 13)])), ((ka 5), .inr (6, [.int 0, .int 0, .ref (ka 21), .ref (ka 22), .int 0, .int 0, .ref (ka 23), .int 0, .ref (ka 24), .int 0, .int 0, .ref (ka 25), .int 0, .ref (ka 26), .int 0, .int 0, .int 0, .int 0, .int 0]))] sz)) 0 0 (va_A [(ko, .inr (11, [.ref (ka 0), .ref (ka 1), .ref (ka 2), .int 0, .int 0, .ref (ka 5), .ref (ka 6), .ref (ka 7), .ref (ka 8), .ref (ka 9), .int 0, .ref (ka 11), .ref (ka 12), .ref (ka 13)])), ((ka 5), .inr (6, [.int 0, .int 0, .ref (ka 21), .ref (ka 22), .int 0, .int 0, .ref (ka 23), .int 0, .ref (ka 24), .int 0, .int 0, .ref (ka 25), .int 0, .ref (ka 26), .int 0, .int 0, .int 0, .int 0, .int 0]))] sz) := by
  refine Met.ofW (cc := cX11_isCar) (maxL := 5) (ret := (some .boolean)) (by decide) rfl ?_
  intro p e s m args below meth c s₁ B hml hv
  obtain ⟨rfl, hsz, hP, hG, hD0, hT⟩ := hv
  have hx := B.exec
  have hb := B.bytes
  have hr := B.returns
  have hts := atoms_spec (ws := vs_c_isCar) B.pre
  have hown : s.vm.findClass RX11 = some m.cls := findClass_of_methodNamed B.named
  have hlocks := B.notSynchronized
  subst hsz
  have hD := hD0.self (sz := s.heap.size)
  generalize hAe : va_A [(ko, .inr (11, [.ref (ka 0), .ref (ka 1), .ref (ka 2), .int 0, .int 0, .ref (ka 5), .ref (ka 6), .ref (ka 7), .ref (ka 8), .ref (ka 9), .int 0, .ref (ka 11), .ref (ka 12), .ref (ka 13)])), ((ka 5), .inr (6, [.int 0, .int 0, .ref (ka 21), .ref (ka 22), .int 0, .int 0, .ref (ka 23), .int 0, .ref (ka 24), .int 0, .int 0, .ref (ka 25), .int 0, .ref (ka 26), .int 0, .int 0, .int 0, .int 0, .int 0]))] s.heap.size = A at hD hT ⊢
  have hA : ∀ q : Nat, s.heap.size ≤ q → A q := fun q h => by rw [← hAe]; exact Or.inr h
  have hS : va_S A s.heap s.heap [] := va_S.rf
  have hl0 := lv_entry ([.ref ko, .int p1, .int p2, .int p3, .int p4]) (n := 5) (Nat.le_of_ble_eq_true rfl)
  rw [lg_entry_eq]
  generalize (lg_sl ([.ref ko, .int p1, .int p2, .int p3, .int p4]) ++ List.replicate (5 - (lg_sl ([.ref ko, .int p1, .int p2, .int p3, .int p4])).length) Slot.unset).toArray = ls at hl0 ⊢
  have hlv : lv_has ls 5 [(0, .ref ko), (1, .int p1), (2, .int p2), (3, .int p3), (4, .int p4)] := hl0
  have lf31 := hts (.fieldLink RX11 31 "KerbSplash" "now" "LKerbSplash$Street;") (List.mem_of_getElem? (i := 1) rfl)
  have hi11 : ∀ w ∈ wsX110, w ∈ vs_c_isCar := fun w h => List.mem_cons_of_mem _ (List.mem_append_right _ (List.mem_append_left _ h))
  have hi6 : ∀ w ∈ wsX60, w ∈ vs_c_isCar := fun w h => List.mem_cons_of_mem _ (List.mem_append_right _ (List.mem_append_right _ (List.mem_append_left _ h)))
  have gg_2 : GoodIn vs_c_isCar (va_wsS RX11 130 yX11_isWithin wsX11_isWithin) := goodIn_sub (fun w h => List.mem_cons_of_mem _ (List.mem_append_right _ (List.mem_append_right _ (List.mem_append_right _ (List.mem_append_left _ h))))) (by decide +kernel)
  refine lv_iload_n hx hb dX11_isCar_0 rfl (lv_at hlv 1 rfl) ?_
  refine lv_iconst (v := 0) hx hb dX11_isCar_1 (by decide) ?_
  refine lv_aload_n hx hb dX11_isCar_2 rfl (lv_at hlv 0 rfl) ?_
  refine va_get (D := D) (ci := 11) (v := .ref (ka 5)) (C := RX11) (T := TX11) (N := 14) hx hb hts hi11 hown hG.1 hP 0 rfl rfl 5 (by decide) lf31 (fun _ h9 => h9) rfl dX11_isCar_3 ?_
  refine va_getN (D := D) (ci := 6) (v := .int 0) (C := RX6) (T := TX6) (N := 19) hx hb hts hi6 hown hG.1 hP 1 rfl rfl 1 (by decide) (va_Nw.use rfl (nF_K_141 hG.2.1)) (fun _ h9 => h9) rfl dX11_isCar_6 ?_
  refine lv_iconst (v := 1) hx hb dX11_isCar_9 (by decide) ?_
  refine lv_isub hx hb dX11_isCar_10 ?_
  refine lt_i (y := (-1)) (by decide) ?_
  refine cj_i (wr := [(ko, .inr (11, [.ref (ka 0), .ref (ka 1), .ref (ka 2), .int 0, .int 0, .ref (ka 5), .ref (ka 6), .ref (ka 7), .ref (ka 8), .ref (ka 9), .int 0, .ref (ka 11), .ref (ka 12), .ref (ka 13)])), ((ka 5), .inr (6, [.int 0, .int 0, .ref (ka 21), .ref (ka 22), .int 0, .int 0, .ref (ka 23), .int 0, .ref (ka 24), .int 0, .int 0, .ref (ka 25), .int 0, .ref (ka 26), .int 0, .int 0, .int 0, .int 0, .int 0]))]) (va_runS (As := [.int p1, .int 0, .int (-1)]) (rest := []) ⟨hx, hb, hml, hown, hts⟩ (c_isWithin l hl D cy sa p1 0 (-1) s.heap.size) (va_cwS 3 hts gg_2 rfl rfl rfl (by decide +kernel) ⟨Nat.le_of_ble_eq_true rfl, Nat.le_of_ble_eq_true rfl⟩) ⟨pcW.blind, (pcW.mk hP hD hS hA hG hT [] rfl (by decide))⟩ rfl rfl hlv.1 rfl (lv_room (Nat.le_of_ble_eq_true rfl)) dX11_isCar_11 ⟨Nat.le_of_ble_eq_true rfl, Nat.le_of_ble_eq_true rfl⟩) hP hD hS hA [] [0, 1] rfl rfl (by decide) (by decide) (fun r1 u1 H locs hw1 hP hD hS => ?_)
  rcases hw1 with ⟨hg1, rfl⟩ | ⟨hg1, rfl⟩
  · exact absurd hg1 (fun q => absurd (Int32.le_trans q.1 q.2) (by decide))
  · have hP : va_P D vwCl [(ko, .inr (11, [.ref (ka 0), .ref (ka 1), .ref (ka 2), .int 0, .int 0, .ref (ka 5), .ref (ka 6), .ref (ka 7), .ref (ka 8), .ref (ka 9), .int 0, .ref (ka 11), .ref (ka 12), .ref (ka 13)])), ((ka 5), .inr (6, [.int 0, .int 0, .ref (ka 21), .ref (ka 22), .int 0, .int 0, .ref (ka 23), .int 0, .ref (ka 24), .int 0, .int 0, .ref (ka 25), .int 0, .ref (ka 26), .int 0, .int 0, .int 0, .int 0, .int 0]))] H := hP
    have hD : va_D A [(ko, .inr (11, [.ref (ka 0), .ref (ka 1), .ref (ka 2), .int 0, .int 0, .ref (ka 5), .ref (ka 6), .ref (ka 7), .ref (ka 8), .ref (ka 9), .int 0, .ref (ka 11), .ref (ka 12), .ref (ka 13)])), ((ka 5), .inr (6, [.int 0, .int 0, .ref (ka 21), .ref (ka 22), .int 0, .int 0, .ref (ka 23), .int 0, .ref (ka 24), .int 0, .int 0, .ref (ka 25), .int 0, .ref (ka 26), .int 0, .int 0, .int 0, .int 0, .int 0]))] := hD
    refine lv_if_eq (tgt := 51) hx hb dX11_isCar_14 (by decide) (fun _ => ?_) (fun c => absurd (by decide) c)
    refine lv_iconst (v := 0) hx hb dX11_isCar_51 (by decide) ?_
    refine W.widen (k := 0) (n := 0) (Nat.le_of_ble_eq_true rfl) (Nat.le_of_ble_eq_true rfl) ?_
    exact W.zret (v := 0) hx hb hr (by first | rfl | decide) (fun t ht hW => ⟨⟨0, ((fun k => ([] : List Nat).getD k 0), (fun k => ([] : List Int32).getD k 0), (fun k => ([] : List (Nat → Int32)).getD k (fun _ => 0))), rfl, (by first | (exact (by rfl))), by rw [ht]; exact hP.sub [0, 1] rfl, hD.sub [0, 1] (by decide) rfl⟩, hS.F ht⟩) hS.2.2 dX11_isCar_52
def vs_c_traffic : List Cond := .code yX11_traffic cX11_traffic 6 (some .int) :: (([] : List Cond) ++ ((va_wsS RX11 130 yX11_isWithin wsX11_isWithin) ++ ((wsV RX11 243 RX11 yX11_isCar vs_c_isCar) ++ ((wsV RX11 134 RX11 yX11_needArgument wsX11_needArgument) ++ ([])))))
set_option maxHeartbeats 4000000 in
set_option maxRecDepth 100000 in
theorem c_traffic (l : Launch) (hl : l.stackTraces = false) (D : va_G) (cy : Nat → ClassId) (sa : Nat → Nat) (ko : Nat) (ka : Nat → Nat) (p0 p1 p2 p3 p4 : Int32) (sz : Nat) : vx_Met l yX11_traffic vs_c_traffic ({ frames := 7, cells := 1, slots := 6, locals := 121 }) (va_Pc [.ref ko, .int p0, .int p1, .int p2, .int p3, .int p4] (pcW D cy sa sz [(ko, .inr (11, [.ref (ka 0), .ref (ka 1), .ref (ka 2), .int 0, .int 0, .ref (ka 5), .ref (ka 6), .ref (ka 7), .ref (ka 8), .ref (ka 9), .int 0, .ref (ka 11), .ref (ka 12), .ref (ka 13)])), ((ka 5), .inr (6, [.int 0, .int 0, .ref (ka 21), .ref (ka 22), .int 0, .int 0, .ref (ka 23), .int 0, .ref (ka 24), .int 0, .int 0, .ref (ka 25), .int 0, .ref (ka 26), .int 0, .int 0, .int 0, .int 0, .int 0])), ((ka 13), .inl (cy 0, 4, .inl (fun _ => 0)))])) (va_Qi (fun (r : Int32) (u : SU) => False) (fun u t => atW D (va_A [(ko, .inr (11, [.ref (ka 0), .ref (ka 1), .ref (ka 2), .int 0, .int 0, .ref (ka 5), .ref (ka 6), .ref (ka 7), .ref (ka 8), .ref (ka 9), .int 0, .ref (ka 11), .ref (ka 12), .ref (ka 13)])), ((ka 5), .inr (6, [.int 0, .int 0, .ref (ka 21), .ref (ka 22), .int 0, .int 0, .ref (ka 23), .int 0, .ref (ka 24), .int 0, .int 0, .ref (ka 25), .int 0, .ref (ka 26), .int 0, .int 0, .int 0, .int 0, .int 0])), ((ka 13), .inl (cy 0, 4, .inl (fun _ => 0)))] sz) [] t) (va_A [(ko, .inr (11, [.ref (ka 0), .ref (ka 1), .ref (ka 2), .int 0, .int 0, .ref (ka 5), .ref (ka 6), .ref (ka 7), .ref (ka 8), .ref (ka 9), .int 0, .ref (ka 11), .ref (ka 12), .ref (ka 13)])), ((ka 5), .inr (6, [.int 0, .int 0, .ref (ka 21), .ref (ka 22), .int 0, .int 0, .ref (ka 23), .int 0, .ref (ka 24), .int 0, .int 0, .ref (ka 25), .int 0, .ref (ka 26), .int 0, .int 0, .int 0, .int 0, .int 0])), ((ka 13), .inl (cy 0, 4, .inl (fun _ => 0)))] sz)) (xcW (fun E => (E = "java/lang/IllegalArgumentException" ∧ (True))) (va_A [(ko, .inr (11, [.ref (ka 0), .ref (ka 1), .ref (ka 2), .int 0, .int 0, .ref (ka 5), .ref (ka 6), .ref (ka 7), .ref (ka 8), .ref (ka 9), .int 0, .ref (ka 11), .ref (ka 12), .ref (ka 13)])), ((ka 5), .inr (6, [.int 0, .int 0, .ref (ka 21), .ref (ka 22), .int 0, .int 0, .ref (ka 23), .int 0, .ref (ka 24), .int 0, .int 0, .ref (ka 25), .int 0, .ref (ka 26), .int 0, .int 0, .int 0, .int 0, .int 0])), ((ka 13), .inl (cy 0, 4, .inl (fun _ => 0)))] sz)) 1 6 (va_A [(ko, .inr (11, [.ref (ka 0), .ref (ka 1), .ref (ka 2), .int 0, .int 0, .ref (ka 5), .ref (ka 6), .ref (ka 7), .ref (ka 8), .ref (ka 9), .int 0, .ref (ka 11), .ref (ka 12), .ref (ka 13)])), ((ka 5), .inr (6, [.int 0, .int 0, .ref (ka 21), .ref (ka 22), .int 0, .int 0, .ref (ka 23), .int 0, .ref (ka 24), .int 0, .int 0, .ref (ka 25), .int 0, .ref (ka 26), .int 0, .int 0, .int 0, .int 0, .int 0])), ((ka 13), .inl (cy 0, 4, .inl (fun _ => 0)))] sz) := by
  refine vx_ofW (cc := cX11_traffic) (maxL := 6) (ret := (some .int)) (by decide) rfl ?_
  intro p e s m args below meth c s₁ B hml hex hv
  obtain ⟨rfl, hsz, hP, hG, hD0, hT⟩ := hv
  have hx := B.exec
  have hb := B.bytes
  have hr := B.returns
  have hts := atoms_spec (ws := vs_c_traffic) B.pre
  have hown : s.vm.findClass RX11 = some m.cls := findClass_of_methodNamed B.named
  have hlocks := B.notSynchronized
  subst hsz
  have hD := hD0.self (sz := s.heap.size)
  generalize hAe : va_A [(ko, .inr (11, [.ref (ka 0), .ref (ka 1), .ref (ka 2), .int 0, .int 0, .ref (ka 5), .ref (ka 6), .ref (ka 7), .ref (ka 8), .ref (ka 9), .int 0, .ref (ka 11), .ref (ka 12), .ref (ka 13)])), ((ka 5), .inr (6, [.int 0, .int 0, .ref (ka 21), .ref (ka 22), .int 0, .int 0, .ref (ka 23), .int 0, .ref (ka 24), .int 0, .int 0, .ref (ka 25), .int 0, .ref (ka 26), .int 0, .int 0, .int 0, .int 0, .int 0])), ((ka 13), .inl (cy 0, 4, .inl (fun _ => 0)))] s.heap.size = A at hD hT ⊢
  have hA : ∀ q : Nat, s.heap.size ≤ q → A q := fun q h => by rw [← hAe]; exact Or.inr h
  have hS : va_S A s.heap s.heap [] := va_S.rf
  have hl0 := lv_entry ([.ref ko, .int p0, .int p1, .int p2, .int p3, .int p4]) (n := 6) (Nat.le_of_ble_eq_true rfl)
  rw [lg_entry_eq]
  generalize (lg_sl ([.ref ko, .int p0, .int p1, .int p2, .int p3, .int p4]) ++ List.replicate (6 - (lg_sl ([.ref ko, .int p0, .int p1, .int p2, .int p3, .int p4])).length) Slot.unset).toArray = ls at hl0 ⊢
  have hlv : lv_has ls 6 [(0, .ref ko), (1, .int p0), (2, .int p1), (3, .int p2), (4, .int p3), (5, .int p4)] := hl0
  have gg_0 : GoodIn vs_c_traffic (va_wsS RX11 130 yX11_isWithin wsX11_isWithin) := goodIn_sub (fun w h => List.mem_cons_of_mem _ (List.mem_append_right _ (List.mem_append_left _ h))) (by decide +kernel)
  have gg_1 : GoodIn vs_c_traffic (wsV RX11 243 RX11 yX11_isCar vs_c_isCar) := goodIn_sub (fun w h => List.mem_cons_of_mem _ (List.mem_append_right _ (List.mem_append_right _ (List.mem_append_left _ h)))) (by decide +kernel)
  have gg_2 : GoodIn vs_c_traffic (wsV RX11 134 RX11 yX11_needArgument wsX11_needArgument) := goodIn_sub (fun w h => List.mem_cons_of_mem _ (List.mem_append_right _ (List.mem_append_right _ (List.mem_append_right _ (List.mem_append_left _ h))))) (by decide +kernel)
  refine lv_aload_n hx hb dX11_traffic_0 rfl (lv_at hlv 0 rfl) ?_
  refine lv_iload_n hx hb dX11_traffic_1 rfl (lv_at hlv 1 rfl) ?_
  refine lv_iconst (v := 0) hx hb dX11_traffic_2 (by decide) ?_
  refine lv_bipush (v := 99) hx hb dX11_traffic_3 (by decide) ?_
  refine cj_i (wr := [(ko, .inr (11, [.ref (ka 0), .ref (ka 1), .ref (ka 2), .int 0, .int 0, .ref (ka 5), .ref (ka 6), .ref (ka 7), .ref (ka 8), .ref (ka 9), .int 0, .ref (ka 11), .ref (ka 12), .ref (ka 13)])), ((ka 5), .inr (6, [.int 0, .int 0, .ref (ka 21), .ref (ka 22), .int 0, .int 0, .ref (ka 23), .int 0, .ref (ka 24), .int 0, .int 0, .ref (ka 25), .int 0, .ref (ka 26), .int 0, .int 0, .int 0, .int 0, .int 0])), ((ka 13), .inl (cy 0, 4, .inl (fun _ => 0)))]) (va_runS (As := [.int p0, .int 0, .int 99]) (rest := [.ref ko]) ⟨hx, hb, hml, hown, hts⟩ (c_isWithin l hl D cy sa p0 0 99 s.heap.size) (va_cwS 3 hts gg_0 rfl rfl rfl (by decide +kernel) ⟨Nat.le_of_ble_eq_true rfl, Nat.le_of_ble_eq_true rfl⟩) ⟨pcW.blind, (pcW.mk hP hD hS hA hG hT [] rfl (by decide))⟩ rfl rfl hlv.1 rfl (lv_room (Nat.le_of_ble_eq_true rfl)) dX11_traffic_5 ⟨Nat.le_of_ble_eq_true rfl, Nat.le_of_ble_eq_true rfl⟩) hP hD hS hA [] [0, 1, 2] rfl rfl (by decide) (by decide) (fun r1 u1 H locs hw1 hP hD hS => ?_)
  rcases hw1 with ⟨hg1, rfl⟩ | ⟨hg1, rfl⟩
  · have hP : va_P D vwCl [(ko, .inr (11, [.ref (ka 0), .ref (ka 1), .ref (ka 2), .int 0, .int 0, .ref (ka 5), .ref (ka 6), .ref (ka 7), .ref (ka 8), .ref (ka 9), .int 0, .ref (ka 11), .ref (ka 12), .ref (ka 13)])), ((ka 5), .inr (6, [.int 0, .int 0, .ref (ka 21), .ref (ka 22), .int 0, .int 0, .ref (ka 23), .int 0, .ref (ka 24), .int 0, .int 0, .ref (ka 25), .int 0, .ref (ka 26), .int 0, .int 0, .int 0, .int 0, .int 0])), ((ka 13), .inl (cy 0, 4, .inl (fun _ => 0)))] H := hP
    have hD : va_D A [(ko, .inr (11, [.ref (ka 0), .ref (ka 1), .ref (ka 2), .int 0, .int 0, .ref (ka 5), .ref (ka 6), .ref (ka 7), .ref (ka 8), .ref (ka 9), .int 0, .ref (ka 11), .ref (ka 12), .ref (ka 13)])), ((ka 5), .inr (6, [.int 0, .int 0, .ref (ka 21), .ref (ka 22), .int 0, .int 0, .ref (ka 23), .int 0, .ref (ka 24), .int 0, .int 0, .ref (ka 25), .int 0, .ref (ka 26), .int 0, .int 0, .int 0, .int 0, .int 0])), ((ka 13), .inl (cy 0, 4, .inl (fun _ => 0)))] := hD
    refine lv_if_eq (tgt := 28) hx hb dX11_traffic_8 (by decide) (fun c => absurd c (by decide)) (fun _ => ?_)
    refine lv_aload_n hx hb dX11_traffic_11 rfl (lv_at hlv 0 rfl) ?_
    refine lv_iload_n hx hb dX11_traffic_12 rfl (lv_at hlv 2 rfl) ?_
    refine lv_iload_n hx hb dX11_traffic_13 rfl (lv_at hlv 3 rfl) ?_
    refine lv_iload hx hb dX11_traffic_14 (lv_at hlv 4 rfl) ?_
    refine lv_iload hx hb dX11_traffic_16 (lv_at hlv 5 rfl) ?_
    refine cj_i (wr := [((ka 13), .inl (cy 0, 4, .inl (fun _ => 0)))]) (va_runV (As := [.int p1, .int p2, .int p3, .int p4]) (rest := [.ref ko]) ⟨hx, hb, hml, hown, hts⟩ (c_isCar l hl D cy sa ko ka p1 p2 p3 p4 H.size) (cwV 4 hts gg_1 rfl rfl rfl (by decide +kernel) ⟨Nat.le_of_ble_eq_true rfl, Nat.le_of_ble_eq_true rfl⟩) ⟨pcW.blind, (va_recv hG.1 hP (ci := 11) (q0 := 0) rfl rfl), (pcW.mk hP hD hS hA hG hT [0, 1] rfl (by decide))⟩ rfl rfl hlv.1 rfl (lv_room (Nat.le_of_ble_eq_true rfl)) dX11_traffic_18 ⟨Nat.le_of_ble_eq_true rfl, Nat.le_of_ble_eq_true rfl⟩) hP hD hS hA [0, 1] [2] rfl rfl (by decide) (by decide) (fun r2 u2 H locs hw2 hP hD hS => ?_)
    obtain rfl := hw2
    have hP : va_P D vwCl [((ka 13), .inl (cy 0, 4, .inl (fun _ => 0))), (ko, .inr (11, [.ref (ka 0), .ref (ka 1), .ref (ka 2), .int 0, .int 0, .ref (ka 5), .ref (ka 6), .ref (ka 7), .ref (ka 8), .ref (ka 9), .int 0, .ref (ka 11), .ref (ka 12), .ref (ka 13)])), ((ka 5), .inr (6, [.int 0, .int 0, .ref (ka 21), .ref (ka 22), .int 0, .int 0, .ref (ka 23), .int 0, .ref (ka 24), .int 0, .int 0, .ref (ka 25), .int 0, .ref (ka 26), .int 0, .int 0, .int 0, .int 0, .int 0]))] H := hP
    have hD : va_D A [((ka 13), .inl (cy 0, 4, .inl (fun _ => 0))), (ko, .inr (11, [.ref (ka 0), .ref (ka 1), .ref (ka 2), .int 0, .int 0, .ref (ka 5), .ref (ka 6), .ref (ka 7), .ref (ka 8), .ref (ka 9), .int 0, .ref (ka 11), .ref (ka 12), .ref (ka 13)])), ((ka 5), .inr (6, [.int 0, .int 0, .ref (ka 21), .ref (ka 22), .int 0, .int 0, .ref (ka 23), .int 0, .ref (ka 24), .int 0, .int 0, .ref (ka 25), .int 0, .ref (ka 26), .int 0, .int 0, .int 0, .int 0, .int 0]))] := hD
    refine lv_if_eq (tgt := 28) hx hb dX11_traffic_21 (by decide) (fun _ => ?_) (fun c => absurd (by decide) c)
    refine lv_iconst (v := 0) hx hb dX11_traffic_28 (by decide) ?_
    refine cjx_v (wr := [((ka 5), .inr (6, [.int 0, .int 0, .ref (ka 21), .ref (ka 22), .int 0, .int 0, .ref (ka 23), .int 0, .ref (ka 24), .int 0, .int 0, .ref (ka 25), .int 0, .ref (ka 26), .int 0, .int 0, .int 0, .int 0, .int 0]))]) (vx_runV (As := [.int 0]) (rest := []) ⟨hx, hb, hml, hown, hts⟩ (c_needArgument0 l hl D cy sa ko ka H.size) (cwV 1 hts gg_2 rfl rfl rfl (by decide +kernel) ⟨Nat.le_of_ble_eq_true rfl, Nat.le_of_ble_eq_true rfl⟩) ⟨pcW.blind, (va_recv hG.1 hP (ci := 11) (q0 := 1) rfl rfl), (pcW.mk hP hD hS hA hG hT [1, 0] rfl (by decide))⟩ rfl rfl hlv.1 rfl (lv_room (Nat.le_of_ble_eq_true rfl)) dX11_traffic_29 ⟨Nat.le_of_ble_eq_true rfl, Nat.le_of_ble_eq_true rfl⟩) hP hD hS hA [1, 0] [2] rfl rfl (by decide) (by decide) (fun E ce q9 H locs hp hP hD hS h1 h2 h3 => ?_) (fun u3 H locs hw3 hP hD hS => ?_)
    · obtain ⟨rfl, hg3⟩ := hp
      exact vx_out (fun x h => (hex x h).elim) hlocks h1 h2 h3 (fun t ht hvm => ⟨(), trivial, (by exact ⟨rfl, trivial⟩), hS.F ht⟩) hS.2.2 (Nat.le_of_ble_eq_true rfl) (Nat.le_of_ble_eq_true rfl)
    · exact (hw3).elim
  · have hP : va_P D vwCl [(ko, .inr (11, [.ref (ka 0), .ref (ka 1), .ref (ka 2), .int 0, .int 0, .ref (ka 5), .ref (ka 6), .ref (ka 7), .ref (ka 8), .ref (ka 9), .int 0, .ref (ka 11), .ref (ka 12), .ref (ka 13)])), ((ka 5), .inr (6, [.int 0, .int 0, .ref (ka 21), .ref (ka 22), .int 0, .int 0, .ref (ka 23), .int 0, .ref (ka 24), .int 0, .int 0, .ref (ka 25), .int 0, .ref (ka 26), .int 0, .int 0, .int 0, .int 0, .int 0])), ((ka 13), .inl (cy 0, 4, .inl (fun _ => 0)))] H := hP
    have hD : va_D A [(ko, .inr (11, [.ref (ka 0), .ref (ka 1), .ref (ka 2), .int 0, .int 0, .ref (ka 5), .ref (ka 6), .ref (ka 7), .ref (ka 8), .ref (ka 9), .int 0, .ref (ka 11), .ref (ka 12), .ref (ka 13)])), ((ka 5), .inr (6, [.int 0, .int 0, .ref (ka 21), .ref (ka 22), .int 0, .int 0, .ref (ka 23), .int 0, .ref (ka 24), .int 0, .int 0, .ref (ka 25), .int 0, .ref (ka 26), .int 0, .int 0, .int 0, .int 0, .int 0])), ((ka 13), .inl (cy 0, 4, .inl (fun _ => 0)))] := hD
    refine lv_if_eq (tgt := 28) hx hb dX11_traffic_8 (by decide) (fun _ => ?_) (fun c => absurd (by decide) c)
    refine lv_iconst (v := 0) hx hb dX11_traffic_28 (by decide) ?_
    refine cjx_v (wr := [((ka 5), .inr (6, [.int 0, .int 0, .ref (ka 21), .ref (ka 22), .int 0, .int 0, .ref (ka 23), .int 0, .ref (ka 24), .int 0, .int 0, .ref (ka 25), .int 0, .ref (ka 26), .int 0, .int 0, .int 0, .int 0, .int 0]))]) (vx_runV (As := [.int 0]) (rest := []) ⟨hx, hb, hml, hown, hts⟩ (c_needArgument0 l hl D cy sa ko ka H.size) (cwV 1 hts gg_2 rfl rfl rfl (by decide +kernel) ⟨Nat.le_of_ble_eq_true rfl, Nat.le_of_ble_eq_true rfl⟩) ⟨pcW.blind, (va_recv hG.1 hP (ci := 11) (q0 := 0) rfl rfl), (pcW.mk hP hD hS hA hG hT [0, 2] rfl (by decide))⟩ rfl rfl hlv.1 rfl (lv_room (Nat.le_of_ble_eq_true rfl)) dX11_traffic_29 ⟨Nat.le_of_ble_eq_true rfl, Nat.le_of_ble_eq_true rfl⟩) hP hD hS hA [0, 2] [1] rfl rfl (by decide) (by decide) (fun E ce q9 H locs hp hP hD hS h1 h2 h3 => ?_) (fun u4 H locs hw4 hP hD hS => ?_)
    · obtain ⟨rfl, hg4⟩ := hp
      exact vx_out (fun x h => (hex x h).elim) hlocks h1 h2 h3 (fun t ht hvm => ⟨(), trivial, (by exact ⟨rfl, trivial⟩), hS.F ht⟩) hS.2.2 (Nat.le_of_ble_eq_true rfl) (Nat.le_of_ble_eq_true rfl)
    · exact (hw4).elim
