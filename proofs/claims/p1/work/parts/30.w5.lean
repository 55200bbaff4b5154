theorem dL_dip_0 : decode cL_dip 0 = .ok (.aload 4, 2) := by decide +kernel
theorem dL_dip_10 : decode cL_dip 10 = .ok (.i2l, 1) := by decide +kernel
theorem dL_dip_11 : decode cL_dip 11 = .ok (.lastore, 1) := by decide +kernel
theorem dL_dip_12 : decode cL_dip 12 = .ok (.goto 7, 3) := by decide +kernel
theorem dL_dip_15 : decode cL_dip 15 = .ok (.astore 5, 2) := by decide +kernel
theorem dL_dip_17 : decode cL_dip 17 = .ok (.iconst 1, 1) := by decide +kernel
theorem dL_dip_18 : decode cL_dip 18 = .ok (.ireturn, 1) := by decide +kernel
theorem dL_dip_19 : decode cL_dip 19 = .ok (.iconst 0, 1) := by decide +kernel
theorem dL_dip_2 : decode cL_dip 2 = .ok (.iconst 0, 1) := by decide +kernel
theorem dL_dip_20 : decode cL_dip 20 = .ok (.ireturn, 1) := by decide +kernel
theorem dL_dip_3 : decode cL_dip 3 = .ok (.aload_n 0, 1) := by decide +kernel
theorem dL_dip_4 : decode cL_dip 4 = .ok (.iload_n 1, 1) := by decide +kernel
theorem dL_dip_5 : decode cL_dip 5 = .ok (.iload_n 2, 1) := by decide +kernel
theorem dL_dip_6 : decode cL_dip 6 = .ok (.iload_n 3, 1) := by decide +kernel
theorem dL_dip_7 : decode cL_dip 7 = .ok (.invokevirtual 105, 3) := by decide +kernel
theorem dL_ice_0 : decode cL_ice 0 = .ok (.aload_n 3, 1) := by decide +kernel
theorem dL_ice_1 : decode cL_ice 1 = .ok (.iconst 0, 1) := by decide +kernel
theorem dL_ice_10 : decode cL_ice 10 = .ok (.goto 7, 3) := by decide +kernel
theorem dL_ice_13 : decode cL_ice 13 = .ok (.astore 4, 2) := by decide +kernel
theorem dL_ice_15 : decode cL_ice 15 = .ok (.iconst 1, 1) := by decide +kernel
theorem dL_ice_16 : decode cL_ice 16 = .ok (.ireturn, 1) := by decide +kernel
theorem dL_ice_17 : decode cL_ice 17 = .ok (.iconst 0, 1) := by decide +kernel
theorem dL_ice_18 : decode cL_ice 18 = .ok (.ireturn, 1) := by decide +kernel
theorem dL_ice_2 : decode cL_ice 2 = .ok (.aload_n 0, 1) := by decide +kernel
theorem dL_ice_3 : decode cL_ice 3 = .ok (.iload_n 1, 1) := by decide +kernel
theorem dL_ice_4 : decode cL_ice 4 = .ok (.iload_n 2, 1) := by decide +kernel
theorem dL_ice_5 : decode cL_ice 5 = .ok (.invokevirtual 114, 3) := by decide +kernel
theorem dL_ice_8 : decode cL_ice 8 = .ok (.i2l, 1) := by decide +kernel
theorem dL_ice_9 : decode cL_ice 9 = .ok (.lastore, 1) := by decide +kernel
theorem dL_sweep_0 : decode cL_sweep 0 = .ok (.aload_n 2, 1) := by decide +kernel
theorem dL_sweep_1 : decode cL_sweep 1 = .ok (.iconst 0, 1) := by decide +kernel
theorem dL_sweep_12 : decode cL_sweep 12 = .ok (.astore_n 3, 1) := by decide +kernel
theorem dL_sweep_13 : decode cL_sweep 13 = .ok (.iconst 1, 1) := by decide +kernel
theorem dL_sweep_14 : decode cL_sweep 14 = .ok (.ireturn, 1) := by decide +kernel
theorem dL_sweep_15 : decode cL_sweep 15 = .ok (.iconst 0, 1) := by decide +kernel
theorem dL_sweep_16 : decode cL_sweep 16 = .ok (.ireturn, 1) := by decide +kernel
theorem dL_sweep_2 : decode cL_sweep 2 = .ok (.aload_n 0, 1) := by decide +kernel
theorem dL_sweep_3 : decode cL_sweep 3 = .ok (.iload_n 1, 1) := by decide +kernel
theorem dL_sweep_4 : decode cL_sweep 4 = .ok (.invokevirtual 111, 3) := by decide +kernel
theorem dL_sweep_7 : decode cL_sweep 7 = .ok (.i2l, 1) := by decide +kernel
theorem dL_sweep_8 : decode cL_sweep 8 = .ok (.lastore, 1) := by decide +kernel
theorem dL_sweep_9 : decode cL_sweep 9 = .ok (.goto 6, 3) := by decide +kernel
theorem dL_town_0 : decode cL_town 0 = .ok (.aload_n 2, 1) := by decide +kernel
theorem dL_town_1 : decode cL_town 1 = .ok (.iconst 0, 1) := by decide +kernel
theorem dL_town_12 : decode cL_town 12 = .ok (.astore_n 3, 1) := by decide +kernel
theorem dL_town_13 : decode cL_town 13 = .ok (.iconst 1, 1) := by decide +kernel
theorem dL_town_14 : decode cL_town 14 = .ok (.ireturn, 1) := by decide +kernel
theorem dL_town_15 : decode cL_town 15 = .ok (.iconst 0, 1) := by decide +kernel
theorem dL_town_16 : decode cL_town 16 = .ok (.ireturn, 1) := by decide +kernel
theorem dL_town_2 : decode cL_town 2 = .ok (.aload_n 0, 1) := by decide +kernel
theorem dL_town_3 : decode cL_town 3 = .ok (.iload_n 1, 1) := by decide +kernel
theorem dL_town_4 : decode cL_town 4 = .ok (.invokevirtual 108, 3) := by decide +kernel
theorem dL_town_7 : decode cL_town 7 = .ok (.i2l, 1) := by decide +kernel
theorem dL_town_8 : decode cL_town 8 = .ok (.lastore, 1) := by decide +kernel
theorem dL_town_9 : decode cL_town 9 = .ok (.goto 6, 3) := by decide +kernel
def vs_w_dip : List Cond := .codeWith yL_dip cL_dip 6 (some .int) [(0, 12, 15, 13)] :: (([.classLink RL 13 "java/lang/IllegalArgumentException"] : List Cond) ++ ((wsV RL 105 RX11 yX11_dip vs_c_dip) ++ ([])))
set_option maxHeartbeats 4000000 in
set_option maxRecDepth 100000 in
theorem w_dip (l : Launch) (hl : l.stackTraces = false) (D : va_G) (cy : Nat → ClassId) (sa : Nat → Nat) (ko : Nat) (ka : Nat → Nat) (p0 p1 p2 : Int32) (ao : Nat) (sz : Nat) : Met l yL_dip vs_w_dip ({ frames := 8, cells := 1, slots := 6, locals := 144 }) (va_Pc [.ref ko, .int p0, .int p1, .int p2, .ref ao] (pcW D cy sa sz [(ko, .inr (11, [.ref (ka 0), .ref (ka 1), .ref (ka 2), .int 0, .int 0, .ref (ka 5), .ref (ka 6), .ref (ka 7), .ref (ka 8), .ref (ka 9), .int 0, .ref (ka 11), .ref (ka 12), .ref (ka 13)])), ((ka 7), .inr (4, [.int 0, .ref (ka 41), .int 0, .ref (ka 42), .ref (ka 43)])), ((ka 42), .inl (cy 0, 27, .inl (fun _ => 0))), ((ka 13), .inl (cy 0, 4, .inl (fun _ => 0))), (ao, .inl (cy 2, 1, .inr (.inl (fun _ => 0))))])) (va_Qi (fun (r : Int32) (u : SU) => (((1 ≤ p0 ∧ p0 ≤ 99) ∧ (1 ≤ p1 ∧ p1 ≤ 30) ∧ (1 ≤ p2 ∧ p2 ≤ 99)) ∧ r = 0 ∧ (u.2.1 0) = 1) ∨ ((¬ ((1 ≤ p0 ∧ p0 ≤ 99) ∧ (1 ≤ p1 ∧ p1 ≤ 30) ∧ (1 ≤ p2 ∧ p2 ≤ 99))) ∧ r = 1)) (fun u t => atW D (va_A [(ko, .inr (11, [.ref (ka 0), .ref (ka 1), .ref (ka 2), .int 0, .int 0, .ref (ka 5), .ref (ka 6), .ref (ka 7), .ref (ka 8), .ref (ka 9), .int 0, .ref (ka 11), .ref (ka 12), .ref (ka 13)])), ((ka 7), .inr (4, [.int 0, .ref (ka 41), .int 0, .ref (ka 42), .ref (ka 43)])), ((ka 42), .inl (cy 0, 27, .inl (fun _ => 0))), ((ka 13), .inl (cy 0, 4, .inl (fun _ => 0))), (ao, .inl (cy 2, 1, .inr (.inl (fun _ => 0))))] sz) [(ao, .inl (cy 2, 1, .inr (.inl (fun _ => (u.2.1 0 : Int32).toInt64))))] t) (va_A [(ko, .inr (11, [.ref (ka 0), .ref (ka 1), .ref (ka 2), .int 0, .int 0, .ref (ka 5), .ref (ka 6), .ref (ka 7), .ref (ka 8), .ref (ka 9), .int 0, .ref (ka 11), .ref (ka 12), .ref (ka 13)])), ((ka 7), .inr (4, [.int 0, .ref (ka 41), .int 0, .ref (ka 42), .ref (ka 43)])), ((ka 42), .inl (cy 0, 27, .inl (fun _ => 0))), ((ka 13), .inl (cy 0, 4, .inl (fun _ => 0))), (ao, .inl (cy 2, 1, .inr (.inl (fun _ => 0))))] sz)) 1 6 (va_A [(ko, .inr (11, [.ref (ka 0), .ref (ka 1), .ref (ka 2), .int 0, .int 0, .ref (ka 5), .ref (ka 6), .ref (ka 7), .ref (ka 8), .ref (ka 9), .int 0, .ref (ka 11), .ref (ka 12), .ref (ka 13)])), ((ka 7), .inr (4, [.int 0, .ref (ka 41), .int 0, .ref (ka 42), .ref (ka 43)])), ((ka 42), .inl (cy 0, 27, .inl (fun _ => 0))), ((ka 13), .inl (cy 0, 4, .inl (fun _ => 0))), (ao, .inl (cy 2, 1, .inr (.inl (fun _ => 0))))] sz) := by
  refine va_MetW (cc := cL_dip) (maxL := 6) (ret := (some .int)) (by decide) rfl ?_
  intro p e s m args below meth c s₁ B hml hv
  obtain ⟨rfl, hsz, hP, hG, hD0, hT⟩ := hv
  have hx := B.exec
  have hb := B.bytes
  have hr := B.returns
  have hts := atoms_spec (ws := vs_w_dip) B.pre
  have hown : s.vm.findClass RL = some m.cls := findClass_of_methodNamed B.named
  have hlocks := B.notSynchronized
  subst hsz
  have hD := hD0.self (sz := s.heap.size)
  generalize hAe : va_A [(ko, .inr (11, [.ref (ka 0), .ref (ka 1), .ref (ka 2), .int 0, .int 0, .ref (ka 5), .ref (ka 6), .ref (ka 7), .ref (ka 8), .ref (ka 9), .int 0, .ref (ka 11), .ref (ka 12), .ref (ka 13)])), ((ka 7), .inr (4, [.int 0, .ref (ka 41), .int 0, .ref (ka 42), .ref (ka 43)])), ((ka 42), .inl (cy 0, 27, .inl (fun _ => 0))), ((ka 13), .inl (cy 0, 4, .inl (fun _ => 0))), (ao, .inl (cy 2, 1, .inr (.inl (fun _ => 0))))] s.heap.size = A at hD hT ⊢
  have hA : ∀ q : Nat, s.heap.size ≤ q → A q := fun q h => by rw [← hAe]; exact Or.inr h
  have hS : va_S A s.heap s.heap [] := va_S.rf
  have hl0 := lv_entry ([.ref ko, .int p0, .int p1, .int p2, .ref ao]) (n := 6) (Nat.le_of_ble_eq_true rfl)
  rw [lg_entry_eq]
  generalize (lg_sl ([.ref ko, .int p0, .int p1, .int p2, .ref ao]) ++ List.replicate (6 - (lg_sl ([.ref ko, .int p0, .int p1, .int p2, .ref ao])).length) Slot.unset).toArray = ls at hl0 ⊢
  have hlv : lv_has ls 6 [(0, .ref ko), (1, .int p0), (2, .int p1), (3, .int p2), (4, .ref ao)] := hl0
  have gg_0 : GoodIn vs_w_dip (wsV RL 105 RX11 yX11_dip vs_c_dip) := goodIn_sub (fun w h => List.mem_cons_of_mem _ (List.mem_append_right _ (List.mem_append_left _ h))) (by decide +kernel)
  have xc13 := hts (.classLink RL 13 "java/lang/IllegalArgumentException") (List.mem_of_getElem? (i := 1) rfl)
  have htab : c.exceptionTable.toList = [(⟨0, 12, 15, 13⟩ : ExceptionTableEntry)] := vx_table (x := yL_dip) B (hts (.codeWith yL_dip cL_dip 6 (some .int) [(0, 12, 15, 13)]) List.mem_cons_self)
  refine lv_aload hx hb dL_dip_0 (lv_at hlv 4 rfl) ?_
  refine lv_iconst (v := 0) hx hb dL_dip_2 (by decide) ?_
  refine lv_aload_n hx hb dL_dip_3 rfl (lv_at hlv 0 rfl) ?_
  refine lv_iload_n hx hb dL_dip_4 rfl (lv_at hlv 1 rfl) ?_
  refine lv_iload_n hx hb dL_dip_5 rfl (lv_at hlv 2 rfl) ?_
  refine lv_iload_n hx hb dL_dip_6 rfl (lv_at hlv 3 rfl) ?_
  refine cjx_i (wr := [(ao, .inl (cy 2, 1, .inr (.inl (fun _ => 0))))]) (vx_runV (As := [.int p0, .int p1, .int p2]) (rest := [.int 0, .ref ao]) ⟨hx, hb, hml, hown, hts⟩ (c_dip l hl D cy sa ko ka p0 p1 p2 s.heap.size) (cwV 3 hts gg_0 rfl rfl rfl (by decide +kernel) ⟨Nat.le_of_ble_eq_true rfl, Nat.le_of_ble_eq_true rfl⟩) ⟨pcW.blind, (va_recv hG.1 hP (ci := 11) (q0 := 0) rfl rfl), (pcW.mk hP hD hS hA hG hT [0, 1, 2, 3] rfl (by decide))⟩ rfl rfl hlv.1 rfl (lv_room (Nat.le_of_ble_eq_true rfl)) dL_dip_7 ⟨Nat.le_of_ble_eq_true rfl, Nat.le_of_ble_eq_true rfl⟩) hP hD hS hA [0, 1, 2, 3] [4] rfl rfl (by decide) (by decide) (fun E ce q9 H locs hp hP hD hS h1 h2 h3 => ?_) (fun r1 u1 H locs hw1 hP hD hS => ?_)
  · obtain ⟨rfl, hg1⟩ := hp
    refine vx_catch (name := "java/lang/IllegalArgumentException") hown [] (⟨0, 12, 15, 13⟩ : ExceptionTableEntry) [] htab (fun z hz => by simp at hz) (by decide) (by decide) xc13 (va_Nw.use rfl (hG.2.2.2.1 _ (List.mem_of_getElem? (i := 2) rfl))) h1 h2 h3 ?_
    refine lv_astore (lv' := [(5, .ref q9), (0, .ref ko), (1, .int p0), (2, .int p1), (3, .int p2), (4, .ref ao)]) hx hb dL_dip_15 hlv (by decide) rfl (fun ls hlv => ?_)
    refine lv_iconst (v := 1) hx hb dL_dip_17 (by decide) ?_
    obtain ⟨hP, hD⟩ := arl 0 (fun _ => (0 : Int32).toInt64) hP hD rfl arl_0
    have hP : va_P D vwCl [(ao, .inl (cy 2, 1, .inr (.inl (fun _ => (0 : Int32).toInt64))))] H := hP
    have hD : va_D A [(ao, .inl (cy 2, 1, .inr (.inl (fun _ => (0 : Int32).toInt64))))] := hD
    refine W.widen (k := 1) (n := 6) (Nat.le_of_ble_eq_true rfl) (Nat.le_of_ble_eq_true rfl) ?_
    exact W.iret (v := 1) hx hb hr (fun t ht hW => ⟨⟨1, ((fun k => ([] : List Nat).getD k 0), (fun k => ([0] : List Int32).getD k 0), (fun k => ([] : List (Nat → Int32)).getD k (fun _ => 0))), rfl, (by first | (right; exact ⟨hg1, by rfl⟩)), by rw [ht]; exact hP.sub [0] rfl, hD.sub [0] (by decide) rfl⟩, hS.F ht⟩) hS.2.2 dL_dip_18
  · obtain ⟨hg1, rfl⟩ := hw1
    have hP : va_P D vwCl [(ao, .inl (cy 2, 1, .inr (.inl (fun _ => 0))))] H := hP
    have hD : va_D A [(ao, .inl (cy 2, 1, .inr (.inl (fun _ => 0))))] := hD
    refine lv_i2l (v := (1 : Int32).toInt64) hx hb dL_dip_10 rfl ?_
    refine va_last hx hb hG.1 hP hD hS 0 2 rfl rfl (vpd (by decide)) dL_dip_11 (fun H locs hP hD hS => ?_)
    have hP : va_P D vwCl [(ao, .inl (cy 2, 1, .inr (.inl (vp_updL (fun _ => 0) 0 (1 : Int32).toInt64))))] H := hP
    have hD : va_D A [(ao, .inl (cy 2, 1, .inr (.inl (vp_updL (fun _ => 0) 0 (1 : Int32).toInt64))))] := hD
    refine lv_goto (tgt := 19) hx hb dL_dip_12 (by decide) ?_
    refine lv_iconst (v := 0) hx hb dL_dip_19 (by decide) ?_
    obtain ⟨hP, hD⟩ := arl 0 (fun _ => (1 : Int32).toInt64) hP hD rfl arl_1
    have hP : va_P D vwCl [(ao, .inl (cy 2, 1, .inr (.inl (fun _ => (1 : Int32).toInt64))))] H := hP
    have hD : va_D A [(ao, .inl (cy 2, 1, .inr (.inl (fun _ => (1 : Int32).toInt64))))] := hD
    refine W.widen (k := 1) (n := 6) (Nat.le_of_ble_eq_true rfl) (Nat.le_of_ble_eq_true rfl) ?_
    exact W.iret (v := 0) hx hb hr (fun t ht hW => ⟨⟨0, ((fun k => ([] : List Nat).getD k 0), (fun k => ([1] : List Int32).getD k 0), (fun k => ([] : List (Nat → Int32)).getD k (fun _ => 0))), rfl, (by first | (left; exact ⟨⟨hg1.1, hg1.2.1, hg1.2.2⟩, by rfl, by rfl⟩)), by rw [ht]; exact hP.sub [0] rfl, hD.sub [0] (by decide) rfl⟩, hS.F ht⟩) hS.2.2 dL_dip_20
def vs_w_town : List Cond := .codeWith yL_town cL_town 4 (some .int) [(0, 9, 12, 13)] :: (([.classLink RL 13 "java/lang/IllegalArgumentException"] : List Cond) ++ ((wsV RL 108 RX11 yX11_town vs_c_town) ++ ([])))
set_option maxHeartbeats 4000000 in
set_option maxRecDepth 100000 in
theorem w_town (l : Launch) (hl : l.stackTraces = false) (D : va_G) (cy : Nat → ClassId) (sa : Nat → Nat) (ko : Nat) (ka : Nat → Nat) (p0 : Int32) (ao : Nat) (sz : Nat) : Met l yL_town vs_w_town ({ frames := 8, cells := 1, slots := 6, locals := 142 }) (va_Pc [.ref ko, .int p0, .ref ao] (pcW D cy sa sz [(ko, .inr (11, [.ref (ka 0), .ref (ka 1), .ref (ka 2), .int 0, .int 0, .ref (ka 5), .ref (ka 6), .ref (ka 7), .ref (ka 8), .ref (ka 9), .int 0, .ref (ka 11), .ref (ka 12), .ref (ka 13)])), ((ka 7), .inr (4, [.int 0, .ref (ka 41), .int 0, .ref (ka 42), .ref (ka 43)])), ((ka 13), .inl (cy 0, 4, .inl (fun _ => 0))), (ao, .inl (cy 2, 1, .inr (.inl (fun _ => 0))))])) (va_Qi (fun (r : Int32) (u : SU) => (((0 ≤ p0 ∧ p0 ≤ 2)) ∧ r = 0 ∧ (u.2.1 0) = (-1)) ∨ ((¬ (0 ≤ p0 ∧ p0 ≤ 2)) ∧ r = 1)) (fun u t => atW D (va_A [(ko, .inr (11, [.ref (ka 0), .ref (ka 1), .ref (ka 2), .int 0, .int 0, .ref (ka 5), .ref (ka 6), .ref (ka 7), .ref (ka 8), .ref (ka 9), .int 0, .ref (ka 11), .ref (ka 12), .ref (ka 13)])), ((ka 7), .inr (4, [.int 0, .ref (ka 41), .int 0, .ref (ka 42), .ref (ka 43)])), ((ka 13), .inl (cy 0, 4, .inl (fun _ => 0))), (ao, .inl (cy 2, 1, .inr (.inl (fun _ => 0))))] sz) [(ao, .inl (cy 2, 1, .inr (.inl (fun _ => (u.2.1 0 : Int32).toInt64))))] t) (va_A [(ko, .inr (11, [.ref (ka 0), .ref (ka 1), .ref (ka 2), .int 0, .int 0, .ref (ka 5), .ref (ka 6), .ref (ka 7), .ref (ka 8), .ref (ka 9), .int 0, .ref (ka 11), .ref (ka 12), .ref (ka 13)])), ((ka 7), .inr (4, [.int 0, .ref (ka 41), .int 0, .ref (ka 42), .ref (ka 43)])), ((ka 13), .inl (cy 0, 4, .inl (fun _ => 0))), (ao, .inl (cy 2, 1, .inr (.inl (fun _ => 0))))] sz)) 1 6 (va_A [(ko, .inr (11, [.ref (ka 0), .ref (ka 1), .ref (ka 2), .int 0, .int 0, .ref (ka 5), .ref (ka 6), .ref (ka 7), .ref (ka 8), .ref (ka 9), .int 0, .ref (ka 11), .ref (ka 12), .ref (ka 13)])), ((ka 7), .inr (4, [.int 0, .ref (ka 41), .int 0, .ref (ka 42), .ref (ka 43)])), ((ka 13), .inl (cy 0, 4, .inl (fun _ => 0))), (ao, .inl (cy 2, 1, .inr (.inl (fun _ => 0))))] sz) := by
  refine va_MetW (cc := cL_town) (maxL := 4) (ret := (some .int)) (by decide) rfl ?_
  intro p e s m args below meth c s₁ B hml hv
  obtain ⟨rfl, hsz, hP, hG, hD0, hT⟩ := hv
  have hx := B.exec
  have hb := B.bytes
  have hr := B.returns
  have hts := atoms_spec (ws := vs_w_town) B.pre
  have hown : s.vm.findClass RL = some m.cls := findClass_of_methodNamed B.named
  have hlocks := B.notSynchronized
  subst hsz
  have hD := hD0.self (sz := s.heap.size)
  generalize hAe : va_A [(ko, .inr (11, [.ref (ka 0), .ref (ka 1), .ref (ka 2), .int 0, .int 0, .ref (ka 5), .ref (ka 6), .ref (ka 7), .ref (ka 8), .ref (ka 9), .int 0, .ref (ka 11), .ref (ka 12), .ref (ka 13)])), ((ka 7), .inr (4, [.int 0, .ref (ka 41), .int 0, .ref (ka 42), .ref (ka 43)])), ((ka 13), .inl (cy 0, 4, .inl (fun _ => 0))), (ao, .inl (cy 2, 1, .inr (.inl (fun _ => 0))))] s.heap.size = A at hD hT ⊢
  have hA : ∀ q : Nat, s.heap.size ≤ q → A q := fun q h => by rw [← hAe]; exact Or.inr h
  have hS : va_S A s.heap s.heap [] := va_S.rf
  have hl0 := lv_entry ([.ref ko, .int p0, .ref ao]) (n := 4) (Nat.le_of_ble_eq_true rfl)
  rw [lg_entry_eq]
  generalize (lg_sl ([.ref ko, .int p0, .ref ao]) ++ List.replicate (4 - (lg_sl ([.ref ko, .int p0, .ref ao])).length) Slot.unset).toArray = ls at hl0 ⊢
  have hlv : lv_has ls 4 [(0, .ref ko), (1, .int p0), (2, .ref ao)] := hl0
  have gg_0 : GoodIn vs_w_town (wsV RL 108 RX11 yX11_town vs_c_town) := goodIn_sub (fun w h => List.mem_cons_of_mem _ (List.mem_append_right _ (List.mem_append_left _ h))) (by decide +kernel)
  have xc13 := hts (.classLink RL 13 "java/lang/IllegalArgumentException") (List.mem_of_getElem? (i := 1) rfl)
  have htab : c.exceptionTable.toList = [(⟨0, 9, 12, 13⟩ : ExceptionTableEntry)] := vx_table (x := yL_town) B (hts (.codeWith yL_town cL_town 4 (some .int) [(0, 9, 12, 13)]) List.mem_cons_self)
  refine lv_aload_n hx hb dL_town_0 rfl (lv_at hlv 2 rfl) ?_
  refine lv_iconst (v := 0) hx hb dL_town_1 (by decide) ?_
  refine lv_aload_n hx hb dL_town_2 rfl (lv_at hlv 0 rfl) ?_
  refine lv_iload_n hx hb dL_town_3 rfl (lv_at hlv 1 rfl) ?_
  refine cjx_i (wr := [(ao, .inl (cy 2, 1, .inr (.inl (fun _ => 0))))]) (vx_runV (As := [.int p0]) (rest := [.int 0, .ref ao]) ⟨hx, hb, hml, hown, hts⟩ (c_town l hl D cy sa ko ka p0 s.heap.size) (cwV 1 hts gg_0 rfl rfl rfl (by decide +kernel) ⟨Nat.le_of_ble_eq_true rfl, Nat.le_of_ble_eq_true rfl⟩) ⟨pcW.blind, (va_recv hG.1 hP (ci := 11) (q0 := 0) rfl rfl), (pcW.mk hP hD hS hA hG hT [0, 1, 2] rfl (by decide))⟩ rfl rfl hlv.1 rfl (lv_room (Nat.le_of_ble_eq_true rfl)) dL_town_4 ⟨Nat.le_of_ble_eq_true rfl, Nat.le_of_ble_eq_true rfl⟩) hP hD hS hA [0, 1, 2] [3] rfl rfl (by decide) (by decide) (fun E ce q9 H locs hp hP hD hS h1 h2 h3 => ?_) (fun r1 u1 H locs hw1 hP hD hS => ?_)
  · obtain ⟨rfl, hg1⟩ := hp
    refine vx_catch (name := "java/lang/IllegalArgumentException") hown [] (⟨0, 9, 12, 13⟩ : ExceptionTableEntry) [] htab (fun z hz => by simp at hz) (by decide) (by decide) xc13 (va_Nw.use rfl (hG.2.2.2.1 _ (List.mem_of_getElem? (i := 2) rfl))) h1 h2 h3 ?_
    refine lv_astore_n (lv' := [(3, .ref q9), (0, .ref ko), (1, .int p0), (2, .ref ao)]) hx hb dL_town_12 rfl hlv (by decide) rfl (fun ls hlv => ?_)
    refine lv_iconst (v := 1) hx hb dL_town_13 (by decide) ?_
    obtain ⟨hP, hD⟩ := arl 0 (fun _ => (0 : Int32).toInt64) hP hD rfl arl_0
    have hP : va_P D vwCl [(ao, .inl (cy 2, 1, .inr (.inl (fun _ => (0 : Int32).toInt64))))] H := hP
    have hD : va_D A [(ao, .inl (cy 2, 1, .inr (.inl (fun _ => (0 : Int32).toInt64))))] := hD
    refine W.widen (k := 1) (n := 6) (Nat.le_of_ble_eq_true rfl) (Nat.le_of_ble_eq_true rfl) ?_
    exact W.iret (v := 1) hx hb hr (fun t ht hW => ⟨⟨1, ((fun k => ([] : List Nat).getD k 0), (fun k => ([0] : List Int32).getD k 0), (fun k => ([] : List (Nat → Int32)).getD k (fun _ => 0))), rfl, (by first | (right; exact ⟨hg1, by rfl⟩)), by rw [ht]; exact hP.sub [0] rfl, hD.sub [0] (by decide) rfl⟩, hS.F ht⟩) hS.2.2 dL_town_14
  · obtain ⟨hg1, rfl⟩ := hw1
    have hP : va_P D vwCl [(ao, .inl (cy 2, 1, .inr (.inl (fun _ => 0))))] H := hP
    have hD : va_D A [(ao, .inl (cy 2, 1, .inr (.inl (fun _ => 0))))] := hD
    refine lv_i2l (v := ((-1) : Int32).toInt64) hx hb dL_town_7 rfl ?_
    refine va_last hx hb hG.1 hP hD hS 0 2 rfl rfl (vpd (by decide)) dL_town_8 (fun H locs hP hD hS => ?_)
    have hP : va_P D vwCl [(ao, .inl (cy 2, 1, .inr (.inl (vp_updL (fun _ => 0) 0 ((-1) : Int32).toInt64))))] H := hP
    have hD : va_D A [(ao, .inl (cy 2, 1, .inr (.inl (vp_updL (fun _ => 0) 0 ((-1) : Int32).toInt64))))] := hD
    refine lv_goto (tgt := 15) hx hb dL_town_9 (by decide) ?_
    refine lv_iconst (v := 0) hx hb dL_town_15 (by decide) ?_
    obtain ⟨hP, hD⟩ := arl 0 (fun _ => ((-1) : Int32).toInt64) hP hD rfl arl_1
    have hP : va_P D vwCl [(ao, .inl (cy 2, 1, .inr (.inl (fun _ => ((-1) : Int32).toInt64))))] H := hP
    have hD : va_D A [(ao, .inl (cy 2, 1, .inr (.inl (fun _ => ((-1) : Int32).toInt64))))] := hD
    refine W.widen (k := 1) (n := 6) (Nat.le_of_ble_eq_true rfl) (Nat.le_of_ble_eq_true rfl) ?_
    exact W.iret (v := 0) hx hb hr (fun t ht hW => ⟨⟨0, ((fun k => ([] : List Nat).getD k 0), (fun k => ([(-1)] : List Int32).getD k 0), (fun k => ([] : List (Nat → Int32)).getD k (fun _ => 0))), rfl, (by first | (left; exact ⟨hg1, by rfl, by rfl⟩)), by rw [ht]; exact hP.sub [0] rfl, hD.sub [0] (by decide) rfl⟩, hS.F ht⟩) hS.2.2 dL_town_16
def vs_w_sweep : List Cond := .codeWith yL_sweep cL_sweep 4 (some .int) [(0, 9, 12, 13)] :: (([.classLink RL 13 "java/lang/IllegalArgumentException"] : List Cond) ++ ((wsV RL 111 RX11 yX11_sweep vs_c_sweep) ++ ([])))
set_option maxHeartbeats 4000000 in
set_option maxRecDepth 100000 in
theorem w_sweep (l : Launch) (hl : l.stackTraces = false) (D : va_G) (cy : Nat → ClassId) (sa : Nat → Nat) (ko : Nat) (ka : Nat → Nat) (p0 : Int32) (ao : Nat) (sz : Nat) : Met l yL_sweep vs_w_sweep ({ frames := 8, cells := 1, slots := 6, locals := 142 }) (va_Pc [.ref ko, .int p0, .ref ao] (pcW D cy sa sz [(ko, .inr (11, [.ref (ka 0), .ref (ka 1), .ref (ka 2), .int 0, .int 0, .ref (ka 5), .ref (ka 6), .ref (ka 7), .ref (ka 8), .ref (ka 9), .int 0, .ref (ka 11), .ref (ka 12), .ref (ka 13)])), ((ka 12), .inr (3, [.int 0, .int 0, .int 0, .ref (ka 80)])), ((ka 5), .inr (6, [.int 0, .int 0, .ref (ka 21), .ref (ka 22), .int 0, .int 0, .ref (ka 23), .int 0, .ref (ka 24), .int 0, .int 0, .ref (ka 25), .int 0, .ref (ka 26), .int 0, .int 0, .int 0, .int 0, .int 0])), ((ka 13), .inl (cy 0, 4, .inl (fun _ => 0))), (ao, .inl (cy 2, 1, .inr (.inl (fun _ => 0))))])) (va_Qi (fun (r : Int32) (u : SU) => (((0 ≤ p0 ∧ p0 ≤ 1)) ∧ r = 0 ∧ (u.2.1 0) = 0) ∨ ((¬ (0 ≤ p0 ∧ p0 ≤ 1)) ∧ r = 1)) (fun u t => atW D (va_A [(ko, .inr (11, [.ref (ka 0), .ref (ka 1), .ref (ka 2), .int 0, .int 0, .ref (ka 5), .ref (ka 6), .ref (ka 7), .ref (ka 8), .ref (ka 9), .int 0, .ref (ka 11), .ref (ka 12), .ref (ka 13)])), ((ka 12), .inr (3, [.int 0, .int 0, .int 0, .ref (ka 80)])), ((ka 5), .inr (6, [.int 0, .int 0, .ref (ka 21), .ref (ka 22), .int 0, .int 0, .ref (ka 23), .int 0, .ref (ka 24), .int 0, .int 0, .ref (ka 25), .int 0, .ref (ka 26), .int 0, .int 0, .int 0, .int 0, .int 0])), ((ka 13), .inl (cy 0, 4, .inl (fun _ => 0))), (ao, .inl (cy 2, 1, .inr (.inl (fun _ => 0))))] sz) [(ao, .inl (cy 2, 1, .inr (.inl (fun _ => (u.2.1 0 : Int32).toInt64))))] t) (va_A [(ko, .inr (11, [.ref (ka 0), .ref (ka 1), .ref (ka 2), .int 0, .int 0, .ref (ka 5), .ref (ka 6), .ref (ka 7), .ref (ka 8), .ref (ka 9), .int 0, .ref (ka 11), .ref (ka 12), .ref (ka 13)])), ((ka 12), .inr (3, [.int 0, .int 0, .int 0, .ref (ka 80)])), ((ka 5), .inr (6, [.int 0, .int 0, .ref (ka 21), .ref (ka 22), .int 0, .int 0, .ref (ka 23), .int 0, .ref (ka 24), .int 0, .int 0, .ref (ka 25), .int 0, .ref (ka 26), .int 0, .int 0, .int 0, .int 0, .int 0])), ((ka 13), .inl (cy 0, 4, .inl (fun _ => 0))), (ao, .inl (cy 2, 1, .inr (.inl (fun _ => 0))))] sz)) 1 6 (va_A [(ko, .inr (11, [.ref (ka 0), .ref (ka 1), .ref (ka 2), .int 0, .int 0, .ref (ka 5), .ref (ka 6), .ref (ka 7), .ref (ka 8), .ref (ka 9), .int 0, .ref (ka 11), .ref (ka 12), .ref (ka 13)])), ((ka 12), .inr (3, [.int 0, .int 0, .int 0, .ref (ka 80)])), ((ka 5), .inr (6, [.int 0, .int 0, .ref (ka 21), .ref (ka 22), .int 0, .int 0, .ref (ka 23), .int 0, .ref (ka 24), .int 0, .int 0, .ref (ka 25), .int 0, .ref (ka 26), .int 0, .int 0, .int 0, .int 0, .int 0])), ((ka 13), .inl (cy 0, 4, .inl (fun _ => 0))), (ao, .inl (cy 2, 1, .inr (.inl (fun _ => 0))))] sz) := by
  refine va_MetW (cc := cL_sweep) (maxL := 4) (ret := (some .int)) (by decide) rfl ?_
  intro p e s m args below meth c s₁ B hml hv
  obtain ⟨rfl, hsz, hP, hG, hD0, hT⟩ := hv
  have hx := B.exec
  have hb := B.bytes
  have hr := B.returns
  have hts := atoms_spec (ws := vs_w_sweep) B.pre
  have hown : s.vm.findClass RL = some m.cls := findClass_of_methodNamed B.named
  have hlocks := B.notSynchronized
  subst hsz
  have hD := hD0.self (sz := s.heap.size)
  generalize hAe : va_A [(ko, .inr (11, [.ref (ka 0), .ref (ka 1), .ref (ka 2), .int 0, .int 0, .ref (ka 5), .ref (ka 6), .ref (ka 7), .ref (ka 8), .ref (ka 9), .int 0, .ref (ka 11), .ref (ka 12), .ref (ka 13)])), ((ka 12), .inr (3, [.int 0, .int 0, .int 0, .ref (ka 80)])), ((ka 5), .inr (6, [.int 0, .int 0, .ref (ka 21), .ref (ka 22), .int 0, .int 0, .ref (ka 23), .int 0, .ref (ka 24), .int 0, .int 0, .ref (ka 25), .int 0, .ref (ka 26), .int 0, .int 0, .int 0, .int 0, .int 0])), ((ka 13), .inl (cy 0, 4, .inl (fun _ => 0))), (ao, .inl (cy 2, 1, .inr (.inl (fun _ => 0))))] s.heap.size = A at hD hT ⊢
  have hA : ∀ q : Nat, s.heap.size ≤ q → A q := fun q h => by rw [← hAe]; exact Or.inr h
  have hS : va_S A s.heap s.heap [] := va_S.rf
  have hl0 := lv_entry ([.ref ko, .int p0, .ref ao]) (n := 4) (Nat.le_of_ble_eq_true rfl)
  rw [lg_entry_eq]
  generalize (lg_sl ([.ref ko, .int p0, .ref ao]) ++ List.replicate (4 - (lg_sl ([.ref ko, .int p0, .ref ao])).length) Slot.unset).toArray = ls at hl0 ⊢
  have hlv : lv_has ls 4 [(0, .ref ko), (1, .int p0), (2, .ref ao)] := hl0
  have gg_0 : GoodIn vs_w_sweep (wsV RL 111 RX11 yX11_sweep vs_c_sweep) := goodIn_sub (fun w h => List.mem_cons_of_mem _ (List.mem_append_right _ (List.mem_append_left _ h))) (by decide +kernel)
  have xc13 := hts (.classLink RL 13 "java/lang/IllegalArgumentException") (List.mem_of_getElem? (i := 1) rfl)
  have htab : c.exceptionTable.toList = [(⟨0, 9, 12, 13⟩ : ExceptionTableEntry)] := vx_table (x := yL_sweep) B (hts (.codeWith yL_sweep cL_sweep 4 (some .int) [(0, 9, 12, 13)]) List.mem_cons_self)
  refine lv_aload_n hx hb dL_sweep_0 rfl (lv_at hlv 2 rfl) ?_
  refine lv_iconst (v := 0) hx hb dL_sweep_1 (by decide) ?_
  refine lv_aload_n hx hb dL_sweep_2 rfl (lv_at hlv 0 rfl) ?_
  refine lv_iload_n hx hb dL_sweep_3 rfl (lv_at hlv 1 rfl) ?_
  refine cjx_i (wr := [(ao, .inl (cy 2, 1, .inr (.inl (fun _ => 0))))]) (vx_runV (As := [.int p0]) (rest := [.int 0, .ref ao]) ⟨hx, hb, hml, hown, hts⟩ (c_sweep l hl D cy sa ko ka p0 s.heap.size) (cwV 1 hts gg_0 rfl rfl rfl (by decide +kernel) ⟨Nat.le_of_ble_eq_true rfl, Nat.le_of_ble_eq_true rfl⟩) ⟨pcW.blind, (va_recv hG.1 hP (ci := 11) (q0 := 0) rfl rfl), (pcW.mk hP hD hS hA hG hT [0, 1, 2, 3] rfl (by decide))⟩ rfl rfl hlv.1 rfl (lv_room (Nat.le_of_ble_eq_true rfl)) dL_sweep_4 ⟨Nat.le_of_ble_eq_true rfl, Nat.le_of_ble_eq_true rfl⟩) hP hD hS hA [0, 1, 2, 3] [4] rfl rfl (by decide) (by decide) (fun E ce q9 H locs hp hP hD hS h1 h2 h3 => ?_) (fun r1 u1 H locs hw1 hP hD hS => ?_)
  · obtain ⟨rfl, hg1⟩ := hp
    refine vx_catch (name := "java/lang/IllegalArgumentException") hown [] (⟨0, 9, 12, 13⟩ : ExceptionTableEntry) [] htab (fun z hz => by simp at hz) (by decide) (by decide) xc13 (va_Nw.use rfl (hG.2.2.2.1 _ (List.mem_of_getElem? (i := 2) rfl))) h1 h2 h3 ?_
    refine lv_astore_n (lv' := [(3, .ref q9), (0, .ref ko), (1, .int p0), (2, .ref ao)]) hx hb dL_sweep_12 rfl hlv (by decide) rfl (fun ls hlv => ?_)
    refine lv_iconst (v := 1) hx hb dL_sweep_13 (by decide) ?_
    obtain ⟨hP, hD⟩ := arl 0 (fun _ => (0 : Int32).toInt64) hP hD rfl arl_0
    have hP : va_P D vwCl [(ao, .inl (cy 2, 1, .inr (.inl (fun _ => (0 : Int32).toInt64))))] H := hP
    have hD : va_D A [(ao, .inl (cy 2, 1, .inr (.inl (fun _ => (0 : Int32).toInt64))))] := hD
    refine W.widen (k := 1) (n := 6) (Nat.le_of_ble_eq_true rfl) (Nat.le_of_ble_eq_true rfl) ?_
    exact W.iret (v := 1) hx hb hr (fun t ht hW => ⟨⟨1, ((fun k => ([] : List Nat).getD k 0), (fun k => ([0] : List Int32).getD k 0), (fun k => ([] : List (Nat → Int32)).getD k (fun _ => 0))), rfl, (by first | (right; exact ⟨hg1, by rfl⟩)), by rw [ht]; exact hP.sub [0] rfl, hD.sub [0] (by decide) rfl⟩, hS.F ht⟩) hS.2.2 dL_sweep_14
  · obtain ⟨hg1, rfl⟩ := hw1
    have hP : va_P D vwCl [(ao, .inl (cy 2, 1, .inr (.inl (fun _ => 0))))] H := hP
    have hD : va_D A [(ao, .inl (cy 2, 1, .inr (.inl (fun _ => 0))))] := hD
    refine lv_i2l (v := (0 : Int32).toInt64) hx hb dL_sweep_7 rfl ?_
    refine va_last hx hb hG.1 hP hD hS 0 2 rfl rfl (vpd (by decide)) dL_sweep_8 (fun H locs hP hD hS => ?_)
    have hP : va_P D vwCl [(ao, .inl (cy 2, 1, .inr (.inl (vp_updL (fun _ => 0) 0 (0 : Int32).toInt64))))] H := hP
    have hD : va_D A [(ao, .inl (cy 2, 1, .inr (.inl (vp_updL (fun _ => 0) 0 (0 : Int32).toInt64))))] := hD
    refine lv_goto (tgt := 15) hx hb dL_sweep_9 (by decide) ?_
    refine lv_iconst (v := 0) hx hb dL_sweep_15 (by decide) ?_
    obtain ⟨hP, hD⟩ := arl 0 (fun _ => (0 : Int32).toInt64) hP hD rfl arl_1
    have hP : va_P D vwCl [(ao, .inl (cy 2, 1, .inr (.inl (fun _ => (0 : Int32).toInt64))))] H := hP
    have hD : va_D A [(ao, .inl (cy 2, 1, .inr (.inl (fun _ => (0 : Int32).toInt64))))] := hD
    refine W.widen (k := 1) (n := 6) (Nat.le_of_ble_eq_true rfl) (Nat.le_of_ble_eq_true rfl) ?_
    exact W.iret (v := 0) hx hb hr (fun t ht hW => ⟨⟨0, ((fun k => ([] : List Nat).getD k 0), (fun k => ([0] : List Int32).getD k 0), (fun k => ([] : List (Nat → Int32)).getD k (fun _ => 0))), rfl, (by first | (left; exact ⟨hg1, by rfl, by rfl⟩)), by rw [ht]; exact hP.sub [0] rfl, hD.sub [0] (by decide) rfl⟩, hS.F ht⟩) hS.2.2 dL_sweep_16
def vs_w_ice : List Cond := .codeWith yL_ice cL_ice 5 (some .int) [(0, 10, 13, 13)] :: (([.classLink RL 13 "java/lang/IllegalArgumentException"] : List Cond) ++ ((wsV RL 114 RX11 yX11_ice vs_c_ice) ++ ([])))
set_option maxHeartbeats 4000000 in
set_option maxRecDepth 100000 in
theorem w_ice (l : Launch) (hl : l.stackTraces = false) (D : va_G) (cy : Nat → ClassId) (sa : Nat → Nat) (ko : Nat) (ka : Nat → Nat) (p0 p1 : Int32) (ao : Nat) (sz : Nat) : Met l yL_ice vs_w_ice ({ frames := 8, cells := 1, slots := 6, locals := 143 }) (va_Pc [.ref ko, .int p0, .int p1, .ref ao] (pcW D cy sa sz [(ko, .inr (11, [.ref (ka 0), .ref (ka 1), .ref (ka 2), .int 0, .int 0, .ref (ka 5), .ref (ka 6), .ref (ka 7), .ref (ka 8), .ref (ka 9), .int 0, .ref (ka 11), .ref (ka 12), .ref (ka 13)])), ((ka 5), .inr (6, [.int 0, .int 0, .ref (ka 21), .ref (ka 22), .int 0, .int 0, .ref (ka 23), .int 0, .ref (ka 24), .int 0, .int 0, .ref (ka 25), .int 0, .ref (ka 26), .int 0, .int 0, .int 0, .int 0, .int 0])), ((ka 13), .inl (cy 0, 4, .inl (fun _ => 0))), (ao, .inl (cy 2, 1, .inr (.inl (fun _ => 0))))])) (va_Qi (fun (r : Int32) (u : SU) => (((1 ≤ p0 ∧ p0 ≤ 9999) ∧ (0 ≤ p1 ∧ p1 ≤ 2)) ∧ r = 0 ∧ (u.2.1 0) = 0) ∨ ((¬ ((1 ≤ p0 ∧ p0 ≤ 9999) ∧ (0 ≤ p1 ∧ p1 ≤ 2))) ∧ r = 1)) (fun u t => atW D (va_A [(ko, .inr (11, [.ref (ka 0), .ref (ka 1), .ref (ka 2), .int 0, .int 0, .ref (ka 5), .ref (ka 6), .ref (ka 7), .ref (ka 8), .ref (ka 9), .int 0, .ref (ka 11), .ref (ka 12), .ref (ka 13)])), ((ka 5), .inr (6, [.int 0, .int 0, .ref (ka 21), .ref (ka 22), .int 0, .int 0, .ref (ka 23), .int 0, .ref (ka 24), .int 0, .int 0, .ref (ka 25), .int 0, .ref (ka 26), .int 0, .int 0, .int 0, .int 0, .int 0])), ((ka 13), .inl (cy 0, 4, .inl (fun _ => 0))), (ao, .inl (cy 2, 1, .inr (.inl (fun _ => 0))))] sz) [(ao, .inl (cy 2, 1, .inr (.inl (fun _ => (u.2.1 0 : Int32).toInt64))))] t) (va_A [(ko, .inr (11, [.ref (ka 0), .ref (ka 1), .ref (ka 2), .int 0, .int 0, .ref (ka 5), .ref (ka 6), .ref (ka 7), .ref (ka 8), .ref (ka 9), .int 0, .ref (ka 11), .ref (ka 12), .ref (ka 13)])), ((ka 5), .inr (6, [.int 0, .int 0, .ref (ka 21), .ref (ka 22), .int 0, .int 0, .ref (ka 23), .int 0, .ref (ka 24), .int 0, .int 0, .ref (ka 25), .int 0, .ref (ka 26), .int 0, .int 0, .int 0, .int 0, .int 0])), ((ka 13), .inl (cy 0, 4, .inl (fun _ => 0))), (ao, .inl (cy 2, 1, .inr (.inl (fun _ => 0))))] sz)) 1 6 (va_A [(ko, .inr (11, [.ref (ka 0), .ref (ka 1), .ref (ka 2), .int 0, .int 0, .ref (ka 5), .ref (ka 6), .ref (ka 7), .ref (ka 8), .ref (ka 9), .int 0, .ref (ka 11), .ref (ka 12), .ref (ka 13)])), ((ka 5), .inr (6, [.int 0, .int 0, .ref (ka 21), .ref (ka 22), .int 0, .int 0, .ref (ka 23), .int 0, .ref (ka 24), .int 0, .int 0, .ref (ka 25), .int 0, .ref (ka 26), .int 0, .int 0, .int 0, .int 0, .int 0])), ((ka 13), .inl (cy 0, 4, .inl (fun _ => 0))), (ao, .inl (cy 2, 1, .inr (.inl (fun _ => 0))))] sz) := by
  refine va_MetW (cc := cL_ice) (maxL := 5) (ret := (some .int)) (by decide) rfl ?_
  intro p e s m args below meth c s₁ B hml hv
  obtain ⟨rfl, hsz, hP, hG, hD0, hT⟩ := hv
  have hx := B.exec
  have hb := B.bytes
  have hr := B.returns
  have hts := atoms_spec (ws := vs_w_ice) B.pre
  have hown : s.vm.findClass RL = some m.cls := findClass_of_methodNamed B.named
  have hlocks := B.notSynchronized
  subst hsz
  have hD := hD0.self (sz := s.heap.size)
  generalize hAe : va_A [(ko, .inr (11, [.ref (ka 0), .ref (ka 1), .ref (ka 2), .int 0, .int 0, .ref (ka 5), .ref (ka 6), .ref (ka 7), .ref (ka 8), .ref (ka 9), .int 0, .ref (ka 11), .ref (ka 12), .ref (ka 13)])), ((ka 5), .inr (6, [.int 0, .int 0, .ref (ka 21), .ref (ka 22), .int 0, .int 0, .ref (ka 23), .int 0, .ref (ka 24), .int 0, .int 0, .ref (ka 25), .int 0, .ref (ka 26), .int 0, .int 0, .int 0, .int 0, .int 0])), ((ka 13), .inl (cy 0, 4, .inl (fun _ => 0))), (ao, .inl (cy 2, 1, .inr (.inl (fun _ => 0))))] s.heap.size = A at hD hT ⊢
  have hA : ∀ q : Nat, s.heap.size ≤ q → A q := fun q h => by rw [← hAe]; exact Or.inr h
  have hS : va_S A s.heap s.heap [] := va_S.rf
  have hl0 := lv_entry ([.ref ko, .int p0, .int p1, .ref ao]) (n := 5) (Nat.le_of_ble_eq_true rfl)
  rw [lg_entry_eq]
  generalize (lg_sl ([.ref ko, .int p0, .int p1, .ref ao]) ++ List.replicate (5 - (lg_sl ([.ref ko, .int p0, .int p1, .ref ao])).length) Slot.unset).toArray = ls at hl0 ⊢
  have hlv : lv_has ls 5 [(0, .ref ko), (1, .int p0), (2, .int p1), (3, .ref ao)] := hl0
  have gg_0 : GoodIn vs_w_ice (wsV RL 114 RX11 yX11_ice vs_c_ice) := goodIn_sub (fun w h => List.mem_cons_of_mem _ (List.mem_append_right _ (List.mem_append_left _ h))) (by decide +kernel)
  have xc13 := hts (.classLink RL 13 "java/lang/IllegalArgumentException") (List.mem_of_getElem? (i := 1) rfl)
  have htab : c.exceptionTable.toList = [(⟨0, 10, 13, 13⟩ : ExceptionTableEntry)] := vx_table (x := yL_ice) B (hts (.codeWith yL_ice cL_ice 5 (some .int) [(0, 10, 13, 13)]) List.mem_cons_self)
  refine lv_aload_n hx hb dL_ice_0 rfl (lv_at hlv 3 rfl) ?_
  refine lv_iconst (v := 0) hx hb dL_ice_1 (by decide) ?_
  refine lv_aload_n hx hb dL_ice_2 rfl (lv_at hlv 0 rfl) ?_
  refine lv_iload_n hx hb dL_ice_3 rfl (lv_at hlv 1 rfl) ?_
  refine lv_iload_n hx hb dL_ice_4 rfl (lv_at hlv 2 rfl) ?_
  refine cjx_i (wr := [(ao, .inl (cy 2, 1, .inr (.inl (fun _ => 0))))]) (vx_runV (As := [.int p0, .int p1]) (rest := [.int 0, .ref ao]) ⟨hx, hb, hml, hown, hts⟩ (c_ice l hl D cy sa ko ka p0 p1 s.heap.size) (cwV 2 hts gg_0 rfl rfl rfl (by decide +kernel) ⟨Nat.le_of_ble_eq_true rfl, Nat.le_of_ble_eq_true rfl⟩) ⟨pcW.blind, (va_recv hG.1 hP (ci := 11) (q0 := 0) rfl rfl), (pcW.mk hP hD hS hA hG hT [0, 1, 2] rfl (by decide))⟩ rfl rfl hlv.1 rfl (lv_room (Nat.le_of_ble_eq_true rfl)) dL_ice_5 ⟨Nat.le_of_ble_eq_true rfl, Nat.le_of_ble_eq_true rfl⟩) hP hD hS hA [0, 1, 2] [3] rfl rfl (by decide) (by decide) (fun E ce q9 H locs hp hP hD hS h1 h2 h3 => ?_) (fun r1 u1 H locs hw1 hP hD hS => ?_)
  · obtain ⟨rfl, hg1⟩ := hp
    refine vx_catch (name := "java/lang/IllegalArgumentException") hown [] (⟨0, 10, 13, 13⟩ : ExceptionTableEntry) [] htab (fun z hz => by simp at hz) (by decide) (by decide) xc13 (va_Nw.use rfl (hG.2.2.2.1 _ (List.mem_of_getElem? (i := 2) rfl))) h1 h2 h3 ?_
    refine lv_astore (lv' := [(4, .ref q9), (0, .ref ko), (1, .int p0), (2, .int p1), (3, .ref ao)]) hx hb dL_ice_13 hlv (by decide) rfl (fun ls hlv => ?_)
    refine lv_iconst (v := 1) hx hb dL_ice_15 (by decide) ?_
    obtain ⟨hP, hD⟩ := arl 0 (fun _ => (0 : Int32).toInt64) hP hD rfl arl_0
    have hP : va_P D vwCl [(ao, .inl (cy 2, 1, .inr (.inl (fun _ => (0 : Int32).toInt64))))] H := hP
    have hD : va_D A [(ao, .inl (cy 2, 1, .inr (.inl (fun _ => (0 : Int32).toInt64))))] := hD
    refine W.widen (k := 1) (n := 6) (Nat.le_of_ble_eq_true rfl) (Nat.le_of_ble_eq_true rfl) ?_
    exact W.iret (v := 1) hx hb hr (fun t ht hW => ⟨⟨1, ((fun k => ([] : List Nat).getD k 0), (fun k => ([0] : List Int32).getD k 0), (fun k => ([] : List (Nat → Int32)).getD k (fun _ => 0))), rfl, (by first | (right; exact ⟨hg1, by rfl⟩)), by rw [ht]; exact hP.sub [0] rfl, hD.sub [0] (by decide) rfl⟩, hS.F ht⟩) hS.2.2 dL_ice_16
  · obtain ⟨hg1, rfl⟩ := hw1
    have hP : va_P D vwCl [(ao, .inl (cy 2, 1, .inr (.inl (fun _ => 0))))] H := hP
    have hD : va_D A [(ao, .inl (cy 2, 1, .inr (.inl (fun _ => 0))))] := hD
    refine lv_i2l (v := (0 : Int32).toInt64) hx hb dL_ice_8 rfl ?_
    refine va_last hx hb hG.1 hP hD hS 0 2 rfl rfl (vpd (by decide)) dL_ice_9 (fun H locs hP hD hS => ?_)
    have hP : va_P D vwCl [(ao, .inl (cy 2, 1, .inr (.inl (vp_updL (fun _ => 0) 0 (0 : Int32).toInt64))))] H := hP
    have hD : va_D A [(ao, .inl (cy 2, 1, .inr (.inl (vp_updL (fun _ => 0) 0 (0 : Int32).toInt64))))] := hD
    refine lv_goto (tgt := 17) hx hb dL_ice_10 (by decide) ?_
    refine lv_iconst (v := 0) hx hb dL_ice_17 (by decide) ?_
    obtain ⟨hP, hD⟩ := arl 0 (fun _ => (0 : Int32).toInt64) hP hD rfl arl_1
    have hP : va_P D vwCl [(ao, .inl (cy 2, 1, .inr (.inl (fun _ => (0 : Int32).toInt64))))] H := hP
    have hD : va_D A [(ao, .inl (cy 2, 1, .inr (.inl (fun _ => (0 : Int32).toInt64))))] := hD
    refine W.widen (k := 1) (n := 6) (Nat.le_of_ble_eq_true rfl) (Nat.le_of_ble_eq_true rfl) ?_
    exact W.iret (v := 0) hx hb hr (fun t ht hW => ⟨⟨0, ((fun k => ([] : List Nat).getD k 0), (fun k => ([0] : List Int32).getD k 0), (fun k => ([] : List (Nat → Int32)).getD k (fun _ => 0))), rfl, (by first | (left; exact ⟨⟨hg1.1, hg1.2⟩, by rfl, by rfl⟩)), by rw [ht]; exact hP.sub [0] rfl, hD.sub [0] (by decide) rfl⟩, hS.F ht⟩) hS.2.2 dL_ice_18
