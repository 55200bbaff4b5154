
def vs_x_wo0 : List Cond := .code yX12_workOf cX12_workOf 1 (some .int) :: (([] : List Cond) ++ ((va_wsS RX12 135 yX12_of vs_m_of6) ++ ([])))
theorem gd_x_wo0 : vs_x_wo0.all goodWord = true := gd_C (by decide +kernel) (gd_A (by decide +kernel) (gd_A (gd_S gd_m_of6 (by decide +kernel)) rfl))
set_option maxHeartbeats 4000000 in
set_option maxRecDepth 100000 in
theorem x_wo0 (l : Launch) (hl : l.stackTraces = false) (D : va_G) (cy : Nat → ClassId) (sa : Nat → Nat)  (sz : Nat) : Met l yX12_workOf vs_x_wo0 ({ frames := 5, cells := 0, slots := 0, locals := 107 }) (va_Pc [vI 3544114] (pcW D cy sa sz [])) (va_Qi (fun (r : Int32) (u : SV) => r = iI (u.2.1 0) ∧ (0 ≤ u.2.1 0 ∧ u.2.1 0 ≤ 0)) (fun u t => atW D (va_A [] sz) [] t) (va_A [] sz)) 0 0 (va_A [] sz) := by
  refine Met.ofW (cc := cX12_workOf) (maxL := 1) (ret := (some .int)) (by decide) rfl ?_
  intro p e s m args below meth c s₁ B hml hv
  obtain ⟨rfl, hsz, hP, hG, hD0, hT⟩ := hv
  have hx := B.exec
  have hb := B.bytes
  have hr := B.returns
  have hts := atoms_spec (ws := vs_x_wo0) B.pre
  have hown : s.vm.findClass RX12 = some m.cls := findClass_of_methodNamed B.named
  have hlocks := B.notSynchronized
  subst hsz
  have hD := hD0.self (sz := s.heap.size)
  generalize hAe : va_A [] s.heap.size = A at hD hT ⊢
  have hA : ∀ q : Nat, s.heap.size ≤ q → A q := fun q h => by rw [← hAe]; exact Or.inr h
  have hS : va_S A s.heap s.heap [] := va_S.rf
  have hl0 := lv_entry ([vI 3544114]) (n := 1) (Nat.le_of_ble_eq_true rfl)
  rw [lg_entry_eq]
  generalize (lg_sl ([vI 3544114]) ++ List.replicate (1 - (lg_sl ([vI 3544114])).length) Slot.unset).toArray = ls at hl0 ⊢
  have hlv : lv_has ls 1 [(0, vI 3544114)] := hl0
  have gg_0 : GoodIn vs_x_wo0 (va_wsS RX12 135 yX12_of vs_m_of6) := goodIn_sub (fun w h => List.mem_cons_of_mem _ (List.mem_append_right _ (List.mem_append_left _ h))) (gd_S gd_m_of6 (by decide +kernel))
  refine lv_iload_n hx hb dX12_workOf_0 rfl (lv_at hlv 0 rfl) ?_
  refine va_ldcS (q := sn sa 34) hx hb hown (st_4 hG) dX12_workOf_1 ?_
  refine cj_i (wr := []) (va_runS (As := [.ref (sn sa 34)]) (rest := [vI 3544114]) ⟨hx, hb, hml, hown, hts⟩ (m_of6 l hl D cy sa  s.heap.size) (va_cwS 1 hts gg_0 rfl rfl rfl (by decide +kernel) ⟨Nat.le_of_ble_eq_true rfl, Nat.le_of_ble_eq_true rfl⟩) ⟨pcW.blind, (pcW.mk hP hD hS hA hG hT [] rfl (by decide))⟩ rfl rfl hlv.1 rfl (lv_room (Nat.le_of_ble_eq_true rfl)) dX12_workOf_3 ⟨Nat.le_of_ble_eq_true rfl, Nat.le_of_ble_eq_true rfl⟩) hP hD hS hA [] [] rfl rfl (by decide) (by decide) (fun r1 u1 H locs hw1 hP hD hS => ?_)
  obtain ⟨rfl, hq1_1⟩ := hw1
  have hP : va_P D vwCl [] H := hP
  have hD : va_D A [] := hD
  refine lt_i (y := iI 3544114) (by rw [show (u1.2.1 0) = 3544114 by omega]) ?_
  refine ir_ne (tgt := 13) hx hb dX12_workOf_6 (by decide) (by show ((-2147483648) : Int) ≤ 3544114 ∧ (3544114 : Int) ≤ 2147483647; decide) (by show ((-2147483648) : Int) ≤ 3544114 ∧ (3544114 : Int) ≤ 2147483647; decide) (fun c_1 => by exfalso; omega) (fun c_1 => ?_)
  refine lv_iconst (v := iI 0) hx hb dX12_workOf_9 (by decide) ?_
  refine lv_goto (tgt := 53) hx hb dX12_workOf_10 (by decide) ?_
  refine W.widen (k := 0) (n := 0) (Nat.le_of_ble_eq_true rfl) (Nat.le_of_ble_eq_true rfl) ?_
  exact W.iret (v := iI 0) hx hb hr (fun t ht hW => ⟨⟨iI 0, ((fun k => ([] : List Nat).getD k 0), (fun k => ([0] : List Int).getD k 0), (fun k => ([] : List (Nat → Int32)).getD k (fun _ => 0))), rfl, ⟨rfl, (by show (0 ≤ 0 ∧ 0 ≤ 0); show (0 : Int) ≤ 0 ∧ (0 : Int) ≤ 0; decide)⟩, by rw [ht]; exact hP.sub [] rfl, hD.sub [] (by decide) rfl⟩, hS.F ht⟩) hS.2.2 dX12_workOf_53
def vs_x_wo1 : List Cond := .code yX12_workOf cX12_workOf 1 (some .int) :: (([] : List Cond) ++ ((va_wsS RX12 135 yX12_of vs_m_of6) ++ ((va_wsS RX12 135 yX12_of vs_m_of7) ++ ([]))))
theorem gd_x_wo1 : vs_x_wo1.all goodWord = true := gd_C (by decide +kernel) (gd_A (by decide +kernel) (gd_A (gd_S gd_m_of6 (by decide +kernel)) (gd_A (gd_S gd_m_of7 (by decide +kernel)) rfl)))
set_option maxHeartbeats 4000000 in
set_option maxRecDepth 100000 in
theorem x_wo1 (l : Launch) (hl : l.stackTraces = false) (D : va_G) (cy : Nat → ClassId) (sa : Nat → Nat)  (sz : Nat) : Met l yX12_workOf vs_x_wo1 ({ frames := 5, cells := 0, slots := 0, locals := 107 }) (va_Pc [vI 18916965] (pcW D cy sa sz [])) (va_Qi (fun (r : Int32) (u : SV) => r = iI (u.2.1 0) ∧ (1 ≤ u.2.1 0 ∧ u.2.1 0 ≤ 1)) (fun u t => atW D (va_A [] sz) [] t) (va_A [] sz)) 0 0 (va_A [] sz) := by
  refine Met.ofW (cc := cX12_workOf) (maxL := 1) (ret := (some .int)) (by decide) rfl ?_
  intro p e s m args below meth c s₁ B hml hv
  obtain ⟨rfl, hsz, hP, hG, hD0, hT⟩ := hv
  have hx := B.exec
  have hb := B.bytes
  have hr := B.returns
  have hts := atoms_spec (ws := vs_x_wo1) B.pre
  have hown : s.vm.findClass RX12 = some m.cls := findClass_of_methodNamed B.named
  have hlocks := B.notSynchronized
  subst hsz
  have hD := hD0.self (sz := s.heap.size)
  generalize hAe : va_A [] s.heap.size = A at hD hT ⊢
  have hA : ∀ q : Nat, s.heap.size ≤ q → A q := fun q h => by rw [← hAe]; exact Or.inr h
  have hS : va_S A s.heap s.heap [] := va_S.rf
  have hl0 := lv_entry ([vI 18916965]) (n := 1) (Nat.le_of_ble_eq_true rfl)
  rw [lg_entry_eq]
  generalize (lg_sl ([vI 18916965]) ++ List.replicate (1 - (lg_sl ([vI 18916965])).length) Slot.unset).toArray = ls at hl0 ⊢
  have hlv : lv_has ls 1 [(0, vI 18916965)] := hl0
  have gg_0 : GoodIn vs_x_wo1 (va_wsS RX12 135 yX12_of vs_m_of6) := goodIn_sub (fun w h => List.mem_cons_of_mem _ (List.mem_append_right _ (List.mem_append_left _ h))) (gd_S gd_m_of6 (by decide +kernel))
  have gg_1 : GoodIn vs_x_wo1 (va_wsS RX12 135 yX12_of vs_m_of7) := goodIn_sub (fun w h => List.mem_cons_of_mem _ (List.mem_append_right _ (List.mem_append_right _ (List.mem_append_left _ h)))) (gd_S gd_m_of7 (by decide +kernel))
  refine lv_iload_n hx hb dX12_workOf_0 rfl (lv_at hlv 0 rfl) ?_
  refine va_ldcS (q := sn sa 34) hx hb hown (st_4 hG) dX12_workOf_1 ?_
  refine cj_i (wr := []) (va_runS (As := [.ref (sn sa 34)]) (rest := [vI 18916965]) ⟨hx, hb, hml, hown, hts⟩ (m_of6 l hl D cy sa  s.heap.size) (va_cwS 1 hts gg_0 rfl rfl rfl (by decide +kernel) ⟨Nat.le_of_ble_eq_true rfl, Nat.le_of_ble_eq_true rfl⟩) ⟨pcW.blind, (pcW.mk hP hD hS hA hG hT [] rfl (by decide))⟩ rfl rfl hlv.1 rfl (lv_room (Nat.le_of_ble_eq_true rfl)) dX12_workOf_3 ⟨Nat.le_of_ble_eq_true rfl, Nat.le_of_ble_eq_true rfl⟩) hP hD hS hA [] [] rfl rfl (by decide) (by decide) (fun r1 u1 H locs hw1 hP hD hS => ?_)
  obtain ⟨rfl, hq1_1⟩ := hw1
  have hP : va_P D vwCl [] H := hP
  have hD : va_D A [] := hD
  refine lt_i (y := iI 3544114) (by rw [show (u1.2.1 0) = 3544114 by omega]) ?_
  refine ir_ne (tgt := 13) hx hb dX12_workOf_6 (by decide) (by show ((-2147483648) : Int) ≤ 18916965 ∧ (18916965 : Int) ≤ 2147483647; decide) (by show ((-2147483648) : Int) ≤ 3544114 ∧ (3544114 : Int) ≤ 2147483647; decide) (fun c_1 => ?_) (fun c_1 => by exfalso; omega)
  refine lv_iload_n hx hb dX12_workOf_13 rfl (lv_at hlv 0 rfl) ?_
  refine va_ldcS (q := sn sa 35) hx hb hown (st_5 hG) dX12_workOf_14 ?_
  refine cj_i (wr := []) (va_runS (As := [.ref (sn sa 35)]) (rest := [vI 18916965]) ⟨hx, hb, hml, hown, hts⟩ (m_of7 l hl D cy sa  H.size) (va_cwS 1 hts gg_1 rfl rfl rfl (by decide +kernel) ⟨Nat.le_of_ble_eq_true rfl, Nat.le_of_ble_eq_true rfl⟩) ⟨pcW.blind, (pcW.mk hP hD hS hA hG hT [] rfl (by decide))⟩ rfl rfl hlv.1 rfl (lv_room (Nat.le_of_ble_eq_true rfl)) dX12_workOf_16 ⟨Nat.le_of_ble_eq_true rfl, Nat.le_of_ble_eq_true rfl⟩) hP hD hS hA [] [] rfl rfl (by decide) (by decide) (fun r2 u2 H locs hw2 hP hD hS => ?_)
  obtain ⟨rfl, hq2_1⟩ := hw2
  have hP : va_P D vwCl [] H := hP
  have hD : va_D A [] := hD
  refine lt_i (y := iI 18916965) (by rw [show (u2.2.1 0) = 18916965 by omega]) ?_
  refine ir_ne (tgt := 26) hx hb dX12_workOf_19 (by decide) (by show ((-2147483648) : Int) ≤ 18916965 ∧ (18916965 : Int) ≤ 2147483647; decide) (by show ((-2147483648) : Int) ≤ 18916965 ∧ (18916965 : Int) ≤ 2147483647; decide) (fun c_2 => by exfalso; omega) (fun c_2 => ?_)
  refine lv_iconst (v := iI 1) hx hb dX12_workOf_22 (by decide) ?_
  refine lv_goto (tgt := 53) hx hb dX12_workOf_23 (by decide) ?_
  refine W.widen (k := 0) (n := 0) (Nat.le_of_ble_eq_true rfl) (Nat.le_of_ble_eq_true rfl) ?_
  exact W.iret (v := iI 1) hx hb hr (fun t ht hW => ⟨⟨iI 1, ((fun k => ([] : List Nat).getD k 0), (fun k => ([1] : List Int).getD k 0), (fun k => ([] : List (Nat → Int32)).getD k (fun _ => 0))), rfl, ⟨rfl, (by show (1 ≤ 1 ∧ 1 ≤ 1); show (1 : Int) ≤ 1 ∧ (1 : Int) ≤ 1; decide)⟩, by rw [ht]; exact hP.sub [] rfl, hD.sub [] (by decide) rfl⟩, hS.F ht⟩) hS.2.2 dX12_workOf_53
def vs_x_wo2 : List Cond := .code yX12_workOf cX12_workOf 1 (some .int) :: (([] : List Cond) ++ ((va_wsS RX12 135 yX12_of vs_m_of6) ++ ((va_wsS RX12 135 yX12_of vs_m_of7) ++ ((va_wsS RX12 135 yX12_of vs_m_of8) ++ ([])))))
theorem gd_x_wo2 : vs_x_wo2.all goodWord = true := gd_C (by decide +kernel) (gd_A (by decide +kernel) (gd_A (gd_S gd_m_of6 (by decide +kernel)) (gd_A (gd_S gd_m_of7 (by decide +kernel)) (gd_A (gd_S gd_m_of8 (by decide +kernel)) rfl))))
set_option maxHeartbeats 4000000 in
set_option maxRecDepth 100000 in
theorem x_wo2 (l : Launch) (hl : l.stackTraces = false) (D : va_G) (cy : Nat → ClassId) (sa : Nat → Nat)  (sz : Nat) : Met l yX12_workOf vs_x_wo2 ({ frames := 5, cells := 0, slots := 0, locals := 107 }) (va_Pc [vI 13098162] (pcW D cy sa sz [])) (va_Qi (fun (r : Int32) (u : SV) => r = iI (u.2.1 0) ∧ (2 ≤ u.2.1 0 ∧ u.2.1 0 ≤ 2)) (fun u t => atW D (va_A [] sz) [] t) (va_A [] sz)) 0 0 (va_A [] sz) := by
  refine Met.ofW (cc := cX12_workOf) (maxL := 1) (ret := (some .int)) (by decide) rfl ?_
  intro p e s m args below meth c s₁ B hml hv
  obtain ⟨rfl, hsz, hP, hG, hD0, hT⟩ := hv
  have hx := B.exec
  have hb := B.bytes
  have hr := B.returns
  have hts := atoms_spec (ws := vs_x_wo2) B.pre
  have hown : s.vm.findClass RX12 = some m.cls := findClass_of_methodNamed B.named
  have hlocks := B.notSynchronized
  subst hsz
  have hD := hD0.self (sz := s.heap.size)
  generalize hAe : va_A [] s.heap.size = A at hD hT ⊢
  have hA : ∀ q : Nat, s.heap.size ≤ q → A q := fun q h => by rw [← hAe]; exact Or.inr h
  have hS : va_S A s.heap s.heap [] := va_S.rf
  have hl0 := lv_entry ([vI 13098162]) (n := 1) (Nat.le_of_ble_eq_true rfl)
  rw [lg_entry_eq]
  generalize (lg_sl ([vI 13098162]) ++ List.replicate (1 - (lg_sl ([vI 13098162])).length) Slot.unset).toArray = ls at hl0 ⊢
  have hlv : lv_has ls 1 [(0, vI 13098162)] := hl0
  have gg_0 : GoodIn vs_x_wo2 (va_wsS RX12 135 yX12_of vs_m_of6) := goodIn_sub (fun w h => List.mem_cons_of_mem _ (List.mem_append_right _ (List.mem_append_left _ h))) (gd_S gd_m_of6 (by decide +kernel))
  have gg_1 : GoodIn vs_x_wo2 (va_wsS RX12 135 yX12_of vs_m_of7) := goodIn_sub (fun w h => List.mem_cons_of_mem _ (List.mem_append_right _ (List.mem_append_right _ (List.mem_append_left _ h)))) (gd_S gd_m_of7 (by decide +kernel))
  have gg_2 : GoodIn vs_x_wo2 (va_wsS RX12 135 yX12_of vs_m_of8) := goodIn_sub (fun w h => List.mem_cons_of_mem _ (List.mem_append_right _ (List.mem_append_right _ (List.mem_append_right _ (List.mem_append_left _ h))))) (gd_S gd_m_of8 (by decide +kernel))
  refine lv_iload_n hx hb dX12_workOf_0 rfl (lv_at hlv 0 rfl) ?_
  refine va_ldcS (q := sn sa 34) hx hb hown (st_4 hG) dX12_workOf_1 ?_
  refine cj_i (wr := []) (va_runS (As := [.ref (sn sa 34)]) (rest := [vI 13098162]) ⟨hx, hb, hml, hown, hts⟩ (m_of6 l hl D cy sa  s.heap.size) (va_cwS 1 hts gg_0 rfl rfl rfl (by decide +kernel) ⟨Nat.le_of_ble_eq_true rfl, Nat.le_of_ble_eq_true rfl⟩) ⟨pcW.blind, (pcW.mk hP hD hS hA hG hT [] rfl (by decide))⟩ rfl rfl hlv.1 rfl (lv_room (Nat.le_of_ble_eq_true rfl)) dX12_workOf_3 ⟨Nat.le_of_ble_eq_true rfl, Nat.le_of_ble_eq_true rfl⟩) hP hD hS hA [] [] rfl rfl (by decide) (by decide) (fun r1 u1 H locs hw1 hP hD hS => ?_)
  obtain ⟨rfl, hq1_1⟩ := hw1
  have hP : va_P D vwCl [] H := hP
  have hD : va_D A [] := hD
  refine lt_i (y := iI 3544114) (by rw [show (u1.2.1 0) = 3544114 by omega]) ?_
  refine ir_ne (tgt := 13) hx hb dX12_workOf_6 (by decide) (by show ((-2147483648) : Int) ≤ 13098162 ∧ (13098162 : Int) ≤ 2147483647; decide) (by show ((-2147483648) : Int) ≤ 3544114 ∧ (3544114 : Int) ≤ 2147483647; decide) (fun c_1 => ?_) (fun c_1 => by exfalso; omega)
  refine lv_iload_n hx hb dX12_workOf_13 rfl (lv_at hlv 0 rfl) ?_
  refine va_ldcS (q := sn sa 35) hx hb hown (st_5 hG) dX12_workOf_14 ?_
  refine cj_i (wr := []) (va_runS (As := [.ref (sn sa 35)]) (rest := [vI 13098162]) ⟨hx, hb, hml, hown, hts⟩ (m_of7 l hl D cy sa  H.size) (va_cwS 1 hts gg_1 rfl rfl rfl (by decide +kernel) ⟨Nat.le_of_ble_eq_true rfl, Nat.le_of_ble_eq_true rfl⟩) ⟨pcW.blind, (pcW.mk hP hD hS hA hG hT [] rfl (by decide))⟩ rfl rfl hlv.1 rfl (lv_room (Nat.le_of_ble_eq_true rfl)) dX12_workOf_16 ⟨Nat.le_of_ble_eq_true rfl, Nat.le_of_ble_eq_true rfl⟩) hP hD hS hA [] [] rfl rfl (by decide) (by decide) (fun r2 u2 H locs hw2 hP hD hS => ?_)
  obtain ⟨rfl, hq2_1⟩ := hw2
  have hP : va_P D vwCl [] H := hP
  have hD : va_D A [] := hD
  refine lt_i (y := iI 18916965) (by rw [show (u2.2.1 0) = 18916965 by omega]) ?_
  refine ir_ne (tgt := 26) hx hb dX12_workOf_19 (by decide) (by show ((-2147483648) : Int) ≤ 13098162 ∧ (13098162 : Int) ≤ 2147483647; decide) (by show ((-2147483648) : Int) ≤ 18916965 ∧ (18916965 : Int) ≤ 2147483647; decide) (fun c_2 => ?_) (fun c_2 => by exfalso; omega)
  refine lv_iload_n hx hb dX12_workOf_26 rfl (lv_at hlv 0 rfl) ?_
  refine va_ldcS (q := sn sa 36) hx hb hown (st_6 hG) dX12_workOf_27 ?_
  refine cj_i (wr := []) (va_runS (As := [.ref (sn sa 36)]) (rest := [vI 13098162]) ⟨hx, hb, hml, hown, hts⟩ (m_of8 l hl D cy sa  H.size) (va_cwS 1 hts gg_2 rfl rfl rfl (by decide +kernel) ⟨Nat.le_of_ble_eq_true rfl, Nat.le_of_ble_eq_true rfl⟩) ⟨pcW.blind, (pcW.mk hP hD hS hA hG hT [] rfl (by decide))⟩ rfl rfl hlv.1 rfl (lv_room (Nat.le_of_ble_eq_true rfl)) dX12_workOf_29 ⟨Nat.le_of_ble_eq_true rfl, Nat.le_of_ble_eq_true rfl⟩) hP hD hS hA [] [] rfl rfl (by decide) (by decide) (fun r3 u3 H locs hw3 hP hD hS => ?_)
  obtain ⟨rfl, hq3_1⟩ := hw3
  have hP : va_P D vwCl [] H := hP
  have hD : va_D A [] := hD
  refine lt_i (y := iI 13098162) (by rw [show (u3.2.1 0) = 13098162 by omega]) ?_
  refine ir_ne (tgt := 39) hx hb dX12_workOf_32 (by decide) (by show ((-2147483648) : Int) ≤ 13098162 ∧ (13098162 : Int) ≤ 2147483647; decide) (by show ((-2147483648) : Int) ≤ 13098162 ∧ (13098162 : Int) ≤ 2147483647; decide) (fun c_3 => by exfalso; omega) (fun c_3 => ?_)
  refine lv_iconst (v := iI 2) hx hb dX12_workOf_35 (by decide) ?_
  refine lv_goto (tgt := 53) hx hb dX12_workOf_36 (by decide) ?_
  refine W.widen (k := 0) (n := 0) (Nat.le_of_ble_eq_true rfl) (Nat.le_of_ble_eq_true rfl) ?_
  exact W.iret (v := iI 2) hx hb hr (fun t ht hW => ⟨⟨iI 2, ((fun k => ([] : List Nat).getD k 0), (fun k => ([2] : List Int).getD k 0), (fun k => ([] : List (Nat → Int32)).getD k (fun _ => 0))), rfl, ⟨rfl, (by show (2 ≤ 2 ∧ 2 ≤ 2); show (2 : Int) ≤ 2 ∧ (2 : Int) ≤ 2; decide)⟩, by rw [ht]; exact hP.sub [] rfl, hD.sub [] (by decide) rfl⟩, hS.F ht⟩) hS.2.2 dX12_workOf_53
def vs_x_wo3 : List Cond := .code yX12_workOf cX12_workOf 1 (some .int) :: (([] : List Cond) ++ ((va_wsS RX12 135 yX12_of vs_m_of6) ++ ((va_wsS RX12 135 yX12_of vs_m_of7) ++ ((va_wsS RX12 135 yX12_of vs_m_of8) ++ ((va_wsS RX12 135 yX12_of vs_m_of9) ++ ([]))))))
theorem gd_x_wo3 : vs_x_wo3.all goodWord = true := gd_C (by decide +kernel) (gd_A (by decide +kernel) (gd_A (gd_S gd_m_of6 (by decide +kernel)) (gd_A (gd_S gd_m_of7 (by decide +kernel)) (gd_A (gd_S gd_m_of8 (by decide +kernel)) (gd_A (gd_S gd_m_of9 (by decide +kernel)) rfl)))))
set_option maxHeartbeats 4000000 in
set_option maxRecDepth 100000 in
theorem x_wo3 (l : Launch) (hl : l.stackTraces = false) (D : va_G) (cy : Nat → ClassId) (sa : Nat → Nat)  (sz : Nat) : Met l yX12_workOf vs_x_wo3 ({ frames := 5, cells := 0, slots := 0, locals := 107 }) (va_Pc [vI 81477] (pcW D cy sa sz [])) (va_Qi (fun (r : Int32) (u : SV) => r = iI (u.2.1 0) ∧ (3 ≤ u.2.1 0 ∧ u.2.1 0 ≤ 3)) (fun u t => atW D (va_A [] sz) [] t) (va_A [] sz)) 0 0 (va_A [] sz) := by
  refine Met.ofW (cc := cX12_workOf) (maxL := 1) (ret := (some .int)) (by decide) rfl ?_
  intro p e s m args below meth c s₁ B hml hv
  obtain ⟨rfl, hsz, hP, hG, hD0, hT⟩ := hv
  have hx := B.exec
  have hb := B.bytes
  have hr := B.returns
  have hts := atoms_spec (ws := vs_x_wo3) B.pre
  have hown : s.vm.findClass RX12 = some m.cls := findClass_of_methodNamed B.named
  have hlocks := B.notSynchronized
  subst hsz
  have hD := hD0.self (sz := s.heap.size)
  generalize hAe : va_A [] s.heap.size = A at hD hT ⊢
  have hA : ∀ q : Nat, s.heap.size ≤ q → A q := fun q h => by rw [← hAe]; exact Or.inr h
  have hS : va_S A s.heap s.heap [] := va_S.rf
  have hl0 := lv_entry ([vI 81477]) (n := 1) (Nat.le_of_ble_eq_true rfl)
  rw [lg_entry_eq]
  generalize (lg_sl ([vI 81477]) ++ List.replicate (1 - (lg_sl ([vI 81477])).length) Slot.unset).toArray = ls at hl0 ⊢
  have hlv : lv_has ls 1 [(0, vI 81477)] := hl0
  have gg_0 : GoodIn vs_x_wo3 (va_wsS RX12 135 yX12_of vs_m_of6) := goodIn_sub (fun w h => List.mem_cons_of_mem _ (List.mem_append_right _ (List.mem_append_left _ h))) (gd_S gd_m_of6 (by decide +kernel))
  have gg_1 : GoodIn vs_x_wo3 (va_wsS RX12 135 yX12_of vs_m_of7) := goodIn_sub (fun w h => List.mem_cons_of_mem _ (List.mem_append_right _ (List.mem_append_right _ (List.mem_append_left _ h)))) (gd_S gd_m_of7 (by decide +kernel))
  have gg_2 : GoodIn vs_x_wo3 (va_wsS RX12 135 yX12_of vs_m_of8) := goodIn_sub (fun w h => List.mem_cons_of_mem _ (List.mem_append_right _ (List.mem_append_right _ (List.mem_append_right _ (List.mem_append_left _ h))))) (gd_S gd_m_of8 (by decide +kernel))
  have gg_3 : GoodIn vs_x_wo3 (va_wsS RX12 135 yX12_of vs_m_of9) := goodIn_sub (fun w h => List.mem_cons_of_mem _ (List.mem_append_right _ (List.mem_append_right _ (List.mem_append_right _ (List.mem_append_right _ (List.mem_append_left _ h)))))) (gd_S gd_m_of9 (by decide +kernel))
  refine lv_iload_n hx hb dX12_workOf_0 rfl (lv_at hlv 0 rfl) ?_
  refine va_ldcS (q := sn sa 34) hx hb hown (st_4 hG) dX12_workOf_1 ?_
  refine cj_i (wr := []) (va_runS (As := [.ref (sn sa 34)]) (rest := [vI 81477]) ⟨hx, hb, hml, hown, hts⟩ (m_of6 l hl D cy sa  s.heap.size) (va_cwS 1 hts gg_0 rfl rfl rfl (by decide +kernel) ⟨Nat.le_of_ble_eq_true rfl, Nat.le_of_ble_eq_true rfl⟩) ⟨pcW.blind, (pcW.mk hP hD hS hA hG hT [] rfl (by decide))⟩ rfl rfl hlv.1 rfl (lv_room (Nat.le_of_ble_eq_true rfl)) dX12_workOf_3 ⟨Nat.le_of_ble_eq_true rfl, Nat.le_of_ble_eq_true rfl⟩) hP hD hS hA [] [] rfl rfl (by decide) (by decide) (fun r1 u1 H locs hw1 hP hD hS => ?_)
  obtain ⟨rfl, hq1_1⟩ := hw1
  have hP : va_P D vwCl [] H := hP
  have hD : va_D A [] := hD
  refine lt_i (y := iI 3544114) (by rw [show (u1.2.1 0) = 3544114 by omega]) ?_
  refine ir_ne (tgt := 13) hx hb dX12_workOf_6 (by decide) (by show ((-2147483648) : Int) ≤ 81477 ∧ (81477 : Int) ≤ 2147483647; decide) (by show ((-2147483648) : Int) ≤ 3544114 ∧ (3544114 : Int) ≤ 2147483647; decide) (fun c_1 => ?_) (fun c_1 => by exfalso; omega)
  refine lv_iload_n hx hb dX12_workOf_13 rfl (lv_at hlv 0 rfl) ?_
  refine va_ldcS (q := sn sa 35) hx hb hown (st_5 hG) dX12_workOf_14 ?_
  refine cj_i (wr := []) (va_runS (As := [.ref (sn sa 35)]) (rest := [vI 81477]) ⟨hx, hb, hml, hown, hts⟩ (m_of7 l hl D cy sa  H.size) (va_cwS 1 hts gg_1 rfl rfl rfl (by decide +kernel) ⟨Nat.le_of_ble_eq_true rfl, Nat.le_of_ble_eq_true rfl⟩) ⟨pcW.blind, (pcW.mk hP hD hS hA hG hT [] rfl (by decide))⟩ rfl rfl hlv.1 rfl (lv_room (Nat.le_of_ble_eq_true rfl)) dX12_workOf_16 ⟨Nat.le_of_ble_eq_true rfl, Nat.le_of_ble_eq_true rfl⟩) hP hD hS hA [] [] rfl rfl (by decide) (by decide) (fun r2 u2 H locs hw2 hP hD hS => ?_)
  obtain ⟨rfl, hq2_1⟩ := hw2
  have hP : va_P D vwCl [] H := hP
  have hD : va_D A [] := hD
  refine lt_i (y := iI 18916965) (by rw [show (u2.2.1 0) = 18916965 by omega]) ?_
  refine ir_ne (tgt := 26) hx hb dX12_workOf_19 (by decide) (by show ((-2147483648) : Int) ≤ 81477 ∧ (81477 : Int) ≤ 2147483647; decide) (by show ((-2147483648) : Int) ≤ 18916965 ∧ (18916965 : Int) ≤ 2147483647; decide) (fun c_2 => ?_) (fun c_2 => by exfalso; omega)
  refine lv_iload_n hx hb dX12_workOf_26 rfl (lv_at hlv 0 rfl) ?_
  refine va_ldcS (q := sn sa 36) hx hb hown (st_6 hG) dX12_workOf_27 ?_
  refine cj_i (wr := []) (va_runS (As := [.ref (sn sa 36)]) (rest := [vI 81477]) ⟨hx, hb, hml, hown, hts⟩ (m_of8 l hl D cy sa  H.size) (va_cwS 1 hts gg_2 rfl rfl rfl (by decide +kernel) ⟨Nat.le_of_ble_eq_true rfl, Nat.le_of_ble_eq_true rfl⟩) ⟨pcW.blind, (pcW.mk hP hD hS hA hG hT [] rfl (by decide))⟩ rfl rfl hlv.1 rfl (lv_room (Nat.le_of_ble_eq_true rfl)) dX12_workOf_29 ⟨Nat.le_of_ble_eq_true rfl, Nat.le_of_ble_eq_true rfl⟩) hP hD hS hA [] [] rfl rfl (by decide) (by decide) (fun r3 u3 H locs hw3 hP hD hS => ?_)
  obtain ⟨rfl, hq3_1⟩ := hw3
  have hP : va_P D vwCl [] H := hP
  have hD : va_D A [] := hD
  refine lt_i (y := iI 13098162) (by rw [show (u3.2.1 0) = 13098162 by omega]) ?_
  refine ir_ne (tgt := 39) hx hb dX12_workOf_32 (by decide) (by show ((-2147483648) : Int) ≤ 81477 ∧ (81477 : Int) ≤ 2147483647; decide) (by show ((-2147483648) : Int) ≤ 13098162 ∧ (13098162 : Int) ≤ 2147483647; decide) (fun c_3 => ?_) (fun c_3 => by exfalso; omega)
  refine lv_iload_n hx hb dX12_workOf_39 rfl (lv_at hlv 0 rfl) ?_
  refine va_ldcS (q := sn sa 37) hx hb hown (st_7 hG) dX12_workOf_40 ?_
  refine cj_i (wr := []) (va_runS (As := [.ref (sn sa 37)]) (rest := [vI 81477]) ⟨hx, hb, hml, hown, hts⟩ (m_of9 l hl D cy sa  H.size) (va_cwS 1 hts gg_3 rfl rfl rfl (by decide +kernel) ⟨Nat.le_of_ble_eq_true rfl, Nat.le_of_ble_eq_true rfl⟩) ⟨pcW.blind, (pcW.mk hP hD hS hA hG hT [] rfl (by decide))⟩ rfl rfl hlv.1 rfl (lv_room (Nat.le_of_ble_eq_true rfl)) dX12_workOf_42 ⟨Nat.le_of_ble_eq_true rfl, Nat.le_of_ble_eq_true rfl⟩) hP hD hS hA [] [] rfl rfl (by decide) (by decide) (fun r4 u4 H locs hw4 hP hD hS => ?_)
  obtain ⟨rfl, hq4_1⟩ := hw4
  have hP : va_P D vwCl [] H := hP
  have hD : va_D A [] := hD
  refine lt_i (y := iI 81477) (by rw [show (u4.2.1 0) = 81477 by omega]) ?_
  refine ir_ne (tgt := 52) hx hb dX12_workOf_45 (by decide) (by show ((-2147483648) : Int) ≤ 81477 ∧ (81477 : Int) ≤ 2147483647; decide) (by show ((-2147483648) : Int) ≤ 81477 ∧ (81477 : Int) ≤ 2147483647; decide) (fun c_4 => by exfalso; omega) (fun c_4 => ?_)
  refine lv_iconst (v := iI 3) hx hb dX12_workOf_48 (by decide) ?_
  refine lv_goto (tgt := 53) hx hb dX12_workOf_49 (by decide) ?_
  refine W.widen (k := 0) (n := 0) (Nat.le_of_ble_eq_true rfl) (Nat.le_of_ble_eq_true rfl) ?_
  exact W.iret (v := iI 3) hx hb hr (fun t ht hW => ⟨⟨iI 3, ((fun k => ([] : List Nat).getD k 0), (fun k => ([3] : List Int).getD k 0), (fun k => ([] : List (Nat → Int32)).getD k (fun _ => 0))), rfl, ⟨rfl, (by show (3 ≤ 3 ∧ 3 ≤ 3); show (3 : Int) ≤ 3 ∧ (3 : Int) ≤ 3; decide)⟩, by rw [ht]; exact hP.sub [] rfl, hD.sub [] (by decide) rfl⟩, hS.F ht⟩) hS.2.2 dX12_workOf_53
def vs_x_wo_size : List Cond := .code yX12_workOf cX12_workOf 1 (some .int) :: (([] : List Cond) ++ ((va_wsS RX12 135 yX12_of vs_m_of6) ++ ((va_wsS RX12 135 yX12_of vs_m_of7) ++ ((va_wsS RX12 135 yX12_of vs_m_of8) ++ ((va_wsS RX12 135 yX12_of vs_m_of9) ++ ([]))))))
theorem gd_x_wo_size : vs_x_wo_size.all goodWord = true := gd_C (by decide +kernel) (gd_A (by decide +kernel) (gd_A (gd_S gd_m_of6 (by decide +kernel)) (gd_A (gd_S gd_m_of7 (by decide +kernel)) (gd_A (gd_S gd_m_of8 (by decide +kernel)) (gd_A (gd_S gd_m_of9 (by decide +kernel)) rfl)))))
set_option maxHeartbeats 4000000 in
set_option maxRecDepth 100000 in
theorem x_wo_size (l : Launch) (hl : l.stackTraces = false) (D : va_G) (cy : Nat → ClassId) (sa : Nat → Nat)  (sz : Nat) : Met l yX12_workOf vs_x_wo_size ({ frames := 5, cells := 0, slots := 0, locals := 107 }) (va_Pc [vI 632645] (pcW D cy sa sz [])) (va_Qi (fun (r : Int32) (u : SV) => r = iI (u.2.1 0) ∧ ((-1) ≤ u.2.1 0 ∧ u.2.1 0 ≤ (-1))) (fun u t => atW D (va_A [] sz) [] t) (va_A [] sz)) 0 0 (va_A [] sz) := by
  refine Met.ofW (cc := cX12_workOf) (maxL := 1) (ret := (some .int)) (by decide) rfl ?_
  intro p e s m args below meth c s₁ B hml hv
  obtain ⟨rfl, hsz, hP, hG, hD0, hT⟩ := hv
  have hx := B.exec
  have hb := B.bytes
  have hr := B.returns
  have hts := atoms_spec (ws := vs_x_wo_size) B.pre
  have hown : s.vm.findClass RX12 = some m.cls := findClass_of_methodNamed B.named
  have hlocks := B.notSynchronized
  subst hsz
  have hD := hD0.self (sz := s.heap.size)
  generalize hAe : va_A [] s.heap.size = A at hD hT ⊢
  have hA : ∀ q : Nat, s.heap.size ≤ q → A q := fun q h => by rw [← hAe]; exact Or.inr h
  have hS : va_S A s.heap s.heap [] := va_S.rf
  have hl0 := lv_entry ([vI 632645]) (n := 1) (Nat.le_of_ble_eq_true rfl)
  rw [lg_entry_eq]
  generalize (lg_sl ([vI 632645]) ++ List.replicate (1 - (lg_sl ([vI 632645])).length) Slot.unset).toArray = ls at hl0 ⊢
  have hlv : lv_has ls 1 [(0, vI 632645)] := hl0
  have gg_0 : GoodIn vs_x_wo_size (va_wsS RX12 135 yX12_of vs_m_of6) := goodIn_sub (fun w h => List.mem_cons_of_mem _ (List.mem_append_right _ (List.mem_append_left _ h))) (gd_S gd_m_of6 (by decide +kernel))
  have gg_1 : GoodIn vs_x_wo_size (va_wsS RX12 135 yX12_of vs_m_of7) := goodIn_sub (fun w h => List.mem_cons_of_mem _ (List.mem_append_right _ (List.mem_append_right _ (List.mem_append_left _ h)))) (gd_S gd_m_of7 (by decide +kernel))
  have gg_2 : GoodIn vs_x_wo_size (va_wsS RX12 135 yX12_of vs_m_of8) := goodIn_sub (fun w h => List.mem_cons_of_mem _ (List.mem_append_right _ (List.mem_append_right _ (List.mem_append_right _ (List.mem_append_left _ h))))) (gd_S gd_m_of8 (by decide +kernel))
  have gg_3 : GoodIn vs_x_wo_size (va_wsS RX12 135 yX12_of vs_m_of9) := goodIn_sub (fun w h => List.mem_cons_of_mem _ (List.mem_append_right _ (List.mem_append_right _ (List.mem_append_right _ (List.mem_append_right _ (List.mem_append_left _ h)))))) (gd_S gd_m_of9 (by decide +kernel))
  refine lv_iload_n hx hb dX12_workOf_0 rfl (lv_at hlv 0 rfl) ?_
  refine va_ldcS (q := sn sa 34) hx hb hown (st_4 hG) dX12_workOf_1 ?_
  refine cj_i (wr := []) (va_runS (As := [.ref (sn sa 34)]) (rest := [vI 632645]) ⟨hx, hb, hml, hown, hts⟩ (m_of6 l hl D cy sa  s.heap.size) (va_cwS 1 hts gg_0 rfl rfl rfl (by decide +kernel) ⟨Nat.le_of_ble_eq_true rfl, Nat.le_of_ble_eq_true rfl⟩) ⟨pcW.blind, (pcW.mk hP hD hS hA hG hT [] rfl (by decide))⟩ rfl rfl hlv.1 rfl (lv_room (Nat.le_of_ble_eq_true rfl)) dX12_workOf_3 ⟨Nat.le_of_ble_eq_true rfl, Nat.le_of_ble_eq_true rfl⟩) hP hD hS hA [] [] rfl rfl (by decide) (by decide) (fun r1 u1 H locs hw1 hP hD hS => ?_)
  obtain ⟨rfl, hq1_1⟩ := hw1
  have hP : va_P D vwCl [] H := hP
  have hD : va_D A [] := hD
  refine lt_i (y := iI 3544114) (by rw [show (u1.2.1 0) = 3544114 by omega]) ?_
  refine ir_ne (tgt := 13) hx hb dX12_workOf_6 (by decide) (by show ((-2147483648) : Int) ≤ 632645 ∧ (632645 : Int) ≤ 2147483647; decide) (by show ((-2147483648) : Int) ≤ 3544114 ∧ (3544114 : Int) ≤ 2147483647; decide) (fun c_1 => ?_) (fun c_1 => by exfalso; omega)
  refine lv_iload_n hx hb dX12_workOf_13 rfl (lv_at hlv 0 rfl) ?_
  refine va_ldcS (q := sn sa 35) hx hb hown (st_5 hG) dX12_workOf_14 ?_
  refine cj_i (wr := []) (va_runS (As := [.ref (sn sa 35)]) (rest := [vI 632645]) ⟨hx, hb, hml, hown, hts⟩ (m_of7 l hl D cy sa  H.size) (va_cwS 1 hts gg_1 rfl rfl rfl (by decide +kernel) ⟨Nat.le_of_ble_eq_true rfl, Nat.le_of_ble_eq_true rfl⟩) ⟨pcW.blind, (pcW.mk hP hD hS hA hG hT [] rfl (by decide))⟩ rfl rfl hlv.1 rfl (lv_room (Nat.le_of_ble_eq_true rfl)) dX12_workOf_16 ⟨Nat.le_of_ble_eq_true rfl, Nat.le_of_ble_eq_true rfl⟩) hP hD hS hA [] [] rfl rfl (by decide) (by decide) (fun r2 u2 H locs hw2 hP hD hS => ?_)
  obtain ⟨rfl, hq2_1⟩ := hw2
  have hP : va_P D vwCl [] H := hP
  have hD : va_D A [] := hD
  refine lt_i (y := iI 18916965) (by rw [show (u2.2.1 0) = 18916965 by omega]) ?_
  refine ir_ne (tgt := 26) hx hb dX12_workOf_19 (by decide) (by show ((-2147483648) : Int) ≤ 632645 ∧ (632645 : Int) ≤ 2147483647; decide) (by show ((-2147483648) : Int) ≤ 18916965 ∧ (18916965 : Int) ≤ 2147483647; decide) (fun c_2 => ?_) (fun c_2 => by exfalso; omega)
  refine lv_iload_n hx hb dX12_workOf_26 rfl (lv_at hlv 0 rfl) ?_
  refine va_ldcS (q := sn sa 36) hx hb hown (st_6 hG) dX12_workOf_27 ?_
  refine cj_i (wr := []) (va_runS (As := [.ref (sn sa 36)]) (rest := [vI 632645]) ⟨hx, hb, hml, hown, hts⟩ (m_of8 l hl D cy sa  H.size) (va_cwS 1 hts gg_2 rfl rfl rfl (by decide +kernel) ⟨Nat.le_of_ble_eq_true rfl, Nat.le_of_ble_eq_true rfl⟩) ⟨pcW.blind, (pcW.mk hP hD hS hA hG hT [] rfl (by decide))⟩ rfl rfl hlv.1 rfl (lv_room (Nat.le_of_ble_eq_true rfl)) dX12_workOf_29 ⟨Nat.le_of_ble_eq_true rfl, Nat.le_of_ble_eq_true rfl⟩) hP hD hS hA [] [] rfl rfl (by decide) (by decide) (fun r3 u3 H locs hw3 hP hD hS => ?_)
  obtain ⟨rfl, hq3_1⟩ := hw3
  have hP : va_P D vwCl [] H := hP
  have hD : va_D A [] := hD
  refine lt_i (y := iI 13098162) (by rw [show (u3.2.1 0) = 13098162 by omega]) ?_
  refine ir_ne (tgt := 39) hx hb dX12_workOf_32 (by decide) (by show ((-2147483648) : Int) ≤ 632645 ∧ (632645 : Int) ≤ 2147483647; decide) (by show ((-2147483648) : Int) ≤ 13098162 ∧ (13098162 : Int) ≤ 2147483647; decide) (fun c_3 => ?_) (fun c_3 => by exfalso; omega)
  refine lv_iload_n hx hb dX12_workOf_39 rfl (lv_at hlv 0 rfl) ?_
  refine va_ldcS (q := sn sa 37) hx hb hown (st_7 hG) dX12_workOf_40 ?_
  refine cj_i (wr := []) (va_runS (As := [.ref (sn sa 37)]) (rest := [vI 632645]) ⟨hx, hb, hml, hown, hts⟩ (m_of9 l hl D cy sa  H.size) (va_cwS 1 hts gg_3 rfl rfl rfl (by decide +kernel) ⟨Nat.le_of_ble_eq_true rfl, Nat.le_of_ble_eq_true rfl⟩) ⟨pcW.blind, (pcW.mk hP hD hS hA hG hT [] rfl (by decide))⟩ rfl rfl hlv.1 rfl (lv_room (Nat.le_of_ble_eq_true rfl)) dX12_workOf_42 ⟨Nat.le_of_ble_eq_true rfl, Nat.le_of_ble_eq_true rfl⟩) hP hD hS hA [] [] rfl rfl (by decide) (by decide) (fun r4 u4 H locs hw4 hP hD hS => ?_)
  obtain ⟨rfl, hq4_1⟩ := hw4
  have hP : va_P D vwCl [] H := hP
  have hD : va_D A [] := hD
  refine lt_i (y := iI 81477) (by rw [show (u4.2.1 0) = 81477 by omega]) ?_
  refine ir_ne (tgt := 52) hx hb dX12_workOf_45 (by decide) (by show ((-2147483648) : Int) ≤ 632645 ∧ (632645 : Int) ≤ 2147483647; decide) (by show ((-2147483648) : Int) ≤ 81477 ∧ (81477 : Int) ≤ 2147483647; decide) (fun c_4 => ?_) (fun c_4 => by exfalso; omega)
  refine lv_iconst (v := iI (-1)) hx hb dX12_workOf_52 (by decide) ?_
  refine W.widen (k := 0) (n := 0) (Nat.le_of_ble_eq_true rfl) (Nat.le_of_ble_eq_true rfl) ?_
  exact W.iret (v := iI (-1)) hx hb hr (fun t ht hW => ⟨⟨iI (-1), ((fun k => ([] : List Nat).getD k 0), (fun k => ([(-1)] : List Int).getD k 0), (fun k => ([] : List (Nat → Int32)).getD k (fun _ => 0))), rfl, ⟨rfl, (by show ((-1) ≤ (-1) ∧ (-1) ≤ (-1)); show ((-1) : Int) ≤ (-1) ∧ ((-1) : Int) ≤ (-1); decide)⟩, by rw [ht]; exact hP.sub [] rfl, hD.sub [] (by decide) rfl⟩, hS.F ht⟩) hS.2.2 dX12_workOf_53
def vs_x_wo_high : List Cond := .code yX12_workOf cX12_workOf 1 (some .int) :: (([] : List Cond) ++ ((va_wsS RX12 135 yX12_of vs_m_of6) ++ ((va_wsS RX12 135 yX12_of vs_m_of7) ++ ((va_wsS RX12 135 yX12_of vs_m_of8) ++ ((va_wsS RX12 135 yX12_of vs_m_of9) ++ ([]))))))
theorem gd_x_wo_high : vs_x_wo_high.all goodWord = true := gd_C (by decide +kernel) (gd_A (by decide +kernel) (gd_A (gd_S gd_m_of6 (by decide +kernel)) (gd_A (gd_S gd_m_of7 (by decide +kernel)) (gd_A (gd_S gd_m_of8 (by decide +kernel)) (gd_A (gd_S gd_m_of9 (by decide +kernel)) rfl)))))
set_option maxHeartbeats 4000000 in
set_option maxRecDepth 100000 in
theorem x_wo_high (l : Launch) (hl : l.stackTraces = false) (D : va_G) (cy : Nat → ClassId) (sa : Nat → Nat)  (sz : Nat) : Met l yX12_workOf vs_x_wo_high ({ frames := 5, cells := 0, slots := 0, locals := 107 }) (va_Pc [vI 271592] (pcW D cy sa sz [])) (va_Qi (fun (r : Int32) (u : SV) => r = iI (u.2.1 0) ∧ ((-1) ≤ u.2.1 0 ∧ u.2.1 0 ≤ (-1))) (fun u t => atW D (va_A [] sz) [] t) (va_A [] sz)) 0 0 (va_A [] sz) := by
  refine Met.ofW (cc := cX12_workOf) (maxL := 1) (ret := (some .int)) (by decide) rfl ?_
  intro p e s m args below meth c s₁ B hml hv
  obtain ⟨rfl, hsz, hP, hG, hD0, hT⟩ := hv
  have hx := B.exec
  have hb := B.bytes
  have hr := B.returns
  have hts := atoms_spec (ws := vs_x_wo_high) B.pre
  have hown : s.vm.findClass RX12 = some m.cls := findClass_of_methodNamed B.named
  have hlocks := B.notSynchronized
  subst hsz
  have hD := hD0.self (sz := s.heap.size)
  generalize hAe : va_A [] s.heap.size = A at hD hT ⊢
  have hA : ∀ q : Nat, s.heap.size ≤ q → A q := fun q h => by rw [← hAe]; exact Or.inr h
  have hS : va_S A s.heap s.heap [] := va_S.rf
  have hl0 := lv_entry ([vI 271592]) (n := 1) (Nat.le_of_ble_eq_true rfl)
  rw [lg_entry_eq]
  generalize (lg_sl ([vI 271592]) ++ List.replicate (1 - (lg_sl ([vI 271592])).length) Slot.unset).toArray = ls at hl0 ⊢
  have hlv : lv_has ls 1 [(0, vI 271592)] := hl0
  have gg_0 : GoodIn vs_x_wo_high (va_wsS RX12 135 yX12_of vs_m_of6) := goodIn_sub (fun w h => List.mem_cons_of_mem _ (List.mem_append_right _ (List.mem_append_left _ h))) (gd_S gd_m_of6 (by decide +kernel))
  have gg_1 : GoodIn vs_x_wo_high (va_wsS RX12 135 yX12_of vs_m_of7) := goodIn_sub (fun w h => List.mem_cons_of_mem _ (List.mem_append_right _ (List.mem_append_right _ (List.mem_append_left _ h)))) (gd_S gd_m_of7 (by decide +kernel))
  have gg_2 : GoodIn vs_x_wo_high (va_wsS RX12 135 yX12_of vs_m_of8) := goodIn_sub (fun w h => List.mem_cons_of_mem _ (List.mem_append_right _ (List.mem_append_right _ (List.mem_append_right _ (List.mem_append_left _ h))))) (gd_S gd_m_of8 (by decide +kernel))
  have gg_3 : GoodIn vs_x_wo_high (va_wsS RX12 135 yX12_of vs_m_of9) := goodIn_sub (fun w h => List.mem_cons_of_mem _ (List.mem_append_right _ (List.mem_append_right _ (List.mem_append_right _ (List.mem_append_right _ (List.mem_append_left _ h)))))) (gd_S gd_m_of9 (by decide +kernel))
  refine lv_iload_n hx hb dX12_workOf_0 rfl (lv_at hlv 0 rfl) ?_
  refine va_ldcS (q := sn sa 34) hx hb hown (st_4 hG) dX12_workOf_1 ?_
  refine cj_i (wr := []) (va_runS (As := [.ref (sn sa 34)]) (rest := [vI 271592]) ⟨hx, hb, hml, hown, hts⟩ (m_of6 l hl D cy sa  s.heap.size) (va_cwS 1 hts gg_0 rfl rfl rfl (by decide +kernel) ⟨Nat.le_of_ble_eq_true rfl, Nat.le_of_ble_eq_true rfl⟩) ⟨pcW.blind, (pcW.mk hP hD hS hA hG hT [] rfl (by decide))⟩ rfl rfl hlv.1 rfl (lv_room (Nat.le_of_ble_eq_true rfl)) dX12_workOf_3 ⟨Nat.le_of_ble_eq_true rfl, Nat.le_of_ble_eq_true rfl⟩) hP hD hS hA [] [] rfl rfl (by decide) (by decide) (fun r1 u1 H locs hw1 hP hD hS => ?_)
  obtain ⟨rfl, hq1_1⟩ := hw1
  have hP : va_P D vwCl [] H := hP
  have hD : va_D A [] := hD
  refine lt_i (y := iI 3544114) (by rw [show (u1.2.1 0) = 3544114 by omega]) ?_
  refine ir_ne (tgt := 13) hx hb dX12_workOf_6 (by decide) (by show ((-2147483648) : Int) ≤ 271592 ∧ (271592 : Int) ≤ 2147483647; decide) (by show ((-2147483648) : Int) ≤ 3544114 ∧ (3544114 : Int) ≤ 2147483647; decide) (fun c_1 => ?_) (fun c_1 => by exfalso; omega)
  refine lv_iload_n hx hb dX12_workOf_13 rfl (lv_at hlv 0 rfl) ?_
  refine va_ldcS (q := sn sa 35) hx hb hown (st_5 hG) dX12_workOf_14 ?_
  refine cj_i (wr := []) (va_runS (As := [.ref (sn sa 35)]) (rest := [vI 271592]) ⟨hx, hb, hml, hown, hts⟩ (m_of7 l hl D cy sa  H.size) (va_cwS 1 hts gg_1 rfl rfl rfl (by decide +kernel) ⟨Nat.le_of_ble_eq_true rfl, Nat.le_of_ble_eq_true rfl⟩) ⟨pcW.blind, (pcW.mk hP hD hS hA hG hT [] rfl (by decide))⟩ rfl rfl hlv.1 rfl (lv_room (Nat.le_of_ble_eq_true rfl)) dX12_workOf_16 ⟨Nat.le_of_ble_eq_true rfl, Nat.le_of_ble_eq_true rfl⟩) hP hD hS hA [] [] rfl rfl (by decide) (by decide) (fun r2 u2 H locs hw2 hP hD hS => ?_)
  obtain ⟨rfl, hq2_1⟩ := hw2
  have hP : va_P D vwCl [] H := hP
  have hD : va_D A [] := hD
  refine lt_i (y := iI 18916965) (by rw [show (u2.2.1 0) = 18916965 by omega]) ?_
  refine ir_ne (tgt := 26) hx hb dX12_workOf_19 (by decide) (by show ((-2147483648) : Int) ≤ 271592 ∧ (271592 : Int) ≤ 2147483647; decide) (by show ((-2147483648) : Int) ≤ 18916965 ∧ (18916965 : Int) ≤ 2147483647; decide) (fun c_2 => ?_) (fun c_2 => by exfalso; omega)
  refine lv_iload_n hx hb dX12_workOf_26 rfl (lv_at hlv 0 rfl) ?_
  refine va_ldcS (q := sn sa 36) hx hb hown (st_6 hG) dX12_workOf_27 ?_
  refine cj_i (wr := []) (va_runS (As := [.ref (sn sa 36)]) (rest := [vI 271592]) ⟨hx, hb, hml, hown, hts⟩ (m_of8 l hl D cy sa  H.size) (va_cwS 1 hts gg_2 rfl rfl rfl (by decide +kernel) ⟨Nat.le_of_ble_eq_true rfl, Nat.le_of_ble_eq_true rfl⟩) ⟨pcW.blind, (pcW.mk hP hD hS hA hG hT [] rfl (by decide))⟩ rfl rfl hlv.1 rfl (lv_room (Nat.le_of_ble_eq_true rfl)) dX12_workOf_29 ⟨Nat.le_of_ble_eq_true rfl, Nat.le_of_ble_eq_true rfl⟩) hP hD hS hA [] [] rfl rfl (by decide) (by decide) (fun r3 u3 H locs hw3 hP hD hS => ?_)
  obtain ⟨rfl, hq3_1⟩ := hw3
  have hP : va_P D vwCl [] H := hP
  have hD : va_D A [] := hD
  refine lt_i (y := iI 13098162) (by rw [show (u3.2.1 0) = 13098162 by omega]) ?_
  refine ir_ne (tgt := 39) hx hb dX12_workOf_32 (by decide) (by show ((-2147483648) : Int) ≤ 271592 ∧ (271592 : Int) ≤ 2147483647; decide) (by show ((-2147483648) : Int) ≤ 13098162 ∧ (13098162 : Int) ≤ 2147483647; decide) (fun c_3 => ?_) (fun c_3 => by exfalso; omega)
  refine lv_iload_n hx hb dX12_workOf_39 rfl (lv_at hlv 0 rfl) ?_
  refine va_ldcS (q := sn sa 37) hx hb hown (st_7 hG) dX12_workOf_40 ?_
  refine cj_i (wr := []) (va_runS (As := [.ref (sn sa 37)]) (rest := [vI 271592]) ⟨hx, hb, hml, hown, hts⟩ (m_of9 l hl D cy sa  H.size) (va_cwS 1 hts gg_3 rfl rfl rfl (by decide +kernel) ⟨Nat.le_of_ble_eq_true rfl, Nat.le_of_ble_eq_true rfl⟩) ⟨pcW.blind, (pcW.mk hP hD hS hA hG hT [] rfl (by decide))⟩ rfl rfl hlv.1 rfl (lv_room (Nat.le_of_ble_eq_true rfl)) dX12_workOf_42 ⟨Nat.le_of_ble_eq_true rfl, Nat.le_of_ble_eq_true rfl⟩) hP hD hS hA [] [] rfl rfl (by decide) (by decide) (fun r4 u4 H locs hw4 hP hD hS => ?_)
  obtain ⟨rfl, hq4_1⟩ := hw4
  have hP : va_P D vwCl [] H := hP
  have hD : va_D A [] := hD
  refine lt_i (y := iI 81477) (by rw [show (u4.2.1 0) = 81477 by omega]) ?_
  refine ir_ne (tgt := 52) hx hb dX12_workOf_45 (by decide) (by show ((-2147483648) : Int) ≤ 271592 ∧ (271592 : Int) ≤ 2147483647; decide) (by show ((-2147483648) : Int) ≤ 81477 ∧ (81477 : Int) ≤ 2147483647; decide) (fun c_4 => ?_) (fun c_4 => by exfalso; omega)
  refine lv_iconst (v := iI (-1)) hx hb dX12_workOf_52 (by decide) ?_
  refine W.widen (k := 0) (n := 0) (Nat.le_of_ble_eq_true rfl) (Nat.le_of_ble_eq_true rfl) ?_
  exact W.iret (v := iI (-1)) hx hb hr (fun t ht hW => ⟨⟨iI (-1), ((fun k => ([] : List Nat).getD k 0), (fun k => ([(-1)] : List Int).getD k 0), (fun k => ([] : List (Nat → Int32)).getD k (fun _ => 0))), rfl, ⟨rfl, (by show ((-1) ≤ (-1) ∧ (-1) ≤ (-1)); show ((-1) : Int) ≤ (-1) ∧ ((-1) : Int) ≤ (-1); decide)⟩, by rw [ht]; exact hP.sub [] rfl, hD.sub [] (by decide) rfl⟩, hS.F ht⟩) hS.2.2 dX12_workOf_53
def vs_x_wo_drain : List Cond := .code yX12_workOf cX12_workOf 1 (some .int) :: (([] : List Cond) ++ ((va_wsS RX12 135 yX12_of vs_m_of6) ++ ((va_wsS RX12 135 yX12_of vs_m_of7) ++ ((va_wsS RX12 135 yX12_of vs_m_of8) ++ ((va_wsS RX12 135 yX12_of vs_m_of9) ++ ([]))))))
theorem gd_x_wo_drain : vs_x_wo_drain.all goodWord = true := gd_C (by decide +kernel) (gd_A (by decide +kernel) (gd_A (gd_S gd_m_of6 (by decide +kernel)) (gd_A (gd_S gd_m_of7 (by decide +kernel)) (gd_A (gd_S gd_m_of8 (by decide +kernel)) (gd_A (gd_S gd_m_of9 (by decide +kernel)) rfl)))))
set_option maxHeartbeats 4000000 in
set_option maxRecDepth 100000 in
theorem x_wo_drain (l : Launch) (hl : l.stackTraces = false) (D : va_G) (cy : Nat → ClassId) (sa : Nat → Nat)  (sz : Nat) : Met l yX12_workOf vs_x_wo_drain ({ frames := 5, cells := 0, slots := 0, locals := 107 }) (va_Pc [vI 4785454] (pcW D cy sa sz [])) (va_Qi (fun (r : Int32) (u : SV) => r = iI (u.2.1 0) ∧ ((-1) ≤ u.2.1 0 ∧ u.2.1 0 ≤ (-1))) (fun u t => atW D (va_A [] sz) [] t) (va_A [] sz)) 0 0 (va_A [] sz) := by
  refine Met.ofW (cc := cX12_workOf) (maxL := 1) (ret := (some .int)) (by decide) rfl ?_
  intro p e s m args below meth c s₁ B hml hv
  obtain ⟨rfl, hsz, hP, hG, hD0, hT⟩ := hv
  have hx := B.exec
  have hb := B.bytes
  have hr := B.returns
  have hts := atoms_spec (ws := vs_x_wo_drain) B.pre
  have hown : s.vm.findClass RX12 = some m.cls := findClass_of_methodNamed B.named
  have hlocks := B.notSynchronized
  subst hsz
  have hD := hD0.self (sz := s.heap.size)
  generalize hAe : va_A [] s.heap.size = A at hD hT ⊢
  have hA : ∀ q : Nat, s.heap.size ≤ q → A q := fun q h => by rw [← hAe]; exact Or.inr h
  have hS : va_S A s.heap s.heap [] := va_S.rf
  have hl0 := lv_entry ([vI 4785454]) (n := 1) (Nat.le_of_ble_eq_true rfl)
  rw [lg_entry_eq]
  generalize (lg_sl ([vI 4785454]) ++ List.replicate (1 - (lg_sl ([vI 4785454])).length) Slot.unset).toArray = ls at hl0 ⊢
  have hlv : lv_has ls 1 [(0, vI 4785454)] := hl0
  have gg_0 : GoodIn vs_x_wo_drain (va_wsS RX12 135 yX12_of vs_m_of6) := goodIn_sub (fun w h => List.mem_cons_of_mem _ (List.mem_append_right _ (List.mem_append_left _ h))) (gd_S gd_m_of6 (by decide +kernel))
  have gg_1 : GoodIn vs_x_wo_drain (va_wsS RX12 135 yX12_of vs_m_of7) := goodIn_sub (fun w h => List.mem_cons_of_mem _ (List.mem_append_right _ (List.mem_append_right _ (List.mem_append_left _ h)))) (gd_S gd_m_of7 (by decide +kernel))
  have gg_2 : GoodIn vs_x_wo_drain (va_wsS RX12 135 yX12_of vs_m_of8) := goodIn_sub (fun w h => List.mem_cons_of_mem _ (List.mem_append_right _ (List.mem_append_right _ (List.mem_append_right _ (List.mem_append_left _ h))))) (gd_S gd_m_of8 (by decide +kernel))
  have gg_3 : GoodIn vs_x_wo_drain (va_wsS RX12 135 yX12_of vs_m_of9) := goodIn_sub (fun w h => List.mem_cons_of_mem _ (List.mem_append_right _ (List.mem_append_right _ (List.mem_append_right _ (List.mem_append_right _ (List.mem_append_left _ h)))))) (gd_S gd_m_of9 (by decide +kernel))
  refine lv_iload_n hx hb dX12_workOf_0 rfl (lv_at hlv 0 rfl) ?_
  refine va_ldcS (q := sn sa 34) hx hb hown (st_4 hG) dX12_workOf_1 ?_
  refine cj_i (wr := []) (va_runS (As := [.ref (sn sa 34)]) (rest := [vI 4785454]) ⟨hx, hb, hml, hown, hts⟩ (m_of6 l hl D cy sa  s.heap.size) (va_cwS 1 hts gg_0 rfl rfl rfl (by decide +kernel) ⟨Nat.le_of_ble_eq_true rfl, Nat.le_of_ble_eq_true rfl⟩) ⟨pcW.blind, (pcW.mk hP hD hS hA hG hT [] rfl (by decide))⟩ rfl rfl hlv.1 rfl (lv_room (Nat.le_of_ble_eq_true rfl)) dX12_workOf_3 ⟨Nat.le_of_ble_eq_true rfl, Nat.le_of_ble_eq_true rfl⟩) hP hD hS hA [] [] rfl rfl (by decide) (by decide) (fun r1 u1 H locs hw1 hP hD hS => ?_)
  obtain ⟨rfl, hq1_1⟩ := hw1
  have hP : va_P D vwCl [] H := hP
  have hD : va_D A [] := hD
  refine lt_i (y := iI 3544114) (by rw [show (u1.2.1 0) = 3544114 by omega]) ?_
  refine ir_ne (tgt := 13) hx hb dX12_workOf_6 (by decide) (by show ((-2147483648) : Int) ≤ 4785454 ∧ (4785454 : Int) ≤ 2147483647; decide) (by show ((-2147483648) : Int) ≤ 3544114 ∧ (3544114 : Int) ≤ 2147483647; decide) (fun c_1 => ?_) (fun c_1 => by exfalso; omega)
  refine lv_iload_n hx hb dX12_workOf_13 rfl (lv_at hlv 0 rfl) ?_
  refine va_ldcS (q := sn sa 35) hx hb hown (st_5 hG) dX12_workOf_14 ?_
  refine cj_i (wr := []) (va_runS (As := [.ref (sn sa 35)]) (rest := [vI 4785454]) ⟨hx, hb, hml, hown, hts⟩ (m_of7 l hl D cy sa  H.size) (va_cwS 1 hts gg_1 rfl rfl rfl (by decide +kernel) ⟨Nat.le_of_ble_eq_true rfl, Nat.le_of_ble_eq_true rfl⟩) ⟨pcW.blind, (pcW.mk hP hD hS hA hG hT [] rfl (by decide))⟩ rfl rfl hlv.1 rfl (lv_room (Nat.le_of_ble_eq_true rfl)) dX12_workOf_16 ⟨Nat.le_of_ble_eq_true rfl, Nat.le_of_ble_eq_true rfl⟩) hP hD hS hA [] [] rfl rfl (by decide) (by decide) (fun r2 u2 H locs hw2 hP hD hS => ?_)
  obtain ⟨rfl, hq2_1⟩ := hw2
  have hP : va_P D vwCl [] H := hP
  have hD : va_D A [] := hD
  refine lt_i (y := iI 18916965) (by rw [show (u2.2.1 0) = 18916965 by omega]) ?_
  refine ir_ne (tgt := 26) hx hb dX12_workOf_19 (by decide) (by show ((-2147483648) : Int) ≤ 4785454 ∧ (4785454 : Int) ≤ 2147483647; decide) (by show ((-2147483648) : Int) ≤ 18916965 ∧ (18916965 : Int) ≤ 2147483647; decide) (fun c_2 => ?_) (fun c_2 => by exfalso; omega)
  refine lv_iload_n hx hb dX12_workOf_26 rfl (lv_at hlv 0 rfl) ?_
  refine va_ldcS (q := sn sa 36) hx hb hown (st_6 hG) dX12_workOf_27 ?_
  refine cj_i (wr := []) (va_runS (As := [.ref (sn sa 36)]) (rest := [vI 4785454]) ⟨hx, hb, hml, hown, hts⟩ (m_of8 l hl D cy sa  H.size) (va_cwS 1 hts gg_2 rfl rfl rfl (by decide +kernel) ⟨Nat.le_of_ble_eq_true rfl, Nat.le_of_ble_eq_true rfl⟩) ⟨pcW.blind, (pcW.mk hP hD hS hA hG hT [] rfl (by decide))⟩ rfl rfl hlv.1 rfl (lv_room (Nat.le_of_ble_eq_true rfl)) dX12_workOf_29 ⟨Nat.le_of_ble_eq_true rfl, Nat.le_of_ble_eq_true rfl⟩) hP hD hS hA [] [] rfl rfl (by decide) (by decide) (fun r3 u3 H locs hw3 hP hD hS => ?_)
  obtain ⟨rfl, hq3_1⟩ := hw3
  have hP : va_P D vwCl [] H := hP
  have hD : va_D A [] := hD
  refine lt_i (y := iI 13098162) (by rw [show (u3.2.1 0) = 13098162 by omega]) ?_
  refine ir_ne (tgt := 39) hx hb dX12_workOf_32 (by decide) (by show ((-2147483648) : Int) ≤ 4785454 ∧ (4785454 : Int) ≤ 2147483647; decide) (by show ((-2147483648) : Int) ≤ 13098162 ∧ (13098162 : Int) ≤ 2147483647; decide) (fun c_3 => ?_) (fun c_3 => by exfalso; omega)
  refine lv_iload_n hx hb dX12_workOf_39 rfl (lv_at hlv 0 rfl) ?_
  refine va_ldcS (q := sn sa 37) hx hb hown (st_7 hG) dX12_workOf_40 ?_
  refine cj_i (wr := []) (va_runS (As := [.ref (sn sa 37)]) (rest := [vI 4785454]) ⟨hx, hb, hml, hown, hts⟩ (m_of9 l hl D cy sa  H.size) (va_cwS 1 hts gg_3 rfl rfl rfl (by decide +kernel) ⟨Nat.le_of_ble_eq_true rfl, Nat.le_of_ble_eq_true rfl⟩) ⟨pcW.blind, (pcW.mk hP hD hS hA hG hT [] rfl (by decide))⟩ rfl rfl hlv.1 rfl (lv_room (Nat.le_of_ble_eq_true rfl)) dX12_workOf_42 ⟨Nat.le_of_ble_eq_true rfl, Nat.le_of_ble_eq_true rfl⟩) hP hD hS hA [] [] rfl rfl (by decide) (by decide) (fun r4 u4 H locs hw4 hP hD hS => ?_)
  obtain ⟨rfl, hq4_1⟩ := hw4
  have hP : va_P D vwCl [] H := hP
  have hD : va_D A [] := hD
  refine lt_i (y := iI 81477) (by rw [show (u4.2.1 0) = 81477 by omega]) ?_
  refine ir_ne (tgt := 52) hx hb dX12_workOf_45 (by decide) (by show ((-2147483648) : Int) ≤ 4785454 ∧ (4785454 : Int) ≤ 2147483647; decide) (by show ((-2147483648) : Int) ≤ 81477 ∧ (81477 : Int) ≤ 2147483647; decide) (fun c_4 => ?_) (fun c_4 => by exfalso; omega)
  refine lv_iconst (v := iI (-1)) hx hb dX12_workOf_52 (by decide) ?_
  refine W.widen (k := 0) (n := 0) (Nat.le_of_ble_eq_true rfl) (Nat.le_of_ble_eq_true rfl) ?_
  exact W.iret (v := iI (-1)) hx hb hr (fun t ht hW => ⟨⟨iI (-1), ((fun k => ([] : List Nat).getD k 0), (fun k => ([(-1)] : List Int).getD k 0), (fun k => ([] : List (Nat → Int32)).getD k (fun _ => 0))), rfl, ⟨rfl, (by show ((-1) ≤ (-1) ∧ (-1) ≤ (-1)); show ((-1) : Int) ≤ (-1) ∧ ((-1) : Int) ≤ (-1); decide)⟩, by rw [ht]; exact hP.sub [] rfl, hD.sub [] (by decide) rfl⟩, hS.F ht⟩) hS.2.2 dX12_workOf_53
def vs_x_wo_person : List Cond := .code yX12_workOf cX12_workOf 1 (some .int) :: (([] : List Cond) ++ ((va_wsS RX12 135 yX12_of vs_m_of6) ++ ((va_wsS RX12 135 yX12_of vs_m_of7) ++ ((va_wsS RX12 135 yX12_of vs_m_of8) ++ ((va_wsS RX12 135 yX12_of vs_m_of9) ++ ([]))))))
theorem gd_x_wo_person : vs_x_wo_person.all goodWord = true := gd_C (by decide +kernel) (gd_A (by decide +kernel) (gd_A (gd_S gd_m_of6 (by decide +kernel)) (gd_A (gd_S gd_m_of7 (by decide +kernel)) (gd_A (gd_S gd_m_of8 (by decide +kernel)) (gd_A (gd_S gd_m_of9 (by decide +kernel)) rfl)))))
set_option maxHeartbeats 4000000 in
set_option maxRecDepth 100000 in
theorem x_wo_person (l : Launch) (hl : l.stackTraces = false) (D : va_G) (cy : Nat → ClassId) (sa : Nat → Nat)  (sz : Nat) : Met l yX12_workOf vs_x_wo_person ({ frames := 5, cells := 0, slots := 0, locals := 107 }) (va_Pc [vI 542723566] (pcW D cy sa sz [])) (va_Qi (fun (r : Int32) (u : SV) => r = iI (u.2.1 0) ∧ ((-1) ≤ u.2.1 0 ∧ u.2.1 0 ≤ (-1))) (fun u t => atW D (va_A [] sz) [] t) (va_A [] sz)) 0 0 (va_A [] sz) := by
  refine Met.ofW (cc := cX12_workOf) (maxL := 1) (ret := (some .int)) (by decide) rfl ?_
  intro p e s m args below meth c s₁ B hml hv
  obtain ⟨rfl, hsz, hP, hG, hD0, hT⟩ := hv
  have hx := B.exec
  have hb := B.bytes
  have hr := B.returns
  have hts := atoms_spec (ws := vs_x_wo_person) B.pre
  have hown : s.vm.findClass RX12 = some m.cls := findClass_of_methodNamed B.named
  have hlocks := B.notSynchronized
  subst hsz
  have hD := hD0.self (sz := s.heap.size)
  generalize hAe : va_A [] s.heap.size = A at hD hT ⊢
  have hA : ∀ q : Nat, s.heap.size ≤ q → A q := fun q h => by rw [← hAe]; exact Or.inr h
  have hS : va_S A s.heap s.heap [] := va_S.rf
  have hl0 := lv_entry ([vI 542723566]) (n := 1) (Nat.le_of_ble_eq_true rfl)
  rw [lg_entry_eq]
  generalize (lg_sl ([vI 542723566]) ++ List.replicate (1 - (lg_sl ([vI 542723566])).length) Slot.unset).toArray = ls at hl0 ⊢
  have hlv : lv_has ls 1 [(0, vI 542723566)] := hl0
  have gg_0 : GoodIn vs_x_wo_person (va_wsS RX12 135 yX12_of vs_m_of6) := goodIn_sub (fun w h => List.mem_cons_of_mem _ (List.mem_append_right _ (List.mem_append_left _ h))) (gd_S gd_m_of6 (by decide +kernel))
  have gg_1 : GoodIn vs_x_wo_person (va_wsS RX12 135 yX12_of vs_m_of7) := goodIn_sub (fun w h => List.mem_cons_of_mem _ (List.mem_append_right _ (List.mem_append_right _ (List.mem_append_left _ h)))) (gd_S gd_m_of7 (by decide +kernel))
  have gg_2 : GoodIn vs_x_wo_person (va_wsS RX12 135 yX12_of vs_m_of8) := goodIn_sub (fun w h => List.mem_cons_of_mem _ (List.mem_append_right _ (List.mem_append_right _ (List.mem_append_right _ (List.mem_append_left _ h))))) (gd_S gd_m_of8 (by decide +kernel))
  have gg_3 : GoodIn vs_x_wo_person (va_wsS RX12 135 yX12_of vs_m_of9) := goodIn_sub (fun w h => List.mem_cons_of_mem _ (List.mem_append_right _ (List.mem_append_right _ (List.mem_append_right _ (List.mem_append_right _ (List.mem_append_left _ h)))))) (gd_S gd_m_of9 (by decide +kernel))
  refine lv_iload_n hx hb dX12_workOf_0 rfl (lv_at hlv 0 rfl) ?_
  refine va_ldcS (q := sn sa 34) hx hb hown (st_4 hG) dX12_workOf_1 ?_
  refine cj_i (wr := []) (va_runS (As := [.ref (sn sa 34)]) (rest := [vI 542723566]) ⟨hx, hb, hml, hown, hts⟩ (m_of6 l hl D cy sa  s.heap.size) (va_cwS 1 hts gg_0 rfl rfl rfl (by decide +kernel) ⟨Nat.le_of_ble_eq_true rfl, Nat.le_of_ble_eq_true rfl⟩) ⟨pcW.blind, (pcW.mk hP hD hS hA hG hT [] rfl (by decide))⟩ rfl rfl hlv.1 rfl (lv_room (Nat.le_of_ble_eq_true rfl)) dX12_workOf_3 ⟨Nat.le_of_ble_eq_true rfl, Nat.le_of_ble_eq_true rfl⟩) hP hD hS hA [] [] rfl rfl (by decide) (by decide) (fun r1 u1 H locs hw1 hP hD hS => ?_)
  obtain ⟨rfl, hq1_1⟩ := hw1
  have hP : va_P D vwCl [] H := hP
  have hD : va_D A [] := hD
  refine lt_i (y := iI 3544114) (by rw [show (u1.2.1 0) = 3544114 by omega]) ?_
  refine ir_ne (tgt := 13) hx hb dX12_workOf_6 (by decide) (by show ((-2147483648) : Int) ≤ 542723566 ∧ (542723566 : Int) ≤ 2147483647; decide) (by show ((-2147483648) : Int) ≤ 3544114 ∧ (3544114 : Int) ≤ 2147483647; decide) (fun c_1 => ?_) (fun c_1 => by exfalso; omega)
  refine lv_iload_n hx hb dX12_workOf_13 rfl (lv_at hlv 0 rfl) ?_
  refine va_ldcS (q := sn sa 35) hx hb hown (st_5 hG) dX12_workOf_14 ?_
  refine cj_i (wr := []) (va_runS (As := [.ref (sn sa 35)]) (rest := [vI 542723566]) ⟨hx, hb, hml, hown, hts⟩ (m_of7 l hl D cy sa  H.size) (va_cwS 1 hts gg_1 rfl rfl rfl (by decide +kernel) ⟨Nat.le_of_ble_eq_true rfl, Nat.le_of_ble_eq_true rfl⟩) ⟨pcW.blind, (pcW.mk hP hD hS hA hG hT [] rfl (by decide))⟩ rfl rfl hlv.1 rfl (lv_room (Nat.le_of_ble_eq_true rfl)) dX12_workOf_16 ⟨Nat.le_of_ble_eq_true rfl, Nat.le_of_ble_eq_true rfl⟩) hP hD hS hA [] [] rfl rfl (by decide) (by decide) (fun r2 u2 H locs hw2 hP hD hS => ?_)
  obtain ⟨rfl, hq2_1⟩ := hw2
  have hP : va_P D vwCl [] H := hP
  have hD : va_D A [] := hD
  refine lt_i (y := iI 18916965) (by rw [show (u2.2.1 0) = 18916965 by omega]) ?_
  refine ir_ne (tgt := 26) hx hb dX12_workOf_19 (by decide) (by show ((-2147483648) : Int) ≤ 542723566 ∧ (542723566 : Int) ≤ 2147483647; decide) (by show ((-2147483648) : Int) ≤ 18916965 ∧ (18916965 : Int) ≤ 2147483647; decide) (fun c_2 => ?_) (fun c_2 => by exfalso; omega)
  refine lv_iload_n hx hb dX12_workOf_26 rfl (lv_at hlv 0 rfl) ?_
  refine va_ldcS (q := sn sa 36) hx hb hown (st_6 hG) dX12_workOf_27 ?_
  refine cj_i (wr := []) (va_runS (As := [.ref (sn sa 36)]) (rest := [vI 542723566]) ⟨hx, hb, hml, hown, hts⟩ (m_of8 l hl D cy sa  H.size) (va_cwS 1 hts gg_2 rfl rfl rfl (by decide +kernel) ⟨Nat.le_of_ble_eq_true rfl, Nat.le_of_ble_eq_true rfl⟩) ⟨pcW.blind, (pcW.mk hP hD hS hA hG hT [] rfl (by decide))⟩ rfl rfl hlv.1 rfl (lv_room (Nat.le_of_ble_eq_true rfl)) dX12_workOf_29 ⟨Nat.le_of_ble_eq_true rfl, Nat.le_of_ble_eq_true rfl⟩) hP hD hS hA [] [] rfl rfl (by decide) (by decide) (fun r3 u3 H locs hw3 hP hD hS => ?_)
  obtain ⟨rfl, hq3_1⟩ := hw3
  have hP : va_P D vwCl [] H := hP
  have hD : va_D A [] := hD
  refine lt_i (y := iI 13098162) (by rw [show (u3.2.1 0) = 13098162 by omega]) ?_
  refine ir_ne (tgt := 39) hx hb dX12_workOf_32 (by decide) (by show ((-2147483648) : Int) ≤ 542723566 ∧ (542723566 : Int) ≤ 2147483647; decide) (by show ((-2147483648) : Int) ≤ 13098162 ∧ (13098162 : Int) ≤ 2147483647; decide) (fun c_3 => ?_) (fun c_3 => by exfalso; omega)
  refine lv_iload_n hx hb dX12_workOf_39 rfl (lv_at hlv 0 rfl) ?_
  refine va_ldcS (q := sn sa 37) hx hb hown (st_7 hG) dX12_workOf_40 ?_
  refine cj_i (wr := []) (va_runS (As := [.ref (sn sa 37)]) (rest := [vI 542723566]) ⟨hx, hb, hml, hown, hts⟩ (m_of9 l hl D cy sa  H.size) (va_cwS 1 hts gg_3 rfl rfl rfl (by decide +kernel) ⟨Nat.le_of_ble_eq_true rfl, Nat.le_of_ble_eq_true rfl⟩) ⟨pcW.blind, (pcW.mk hP hD hS hA hG hT [] rfl (by decide))⟩ rfl rfl hlv.1 rfl (lv_room (Nat.le_of_ble_eq_true rfl)) dX12_workOf_42 ⟨Nat.le_of_ble_eq_true rfl, Nat.le_of_ble_eq_true rfl⟩) hP hD hS hA [] [] rfl rfl (by decide) (by decide) (fun r4 u4 H locs hw4 hP hD hS => ?_)
  obtain ⟨rfl, hq4_1⟩ := hw4
  have hP : va_P D vwCl [] H := hP
  have hD : va_D A [] := hD
  refine lt_i (y := iI 81477) (by rw [show (u4.2.1 0) = 81477 by omega]) ?_
  refine ir_ne (tgt := 52) hx hb dX12_workOf_45 (by decide) (by show ((-2147483648) : Int) ≤ 542723566 ∧ (542723566 : Int) ≤ 2147483647; decide) (by show ((-2147483648) : Int) ≤ 81477 ∧ (81477 : Int) ≤ 2147483647; decide) (fun c_4 => ?_) (fun c_4 => by exfalso; omega)
  refine lv_iconst (v := iI (-1)) hx hb dX12_workOf_52 (by decide) ?_
  refine W.widen (k := 0) (n := 0) (Nat.le_of_ble_eq_true rfl) (Nat.le_of_ble_eq_true rfl) ?_
  exact W.iret (v := iI (-1)) hx hb hr (fun t ht hW => ⟨⟨iI (-1), ((fun k => ([] : List Nat).getD k 0), (fun k => ([(-1)] : List Int).getD k 0), (fun k => ([] : List (Nat → Int32)).getD k (fun _ => 0))), rfl, ⟨rfl, (by show ((-1) ≤ (-1) ∧ (-1) ≤ (-1)); show ((-1) : Int) ≤ (-1) ∧ ((-1) : Int) ≤ (-1); decide)⟩, by rw [ht]; exact hP.sub [] rfl, hD.sub [] (by decide) rfl⟩, hS.F ht⟩) hS.2.2 dX12_workOf_53
def vs_x_wo_z : List Cond := .code yX12_workOf cX12_workOf 1 (some .int) :: (([] : List Cond) ++ ((va_wsS RX12 135 yX12_of vs_m_of6) ++ ((va_wsS RX12 135 yX12_of vs_m_of7) ++ ((va_wsS RX12 135 yX12_of vs_m_of8) ++ ((va_wsS RX12 135 yX12_of vs_m_of9) ++ ([]))))))
theorem gd_x_wo_z : vs_x_wo_z.all goodWord = true := gd_C (by decide +kernel) (gd_A (by decide +kernel) (gd_A (gd_S gd_m_of6 (by decide +kernel)) (gd_A (gd_S gd_m_of7 (by decide +kernel)) (gd_A (gd_S gd_m_of8 (by decide +kernel)) (gd_A (gd_S gd_m_of9 (by decide +kernel)) rfl)))))
set_option maxHeartbeats 4000000 in
set_option maxRecDepth 100000 in
theorem x_wo_z (l : Launch) (hl : l.stackTraces = false) (D : va_G) (cy : Nat → ClassId) (sa : Nat → Nat)  (sz : Nat) : Met l yX12_workOf vs_x_wo_z ({ frames := 5, cells := 0, slots := 0, locals := 107 }) (va_Pc [vI 0] (pcW D cy sa sz [])) (va_Qi (fun (r : Int32) (u : SV) => r = iI (u.2.1 0) ∧ ((-1) ≤ u.2.1 0 ∧ u.2.1 0 ≤ (-1))) (fun u t => atW D (va_A [] sz) [] t) (va_A [] sz)) 0 0 (va_A [] sz) := by
  refine Met.ofW (cc := cX12_workOf) (maxL := 1) (ret := (some .int)) (by decide) rfl ?_
  intro p e s m args below meth c s₁ B hml hv
  obtain ⟨rfl, hsz, hP, hG, hD0, hT⟩ := hv
  have hx := B.exec
  have hb := B.bytes
  have hr := B.returns
  have hts := atoms_spec (ws := vs_x_wo_z) B.pre
  have hown : s.vm.findClass RX12 = some m.cls := findClass_of_methodNamed B.named
  have hlocks := B.notSynchronized
  subst hsz
  have hD := hD0.self (sz := s.heap.size)
  generalize hAe : va_A [] s.heap.size = A at hD hT ⊢
  have hA : ∀ q : Nat, s.heap.size ≤ q → A q := fun q h => by rw [← hAe]; exact Or.inr h
  have hS : va_S A s.heap s.heap [] := va_S.rf
  have hl0 := lv_entry ([vI 0]) (n := 1) (Nat.le_of_ble_eq_true rfl)
  rw [lg_entry_eq]
  generalize (lg_sl ([vI 0]) ++ List.replicate (1 - (lg_sl ([vI 0])).length) Slot.unset).toArray = ls at hl0 ⊢
  have hlv : lv_has ls 1 [(0, vI 0)] := hl0
  have gg_0 : GoodIn vs_x_wo_z (va_wsS RX12 135 yX12_of vs_m_of6) := goodIn_sub (fun w h => List.mem_cons_of_mem _ (List.mem_append_right _ (List.mem_append_left _ h))) (gd_S gd_m_of6 (by decide +kernel))
  have gg_1 : GoodIn vs_x_wo_z (va_wsS RX12 135 yX12_of vs_m_of7) := goodIn_sub (fun w h => List.mem_cons_of_mem _ (List.mem_append_right _ (List.mem_append_right _ (List.mem_append_left _ h)))) (gd_S gd_m_of7 (by decide +kernel))
  have gg_2 : GoodIn vs_x_wo_z (va_wsS RX12 135 yX12_of vs_m_of8) := goodIn_sub (fun w h => List.mem_cons_of_mem _ (List.mem_append_right _ (List.mem_append_right _ (List.mem_append_right _ (List.mem_append_left _ h))))) (gd_S gd_m_of8 (by decide +kernel))
  have gg_3 : GoodIn vs_x_wo_z (va_wsS RX12 135 yX12_of vs_m_of9) := goodIn_sub (fun w h => List.mem_cons_of_mem _ (List.mem_append_right _ (List.mem_append_right _ (List.mem_append_right _ (List.mem_append_right _ (List.mem_append_left _ h)))))) (gd_S gd_m_of9 (by decide +kernel))
  refine lv_iload_n hx hb dX12_workOf_0 rfl (lv_at hlv 0 rfl) ?_
  refine va_ldcS (q := sn sa 34) hx hb hown (st_4 hG) dX12_workOf_1 ?_
  refine cj_i (wr := []) (va_runS (As := [.ref (sn sa 34)]) (rest := [vI 0]) ⟨hx, hb, hml, hown, hts⟩ (m_of6 l hl D cy sa  s.heap.size) (va_cwS 1 hts gg_0 rfl rfl rfl (by decide +kernel) ⟨Nat.le_of_ble_eq_true rfl, Nat.le_of_ble_eq_true rfl⟩) ⟨pcW.blind, (pcW.mk hP hD hS hA hG hT [] rfl (by decide))⟩ rfl rfl hlv.1 rfl (lv_room (Nat.le_of_ble_eq_true rfl)) dX12_workOf_3 ⟨Nat.le_of_ble_eq_true rfl, Nat.le_of_ble_eq_true rfl⟩) hP hD hS hA [] [] rfl rfl (by decide) (by decide) (fun r1 u1 H locs hw1 hP hD hS => ?_)
  obtain ⟨rfl, hq1_1⟩ := hw1
  have hP : va_P D vwCl [] H := hP
  have hD : va_D A [] := hD
  refine lt_i (y := iI 3544114) (by rw [show (u1.2.1 0) = 3544114 by omega]) ?_
  refine ir_ne (tgt := 13) hx hb dX12_workOf_6 (by decide) (by show ((-2147483648) : Int) ≤ 0 ∧ (0 : Int) ≤ 2147483647; decide) (by show ((-2147483648) : Int) ≤ 3544114 ∧ (3544114 : Int) ≤ 2147483647; decide) (fun c_1 => ?_) (fun c_1 => by exfalso; omega)
  refine lv_iload_n hx hb dX12_workOf_13 rfl (lv_at hlv 0 rfl) ?_
  refine va_ldcS (q := sn sa 35) hx hb hown (st_5 hG) dX12_workOf_14 ?_
  refine cj_i (wr := []) (va_runS (As := [.ref (sn sa 35)]) (rest := [vI 0]) ⟨hx, hb, hml, hown, hts⟩ (m_of7 l hl D cy sa  H.size) (va_cwS 1 hts gg_1 rfl rfl rfl (by decide +kernel) ⟨Nat.le_of_ble_eq_true rfl, Nat.le_of_ble_eq_true rfl⟩) ⟨pcW.blind, (pcW.mk hP hD hS hA hG hT [] rfl (by decide))⟩ rfl rfl hlv.1 rfl (lv_room (Nat.le_of_ble_eq_true rfl)) dX12_workOf_16 ⟨Nat.le_of_ble_eq_true rfl, Nat.le_of_ble_eq_true rfl⟩) hP hD hS hA [] [] rfl rfl (by decide) (by decide) (fun r2 u2 H locs hw2 hP hD hS => ?_)
  obtain ⟨rfl, hq2_1⟩ := hw2
  have hP : va_P D vwCl [] H := hP
  have hD : va_D A [] := hD
  refine lt_i (y := iI 18916965) (by rw [show (u2.2.1 0) = 18916965 by omega]) ?_
  refine ir_ne (tgt := 26) hx hb dX12_workOf_19 (by decide) (by show ((-2147483648) : Int) ≤ 0 ∧ (0 : Int) ≤ 2147483647; decide) (by show ((-2147483648) : Int) ≤ 18916965 ∧ (18916965 : Int) ≤ 2147483647; decide) (fun c_2 => ?_) (fun c_2 => by exfalso; omega)
  refine lv_iload_n hx hb dX12_workOf_26 rfl (lv_at hlv 0 rfl) ?_
  refine va_ldcS (q := sn sa 36) hx hb hown (st_6 hG) dX12_workOf_27 ?_
  refine cj_i (wr := []) (va_runS (As := [.ref (sn sa 36)]) (rest := [vI 0]) ⟨hx, hb, hml, hown, hts⟩ (m_of8 l hl D cy sa  H.size) (va_cwS 1 hts gg_2 rfl rfl rfl (by decide +kernel) ⟨Nat.le_of_ble_eq_true rfl, Nat.le_of_ble_eq_true rfl⟩) ⟨pcW.blind, (pcW.mk hP hD hS hA hG hT [] rfl (by decide))⟩ rfl rfl hlv.1 rfl (lv_room (Nat.le_of_ble_eq_true rfl)) dX12_workOf_29 ⟨Nat.le_of_ble_eq_true rfl, Nat.le_of_ble_eq_true rfl⟩) hP hD hS hA [] [] rfl rfl (by decide) (by decide) (fun r3 u3 H locs hw3 hP hD hS => ?_)
  obtain ⟨rfl, hq3_1⟩ := hw3
  have hP : va_P D vwCl [] H := hP
  have hD : va_D A [] := hD
  refine lt_i (y := iI 13098162) (by rw [show (u3.2.1 0) = 13098162 by omega]) ?_
  refine ir_ne (tgt := 39) hx hb dX12_workOf_32 (by decide) (by show ((-2147483648) : Int) ≤ 0 ∧ (0 : Int) ≤ 2147483647; decide) (by show ((-2147483648) : Int) ≤ 13098162 ∧ (13098162 : Int) ≤ 2147483647; decide) (fun c_3 => ?_) (fun c_3 => by exfalso; omega)
  refine lv_iload_n hx hb dX12_workOf_39 rfl (lv_at hlv 0 rfl) ?_
  refine va_ldcS (q := sn sa 37) hx hb hown (st_7 hG) dX12_workOf_40 ?_
  refine cj_i (wr := []) (va_runS (As := [.ref (sn sa 37)]) (rest := [vI 0]) ⟨hx, hb, hml, hown, hts⟩ (m_of9 l hl D cy sa  H.size) (va_cwS 1 hts gg_3 rfl rfl rfl (by decide +kernel) ⟨Nat.le_of_ble_eq_true rfl, Nat.le_of_ble_eq_true rfl⟩) ⟨pcW.blind, (pcW.mk hP hD hS hA hG hT [] rfl (by decide))⟩ rfl rfl hlv.1 rfl (lv_room (Nat.le_of_ble_eq_true rfl)) dX12_workOf_42 ⟨Nat.le_of_ble_eq_true rfl, Nat.le_of_ble_eq_true rfl⟩) hP hD hS hA [] [] rfl rfl (by decide) (by decide) (fun r4 u4 H locs hw4 hP hD hS => ?_)
  obtain ⟨rfl, hq4_1⟩ := hw4
  have hP : va_P D vwCl [] H := hP
  have hD : va_D A [] := hD
  refine lt_i (y := iI 81477) (by rw [show (u4.2.1 0) = 81477 by omega]) ?_
  refine ir_ne (tgt := 52) hx hb dX12_workOf_45 (by decide) (by show ((-2147483648) : Int) ≤ 0 ∧ (0 : Int) ≤ 2147483647; decide) (by show ((-2147483648) : Int) ≤ 81477 ∧ (81477 : Int) ≤ 2147483647; decide) (fun c_4 => ?_) (fun c_4 => by exfalso; omega)
  refine lv_iconst (v := iI (-1)) hx hb dX12_workOf_52 (by decide) ?_
  refine W.widen (k := 0) (n := 0) (Nat.le_of_ble_eq_true rfl) (Nat.le_of_ble_eq_true rfl) ?_
  exact W.iret (v := iI (-1)) hx hb hr (fun t ht hW => ⟨⟨iI (-1), ((fun k => ([] : List Nat).getD k 0), (fun k => ([(-1)] : List Int).getD k 0), (fun k => ([] : List (Nat → Int32)).getD k (fun _ => 0))), rfl, ⟨rfl, (by show ((-1) ≤ (-1) ∧ (-1) ≤ (-1)); show ((-1) : Int) ≤ (-1) ∧ ((-1) : Int) ≤ (-1); decide)⟩, by rw [ht]; exact hP.sub [] rfl, hD.sub [] (by decide) rfl⟩, hS.F ht⟩) hS.2.2 dX12_workOf_53
def vs_x_won : List Cond := .code yX12_workOf cX12_workOf 1 (some .int) :: (([] : List Cond) ++ ((va_wsS RX12 135 yX12_of vs_m_of6) ++ ((va_wsS RX12 135 yX12_of vs_m_of7) ++ ((va_wsS RX12 135 yX12_of vs_m_of8) ++ ((va_wsS RX12 135 yX12_of vs_m_of9) ++ ([]))))))
theorem gd_x_won : vs_x_won.all goodWord = true := gd_C (by decide +kernel) (gd_A (by decide +kernel) (gd_A (gd_S gd_m_of6 (by decide +kernel)) (gd_A (gd_S gd_m_of7 (by decide +kernel)) (gd_A (gd_S gd_m_of8 (by decide +kernel)) (gd_A (gd_S gd_m_of9 (by decide +kernel)) rfl)))))
set_option maxHeartbeats 4000000 in
set_option maxRecDepth 100000 in
theorem x_won (l : Launch) (hl : l.stackTraces = false) (D : va_G) (cy : Nat → ClassId) (sa : Nat → Nat) (w : Int) (sz : Nat) (hr_w : (-2147483648) ≤ w ∧ w ≤ 2147483647) (hp0 : w ≠ 3544114) (hp1 : w ≠ 18916965) (hp2 : w ≠ 13098162) (hp3 : w ≠ 81477) : Met l yX12_workOf vs_x_won ({ frames := 5, cells := 0, slots := 0, locals := 107 }) (va_Pc [vI w] (pcW D cy sa sz [])) (va_Qi (fun (r : Int32) (u : SV) => r = iI (u.2.1 0) ∧ ((-1) ≤ u.2.1 0 ∧ u.2.1 0 ≤ (-1))) (fun u t => atW D (va_A [] sz) [] t) (va_A [] sz)) 0 0 (va_A [] sz) := by
  refine Met.ofW (cc := cX12_workOf) (maxL := 1) (ret := (some .int)) (by decide) rfl ?_
  intro p e s m args below meth c s₁ B hml hv
  obtain ⟨rfl, hsz, hP, hG, hD0, hT⟩ := hv
  have hx := B.exec
  have hb := B.bytes
  have hr := B.returns
  have hts := atoms_spec (ws := vs_x_won) B.pre
  have hown : s.vm.findClass RX12 = some m.cls := findClass_of_methodNamed B.named
  have hlocks := B.notSynchronized
  subst hsz
  have hD := hD0.self (sz := s.heap.size)
  generalize hAe : va_A [] s.heap.size = A at hD hT ⊢
  have hA : ∀ q : Nat, s.heap.size ≤ q → A q := fun q h => by rw [← hAe]; exact Or.inr h
  have hS : va_S A s.heap s.heap [] := va_S.rf
  have hl0 := lv_entry ([vI w]) (n := 1) (Nat.le_of_ble_eq_true rfl)
  rw [lg_entry_eq]
  generalize (lg_sl ([vI w]) ++ List.replicate (1 - (lg_sl ([vI w])).length) Slot.unset).toArray = ls at hl0 ⊢
  have hlv : lv_has ls 1 [(0, vI w)] := hl0
  have gg_0 : GoodIn vs_x_won (va_wsS RX12 135 yX12_of vs_m_of6) := goodIn_sub (fun w h => List.mem_cons_of_mem _ (List.mem_append_right _ (List.mem_append_left _ h))) (gd_S gd_m_of6 (by decide +kernel))
  have gg_1 : GoodIn vs_x_won (va_wsS RX12 135 yX12_of vs_m_of7) := goodIn_sub (fun w h => List.mem_cons_of_mem _ (List.mem_append_right _ (List.mem_append_right _ (List.mem_append_left _ h)))) (gd_S gd_m_of7 (by decide +kernel))
  have gg_2 : GoodIn vs_x_won (va_wsS RX12 135 yX12_of vs_m_of8) := goodIn_sub (fun w h => List.mem_cons_of_mem _ (List.mem_append_right _ (List.mem_append_right _ (List.mem_append_right _ (List.mem_append_left _ h))))) (gd_S gd_m_of8 (by decide +kernel))
  have gg_3 : GoodIn vs_x_won (va_wsS RX12 135 yX12_of vs_m_of9) := goodIn_sub (fun w h => List.mem_cons_of_mem _ (List.mem_append_right _ (List.mem_append_right _ (List.mem_append_right _ (List.mem_append_right _ (List.mem_append_left _ h)))))) (gd_S gd_m_of9 (by decide +kernel))
  refine lv_iload_n hx hb dX12_workOf_0 rfl (lv_at hlv 0 rfl) ?_
  refine va_ldcS (q := sn sa 34) hx hb hown (st_4 hG) dX12_workOf_1 ?_
  refine cj_i (wr := []) (va_runS (As := [.ref (sn sa 34)]) (rest := [vI w]) ⟨hx, hb, hml, hown, hts⟩ (m_of6 l hl D cy sa  s.heap.size) (va_cwS 1 hts gg_0 rfl rfl rfl (by decide +kernel) ⟨Nat.le_of_ble_eq_true rfl, Nat.le_of_ble_eq_true rfl⟩) ⟨pcW.blind, (pcW.mk hP hD hS hA hG hT [] rfl (by decide))⟩ rfl rfl hlv.1 rfl (lv_room (Nat.le_of_ble_eq_true rfl)) dX12_workOf_3 ⟨Nat.le_of_ble_eq_true rfl, Nat.le_of_ble_eq_true rfl⟩) hP hD hS hA [] [] rfl rfl (by decide) (by decide) (fun r1 u1 H locs hw1 hP hD hS => ?_)
  obtain ⟨rfl, hq1_1⟩ := hw1
  have hP : va_P D vwCl [] H := hP
  have hD : va_D A [] := hD
  refine lt_i (y := iI 3544114) (by rw [show (u1.2.1 0) = 3544114 by omega]) ?_
  refine ir_ne (tgt := 13) hx hb dX12_workOf_6 (by decide) (by first | exact hr_w | omega) (by show ((-2147483648) : Int) ≤ 3544114 ∧ (3544114 : Int) ≤ 2147483647; decide) (fun c_1 => ?_) (fun c_1 => by exfalso; omega)
  refine lv_iload_n hx hb dX12_workOf_13 rfl (lv_at hlv 0 rfl) ?_
  refine va_ldcS (q := sn sa 35) hx hb hown (st_5 hG) dX12_workOf_14 ?_
  refine cj_i (wr := []) (va_runS (As := [.ref (sn sa 35)]) (rest := [vI w]) ⟨hx, hb, hml, hown, hts⟩ (m_of7 l hl D cy sa  H.size) (va_cwS 1 hts gg_1 rfl rfl rfl (by decide +kernel) ⟨Nat.le_of_ble_eq_true rfl, Nat.le_of_ble_eq_true rfl⟩) ⟨pcW.blind, (pcW.mk hP hD hS hA hG hT [] rfl (by decide))⟩ rfl rfl hlv.1 rfl (lv_room (Nat.le_of_ble_eq_true rfl)) dX12_workOf_16 ⟨Nat.le_of_ble_eq_true rfl, Nat.le_of_ble_eq_true rfl⟩) hP hD hS hA [] [] rfl rfl (by decide) (by decide) (fun r2 u2 H locs hw2 hP hD hS => ?_)
  obtain ⟨rfl, hq2_1⟩ := hw2
  have hP : va_P D vwCl [] H := hP
  have hD : va_D A [] := hD
  refine lt_i (y := iI 18916965) (by rw [show (u2.2.1 0) = 18916965 by omega]) ?_
  refine ir_ne (tgt := 26) hx hb dX12_workOf_19 (by decide) (by first | exact hr_w | omega) (by show ((-2147483648) : Int) ≤ 18916965 ∧ (18916965 : Int) ≤ 2147483647; decide) (fun c_2 => ?_) (fun c_2 => by exfalso; omega)
  refine lv_iload_n hx hb dX12_workOf_26 rfl (lv_at hlv 0 rfl) ?_
  refine va_ldcS (q := sn sa 36) hx hb hown (st_6 hG) dX12_workOf_27 ?_
  refine cj_i (wr := []) (va_runS (As := [.ref (sn sa 36)]) (rest := [vI w]) ⟨hx, hb, hml, hown, hts⟩ (m_of8 l hl D cy sa  H.size) (va_cwS 1 hts gg_2 rfl rfl rfl (by decide +kernel) ⟨Nat.le_of_ble_eq_true rfl, Nat.le_of_ble_eq_true rfl⟩) ⟨pcW.blind, (pcW.mk hP hD hS hA hG hT [] rfl (by decide))⟩ rfl rfl hlv.1 rfl (lv_room (Nat.le_of_ble_eq_true rfl)) dX12_workOf_29 ⟨Nat.le_of_ble_eq_true rfl, Nat.le_of_ble_eq_true rfl⟩) hP hD hS hA [] [] rfl rfl (by decide) (by decide) (fun r3 u3 H locs hw3 hP hD hS => ?_)
  obtain ⟨rfl, hq3_1⟩ := hw3
  have hP : va_P D vwCl [] H := hP
  have hD : va_D A [] := hD
  refine lt_i (y := iI 13098162) (by rw [show (u3.2.1 0) = 13098162 by omega]) ?_
  refine ir_ne (tgt := 39) hx hb dX12_workOf_32 (by decide) (by first | exact hr_w | omega) (by show ((-2147483648) : Int) ≤ 13098162 ∧ (13098162 : Int) ≤ 2147483647; decide) (fun c_3 => ?_) (fun c_3 => by exfalso; omega)
  refine lv_iload_n hx hb dX12_workOf_39 rfl (lv_at hlv 0 rfl) ?_
  refine va_ldcS (q := sn sa 37) hx hb hown (st_7 hG) dX12_workOf_40 ?_
  refine cj_i (wr := []) (va_runS (As := [.ref (sn sa 37)]) (rest := [vI w]) ⟨hx, hb, hml, hown, hts⟩ (m_of9 l hl D cy sa  H.size) (va_cwS 1 hts gg_3 rfl rfl rfl (by decide +kernel) ⟨Nat.le_of_ble_eq_true rfl, Nat.le_of_ble_eq_true rfl⟩) ⟨pcW.blind, (pcW.mk hP hD hS hA hG hT [] rfl (by decide))⟩ rfl rfl hlv.1 rfl (lv_room (Nat.le_of_ble_eq_true rfl)) dX12_workOf_42 ⟨Nat.le_of_ble_eq_true rfl, Nat.le_of_ble_eq_true rfl⟩) hP hD hS hA [] [] rfl rfl (by decide) (by decide) (fun r4 u4 H locs hw4 hP hD hS => ?_)
  obtain ⟨rfl, hq4_1⟩ := hw4
  have hP : va_P D vwCl [] H := hP
  have hD : va_D A [] := hD
  refine lt_i (y := iI 81477) (by rw [show (u4.2.1 0) = 81477 by omega]) ?_
  refine ir_ne (tgt := 52) hx hb dX12_workOf_45 (by decide) (by first | exact hr_w | omega) (by show ((-2147483648) : Int) ≤ 81477 ∧ (81477 : Int) ≤ 2147483647; decide) (fun c_4 => ?_) (fun c_4 => by exfalso; omega)
  refine lv_iconst (v := iI (-1)) hx hb dX12_workOf_52 (by decide) ?_
  refine W.widen (k := 0) (n := 0) (Nat.le_of_ble_eq_true rfl) (Nat.le_of_ble_eq_true rfl) ?_
  exact W.iret (v := iI (-1)) hx hb hr (fun t ht hW => ⟨⟨iI (-1), ((fun k => ([] : List Nat).getD k 0), (fun k => ([(-1)] : List Int).getD k 0), (fun k => ([] : List (Nat → Int32)).getD k (fun _ => 0))), rfl, ⟨rfl, (by show ((-1) ≤ (-1) ∧ (-1) ≤ (-1)); show ((-1) : Int) ≤ (-1) ∧ ((-1) : Int) ≤ (-1); decide)⟩, by rw [ht]; exact hP.sub [] rfl, hD.sub [] (by decide) rfl⟩, hS.F ht⟩) hS.2.2 dX12_workOf_53
/-- the reference's street behind a work of kind k -/
def wkBk (nb : Nat → Int) (k : Int) (g : Nat → Int) (n a : Int) : Nat → Int := wkB nb k (v1 g n a) (yw k g n a) (bw k g n a) (cw k g n a)
theorem wkBk_0 {nb : Nat → Int} {k : Int} {g : Nat → Int} {n a : Int} (h : k = 0) : wkBk nb k g n a = upz (upz (upz (upz (upz (upz nb (28 + 5 * nb 5) k) (29 + 5 * nb 5) (nV g n a)) (30 + 5 * nb 5) 0) (31 + 5 * nb 5) 0) (32 + 5 * nb 5) (nV g n (nA g n a))) 5 (nb 5 + 1) := by
  unfold wkBk wkB yw bw cw
  rw [if_pos h, if_pos h, if_pos h]
theorem wkBk_1 {nb : Nat → Int} {k : Int} {g : Nat → Int} {n a : Int} (h : k ≠ 0) : wkBk nb k g n a = upz (upz (upz (upz (upz (upz nb (28 + 5 * nb 5) k) (29 + 5 * nb 5) (nV g n a)) (30 + 5 * nb 5) (nV g n (nA g n a))) (31 + 5 * nb 5) (nV g n (nA g n (nA g n a)))) (32 + 5 * nb 5) (nV g n (nA g n (nA g n (nA g n a))))) 5 (nb 5 + 1) := by
  unfold wkBk wkB yw bw cw
  rw [if_neg h, if_neg h, if_neg h]
def vs_x_readWork : List Cond := .code yX12_readWork cX12_readWork 7 none :: (([.fieldLink RX12 26 "KerbSplashModel" "newStreet" "[I"] : List Cond) ++ ((wsX120) ++ ((wsV RX12 127 RX12 yX12_readX vs_x_readX) ++ ((wsV RX12 130 RX12 yX12_readY vs_x_readY) ++ ((wsV RX12 123 RX12 yX12_readNumber vs_x_number) ++ ((wsV RX12 109 RX12 yX12_fine vs_m_fine) ++ ([])))))))
theorem gd_x_readWork : vs_x_readWork.all goodWord = true := gd_C (by decide +kernel) (gd_A (by decide +kernel) (gd_A (by decide +kernel) (gd_A (gd_V gd_x_readX (by decide +kernel)) (gd_A (gd_V gd_x_readY (by decide +kernel)) (gd_A (gd_V gd_x_number (by decide +kernel)) (gd_A (gd_V gd_m_fine (by decide +kernel)) rfl))))))
set_option maxHeartbeats 4000000 in
set_option maxRecDepth 100000 in
theorem x_readWork (l : Launch) (hl : l.stackTraces = false) (D : va_G) (cy : Nat → ClassId) (sa : Nat → Nat) (mm m1 m9 m10 m11 m12 m13 m14 m15 m19 m20 m21 m23 m24 m25 m26 m27 m28 m33 m35 : Nat) (th tp sz_ ap bad bk opn fp im nr nl sp_ wtc wcl ir ip shu sfa swr : Int) (f9 f11 : Nat → Int32) (k : Int) (sz : Nat) (hr_th : (-2147483648) ≤ th ∧ th ≤ 2147483647) (hr_tp : 0 ≤ tp ∧ tp ≤ 600) (hr_sz_ : 0 ≤ sz_ ∧ sz_ ≤ 600) (hr_ap : 0 ≤ ap ∧ ap ≤ 602) (hr_bad : (-1) ≤ bad ∧ bad ≤ 602) (hr_bk : 0 ≤ bk ∧ bk ≤ 4) (hr_opn : 0 ≤ opn ∧ opn ≤ 7) (hr_fp : (-2147483648) ≤ fp ∧ fp ≤ 2147483647) (hr_im : 0 ≤ im ∧ im ≤ 3) (hr_nr : 0 ≤ nr ∧ nr ≤ 4) (hr_nl : 0 ≤ nl ∧ nl ≤ 4) (hr_sp_ : 0 ≤ sp_ ∧ sp_ ≤ 602) (hr_wtc : (-2147483648) ≤ wtc ∧ wtc ≤ 2147483647) (hr_wcl : 0 ≤ wcl ∧ wcl ≤ 95) (hr_ir : 0 ≤ ir ∧ ir ≤ 5) (hr_ip : (-2147483648) ≤ ip ∧ ip ≤ 2147483647) (hr_shu : (-2147483648) ≤ shu ∧ shu ≤ 2147483647) (hr_sfa : (-2147483648) ≤ sfa ∧ sfa ≤ 2147483647) (hr_swr : (-2147483648) ≤ swr ∧ swr ≤ 2147483647) (hr_k : 0 ≤ k ∧ k ≤ 3) (hp0 : nz f11 5 < 8) (hp1 : bad ≠ -1 → 1 ≤ bk) (hf9 : inv_ 600 0 255 f9) (hf11 : NI f11) : Met l yX12_readWork vs_x_readWork ({ frames := 3, cells := 0, slots := 0, locals := 67 }) (va_Pc [vR mm, vI k] (pcW D cy sa sz [zO mm 12 [vI th, vR m1, vI tp, vI sz_, vI ap, vI bad, vI bk, vI opn, vI fp, vR m9, vR m10, vR m11, vR m12, vR m13, vR m14, vR m15, vI im, vI nr, vI nl, vR m19, vR m20, vR m21, vI sp_, vR m23, vR m24, vR m25, vR m26, vR m27, vR m28, vI wtc, vI wcl, vI ir, vI ip, vR m33, vI shu, vR m35, vI sfa, vI swr], zI m9 (cy 0) 600 f9, zI m11 (cy 0) 68 f11])) (va_Qv (fun u : SV => (0 ≤ u.2.1 1 ∧ u.2.1 1 ≤ 602) ∧ ((-1) ≤ u.2.1 2 ∧ u.2.1 2 ≤ 602) ∧ (0 ≤ u.2.1 3 ∧ u.2.1 3 ≤ 4) ∧ (ap ≤ u.2.1 1) ∧ (ap ≤ sz_ → u.2.1 1 ≤ sz_) ∧ (u.2.1 2 = -1 → bad = -1) ∧ (bad ≠ -1 → u.2.1 2 = bad) ∧ (u.2.1 2 ≠ -1 → 1 ≤ u.2.1 3) ∧ (nz (u.2.2 0) 0 = nz f11 0) ∧ (nz (u.2.2 0) 1 = nz f11 1) ∧ (nz (u.2.2 0) 2 = nz f11 2) ∧ (nz (u.2.2 0) 3 = nz f11 3) ∧ (nz (u.2.2 0) 4 = nz f11 4) ∧ (RdS (chF (nz f9) sz_ (wkL k (nz f11 0) (nz f11 1) (nz f11 2)) ap) (chP (nz f9) sz_ (wkL k (nz f11 0) (nz f11 1) (nz f11 2)) ap) (chA (nz f9) sz_ (wkL k (nz f11 0) (nz f11 1) (nz f11 2)) ap) (fr_ bad bk) bad (u.2.1 1) (fr_ (u.2.1 2) (u.2.1 3)) (u.2.1 2)) ∧ (u.2.1 2 = -1 → nz (u.2.2 0) = wkBk (nz f11) k (nz f9) sz_ ap) ∧ inv_ 600 0 255 f9 ∧ NI (u.2.2 0)) (fun u t => atW D (va_A [zO mm 12 [vI th, vR m1, vI tp, vI sz_, vI ap, vI bad, vI bk, vI opn, vI fp, vR m9, vR m10, vR m11, vR m12, vR m13, vR m14, vR m15, vI im, vI nr, vI nl, vR m19, vR m20, vR m21, vI sp_, vR m23, vR m24, vR m25, vR m26, vR m27, vR m28, vI wtc, vI wcl, vI ir, vI ip, vR m33, vI shu, vR m35, vI sfa, vI swr], zI m9 (cy 0) 600 f9, zI m11 (cy 0) 68 f11] sz) [zO mm 12 [vI th, vR m1, vI tp, vI sz_, vI (u.2.1 1), vI (u.2.1 2), vI (u.2.1 3), vI opn, vI fp, vR m9, vR m10, vR m11, vR m12, vR m13, vR m14, vR m15, vI im, vI nr, vI nl, vR m19, vR m20, vR m21, vI sp_, vR m23, vR m24, vR m25, vR m26, vR m27, vR m28, vI wtc, vI wcl, vI ir, vI ip, vR m33, vI shu, vR m35, vI sfa, vI swr], zI m9 (cy 0) 600 f9, zI m11 (cy 0) 68 (u.2.2 0)] t) (va_A [zO mm 12 [vI th, vR m1, vI tp, vI sz_, vI ap, vI bad, vI bk, vI opn, vI fp, vR m9, vR m10, vR m11, vR m12, vR m13, vR m14, vR m15, vI im, vI nr, vI nl, vR m19, vR m20, vR m21, vI sp_, vR m23, vR m24, vR m25, vR m26, vR m27, vR m28, vI wtc, vI wcl, vI ir, vI ip, vR m33, vI shu, vR m35, vI sfa, vI swr], zI m9 (cy 0) 600 f9, zI m11 (cy 0) 68 f11] sz)) 0 0 (va_A [zO mm 12 [vI th, vR m1, vI tp, vI sz_, vI ap, vI bad, vI bk, vI opn, vI fp, vR m9, vR m10, vR m11, vR m12, vR m13, vR m14, vR m15, vI im, vI nr, vI nl, vR m19, vR m20, vR m21, vI sp_, vR m23, vR m24, vR m25, vR m26, vR m27, vR m28, vI wtc, vI wcl, vI ir, vI ip, vR m33, vI shu, vR m35, vI sfa, vI swr], zI m9 (cy 0) 600 f9, zI m11 (cy 0) 68 f11] sz) := by
  refine Met.ofW (cc := cX12_readWork) (maxL := 7) (ret := none) (by decide) rfl ?_
  intro p e s m args below meth c s₁ B hml hv
  obtain ⟨rfl, hsz, hP, hG, hD0, hT⟩ := hv
  have hx := B.exec
  have hb := B.bytes
  have hr := B.returns
  have hts := atoms_spec (ws := vs_x_readWork) B.pre
  have hown : s.vm.findClass RX12 = some m.cls := findClass_of_methodNamed B.named
  have hlocks := B.notSynchronized
  subst hsz
  have hD := hD0.self (sz := s.heap.size)
  generalize hAe : va_A [zO mm 12 [vI th, vR m1, vI tp, vI sz_, vI ap, vI bad, vI bk, vI opn, vI fp, vR m9, vR m10, vR m11, vR m12, vR m13, vR m14, vR m15, vI im, vI nr, vI nl, vR m19, vR m20, vR m21, vI sp_, vR m23, vR m24, vR m25, vR m26, vR m27, vR m28, vI wtc, vI wcl, vI ir, vI ip, vR m33, vI shu, vR m35, vI sfa, vI swr], zI m9 (cy 0) 600 f9, zI m11 (cy 0) 68 f11] s.heap.size = A at hD hT ⊢
  have hA : ∀ q : Nat, s.heap.size ≤ q → A q := fun q h => by rw [← hAe]; exact Or.inr h
  have hS : va_S A s.heap s.heap [] := va_S.rf
  have hl0 := lv_entry ([vR mm, vI k]) (n := 7) (Nat.le_of_ble_eq_true rfl)
  rw [lg_entry_eq]
  generalize (lg_sl ([vR mm, vI k]) ++ List.replicate (7 - (lg_sl ([vR mm, vI k])).length) Slot.unset).toArray = ls at hl0 ⊢
  have hlv : lv_has ls 7 [(0, vR mm), (1, vI k)] := hl0
  have lf26 := hts (.fieldLink RX12 26 "KerbSplashModel" "newStreet" "[I") (List.mem_of_getElem? (i := 1) rfl)
  have hi12 : ∀ w ∈ wsX120, w ∈ vs_x_readWork := fun w h => List.mem_cons_of_mem _ (List.mem_append_right _ (List.mem_append_left _ h))
  have gg_1 : GoodIn vs_x_readWork (wsV RX12 127 RX12 yX12_readX vs_x_readX) := goodIn_sub (fun w h => List.mem_cons_of_mem _ (List.mem_append_right _ (List.mem_append_right _ (List.mem_append_left _ h)))) (gd_V gd_x_readX (by decide +kernel))
  have gg_2 : GoodIn vs_x_readWork (wsV RX12 130 RX12 yX12_readY vs_x_readY) := goodIn_sub (fun w h => List.mem_cons_of_mem _ (List.mem_append_right _ (List.mem_append_right _ (List.mem_append_right _ (List.mem_append_left _ h))))) (gd_V gd_x_readY (by decide +kernel))
  have gg_3 : GoodIn vs_x_readWork (wsV RX12 123 RX12 yX12_readNumber vs_x_number) := goodIn_sub (fun w h => List.mem_cons_of_mem _ (List.mem_append_right _ (List.mem_append_right _ (List.mem_append_right _ (List.mem_append_right _ (List.mem_append_left _ h)))))) (gd_V gd_x_number (by decide +kernel))
  have gg_4 : GoodIn vs_x_readWork (wsV RX12 109 RX12 yX12_fine vs_m_fine) := goodIn_sub (fun w h => List.mem_cons_of_mem _ (List.mem_append_right _ (List.mem_append_right _ (List.mem_append_right _ (List.mem_append_right _ (List.mem_append_right _ (List.mem_append_left _ h))))))) (gd_V gd_m_fine (by decide +kernel))
  have hn0 := hf11.1
  have hn1 := hf11.2.1
  refine lv_bipush (v := iI 28) hx hb dX12_readWork_0 (by decide) ?_
  refine lv_iconst (v := iI 5) hx hb dX12_readWork_2 (by decide) ?_
  refine lv_aload_n hx hb dX12_readWork_3 rfl (lv_at hlv 0 rfl) ?_
  refine va_get (D := D) (ci := 12) (v := vR m11) (C := RX12) (T := TX12) (N := 38) hx hb hts hi12 hown hG.1 hP 0 rfl rfl 11 (by decide) lf26 (fun _ h9 => h9) rfl dX12_readWork_4 ?_
  refine lv_iconst (v := iI 5) hx hb dX12_readWork_7 (by decide) ?_
  refine va_iald hx hb hG.1 hP 2 0 rfl rfl (iI_in (by omega) (by decide)) dX12_readWork_8 ?_
  refine lt_nz (i := 5) (by omega) (fun z_1 hz_1 lz_1 uz_1 => ?_)
  have hz_1 : z_1 = nz f11 5 := hz_1
  have hbz_1_10 := hf11.2.2.2.2.2.1
  refine lv_imul hx hb dX12_readWork_9 ?_
  refine lt_e (e0 := 5 * z_1) (Int32.ofInt_mul _ _).symm (fun z_2 hz_2 => ?_)
  refine lv_iadd hx hb dX12_readWork_10 ?_
  refine lt_e (e0 := 28 + z_2) (Int32.ofInt_add _ _).symm (fun z_3 hz_3 => ?_)
  refine lv_istore_n (lv' := [(2, vI z_3), (0, vR mm), (1, vI k)]) hx hb dX12_readWork_11 rfl hlv (by decide) rfl (fun ls hlv => ?_)
  refine lv_iload_n hx hb dX12_readWork_12 rfl (lv_at hlv 2 rfl) ?_
  refine iz_ne (tgt := 32) hx hb dX12_readWork_13 (by decide) (by first | exact rgw hr_k (by decide) (by decide) | omega) (fun c_4 => ?_) (fun c_4 => ?_)
  · refine lv_aload_n hx hb dX12_readWork_32 rfl (lv_at hlv 1 rfl) ?_
    refine cj_i (wr := []) (va_runV (As := []) (rest := []) ⟨hx, hb, hml, hown, hts⟩ (x_readX l hl D cy sa mm m1 m9 m10 m11 m12 m13 m14 m15 m19 m20 m21 m23 m24 m25 m26 m27 m28 m33 m35 th tp sz_ ap bad bk opn fp im nr nl sp_ wtc wcl ir ip shu sfa swr f9 f11 s.heap.size (by first | exact hr_th | omega) (by first | exact hr_tp | omega) (by first | exact hr_sz_ | omega) (by first | exact hr_ap | omega) (by first | exact hr_bad | omega) (by first | exact hr_bk | omega) (by first | exact hr_opn | omega) (by first | exact hr_fp | omega) (by first | exact hr_im | omega) (by first | exact hr_nr | omega) (by first | exact hr_nl | omega) (by first | exact hr_sp_ | omega) (by first | exact hr_wtc | omega) (by first | exact hr_wcl | omega) (by first | exact hr_ir | omega) (by first | exact hr_ip | omega) (by first | exact hr_shu | omega) (by first | exact hr_sfa | omega) (by first | exact hr_swr | omega) hp1 hf9 hf11) (cwV 0 hts gg_1 rfl rfl rfl (by decide +kernel) ⟨Nat.le_of_ble_eq_true rfl, Nat.le_of_ble_eq_true rfl⟩) ⟨pcW.blind, (va_recv hG.1 hP (ci := 12) (q0 := 0) rfl rfl), (pcW.mk hP hD hS hA hG hT [0, 1, 2] rfl (by decide))⟩ rfl rfl hlv.1 rfl (lv_room (Nat.le_of_ble_eq_true rfl)) dX12_readWork_33 ⟨Nat.le_of_ble_eq_true rfl, Nat.le_of_ble_eq_true rfl⟩) hP hD hS hA [0, 1, 2] [] rfl rfl (by decide) (by decide) (fun r1 u1 H locs hw1 hP hD hS => ?_)
    obtain ⟨rfl, hq1_1, hq1_2, hq1_3, hq1_4, hq1_5, hq1_6, hq1_7, hq1_8, hq1_9, hq1_10, hq1_11, hq1_12⟩ := hw1
    have hP : va_P D vwCl [zO mm 12 [vI th, vR m1, vI tp, vI sz_, vI (u1.2.1 1), vI (u1.2.1 2), vI (u1.2.1 3), vI opn, vI fp, vR m9, vR m10, vR m11, vR m12, vR m13, vR m14, vR m15, vI im, vI nr, vI nl, vR m19, vR m20, vR m21, vI sp_, vR m23, vR m24, vR m25, vR m26, vR m27, vR m28, vI wtc, vI wcl, vI ir, vI ip, vR m33, vI shu, vR m35, vI sfa, vI swr], zI m9 (cy 0) 600 f9, zI m11 (cy 0) 68 f11] H := hP
    have hD : va_D A [zO mm 12 [vI th, vR m1, vI tp, vI sz_, vI (u1.2.1 1), vI (u1.2.1 2), vI (u1.2.1 3), vI opn, vI fp, vR m9, vR m10, vR m11, vR m12, vR m13, vR m14, vR m15, vI im, vI nr, vI nl, vR m19, vR m20, vR m21, vI sp_, vR m23, vR m24, vR m25, vR m26, vR m27, vR m28, vI wtc, vI wcl, vI ir, vI ip, vR m33, vI shu, vR m35, vI sfa, vI swr], zI m9 (cy 0) 600 f9, zI m11 (cy 0) 68 f11] := hD
    refine lv_istore_n (lv' := [(3, vI (u1.2.1 0)), (2, vI z_3), (0, vR mm), (1, vI k)]) hx hb dX12_readWork_36 rfl hlv (by decide) rfl (fun ls hlv => ?_)
    refine lv_iload_n hx hb dX12_readWork_37 rfl (lv_at hlv 3 rfl) ?_
    refine iz_ne (tgt := 45) hx hb dX12_readWork_38 (by decide) (by first | exact rgw hr_k (by decide) (by decide) | omega) (fun c_5 => ?_) (fun c_5 => by exfalso; omega)
    refine lv_aload_n hx hb dX12_readWork_45 rfl (lv_at hlv 2 rfl) ?_
    refine cj_i (wr := []) (va_runV (As := []) (rest := []) ⟨hx, hb, hml, hown, hts⟩ (x_readY l hl D cy sa mm m1 m9 m10 m11 m12 m13 m14 m15 m19 m20 m21 m23 m24 m25 m26 m27 m28 m33 m35 th tp sz_ (u1.2.1 1) (u1.2.1 2) (u1.2.1 3) opn fp im nr nl sp_ wtc wcl ir ip shu sfa swr f9 f11 H.size (by first | exact hr_th | omega) (by first | exact hr_tp | omega) (by first | exact hr_sz_ | omega) (by first | exact hq1_1 | omega) (by first | exact hq1_2 | omega) (by first | exact hq1_3 | omega) (by first | exact hr_opn | omega) (by first | exact hr_fp | omega) (by first | exact hr_im | omega) (by first | exact hr_nr | omega) (by first | exact hr_nl | omega) (by first | exact hr_sp_ | omega) (by first | exact hr_wtc | omega) (by first | exact hr_wcl | omega) (by first | exact hr_ir | omega) (by first | exact hr_ip | omega) (by first | exact hr_shu | omega) (by first | exact hr_sfa | omega) (by first | exact hr_swr | omega) (by first | exact hq1_9 | omega) hq1_11 hq1_12) (cwV 0 hts gg_2 rfl rfl rfl (by decide +kernel) ⟨Nat.le_of_ble_eq_true rfl, Nat.le_of_ble_eq_true rfl⟩) ⟨pcW.blind, (va_recv hG.1 hP (ci := 12) (q0 := 0) rfl rfl), (pcW.mk hP hD hS hA hG hT [0, 1, 2] rfl (by decide))⟩ rfl rfl hlv.1 rfl (lv_room (Nat.le_of_ble_eq_true rfl)) dX12_readWork_46 ⟨Nat.le_of_ble_eq_true rfl, Nat.le_of_ble_eq_true rfl⟩) hP hD hS hA [0, 1, 2] [] rfl rfl (by decide) (by decide) (fun r2 u2 H locs hw2 hP hD hS => ?_)
    obtain ⟨rfl, hq2_1, hq2_2, hq2_3, hq2_4, hq2_5, hq2_6, hq2_7, hq2_8, hq2_9, hq2_10, hq2_11, hq2_12⟩ := hw2
    have hP : va_P D vwCl [zO mm 12 [vI th, vR m1, vI tp, vI sz_, vI (u2.2.1 1), vI (u2.2.1 2), vI (u2.2.1 3), vI opn, vI fp, vR m9, vR m10, vR m11, vR m12, vR m13, vR m14, vR m15, vI im, vI nr, vI nl, vR m19, vR m20, vR m21, vI sp_, vR m23, vR m24, vR m25, vR m26, vR m27, vR m28, vI wtc, vI wcl, vI ir, vI ip, vR m33, vI shu, vR m35, vI sfa, vI swr], zI m9 (cy 0) 600 f9, zI m11 (cy 0) 68 f11] H := hP
    have hD : va_D A [zO mm 12 [vI th, vR m1, vI tp, vI sz_, vI (u2.2.1 1), vI (u2.2.1 2), vI (u2.2.1 3), vI opn, vI fp, vR m9, vR m10, vR m11, vR m12, vR m13, vR m14, vR m15, vI im, vI nr, vI nl, vR m19, vR m20, vR m21, vI sp_, vR m23, vR m24, vR m25, vR m26, vR m27, vR m28, vI wtc, vI wcl, vI ir, vI ip, vR m33, vI shu, vR m35, vI sfa, vI swr], zI m9 (cy 0) 600 f9, zI m11 (cy 0) 68 f11] := hD
    refine lv_istore (lv' := [(4, vI (u2.2.1 0)), (3, vI (u1.2.1 0)), (2, vI z_3), (0, vR mm), (1, vI k)]) hx hb dX12_readWork_49 hlv (by decide) rfl (fun ls hlv => ?_)
    refine lv_iload_n hx hb dX12_readWork_51 rfl (lv_at hlv 4 rfl) ?_
    refine iz_ne (tgt := 59) hx hb dX12_readWork_52 (by decide) (by first | exact rgw hr_k (by decide) (by decide) | omega) (fun c_6 => ?_) (fun c_6 => by exfalso; omega)
    refine lv_aload_n hx hb dX12_readWork_59 rfl (lv_at hlv 3 rfl) ?_
    refine lv_iconst (v := iI 1) hx hb dX12_readWork_60 (by decide) ?_
    refine lv_iload_n hx hb dX12_readWork_61 rfl (lv_at hlv 4 rfl) ?_
    refine lv_iconst (v := iI 3) hx hb dX12_readWork_62 (by decide) ?_
    refine ir_ne (tgt := 71) hx hb dX12_readWork_63 (by decide) (by first | exact rgw hr_k (by decide) (by decide) | omega) (by show ((-2147483648) : Int) ≤ 3 ∧ (3 : Int) ≤ 2147483647; decide) (fun c_7 => ?_) (fun c_7 => ?_)
    · refine lv_bipush (v := iI 50) hx hb dX12_readWork_71 (by decide) ?_
      refine cj_i (wr := [zI m11 (cy 0) 68 f11]) (va_runV (As := [vI 1, vI 50]) (rest := []) ⟨hx, hb, hml, hown, hts⟩ (x_number l hl D cy sa mm m1 m9 m10 m11 m12 m13 m14 m15 m19 m20 m21 m23 m24 m25 m26 m27 m28 m33 m35 th tp sz_ (u2.2.1 1) (u2.2.1 2) (u2.2.1 3) opn fp im nr nl sp_ wtc wcl ir ip shu sfa swr f9 1 50 H.size (by first | exact hr_th | omega) (by first | exact hr_tp | omega) (by first | exact hr_sz_ | omega) (by first | exact hq2_1 | omega) (by first | exact hq2_2 | omega) (by first | exact hq2_3 | omega) (by first | exact hr_opn | omega) (by first | exact hr_fp | omega) (by first | exact hr_im | omega) (by first | exact hr_nr | omega) (by first | exact hr_nl | omega) (by first | exact hr_sp_ | omega) (by first | exact hr_wtc | omega) (by first | exact hr_wcl | omega) (by first | exact hr_ir | omega) (by first | exact hr_ip | omega) (by first | exact hr_shu | omega) (by first | exact hr_sfa | omega) (by first | exact hr_swr | omega) (by show ((-1) : Int) ≤ 1 ∧ (1 : Int) ≤ 99999; decide) (by show ((-1) : Int) ≤ 50 ∧ (50 : Int) ≤ 9999; decide) (by first | exact hq2_9 | omega) hq2_11) (cwV 2 hts gg_3 rfl rfl rfl (by decide +kernel) ⟨Nat.le_of_ble_eq_true rfl, Nat.le_of_ble_eq_true rfl⟩) ⟨pcW.blind, (va_recv hG.1 hP (ci := 12) (q0 := 0) rfl rfl), (pcW.mk hP hD hS hA hG hT [0, 1] rfl (by decide))⟩ rfl rfl hlv.1 rfl (lv_room (Nat.le_of_ble_eq_true rfl)) dX12_readWork_73 ⟨Nat.le_of_ble_eq_true rfl, Nat.le_of_ble_eq_true rfl⟩) hP hD hS hA [0, 1] [2] rfl rfl (by decide) (by decide) (fun r3 u3 H locs hw3 hP hD hS => ?_)
      obtain ⟨rfl, hq3_1, hq3_2, hq3_3, hq3_4, hq3_5, hq3_6, hq3_7, hq3_8, hq3_9, hq3_10, hq3_11, hq3_12⟩ := hw3
      have hP : va_P D vwCl [zI m11 (cy 0) 68 f11, zO mm 12 [vI th, vR m1, vI tp, vI sz_, vI (u3.2.1 1), vI (u3.2.1 2), vI (u3.2.1 3), vI opn, vI fp, vR m9, vR m10, vR m11, vR m12, vR m13, vR m14, vR m15, vI im, vI nr, vI nl, vR m19, vR m20, vR m21, vI sp_, vR m23, vR m24, vR m25, vR m26, vR m27, vR m28, vI wtc, vI wcl, vI ir, vI ip, vR m33, vI shu, vR m35, vI sfa, vI swr], zI m9 (cy 0) 600 f9] H := hP
      have hD : va_D A [zI m11 (cy 0) 68 f11, zO mm 12 [vI th, vR m1, vI tp, vI sz_, vI (u3.2.1 1), vI (u3.2.1 2), vI (u3.2.1 3), vI opn, vI fp, vR m9, vR m10, vR m11, vR m12, vR m13, vR m14, vR m15, vI im, vI nr, vI nl, vR m19, vR m20, vR m21, vI sp_, vR m23, vR m24, vR m25, vR m26, vR m27, vR m28, vI wtc, vI wcl, vI ir, vI ip, vR m33, vI shu, vR m35, vI sfa, vI swr], zI m9 (cy 0) 600 f9] := hD
      refine lv_istore (lv' := [(5, vI (u3.2.1 0)), (4, vI (u2.2.1 0)), (3, vI (u1.2.1 0)), (2, vI z_3), (0, vR mm), (1, vI k)]) hx hb dX12_readWork_76 hlv (by decide) rfl (fun ls hlv => ?_)
      refine lv_aload_n hx hb dX12_readWork_78 rfl (lv_at hlv 4 rfl) ?_
      refine lv_iconst (v := iI 1) hx hb dX12_readWork_79 (by decide) ?_
      refine lv_bipush (v := iI 99) hx hb dX12_readWork_80 (by decide) ?_
      refine cj_i (wr := [zI m11 (cy 0) 68 f11]) (va_runV (As := [vI 1, vI 99]) (rest := []) ⟨hx, hb, hml, hown, hts⟩ (x_number l hl D cy sa mm m1 m9 m10 m11 m12 m13 m14 m15 m19 m20 m21 m23 m24 m25 m26 m27 m28 m33 m35 th tp sz_ (u3.2.1 1) (u3.2.1 2) (u3.2.1 3) opn fp im nr nl sp_ wtc wcl ir ip shu sfa swr f9 1 99 H.size (by first | exact hr_th | omega) (by first | exact hr_tp | omega) (by first | exact hr_sz_ | omega) (by first | exact hq3_1 | omega) (by first | exact hq3_2 | omega) (by first | exact hq3_3 | omega) (by first | exact hr_opn | omega) (by first | exact hr_fp | omega) (by first | exact hr_im | omega) (by first | exact hr_nr | omega) (by first | exact hr_nl | omega) (by first | exact hr_sp_ | omega) (by first | exact hr_wtc | omega) (by first | exact hr_wcl | omega) (by first | exact hr_ir | omega) (by first | exact hr_ip | omega) (by first | exact hr_shu | omega) (by first | exact hr_sfa | omega) (by first | exact hr_swr | omega) (by show ((-1) : Int) ≤ 1 ∧ (1 : Int) ≤ 99999; decide) (by show ((-1) : Int) ≤ 99 ∧ (99 : Int) ≤ 9999; decide) (by first | exact hq3_8 | omega) hq3_12) (cwV 2 hts gg_3 rfl rfl rfl (by decide +kernel) ⟨Nat.le_of_ble_eq_true rfl, Nat.le_of_ble_eq_true rfl⟩) ⟨pcW.blind, (va_recv hG.1 hP (ci := 12) (q0 := 1) rfl rfl), (pcW.mk hP hD hS hA hG hT [1, 2] rfl (by decide))⟩ rfl rfl hlv.1 rfl (lv_room (Nat.le_of_ble_eq_true rfl)) dX12_readWork_82 ⟨Nat.le_of_ble_eq_true rfl, Nat.le_of_ble_eq_true rfl⟩) hP hD hS hA [1, 2] [0] rfl rfl (by decide) (by decide) (fun r4 u4 H locs hw4 hP hD hS => ?_)
      obtain ⟨rfl, hq4_1, hq4_2, hq4_3, hq4_4, hq4_5, hq4_6, hq4_7, hq4_8, hq4_9, hq4_10, hq4_11, hq4_12⟩ := hw4
      have hP : va_P D vwCl [zI m11 (cy 0) 68 f11, zO mm 12 [vI th, vR m1, vI tp, vI sz_, vI (u4.2.1 1), vI (u4.2.1 2), vI (u4.2.1 3), vI opn, vI fp, vR m9, vR m10, vR m11, vR m12, vR m13, vR m14, vR m15, vI im, vI nr, vI nl, vR m19, vR m20, vR m21, vI sp_, vR m23, vR m24, vR m25, vR m26, vR m27, vR m28, vI wtc, vI wcl, vI ir, vI ip, vR m33, vI shu, vR m35, vI sfa, vI swr], zI m9 (cy 0) 600 f9] H := hP
      have hD : va_D A [zI m11 (cy 0) 68 f11, zO mm 12 [vI th, vR m1, vI tp, vI sz_, vI (u4.2.1 1), vI (u4.2.1 2), vI (u4.2.1 3), vI opn, vI fp, vR m9, vR m10, vR m11, vR m12, vR m13, vR m14, vR m15, vI im, vI nr, vI nl, vR m19, vR m20, vR m21, vI sp_, vR m23, vR m24, vR m25, vR m26, vR m27, vR m28, vI wtc, vI wcl, vI ir, vI ip, vR m33, vI shu, vR m35, vI sfa, vI swr], zI m9 (cy 0) 600 f9] := hD
      refine lv_istore (lv' := [(6, vI (u4.2.1 0)), (5, vI (u3.2.1 0)), (4, vI (u2.2.1 0)), (3, vI (u1.2.1 0)), (2, vI z_3), (0, vR mm), (1, vI k)]) hx hb dX12_readWork_85 hlv (by decide) rfl (fun ls hlv => ?_)
      refine lv_aload_n hx hb dX12_readWork_87 rfl (lv_at hlv 5 rfl) ?_
      refine cj_i (wr := [zI m11 (cy 0) 68 f11, zI m9 (cy 0) 600 f9]) (va_runV (As := []) (rest := []) ⟨hx, hb, hml, hown, hts⟩ (m_fine l hl D cy sa mm m1 m9 m10 m11 m12 m13 m14 m15 m19 m20 m21 m23 m24 m25 m26 m27 m28 m33 m35 th tp sz_ (u4.2.1 1) (u4.2.1 2) (u4.2.1 3) opn fp im nr nl sp_ wtc wcl ir ip shu sfa swr H.size (by first | exact hr_th | omega) (by first | exact hr_tp | omega) (by first | exact hr_sz_ | omega) (by first | exact hq4_1 | omega) (by first | exact hq4_2 | omega) (by first | exact hq4_3 | omega) (by first | exact hr_opn | omega) (by first | exact hr_fp | omega) (by first | exact hr_im | omega) (by first | exact hr_nr | omega) (by first | exact hr_nl | omega) (by first | exact hr_sp_ | omega) (by first | exact hr_wtc | omega) (by first | exact hr_wcl | omega) (by first | exact hr_ir | omega) (by first | exact hr_ip | omega) (by first | exact hr_shu | omega) (by first | exact hr_sfa | omega) (by first | exact hr_swr | omega)) (cwV 0 hts gg_4 rfl rfl rfl (by decide +kernel) ⟨Nat.le_of_ble_eq_true rfl, Nat.le_of_ble_eq_true rfl⟩) ⟨pcW.blind, (va_recv hG.1 hP (ci := 12) (q0 := 1) rfl rfl), (pcW.mk hP hD hS hA hG hT [1] rfl (by decide))⟩ rfl rfl hlv.1 rfl (lv_room (Nat.le_of_ble_eq_true rfl)) dX12_readWork_88 ⟨Nat.le_of_ble_eq_true rfl, Nat.le_of_ble_eq_true rfl⟩) hP hD hS hA [1] [0, 2] rfl rfl (by decide) (by decide) (fun r5 u5 H locs hw5 hP hD hS => ?_)
      obtain ⟨rfl, hq5_1, hq5_2, hq5_3⟩ := hw5
      have hP : va_P D vwCl [zI m11 (cy 0) 68 f11, zI m9 (cy 0) 600 f9, zO mm 12 [vI th, vR m1, vI tp, vI sz_, vI (u4.2.1 1), vI (u4.2.1 2), vI (u4.2.1 3), vI opn, vI fp, vR m9, vR m10, vR m11, vR m12, vR m13, vR m14, vR m15, vI im, vI nr, vI nl, vR m19, vR m20, vR m21, vI sp_, vR m23, vR m24, vR m25, vR m26, vR m27, vR m28, vI wtc, vI wcl, vI ir, vI ip, vR m33, vI shu, vR m35, vI sfa, vI swr]] H := hP
      have hD : va_D A [zI m11 (cy 0) 68 f11, zI m9 (cy 0) 600 f9, zO mm 12 [vI th, vR m1, vI tp, vI sz_, vI (u4.2.1 1), vI (u4.2.1 2), vI (u4.2.1 3), vI opn, vI fp, vR m9, vR m10, vR m11, vR m12, vR m13, vR m14, vR m15, vI im, vI nr, vI nl, vR m19, vR m20, vR m21, vI sp_, vR m23, vR m24, vR m25, vR m26, vR m27, vR m28, vI wtc, vI wcl, vI ir, vI ip, vR m33, vI shu, vR m35, vI sfa, vI swr]] := hD
      refine iz_ne (tgt := 95) hx hb dX12_readWork_91 (by decide) (by first | exact rgw hq5_1 (by decide) (by decide) | omega) (fun c_8 => ?_) (fun c_8 => ?_)
      · have rshq4_7 := hq4_7 (by omega)
        have rshq3_7 := hq3_7 (by omega)
        have rshq2_7 := hq2_7 (by omega)
        have rshq1_7 := hq1_7 (by omega)
        clear hq4_7 hq4_8 hq4_9 hq4_10 hq3_7 hq3_8 hq3_9 hq3_10 hq2_7 hq2_8 hq2_9 hq1_7 hq1_8 hq1_9
        refine lv_aload_n hx hb dX12_readWork_95 rfl (lv_at hlv 5 rfl) ?_
        refine va_get (D := D) (ci := 12) (v := vR m11) (C := RX12) (T := TX12) (N := 38) hx hb hts hi12 hown hG.1 hP 2 rfl rfl 11 (by decide) lf26 (fun _ h9 => h9) rfl dX12_readWork_96 ?_
        refine lv_iload_n hx hb dX12_readWork_99 rfl (lv_at hlv 4 rfl) ?_
        refine lv_iload_n hx hb dX12_readWork_100 rfl (lv_at hlv 6 rfl) ?_
        refine va_iast hx hb hG.1 hP hD hS 0 0 rfl rfl (iI_in (by omega) (by decide)) dX12_readWork_101 (fun H locs hP hD hS => ?_)
        have ⟨f_9, hdf_9, hP, hD⟩ : ∃ f_9 : Nat → Int32, f_9 = upd f11 (iI z_3).toNatClampNeg (iI k) ∧ va_P D vwCl [zI m11 (cy 0) 68 f_9, zI m9 (cy 0) 600 f9, zO mm 12 [vI th, vR m1, vI tp, vI sz_, vI (u4.2.1 1), vI (u4.2.1 2), vI (u4.2.1 3), vI opn, vI fp, vR m9, vR m10, vR m11, vR m12, vR m13, vR m14, vR m15, vI im, vI nr, vI nl, vR m19, vR m20, vR m21, vI sp_, vR m23, vR m24, vR m25, vR m26, vR m27, vR m28, vI wtc, vI wcl, vI ir, vI ip, vR m33, vI shu, vR m35, vI sfa, vI swr]] H ∧ va_D A [zI m11 (cy 0) 68 f_9, zI m9 (cy 0) 600 f9, zO mm 12 [vI th, vR m1, vI tp, vI sz_, vI (u4.2.1 1), vI (u4.2.1 2), vI (u4.2.1 3), vI opn, vI fp, vR m9, vR m10, vR m11, vR m12, vR m13, vR m14, vR m15, vI im, vI nr, vI nl, vR m19, vR m20, vR m21, vI sp_, vR m23, vR m24, vR m25, vR m26, vR m27, vR m28, vI wtc, vI wcl, vI ir, vI ip, vR m33, vI shu, vR m35, vI sfa, vI swr]] := ⟨_, rfl, hP, hD⟩
        refine lv_aload_n hx hb dX12_readWork_102 rfl (lv_at hlv 5 rfl) ?_
        refine va_get (D := D) (ci := 12) (v := vR m11) (C := RX12) (T := TX12) (N := 38) hx hb hts hi12 hown hG.1 hP 2 rfl rfl 11 (by decide) lf26 (fun _ h9 => h9) rfl dX12_readWork_103 ?_
        refine lv_iload_n hx hb dX12_readWork_106 rfl (lv_at hlv 4 rfl) ?_
        refine lv_iconst (v := iI 1) hx hb dX12_readWork_107 (by decide) ?_
        refine lv_iadd hx hb dX12_readWork_108 ?_
        refine lt_e (e0 := z_3 + 1) (Int32.ofInt_add _ _).symm (fun z_10 hz_10 => ?_)
        refine lv_iload_n hx hb dX12_readWork_109 rfl (lv_at hlv 3 rfl) ?_
        refine va_iast hx hb hG.1 hP hD hS 0 0 rfl rfl (iI_in (by omega) (by decide)) dX12_readWork_110 (fun H locs hP hD hS => ?_)
        have ⟨f_11, hdf_11, hP, hD⟩ : ∃ f_11 : Nat → Int32, f_11 = upd f_9 (iI z_10).toNatClampNeg (iI (u1.2.1 0)) ∧ va_P D vwCl [zI m11 (cy 0) 68 f_11, zI m9 (cy 0) 600 f9, zO mm 12 [vI th, vR m1, vI tp, vI sz_, vI (u4.2.1 1), vI (u4.2.1 2), vI (u4.2.1 3), vI opn, vI fp, vR m9, vR m10, vR m11, vR m12, vR m13, vR m14, vR m15, vI im, vI nr, vI nl, vR m19, vR m20, vR m21, vI sp_, vR m23, vR m24, vR m25, vR m26, vR m27, vR m28, vI wtc, vI wcl, vI ir, vI ip, vR m33, vI shu, vR m35, vI sfa, vI swr]] H ∧ va_D A [zI m11 (cy 0) 68 f_11, zI m9 (cy 0) 600 f9, zO mm 12 [vI th, vR m1, vI tp, vI sz_, vI (u4.2.1 1), vI (u4.2.1 2), vI (u4.2.1 3), vI opn, vI fp, vR m9, vR m10, vR m11, vR m12, vR m13, vR m14, vR m15, vI im, vI nr, vI nl, vR m19, vR m20, vR m21, vI sp_, vR m23, vR m24, vR m25, vR m26, vR m27, vR m28, vI wtc, vI wcl, vI ir, vI ip, vR m33, vI shu, vR m35, vI sfa, vI swr]] := ⟨_, rfl, hP, hD⟩
        refine lv_aload_n hx hb dX12_readWork_111 rfl (lv_at hlv 5 rfl) ?_
        refine va_get (D := D) (ci := 12) (v := vR m11) (C := RX12) (T := TX12) (N := 38) hx hb hts hi12 hown hG.1 hP 2 rfl rfl 11 (by decide) lf26 (fun _ h9 => h9) rfl dX12_readWork_112 ?_
        refine lv_iload_n hx hb dX12_readWork_115 rfl (lv_at hlv 4 rfl) ?_
        refine lv_iconst (v := iI 2) hx hb dX12_readWork_116 (by decide) ?_
        refine lv_iadd hx hb dX12_readWork_117 ?_
        refine lt_e (e0 := z_3 + 2) (Int32.ofInt_add _ _).symm (fun z_12 hz_12 => ?_)
        refine lv_iload hx hb dX12_readWork_118 (lv_at hlv 2 rfl) ?_
        refine va_iast hx hb hG.1 hP hD hS 0 0 rfl rfl (iI_in (by omega) (by decide)) dX12_readWork_120 (fun H locs hP hD hS => ?_)
        have ⟨f_13, hdf_13, hP, hD⟩ : ∃ f_13 : Nat → Int32, f_13 = upd f_11 (iI z_12).toNatClampNeg (iI (u2.2.1 0)) ∧ va_P D vwCl [zI m11 (cy 0) 68 f_13, zI m9 (cy 0) 600 f9, zO mm 12 [vI th, vR m1, vI tp, vI sz_, vI (u4.2.1 1), vI (u4.2.1 2), vI (u4.2.1 3), vI opn, vI fp, vR m9, vR m10, vR m11, vR m12, vR m13, vR m14, vR m15, vI im, vI nr, vI nl, vR m19, vR m20, vR m21, vI sp_, vR m23, vR m24, vR m25, vR m26, vR m27, vR m28, vI wtc, vI wcl, vI ir, vI ip, vR m33, vI shu, vR m35, vI sfa, vI swr]] H ∧ va_D A [zI m11 (cy 0) 68 f_13, zI m9 (cy 0) 600 f9, zO mm 12 [vI th, vR m1, vI tp, vI sz_, vI (u4.2.1 1), vI (u4.2.1 2), vI (u4.2.1 3), vI opn, vI fp, vR m9, vR m10, vR m11, vR m12, vR m13, vR m14, vR m15, vI im, vI nr, vI nl, vR m19, vR m20, vR m21, vI sp_, vR m23, vR m24, vR m25, vR m26, vR m27, vR m28, vI wtc, vI wcl, vI ir, vI ip, vR m33, vI shu, vR m35, vI sfa, vI swr]] := ⟨_, rfl, hP, hD⟩
        refine lv_aload_n hx hb dX12_readWork_121 rfl (lv_at hlv 5 rfl) ?_
        refine va_get (D := D) (ci := 12) (v := vR m11) (C := RX12) (T := TX12) (N := 38) hx hb hts hi12 hown hG.1 hP 2 rfl rfl 11 (by decide) lf26 (fun _ h9 => h9) rfl dX12_readWork_122 ?_
        refine lv_iload_n hx hb dX12_readWork_125 rfl (lv_at hlv 4 rfl) ?_
        refine lv_iconst (v := iI 3) hx hb dX12_readWork_126 (by decide) ?_
        refine lv_iadd hx hb dX12_readWork_127 ?_
        refine lt_e (e0 := z_3 + 3) (Int32.ofInt_add _ _).symm (fun z_14 hz_14 => ?_)
        refine lv_iload hx hb dX12_readWork_128 (lv_at hlv 1 rfl) ?_
        refine va_iast hx hb hG.1 hP hD hS 0 0 rfl rfl (iI_in (by omega) (by decide)) dX12_readWork_130 (fun H locs hP hD hS => ?_)
        have ⟨f_15, hdf_15, hP, hD⟩ : ∃ f_15 : Nat → Int32, f_15 = upd f_13 (iI z_14).toNatClampNeg (iI (u3.2.1 0)) ∧ va_P D vwCl [zI m11 (cy 0) 68 f_15, zI m9 (cy 0) 600 f9, zO mm 12 [vI th, vR m1, vI tp, vI sz_, vI (u4.2.1 1), vI (u4.2.1 2), vI (u4.2.1 3), vI opn, vI fp, vR m9, vR m10, vR m11, vR m12, vR m13, vR m14, vR m15, vI im, vI nr, vI nl, vR m19, vR m20, vR m21, vI sp_, vR m23, vR m24, vR m25, vR m26, vR m27, vR m28, vI wtc, vI wcl, vI ir, vI ip, vR m33, vI shu, vR m35, vI sfa, vI swr]] H ∧ va_D A [zI m11 (cy 0) 68 f_15, zI m9 (cy 0) 600 f9, zO mm 12 [vI th, vR m1, vI tp, vI sz_, vI (u4.2.1 1), vI (u4.2.1 2), vI (u4.2.1 3), vI opn, vI fp, vR m9, vR m10, vR m11, vR m12, vR m13, vR m14, vR m15, vI im, vI nr, vI nl, vR m19, vR m20, vR m21, vI sp_, vR m23, vR m24, vR m25, vR m26, vR m27, vR m28, vI wtc, vI wcl, vI ir, vI ip, vR m33, vI shu, vR m35, vI sfa, vI swr]] := ⟨_, rfl, hP, hD⟩
        refine lv_aload_n hx hb dX12_readWork_131 rfl (lv_at hlv 5 rfl) ?_
        refine va_get (D := D) (ci := 12) (v := vR m11) (C := RX12) (T := TX12) (N := 38) hx hb hts hi12 hown hG.1 hP 2 rfl rfl 11 (by decide) lf26 (fun _ h9 => h9) rfl dX12_readWork_132 ?_
        refine lv_iload_n hx hb dX12_readWork_135 rfl (lv_at hlv 4 rfl) ?_
        refine lv_iconst (v := iI 4) hx hb dX12_readWork_136 (by decide) ?_
        refine lv_iadd hx hb dX12_readWork_137 ?_
        refine lt_e (e0 := z_3 + 4) (Int32.ofInt_add _ _).symm (fun z_16 hz_16 => ?_)
        refine lv_iload hx hb dX12_readWork_138 (lv_at hlv 0 rfl) ?_
        refine va_iast hx hb hG.1 hP hD hS 0 0 rfl rfl (iI_in (by omega) (by decide)) dX12_readWork_140 (fun H locs hP hD hS => ?_)
        have ⟨f_17, hdf_17, hP, hD⟩ : ∃ f_17 : Nat → Int32, f_17 = upd f_15 (iI z_16).toNatClampNeg (iI (u4.2.1 0)) ∧ va_P D vwCl [zI m11 (cy 0) 68 f_17, zI m9 (cy 0) 600 f9, zO mm 12 [vI th, vR m1, vI tp, vI sz_, vI (u4.2.1 1), vI (u4.2.1 2), vI (u4.2.1 3), vI opn, vI fp, vR m9, vR m10, vR m11, vR m12, vR m13, vR m14, vR m15, vI im, vI nr, vI nl, vR m19, vR m20, vR m21, vI sp_, vR m23, vR m24, vR m25, vR m26, vR m27, vR m28, vI wtc, vI wcl, vI ir, vI ip, vR m33, vI shu, vR m35, vI sfa, vI swr]] H ∧ va_D A [zI m11 (cy 0) 68 f_17, zI m9 (cy 0) 600 f9, zO mm 12 [vI th, vR m1, vI tp, vI sz_, vI (u4.2.1 1), vI (u4.2.1 2), vI (u4.2.1 3), vI opn, vI fp, vR m9, vR m10, vR m11, vR m12, vR m13, vR m14, vR m15, vI im, vI nr, vI nl, vR m19, vR m20, vR m21, vI sp_, vR m23, vR m24, vR m25, vR m26, vR m27, vR m28, vI wtc, vI wcl, vI ir, vI ip, vR m33, vI shu, vR m35, vI sfa, vI swr]] := ⟨_, rfl, hP, hD⟩
        have ⟨hif_17, hkf_17⟩ := NI.ww (k := z_1) hq2_12 (by omega) (by omega) (by omega) (by omega) (by omega) (by omega) hdf_9 hdf_11 hdf_13 hdf_15 hdf_17 (by omega) (by omega) (by omega) (by omega)
        have htf_17_0 : nz f_17 0 = nz f11 0 := hkf_17 0 (by decide)
        have htf_17_1 : nz f_17 1 = nz f11 1 := hkf_17 1 (by decide)
        have htf_17_2 : nz f_17 2 = nz f11 2 := hkf_17 2 (by decide)
        have htf_17_3 : nz f_17 3 = nz f11 3 := hkf_17 3 (by decide)
        have htf_17_4 : nz f_17 4 = nz f11 4 := hkf_17 4 (by decide)
        have htf_17_5 : nz f_17 5 = nz f11 5 := hkf_17 5 (by decide)
        refine lv_aload_n hx hb dX12_readWork_141 rfl (lv_at hlv 5 rfl) ?_
        refine va_get (D := D) (ci := 12) (v := vR m11) (C := RX12) (T := TX12) (N := 38) hx hb hts hi12 hown hG.1 hP 2 rfl rfl 11 (by decide) lf26 (fun _ h9 => h9) rfl dX12_readWork_142 ?_
        refine lv_iconst (v := iI 5) hx hb dX12_readWork_145 (by decide) ?_
        refine lv_dup2_11 hx hb dX12_readWork_146 rfl rfl ?_
        refine va_iald hx hb hG.1 hP 0 0 rfl rfl (iI_in (by omega) (by decide)) dX12_readWork_147 ?_
        refine lt_nz (i := 5) (by omega) (fun z_18 hz_18 lz_18 uz_18 => ?_)
        have hz_18 : z_18 = nz f_17 5 := hz_18
        have hbz_18_56 := hif_17.2.2.2.2.2.1
        refine lv_iconst (v := iI 1) hx hb dX12_readWork_148 (by decide) ?_
        refine lv_iadd hx hb dX12_readWork_149 ?_
        refine lt_e (e0 := z_18 + 1) (Int32.ofInt_add _ _).symm (fun z_19 hz_19 => ?_)
        refine va_iast hx hb hG.1 hP hD hS 0 0 rfl rfl (iI_in (by omega) (by decide)) dX12_readWork_150 (fun H locs hP hD hS => ?_)
        have ⟨f_20, hdf_20, hP, hD⟩ : ∃ f_20 : Nat → Int32, f_20 = upd f_17 (iI 5).toNatClampNeg (iI z_19) ∧ va_P D vwCl [zI m11 (cy 0) 68 f_20, zI m9 (cy 0) 600 f9, zO mm 12 [vI th, vR m1, vI tp, vI sz_, vI (u4.2.1 1), vI (u4.2.1 2), vI (u4.2.1 3), vI opn, vI fp, vR m9, vR m10, vR m11, vR m12, vR m13, vR m14, vR m15, vI im, vI nr, vI nl, vR m19, vR m20, vR m21, vI sp_, vR m23, vR m24, vR m25, vR m26, vR m27, vR m28, vI wtc, vI wcl, vI ir, vI ip, vR m33, vI shu, vR m35, vI sfa, vI swr]] H ∧ va_D A [zI m11 (cy 0) 68 f_20, zI m9 (cy 0) 600 f9, zO mm 12 [vI th, vR m1, vI tp, vI sz_, vI (u4.2.1 1), vI (u4.2.1 2), vI (u4.2.1 3), vI opn, vI fp, vR m9, vR m10, vR m11, vR m12, vR m13, vR m14, vR m15, vI im, vI nr, vI nl, vR m19, vR m20, vR m21, vI sp_, vR m23, vR m24, vR m25, vR m26, vR m27, vR m28, vI wtc, vI wcl, vI ir, vI ip, vR m33, vI shu, vR m35, vI sfa, vI swr]] := ⟨_, rfl, hP, hD⟩
        have hif_20 : NI f_20 := NI.wk hif_17 hdf_20 (by omega) (by omega)
        have htf_20_0 : nz f_20 0 = nz f_17 0 := nz_un hdf_20 (by omega) (by omega)
        have htf_20_1 : nz f_20 1 = nz f_17 1 := nz_un hdf_20 (by omega) (by omega)
        have htf_20_2 : nz f_20 2 = nz f_17 2 := nz_un hdf_20 (by omega) (by omega)
        have htf_20_3 : nz f_20 3 = nz f_17 3 := nz_un hdf_20 (by omega) (by omega)
        have htf_20_4 : nz f_20 4 = nz f_17 4 := nz_un hdf_20 (by omega) (by omega)
        have htf_20_5 : nz f_20 5 = z_19 := nz_us hdf_20 (by omega) (by omega) (by omega)
        refine W.widen (k := 0) (n := 0) (Nat.le_of_ble_eq_true rfl) (Nat.le_of_ble_eq_true rfl) ?_
        exact W.vret hx hb hr (fun t ht hW => ⟨⟨((fun k => ([] : List Nat).getD k 0), (fun k => ([0, (u4.2.1 1), (u4.2.1 2), (u4.2.1 3)] : List Int).getD k 0), (fun k => ([f_20] : List (Nat → Int32)).getD k (fun _ => 0))), rfl, ⟨(by show (0 ≤ (u4.2.1 1) ∧ (u4.2.1 1) ≤ 602); first | exact hq4_1 | omega), (by show ((-1) ≤ (u4.2.1 2) ∧ (u4.2.1 2) ≤ 602); first | exact hq4_2 | omega), (by show (0 ≤ (u4.2.1 3) ∧ (u4.2.1 3) ≤ 4); first | exact hq4_3 | omega), (by show (ap ≤ (u4.2.1 1)); omega), (by show (ap ≤ sz_ → (u4.2.1 1) ≤ sz_); omega), (by show ((u4.2.1 2) = -1 → bad = -1); omega), (by show (bad ≠ -1 → (u4.2.1 2) = bad); omega), (by show ((u4.2.1 2) ≠ -1 → 1 ≤ (u4.2.1 3)); first | exact hq4_8 | omega), (by show (nz (f_20) 0 = nz f11 0); omega), (by show (nz (f_20) 1 = nz f11 1); omega), (by show (nz (f_20) 2 = nz f11 2); omega), (by show (nz (f_20) 3 = nz f11 3); omega), (by show (nz (f_20) 4 = nz f11 4); omega), (by show (RdS (chF (nz f9) sz_ (wkL k (nz f11 0) (nz f11 1) (nz f11 2)) ap) (chP (nz f9) sz_ (wkL k (nz f11 0) (nz f11 1) (nz f11 2)) ap) (chA (nz f9) sz_ (wkL k (nz f11 0) (nz f11 1) (nz f11 2)) ap) (fr_ bad bk) bad ((u4.2.1 1)) (fr_ ((u4.2.1 2)) ((u4.2.1 3))) ((u4.2.1 2))); exact (by rw [wkL_1 (by omega)]; exact (ch_c (NuP.hi hq1_10 (by omega) (by omega)) (ch_c (NuP.hi hq2_10 (by omega) (by omega)) (ch_c (NuP.hi hq3_11 (by omega) (by omega)) (ch_c (NuP.hi hq4_11 (by omega) (by omega)) ch_n)))))), (by show ((u4.2.1 2) = -1 → nz (f_20) = wkBk (nz f11) k (nz f9) sz_ ap); exact (fun h9 => by obtain ⟨x0_, a0_⟩ := NuP.m hq1_10 (by omega); obtain ⟨x1_, a1_⟩ := NuP.m hq2_10 (by omega); rw [a0_] at x1_ a1_; obtain ⟨x2_, a2_⟩ := NuP.m hq3_11 (by omega); rw [a1_] at x2_ a2_; obtain ⟨x3_, a3_⟩ := NuP.m hq4_11 (by omega); rw [a2_] at x3_ a3_; rw [wkBk_1 (by omega)]; exact (upz_c (upz_c (upz_c (upz_c (upz_c (upz_c rfl hdf_9 (by omega) (by omega) (by omega) (by omega)) hdf_11 (by omega) (by omega) (by omega) (by omega)) hdf_13 (by omega) (by omega) (by omega) (by omega)) hdf_15 (by omega) (by omega) (by omega) (by omega)) hdf_17 (by omega) (by omega) (by omega) (by omega)) hdf_20 (by omega) (by omega) (by omega) (by omega)))), hq4_12, hif_20⟩, by rw [ht]; exact hP.sub [2, 1, 0] rfl, hD.sub [2, 1, 0] (by decide) rfl⟩, hS.F ht⟩) hS.2.2 dX12_readWork_151
      · have rshq4_8 := hq4_8 (by omega)
        have rshq4_10 := hq4_10 (by omega)
        clear hq4_7 hq4_8 hq4_10
        refine W.widen (k := 0) (n := 0) (Nat.le_of_ble_eq_true rfl) (Nat.le_of_ble_eq_true rfl) ?_
        exact W.vret hx hb hr (fun t ht hW => ⟨⟨((fun k => ([] : List Nat).getD k 0), (fun k => ([0, (u4.2.1 1), (u4.2.1 2), (u4.2.1 3)] : List Int).getD k 0), (fun k => ([f11] : List (Nat → Int32)).getD k (fun _ => 0))), rfl, ⟨(by show (0 ≤ (u4.2.1 1) ∧ (u4.2.1 1) ≤ 602); first | exact hq4_1 | omega), (by show ((-1) ≤ (u4.2.1 2) ∧ (u4.2.1 2) ≤ 602); first | exact hq4_2 | omega), (by show (0 ≤ (u4.2.1 3) ∧ (u4.2.1 3) ≤ 4); first | exact hq4_3 | omega), (by show (ap ≤ (u4.2.1 1)); omega), (by show (ap ≤ sz_ → (u4.2.1 1) ≤ sz_); omega), (by show ((u4.2.1 2) = -1 → bad = -1); omega), (by show (bad ≠ -1 → (u4.2.1 2) = bad); omega), (by show ((u4.2.1 2) ≠ -1 → 1 ≤ (u4.2.1 3)); first | exact hq4_8 | omega), (by show (nz (f11) 0 = nz f11 0); omega), (by show (nz (f11) 1 = nz f11 1); omega), (by show (nz (f11) 2 = nz f11 2); omega), (by show (nz (f11) 3 = nz f11 3); omega), (by show (nz (f11) 4 = nz f11 4); omega), (by show (RdS (chF (nz f9) sz_ (wkL k (nz f11 0) (nz f11 1) (nz f11 2)) ap) (chP (nz f9) sz_ (wkL k (nz f11 0) (nz f11 1) (nz f11 2)) ap) (chA (nz f9) sz_ (wkL k (nz f11 0) (nz f11 1) (nz f11 2)) ap) (fr_ bad bk) bad ((u4.2.1 1)) (fr_ ((u4.2.1 2)) ((u4.2.1 3))) ((u4.2.1 2))); exact (by rw [wkL_1 (by omega)]; exact (ch_c (NuP.hi hq1_10 (by omega) (by omega)) (ch_c (NuP.hi hq2_10 (by omega) (by omega)) (ch_c (NuP.hi hq3_11 (by omega) (by omega)) (ch_c (NuP.hi hq4_11 (by omega) (by omega)) ch_n)))))), (by show ((u4.2.1 2) = -1 → nz (f11) = wkBk (nz f11) k (nz f9) sz_ ap); exact (fun h9 => by exfalso; omega)), hq4_12, hq2_12⟩, by rw [ht]; exact hP.sub [2, 1, 0] rfl, hD.sub [2, 1, 0] (by decide) rfl⟩, hS.F ht⟩) hS.2.2 dX12_readWork_94
    · refine lv_bipush (v := iI 99) hx hb dX12_readWork_66 (by decide) ?_
      refine lv_goto (tgt := 73) hx hb dX12_readWork_68 (by decide) ?_
      refine cj_i (wr := [zI m11 (cy 0) 68 f11]) (va_runV (As := [vI 1, vI 99]) (rest := []) ⟨hx, hb, hml, hown, hts⟩ (x_number l hl D cy sa mm m1 m9 m10 m11 m12 m13 m14 m15 m19 m20 m21 m23 m24 m25 m26 m27 m28 m33 m35 th tp sz_ (u2.2.1 1) (u2.2.1 2) (u2.2.1 3) opn fp im nr nl sp_ wtc wcl ir ip shu sfa swr f9 1 99 H.size (by first | exact hr_th | omega) (by first | exact hr_tp | omega) (by first | exact hr_sz_ | omega) (by first | exact hq2_1 | omega) (by first | exact hq2_2 | omega) (by first | exact hq2_3 | omega) (by first | exact hr_opn | omega) (by first | exact hr_fp | omega) (by first | exact hr_im | omega) (by first | exact hr_nr | omega) (by first | exact hr_nl | omega) (by first | exact hr_sp_ | omega) (by first | exact hr_wtc | omega) (by first | exact hr_wcl | omega) (by first | exact hr_ir | omega) (by first | exact hr_ip | omega) (by first | exact hr_shu | omega) (by first | exact hr_sfa | omega) (by first | exact hr_swr | omega) (by show ((-1) : Int) ≤ 1 ∧ (1 : Int) ≤ 99999; decide) (by show ((-1) : Int) ≤ 99 ∧ (99 : Int) ≤ 9999; decide) (by first | exact hq2_9 | omega) hq2_11) (cwV 2 hts gg_3 rfl rfl rfl (by decide +kernel) ⟨Nat.le_of_ble_eq_true rfl, Nat.le_of_ble_eq_true rfl⟩) ⟨pcW.blind, (va_recv hG.1 hP (ci := 12) (q0 := 0) rfl rfl), (pcW.mk hP hD hS hA hG hT [0, 1] rfl (by decide))⟩ rfl rfl hlv.1 rfl (lv_room (Nat.le_of_ble_eq_true rfl)) dX12_readWork_73 ⟨Nat.le_of_ble_eq_true rfl, Nat.le_of_ble_eq_true rfl⟩) hP hD hS hA [0, 1] [2] rfl rfl (by decide) (by decide) (fun r6 u6 H locs hw6 hP hD hS => ?_)
      obtain ⟨rfl, hq6_1, hq6_2, hq6_3, hq6_4, hq6_5, hq6_6, hq6_7, hq6_8, hq6_9, hq6_10, hq6_11, hq6_12⟩ := hw6
      have hP : va_P D vwCl [zI m11 (cy 0) 68 f11, zO mm 12 [vI th, vR m1, vI tp, vI sz_, vI (u6.2.1 1), vI (u6.2.1 2), vI (u6.2.1 3), vI opn, vI fp, vR m9, vR m10, vR m11, vR m12, vR m13, vR m14, vR m15, vI im, vI nr, vI nl, vR m19, vR m20, vR m21, vI sp_, vR m23, vR m24, vR m25, vR m26, vR m27, vR m28, vI wtc, vI wcl, vI ir, vI ip, vR m33, vI shu, vR m35, vI sfa, vI swr], zI m9 (cy 0) 600 f9] H := hP
      have hD : va_D A [zI m11 (cy 0) 68 f11, zO mm 12 [vI th, vR m1, vI tp, vI sz_, vI (u6.2.1 1), vI (u6.2.1 2), vI (u6.2.1 3), vI opn, vI fp, vR m9, vR m10, vR m11, vR m12, vR m13, vR m14, vR m15, vI im, vI nr, vI nl, vR m19, vR m20, vR m21, vI sp_, vR m23, vR m24, vR m25, vR m26, vR m27, vR m28, vI wtc, vI wcl, vI ir, vI ip, vR m33, vI shu, vR m35, vI sfa, vI swr], zI m9 (cy 0) 600 f9] := hD
      refine lv_istore (lv' := [(5, vI (u6.2.1 0)), (4, vI (u2.2.1 0)), (3, vI (u1.2.1 0)), (2, vI z_3), (0, vR mm), (1, vI k)]) hx hb dX12_readWork_76 hlv (by decide) rfl (fun ls hlv => ?_)
      refine lv_aload_n hx hb dX12_readWork_78 rfl (lv_at hlv 4 rfl) ?_
      refine lv_iconst (v := iI 1) hx hb dX12_readWork_79 (by decide) ?_
      refine lv_bipush (v := iI 99) hx hb dX12_readWork_80 (by decide) ?_
      refine cj_i (wr := [zI m11 (cy 0) 68 f11]) (va_runV (As := [vI 1, vI 99]) (rest := []) ⟨hx, hb, hml, hown, hts⟩ (x_number l hl D cy sa mm m1 m9 m10 m11 m12 m13 m14 m15 m19 m20 m21 m23 m24 m25 m26 m27 m28 m33 m35 th tp sz_ (u6.2.1 1) (u6.2.1 2) (u6.2.1 3) opn fp im nr nl sp_ wtc wcl ir ip shu sfa swr f9 1 99 H.size (by first | exact hr_th | omega) (by first | exact hr_tp | omega) (by first | exact hr_sz_ | omega) (by first | exact hq6_1 | omega) (by first | exact hq6_2 | omega) (by first | exact hq6_3 | omega) (by first | exact hr_opn | omega) (by first | exact hr_fp | omega) (by first | exact hr_im | omega) (by first | exact hr_nr | omega) (by first | exact hr_nl | omega) (by first | exact hr_sp_ | omega) (by first | exact hr_wtc | omega) (by first | exact hr_wcl | omega) (by first | exact hr_ir | omega) (by first | exact hr_ip | omega) (by first | exact hr_shu | omega) (by first | exact hr_sfa | omega) (by first | exact hr_swr | omega) (by show ((-1) : Int) ≤ 1 ∧ (1 : Int) ≤ 99999; decide) (by show ((-1) : Int) ≤ 99 ∧ (99 : Int) ≤ 9999; decide) (by first | exact hq6_8 | omega) hq6_12) (cwV 2 hts gg_3 rfl rfl rfl (by decide +kernel) ⟨Nat.le_of_ble_eq_true rfl, Nat.le_of_ble_eq_true rfl⟩) ⟨pcW.blind, (va_recv hG.1 hP (ci := 12) (q0 := 1) rfl rfl), (pcW.mk hP hD hS hA hG hT [1, 2] rfl (by decide))⟩ rfl rfl hlv.1 rfl (lv_room (Nat.le_of_ble_eq_true rfl)) dX12_readWork_82 ⟨Nat.le_of_ble_eq_true rfl, Nat.le_of_ble_eq_true rfl⟩) hP hD hS hA [1, 2] [0] rfl rfl (by decide) (by decide) (fun r7 u7 H locs hw7 hP hD hS => ?_)
      obtain ⟨rfl, hq7_1, hq7_2, hq7_3, hq7_4, hq7_5, hq7_6, hq7_7, hq7_8, hq7_9, hq7_10, hq7_11, hq7_12⟩ := hw7
      have hP : va_P D vwCl [zI m11 (cy 0) 68 f11, zO mm 12 [vI th, vR m1, vI tp, vI sz_, vI (u7.2.1 1), vI (u7.2.1 2), vI (u7.2.1 3), vI opn, vI fp, vR m9, vR m10, vR m11, vR m12, vR m13, vR m14, vR m15, vI im, vI nr, vI nl, vR m19, vR m20, vR m21, vI sp_, vR m23, vR m24, vR m25, vR m26, vR m27, vR m28, vI wtc, vI wcl, vI ir, vI ip, vR m33, vI shu, vR m35, vI sfa, vI swr], zI m9 (cy 0) 600 f9] H := hP
      have hD : va_D A [zI m11 (cy 0) 68 f11, zO mm 12 [vI th, vR m1, vI tp, vI sz_, vI (u7.2.1 1), vI (u7.2.1 2), vI (u7.2.1 3), vI opn, vI fp, vR m9, vR m10, vR m11, vR m12, vR m13, vR m14, vR m15, vI im, vI nr, vI nl, vR m19, vR m20, vR m21, vI sp_, vR m23, vR m24, vR m25, vR m26, vR m27, vR m28, vI wtc, vI wcl, vI ir, vI ip, vR m33, vI shu, vR m35, vI sfa, vI swr], zI m9 (cy 0) 600 f9] := hD
      refine lv_istore (lv' := [(6, vI (u7.2.1 0)), (5, vI (u6.2.1 0)), (4, vI (u2.2.1 0)), (3, vI (u1.2.1 0)), (2, vI z_3), (0, vR mm), (1, vI k)]) hx hb dX12_readWork_85 hlv (by decide) rfl (fun ls hlv => ?_)
      refine lv_aload_n hx hb dX12_readWork_87 rfl (lv_at hlv 5 rfl) ?_
      refine cj_i (wr := [zI m11 (cy 0) 68 f11, zI m9 (cy 0) 600 f9]) (va_runV (As := []) (rest := []) ⟨hx, hb, hml, hown, hts⟩ (m_fine l hl D cy sa mm m1 m9 m10 m11 m12 m13 m14 m15 m19 m20 m21 m23 m24 m25 m26 m27 m28 m33 m35 th tp sz_ (u7.2.1 1) (u7.2.1 2) (u7.2.1 3) opn fp im nr nl sp_ wtc wcl ir ip shu sfa swr H.size (by first | exact hr_th | omega) (by first | exact hr_tp | omega) (by first | exact hr_sz_ | omega) (by first | exact hq7_1 | omega) (by first | exact hq7_2 | omega) (by first | exact hq7_3 | omega) (by first | exact hr_opn | omega) (by first | exact hr_fp | omega) (by first | exact hr_im | omega) (by first | exact hr_nr | omega) (by first | exact hr_nl | omega) (by first | exact hr_sp_ | omega) (by first | exact hr_wtc | omega) (by first | exact hr_wcl | omega) (by first | exact hr_ir | omega) (by first | exact hr_ip | omega) (by first | exact hr_shu | omega) (by first | exact hr_sfa | omega) (by first | exact hr_swr | omega)) (cwV 0 hts gg_4 rfl rfl rfl (by decide +kernel) ⟨Nat.le_of_ble_eq_true rfl, Nat.le_of_ble_eq_true rfl⟩) ⟨pcW.blind, (va_recv hG.1 hP (ci := 12) (q0 := 1) rfl rfl), (pcW.mk hP hD hS hA hG hT [1] rfl (by decide))⟩ rfl rfl hlv.1 rfl (lv_room (Nat.le_of_ble_eq_true rfl)) dX12_readWork_88 ⟨Nat.le_of_ble_eq_true rfl, Nat.le_of_ble_eq_true rfl⟩) hP hD hS hA [1] [0, 2] rfl rfl (by decide) (by decide) (fun r8 u8 H locs hw8 hP hD hS => ?_)
      obtain ⟨rfl, hq8_1, hq8_2, hq8_3⟩ := hw8
      have hP : va_P D vwCl [zI m11 (cy 0) 68 f11, zI m9 (cy 0) 600 f9, zO mm 12 [vI th, vR m1, vI tp, vI sz_, vI (u7.2.1 1), vI (u7.2.1 2), vI (u7.2.1 3), vI opn, vI fp, vR m9, vR m10, vR m11, vR m12, vR m13, vR m14, vR m15, vI im, vI nr, vI nl, vR m19, vR m20, vR m21, vI sp_, vR m23, vR m24, vR m25, vR m26, vR m27, vR m28, vI wtc, vI wcl, vI ir, vI ip, vR m33, vI shu, vR m35, vI sfa, vI swr]] H := hP
      have hD : va_D A [zI m11 (cy 0) 68 f11, zI m9 (cy 0) 600 f9, zO mm 12 [vI th, vR m1, vI tp, vI sz_, vI (u7.2.1 1), vI (u7.2.1 2), vI (u7.2.1 3), vI opn, vI fp, vR m9, vR m10, vR m11, vR m12, vR m13, vR m14, vR m15, vI im, vI nr, vI nl, vR m19, vR m20, vR m21, vI sp_, vR m23, vR m24, vR m25, vR m26, vR m27, vR m28, vI wtc, vI wcl, vI ir, vI ip, vR m33, vI shu, vR m35, vI sfa, vI swr]] := hD
      refine iz_ne (tgt := 95) hx hb dX12_readWork_91 (by decide) (by first | exact rgw hq8_1 (by decide) (by decide) | omega) (fun c_21 => ?_) (fun c_21 => ?_)
      · have rshq7_7 := hq7_7 (by omega)
        have rshq6_7 := hq6_7 (by omega)
        have rshq2_7 := hq2_7 (by omega)
        have rshq1_7 := hq1_7 (by omega)
        clear hq7_7 hq7_8 hq7_9 hq7_10 hq6_7 hq6_8 hq6_9 hq6_10 hq2_7 hq2_8 hq2_9 hq1_7 hq1_8 hq1_9
        refine lv_aload_n hx hb dX12_readWork_95 rfl (lv_at hlv 5 rfl) ?_
        refine va_get (D := D) (ci := 12) (v := vR m11) (C := RX12) (T := TX12) (N := 38) hx hb hts hi12 hown hG.1 hP 2 rfl rfl 11 (by decide) lf26 (fun _ h9 => h9) rfl dX12_readWork_96 ?_
        refine lv_iload_n hx hb dX12_readWork_99 rfl (lv_at hlv 4 rfl) ?_
        refine lv_iload_n hx hb dX12_readWork_100 rfl (lv_at hlv 6 rfl) ?_
        refine va_iast hx hb hG.1 hP hD hS 0 0 rfl rfl (iI_in (by omega) (by decide)) dX12_readWork_101 (fun H locs hP hD hS => ?_)
        have ⟨f_22, hdf_22, hP, hD⟩ : ∃ f_22 : Nat → Int32, f_22 = upd f11 (iI z_3).toNatClampNeg (iI k) ∧ va_P D vwCl [zI m11 (cy 0) 68 f_22, zI m9 (cy 0) 600 f9, zO mm 12 [vI th, vR m1, vI tp, vI sz_, vI (u7.2.1 1), vI (u7.2.1 2), vI (u7.2.1 3), vI opn, vI fp, vR m9, vR m10, vR m11, vR m12, vR m13, vR m14, vR m15, vI im, vI nr, vI nl, vR m19, vR m20, vR m21, vI sp_, vR m23, vR m24, vR m25, vR m26, vR m27, vR m28, vI wtc, vI wcl, vI ir, vI ip, vR m33, vI shu, vR m35, vI sfa, vI swr]] H ∧ va_D A [zI m11 (cy 0) 68 f_22, zI m9 (cy 0) 600 f9, zO mm 12 [vI th, vR m1, vI tp, vI sz_, vI (u7.2.1 1), vI (u7.2.1 2), vI (u7.2.1 3), vI opn, vI fp, vR m9, vR m10, vR m11, vR m12, vR m13, vR m14, vR m15, vI im, vI nr, vI nl, vR m19, vR m20, vR m21, vI sp_, vR m23, vR m24, vR m25, vR m26, vR m27, vR m28, vI wtc, vI wcl, vI ir, vI ip, vR m33, vI shu, vR m35, vI sfa, vI swr]] := ⟨_, rfl, hP, hD⟩
        refine lv_aload_n hx hb dX12_readWork_102 rfl (lv_at hlv 5 rfl) ?_
        refine va_get (D := D) (ci := 12) (v := vR m11) (C := RX12) (T := TX12) (N := 38) hx hb hts hi12 hown hG.1 hP 2 rfl rfl 11 (by decide) lf26 (fun _ h9 => h9) rfl dX12_readWork_103 ?_
        refine lv_iload_n hx hb dX12_readWork_106 rfl (lv_at hlv 4 rfl) ?_
        refine lv_iconst (v := iI 1) hx hb dX12_readWork_107 (by decide) ?_
        refine lv_iadd hx hb dX12_readWork_108 ?_
        refine lt_e (e0 := z_3 + 1) (Int32.ofInt_add _ _).symm (fun z_23 hz_23 => ?_)
        refine lv_iload_n hx hb dX12_readWork_109 rfl (lv_at hlv 3 rfl) ?_
        refine va_iast hx hb hG.1 hP hD hS 0 0 rfl rfl (iI_in (by omega) (by decide)) dX12_readWork_110 (fun H locs hP hD hS => ?_)
        have ⟨f_24, hdf_24, hP, hD⟩ : ∃ f_24 : Nat → Int32, f_24 = upd f_22 (iI z_23).toNatClampNeg (iI (u1.2.1 0)) ∧ va_P D vwCl [zI m11 (cy 0) 68 f_24, zI m9 (cy 0) 600 f9, zO mm 12 [vI th, vR m1, vI tp, vI sz_, vI (u7.2.1 1), vI (u7.2.1 2), vI (u7.2.1 3), vI opn, vI fp, vR m9, vR m10, vR m11, vR m12, vR m13, vR m14, vR m15, vI im, vI nr, vI nl, vR m19, vR m20, vR m21, vI sp_, vR m23, vR m24, vR m25, vR m26, vR m27, vR m28, vI wtc, vI wcl, vI ir, vI ip, vR m33, vI shu, vR m35, vI sfa, vI swr]] H ∧ va_D A [zI m11 (cy 0) 68 f_24, zI m9 (cy 0) 600 f9, zO mm 12 [vI th, vR m1, vI tp, vI sz_, vI (u7.2.1 1), vI (u7.2.1 2), vI (u7.2.1 3), vI opn, vI fp, vR m9, vR m10, vR m11, vR m12, vR m13, vR m14, vR m15, vI im, vI nr, vI nl, vR m19, vR m20, vR m21, vI sp_, vR m23, vR m24, vR m25, vR m26, vR m27, vR m28, vI wtc, vI wcl, vI ir, vI ip, vR m33, vI shu, vR m35, vI sfa, vI swr]] := ⟨_, rfl, hP, hD⟩
        refine lv_aload_n hx hb dX12_readWork_111 rfl (lv_at hlv 5 rfl) ?_
        refine va_get (D := D) (ci := 12) (v := vR m11) (C := RX12) (T := TX12) (N := 38) hx hb hts hi12 hown hG.1 hP 2 rfl rfl 11 (by decide) lf26 (fun _ h9 => h9) rfl dX12_readWork_112 ?_
        refine lv_iload_n hx hb dX12_readWork_115 rfl (lv_at hlv 4 rfl) ?_
        refine lv_iconst (v := iI 2) hx hb dX12_readWork_116 (by decide) ?_
        refine lv_iadd hx hb dX12_readWork_117 ?_
        refine lt_e (e0 := z_3 + 2) (Int32.ofInt_add _ _).symm (fun z_25 hz_25 => ?_)
        refine lv_iload hx hb dX12_readWork_118 (lv_at hlv 2 rfl) ?_
        refine va_iast hx hb hG.1 hP hD hS 0 0 rfl rfl (iI_in (by omega) (by decide)) dX12_readWork_120 (fun H locs hP hD hS => ?_)
        have ⟨f_26, hdf_26, hP, hD⟩ : ∃ f_26 : Nat → Int32, f_26 = upd f_24 (iI z_25).toNatClampNeg (iI (u2.2.1 0)) ∧ va_P D vwCl [zI m11 (cy 0) 68 f_26, zI m9 (cy 0) 600 f9, zO mm 12 [vI th, vR m1, vI tp, vI sz_, vI (u7.2.1 1), vI (u7.2.1 2), vI (u7.2.1 3), vI opn, vI fp, vR m9, vR m10, vR m11, vR m12, vR m13, vR m14, vR m15, vI im, vI nr, vI nl, vR m19, vR m20, vR m21, vI sp_, vR m23, vR m24, vR m25, vR m26, vR m27, vR m28, vI wtc, vI wcl, vI ir, vI ip, vR m33, vI shu, vR m35, vI sfa, vI swr]] H ∧ va_D A [zI m11 (cy 0) 68 f_26, zI m9 (cy 0) 600 f9, zO mm 12 [vI th, vR m1, vI tp, vI sz_, vI (u7.2.1 1), vI (u7.2.1 2), vI (u7.2.1 3), vI opn, vI fp, vR m9, vR m10, vR m11, vR m12, vR m13, vR m14, vR m15, vI im, vI nr, vI nl, vR m19, vR m20, vR m21, vI sp_, vR m23, vR m24, vR m25, vR m26, vR m27, vR m28, vI wtc, vI wcl, vI ir, vI ip, vR m33, vI shu, vR m35, vI sfa, vI swr]] := ⟨_, rfl, hP, hD⟩
        refine lv_aload_n hx hb dX12_readWork_121 rfl (lv_at hlv 5 rfl) ?_
        refine va_get (D := D) (ci := 12) (v := vR m11) (C := RX12) (T := TX12) (N := 38) hx hb hts hi12 hown hG.1 hP 2 rfl rfl 11 (by decide) lf26 (fun _ h9 => h9) rfl dX12_readWork_122 ?_
        refine lv_iload_n hx hb dX12_readWork_125 rfl (lv_at hlv 4 rfl) ?_
        refine lv_iconst (v := iI 3) hx hb dX12_readWork_126 (by decide) ?_
        refine lv_iadd hx hb dX12_readWork_127 ?_
        refine lt_e (e0 := z_3 + 3) (Int32.ofInt_add _ _).symm (fun z_27 hz_27 => ?_)
        refine lv_iload hx hb dX12_readWork_128 (lv_at hlv 1 rfl) ?_
        refine va_iast hx hb hG.1 hP hD hS 0 0 rfl rfl (iI_in (by omega) (by decide)) dX12_readWork_130 (fun H locs hP hD hS => ?_)
        have ⟨f_28, hdf_28, hP, hD⟩ : ∃ f_28 : Nat → Int32, f_28 = upd f_26 (iI z_27).toNatClampNeg (iI (u6.2.1 0)) ∧ va_P D vwCl [zI m11 (cy 0) 68 f_28, zI m9 (cy 0) 600 f9, zO mm 12 [vI th, vR m1, vI tp, vI sz_, vI (u7.2.1 1), vI (u7.2.1 2), vI (u7.2.1 3), vI opn, vI fp, vR m9, vR m10, vR m11, vR m12, vR m13, vR m14, vR m15, vI im, vI nr, vI nl, vR m19, vR m20, vR m21, vI sp_, vR m23, vR m24, vR m25, vR m26, vR m27, vR m28, vI wtc, vI wcl, vI ir, vI ip, vR m33, vI shu, vR m35, vI sfa, vI swr]] H ∧ va_D A [zI m11 (cy 0) 68 f_28, zI m9 (cy 0) 600 f9, zO mm 12 [vI th, vR m1, vI tp, vI sz_, vI (u7.2.1 1), vI (u7.2.1 2), vI (u7.2.1 3), vI opn, vI fp, vR m9, vR m10, vR m11, vR m12, vR m13, vR m14, vR m15, vI im, vI nr, vI nl, vR m19, vR m20, vR m21, vI sp_, vR m23, vR m24, vR m25, vR m26, vR m27, vR m28, vI wtc, vI wcl, vI ir, vI ip, vR m33, vI shu, vR m35, vI sfa, vI swr]] := ⟨_, rfl, hP, hD⟩
        refine lv_aload_n hx hb dX12_readWork_131 rfl (lv_at hlv 5 rfl) ?_
        refine va_get (D := D) (ci := 12) (v := vR m11) (C := RX12) (T := TX12) (N := 38) hx hb hts hi12 hown hG.1 hP 2 rfl rfl 11 (by decide) lf26 (fun _ h9 => h9) rfl dX12_readWork_132 ?_
        refine lv_iload_n hx hb dX12_readWork_135 rfl (lv_at hlv 4 rfl) ?_
        refine lv_iconst (v := iI 4) hx hb dX12_readWork_136 (by decide) ?_
        refine lv_iadd hx hb dX12_readWork_137 ?_
        refine lt_e (e0 := z_3 + 4) (Int32.ofInt_add _ _).symm (fun z_29 hz_29 => ?_)
        refine lv_iload hx hb dX12_readWork_138 (lv_at hlv 0 rfl) ?_
        refine va_iast hx hb hG.1 hP hD hS 0 0 rfl rfl (iI_in (by omega) (by decide)) dX12_readWork_140 (fun H locs hP hD hS => ?_)
        have ⟨f_30, hdf_30, hP, hD⟩ : ∃ f_30 : Nat → Int32, f_30 = upd f_28 (iI z_29).toNatClampNeg (iI (u7.2.1 0)) ∧ va_P D vwCl [zI m11 (cy 0) 68 f_30, zI m9 (cy 0) 600 f9, zO mm 12 [vI th, vR m1, vI tp, vI sz_, vI (u7.2.1 1), vI (u7.2.1 2), vI (u7.2.1 3), vI opn, vI fp, vR m9, vR m10, vR m11, vR m12, vR m13, vR m14, vR m15, vI im, vI nr, vI nl, vR m19, vR m20, vR m21, vI sp_, vR m23, vR m24, vR m25, vR m26, vR m27, vR m28, vI wtc, vI wcl, vI ir, vI ip, vR m33, vI shu, vR m35, vI sfa, vI swr]] H ∧ va_D A [zI m11 (cy 0) 68 f_30, zI m9 (cy 0) 600 f9, zO mm 12 [vI th, vR m1, vI tp, vI sz_, vI (u7.2.1 1), vI (u7.2.1 2), vI (u7.2.1 3), vI opn, vI fp, vR m9, vR m10, vR m11, vR m12, vR m13, vR m14, vR m15, vI im, vI nr, vI nl, vR m19, vR m20, vR m21, vI sp_, vR m23, vR m24, vR m25, vR m26, vR m27, vR m28, vI wtc, vI wcl, vI ir, vI ip, vR m33, vI shu, vR m35, vI sfa, vI swr]] := ⟨_, rfl, hP, hD⟩
        have ⟨hif_30, hkf_30⟩ := NI.ww (k := z_1) hq2_12 (by omega) (by omega) (by omega) (by omega) (by omega) (by omega) hdf_22 hdf_24 hdf_26 hdf_28 hdf_30 (by omega) (by omega) (by omega) (by omega)
        have htf_30_0 : nz f_30 0 = nz f11 0 := hkf_30 0 (by decide)
        have htf_30_1 : nz f_30 1 = nz f11 1 := hkf_30 1 (by decide)
        have htf_30_2 : nz f_30 2 = nz f11 2 := hkf_30 2 (by decide)
        have htf_30_3 : nz f_30 3 = nz f11 3 := hkf_30 3 (by decide)
        have htf_30_4 : nz f_30 4 = nz f11 4 := hkf_30 4 (by decide)
        have htf_30_5 : nz f_30 5 = nz f11 5 := hkf_30 5 (by decide)
        refine lv_aload_n hx hb dX12_readWork_141 rfl (lv_at hlv 5 rfl) ?_
        refine va_get (D := D) (ci := 12) (v := vR m11) (C := RX12) (T := TX12) (N := 38) hx hb hts hi12 hown hG.1 hP 2 rfl rfl 11 (by decide) lf26 (fun _ h9 => h9) rfl dX12_readWork_142 ?_
        refine lv_iconst (v := iI 5) hx hb dX12_readWork_145 (by decide) ?_
        refine lv_dup2_11 hx hb dX12_readWork_146 rfl rfl ?_
        refine va_iald hx hb hG.1 hP 0 0 rfl rfl (iI_in (by omega) (by decide)) dX12_readWork_147 ?_
        refine lt_nz (i := 5) (by omega) (fun z_31 hz_31 lz_31 uz_31 => ?_)
        have hz_31 : z_31 = nz f_30 5 := hz_31
        have hbz_31_56 := hif_30.2.2.2.2.2.1
        refine lv_iconst (v := iI 1) hx hb dX12_readWork_148 (by decide) ?_
        refine lv_iadd hx hb dX12_readWork_149 ?_
        refine lt_e (e0 := z_31 + 1) (Int32.ofInt_add _ _).symm (fun z_32 hz_32 => ?_)
        refine va_iast hx hb hG.1 hP hD hS 0 0 rfl rfl (iI_in (by omega) (by decide)) dX12_readWork_150 (fun H locs hP hD hS => ?_)
        have ⟨f_33, hdf_33, hP, hD⟩ : ∃ f_33 : Nat → Int32, f_33 = upd f_30 (iI 5).toNatClampNeg (iI z_32) ∧ va_P D vwCl [zI m11 (cy 0) 68 f_33, zI m9 (cy 0) 600 f9, zO mm 12 [vI th, vR m1, vI tp, vI sz_, vI (u7.2.1 1), vI (u7.2.1 2), vI (u7.2.1 3), vI opn, vI fp, vR m9, vR m10, vR m11, vR m12, vR m13, vR m14, vR m15, vI im, vI nr, vI nl, vR m19, vR m20, vR m21, vI sp_, vR m23, vR m24, vR m25, vR m26, vR m27, vR m28, vI wtc, vI wcl, vI ir, vI ip, vR m33, vI shu, vR m35, vI sfa, vI swr]] H ∧ va_D A [zI m11 (cy 0) 68 f_33, zI m9 (cy 0) 600 f9, zO mm 12 [vI th, vR m1, vI tp, vI sz_, vI (u7.2.1 1), vI (u7.2.1 2), vI (u7.2.1 3), vI opn, vI fp, vR m9, vR m10, vR m11, vR m12, vR m13, vR m14, vR m15, vI im, vI nr, vI nl, vR m19, vR m20, vR m21, vI sp_, vR m23, vR m24, vR m25, vR m26, vR m27, vR m28, vI wtc, vI wcl, vI ir, vI ip, vR m33, vI shu, vR m35, vI sfa, vI swr]] := ⟨_, rfl, hP, hD⟩
        have hif_33 : NI f_33 := NI.wk hif_30 hdf_33 (by omega) (by omega)
        have htf_33_0 : nz f_33 0 = nz f_30 0 := nz_un hdf_33 (by omega) (by omega)
        have htf_33_1 : nz f_33 1 = nz f_30 1 := nz_un hdf_33 (by omega) (by omega)
        have htf_33_2 : nz f_33 2 = nz f_30 2 := nz_un hdf_33 (by omega) (by omega)
        have htf_33_3 : nz f_33 3 = nz f_30 3 := nz_un hdf_33 (by omega) (by omega)
        have htf_33_4 : nz f_33 4 = nz f_30 4 := nz_un hdf_33 (by omega) (by omega)
        have htf_33_5 : nz f_33 5 = z_32 := nz_us hdf_33 (by omega) (by omega) (by omega)
        refine W.widen (k := 0) (n := 0) (Nat.le_of_ble_eq_true rfl) (Nat.le_of_ble_eq_true rfl) ?_
        exact W.vret hx hb hr (fun t ht hW => ⟨⟨((fun k => ([] : List Nat).getD k 0), (fun k => ([0, (u7.2.1 1), (u7.2.1 2), (u7.2.1 3)] : List Int).getD k 0), (fun k => ([f_33] : List (Nat → Int32)).getD k (fun _ => 0))), rfl, ⟨(by show (0 ≤ (u7.2.1 1) ∧ (u7.2.1 1) ≤ 602); first | exact hq7_1 | omega), (by show ((-1) ≤ (u7.2.1 2) ∧ (u7.2.1 2) ≤ 602); first | exact hq7_2 | omega), (by show (0 ≤ (u7.2.1 3) ∧ (u7.2.1 3) ≤ 4); first | exact hq7_3 | omega), (by show (ap ≤ (u7.2.1 1)); omega), (by show (ap ≤ sz_ → (u7.2.1 1) ≤ sz_); omega), (by show ((u7.2.1 2) = -1 → bad = -1); omega), (by show (bad ≠ -1 → (u7.2.1 2) = bad); omega), (by show ((u7.2.1 2) ≠ -1 → 1 ≤ (u7.2.1 3)); first | exact hq7_8 | omega), (by show (nz (f_33) 0 = nz f11 0); omega), (by show (nz (f_33) 1 = nz f11 1); omega), (by show (nz (f_33) 2 = nz f11 2); omega), (by show (nz (f_33) 3 = nz f11 3); omega), (by show (nz (f_33) 4 = nz f11 4); omega), (by show (RdS (chF (nz f9) sz_ (wkL k (nz f11 0) (nz f11 1) (nz f11 2)) ap) (chP (nz f9) sz_ (wkL k (nz f11 0) (nz f11 1) (nz f11 2)) ap) (chA (nz f9) sz_ (wkL k (nz f11 0) (nz f11 1) (nz f11 2)) ap) (fr_ bad bk) bad ((u7.2.1 1)) (fr_ ((u7.2.1 2)) ((u7.2.1 3))) ((u7.2.1 2))); exact (by rw [wkL_3 (by omega)]; exact (ch_c (NuP.hi hq1_10 (by omega) (by omega)) (ch_c (NuP.hi hq2_10 (by omega) (by omega)) (ch_c (NuP.hi hq6_11 (by omega) (by omega)) (ch_c (NuP.hi hq7_11 (by omega) (by omega)) ch_n)))))), (by show ((u7.2.1 2) = -1 → nz (f_33) = wkBk (nz f11) k (nz f9) sz_ ap); exact (fun h9 => by obtain ⟨x0_, a0_⟩ := NuP.m hq1_10 (by omega); obtain ⟨x1_, a1_⟩ := NuP.m hq2_10 (by omega); rw [a0_] at x1_ a1_; obtain ⟨x2_, a2_⟩ := NuP.m hq6_11 (by omega); rw [a1_] at x2_ a2_; obtain ⟨x3_, a3_⟩ := NuP.m hq7_11 (by omega); rw [a2_] at x3_ a3_; rw [wkBk_1 (by omega)]; exact (upz_c (upz_c (upz_c (upz_c (upz_c (upz_c rfl hdf_22 (by omega) (by omega) (by omega) (by omega)) hdf_24 (by omega) (by omega) (by omega) (by omega)) hdf_26 (by omega) (by omega) (by omega) (by omega)) hdf_28 (by omega) (by omega) (by omega) (by omega)) hdf_30 (by omega) (by omega) (by omega) (by omega)) hdf_33 (by omega) (by omega) (by omega) (by omega)))), hq7_12, hif_33⟩, by rw [ht]; exact hP.sub [2, 1, 0] rfl, hD.sub [2, 1, 0] (by decide) rfl⟩, hS.F ht⟩) hS.2.2 dX12_readWork_151
      · have rshq7_8 := hq7_8 (by omega)
        have rshq7_10 := hq7_10 (by omega)
        clear hq7_7 hq7_8 hq7_10
        refine W.widen (k := 0) (n := 0) (Nat.le_of_ble_eq_true rfl) (Nat.le_of_ble_eq_true rfl) ?_
        exact W.vret hx hb hr (fun t ht hW => ⟨⟨((fun k => ([] : List Nat).getD k 0), (fun k => ([0, (u7.2.1 1), (u7.2.1 2), (u7.2.1 3)] : List Int).getD k 0), (fun k => ([f11] : List (Nat → Int32)).getD k (fun _ => 0))), rfl, ⟨(by show (0 ≤ (u7.2.1 1) ∧ (u7.2.1 1) ≤ 602); first | exact hq7_1 | omega), (by show ((-1) ≤ (u7.2.1 2) ∧ (u7.2.1 2) ≤ 602); first | exact hq7_2 | omega), (by show (0 ≤ (u7.2.1 3) ∧ (u7.2.1 3) ≤ 4); first | exact hq7_3 | omega), (by show (ap ≤ (u7.2.1 1)); omega), (by show (ap ≤ sz_ → (u7.2.1 1) ≤ sz_); omega), (by show ((u7.2.1 2) = -1 → bad = -1); omega), (by show (bad ≠ -1 → (u7.2.1 2) = bad); omega), (by show ((u7.2.1 2) ≠ -1 → 1 ≤ (u7.2.1 3)); first | exact hq7_8 | omega), (by show (nz (f11) 0 = nz f11 0); omega), (by show (nz (f11) 1 = nz f11 1); omega), (by show (nz (f11) 2 = nz f11 2); omega), (by show (nz (f11) 3 = nz f11 3); omega), (by show (nz (f11) 4 = nz f11 4); omega), (by show (RdS (chF (nz f9) sz_ (wkL k (nz f11 0) (nz f11 1) (nz f11 2)) ap) (chP (nz f9) sz_ (wkL k (nz f11 0) (nz f11 1) (nz f11 2)) ap) (chA (nz f9) sz_ (wkL k (nz f11 0) (nz f11 1) (nz f11 2)) ap) (fr_ bad bk) bad ((u7.2.1 1)) (fr_ ((u7.2.1 2)) ((u7.2.1 3))) ((u7.2.1 2))); exact (by rw [wkL_3 (by omega)]; exact (ch_c (NuP.hi hq1_10 (by omega) (by omega)) (ch_c (NuP.hi hq2_10 (by omega) (by omega)) (ch_c (NuP.hi hq6_11 (by omega) (by omega)) (ch_c (NuP.hi hq7_11 (by omega) (by omega)) ch_n)))))), (by show ((u7.2.1 2) = -1 → nz (f11) = wkBk (nz f11) k (nz f9) sz_ ap); exact (fun h9 => by exfalso; omega)), hq7_12, hq2_12⟩, by rw [ht]; exact hP.sub [2, 1, 0] rfl, hD.sub [2, 1, 0] (by decide) rfl⟩, hS.F ht⟩) hS.2.2 dX12_readWork_94
  · refine lv_aload_n hx hb dX12_readWork_16 rfl (lv_at hlv 1 rfl) ?_
    refine lv_iconst (v := iI 0) hx hb dX12_readWork_17 (by decide) ?_
    refine lv_aload_n hx hb dX12_readWork_18 rfl (lv_at hlv 1 rfl) ?_
    refine va_get (D := D) (ci := 12) (v := vR m11) (C := RX12) (T := TX12) (N := 38) hx hb hts hi12 hown hG.1 hP 0 rfl rfl 11 (by decide) lf26 (fun _ h9 => h9) rfl dX12_readWork_19 ?_
    refine lv_iconst (v := iI 2) hx hb dX12_readWork_22 (by decide) ?_
    refine va_iald hx hb hG.1 hP 2 0 rfl rfl (iI_in (by omega) (by decide)) dX12_readWork_23 ?_
    refine lt_nz (i := 2) (by omega) (fun z_34 hz_34 lz_34 uz_34 => ?_)
    have hz_34 : z_34 = nz f11 2 := hz_34
    have hbz_34_8 := hf11.2.2.1
    refine lv_iconst (v := iI 1) hx hb dX12_readWork_24 (by decide) ?_
    refine lv_isub hx hb dX12_readWork_25 ?_
    refine lt_e (e0 := z_34 - 1) (Int32.ofInt_sub _ _).symm (fun z_35 hz_35 => ?_)
    refine cj_i (wr := [zI m11 (cy 0) 68 f11]) (va_runV (As := [vI 0, vI z_35]) (rest := []) ⟨hx, hb, hml, hown, hts⟩ (x_number l hl D cy sa mm m1 m9 m10 m11 m12 m13 m14 m15 m19 m20 m21 m23 m24 m25 m26 m27 m28 m33 m35 th tp sz_ ap bad bk opn fp im nr nl sp_ wtc wcl ir ip shu sfa swr f9 0 z_35 s.heap.size (by first | exact hr_th | omega) (by first | exact hr_tp | omega) (by first | exact hr_sz_ | omega) (by first | exact hr_ap | omega) (by first | exact hr_bad | omega) (by first | exact hr_bk | omega) (by first | exact hr_opn | omega) (by first | exact hr_fp | omega) (by first | exact hr_im | omega) (by first | exact hr_nr | omega) (by first | exact hr_nl | omega) (by first | exact hr_sp_ | omega) (by first | exact hr_wtc | omega) (by first | exact hr_wcl | omega) (by first | exact hr_ir | omega) (by first | exact hr_ip | omega) (by first | exact hr_shu | omega) (by first | exact hr_sfa | omega) (by first | exact hr_swr | omega) (by show ((-1) : Int) ≤ 0 ∧ (0 : Int) ≤ 99999; decide) (by omega) hp1 hf9) (cwV 2 hts gg_3 rfl rfl rfl (by decide +kernel) ⟨Nat.le_of_ble_eq_true rfl, Nat.le_of_ble_eq_true rfl⟩) ⟨pcW.blind, (va_recv hG.1 hP (ci := 12) (q0 := 0) rfl rfl), (pcW.mk hP hD hS hA hG hT [0, 1] rfl (by decide))⟩ rfl rfl hlv.1 rfl (lv_room (Nat.le_of_ble_eq_true rfl)) dX12_readWork_26 ⟨Nat.le_of_ble_eq_true rfl, Nat.le_of_ble_eq_true rfl⟩) hP hD hS hA [0, 1] [2] rfl rfl (by decide) (by decide) (fun r9 u9 H locs hw9 hP hD hS => ?_)
    obtain ⟨rfl, hq9_1, hq9_2, hq9_3, hq9_4, hq9_5, hq9_6, hq9_7, hq9_8, hq9_9, hq9_10, hq9_11, hq9_12⟩ := hw9
    have hP : va_P D vwCl [zI m11 (cy 0) 68 f11, zO mm 12 [vI th, vR m1, vI tp, vI sz_, vI (u9.2.1 1), vI (u9.2.1 2), vI (u9.2.1 3), vI opn, vI fp, vR m9, vR m10, vR m11, vR m12, vR m13, vR m14, vR m15, vI im, vI nr, vI nl, vR m19, vR m20, vR m21, vI sp_, vR m23, vR m24, vR m25, vR m26, vR m27, vR m28, vI wtc, vI wcl, vI ir, vI ip, vR m33, vI shu, vR m35, vI sfa, vI swr], zI m9 (cy 0) 600 f9] H := hP
    have hD : va_D A [zI m11 (cy 0) 68 f11, zO mm 12 [vI th, vR m1, vI tp, vI sz_, vI (u9.2.1 1), vI (u9.2.1 2), vI (u9.2.1 3), vI opn, vI fp, vR m9, vR m10, vR m11, vR m12, vR m13, vR m14, vR m15, vI im, vI nr, vI nl, vR m19, vR m20, vR m21, vI sp_, vR m23, vR m24, vR m25, vR m26, vR m27, vR m28, vI wtc, vI wcl, vI ir, vI ip, vR m33, vI shu, vR m35, vI sfa, vI swr], zI m9 (cy 0) 600 f9] := hD
    refine lv_goto (tgt := 36) hx hb dX12_readWork_29 (by decide) ?_
    refine lv_istore_n (lv' := [(3, vI (u9.2.1 0)), (2, vI z_3), (0, vR mm), (1, vI k)]) hx hb dX12_readWork_36 rfl hlv (by decide) rfl (fun ls hlv => ?_)
    refine lv_iload_n hx hb dX12_readWork_37 rfl (lv_at hlv 3 rfl) ?_
    refine iz_ne (tgt := 45) hx hb dX12_readWork_38 (by decide) (by first | exact rgw hr_k (by decide) (by decide) | omega) (fun c_36 => by exfalso; omega) (fun c_36 => ?_)
    refine lv_iconst (v := iI 0) hx hb dX12_readWork_41 (by decide) ?_
    refine lv_goto (tgt := 49) hx hb dX12_readWork_42 (by decide) ?_
    refine lv_istore (lv' := [(4, vI 0), (3, vI (u9.2.1 0)), (2, vI z_3), (0, vR mm), (1, vI k)]) hx hb dX12_readWork_49 hlv (by decide) rfl (fun ls hlv => ?_)
    refine lv_iload_n hx hb dX12_readWork_51 rfl (lv_at hlv 4 rfl) ?_
    refine iz_ne (tgt := 59) hx hb dX12_readWork_52 (by decide) (by first | exact rgw hr_k (by decide) (by decide) | omega) (fun c_37 => by exfalso; omega) (fun c_37 => ?_)
    refine lv_iconst (v := iI 0) hx hb dX12_readWork_55 (by decide) ?_
    refine lv_goto (tgt := 76) hx hb dX12_readWork_56 (by decide) ?_
    refine lv_istore (lv' := [(5, vI 0), (4, vI 0), (3, vI (u9.2.1 0)), (2, vI z_3), (0, vR mm), (1, vI k)]) hx hb dX12_readWork_76 hlv (by decide) rfl (fun ls hlv => ?_)
    refine lv_aload_n hx hb dX12_readWork_78 rfl (lv_at hlv 4 rfl) ?_
    refine lv_iconst (v := iI 1) hx hb dX12_readWork_79 (by decide) ?_
    refine lv_bipush (v := iI 99) hx hb dX12_readWork_80 (by decide) ?_
    refine cj_i (wr := [zI m11 (cy 0) 68 f11]) (va_runV (As := [vI 1, vI 99]) (rest := []) ⟨hx, hb, hml, hown, hts⟩ (x_number l hl D cy sa mm m1 m9 m10 m11 m12 m13 m14 m15 m19 m20 m21 m23 m24 m25 m26 m27 m28 m33 m35 th tp sz_ (u9.2.1 1) (u9.2.1 2) (u9.2.1 3) opn fp im nr nl sp_ wtc wcl ir ip shu sfa swr f9 1 99 H.size (by first | exact hr_th | omega) (by first | exact hr_tp | omega) (by first | exact hr_sz_ | omega) (by first | exact hq9_1 | omega) (by first | exact hq9_2 | omega) (by first | exact hq9_3 | omega) (by first | exact hr_opn | omega) (by first | exact hr_fp | omega) (by first | exact hr_im | omega) (by first | exact hr_nr | omega) (by first | exact hr_nl | omega) (by first | exact hr_sp_ | omega) (by first | exact hr_wtc | omega) (by first | exact hr_wcl | omega) (by first | exact hr_ir | omega) (by first | exact hr_ip | omega) (by first | exact hr_shu | omega) (by first | exact hr_sfa | omega) (by first | exact hr_swr | omega) (by show ((-1) : Int) ≤ 1 ∧ (1 : Int) ≤ 99999; decide) (by show ((-1) : Int) ≤ 99 ∧ (99 : Int) ≤ 9999; decide) (by first | exact hq9_8 | omega) hq9_12) (cwV 2 hts gg_3 rfl rfl rfl (by decide +kernel) ⟨Nat.le_of_ble_eq_true rfl, Nat.le_of_ble_eq_true rfl⟩) ⟨pcW.blind, (va_recv hG.1 hP (ci := 12) (q0 := 1) rfl rfl), (pcW.mk hP hD hS hA hG hT [1, 2] rfl (by decide))⟩ rfl rfl hlv.1 rfl (lv_room (Nat.le_of_ble_eq_true rfl)) dX12_readWork_82 ⟨Nat.le_of_ble_eq_true rfl, Nat.le_of_ble_eq_true rfl⟩) hP hD hS hA [1, 2] [0] rfl rfl (by decide) (by decide) (fun r10 u10 H locs hw10 hP hD hS => ?_)
    obtain ⟨rfl, hq10_1, hq10_2, hq10_3, hq10_4, hq10_5, hq10_6, hq10_7, hq10_8, hq10_9, hq10_10, hq10_11, hq10_12⟩ := hw10
    have hP : va_P D vwCl [zI m11 (cy 0) 68 f11, zO mm 12 [vI th, vR m1, vI tp, vI sz_, vI (u10.2.1 1), vI (u10.2.1 2), vI (u10.2.1 3), vI opn, vI fp, vR m9, vR m10, vR m11, vR m12, vR m13, vR m14, vR m15, vI im, vI nr, vI nl, vR m19, vR m20, vR m21, vI sp_, vR m23, vR m24, vR m25, vR m26, vR m27, vR m28, vI wtc, vI wcl, vI ir, vI ip, vR m33, vI shu, vR m35, vI sfa, vI swr], zI m9 (cy 0) 600 f9] H := hP
    have hD : va_D A [zI m11 (cy 0) 68 f11, zO mm 12 [vI th, vR m1, vI tp, vI sz_, vI (u10.2.1 1), vI (u10.2.1 2), vI (u10.2.1 3), vI opn, vI fp, vR m9, vR m10, vR m11, vR m12, vR m13, vR m14, vR m15, vI im, vI nr, vI nl, vR m19, vR m20, vR m21, vI sp_, vR m23, vR m24, vR m25, vR m26, vR m27, vR m28, vI wtc, vI wcl, vI ir, vI ip, vR m33, vI shu, vR m35, vI sfa, vI swr], zI m9 (cy 0) 600 f9] := hD
    refine lv_istore (lv' := [(6, vI (u10.2.1 0)), (5, vI 0), (4, vI 0), (3, vI (u9.2.1 0)), (2, vI z_3), (0, vR mm), (1, vI k)]) hx hb dX12_readWork_85 hlv (by decide) rfl (fun ls hlv => ?_)
    refine lv_aload_n hx hb dX12_readWork_87 rfl (lv_at hlv 5 rfl) ?_
    refine cj_i (wr := [zI m11 (cy 0) 68 f11, zI m9 (cy 0) 600 f9]) (va_runV (As := []) (rest := []) ⟨hx, hb, hml, hown, hts⟩ (m_fine l hl D cy sa mm m1 m9 m10 m11 m12 m13 m14 m15 m19 m20 m21 m23 m24 m25 m26 m27 m28 m33 m35 th tp sz_ (u10.2.1 1) (u10.2.1 2) (u10.2.1 3) opn fp im nr nl sp_ wtc wcl ir ip shu sfa swr H.size (by first | exact hr_th | omega) (by first | exact hr_tp | omega) (by first | exact hr_sz_ | omega) (by first | exact hq10_1 | omega) (by first | exact hq10_2 | omega) (by first | exact hq10_3 | omega) (by first | exact hr_opn | omega) (by first | exact hr_fp | omega) (by first | exact hr_im | omega) (by first | exact hr_nr | omega) (by first | exact hr_nl | omega) (by first | exact hr_sp_ | omega) (by first | exact hr_wtc | omega) (by first | exact hr_wcl | omega) (by first | exact hr_ir | omega) (by first | exact hr_ip | omega) (by first | exact hr_shu | omega) (by first | exact hr_sfa | omega) (by first | exact hr_swr | omega)) (cwV 0 hts gg_4 rfl rfl rfl (by decide +kernel) ⟨Nat.le_of_ble_eq_true rfl, Nat.le_of_ble_eq_true rfl⟩) ⟨pcW.blind, (va_recv hG.1 hP (ci := 12) (q0 := 1) rfl rfl), (pcW.mk hP hD hS hA hG hT [1] rfl (by decide))⟩ rfl rfl hlv.1 rfl (lv_room (Nat.le_of_ble_eq_true rfl)) dX12_readWork_88 ⟨Nat.le_of_ble_eq_true rfl, Nat.le_of_ble_eq_true rfl⟩) hP hD hS hA [1] [0, 2] rfl rfl (by decide) (by decide) (fun r11 u11 H locs hw11 hP hD hS => ?_)
    obtain ⟨rfl, hq11_1, hq11_2, hq11_3⟩ := hw11
    have hP : va_P D vwCl [zI m11 (cy 0) 68 f11, zI m9 (cy 0) 600 f9, zO mm 12 [vI th, vR m1, vI tp, vI sz_, vI (u10.2.1 1), vI (u10.2.1 2), vI (u10.2.1 3), vI opn, vI fp, vR m9, vR m10, vR m11, vR m12, vR m13, vR m14, vR m15, vI im, vI nr, vI nl, vR m19, vR m20, vR m21, vI sp_, vR m23, vR m24, vR m25, vR m26, vR m27, vR m28, vI wtc, vI wcl, vI ir, vI ip, vR m33, vI shu, vR m35, vI sfa, vI swr]] H := hP
    have hD : va_D A [zI m11 (cy 0) 68 f11, zI m9 (cy 0) 600 f9, zO mm 12 [vI th, vR m1, vI tp, vI sz_, vI (u10.2.1 1), vI (u10.2.1 2), vI (u10.2.1 3), vI opn, vI fp, vR m9, vR m10, vR m11, vR m12, vR m13, vR m14, vR m15, vI im, vI nr, vI nl, vR m19, vR m20, vR m21, vI sp_, vR m23, vR m24, vR m25, vR m26, vR m27, vR m28, vI wtc, vI wcl, vI ir, vI ip, vR m33, vI shu, vR m35, vI sfa, vI swr]] := hD
    refine iz_ne (tgt := 95) hx hb dX12_readWork_91 (by decide) (by first | exact rgw hq11_1 (by decide) (by decide) | omega) (fun c_38 => ?_) (fun c_38 => ?_)
    · have rshq10_7 := hq10_7 (by omega)
      have rshq9_7 := hq9_7 (by omega)
      clear hq10_7 hq10_8 hq10_9 hq10_10 hq9_7 hq9_8 hq9_9 hq9_10
      refine lv_aload_n hx hb dX12_readWork_95 rfl (lv_at hlv 5 rfl) ?_
      refine va_get (D := D) (ci := 12) (v := vR m11) (C := RX12) (T := TX12) (N := 38) hx hb hts hi12 hown hG.1 hP 2 rfl rfl 11 (by decide) lf26 (fun _ h9 => h9) rfl dX12_readWork_96 ?_
      refine lv_iload_n hx hb dX12_readWork_99 rfl (lv_at hlv 4 rfl) ?_
      refine lv_iload_n hx hb dX12_readWork_100 rfl (lv_at hlv 6 rfl) ?_
      refine va_iast hx hb hG.1 hP hD hS 0 0 rfl rfl (iI_in (by omega) (by decide)) dX12_readWork_101 (fun H locs hP hD hS => ?_)
      have ⟨f_39, hdf_39, hP, hD⟩ : ∃ f_39 : Nat → Int32, f_39 = upd f11 (iI z_3).toNatClampNeg (iI k) ∧ va_P D vwCl [zI m11 (cy 0) 68 f_39, zI m9 (cy 0) 600 f9, zO mm 12 [vI th, vR m1, vI tp, vI sz_, vI (u10.2.1 1), vI (u10.2.1 2), vI (u10.2.1 3), vI opn, vI fp, vR m9, vR m10, vR m11, vR m12, vR m13, vR m14, vR m15, vI im, vI nr, vI nl, vR m19, vR m20, vR m21, vI sp_, vR m23, vR m24, vR m25, vR m26, vR m27, vR m28, vI wtc, vI wcl, vI ir, vI ip, vR m33, vI shu, vR m35, vI sfa, vI swr]] H ∧ va_D A [zI m11 (cy 0) 68 f_39, zI m9 (cy 0) 600 f9, zO mm 12 [vI th, vR m1, vI tp, vI sz_, vI (u10.2.1 1), vI (u10.2.1 2), vI (u10.2.1 3), vI opn, vI fp, vR m9, vR m10, vR m11, vR m12, vR m13, vR m14, vR m15, vI im, vI nr, vI nl, vR m19, vR m20, vR m21, vI sp_, vR m23, vR m24, vR m25, vR m26, vR m27, vR m28, vI wtc, vI wcl, vI ir, vI ip, vR m33, vI shu, vR m35, vI sfa, vI swr]] := ⟨_, rfl, hP, hD⟩
      refine lv_aload_n hx hb dX12_readWork_102 rfl (lv_at hlv 5 rfl) ?_
      refine va_get (D := D) (ci := 12) (v := vR m11) (C := RX12) (T := TX12) (N := 38) hx hb hts hi12 hown hG.1 hP 2 rfl rfl 11 (by decide) lf26 (fun _ h9 => h9) rfl dX12_readWork_103 ?_
      refine lv_iload_n hx hb dX12_readWork_106 rfl (lv_at hlv 4 rfl) ?_
      refine lv_iconst (v := iI 1) hx hb dX12_readWork_107 (by decide) ?_
      refine lv_iadd hx hb dX12_readWork_108 ?_
      refine lt_e (e0 := z_3 + 1) (Int32.ofInt_add _ _).symm (fun z_40 hz_40 => ?_)
      refine lv_iload_n hx hb dX12_readWork_109 rfl (lv_at hlv 3 rfl) ?_
      refine va_iast hx hb hG.1 hP hD hS 0 0 rfl rfl (iI_in (by omega) (by decide)) dX12_readWork_110 (fun H locs hP hD hS => ?_)
      have ⟨f_41, hdf_41, hP, hD⟩ : ∃ f_41 : Nat → Int32, f_41 = upd f_39 (iI z_40).toNatClampNeg (iI (u9.2.1 0)) ∧ va_P D vwCl [zI m11 (cy 0) 68 f_41, zI m9 (cy 0) 600 f9, zO mm 12 [vI th, vR m1, vI tp, vI sz_, vI (u10.2.1 1), vI (u10.2.1 2), vI (u10.2.1 3), vI opn, vI fp, vR m9, vR m10, vR m11, vR m12, vR m13, vR m14, vR m15, vI im, vI nr, vI nl, vR m19, vR m20, vR m21, vI sp_, vR m23, vR m24, vR m25, vR m26, vR m27, vR m28, vI wtc, vI wcl, vI ir, vI ip, vR m33, vI shu, vR m35, vI sfa, vI swr]] H ∧ va_D A [zI m11 (cy 0) 68 f_41, zI m9 (cy 0) 600 f9, zO mm 12 [vI th, vR m1, vI tp, vI sz_, vI (u10.2.1 1), vI (u10.2.1 2), vI (u10.2.1 3), vI opn, vI fp, vR m9, vR m10, vR m11, vR m12, vR m13, vR m14, vR m15, vI im, vI nr, vI nl, vR m19, vR m20, vR m21, vI sp_, vR m23, vR m24, vR m25, vR m26, vR m27, vR m28, vI wtc, vI wcl, vI ir, vI ip, vR m33, vI shu, vR m35, vI sfa, vI swr]] := ⟨_, rfl, hP, hD⟩
      refine lv_aload_n hx hb dX12_readWork_111 rfl (lv_at hlv 5 rfl) ?_
      refine va_get (D := D) (ci := 12) (v := vR m11) (C := RX12) (T := TX12) (N := 38) hx hb hts hi12 hown hG.1 hP 2 rfl rfl 11 (by decide) lf26 (fun _ h9 => h9) rfl dX12_readWork_112 ?_
      refine lv_iload_n hx hb dX12_readWork_115 rfl (lv_at hlv 4 rfl) ?_
      refine lv_iconst (v := iI 2) hx hb dX12_readWork_116 (by decide) ?_
      refine lv_iadd hx hb dX12_readWork_117 ?_
      refine lt_e (e0 := z_3 + 2) (Int32.ofInt_add _ _).symm (fun z_42 hz_42 => ?_)
      refine lv_iload hx hb dX12_readWork_118 (lv_at hlv 2 rfl) ?_
      refine va_iast hx hb hG.1 hP hD hS 0 0 rfl rfl (iI_in (by omega) (by decide)) dX12_readWork_120 (fun H locs hP hD hS => ?_)
      have ⟨f_43, hdf_43, hP, hD⟩ : ∃ f_43 : Nat → Int32, f_43 = upd f_41 (iI z_42).toNatClampNeg (iI 0) ∧ va_P D vwCl [zI m11 (cy 0) 68 f_43, zI m9 (cy 0) 600 f9, zO mm 12 [vI th, vR m1, vI tp, vI sz_, vI (u10.2.1 1), vI (u10.2.1 2), vI (u10.2.1 3), vI opn, vI fp, vR m9, vR m10, vR m11, vR m12, vR m13, vR m14, vR m15, vI im, vI nr, vI nl, vR m19, vR m20, vR m21, vI sp_, vR m23, vR m24, vR m25, vR m26, vR m27, vR m28, vI wtc, vI wcl, vI ir, vI ip, vR m33, vI shu, vR m35, vI sfa, vI swr]] H ∧ va_D A [zI m11 (cy 0) 68 f_43, zI m9 (cy 0) 600 f9, zO mm 12 [vI th, vR m1, vI tp, vI sz_, vI (u10.2.1 1), vI (u10.2.1 2), vI (u10.2.1 3), vI opn, vI fp, vR m9, vR m10, vR m11, vR m12, vR m13, vR m14, vR m15, vI im, vI nr, vI nl, vR m19, vR m20, vR m21, vI sp_, vR m23, vR m24, vR m25, vR m26, vR m27, vR m28, vI wtc, vI wcl, vI ir, vI ip, vR m33, vI shu, vR m35, vI sfa, vI swr]] := ⟨_, rfl, hP, hD⟩
      refine lv_aload_n hx hb dX12_readWork_121 rfl (lv_at hlv 5 rfl) ?_
      refine va_get (D := D) (ci := 12) (v := vR m11) (C := RX12) (T := TX12) (N := 38) hx hb hts hi12 hown hG.1 hP 2 rfl rfl 11 (by decide) lf26 (fun _ h9 => h9) rfl dX12_readWork_122 ?_
      refine lv_iload_n hx hb dX12_readWork_125 rfl (lv_at hlv 4 rfl) ?_
      refine lv_iconst (v := iI 3) hx hb dX12_readWork_126 (by decide) ?_
      refine lv_iadd hx hb dX12_readWork_127 ?_
      refine lt_e (e0 := z_3 + 3) (Int32.ofInt_add _ _).symm (fun z_44 hz_44 => ?_)
      refine lv_iload hx hb dX12_readWork_128 (lv_at hlv 1 rfl) ?_
      refine va_iast hx hb hG.1 hP hD hS 0 0 rfl rfl (iI_in (by omega) (by decide)) dX12_readWork_130 (fun H locs hP hD hS => ?_)
      have ⟨f_45, hdf_45, hP, hD⟩ : ∃ f_45 : Nat → Int32, f_45 = upd f_43 (iI z_44).toNatClampNeg (iI 0) ∧ va_P D vwCl [zI m11 (cy 0) 68 f_45, zI m9 (cy 0) 600 f9, zO mm 12 [vI th, vR m1, vI tp, vI sz_, vI (u10.2.1 1), vI (u10.2.1 2), vI (u10.2.1 3), vI opn, vI fp, vR m9, vR m10, vR m11, vR m12, vR m13, vR m14, vR m15, vI im, vI nr, vI nl, vR m19, vR m20, vR m21, vI sp_, vR m23, vR m24, vR m25, vR m26, vR m27, vR m28, vI wtc, vI wcl, vI ir, vI ip, vR m33, vI shu, vR m35, vI sfa, vI swr]] H ∧ va_D A [zI m11 (cy 0) 68 f_45, zI m9 (cy 0) 600 f9, zO mm 12 [vI th, vR m1, vI tp, vI sz_, vI (u10.2.1 1), vI (u10.2.1 2), vI (u10.2.1 3), vI opn, vI fp, vR m9, vR m10, vR m11, vR m12, vR m13, vR m14, vR m15, vI im, vI nr, vI nl, vR m19, vR m20, vR m21, vI sp_, vR m23, vR m24, vR m25, vR m26, vR m27, vR m28, vI wtc, vI wcl, vI ir, vI ip, vR m33, vI shu, vR m35, vI sfa, vI swr]] := ⟨_, rfl, hP, hD⟩
      refine lv_aload_n hx hb dX12_readWork_131 rfl (lv_at hlv 5 rfl) ?_
      refine va_get (D := D) (ci := 12) (v := vR m11) (C := RX12) (T := TX12) (N := 38) hx hb hts hi12 hown hG.1 hP 2 rfl rfl 11 (by decide) lf26 (fun _ h9 => h9) rfl dX12_readWork_132 ?_
      refine lv_iload_n hx hb dX12_readWork_135 rfl (lv_at hlv 4 rfl) ?_
      refine lv_iconst (v := iI 4) hx hb dX12_readWork_136 (by decide) ?_
      refine lv_iadd hx hb dX12_readWork_137 ?_
      refine lt_e (e0 := z_3 + 4) (Int32.ofInt_add _ _).symm (fun z_46 hz_46 => ?_)
      refine lv_iload hx hb dX12_readWork_138 (lv_at hlv 0 rfl) ?_
      refine va_iast hx hb hG.1 hP hD hS 0 0 rfl rfl (iI_in (by omega) (by decide)) dX12_readWork_140 (fun H locs hP hD hS => ?_)
      have ⟨f_47, hdf_47, hP, hD⟩ : ∃ f_47 : Nat → Int32, f_47 = upd f_45 (iI z_46).toNatClampNeg (iI (u10.2.1 0)) ∧ va_P D vwCl [zI m11 (cy 0) 68 f_47, zI m9 (cy 0) 600 f9, zO mm 12 [vI th, vR m1, vI tp, vI sz_, vI (u10.2.1 1), vI (u10.2.1 2), vI (u10.2.1 3), vI opn, vI fp, vR m9, vR m10, vR m11, vR m12, vR m13, vR m14, vR m15, vI im, vI nr, vI nl, vR m19, vR m20, vR m21, vI sp_, vR m23, vR m24, vR m25, vR m26, vR m27, vR m28, vI wtc, vI wcl, vI ir, vI ip, vR m33, vI shu, vR m35, vI sfa, vI swr]] H ∧ va_D A [zI m11 (cy 0) 68 f_47, zI m9 (cy 0) 600 f9, zO mm 12 [vI th, vR m1, vI tp, vI sz_, vI (u10.2.1 1), vI (u10.2.1 2), vI (u10.2.1 3), vI opn, vI fp, vR m9, vR m10, vR m11, vR m12, vR m13, vR m14, vR m15, vI im, vI nr, vI nl, vR m19, vR m20, vR m21, vI sp_, vR m23, vR m24, vR m25, vR m26, vR m27, vR m28, vI wtc, vI wcl, vI ir, vI ip, vR m33, vI shu, vR m35, vI sfa, vI swr]] := ⟨_, rfl, hP, hD⟩
      have ⟨hif_47, hkf_47⟩ := NI.ww (k := z_1) hf11 (by omega) (by omega) (by omega) (by omega) (by omega) (by omega) hdf_39 hdf_41 hdf_43 hdf_45 hdf_47 (by omega) (by omega) (by omega) (by omega)
      have htf_47_0 : nz f_47 0 = nz f11 0 := hkf_47 0 (by decide)
      have htf_47_1 : nz f_47 1 = nz f11 1 := hkf_47 1 (by decide)
      have htf_47_2 : nz f_47 2 = nz f11 2 := hkf_47 2 (by decide)
      have htf_47_3 : nz f_47 3 = nz f11 3 := hkf_47 3 (by decide)
      have htf_47_4 : nz f_47 4 = nz f11 4 := hkf_47 4 (by decide)
      have htf_47_5 : nz f_47 5 = nz f11 5 := hkf_47 5 (by decide)
      refine lv_aload_n hx hb dX12_readWork_141 rfl (lv_at hlv 5 rfl) ?_
      refine va_get (D := D) (ci := 12) (v := vR m11) (C := RX12) (T := TX12) (N := 38) hx hb hts hi12 hown hG.1 hP 2 rfl rfl 11 (by decide) lf26 (fun _ h9 => h9) rfl dX12_readWork_142 ?_
      refine lv_iconst (v := iI 5) hx hb dX12_readWork_145 (by decide) ?_
      refine lv_dup2_11 hx hb dX12_readWork_146 rfl rfl ?_
      refine va_iald hx hb hG.1 hP 0 0 rfl rfl (iI_in (by omega) (by decide)) dX12_readWork_147 ?_
      refine lt_nz (i := 5) (by omega) (fun z_48 hz_48 lz_48 uz_48 => ?_)
      have hz_48 : z_48 = nz f_47 5 := hz_48
      have hbz_48_56 := hif_47.2.2.2.2.2.1
      refine lv_iconst (v := iI 1) hx hb dX12_readWork_148 (by decide) ?_
      refine lv_iadd hx hb dX12_readWork_149 ?_
      refine lt_e (e0 := z_48 + 1) (Int32.ofInt_add _ _).symm (fun z_49 hz_49 => ?_)
      refine va_iast hx hb hG.1 hP hD hS 0 0 rfl rfl (iI_in (by omega) (by decide)) dX12_readWork_150 (fun H locs hP hD hS => ?_)
      have ⟨f_50, hdf_50, hP, hD⟩ : ∃ f_50 : Nat → Int32, f_50 = upd f_47 (iI 5).toNatClampNeg (iI z_49) ∧ va_P D vwCl [zI m11 (cy 0) 68 f_50, zI m9 (cy 0) 600 f9, zO mm 12 [vI th, vR m1, vI tp, vI sz_, vI (u10.2.1 1), vI (u10.2.1 2), vI (u10.2.1 3), vI opn, vI fp, vR m9, vR m10, vR m11, vR m12, vR m13, vR m14, vR m15, vI im, vI nr, vI nl, vR m19, vR m20, vR m21, vI sp_, vR m23, vR m24, vR m25, vR m26, vR m27, vR m28, vI wtc, vI wcl, vI ir, vI ip, vR m33, vI shu, vR m35, vI sfa, vI swr]] H ∧ va_D A [zI m11 (cy 0) 68 f_50, zI m9 (cy 0) 600 f9, zO mm 12 [vI th, vR m1, vI tp, vI sz_, vI (u10.2.1 1), vI (u10.2.1 2), vI (u10.2.1 3), vI opn, vI fp, vR m9, vR m10, vR m11, vR m12, vR m13, vR m14, vR m15, vI im, vI nr, vI nl, vR m19, vR m20, vR m21, vI sp_, vR m23, vR m24, vR m25, vR m26, vR m27, vR m28, vI wtc, vI wcl, vI ir, vI ip, vR m33, vI shu, vR m35, vI sfa, vI swr]] := ⟨_, rfl, hP, hD⟩
      have hif_50 : NI f_50 := NI.wk hif_47 hdf_50 (by omega) (by omega)
      have htf_50_0 : nz f_50 0 = nz f_47 0 := nz_un hdf_50 (by omega) (by omega)
      have htf_50_1 : nz f_50 1 = nz f_47 1 := nz_un hdf_50 (by omega) (by omega)
      have htf_50_2 : nz f_50 2 = nz f_47 2 := nz_un hdf_50 (by omega) (by omega)
      have htf_50_3 : nz f_50 3 = nz f_47 3 := nz_un hdf_50 (by omega) (by omega)
      have htf_50_4 : nz f_50 4 = nz f_47 4 := nz_un hdf_50 (by omega) (by omega)
      have htf_50_5 : nz f_50 5 = z_49 := nz_us hdf_50 (by omega) (by omega) (by omega)
      refine W.widen (k := 0) (n := 0) (Nat.le_of_ble_eq_true rfl) (Nat.le_of_ble_eq_true rfl) ?_
      exact W.vret hx hb hr (fun t ht hW => ⟨⟨((fun k => ([] : List Nat).getD k 0), (fun k => ([0, (u10.2.1 1), (u10.2.1 2), (u10.2.1 3)] : List Int).getD k 0), (fun k => ([f_50] : List (Nat → Int32)).getD k (fun _ => 0))), rfl, ⟨(by show (0 ≤ (u10.2.1 1) ∧ (u10.2.1 1) ≤ 602); first | exact hq10_1 | omega), (by show ((-1) ≤ (u10.2.1 2) ∧ (u10.2.1 2) ≤ 602); first | exact hq10_2 | omega), (by show (0 ≤ (u10.2.1 3) ∧ (u10.2.1 3) ≤ 4); first | exact hq10_3 | omega), (by show (ap ≤ (u10.2.1 1)); omega), (by show (ap ≤ sz_ → (u10.2.1 1) ≤ sz_); omega), (by show ((u10.2.1 2) = -1 → bad = -1); omega), (by show (bad ≠ -1 → (u10.2.1 2) = bad); omega), (by show ((u10.2.1 2) ≠ -1 → 1 ≤ (u10.2.1 3)); first | exact hq10_8 | omega), (by show (nz (f_50) 0 = nz f11 0); omega), (by show (nz (f_50) 1 = nz f11 1); omega), (by show (nz (f_50) 2 = nz f11 2); omega), (by show (nz (f_50) 3 = nz f11 3); omega), (by show (nz (f_50) 4 = nz f11 4); omega), (by show (RdS (chF (nz f9) sz_ (wkL k (nz f11 0) (nz f11 1) (nz f11 2)) ap) (chP (nz f9) sz_ (wkL k (nz f11 0) (nz f11 1) (nz f11 2)) ap) (chA (nz f9) sz_ (wkL k (nz f11 0) (nz f11 1) (nz f11 2)) ap) (fr_ bad bk) bad ((u10.2.1 1)) (fr_ ((u10.2.1 2)) ((u10.2.1 3))) ((u10.2.1 2))); exact (by rw [wkL_0 (by omega)]; exact (ch_c (NuP.hi hq9_11 (by omega) (by omega)) (ch_c (NuP.hi hq10_11 (by omega) (by omega)) ch_n)))), (by show ((u10.2.1 2) = -1 → nz (f_50) = wkBk (nz f11) k (nz f9) sz_ ap); exact (fun h9 => by obtain ⟨x0_, a0_⟩ := NuP.m hq9_11 (by omega); obtain ⟨x1_, a1_⟩ := NuP.m hq10_11 (by omega); rw [a0_] at x1_ a1_; rw [wkBk_0 (by omega)]; exact (upz_c (upz_c (upz_c (upz_c (upz_c (upz_c rfl hdf_39 (by omega) (by omega) (by omega) (by omega)) hdf_41 (by omega) (by omega) (by omega) (by omega)) hdf_43 (by omega) (by omega) (by omega) (by omega)) hdf_45 (by omega) (by omega) (by omega) (by omega)) hdf_47 (by omega) (by omega) (by omega) (by omega)) hdf_50 (by omega) (by omega) (by omega) (by omega)))), hq10_12, hif_50⟩, by rw [ht]; exact hP.sub [2, 1, 0] rfl, hD.sub [2, 1, 0] (by decide) rfl⟩, hS.F ht⟩) hS.2.2 dX12_readWork_151
    · have rshq10_8 := hq10_8 (by omega)
      have rshq10_10 := hq10_10 (by omega)
      clear hq10_7 hq10_8 hq10_10
      refine W.widen (k := 0) (n := 0) (Nat.le_of_ble_eq_true rfl) (Nat.le_of_ble_eq_true rfl) ?_
      exact W.vret hx hb hr (fun t ht hW => ⟨⟨((fun k => ([] : List Nat).getD k 0), (fun k => ([0, (u10.2.1 1), (u10.2.1 2), (u10.2.1 3)] : List Int).getD k 0), (fun k => ([f11] : List (Nat → Int32)).getD k (fun _ => 0))), rfl, ⟨(by show (0 ≤ (u10.2.1 1) ∧ (u10.2.1 1) ≤ 602); first | exact hq10_1 | omega), (by show ((-1) ≤ (u10.2.1 2) ∧ (u10.2.1 2) ≤ 602); first | exact hq10_2 | omega), (by show (0 ≤ (u10.2.1 3) ∧ (u10.2.1 3) ≤ 4); first | exact hq10_3 | omega), (by show (ap ≤ (u10.2.1 1)); omega), (by show (ap ≤ sz_ → (u10.2.1 1) ≤ sz_); omega), (by show ((u10.2.1 2) = -1 → bad = -1); omega), (by show (bad ≠ -1 → (u10.2.1 2) = bad); omega), (by show ((u10.2.1 2) ≠ -1 → 1 ≤ (u10.2.1 3)); first | exact hq10_8 | omega), (by show (nz (f11) 0 = nz f11 0); omega), (by show (nz (f11) 1 = nz f11 1); omega), (by show (nz (f11) 2 = nz f11 2); omega), (by show (nz (f11) 3 = nz f11 3); omega), (by show (nz (f11) 4 = nz f11 4); omega), (by show (RdS (chF (nz f9) sz_ (wkL k (nz f11 0) (nz f11 1) (nz f11 2)) ap) (chP (nz f9) sz_ (wkL k (nz f11 0) (nz f11 1) (nz f11 2)) ap) (chA (nz f9) sz_ (wkL k (nz f11 0) (nz f11 1) (nz f11 2)) ap) (fr_ bad bk) bad ((u10.2.1 1)) (fr_ ((u10.2.1 2)) ((u10.2.1 3))) ((u10.2.1 2))); exact (by rw [wkL_0 (by omega)]; exact (ch_c (NuP.hi hq9_11 (by omega) (by omega)) (ch_c (NuP.hi hq10_11 (by omega) (by omega)) ch_n)))), (by show ((u10.2.1 2) = -1 → nz (f11) = wkBk (nz f11) k (nz f9) sz_ ap); exact (fun h9 => by exfalso; omega)), hq10_12, hf11⟩, by rw [ht]; exact hP.sub [2, 1, 0] rfl, hD.sub [2, 1, 0] (by decide) rfl⟩, hS.F ht⟩) hS.2.2 dX12_readWork_94
