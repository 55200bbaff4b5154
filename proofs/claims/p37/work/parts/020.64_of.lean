theorem dX12_of_0 : decode cX12_of 0 = .ok (.iconst 0, 1) := by decide +kernel
theorem dX12_of_1 : decode cX12_of 1 = .ok (.istore_n 1, 1) := by decide +kernel
theorem dX12_of_12 : decode cX12_of 12 = .ok (.iload_n 1, 1) := by decide +kernel
theorem dX12_of_13 : decode cX12_of 13 = .ok (.iconst 5, 1) := by decide +kernel
theorem dX12_of_14 : decode cX12_of 14 = .ok (.ishl, 1) := by decide +kernel
theorem dX12_of_15 : decode cX12_of 15 = .ok (.aload_n 0, 1) := by decide +kernel
theorem dX12_of_16 : decode cX12_of 16 = .ok (.iload_n 2, 1) := by decide +kernel
theorem dX12_of_17 : decode cX12_of 17 = .ok (.invokevirtual 105, 3) := by decide +kernel
theorem dX12_of_2 : decode cX12_of 2 = .ok (.iconst 0, 1) := by decide +kernel
theorem dX12_of_20 : decode cX12_of 20 = .ok (.bipush 96, 2) := by decide +kernel
theorem dX12_of_22 : decode cX12_of 22 = .ok (.isub, 1) := by decide +kernel
theorem dX12_of_23 : decode cX12_of 23 = .ok (.ior, 1) := by decide +kernel
theorem dX12_of_24 : decode cX12_of 24 = .ok (.istore_n 1, 1) := by decide +kernel
theorem dX12_of_25 : decode cX12_of 25 = .ok (.iinc 2 1, 3) := by decide +kernel
theorem dX12_of_28 : decode cX12_of 28 = .ok (.goto (-24), 3) := by decide +kernel
theorem dX12_of_3 : decode cX12_of 3 = .ok (.istore_n 2, 1) := by decide +kernel
theorem dX12_of_31 : decode cX12_of 31 = .ok (.iload_n 1, 1) := by decide +kernel
theorem dX12_of_32 : decode cX12_of 32 = .ok (.ireturn, 1) := by decide +kernel
theorem dX12_of_4 : decode cX12_of 4 = .ok (.iload_n 2, 1) := by decide +kernel
theorem dX12_of_5 : decode cX12_of 5 = .ok (.aload_n 0, 1) := by decide +kernel
theorem dX12_of_6 : decode cX12_of 6 = .ok (.invokevirtual 100, 3) := by decide +kernel
theorem dX12_of_9 : decode cX12_of 9 = .ok (.if_icmp .ge 22, 3) := by decide +kernel
def vs_m_of1 : List Cond := .code yX12_of cX12_of 3 (some .int) :: (([] : List Cond) ++ ((wsV RX12 100 RJ0 yJ0_length_8abf5 vs_s_length) ++ ((wsV RX12 105 RJ0 yJ0_charAt_5068e vs_s_charAt) ++ ([]))))
theorem gd_m_of1 : vs_m_of1.all goodWord = true := gd_C (by decide +kernel) (gd_A (by decide +kernel) (gd_A (gd_V gd_s_length (by decide +kernel)) (gd_A (gd_V gd_s_charAt (by decide +kernel)) rfl)))
set_option maxHeartbeats 4000000 in
set_option maxRecDepth 100000 in
theorem m_of1 (l : Launch) (hl : l.stackTraces = false) (D : va_G) (cy : Nat → ClassId) (sa : Nat → Nat)  (sz : Nat) : mI9 l yX12_of vs_m_of1 ({ frames := 4, cells := 0, slots := 0, locals := 85 }) D cy sa sz [.ref (sn sa 29)] [] (fun (r : Int32) (u : SV) => r = iI (u.2.1 0) ∧ (632645 ≤ u.2.1 0 ∧ u.2.1 0 ≤ 632645)) (fun u : SV => []) 0 0 := by
  refine Met.ofW (cc := cX12_of) (maxL := 3) (ret := (some .int)) (by decide) rfl ?_
  intro p e s m args below meth c s₁ B hml hv
  obtain ⟨rfl, hsz, hP, hG, hD0, hT⟩ := hv
  have hx := B.exec
  have hb := B.bytes
  have hr := B.returns
  have hts := atoms_spec (ws := vs_m_of1) B.pre
  have hown : s.vm.findClass RX12 = some m.cls := findClass_of_methodNamed B.named
  have hlocks := B.notSynchronized
  subst hsz
  have hD := hD0.self (sz := s.heap.size)
  generalize hAe : va_A [] s.heap.size = A at hD hT ⊢
  have hA : ∀ q : Nat, s.heap.size ≤ q → A q := fun q h => by rw [← hAe]; exact Or.inr h
  have hS : va_S A s.heap s.heap [] := va_S.rf
  have hl0 := lv_entry ([.ref (sn sa 29)]) (n := 3) (Nat.le_of_ble_eq_true rfl)
  rw [lg_entry_eq]
  generalize (lg_sl ([.ref (sn sa 29)]) ++ List.replicate (3 - (lg_sl ([.ref (sn sa 29)])).length) Slot.unset).toArray = ls at hl0 ⊢
  have hlv : lv_has ls 3 [(0, .ref (sn sa 29))] := hl0
  have gg_0 : GoodIn vs_m_of1 (wsV RX12 100 RJ0 yJ0_length_8abf5 vs_s_length) := goodIn_sub (fun w h => List.mem_cons_of_mem _ (List.mem_append_right _ (List.mem_append_left _ h))) (gd_V gd_s_length (by decide +kernel))
  have gg_1 : GoodIn vs_m_of1 (wsV RX12 105 RJ0 yJ0_charAt_5068e vs_s_charAt) := goodIn_sub (fun w h => List.mem_cons_of_mem _ (List.mem_append_right _ (List.mem_append_right _ (List.mem_append_left _ h)))) (gd_V gd_s_charAt (by decide +kernel))
  refine lv_iconst (v := iI 0) hx hb dX12_of_0 (by decide) ?_
  refine lv_istore_n (lv' := [(1, vI 0), (0, .ref (sn sa 29))]) hx hb dX12_of_1 rfl hlv (by decide) rfl (fun ls hlv => ?_)
  refine lv_iconst (v := iI 0) hx hb dX12_of_2 (by decide) ?_
  refine lv_istore_n (lv' := [(2, vI 0), (1, vI 0), (0, .ref (sn sa 29))]) hx hb dX12_of_3 rfl hlv (by decide) rfl (fun ls hlv => ?_)
  refine lv_iload_n hx hb dX12_of_4 rfl (lv_at hlv 0 rfl) ?_
  refine lv_aload_n hx hb dX12_of_5 rfl (lv_at hlv 2 rfl) ?_
  refine cjr_i [] (fun pre9 => (va_runV (As := []) (rest := [vI 0]) ⟨hx, hb, hml, hown, hts⟩ (s_length l hl D cy sa 29 s.heap.size (by show (0 : Int) ≤ 29 ∧ (29 : Int) ≤ 55; decide)) (cwV 0 hts gg_0 rfl rfl rfl (by decide +kernel) ⟨Nat.le_of_ble_eq_true rfl, Nat.le_of_ble_eq_true rfl⟩) ⟨pcW.blind, (wo_recv (WD.tx hT.2.2 (29 : Int).toNat (by omega)).1 hS), pre9⟩ rfl rfl hlv.1 rfl (lv_room (Nat.le_of_ble_eq_true rfl)) dX12_of_6 ⟨Nat.le_of_ble_eq_true rfl, Nat.le_of_ble_eq_true rfl⟩)) hP hD hS hA hG hT [] rfl (by decide +kernel) (fun r1 u1 H locs hw1 hq9 hS => ?_)
  obtain ⟨rfl, hq1_1, hq1_2⟩ := hw1
  obtain ⟨hP, hD⟩ := pd9 [] hq9
  have hev1 : (u1.2.1 0) = 4 := by first | (rw [hq1_2]; rfl) | omega
  refine lt_i (y := iI 4) (by rw [show (u1.2.1 0) = 4 by omega]) ?_
  refine ir_ge (tgt := 31) hx hb dX12_of_9 (by decide) (by show ((-2147483648) : Int) ≤ 0 ∧ (0 : Int) ≤ 2147483647; decide) (by show ((-2147483648) : Int) ≤ 4 ∧ (4 : Int) ≤ 2147483647; decide) (fun c_1 => by exfalso; omega) (fun c_1 => ?_)
  refine lv_iload_n hx hb dX12_of_12 rfl (lv_at hlv 1 rfl) ?_
  refine lv_iconst (v := iI 5) hx hb dX12_of_13 (by decide) ?_
  refine lv_ishl hx hb dX12_of_14 ?_
  refine lt_i (y := iI 0) (by decide) ?_
  refine lv_aload_n hx hb dX12_of_15 rfl (lv_at hlv 2 rfl) ?_
  refine lv_iload_n hx hb dX12_of_16 rfl (lv_at hlv 0 rfl) ?_
  refine cjr_i [] (fun pre9 => (va_runV (As := [vI 0]) (rest := [vI 0]) ⟨hx, hb, hml, hown, hts⟩ (s_charAt l hl D cy sa 29 0 H.size (by show (0 : Int) ≤ 29 ∧ (29 : Int) ≤ 55; decide) (by show (0 : Int) ≤ 0 ∧ (0 : Int) ≤ 6; decide) (by omega)) (cwV 1 hts gg_1 rfl rfl rfl (by decide +kernel) ⟨Nat.le_of_ble_eq_true rfl, Nat.le_of_ble_eq_true rfl⟩) ⟨pcW.blind, (wo_recv (WD.tx hT.2.2 (29 : Int).toNat (by omega)).1 hS), pre9⟩ rfl rfl hlv.1 rfl (lv_room (Nat.le_of_ble_eq_true rfl)) dX12_of_17 ⟨Nat.le_of_ble_eq_true rfl, Nat.le_of_ble_eq_true rfl⟩)) hP hD hS hA hG hT [] rfl (by decide +kernel) (fun r2 u2 H locs hw2 hq9 hS => ?_)
  obtain ⟨rfl, hq2_1, hq2_2⟩ := hw2
  obtain ⟨hP, hD⟩ := pd9 [] hq9
  have hev2 : (u2.2.1 0) = 115 := by first | (rw [hq2_2]; rfl) | omega
  refine lt_i (y := iI 115) (by rw [show (u2.2.1 0) = 115 by omega]) ?_
  refine lv_bipush (v := iI 96) hx hb dX12_of_20 (by decide) ?_
  refine lv_isub hx hb dX12_of_22 ?_
  refine lt_i (y := iI 19) (by decide) ?_
  refine lv_ior hx hb dX12_of_23 ?_
  refine lt_i (y := iI 19) (by decide) ?_
  refine lv_istore_n (lv' := [(1, vI 19), (2, vI 0), (0, .ref (sn sa 29))]) hx hb dX12_of_24 rfl hlv (by decide) rfl (fun ls hlv => ?_)
  refine lv_iinc (v := iI 1) (lv' := [(2, vI 1), (1, vI 19), (0, .ref (sn sa 29))]) hx hb dX12_of_25 hlv (k := 1) rfl (by decide) (by decide) rfl (fun ls hlv => ?_)
  refine lv_goto (tgt := 4) hx hb dX12_of_28 (by decide) ?_
  refine lv_iload_n hx hb dX12_of_4 rfl (lv_at hlv 0 rfl) ?_
  refine lv_aload_n hx hb dX12_of_5 rfl (lv_at hlv 2 rfl) ?_
  refine cjr_i [] (fun pre9 => (va_runV (As := []) (rest := [vI 1]) ⟨hx, hb, hml, hown, hts⟩ (s_length l hl D cy sa 29 H.size (by show (0 : Int) ≤ 29 ∧ (29 : Int) ≤ 55; decide)) (cwV 0 hts gg_0 rfl rfl rfl (by decide +kernel) ⟨Nat.le_of_ble_eq_true rfl, Nat.le_of_ble_eq_true rfl⟩) ⟨pcW.blind, (wo_recv (WD.tx hT.2.2 (29 : Int).toNat (by omega)).1 hS), pre9⟩ rfl rfl hlv.1 rfl (lv_room (Nat.le_of_ble_eq_true rfl)) dX12_of_6 ⟨Nat.le_of_ble_eq_true rfl, Nat.le_of_ble_eq_true rfl⟩)) hP hD hS hA hG hT [] rfl (by decide +kernel) (fun r3 u3 H locs hw3 hq9 hS => ?_)
  obtain ⟨rfl, hq3_1, hq3_2⟩ := hw3
  obtain ⟨hP, hD⟩ := pd9 [] hq9
  have hev3 : (u3.2.1 0) = 4 := by first | (rw [hq3_2]; rfl) | omega
  refine lt_i (y := iI 4) (by rw [show (u3.2.1 0) = 4 by omega]) ?_
  refine ir_ge (tgt := 31) hx hb dX12_of_9 (by decide) (by show ((-2147483648) : Int) ≤ 1 ∧ (1 : Int) ≤ 2147483647; decide) (by show ((-2147483648) : Int) ≤ 4 ∧ (4 : Int) ≤ 2147483647; decide) (fun c_2 => by exfalso; omega) (fun c_2 => ?_)
  refine lv_iload_n hx hb dX12_of_12 rfl (lv_at hlv 1 rfl) ?_
  refine lv_iconst (v := iI 5) hx hb dX12_of_13 (by decide) ?_
  refine lv_ishl hx hb dX12_of_14 ?_
  refine lt_i (y := iI 608) (by decide) ?_
  refine lv_aload_n hx hb dX12_of_15 rfl (lv_at hlv 2 rfl) ?_
  refine lv_iload_n hx hb dX12_of_16 rfl (lv_at hlv 0 rfl) ?_
  refine cjr_i [] (fun pre9 => (va_runV (As := [vI 1]) (rest := [vI 608]) ⟨hx, hb, hml, hown, hts⟩ (s_charAt l hl D cy sa 29 1 H.size (by show (0 : Int) ≤ 29 ∧ (29 : Int) ≤ 55; decide) (by show (0 : Int) ≤ 1 ∧ (1 : Int) ≤ 6; decide) (by omega)) (cwV 1 hts gg_1 rfl rfl rfl (by decide +kernel) ⟨Nat.le_of_ble_eq_true rfl, Nat.le_of_ble_eq_true rfl⟩) ⟨pcW.blind, (wo_recv (WD.tx hT.2.2 (29 : Int).toNat (by omega)).1 hS), pre9⟩ rfl rfl hlv.1 rfl (lv_room (Nat.le_of_ble_eq_true rfl)) dX12_of_17 ⟨Nat.le_of_ble_eq_true rfl, Nat.le_of_ble_eq_true rfl⟩)) hP hD hS hA hG hT [] rfl (by decide +kernel) (fun r4 u4 H locs hw4 hq9 hS => ?_)
  obtain ⟨rfl, hq4_1, hq4_2⟩ := hw4
  obtain ⟨hP, hD⟩ := pd9 [] hq9
  have hev4 : (u4.2.1 0) = 105 := by first | (rw [hq4_2]; rfl) | omega
  refine lt_i (y := iI 105) (by rw [show (u4.2.1 0) = 105 by omega]) ?_
  refine lv_bipush (v := iI 96) hx hb dX12_of_20 (by decide) ?_
  refine lv_isub hx hb dX12_of_22 ?_
  refine lt_i (y := iI 9) (by decide) ?_
  refine lv_ior hx hb dX12_of_23 ?_
  refine lt_i (y := iI 617) (by decide) ?_
  refine lv_istore_n (lv' := [(1, vI 617), (2, vI 1), (0, .ref (sn sa 29))]) hx hb dX12_of_24 rfl hlv (by decide) rfl (fun ls hlv => ?_)
  refine lv_iinc (v := iI 2) (lv' := [(2, vI 2), (1, vI 617), (0, .ref (sn sa 29))]) hx hb dX12_of_25 hlv (k := 1) rfl (by decide) (by decide) rfl (fun ls hlv => ?_)
  refine lv_goto (tgt := 4) hx hb dX12_of_28 (by decide) ?_
  refine lv_iload_n hx hb dX12_of_4 rfl (lv_at hlv 0 rfl) ?_
  refine lv_aload_n hx hb dX12_of_5 rfl (lv_at hlv 2 rfl) ?_
  refine cjr_i [] (fun pre9 => (va_runV (As := []) (rest := [vI 2]) ⟨hx, hb, hml, hown, hts⟩ (s_length l hl D cy sa 29 H.size (by show (0 : Int) ≤ 29 ∧ (29 : Int) ≤ 55; decide)) (cwV 0 hts gg_0 rfl rfl rfl (by decide +kernel) ⟨Nat.le_of_ble_eq_true rfl, Nat.le_of_ble_eq_true rfl⟩) ⟨pcW.blind, (wo_recv (WD.tx hT.2.2 (29 : Int).toNat (by omega)).1 hS), pre9⟩ rfl rfl hlv.1 rfl (lv_room (Nat.le_of_ble_eq_true rfl)) dX12_of_6 ⟨Nat.le_of_ble_eq_true rfl, Nat.le_of_ble_eq_true rfl⟩)) hP hD hS hA hG hT [] rfl (by decide +kernel) (fun r5 u5 H locs hw5 hq9 hS => ?_)
  obtain ⟨rfl, hq5_1, hq5_2⟩ := hw5
  obtain ⟨hP, hD⟩ := pd9 [] hq9
  have hev5 : (u5.2.1 0) = 4 := by first | (rw [hq5_2]; rfl) | omega
  refine lt_i (y := iI 4) (by rw [show (u5.2.1 0) = 4 by omega]) ?_
  refine ir_ge (tgt := 31) hx hb dX12_of_9 (by decide) (by show ((-2147483648) : Int) ≤ 2 ∧ (2 : Int) ≤ 2147483647; decide) (by show ((-2147483648) : Int) ≤ 4 ∧ (4 : Int) ≤ 2147483647; decide) (fun c_3 => by exfalso; omega) (fun c_3 => ?_)
  refine lv_iload_n hx hb dX12_of_12 rfl (lv_at hlv 1 rfl) ?_
  refine lv_iconst (v := iI 5) hx hb dX12_of_13 (by decide) ?_
  refine lv_ishl hx hb dX12_of_14 ?_
  refine lt_i (y := iI 19744) (by decide) ?_
  refine lv_aload_n hx hb dX12_of_15 rfl (lv_at hlv 2 rfl) ?_
  refine lv_iload_n hx hb dX12_of_16 rfl (lv_at hlv 0 rfl) ?_
  refine cjr_i [] (fun pre9 => (va_runV (As := [vI 2]) (rest := [vI 19744]) ⟨hx, hb, hml, hown, hts⟩ (s_charAt l hl D cy sa 29 2 H.size (by show (0 : Int) ≤ 29 ∧ (29 : Int) ≤ 55; decide) (by show (0 : Int) ≤ 2 ∧ (2 : Int) ≤ 6; decide) (by omega)) (cwV 1 hts gg_1 rfl rfl rfl (by decide +kernel) ⟨Nat.le_of_ble_eq_true rfl, Nat.le_of_ble_eq_true rfl⟩) ⟨pcW.blind, (wo_recv (WD.tx hT.2.2 (29 : Int).toNat (by omega)).1 hS), pre9⟩ rfl rfl hlv.1 rfl (lv_room (Nat.le_of_ble_eq_true rfl)) dX12_of_17 ⟨Nat.le_of_ble_eq_true rfl, Nat.le_of_ble_eq_true rfl⟩)) hP hD hS hA hG hT [] rfl (by decide +kernel) (fun r6 u6 H locs hw6 hq9 hS => ?_)
  obtain ⟨rfl, hq6_1, hq6_2⟩ := hw6
  obtain ⟨hP, hD⟩ := pd9 [] hq9
  have hev6 : (u6.2.1 0) = 122 := by first | (rw [hq6_2]; rfl) | omega
  refine lt_i (y := iI 122) (by rw [show (u6.2.1 0) = 122 by omega]) ?_
  refine lv_bipush (v := iI 96) hx hb dX12_of_20 (by decide) ?_
  refine lv_isub hx hb dX12_of_22 ?_
  refine lt_i (y := iI 26) (by decide) ?_
  refine lv_ior hx hb dX12_of_23 ?_
  refine lt_i (y := iI 19770) (by decide) ?_
  refine lv_istore_n (lv' := [(1, vI 19770), (2, vI 2), (0, .ref (sn sa 29))]) hx hb dX12_of_24 rfl hlv (by decide) rfl (fun ls hlv => ?_)
  refine lv_iinc (v := iI 3) (lv' := [(2, vI 3), (1, vI 19770), (0, .ref (sn sa 29))]) hx hb dX12_of_25 hlv (k := 1) rfl (by decide) (by decide) rfl (fun ls hlv => ?_)
  refine lv_goto (tgt := 4) hx hb dX12_of_28 (by decide) ?_
  refine lv_iload_n hx hb dX12_of_4 rfl (lv_at hlv 0 rfl) ?_
  refine lv_aload_n hx hb dX12_of_5 rfl (lv_at hlv 2 rfl) ?_
  refine cjr_i [] (fun pre9 => (va_runV (As := []) (rest := [vI 3]) ⟨hx, hb, hml, hown, hts⟩ (s_length l hl D cy sa 29 H.size (by show (0 : Int) ≤ 29 ∧ (29 : Int) ≤ 55; decide)) (cwV 0 hts gg_0 rfl rfl rfl (by decide +kernel) ⟨Nat.le_of_ble_eq_true rfl, Nat.le_of_ble_eq_true rfl⟩) ⟨pcW.blind, (wo_recv (WD.tx hT.2.2 (29 : Int).toNat (by omega)).1 hS), pre9⟩ rfl rfl hlv.1 rfl (lv_room (Nat.le_of_ble_eq_true rfl)) dX12_of_6 ⟨Nat.le_of_ble_eq_true rfl, Nat.le_of_ble_eq_true rfl⟩)) hP hD hS hA hG hT [] rfl (by decide +kernel) (fun r7 u7 H locs hw7 hq9 hS => ?_)
  obtain ⟨rfl, hq7_1, hq7_2⟩ := hw7
  obtain ⟨hP, hD⟩ := pd9 [] hq9
  have hev7 : (u7.2.1 0) = 4 := by first | (rw [hq7_2]; rfl) | omega
  refine lt_i (y := iI 4) (by rw [show (u7.2.1 0) = 4 by omega]) ?_
  refine ir_ge (tgt := 31) hx hb dX12_of_9 (by decide) (by show ((-2147483648) : Int) ≤ 3 ∧ (3 : Int) ≤ 2147483647; decide) (by show ((-2147483648) : Int) ≤ 4 ∧ (4 : Int) ≤ 2147483647; decide) (fun c_4 => by exfalso; omega) (fun c_4 => ?_)
  refine lv_iload_n hx hb dX12_of_12 rfl (lv_at hlv 1 rfl) ?_
  refine lv_iconst (v := iI 5) hx hb dX12_of_13 (by decide) ?_
  refine lv_ishl hx hb dX12_of_14 ?_
  refine lt_i (y := iI 632640) (by decide) ?_
  refine lv_aload_n hx hb dX12_of_15 rfl (lv_at hlv 2 rfl) ?_
  refine lv_iload_n hx hb dX12_of_16 rfl (lv_at hlv 0 rfl) ?_
  refine cjr_i [] (fun pre9 => (va_runV (As := [vI 3]) (rest := [vI 632640]) ⟨hx, hb, hml, hown, hts⟩ (s_charAt l hl D cy sa 29 3 H.size (by show (0 : Int) ≤ 29 ∧ (29 : Int) ≤ 55; decide) (by show (0 : Int) ≤ 3 ∧ (3 : Int) ≤ 6; decide) (by omega)) (cwV 1 hts gg_1 rfl rfl rfl (by decide +kernel) ⟨Nat.le_of_ble_eq_true rfl, Nat.le_of_ble_eq_true rfl⟩) ⟨pcW.blind, (wo_recv (WD.tx hT.2.2 (29 : Int).toNat (by omega)).1 hS), pre9⟩ rfl rfl hlv.1 rfl (lv_room (Nat.le_of_ble_eq_true rfl)) dX12_of_17 ⟨Nat.le_of_ble_eq_true rfl, Nat.le_of_ble_eq_true rfl⟩)) hP hD hS hA hG hT [] rfl (by decide +kernel) (fun r8 u8 H locs hw8 hq9 hS => ?_)
  obtain ⟨rfl, hq8_1, hq8_2⟩ := hw8
  obtain ⟨hP, hD⟩ := pd9 [] hq9
  have hev8 : (u8.2.1 0) = 101 := by first | (rw [hq8_2]; rfl) | omega
  refine lt_i (y := iI 101) (by rw [show (u8.2.1 0) = 101 by omega]) ?_
  refine lv_bipush (v := iI 96) hx hb dX12_of_20 (by decide) ?_
  refine lv_isub hx hb dX12_of_22 ?_
  refine lt_i (y := iI 5) (by decide) ?_
  refine lv_ior hx hb dX12_of_23 ?_
  refine lt_i (y := iI 632645) (by decide) ?_
  refine lv_istore_n (lv' := [(1, vI 632645), (2, vI 3), (0, .ref (sn sa 29))]) hx hb dX12_of_24 rfl hlv (by decide) rfl (fun ls hlv => ?_)
  refine lv_iinc (v := iI 4) (lv' := [(2, vI 4), (1, vI 632645), (0, .ref (sn sa 29))]) hx hb dX12_of_25 hlv (k := 1) rfl (by decide) (by decide) rfl (fun ls hlv => ?_)
  refine lv_goto (tgt := 4) hx hb dX12_of_28 (by decide) ?_
  refine lv_iload_n hx hb dX12_of_4 rfl (lv_at hlv 0 rfl) ?_
  refine lv_aload_n hx hb dX12_of_5 rfl (lv_at hlv 2 rfl) ?_
  refine cjr_i [] (fun pre9 => (va_runV (As := []) (rest := [vI 4]) ⟨hx, hb, hml, hown, hts⟩ (s_length l hl D cy sa 29 H.size (by show (0 : Int) ≤ 29 ∧ (29 : Int) ≤ 55; decide)) (cwV 0 hts gg_0 rfl rfl rfl (by decide +kernel) ⟨Nat.le_of_ble_eq_true rfl, Nat.le_of_ble_eq_true rfl⟩) ⟨pcW.blind, (wo_recv (WD.tx hT.2.2 (29 : Int).toNat (by omega)).1 hS), pre9⟩ rfl rfl hlv.1 rfl (lv_room (Nat.le_of_ble_eq_true rfl)) dX12_of_6 ⟨Nat.le_of_ble_eq_true rfl, Nat.le_of_ble_eq_true rfl⟩)) hP hD hS hA hG hT [] rfl (by decide +kernel) (fun r9 u9 H locs hw9 hq9 hS => ?_)
  obtain ⟨rfl, hq9_1, hq9_2⟩ := hw9
  obtain ⟨hP, hD⟩ := pd9 [] hq9
  have hev9 : (u9.2.1 0) = 4 := by first | (rw [hq9_2]; rfl) | omega
  refine lt_i (y := iI 4) (by rw [show (u9.2.1 0) = 4 by omega]) ?_
  refine ir_ge (tgt := 31) hx hb dX12_of_9 (by decide) (by show ((-2147483648) : Int) ≤ 4 ∧ (4 : Int) ≤ 2147483647; decide) (by show ((-2147483648) : Int) ≤ 4 ∧ (4 : Int) ≤ 2147483647; decide) (fun c_5 => ?_) (fun c_5 => by exfalso; omega)
  refine lv_iload_n hx hb dX12_of_31 rfl (lv_at hlv 1 rfl) ?_
  refine W.widen (k := 0) (n := 0) (Nat.le_of_ble_eq_true rfl) (Nat.le_of_ble_eq_true rfl) ?_
  exact W.iret (v := iI 632645) hx hb hr (fun t ht hW => ⟨⟨iI 632645, ((fun k => ([] : List Nat).getD k 0), (fun k => ([632645] : List Int).getD k 0), (fun k => ([] : List (Nat → Int32)).getD k (fun _ => 0))), rfl, ⟨rfl, (by show (632645 ≤ 632645 ∧ 632645 ≤ 632645); show (632645 : Int) ≤ 632645 ∧ (632645 : Int) ≤ 632645; decide)⟩, at9 ht hP hD [] (by decide +kernel) rfl⟩, hS.F ht⟩) hS.2.2 dX12_of_32
def vs_m_of2 : List Cond := .code yX12_of cX12_of 3 (some .int) :: (([] : List Cond) ++ ((wsV RX12 100 RJ0 yJ0_length_8abf5 vs_s_length) ++ ((wsV RX12 105 RJ0 yJ0_charAt_5068e vs_s_charAt) ++ ([]))))
theorem gd_m_of2 : vs_m_of2.all goodWord = true := gd_C (by decide +kernel) (gd_A (by decide +kernel) (gd_A (gd_V gd_s_length (by decide +kernel)) (gd_A (gd_V gd_s_charAt (by decide +kernel)) rfl)))
set_option maxHeartbeats 4000000 in
set_option maxRecDepth 100000 in
theorem m_of2 (l : Launch) (hl : l.stackTraces = false) (D : va_G) (cy : Nat → ClassId) (sa : Nat → Nat)  (sz : Nat) : mI9 l yX12_of vs_m_of2 ({ frames := 4, cells := 0, slots := 0, locals := 85 }) D cy sa sz [.ref (sn sa 30)] [] (fun (r : Int32) (u : SV) => r = iI (u.2.1 0) ∧ (271592 ≤ u.2.1 0 ∧ u.2.1 0 ≤ 271592)) (fun u : SV => []) 0 0 := by
  refine Met.ofW (cc := cX12_of) (maxL := 3) (ret := (some .int)) (by decide) rfl ?_
  intro p e s m args below meth c s₁ B hml hv
  obtain ⟨rfl, hsz, hP, hG, hD0, hT⟩ := hv
  have hx := B.exec
  have hb := B.bytes
  have hr := B.returns
  have hts := atoms_spec (ws := vs_m_of2) B.pre
  have hown : s.vm.findClass RX12 = some m.cls := findClass_of_methodNamed B.named
  have hlocks := B.notSynchronized
  subst hsz
  have hD := hD0.self (sz := s.heap.size)
  generalize hAe : va_A [] s.heap.size = A at hD hT ⊢
  have hA : ∀ q : Nat, s.heap.size ≤ q → A q := fun q h => by rw [← hAe]; exact Or.inr h
  have hS : va_S A s.heap s.heap [] := va_S.rf
  have hl0 := lv_entry ([.ref (sn sa 30)]) (n := 3) (Nat.le_of_ble_eq_true rfl)
  rw [lg_entry_eq]
  generalize (lg_sl ([.ref (sn sa 30)]) ++ List.replicate (3 - (lg_sl ([.ref (sn sa 30)])).length) Slot.unset).toArray = ls at hl0 ⊢
  have hlv : lv_has ls 3 [(0, .ref (sn sa 30))] := hl0
  have gg_0 : GoodIn vs_m_of2 (wsV RX12 100 RJ0 yJ0_length_8abf5 vs_s_length) := goodIn_sub (fun w h => List.mem_cons_of_mem _ (List.mem_append_right _ (List.mem_append_left _ h))) (gd_V gd_s_length (by decide +kernel))
  have gg_1 : GoodIn vs_m_of2 (wsV RX12 105 RJ0 yJ0_charAt_5068e vs_s_charAt) := goodIn_sub (fun w h => List.mem_cons_of_mem _ (List.mem_append_right _ (List.mem_append_right _ (List.mem_append_left _ h)))) (gd_V gd_s_charAt (by decide +kernel))
  refine lv_iconst (v := iI 0) hx hb dX12_of_0 (by decide) ?_
  refine lv_istore_n (lv' := [(1, vI 0), (0, .ref (sn sa 30))]) hx hb dX12_of_1 rfl hlv (by decide) rfl (fun ls hlv => ?_)
  refine lv_iconst (v := iI 0) hx hb dX12_of_2 (by decide) ?_
  refine lv_istore_n (lv' := [(2, vI 0), (1, vI 0), (0, .ref (sn sa 30))]) hx hb dX12_of_3 rfl hlv (by decide) rfl (fun ls hlv => ?_)
  refine lv_iload_n hx hb dX12_of_4 rfl (lv_at hlv 0 rfl) ?_
  refine lv_aload_n hx hb dX12_of_5 rfl (lv_at hlv 2 rfl) ?_
  refine cjr_i [] (fun pre9 => (va_runV (As := []) (rest := [vI 0]) ⟨hx, hb, hml, hown, hts⟩ (s_length l hl D cy sa 30 s.heap.size (by show (0 : Int) ≤ 30 ∧ (30 : Int) ≤ 55; decide)) (cwV 0 hts gg_0 rfl rfl rfl (by decide +kernel) ⟨Nat.le_of_ble_eq_true rfl, Nat.le_of_ble_eq_true rfl⟩) ⟨pcW.blind, (wo_recv (WD.tx hT.2.2 (30 : Int).toNat (by omega)).1 hS), pre9⟩ rfl rfl hlv.1 rfl (lv_room (Nat.le_of_ble_eq_true rfl)) dX12_of_6 ⟨Nat.le_of_ble_eq_true rfl, Nat.le_of_ble_eq_true rfl⟩)) hP hD hS hA hG hT [] rfl (by decide +kernel) (fun r1 u1 H locs hw1 hq9 hS => ?_)
  obtain ⟨rfl, hq1_1, hq1_2⟩ := hw1
  obtain ⟨hP, hD⟩ := pd9 [] hq9
  have hev1 : (u1.2.1 0) = 4 := by first | (rw [hq1_2]; rfl) | omega
  refine lt_i (y := iI 4) (by rw [show (u1.2.1 0) = 4 by omega]) ?_
  refine ir_ge (tgt := 31) hx hb dX12_of_9 (by decide) (by show ((-2147483648) : Int) ≤ 0 ∧ (0 : Int) ≤ 2147483647; decide) (by show ((-2147483648) : Int) ≤ 4 ∧ (4 : Int) ≤ 2147483647; decide) (fun c_1 => by exfalso; omega) (fun c_1 => ?_)
  refine lv_iload_n hx hb dX12_of_12 rfl (lv_at hlv 1 rfl) ?_
  refine lv_iconst (v := iI 5) hx hb dX12_of_13 (by decide) ?_
  refine lv_ishl hx hb dX12_of_14 ?_
  refine lt_i (y := iI 0) (by decide) ?_
  refine lv_aload_n hx hb dX12_of_15 rfl (lv_at hlv 2 rfl) ?_
  refine lv_iload_n hx hb dX12_of_16 rfl (lv_at hlv 0 rfl) ?_
  refine cjr_i [] (fun pre9 => (va_runV (As := [vI 0]) (rest := [vI 0]) ⟨hx, hb, hml, hown, hts⟩ (s_charAt l hl D cy sa 30 0 H.size (by show (0 : Int) ≤ 30 ∧ (30 : Int) ≤ 55; decide) (by show (0 : Int) ≤ 0 ∧ (0 : Int) ≤ 6; decide) (by omega)) (cwV 1 hts gg_1 rfl rfl rfl (by decide +kernel) ⟨Nat.le_of_ble_eq_true rfl, Nat.le_of_ble_eq_true rfl⟩) ⟨pcW.blind, (wo_recv (WD.tx hT.2.2 (30 : Int).toNat (by omega)).1 hS), pre9⟩ rfl rfl hlv.1 rfl (lv_room (Nat.le_of_ble_eq_true rfl)) dX12_of_17 ⟨Nat.le_of_ble_eq_true rfl, Nat.le_of_ble_eq_true rfl⟩)) hP hD hS hA hG hT [] rfl (by decide +kernel) (fun r2 u2 H locs hw2 hq9 hS => ?_)
  obtain ⟨rfl, hq2_1, hq2_2⟩ := hw2
  obtain ⟨hP, hD⟩ := pd9 [] hq9
  have hev2 : (u2.2.1 0) = 104 := by first | (rw [hq2_2]; rfl) | omega
  refine lt_i (y := iI 104) (by rw [show (u2.2.1 0) = 104 by omega]) ?_
  refine lv_bipush (v := iI 96) hx hb dX12_of_20 (by decide) ?_
  refine lv_isub hx hb dX12_of_22 ?_
  refine lt_i (y := iI 8) (by decide) ?_
  refine lv_ior hx hb dX12_of_23 ?_
  refine lt_i (y := iI 8) (by decide) ?_
  refine lv_istore_n (lv' := [(1, vI 8), (2, vI 0), (0, .ref (sn sa 30))]) hx hb dX12_of_24 rfl hlv (by decide) rfl (fun ls hlv => ?_)
  refine lv_iinc (v := iI 1) (lv' := [(2, vI 1), (1, vI 8), (0, .ref (sn sa 30))]) hx hb dX12_of_25 hlv (k := 1) rfl (by decide) (by decide) rfl (fun ls hlv => ?_)
  refine lv_goto (tgt := 4) hx hb dX12_of_28 (by decide) ?_
  refine lv_iload_n hx hb dX12_of_4 rfl (lv_at hlv 0 rfl) ?_
  refine lv_aload_n hx hb dX12_of_5 rfl (lv_at hlv 2 rfl) ?_
  refine cjr_i [] (fun pre9 => (va_runV (As := []) (rest := [vI 1]) ⟨hx, hb, hml, hown, hts⟩ (s_length l hl D cy sa 30 H.size (by show (0 : Int) ≤ 30 ∧ (30 : Int) ≤ 55; decide)) (cwV 0 hts gg_0 rfl rfl rfl (by decide +kernel) ⟨Nat.le_of_ble_eq_true rfl, Nat.le_of_ble_eq_true rfl⟩) ⟨pcW.blind, (wo_recv (WD.tx hT.2.2 (30 : Int).toNat (by omega)).1 hS), pre9⟩ rfl rfl hlv.1 rfl (lv_room (Nat.le_of_ble_eq_true rfl)) dX12_of_6 ⟨Nat.le_of_ble_eq_true rfl, Nat.le_of_ble_eq_true rfl⟩)) hP hD hS hA hG hT [] rfl (by decide +kernel) (fun r3 u3 H locs hw3 hq9 hS => ?_)
  obtain ⟨rfl, hq3_1, hq3_2⟩ := hw3
  obtain ⟨hP, hD⟩ := pd9 [] hq9
  have hev3 : (u3.2.1 0) = 4 := by first | (rw [hq3_2]; rfl) | omega
  refine lt_i (y := iI 4) (by rw [show (u3.2.1 0) = 4 by omega]) ?_
  refine ir_ge (tgt := 31) hx hb dX12_of_9 (by decide) (by show ((-2147483648) : Int) ≤ 1 ∧ (1 : Int) ≤ 2147483647; decide) (by show ((-2147483648) : Int) ≤ 4 ∧ (4 : Int) ≤ 2147483647; decide) (fun c_2 => by exfalso; omega) (fun c_2 => ?_)
  refine lv_iload_n hx hb dX12_of_12 rfl (lv_at hlv 1 rfl) ?_
  refine lv_iconst (v := iI 5) hx hb dX12_of_13 (by decide) ?_
  refine lv_ishl hx hb dX12_of_14 ?_
  refine lt_i (y := iI 256) (by decide) ?_
  refine lv_aload_n hx hb dX12_of_15 rfl (lv_at hlv 2 rfl) ?_
  refine lv_iload_n hx hb dX12_of_16 rfl (lv_at hlv 0 rfl) ?_
  refine cjr_i [] (fun pre9 => (va_runV (As := [vI 1]) (rest := [vI 256]) ⟨hx, hb, hml, hown, hts⟩ (s_charAt l hl D cy sa 30 1 H.size (by show (0 : Int) ≤ 30 ∧ (30 : Int) ≤ 55; decide) (by show (0 : Int) ≤ 1 ∧ (1 : Int) ≤ 6; decide) (by omega)) (cwV 1 hts gg_1 rfl rfl rfl (by decide +kernel) ⟨Nat.le_of_ble_eq_true rfl, Nat.le_of_ble_eq_true rfl⟩) ⟨pcW.blind, (wo_recv (WD.tx hT.2.2 (30 : Int).toNat (by omega)).1 hS), pre9⟩ rfl rfl hlv.1 rfl (lv_room (Nat.le_of_ble_eq_true rfl)) dX12_of_17 ⟨Nat.le_of_ble_eq_true rfl, Nat.le_of_ble_eq_true rfl⟩)) hP hD hS hA hG hT [] rfl (by decide +kernel) (fun r4 u4 H locs hw4 hq9 hS => ?_)
  obtain ⟨rfl, hq4_1, hq4_2⟩ := hw4
  obtain ⟨hP, hD⟩ := pd9 [] hq9
  have hev4 : (u4.2.1 0) = 105 := by first | (rw [hq4_2]; rfl) | omega
  refine lt_i (y := iI 105) (by rw [show (u4.2.1 0) = 105 by omega]) ?_
  refine lv_bipush (v := iI 96) hx hb dX12_of_20 (by decide) ?_
  refine lv_isub hx hb dX12_of_22 ?_
  refine lt_i (y := iI 9) (by decide) ?_
  refine lv_ior hx hb dX12_of_23 ?_
  refine lt_i (y := iI 265) (by decide) ?_
  refine lv_istore_n (lv' := [(1, vI 265), (2, vI 1), (0, .ref (sn sa 30))]) hx hb dX12_of_24 rfl hlv (by decide) rfl (fun ls hlv => ?_)
  refine lv_iinc (v := iI 2) (lv' := [(2, vI 2), (1, vI 265), (0, .ref (sn sa 30))]) hx hb dX12_of_25 hlv (k := 1) rfl (by decide) (by decide) rfl (fun ls hlv => ?_)
  refine lv_goto (tgt := 4) hx hb dX12_of_28 (by decide) ?_
  refine lv_iload_n hx hb dX12_of_4 rfl (lv_at hlv 0 rfl) ?_
  refine lv_aload_n hx hb dX12_of_5 rfl (lv_at hlv 2 rfl) ?_
  refine cjr_i [] (fun pre9 => (va_runV (As := []) (rest := [vI 2]) ⟨hx, hb, hml, hown, hts⟩ (s_length l hl D cy sa 30 H.size (by show (0 : Int) ≤ 30 ∧ (30 : Int) ≤ 55; decide)) (cwV 0 hts gg_0 rfl rfl rfl (by decide +kernel) ⟨Nat.le_of_ble_eq_true rfl, Nat.le_of_ble_eq_true rfl⟩) ⟨pcW.blind, (wo_recv (WD.tx hT.2.2 (30 : Int).toNat (by omega)).1 hS), pre9⟩ rfl rfl hlv.1 rfl (lv_room (Nat.le_of_ble_eq_true rfl)) dX12_of_6 ⟨Nat.le_of_ble_eq_true rfl, Nat.le_of_ble_eq_true rfl⟩)) hP hD hS hA hG hT [] rfl (by decide +kernel) (fun r5 u5 H locs hw5 hq9 hS => ?_)
  obtain ⟨rfl, hq5_1, hq5_2⟩ := hw5
  obtain ⟨hP, hD⟩ := pd9 [] hq9
  have hev5 : (u5.2.1 0) = 4 := by first | (rw [hq5_2]; rfl) | omega
  refine lt_i (y := iI 4) (by rw [show (u5.2.1 0) = 4 by omega]) ?_
  refine ir_ge (tgt := 31) hx hb dX12_of_9 (by decide) (by show ((-2147483648) : Int) ≤ 2 ∧ (2 : Int) ≤ 2147483647; decide) (by show ((-2147483648) : Int) ≤ 4 ∧ (4 : Int) ≤ 2147483647; decide) (fun c_3 => by exfalso; omega) (fun c_3 => ?_)
  refine lv_iload_n hx hb dX12_of_12 rfl (lv_at hlv 1 rfl) ?_
  refine lv_iconst (v := iI 5) hx hb dX12_of_13 (by decide) ?_
  refine lv_ishl hx hb dX12_of_14 ?_
  refine lt_i (y := iI 8480) (by decide) ?_
  refine lv_aload_n hx hb dX12_of_15 rfl (lv_at hlv 2 rfl) ?_
  refine lv_iload_n hx hb dX12_of_16 rfl (lv_at hlv 0 rfl) ?_
  refine cjr_i [] (fun pre9 => (va_runV (As := [vI 2]) (rest := [vI 8480]) ⟨hx, hb, hml, hown, hts⟩ (s_charAt l hl D cy sa 30 2 H.size (by show (0 : Int) ≤ 30 ∧ (30 : Int) ≤ 55; decide) (by show (0 : Int) ≤ 2 ∧ (2 : Int) ≤ 6; decide) (by omega)) (cwV 1 hts gg_1 rfl rfl rfl (by decide +kernel) ⟨Nat.le_of_ble_eq_true rfl, Nat.le_of_ble_eq_true rfl⟩) ⟨pcW.blind, (wo_recv (WD.tx hT.2.2 (30 : Int).toNat (by omega)).1 hS), pre9⟩ rfl rfl hlv.1 rfl (lv_room (Nat.le_of_ble_eq_true rfl)) dX12_of_17 ⟨Nat.le_of_ble_eq_true rfl, Nat.le_of_ble_eq_true rfl⟩)) hP hD hS hA hG hT [] rfl (by decide +kernel) (fun r6 u6 H locs hw6 hq9 hS => ?_)
  obtain ⟨rfl, hq6_1, hq6_2⟩ := hw6
  obtain ⟨hP, hD⟩ := pd9 [] hq9
  have hev6 : (u6.2.1 0) = 103 := by first | (rw [hq6_2]; rfl) | omega
  refine lt_i (y := iI 103) (by rw [show (u6.2.1 0) = 103 by omega]) ?_
  refine lv_bipush (v := iI 96) hx hb dX12_of_20 (by decide) ?_
  refine lv_isub hx hb dX12_of_22 ?_
  refine lt_i (y := iI 7) (by decide) ?_
  refine lv_ior hx hb dX12_of_23 ?_
  refine lt_i (y := iI 8487) (by decide) ?_
  refine lv_istore_n (lv' := [(1, vI 8487), (2, vI 2), (0, .ref (sn sa 30))]) hx hb dX12_of_24 rfl hlv (by decide) rfl (fun ls hlv => ?_)
  refine lv_iinc (v := iI 3) (lv' := [(2, vI 3), (1, vI 8487), (0, .ref (sn sa 30))]) hx hb dX12_of_25 hlv (k := 1) rfl (by decide) (by decide) rfl (fun ls hlv => ?_)
  refine lv_goto (tgt := 4) hx hb dX12_of_28 (by decide) ?_
  refine lv_iload_n hx hb dX12_of_4 rfl (lv_at hlv 0 rfl) ?_
  refine lv_aload_n hx hb dX12_of_5 rfl (lv_at hlv 2 rfl) ?_
  refine cjr_i [] (fun pre9 => (va_runV (As := []) (rest := [vI 3]) ⟨hx, hb, hml, hown, hts⟩ (s_length l hl D cy sa 30 H.size (by show (0 : Int) ≤ 30 ∧ (30 : Int) ≤ 55; decide)) (cwV 0 hts gg_0 rfl rfl rfl (by decide +kernel) ⟨Nat.le_of_ble_eq_true rfl, Nat.le_of_ble_eq_true rfl⟩) ⟨pcW.blind, (wo_recv (WD.tx hT.2.2 (30 : Int).toNat (by omega)).1 hS), pre9⟩ rfl rfl hlv.1 rfl (lv_room (Nat.le_of_ble_eq_true rfl)) dX12_of_6 ⟨Nat.le_of_ble_eq_true rfl, Nat.le_of_ble_eq_true rfl⟩)) hP hD hS hA hG hT [] rfl (by decide +kernel) (fun r7 u7 H locs hw7 hq9 hS => ?_)
  obtain ⟨rfl, hq7_1, hq7_2⟩ := hw7
  obtain ⟨hP, hD⟩ := pd9 [] hq9
  have hev7 : (u7.2.1 0) = 4 := by first | (rw [hq7_2]; rfl) | omega
  refine lt_i (y := iI 4) (by rw [show (u7.2.1 0) = 4 by omega]) ?_
  refine ir_ge (tgt := 31) hx hb dX12_of_9 (by decide) (by show ((-2147483648) : Int) ≤ 3 ∧ (3 : Int) ≤ 2147483647; decide) (by show ((-2147483648) : Int) ≤ 4 ∧ (4 : Int) ≤ 2147483647; decide) (fun c_4 => by exfalso; omega) (fun c_4 => ?_)
  refine lv_iload_n hx hb dX12_of_12 rfl (lv_at hlv 1 rfl) ?_
  refine lv_iconst (v := iI 5) hx hb dX12_of_13 (by decide) ?_
  refine lv_ishl hx hb dX12_of_14 ?_
  refine lt_i (y := iI 271584) (by decide) ?_
  refine lv_aload_n hx hb dX12_of_15 rfl (lv_at hlv 2 rfl) ?_
  refine lv_iload_n hx hb dX12_of_16 rfl (lv_at hlv 0 rfl) ?_
  refine cjr_i [] (fun pre9 => (va_runV (As := [vI 3]) (rest := [vI 271584]) ⟨hx, hb, hml, hown, hts⟩ (s_charAt l hl D cy sa 30 3 H.size (by show (0 : Int) ≤ 30 ∧ (30 : Int) ≤ 55; decide) (by show (0 : Int) ≤ 3 ∧ (3 : Int) ≤ 6; decide) (by omega)) (cwV 1 hts gg_1 rfl rfl rfl (by decide +kernel) ⟨Nat.le_of_ble_eq_true rfl, Nat.le_of_ble_eq_true rfl⟩) ⟨pcW.blind, (wo_recv (WD.tx hT.2.2 (30 : Int).toNat (by omega)).1 hS), pre9⟩ rfl rfl hlv.1 rfl (lv_room (Nat.le_of_ble_eq_true rfl)) dX12_of_17 ⟨Nat.le_of_ble_eq_true rfl, Nat.le_of_ble_eq_true rfl⟩)) hP hD hS hA hG hT [] rfl (by decide +kernel) (fun r8 u8 H locs hw8 hq9 hS => ?_)
  obtain ⟨rfl, hq8_1, hq8_2⟩ := hw8
  obtain ⟨hP, hD⟩ := pd9 [] hq9
  have hev8 : (u8.2.1 0) = 104 := by first | (rw [hq8_2]; rfl) | omega
  refine lt_i (y := iI 104) (by rw [show (u8.2.1 0) = 104 by omega]) ?_
  refine lv_bipush (v := iI 96) hx hb dX12_of_20 (by decide) ?_
  refine lv_isub hx hb dX12_of_22 ?_
  refine lt_i (y := iI 8) (by decide) ?_
  refine lv_ior hx hb dX12_of_23 ?_
  refine lt_i (y := iI 271592) (by decide) ?_
  refine lv_istore_n (lv' := [(1, vI 271592), (2, vI 3), (0, .ref (sn sa 30))]) hx hb dX12_of_24 rfl hlv (by decide) rfl (fun ls hlv => ?_)
  refine lv_iinc (v := iI 4) (lv' := [(2, vI 4), (1, vI 271592), (0, .ref (sn sa 30))]) hx hb dX12_of_25 hlv (k := 1) rfl (by decide) (by decide) rfl (fun ls hlv => ?_)
  refine lv_goto (tgt := 4) hx hb dX12_of_28 (by decide) ?_
  refine lv_iload_n hx hb dX12_of_4 rfl (lv_at hlv 0 rfl) ?_
  refine lv_aload_n hx hb dX12_of_5 rfl (lv_at hlv 2 rfl) ?_
  refine cjr_i [] (fun pre9 => (va_runV (As := []) (rest := [vI 4]) ⟨hx, hb, hml, hown, hts⟩ (s_length l hl D cy sa 30 H.size (by show (0 : Int) ≤ 30 ∧ (30 : Int) ≤ 55; decide)) (cwV 0 hts gg_0 rfl rfl rfl (by decide +kernel) ⟨Nat.le_of_ble_eq_true rfl, Nat.le_of_ble_eq_true rfl⟩) ⟨pcW.blind, (wo_recv (WD.tx hT.2.2 (30 : Int).toNat (by omega)).1 hS), pre9⟩ rfl rfl hlv.1 rfl (lv_room (Nat.le_of_ble_eq_true rfl)) dX12_of_6 ⟨Nat.le_of_ble_eq_true rfl, Nat.le_of_ble_eq_true rfl⟩)) hP hD hS hA hG hT [] rfl (by decide +kernel) (fun r9 u9 H locs hw9 hq9 hS => ?_)
  obtain ⟨rfl, hq9_1, hq9_2⟩ := hw9
  obtain ⟨hP, hD⟩ := pd9 [] hq9
  have hev9 : (u9.2.1 0) = 4 := by first | (rw [hq9_2]; rfl) | omega
  refine lt_i (y := iI 4) (by rw [show (u9.2.1 0) = 4 by omega]) ?_
  refine ir_ge (tgt := 31) hx hb dX12_of_9 (by decide) (by show ((-2147483648) : Int) ≤ 4 ∧ (4 : Int) ≤ 2147483647; decide) (by show ((-2147483648) : Int) ≤ 4 ∧ (4 : Int) ≤ 2147483647; decide) (fun c_5 => ?_) (fun c_5 => by exfalso; omega)
  refine lv_iload_n hx hb dX12_of_31 rfl (lv_at hlv 1 rfl) ?_
  refine W.widen (k := 0) (n := 0) (Nat.le_of_ble_eq_true rfl) (Nat.le_of_ble_eq_true rfl) ?_
  exact W.iret (v := iI 271592) hx hb hr (fun t ht hW => ⟨⟨iI 271592, ((fun k => ([] : List Nat).getD k 0), (fun k => ([271592] : List Int).getD k 0), (fun k => ([] : List (Nat → Int32)).getD k (fun _ => 0))), rfl, ⟨rfl, (by show (271592 ≤ 271592 ∧ 271592 ≤ 271592); show (271592 : Int) ≤ 271592 ∧ (271592 : Int) ≤ 271592; decide)⟩, at9 ht hP hD [] (by decide +kernel) rfl⟩, hS.F ht⟩) hS.2.2 dX12_of_32
def vs_m_of3 : List Cond := .code yX12_of cX12_of 3 (some .int) :: (([] : List Cond) ++ ((wsV RX12 100 RJ0 yJ0_length_8abf5 vs_s_length) ++ ((wsV RX12 105 RJ0 yJ0_charAt_5068e vs_s_charAt) ++ ([]))))
theorem gd_m_of3 : vs_m_of3.all goodWord = true := gd_C (by decide +kernel) (gd_A (by decide +kernel) (gd_A (gd_V gd_s_length (by decide +kernel)) (gd_A (gd_V gd_s_charAt (by decide +kernel)) rfl)))
set_option maxHeartbeats 4000000 in
set_option maxRecDepth 100000 in
theorem m_of3 (l : Launch) (hl : l.stackTraces = false) (D : va_G) (cy : Nat → ClassId) (sa : Nat → Nat)  (sz : Nat) : mI9 l yX12_of vs_m_of3 ({ frames := 4, cells := 0, slots := 0, locals := 85 }) D cy sa sz [.ref (sn sa 31)] [] (fun (r : Int32) (u : SV) => r = iI (u.2.1 0) ∧ (4785454 ≤ u.2.1 0 ∧ u.2.1 0 ≤ 4785454)) (fun u : SV => []) 0 0 := by
  refine Met.ofW (cc := cX12_of) (maxL := 3) (ret := (some .int)) (by decide) rfl ?_
  intro p e s m args below meth c s₁ B hml hv
  obtain ⟨rfl, hsz, hP, hG, hD0, hT⟩ := hv
  have hx := B.exec
  have hb := B.bytes
  have hr := B.returns
  have hts := atoms_spec (ws := vs_m_of3) B.pre
  have hown : s.vm.findClass RX12 = some m.cls := findClass_of_methodNamed B.named
  have hlocks := B.notSynchronized
  subst hsz
  have hD := hD0.self (sz := s.heap.size)
  generalize hAe : va_A [] s.heap.size = A at hD hT ⊢
  have hA : ∀ q : Nat, s.heap.size ≤ q → A q := fun q h => by rw [← hAe]; exact Or.inr h
  have hS : va_S A s.heap s.heap [] := va_S.rf
  have hl0 := lv_entry ([.ref (sn sa 31)]) (n := 3) (Nat.le_of_ble_eq_true rfl)
  rw [lg_entry_eq]
  generalize (lg_sl ([.ref (sn sa 31)]) ++ List.replicate (3 - (lg_sl ([.ref (sn sa 31)])).length) Slot.unset).toArray = ls at hl0 ⊢
  have hlv : lv_has ls 3 [(0, .ref (sn sa 31))] := hl0
  have gg_0 : GoodIn vs_m_of3 (wsV RX12 100 RJ0 yJ0_length_8abf5 vs_s_length) := goodIn_sub (fun w h => List.mem_cons_of_mem _ (List.mem_append_right _ (List.mem_append_left _ h))) (gd_V gd_s_length (by decide +kernel))
  have gg_1 : GoodIn vs_m_of3 (wsV RX12 105 RJ0 yJ0_charAt_5068e vs_s_charAt) := goodIn_sub (fun w h => List.mem_cons_of_mem _ (List.mem_append_right _ (List.mem_append_right _ (List.mem_append_left _ h)))) (gd_V gd_s_charAt (by decide +kernel))
  refine lv_iconst (v := iI 0) hx hb dX12_of_0 (by decide) ?_
  refine lv_istore_n (lv' := [(1, vI 0), (0, .ref (sn sa 31))]) hx hb dX12_of_1 rfl hlv (by decide) rfl (fun ls hlv => ?_)
  refine lv_iconst (v := iI 0) hx hb dX12_of_2 (by decide) ?_
  refine lv_istore_n (lv' := [(2, vI 0), (1, vI 0), (0, .ref (sn sa 31))]) hx hb dX12_of_3 rfl hlv (by decide) rfl (fun ls hlv => ?_)
  refine lv_iload_n hx hb dX12_of_4 rfl (lv_at hlv 0 rfl) ?_
  refine lv_aload_n hx hb dX12_of_5 rfl (lv_at hlv 2 rfl) ?_
  refine cjr_i [] (fun pre9 => (va_runV (As := []) (rest := [vI 0]) ⟨hx, hb, hml, hown, hts⟩ (s_length l hl D cy sa 31 s.heap.size (by show (0 : Int) ≤ 31 ∧ (31 : Int) ≤ 55; decide)) (cwV 0 hts gg_0 rfl rfl rfl (by decide +kernel) ⟨Nat.le_of_ble_eq_true rfl, Nat.le_of_ble_eq_true rfl⟩) ⟨pcW.blind, (wo_recv (WD.tx hT.2.2 (31 : Int).toNat (by omega)).1 hS), pre9⟩ rfl rfl hlv.1 rfl (lv_room (Nat.le_of_ble_eq_true rfl)) dX12_of_6 ⟨Nat.le_of_ble_eq_true rfl, Nat.le_of_ble_eq_true rfl⟩)) hP hD hS hA hG hT [] rfl (by decide +kernel) (fun r1 u1 H locs hw1 hq9 hS => ?_)
  obtain ⟨rfl, hq1_1, hq1_2⟩ := hw1
  obtain ⟨hP, hD⟩ := pd9 [] hq9
  have hev1 : (u1.2.1 0) = 5 := by first | (rw [hq1_2]; rfl) | omega
  refine lt_i (y := iI 5) (by rw [show (u1.2.1 0) = 5 by omega]) ?_
  refine ir_ge (tgt := 31) hx hb dX12_of_9 (by decide) (by show ((-2147483648) : Int) ≤ 0 ∧ (0 : Int) ≤ 2147483647; decide) (by show ((-2147483648) : Int) ≤ 5 ∧ (5 : Int) ≤ 2147483647; decide) (fun c_1 => by exfalso; omega) (fun c_1 => ?_)
  refine lv_iload_n hx hb dX12_of_12 rfl (lv_at hlv 1 rfl) ?_
  refine lv_iconst (v := iI 5) hx hb dX12_of_13 (by decide) ?_
  refine lv_ishl hx hb dX12_of_14 ?_
  refine lt_i (y := iI 0) (by decide) ?_
  refine lv_aload_n hx hb dX12_of_15 rfl (lv_at hlv 2 rfl) ?_
  refine lv_iload_n hx hb dX12_of_16 rfl (lv_at hlv 0 rfl) ?_
  refine cjr_i [] (fun pre9 => (va_runV (As := [vI 0]) (rest := [vI 0]) ⟨hx, hb, hml, hown, hts⟩ (s_charAt l hl D cy sa 31 0 H.size (by show (0 : Int) ≤ 31 ∧ (31 : Int) ≤ 55; decide) (by show (0 : Int) ≤ 0 ∧ (0 : Int) ≤ 6; decide) (by omega)) (cwV 1 hts gg_1 rfl rfl rfl (by decide +kernel) ⟨Nat.le_of_ble_eq_true rfl, Nat.le_of_ble_eq_true rfl⟩) ⟨pcW.blind, (wo_recv (WD.tx hT.2.2 (31 : Int).toNat (by omega)).1 hS), pre9⟩ rfl rfl hlv.1 rfl (lv_room (Nat.le_of_ble_eq_true rfl)) dX12_of_17 ⟨Nat.le_of_ble_eq_true rfl, Nat.le_of_ble_eq_true rfl⟩)) hP hD hS hA hG hT [] rfl (by decide +kernel) (fun r2 u2 H locs hw2 hq9 hS => ?_)
  obtain ⟨rfl, hq2_1, hq2_2⟩ := hw2
  obtain ⟨hP, hD⟩ := pd9 [] hq9
  have hev2 : (u2.2.1 0) = 100 := by first | (rw [hq2_2]; rfl) | omega
  refine lt_i (y := iI 100) (by rw [show (u2.2.1 0) = 100 by omega]) ?_
  refine lv_bipush (v := iI 96) hx hb dX12_of_20 (by decide) ?_
  refine lv_isub hx hb dX12_of_22 ?_
  refine lt_i (y := iI 4) (by decide) ?_
  refine lv_ior hx hb dX12_of_23 ?_
  refine lt_i (y := iI 4) (by decide) ?_
  refine lv_istore_n (lv' := [(1, vI 4), (2, vI 0), (0, .ref (sn sa 31))]) hx hb dX12_of_24 rfl hlv (by decide) rfl (fun ls hlv => ?_)
  refine lv_iinc (v := iI 1) (lv' := [(2, vI 1), (1, vI 4), (0, .ref (sn sa 31))]) hx hb dX12_of_25 hlv (k := 1) rfl (by decide) (by decide) rfl (fun ls hlv => ?_)
  refine lv_goto (tgt := 4) hx hb dX12_of_28 (by decide) ?_
  refine lv_iload_n hx hb dX12_of_4 rfl (lv_at hlv 0 rfl) ?_
  refine lv_aload_n hx hb dX12_of_5 rfl (lv_at hlv 2 rfl) ?_
  refine cjr_i [] (fun pre9 => (va_runV (As := []) (rest := [vI 1]) ⟨hx, hb, hml, hown, hts⟩ (s_length l hl D cy sa 31 H.size (by show (0 : Int) ≤ 31 ∧ (31 : Int) ≤ 55; decide)) (cwV 0 hts gg_0 rfl rfl rfl (by decide +kernel) ⟨Nat.le_of_ble_eq_true rfl, Nat.le_of_ble_eq_true rfl⟩) ⟨pcW.blind, (wo_recv (WD.tx hT.2.2 (31 : Int).toNat (by omega)).1 hS), pre9⟩ rfl rfl hlv.1 rfl (lv_room (Nat.le_of_ble_eq_true rfl)) dX12_of_6 ⟨Nat.le_of_ble_eq_true rfl, Nat.le_of_ble_eq_true rfl⟩)) hP hD hS hA hG hT [] rfl (by decide +kernel) (fun r3 u3 H locs hw3 hq9 hS => ?_)
  obtain ⟨rfl, hq3_1, hq3_2⟩ := hw3
  obtain ⟨hP, hD⟩ := pd9 [] hq9
  have hev3 : (u3.2.1 0) = 5 := by first | (rw [hq3_2]; rfl) | omega
  refine lt_i (y := iI 5) (by rw [show (u3.2.1 0) = 5 by omega]) ?_
  refine ir_ge (tgt := 31) hx hb dX12_of_9 (by decide) (by show ((-2147483648) : Int) ≤ 1 ∧ (1 : Int) ≤ 2147483647; decide) (by show ((-2147483648) : Int) ≤ 5 ∧ (5 : Int) ≤ 2147483647; decide) (fun c_2 => by exfalso; omega) (fun c_2 => ?_)
  refine lv_iload_n hx hb dX12_of_12 rfl (lv_at hlv 1 rfl) ?_
  refine lv_iconst (v := iI 5) hx hb dX12_of_13 (by decide) ?_
  refine lv_ishl hx hb dX12_of_14 ?_
  refine lt_i (y := iI 128) (by decide) ?_
  refine lv_aload_n hx hb dX12_of_15 rfl (lv_at hlv 2 rfl) ?_
  refine lv_iload_n hx hb dX12_of_16 rfl (lv_at hlv 0 rfl) ?_
  refine cjr_i [] (fun pre9 => (va_runV (As := [vI 1]) (rest := [vI 128]) ⟨hx, hb, hml, hown, hts⟩ (s_charAt l hl D cy sa 31 1 H.size (by show (0 : Int) ≤ 31 ∧ (31 : Int) ≤ 55; decide) (by show (0 : Int) ≤ 1 ∧ (1 : Int) ≤ 6; decide) (by omega)) (cwV 1 hts gg_1 rfl rfl rfl (by decide +kernel) ⟨Nat.le_of_ble_eq_true rfl, Nat.le_of_ble_eq_true rfl⟩) ⟨pcW.blind, (wo_recv (WD.tx hT.2.2 (31 : Int).toNat (by omega)).1 hS), pre9⟩ rfl rfl hlv.1 rfl (lv_room (Nat.le_of_ble_eq_true rfl)) dX12_of_17 ⟨Nat.le_of_ble_eq_true rfl, Nat.le_of_ble_eq_true rfl⟩)) hP hD hS hA hG hT [] rfl (by decide +kernel) (fun r4 u4 H locs hw4 hq9 hS => ?_)
  obtain ⟨rfl, hq4_1, hq4_2⟩ := hw4
  obtain ⟨hP, hD⟩ := pd9 [] hq9
  have hev4 : (u4.2.1 0) = 114 := by first | (rw [hq4_2]; rfl) | omega
  refine lt_i (y := iI 114) (by rw [show (u4.2.1 0) = 114 by omega]) ?_
  refine lv_bipush (v := iI 96) hx hb dX12_of_20 (by decide) ?_
  refine lv_isub hx hb dX12_of_22 ?_
  refine lt_i (y := iI 18) (by decide) ?_
  refine lv_ior hx hb dX12_of_23 ?_
  refine lt_i (y := iI 146) (by decide) ?_
  refine lv_istore_n (lv' := [(1, vI 146), (2, vI 1), (0, .ref (sn sa 31))]) hx hb dX12_of_24 rfl hlv (by decide) rfl (fun ls hlv => ?_)
  refine lv_iinc (v := iI 2) (lv' := [(2, vI 2), (1, vI 146), (0, .ref (sn sa 31))]) hx hb dX12_of_25 hlv (k := 1) rfl (by decide) (by decide) rfl (fun ls hlv => ?_)
  refine lv_goto (tgt := 4) hx hb dX12_of_28 (by decide) ?_
  refine lv_iload_n hx hb dX12_of_4 rfl (lv_at hlv 0 rfl) ?_
  refine lv_aload_n hx hb dX12_of_5 rfl (lv_at hlv 2 rfl) ?_
  refine cjr_i [] (fun pre9 => (va_runV (As := []) (rest := [vI 2]) ⟨hx, hb, hml, hown, hts⟩ (s_length l hl D cy sa 31 H.size (by show (0 : Int) ≤ 31 ∧ (31 : Int) ≤ 55; decide)) (cwV 0 hts gg_0 rfl rfl rfl (by decide +kernel) ⟨Nat.le_of_ble_eq_true rfl, Nat.le_of_ble_eq_true rfl⟩) ⟨pcW.blind, (wo_recv (WD.tx hT.2.2 (31 : Int).toNat (by omega)).1 hS), pre9⟩ rfl rfl hlv.1 rfl (lv_room (Nat.le_of_ble_eq_true rfl)) dX12_of_6 ⟨Nat.le_of_ble_eq_true rfl, Nat.le_of_ble_eq_true rfl⟩)) hP hD hS hA hG hT [] rfl (by decide +kernel) (fun r5 u5 H locs hw5 hq9 hS => ?_)
  obtain ⟨rfl, hq5_1, hq5_2⟩ := hw5
  obtain ⟨hP, hD⟩ := pd9 [] hq9
  have hev5 : (u5.2.1 0) = 5 := by first | (rw [hq5_2]; rfl) | omega
  refine lt_i (y := iI 5) (by rw [show (u5.2.1 0) = 5 by omega]) ?_
  refine ir_ge (tgt := 31) hx hb dX12_of_9 (by decide) (by show ((-2147483648) : Int) ≤ 2 ∧ (2 : Int) ≤ 2147483647; decide) (by show ((-2147483648) : Int) ≤ 5 ∧ (5 : Int) ≤ 2147483647; decide) (fun c_3 => by exfalso; omega) (fun c_3 => ?_)
  refine lv_iload_n hx hb dX12_of_12 rfl (lv_at hlv 1 rfl) ?_
  refine lv_iconst (v := iI 5) hx hb dX12_of_13 (by decide) ?_
  refine lv_ishl hx hb dX12_of_14 ?_
  refine lt_i (y := iI 4672) (by decide) ?_
  refine lv_aload_n hx hb dX12_of_15 rfl (lv_at hlv 2 rfl) ?_
  refine lv_iload_n hx hb dX12_of_16 rfl (lv_at hlv 0 rfl) ?_
  refine cjr_i [] (fun pre9 => (va_runV (As := [vI 2]) (rest := [vI 4672]) ⟨hx, hb, hml, hown, hts⟩ (s_charAt l hl D cy sa 31 2 H.size (by show (0 : Int) ≤ 31 ∧ (31 : Int) ≤ 55; decide) (by show (0 : Int) ≤ 2 ∧ (2 : Int) ≤ 6; decide) (by omega)) (cwV 1 hts gg_1 rfl rfl rfl (by decide +kernel) ⟨Nat.le_of_ble_eq_true rfl, Nat.le_of_ble_eq_true rfl⟩) ⟨pcW.blind, (wo_recv (WD.tx hT.2.2 (31 : Int).toNat (by omega)).1 hS), pre9⟩ rfl rfl hlv.1 rfl (lv_room (Nat.le_of_ble_eq_true rfl)) dX12_of_17 ⟨Nat.le_of_ble_eq_true rfl, Nat.le_of_ble_eq_true rfl⟩)) hP hD hS hA hG hT [] rfl (by decide +kernel) (fun r6 u6 H locs hw6 hq9 hS => ?_)
  obtain ⟨rfl, hq6_1, hq6_2⟩ := hw6
  obtain ⟨hP, hD⟩ := pd9 [] hq9
  have hev6 : (u6.2.1 0) = 97 := by first | (rw [hq6_2]; rfl) | omega
  refine lt_i (y := iI 97) (by rw [show (u6.2.1 0) = 97 by omega]) ?_
  refine lv_bipush (v := iI 96) hx hb dX12_of_20 (by decide) ?_
  refine lv_isub hx hb dX12_of_22 ?_
  refine lt_i (y := iI 1) (by decide) ?_
  refine lv_ior hx hb dX12_of_23 ?_
  refine lt_i (y := iI 4673) (by decide) ?_
  refine lv_istore_n (lv' := [(1, vI 4673), (2, vI 2), (0, .ref (sn sa 31))]) hx hb dX12_of_24 rfl hlv (by decide) rfl (fun ls hlv => ?_)
  refine lv_iinc (v := iI 3) (lv' := [(2, vI 3), (1, vI 4673), (0, .ref (sn sa 31))]) hx hb dX12_of_25 hlv (k := 1) rfl (by decide) (by decide) rfl (fun ls hlv => ?_)
  refine lv_goto (tgt := 4) hx hb dX12_of_28 (by decide) ?_
  refine lv_iload_n hx hb dX12_of_4 rfl (lv_at hlv 0 rfl) ?_
  refine lv_aload_n hx hb dX12_of_5 rfl (lv_at hlv 2 rfl) ?_
  refine cjr_i [] (fun pre9 => (va_runV (As := []) (rest := [vI 3]) ⟨hx, hb, hml, hown, hts⟩ (s_length l hl D cy sa 31 H.size (by show (0 : Int) ≤ 31 ∧ (31 : Int) ≤ 55; decide)) (cwV 0 hts gg_0 rfl rfl rfl (by decide +kernel) ⟨Nat.le_of_ble_eq_true rfl, Nat.le_of_ble_eq_true rfl⟩) ⟨pcW.blind, (wo_recv (WD.tx hT.2.2 (31 : Int).toNat (by omega)).1 hS), pre9⟩ rfl rfl hlv.1 rfl (lv_room (Nat.le_of_ble_eq_true rfl)) dX12_of_6 ⟨Nat.le_of_ble_eq_true rfl, Nat.le_of_ble_eq_true rfl⟩)) hP hD hS hA hG hT [] rfl (by decide +kernel) (fun r7 u7 H locs hw7 hq9 hS => ?_)
  obtain ⟨rfl, hq7_1, hq7_2⟩ := hw7
  obtain ⟨hP, hD⟩ := pd9 [] hq9
  have hev7 : (u7.2.1 0) = 5 := by first | (rw [hq7_2]; rfl) | omega
  refine lt_i (y := iI 5) (by rw [show (u7.2.1 0) = 5 by omega]) ?_
  refine ir_ge (tgt := 31) hx hb dX12_of_9 (by decide) (by show ((-2147483648) : Int) ≤ 3 ∧ (3 : Int) ≤ 2147483647; decide) (by show ((-2147483648) : Int) ≤ 5 ∧ (5 : Int) ≤ 2147483647; decide) (fun c_4 => by exfalso; omega) (fun c_4 => ?_)
  refine lv_iload_n hx hb dX12_of_12 rfl (lv_at hlv 1 rfl) ?_
  refine lv_iconst (v := iI 5) hx hb dX12_of_13 (by decide) ?_
  refine lv_ishl hx hb dX12_of_14 ?_
  refine lt_i (y := iI 149536) (by decide) ?_
  refine lv_aload_n hx hb dX12_of_15 rfl (lv_at hlv 2 rfl) ?_
  refine lv_iload_n hx hb dX12_of_16 rfl (lv_at hlv 0 rfl) ?_
  refine cjr_i [] (fun pre9 => (va_runV (As := [vI 3]) (rest := [vI 149536]) ⟨hx, hb, hml, hown, hts⟩ (s_charAt l hl D cy sa 31 3 H.size (by show (0 : Int) ≤ 31 ∧ (31 : Int) ≤ 55; decide) (by show (0 : Int) ≤ 3 ∧ (3 : Int) ≤ 6; decide) (by omega)) (cwV 1 hts gg_1 rfl rfl rfl (by decide +kernel) ⟨Nat.le_of_ble_eq_true rfl, Nat.le_of_ble_eq_true rfl⟩) ⟨pcW.blind, (wo_recv (WD.tx hT.2.2 (31 : Int).toNat (by omega)).1 hS), pre9⟩ rfl rfl hlv.1 rfl (lv_room (Nat.le_of_ble_eq_true rfl)) dX12_of_17 ⟨Nat.le_of_ble_eq_true rfl, Nat.le_of_ble_eq_true rfl⟩)) hP hD hS hA hG hT [] rfl (by decide +kernel) (fun r8 u8 H locs hw8 hq9 hS => ?_)
  obtain ⟨rfl, hq8_1, hq8_2⟩ := hw8
  obtain ⟨hP, hD⟩ := pd9 [] hq9
  have hev8 : (u8.2.1 0) = 105 := by first | (rw [hq8_2]; rfl) | omega
  refine lt_i (y := iI 105) (by rw [show (u8.2.1 0) = 105 by omega]) ?_
  refine lv_bipush (v := iI 96) hx hb dX12_of_20 (by decide) ?_
  refine lv_isub hx hb dX12_of_22 ?_
  refine lt_i (y := iI 9) (by decide) ?_
  refine lv_ior hx hb dX12_of_23 ?_
  refine lt_i (y := iI 149545) (by decide) ?_
  refine lv_istore_n (lv' := [(1, vI 149545), (2, vI 3), (0, .ref (sn sa 31))]) hx hb dX12_of_24 rfl hlv (by decide) rfl (fun ls hlv => ?_)
  refine lv_iinc (v := iI 4) (lv' := [(2, vI 4), (1, vI 149545), (0, .ref (sn sa 31))]) hx hb dX12_of_25 hlv (k := 1) rfl (by decide) (by decide) rfl (fun ls hlv => ?_)
  refine lv_goto (tgt := 4) hx hb dX12_of_28 (by decide) ?_
  refine lv_iload_n hx hb dX12_of_4 rfl (lv_at hlv 0 rfl) ?_
  refine lv_aload_n hx hb dX12_of_5 rfl (lv_at hlv 2 rfl) ?_
  refine cjr_i [] (fun pre9 => (va_runV (As := []) (rest := [vI 4]) ⟨hx, hb, hml, hown, hts⟩ (s_length l hl D cy sa 31 H.size (by show (0 : Int) ≤ 31 ∧ (31 : Int) ≤ 55; decide)) (cwV 0 hts gg_0 rfl rfl rfl (by decide +kernel) ⟨Nat.le_of_ble_eq_true rfl, Nat.le_of_ble_eq_true rfl⟩) ⟨pcW.blind, (wo_recv (WD.tx hT.2.2 (31 : Int).toNat (by omega)).1 hS), pre9⟩ rfl rfl hlv.1 rfl (lv_room (Nat.le_of_ble_eq_true rfl)) dX12_of_6 ⟨Nat.le_of_ble_eq_true rfl, Nat.le_of_ble_eq_true rfl⟩)) hP hD hS hA hG hT [] rfl (by decide +kernel) (fun r9 u9 H locs hw9 hq9 hS => ?_)
  obtain ⟨rfl, hq9_1, hq9_2⟩ := hw9
  obtain ⟨hP, hD⟩ := pd9 [] hq9
  have hev9 : (u9.2.1 0) = 5 := by first | (rw [hq9_2]; rfl) | omega
  refine lt_i (y := iI 5) (by rw [show (u9.2.1 0) = 5 by omega]) ?_
  refine ir_ge (tgt := 31) hx hb dX12_of_9 (by decide) (by show ((-2147483648) : Int) ≤ 4 ∧ (4 : Int) ≤ 2147483647; decide) (by show ((-2147483648) : Int) ≤ 5 ∧ (5 : Int) ≤ 2147483647; decide) (fun c_5 => by exfalso; omega) (fun c_5 => ?_)
  refine lv_iload_n hx hb dX12_of_12 rfl (lv_at hlv 1 rfl) ?_
  refine lv_iconst (v := iI 5) hx hb dX12_of_13 (by decide) ?_
  refine lv_ishl hx hb dX12_of_14 ?_
  refine lt_i (y := iI 4785440) (by decide) ?_
  refine lv_aload_n hx hb dX12_of_15 rfl (lv_at hlv 2 rfl) ?_
  refine lv_iload_n hx hb dX12_of_16 rfl (lv_at hlv 0 rfl) ?_
  refine cjr_i [] (fun pre9 => (va_runV (As := [vI 4]) (rest := [vI 4785440]) ⟨hx, hb, hml, hown, hts⟩ (s_charAt l hl D cy sa 31 4 H.size (by show (0 : Int) ≤ 31 ∧ (31 : Int) ≤ 55; decide) (by show (0 : Int) ≤ 4 ∧ (4 : Int) ≤ 6; decide) (by omega)) (cwV 1 hts gg_1 rfl rfl rfl (by decide +kernel) ⟨Nat.le_of_ble_eq_true rfl, Nat.le_of_ble_eq_true rfl⟩) ⟨pcW.blind, (wo_recv (WD.tx hT.2.2 (31 : Int).toNat (by omega)).1 hS), pre9⟩ rfl rfl hlv.1 rfl (lv_room (Nat.le_of_ble_eq_true rfl)) dX12_of_17 ⟨Nat.le_of_ble_eq_true rfl, Nat.le_of_ble_eq_true rfl⟩)) hP hD hS hA hG hT [] rfl (by decide +kernel) (fun r10 u10 H locs hw10 hq9 hS => ?_)
  obtain ⟨rfl, hq10_1, hq10_2⟩ := hw10
  obtain ⟨hP, hD⟩ := pd9 [] hq9
  have hev10 : (u10.2.1 0) = 110 := by first | (rw [hq10_2]; rfl) | omega
  refine lt_i (y := iI 110) (by rw [show (u10.2.1 0) = 110 by omega]) ?_
  refine lv_bipush (v := iI 96) hx hb dX12_of_20 (by decide) ?_
  refine lv_isub hx hb dX12_of_22 ?_
  refine lt_i (y := iI 14) (by decide) ?_
  refine lv_ior hx hb dX12_of_23 ?_
  refine lt_i (y := iI 4785454) (by decide) ?_
  refine lv_istore_n (lv' := [(1, vI 4785454), (2, vI 4), (0, .ref (sn sa 31))]) hx hb dX12_of_24 rfl hlv (by decide) rfl (fun ls hlv => ?_)
  refine lv_iinc (v := iI 5) (lv' := [(2, vI 5), (1, vI 4785454), (0, .ref (sn sa 31))]) hx hb dX12_of_25 hlv (k := 1) rfl (by decide) (by decide) rfl (fun ls hlv => ?_)
  refine lv_goto (tgt := 4) hx hb dX12_of_28 (by decide) ?_
  refine lv_iload_n hx hb dX12_of_4 rfl (lv_at hlv 0 rfl) ?_
  refine lv_aload_n hx hb dX12_of_5 rfl (lv_at hlv 2 rfl) ?_
  refine cjr_i [] (fun pre9 => (va_runV (As := []) (rest := [vI 5]) ⟨hx, hb, hml, hown, hts⟩ (s_length l hl D cy sa 31 H.size (by show (0 : Int) ≤ 31 ∧ (31 : Int) ≤ 55; decide)) (cwV 0 hts gg_0 rfl rfl rfl (by decide +kernel) ⟨Nat.le_of_ble_eq_true rfl, Nat.le_of_ble_eq_true rfl⟩) ⟨pcW.blind, (wo_recv (WD.tx hT.2.2 (31 : Int).toNat (by omega)).1 hS), pre9⟩ rfl rfl hlv.1 rfl (lv_room (Nat.le_of_ble_eq_true rfl)) dX12_of_6 ⟨Nat.le_of_ble_eq_true rfl, Nat.le_of_ble_eq_true rfl⟩)) hP hD hS hA hG hT [] rfl (by decide +kernel) (fun r11 u11 H locs hw11 hq9 hS => ?_)
  obtain ⟨rfl, hq11_1, hq11_2⟩ := hw11
  obtain ⟨hP, hD⟩ := pd9 [] hq9
  have hev11 : (u11.2.1 0) = 5 := by first | (rw [hq11_2]; rfl) | omega
  refine lt_i (y := iI 5) (by rw [show (u11.2.1 0) = 5 by omega]) ?_
  refine ir_ge (tgt := 31) hx hb dX12_of_9 (by decide) (by show ((-2147483648) : Int) ≤ 5 ∧ (5 : Int) ≤ 2147483647; decide) (by show ((-2147483648) : Int) ≤ 5 ∧ (5 : Int) ≤ 2147483647; decide) (fun c_6 => ?_) (fun c_6 => by exfalso; omega)
  refine lv_iload_n hx hb dX12_of_31 rfl (lv_at hlv 1 rfl) ?_
  refine W.widen (k := 0) (n := 0) (Nat.le_of_ble_eq_true rfl) (Nat.le_of_ble_eq_true rfl) ?_
  exact W.iret (v := iI 4785454) hx hb hr (fun t ht hW => ⟨⟨iI 4785454, ((fun k => ([] : List Nat).getD k 0), (fun k => ([4785454] : List Int).getD k 0), (fun k => ([] : List (Nat → Int32)).getD k (fun _ => 0))), rfl, ⟨rfl, (by show (4785454 ≤ 4785454 ∧ 4785454 ≤ 4785454); show (4785454 : Int) ≤ 4785454 ∧ (4785454 : Int) ≤ 4785454; decide)⟩, at9 ht hP hD [] (by decide +kernel) rfl⟩, hS.F ht⟩) hS.2.2 dX12_of_32
def vs_m_of4 : List Cond := .code yX12_of cX12_of 3 (some .int) :: (([] : List Cond) ++ ((wsV RX12 100 RJ0 yJ0_length_8abf5 vs_s_length) ++ ((wsV RX12 105 RJ0 yJ0_charAt_5068e vs_s_charAt) ++ ([]))))
theorem gd_m_of4 : vs_m_of4.all goodWord = true := gd_C (by decide +kernel) (gd_A (by decide +kernel) (gd_A (gd_V gd_s_length (by decide +kernel)) (gd_A (gd_V gd_s_charAt (by decide +kernel)) rfl)))
set_option maxHeartbeats 4000000 in
set_option maxRecDepth 100000 in
theorem m_of4 (l : Launch) (hl : l.stackTraces = false) (D : va_G) (cy : Nat → ClassId) (sa : Nat → Nat)  (sz : Nat) : mI9 l yX12_of vs_m_of4 ({ frames := 4, cells := 0, slots := 0, locals := 85 }) D cy sa sz [.ref (sn sa 32)] [] (fun (r : Int32) (u : SV) => r = iI (u.2.1 0) ∧ (542723566 ≤ u.2.1 0 ∧ u.2.1 0 ≤ 542723566)) (fun u : SV => []) 0 0 := by
  refine Met.ofW (cc := cX12_of) (maxL := 3) (ret := (some .int)) (by decide) rfl ?_
  intro p e s m args below meth c s₁ B hml hv
  obtain ⟨rfl, hsz, hP, hG, hD0, hT⟩ := hv
  have hx := B.exec
  have hb := B.bytes
  have hr := B.returns
  have hts := atoms_spec (ws := vs_m_of4) B.pre
  have hown : s.vm.findClass RX12 = some m.cls := findClass_of_methodNamed B.named
  have hlocks := B.notSynchronized
  subst hsz
  have hD := hD0.self (sz := s.heap.size)
  generalize hAe : va_A [] s.heap.size = A at hD hT ⊢
  have hA : ∀ q : Nat, s.heap.size ≤ q → A q := fun q h => by rw [← hAe]; exact Or.inr h
  have hS : va_S A s.heap s.heap [] := va_S.rf
  have hl0 := lv_entry ([.ref (sn sa 32)]) (n := 3) (Nat.le_of_ble_eq_true rfl)
  rw [lg_entry_eq]
  generalize (lg_sl ([.ref (sn sa 32)]) ++ List.replicate (3 - (lg_sl ([.ref (sn sa 32)])).length) Slot.unset).toArray = ls at hl0 ⊢
  have hlv : lv_has ls 3 [(0, .ref (sn sa 32))] := hl0
  have gg_0 : GoodIn vs_m_of4 (wsV RX12 100 RJ0 yJ0_length_8abf5 vs_s_length) := goodIn_sub (fun w h => List.mem_cons_of_mem _ (List.mem_append_right _ (List.mem_append_left _ h))) (gd_V gd_s_length (by decide +kernel))
  have gg_1 : GoodIn vs_m_of4 (wsV RX12 105 RJ0 yJ0_charAt_5068e vs_s_charAt) := goodIn_sub (fun w h => List.mem_cons_of_mem _ (List.mem_append_right _ (List.mem_append_right _ (List.mem_append_left _ h)))) (gd_V gd_s_charAt (by decide +kernel))
  refine lv_iconst (v := iI 0) hx hb dX12_of_0 (by decide) ?_
  refine lv_istore_n (lv' := [(1, vI 0), (0, .ref (sn sa 32))]) hx hb dX12_of_1 rfl hlv (by decide) rfl (fun ls hlv => ?_)
  refine lv_iconst (v := iI 0) hx hb dX12_of_2 (by decide) ?_
  refine lv_istore_n (lv' := [(2, vI 0), (1, vI 0), (0, .ref (sn sa 32))]) hx hb dX12_of_3 rfl hlv (by decide) rfl (fun ls hlv => ?_)
  refine lv_iload_n hx hb dX12_of_4 rfl (lv_at hlv 0 rfl) ?_
  refine lv_aload_n hx hb dX12_of_5 rfl (lv_at hlv 2 rfl) ?_
  refine cjr_i [] (fun pre9 => (va_runV (As := []) (rest := [vI 0]) ⟨hx, hb, hml, hown, hts⟩ (s_length l hl D cy sa 32 s.heap.size (by show (0 : Int) ≤ 32 ∧ (32 : Int) ≤ 55; decide)) (cwV 0 hts gg_0 rfl rfl rfl (by decide +kernel) ⟨Nat.le_of_ble_eq_true rfl, Nat.le_of_ble_eq_true rfl⟩) ⟨pcW.blind, (wo_recv (WD.tx hT.2.2 (32 : Int).toNat (by omega)).1 hS), pre9⟩ rfl rfl hlv.1 rfl (lv_room (Nat.le_of_ble_eq_true rfl)) dX12_of_6 ⟨Nat.le_of_ble_eq_true rfl, Nat.le_of_ble_eq_true rfl⟩)) hP hD hS hA hG hT [] rfl (by decide +kernel) (fun r1 u1 H locs hw1 hq9 hS => ?_)
  obtain ⟨rfl, hq1_1, hq1_2⟩ := hw1
  obtain ⟨hP, hD⟩ := pd9 [] hq9
  have hev1 : (u1.2.1 0) = 6 := by first | (rw [hq1_2]; rfl) | omega
  refine lt_i (y := iI 6) (by rw [show (u1.2.1 0) = 6 by omega]) ?_
  refine ir_ge (tgt := 31) hx hb dX12_of_9 (by decide) (by show ((-2147483648) : Int) ≤ 0 ∧ (0 : Int) ≤ 2147483647; decide) (by show ((-2147483648) : Int) ≤ 6 ∧ (6 : Int) ≤ 2147483647; decide) (fun c_1 => by exfalso; omega) (fun c_1 => ?_)
  refine lv_iload_n hx hb dX12_of_12 rfl (lv_at hlv 1 rfl) ?_
  refine lv_iconst (v := iI 5) hx hb dX12_of_13 (by decide) ?_
  refine lv_ishl hx hb dX12_of_14 ?_
  refine lt_i (y := iI 0) (by decide) ?_
  refine lv_aload_n hx hb dX12_of_15 rfl (lv_at hlv 2 rfl) ?_
  refine lv_iload_n hx hb dX12_of_16 rfl (lv_at hlv 0 rfl) ?_
  refine cjr_i [] (fun pre9 => (va_runV (As := [vI 0]) (rest := [vI 0]) ⟨hx, hb, hml, hown, hts⟩ (s_charAt l hl D cy sa 32 0 H.size (by show (0 : Int) ≤ 32 ∧ (32 : Int) ≤ 55; decide) (by show (0 : Int) ≤ 0 ∧ (0 : Int) ≤ 6; decide) (by omega)) (cwV 1 hts gg_1 rfl rfl rfl (by decide +kernel) ⟨Nat.le_of_ble_eq_true rfl, Nat.le_of_ble_eq_true rfl⟩) ⟨pcW.blind, (wo_recv (WD.tx hT.2.2 (32 : Int).toNat (by omega)).1 hS), pre9⟩ rfl rfl hlv.1 rfl (lv_room (Nat.le_of_ble_eq_true rfl)) dX12_of_17 ⟨Nat.le_of_ble_eq_true rfl, Nat.le_of_ble_eq_true rfl⟩)) hP hD hS hA hG hT [] rfl (by decide +kernel) (fun r2 u2 H locs hw2 hq9 hS => ?_)
  obtain ⟨rfl, hq2_1, hq2_2⟩ := hw2
  obtain ⟨hP, hD⟩ := pd9 [] hq9
  have hev2 : (u2.2.1 0) = 112 := by first | (rw [hq2_2]; rfl) | omega
  refine lt_i (y := iI 112) (by rw [show (u2.2.1 0) = 112 by omega]) ?_
  refine lv_bipush (v := iI 96) hx hb dX12_of_20 (by decide) ?_
  refine lv_isub hx hb dX12_of_22 ?_
  refine lt_i (y := iI 16) (by decide) ?_
  refine lv_ior hx hb dX12_of_23 ?_
  refine lt_i (y := iI 16) (by decide) ?_
  refine lv_istore_n (lv' := [(1, vI 16), (2, vI 0), (0, .ref (sn sa 32))]) hx hb dX12_of_24 rfl hlv (by decide) rfl (fun ls hlv => ?_)
  refine lv_iinc (v := iI 1) (lv' := [(2, vI 1), (1, vI 16), (0, .ref (sn sa 32))]) hx hb dX12_of_25 hlv (k := 1) rfl (by decide) (by decide) rfl (fun ls hlv => ?_)
  refine lv_goto (tgt := 4) hx hb dX12_of_28 (by decide) ?_
  refine lv_iload_n hx hb dX12_of_4 rfl (lv_at hlv 0 rfl) ?_
  refine lv_aload_n hx hb dX12_of_5 rfl (lv_at hlv 2 rfl) ?_
  refine cjr_i [] (fun pre9 => (va_runV (As := []) (rest := [vI 1]) ⟨hx, hb, hml, hown, hts⟩ (s_length l hl D cy sa 32 H.size (by show (0 : Int) ≤ 32 ∧ (32 : Int) ≤ 55; decide)) (cwV 0 hts gg_0 rfl rfl rfl (by decide +kernel) ⟨Nat.le_of_ble_eq_true rfl, Nat.le_of_ble_eq_true rfl⟩) ⟨pcW.blind, (wo_recv (WD.tx hT.2.2 (32 : Int).toNat (by omega)).1 hS), pre9⟩ rfl rfl hlv.1 rfl (lv_room (Nat.le_of_ble_eq_true rfl)) dX12_of_6 ⟨Nat.le_of_ble_eq_true rfl, Nat.le_of_ble_eq_true rfl⟩)) hP hD hS hA hG hT [] rfl (by decide +kernel) (fun r3 u3 H locs hw3 hq9 hS => ?_)
  obtain ⟨rfl, hq3_1, hq3_2⟩ := hw3
  obtain ⟨hP, hD⟩ := pd9 [] hq9
  have hev3 : (u3.2.1 0) = 6 := by first | (rw [hq3_2]; rfl) | omega
  refine lt_i (y := iI 6) (by rw [show (u3.2.1 0) = 6 by omega]) ?_
  refine ir_ge (tgt := 31) hx hb dX12_of_9 (by decide) (by show ((-2147483648) : Int) ≤ 1 ∧ (1 : Int) ≤ 2147483647; decide) (by show ((-2147483648) : Int) ≤ 6 ∧ (6 : Int) ≤ 2147483647; decide) (fun c_2 => by exfalso; omega) (fun c_2 => ?_)
  refine lv_iload_n hx hb dX12_of_12 rfl (lv_at hlv 1 rfl) ?_
  refine lv_iconst (v := iI 5) hx hb dX12_of_13 (by decide) ?_
  refine lv_ishl hx hb dX12_of_14 ?_
  refine lt_i (y := iI 512) (by decide) ?_
  refine lv_aload_n hx hb dX12_of_15 rfl (lv_at hlv 2 rfl) ?_
  refine lv_iload_n hx hb dX12_of_16 rfl (lv_at hlv 0 rfl) ?_
  refine cjr_i [] (fun pre9 => (va_runV (As := [vI 1]) (rest := [vI 512]) ⟨hx, hb, hml, hown, hts⟩ (s_charAt l hl D cy sa 32 1 H.size (by show (0 : Int) ≤ 32 ∧ (32 : Int) ≤ 55; decide) (by show (0 : Int) ≤ 1 ∧ (1 : Int) ≤ 6; decide) (by omega)) (cwV 1 hts gg_1 rfl rfl rfl (by decide +kernel) ⟨Nat.le_of_ble_eq_true rfl, Nat.le_of_ble_eq_true rfl⟩) ⟨pcW.blind, (wo_recv (WD.tx hT.2.2 (32 : Int).toNat (by omega)).1 hS), pre9⟩ rfl rfl hlv.1 rfl (lv_room (Nat.le_of_ble_eq_true rfl)) dX12_of_17 ⟨Nat.le_of_ble_eq_true rfl, Nat.le_of_ble_eq_true rfl⟩)) hP hD hS hA hG hT [] rfl (by decide +kernel) (fun r4 u4 H locs hw4 hq9 hS => ?_)
  obtain ⟨rfl, hq4_1, hq4_2⟩ := hw4
  obtain ⟨hP, hD⟩ := pd9 [] hq9
  have hev4 : (u4.2.1 0) = 101 := by first | (rw [hq4_2]; rfl) | omega
  refine lt_i (y := iI 101) (by rw [show (u4.2.1 0) = 101 by omega]) ?_
  refine lv_bipush (v := iI 96) hx hb dX12_of_20 (by decide) ?_
  refine lv_isub hx hb dX12_of_22 ?_
  refine lt_i (y := iI 5) (by decide) ?_
  refine lv_ior hx hb dX12_of_23 ?_
  refine lt_i (y := iI 517) (by decide) ?_
  refine lv_istore_n (lv' := [(1, vI 517), (2, vI 1), (0, .ref (sn sa 32))]) hx hb dX12_of_24 rfl hlv (by decide) rfl (fun ls hlv => ?_)
  refine lv_iinc (v := iI 2) (lv' := [(2, vI 2), (1, vI 517), (0, .ref (sn sa 32))]) hx hb dX12_of_25 hlv (k := 1) rfl (by decide) (by decide) rfl (fun ls hlv => ?_)
  refine lv_goto (tgt := 4) hx hb dX12_of_28 (by decide) ?_
  refine lv_iload_n hx hb dX12_of_4 rfl (lv_at hlv 0 rfl) ?_
  refine lv_aload_n hx hb dX12_of_5 rfl (lv_at hlv 2 rfl) ?_
  refine cjr_i [] (fun pre9 => (va_runV (As := []) (rest := [vI 2]) ⟨hx, hb, hml, hown, hts⟩ (s_length l hl D cy sa 32 H.size (by show (0 : Int) ≤ 32 ∧ (32 : Int) ≤ 55; decide)) (cwV 0 hts gg_0 rfl rfl rfl (by decide +kernel) ⟨Nat.le_of_ble_eq_true rfl, Nat.le_of_ble_eq_true rfl⟩) ⟨pcW.blind, (wo_recv (WD.tx hT.2.2 (32 : Int).toNat (by omega)).1 hS), pre9⟩ rfl rfl hlv.1 rfl (lv_room (Nat.le_of_ble_eq_true rfl)) dX12_of_6 ⟨Nat.le_of_ble_eq_true rfl, Nat.le_of_ble_eq_true rfl⟩)) hP hD hS hA hG hT [] rfl (by decide +kernel) (fun r5 u5 H locs hw5 hq9 hS => ?_)
  obtain ⟨rfl, hq5_1, hq5_2⟩ := hw5
  obtain ⟨hP, hD⟩ := pd9 [] hq9
  have hev5 : (u5.2.1 0) = 6 := by first | (rw [hq5_2]; rfl) | omega
  refine lt_i (y := iI 6) (by rw [show (u5.2.1 0) = 6 by omega]) ?_
  refine ir_ge (tgt := 31) hx hb dX12_of_9 (by decide) (by show ((-2147483648) : Int) ≤ 2 ∧ (2 : Int) ≤ 2147483647; decide) (by show ((-2147483648) : Int) ≤ 6 ∧ (6 : Int) ≤ 2147483647; decide) (fun c_3 => by exfalso; omega) (fun c_3 => ?_)
  refine lv_iload_n hx hb dX12_of_12 rfl (lv_at hlv 1 rfl) ?_
  refine lv_iconst (v := iI 5) hx hb dX12_of_13 (by decide) ?_
  refine lv_ishl hx hb dX12_of_14 ?_
  refine lt_i (y := iI 16544) (by decide) ?_
  refine lv_aload_n hx hb dX12_of_15 rfl (lv_at hlv 2 rfl) ?_
  refine lv_iload_n hx hb dX12_of_16 rfl (lv_at hlv 0 rfl) ?_
  refine cjr_i [] (fun pre9 => (va_runV (As := [vI 2]) (rest := [vI 16544]) ⟨hx, hb, hml, hown, hts⟩ (s_charAt l hl D cy sa 32 2 H.size (by show (0 : Int) ≤ 32 ∧ (32 : Int) ≤ 55; decide) (by show (0 : Int) ≤ 2 ∧ (2 : Int) ≤ 6; decide) (by omega)) (cwV 1 hts gg_1 rfl rfl rfl (by decide +kernel) ⟨Nat.le_of_ble_eq_true rfl, Nat.le_of_ble_eq_true rfl⟩) ⟨pcW.blind, (wo_recv (WD.tx hT.2.2 (32 : Int).toNat (by omega)).1 hS), pre9⟩ rfl rfl hlv.1 rfl (lv_room (Nat.le_of_ble_eq_true rfl)) dX12_of_17 ⟨Nat.le_of_ble_eq_true rfl, Nat.le_of_ble_eq_true rfl⟩)) hP hD hS hA hG hT [] rfl (by decide +kernel) (fun r6 u6 H locs hw6 hq9 hS => ?_)
  obtain ⟨rfl, hq6_1, hq6_2⟩ := hw6
  obtain ⟨hP, hD⟩ := pd9 [] hq9
  have hev6 : (u6.2.1 0) = 114 := by first | (rw [hq6_2]; rfl) | omega
  refine lt_i (y := iI 114) (by rw [show (u6.2.1 0) = 114 by omega]) ?_
  refine lv_bipush (v := iI 96) hx hb dX12_of_20 (by decide) ?_
  refine lv_isub hx hb dX12_of_22 ?_
  refine lt_i (y := iI 18) (by decide) ?_
  refine lv_ior hx hb dX12_of_23 ?_
  refine lt_i (y := iI 16562) (by decide) ?_
  refine lv_istore_n (lv' := [(1, vI 16562), (2, vI 2), (0, .ref (sn sa 32))]) hx hb dX12_of_24 rfl hlv (by decide) rfl (fun ls hlv => ?_)
  refine lv_iinc (v := iI 3) (lv' := [(2, vI 3), (1, vI 16562), (0, .ref (sn sa 32))]) hx hb dX12_of_25 hlv (k := 1) rfl (by decide) (by decide) rfl (fun ls hlv => ?_)
  refine lv_goto (tgt := 4) hx hb dX12_of_28 (by decide) ?_
  refine lv_iload_n hx hb dX12_of_4 rfl (lv_at hlv 0 rfl) ?_
  refine lv_aload_n hx hb dX12_of_5 rfl (lv_at hlv 2 rfl) ?_
  refine cjr_i [] (fun pre9 => (va_runV (As := []) (rest := [vI 3]) ⟨hx, hb, hml, hown, hts⟩ (s_length l hl D cy sa 32 H.size (by show (0 : Int) ≤ 32 ∧ (32 : Int) ≤ 55; decide)) (cwV 0 hts gg_0 rfl rfl rfl (by decide +kernel) ⟨Nat.le_of_ble_eq_true rfl, Nat.le_of_ble_eq_true rfl⟩) ⟨pcW.blind, (wo_recv (WD.tx hT.2.2 (32 : Int).toNat (by omega)).1 hS), pre9⟩ rfl rfl hlv.1 rfl (lv_room (Nat.le_of_ble_eq_true rfl)) dX12_of_6 ⟨Nat.le_of_ble_eq_true rfl, Nat.le_of_ble_eq_true rfl⟩)) hP hD hS hA hG hT [] rfl (by decide +kernel) (fun r7 u7 H locs hw7 hq9 hS => ?_)
  obtain ⟨rfl, hq7_1, hq7_2⟩ := hw7
  obtain ⟨hP, hD⟩ := pd9 [] hq9
  have hev7 : (u7.2.1 0) = 6 := by first | (rw [hq7_2]; rfl) | omega
  refine lt_i (y := iI 6) (by rw [show (u7.2.1 0) = 6 by omega]) ?_
  refine ir_ge (tgt := 31) hx hb dX12_of_9 (by decide) (by show ((-2147483648) : Int) ≤ 3 ∧ (3 : Int) ≤ 2147483647; decide) (by show ((-2147483648) : Int) ≤ 6 ∧ (6 : Int) ≤ 2147483647; decide) (fun c_4 => by exfalso; omega) (fun c_4 => ?_)
  refine lv_iload_n hx hb dX12_of_12 rfl (lv_at hlv 1 rfl) ?_
  refine lv_iconst (v := iI 5) hx hb dX12_of_13 (by decide) ?_
  refine lv_ishl hx hb dX12_of_14 ?_
  refine lt_i (y := iI 529984) (by decide) ?_
  refine lv_aload_n hx hb dX12_of_15 rfl (lv_at hlv 2 rfl) ?_
  refine lv_iload_n hx hb dX12_of_16 rfl (lv_at hlv 0 rfl) ?_
  refine cjr_i [] (fun pre9 => (va_runV (As := [vI 3]) (rest := [vI 529984]) ⟨hx, hb, hml, hown, hts⟩ (s_charAt l hl D cy sa 32 3 H.size (by show (0 : Int) ≤ 32 ∧ (32 : Int) ≤ 55; decide) (by show (0 : Int) ≤ 3 ∧ (3 : Int) ≤ 6; decide) (by omega)) (cwV 1 hts gg_1 rfl rfl rfl (by decide +kernel) ⟨Nat.le_of_ble_eq_true rfl, Nat.le_of_ble_eq_true rfl⟩) ⟨pcW.blind, (wo_recv (WD.tx hT.2.2 (32 : Int).toNat (by omega)).1 hS), pre9⟩ rfl rfl hlv.1 rfl (lv_room (Nat.le_of_ble_eq_true rfl)) dX12_of_17 ⟨Nat.le_of_ble_eq_true rfl, Nat.le_of_ble_eq_true rfl⟩)) hP hD hS hA hG hT [] rfl (by decide +kernel) (fun r8 u8 H locs hw8 hq9 hS => ?_)
  obtain ⟨rfl, hq8_1, hq8_2⟩ := hw8
  obtain ⟨hP, hD⟩ := pd9 [] hq9
  have hev8 : (u8.2.1 0) = 115 := by first | (rw [hq8_2]; rfl) | omega
  refine lt_i (y := iI 115) (by rw [show (u8.2.1 0) = 115 by omega]) ?_
  refine lv_bipush (v := iI 96) hx hb dX12_of_20 (by decide) ?_
  refine lv_isub hx hb dX12_of_22 ?_
  refine lt_i (y := iI 19) (by decide) ?_
  refine lv_ior hx hb dX12_of_23 ?_
  refine lt_i (y := iI 530003) (by decide) ?_
  refine lv_istore_n (lv' := [(1, vI 530003), (2, vI 3), (0, .ref (sn sa 32))]) hx hb dX12_of_24 rfl hlv (by decide) rfl (fun ls hlv => ?_)
  refine lv_iinc (v := iI 4) (lv' := [(2, vI 4), (1, vI 530003), (0, .ref (sn sa 32))]) hx hb dX12_of_25 hlv (k := 1) rfl (by decide) (by decide) rfl (fun ls hlv => ?_)
  refine lv_goto (tgt := 4) hx hb dX12_of_28 (by decide) ?_
  refine lv_iload_n hx hb dX12_of_4 rfl (lv_at hlv 0 rfl) ?_
  refine lv_aload_n hx hb dX12_of_5 rfl (lv_at hlv 2 rfl) ?_
  refine cjr_i [] (fun pre9 => (va_runV (As := []) (rest := [vI 4]) ⟨hx, hb, hml, hown, hts⟩ (s_length l hl D cy sa 32 H.size (by show (0 : Int) ≤ 32 ∧ (32 : Int) ≤ 55; decide)) (cwV 0 hts gg_0 rfl rfl rfl (by decide +kernel) ⟨Nat.le_of_ble_eq_true rfl, Nat.le_of_ble_eq_true rfl⟩) ⟨pcW.blind, (wo_recv (WD.tx hT.2.2 (32 : Int).toNat (by omega)).1 hS), pre9⟩ rfl rfl hlv.1 rfl (lv_room (Nat.le_of_ble_eq_true rfl)) dX12_of_6 ⟨Nat.le_of_ble_eq_true rfl, Nat.le_of_ble_eq_true rfl⟩)) hP hD hS hA hG hT [] rfl (by decide +kernel) (fun r9 u9 H locs hw9 hq9 hS => ?_)
  obtain ⟨rfl, hq9_1, hq9_2⟩ := hw9
  obtain ⟨hP, hD⟩ := pd9 [] hq9
  have hev9 : (u9.2.1 0) = 6 := by first | (rw [hq9_2]; rfl) | omega
  refine lt_i (y := iI 6) (by rw [show (u9.2.1 0) = 6 by omega]) ?_
  refine ir_ge (tgt := 31) hx hb dX12_of_9 (by decide) (by show ((-2147483648) : Int) ≤ 4 ∧ (4 : Int) ≤ 2147483647; decide) (by show ((-2147483648) : Int) ≤ 6 ∧ (6 : Int) ≤ 2147483647; decide) (fun c_5 => by exfalso; omega) (fun c_5 => ?_)
  refine lv_iload_n hx hb dX12_of_12 rfl (lv_at hlv 1 rfl) ?_
  refine lv_iconst (v := iI 5) hx hb dX12_of_13 (by decide) ?_
  refine lv_ishl hx hb dX12_of_14 ?_
  refine lt_i (y := iI 16960096) (by decide) ?_
  refine lv_aload_n hx hb dX12_of_15 rfl (lv_at hlv 2 rfl) ?_
  refine lv_iload_n hx hb dX12_of_16 rfl (lv_at hlv 0 rfl) ?_
  refine cjr_i [] (fun pre9 => (va_runV (As := [vI 4]) (rest := [vI 16960096]) ⟨hx, hb, hml, hown, hts⟩ (s_charAt l hl D cy sa 32 4 H.size (by show (0 : Int) ≤ 32 ∧ (32 : Int) ≤ 55; decide) (by show (0 : Int) ≤ 4 ∧ (4 : Int) ≤ 6; decide) (by omega)) (cwV 1 hts gg_1 rfl rfl rfl (by decide +kernel) ⟨Nat.le_of_ble_eq_true rfl, Nat.le_of_ble_eq_true rfl⟩) ⟨pcW.blind, (wo_recv (WD.tx hT.2.2 (32 : Int).toNat (by omega)).1 hS), pre9⟩ rfl rfl hlv.1 rfl (lv_room (Nat.le_of_ble_eq_true rfl)) dX12_of_17 ⟨Nat.le_of_ble_eq_true rfl, Nat.le_of_ble_eq_true rfl⟩)) hP hD hS hA hG hT [] rfl (by decide +kernel) (fun r10 u10 H locs hw10 hq9 hS => ?_)
  obtain ⟨rfl, hq10_1, hq10_2⟩ := hw10
  obtain ⟨hP, hD⟩ := pd9 [] hq9
  have hev10 : (u10.2.1 0) = 111 := by first | (rw [hq10_2]; rfl) | omega
  refine lt_i (y := iI 111) (by rw [show (u10.2.1 0) = 111 by omega]) ?_
  refine lv_bipush (v := iI 96) hx hb dX12_of_20 (by decide) ?_
  refine lv_isub hx hb dX12_of_22 ?_
  refine lt_i (y := iI 15) (by decide) ?_
  refine lv_ior hx hb dX12_of_23 ?_
  refine lt_i (y := iI 16960111) (by decide) ?_
  refine lv_istore_n (lv' := [(1, vI 16960111), (2, vI 4), (0, .ref (sn sa 32))]) hx hb dX12_of_24 rfl hlv (by decide) rfl (fun ls hlv => ?_)
  refine lv_iinc (v := iI 5) (lv' := [(2, vI 5), (1, vI 16960111), (0, .ref (sn sa 32))]) hx hb dX12_of_25 hlv (k := 1) rfl (by decide) (by decide) rfl (fun ls hlv => ?_)
  refine lv_goto (tgt := 4) hx hb dX12_of_28 (by decide) ?_
  refine lv_iload_n hx hb dX12_of_4 rfl (lv_at hlv 0 rfl) ?_
  refine lv_aload_n hx hb dX12_of_5 rfl (lv_at hlv 2 rfl) ?_
  refine cjr_i [] (fun pre9 => (va_runV (As := []) (rest := [vI 5]) ⟨hx, hb, hml, hown, hts⟩ (s_length l hl D cy sa 32 H.size (by show (0 : Int) ≤ 32 ∧ (32 : Int) ≤ 55; decide)) (cwV 0 hts gg_0 rfl rfl rfl (by decide +kernel) ⟨Nat.le_of_ble_eq_true rfl, Nat.le_of_ble_eq_true rfl⟩) ⟨pcW.blind, (wo_recv (WD.tx hT.2.2 (32 : Int).toNat (by omega)).1 hS), pre9⟩ rfl rfl hlv.1 rfl (lv_room (Nat.le_of_ble_eq_true rfl)) dX12_of_6 ⟨Nat.le_of_ble_eq_true rfl, Nat.le_of_ble_eq_true rfl⟩)) hP hD hS hA hG hT [] rfl (by decide +kernel) (fun r11 u11 H locs hw11 hq9 hS => ?_)
  obtain ⟨rfl, hq11_1, hq11_2⟩ := hw11
  obtain ⟨hP, hD⟩ := pd9 [] hq9
  have hev11 : (u11.2.1 0) = 6 := by first | (rw [hq11_2]; rfl) | omega
  refine lt_i (y := iI 6) (by rw [show (u11.2.1 0) = 6 by omega]) ?_
  refine ir_ge (tgt := 31) hx hb dX12_of_9 (by decide) (by show ((-2147483648) : Int) ≤ 5 ∧ (5 : Int) ≤ 2147483647; decide) (by show ((-2147483648) : Int) ≤ 6 ∧ (6 : Int) ≤ 2147483647; decide) (fun c_6 => by exfalso; omega) (fun c_6 => ?_)
  refine lv_iload_n hx hb dX12_of_12 rfl (lv_at hlv 1 rfl) ?_
  refine lv_iconst (v := iI 5) hx hb dX12_of_13 (by decide) ?_
  refine lv_ishl hx hb dX12_of_14 ?_
  refine lt_i (y := iI 542723552) (by decide) ?_
  refine lv_aload_n hx hb dX12_of_15 rfl (lv_at hlv 2 rfl) ?_
  refine lv_iload_n hx hb dX12_of_16 rfl (lv_at hlv 0 rfl) ?_
  refine cjr_i [] (fun pre9 => (va_runV (As := [vI 5]) (rest := [vI 542723552]) ⟨hx, hb, hml, hown, hts⟩ (s_charAt l hl D cy sa 32 5 H.size (by show (0 : Int) ≤ 32 ∧ (32 : Int) ≤ 55; decide) (by show (0 : Int) ≤ 5 ∧ (5 : Int) ≤ 6; decide) (by omega)) (cwV 1 hts gg_1 rfl rfl rfl (by decide +kernel) ⟨Nat.le_of_ble_eq_true rfl, Nat.le_of_ble_eq_true rfl⟩) ⟨pcW.blind, (wo_recv (WD.tx hT.2.2 (32 : Int).toNat (by omega)).1 hS), pre9⟩ rfl rfl hlv.1 rfl (lv_room (Nat.le_of_ble_eq_true rfl)) dX12_of_17 ⟨Nat.le_of_ble_eq_true rfl, Nat.le_of_ble_eq_true rfl⟩)) hP hD hS hA hG hT [] rfl (by decide +kernel) (fun r12 u12 H locs hw12 hq9 hS => ?_)
  obtain ⟨rfl, hq12_1, hq12_2⟩ := hw12
  obtain ⟨hP, hD⟩ := pd9 [] hq9
  have hev12 : (u12.2.1 0) = 110 := by first | (rw [hq12_2]; rfl) | omega
  refine lt_i (y := iI 110) (by rw [show (u12.2.1 0) = 110 by omega]) ?_
  refine lv_bipush (v := iI 96) hx hb dX12_of_20 (by decide) ?_
  refine lv_isub hx hb dX12_of_22 ?_
  refine lt_i (y := iI 14) (by decide) ?_
  refine lv_ior hx hb dX12_of_23 ?_
  refine lt_i (y := iI 542723566) (by decide) ?_
  refine lv_istore_n (lv' := [(1, vI 542723566), (2, vI 5), (0, .ref (sn sa 32))]) hx hb dX12_of_24 rfl hlv (by decide) rfl (fun ls hlv => ?_)
  refine lv_iinc (v := iI 6) (lv' := [(2, vI 6), (1, vI 542723566), (0, .ref (sn sa 32))]) hx hb dX12_of_25 hlv (k := 1) rfl (by decide) (by decide) rfl (fun ls hlv => ?_)
  refine lv_goto (tgt := 4) hx hb dX12_of_28 (by decide) ?_
  refine lv_iload_n hx hb dX12_of_4 rfl (lv_at hlv 0 rfl) ?_
  refine lv_aload_n hx hb dX12_of_5 rfl (lv_at hlv 2 rfl) ?_
  refine cjr_i [] (fun pre9 => (va_runV (As := []) (rest := [vI 6]) ⟨hx, hb, hml, hown, hts⟩ (s_length l hl D cy sa 32 H.size (by show (0 : Int) ≤ 32 ∧ (32 : Int) ≤ 55; decide)) (cwV 0 hts gg_0 rfl rfl rfl (by decide +kernel) ⟨Nat.le_of_ble_eq_true rfl, Nat.le_of_ble_eq_true rfl⟩) ⟨pcW.blind, (wo_recv (WD.tx hT.2.2 (32 : Int).toNat (by omega)).1 hS), pre9⟩ rfl rfl hlv.1 rfl (lv_room (Nat.le_of_ble_eq_true rfl)) dX12_of_6 ⟨Nat.le_of_ble_eq_true rfl, Nat.le_of_ble_eq_true rfl⟩)) hP hD hS hA hG hT [] rfl (by decide +kernel) (fun r13 u13 H locs hw13 hq9 hS => ?_)
  obtain ⟨rfl, hq13_1, hq13_2⟩ := hw13
  obtain ⟨hP, hD⟩ := pd9 [] hq9
  have hev13 : (u13.2.1 0) = 6 := by first | (rw [hq13_2]; rfl) | omega
  refine lt_i (y := iI 6) (by rw [show (u13.2.1 0) = 6 by omega]) ?_
  refine ir_ge (tgt := 31) hx hb dX12_of_9 (by decide) (by show ((-2147483648) : Int) ≤ 6 ∧ (6 : Int) ≤ 2147483647; decide) (by show ((-2147483648) : Int) ≤ 6 ∧ (6 : Int) ≤ 2147483647; decide) (fun c_7 => ?_) (fun c_7 => by exfalso; omega)
  refine lv_iload_n hx hb dX12_of_31 rfl (lv_at hlv 1 rfl) ?_
  refine W.widen (k := 0) (n := 0) (Nat.le_of_ble_eq_true rfl) (Nat.le_of_ble_eq_true rfl) ?_
  exact W.iret (v := iI 542723566) hx hb hr (fun t ht hW => ⟨⟨iI 542723566, ((fun k => ([] : List Nat).getD k 0), (fun k => ([542723566] : List Int).getD k 0), (fun k => ([] : List (Nat → Int32)).getD k (fun _ => 0))), rfl, ⟨rfl, (by show (542723566 ≤ 542723566 ∧ 542723566 ≤ 542723566); show (542723566 : Int) ≤ 542723566 ∧ (542723566 : Int) ≤ 542723566; decide)⟩, at9 ht hP hD [] (by decide +kernel) rfl⟩, hS.F ht⟩) hS.2.2 dX12_of_32
def vs_m_of6 : List Cond := .code yX12_of cX12_of 3 (some .int) :: (([] : List Cond) ++ ((wsV RX12 100 RJ0 yJ0_length_8abf5 vs_s_length) ++ ((wsV RX12 105 RJ0 yJ0_charAt_5068e vs_s_charAt) ++ ([]))))
theorem gd_m_of6 : vs_m_of6.all goodWord = true := gd_C (by decide +kernel) (gd_A (by decide +kernel) (gd_A (gd_V gd_s_length (by decide +kernel)) (gd_A (gd_V gd_s_charAt (by decide +kernel)) rfl)))
set_option maxHeartbeats 4000000 in
set_option maxRecDepth 100000 in
theorem m_of6 (l : Launch) (hl : l.stackTraces = false) (D : va_G) (cy : Nat → ClassId) (sa : Nat → Nat)  (sz : Nat) : mI9 l yX12_of vs_m_of6 ({ frames := 4, cells := 0, slots := 0, locals := 85 }) D cy sa sz [.ref (sn sa 34)] [] (fun (r : Int32) (u : SV) => r = iI (u.2.1 0) ∧ (3544114 ≤ u.2.1 0 ∧ u.2.1 0 ≤ 3544114)) (fun u : SV => []) 0 0 := by
  refine Met.ofW (cc := cX12_of) (maxL := 3) (ret := (some .int)) (by decide) rfl ?_
  intro p e s m args below meth c s₁ B hml hv
  obtain ⟨rfl, hsz, hP, hG, hD0, hT⟩ := hv
  have hx := B.exec
  have hb := B.bytes
  have hr := B.returns
  have hts := atoms_spec (ws := vs_m_of6) B.pre
  have hown : s.vm.findClass RX12 = some m.cls := findClass_of_methodNamed B.named
  have hlocks := B.notSynchronized
  subst hsz
  have hD := hD0.self (sz := s.heap.size)
  generalize hAe : va_A [] s.heap.size = A at hD hT ⊢
  have hA : ∀ q : Nat, s.heap.size ≤ q → A q := fun q h => by rw [← hAe]; exact Or.inr h
  have hS : va_S A s.heap s.heap [] := va_S.rf
  have hl0 := lv_entry ([.ref (sn sa 34)]) (n := 3) (Nat.le_of_ble_eq_true rfl)
  rw [lg_entry_eq]
  generalize (lg_sl ([.ref (sn sa 34)]) ++ List.replicate (3 - (lg_sl ([.ref (sn sa 34)])).length) Slot.unset).toArray = ls at hl0 ⊢
  have hlv : lv_has ls 3 [(0, .ref (sn sa 34))] := hl0
  have gg_0 : GoodIn vs_m_of6 (wsV RX12 100 RJ0 yJ0_length_8abf5 vs_s_length) := goodIn_sub (fun w h => List.mem_cons_of_mem _ (List.mem_append_right _ (List.mem_append_left _ h))) (gd_V gd_s_length (by decide +kernel))
  have gg_1 : GoodIn vs_m_of6 (wsV RX12 105 RJ0 yJ0_charAt_5068e vs_s_charAt) := goodIn_sub (fun w h => List.mem_cons_of_mem _ (List.mem_append_right _ (List.mem_append_right _ (List.mem_append_left _ h)))) (gd_V gd_s_charAt (by decide +kernel))
  refine lv_iconst (v := iI 0) hx hb dX12_of_0 (by decide) ?_
  refine lv_istore_n (lv' := [(1, vI 0), (0, .ref (sn sa 34))]) hx hb dX12_of_1 rfl hlv (by decide) rfl (fun ls hlv => ?_)
  refine lv_iconst (v := iI 0) hx hb dX12_of_2 (by decide) ?_
  refine lv_istore_n (lv' := [(2, vI 0), (1, vI 0), (0, .ref (sn sa 34))]) hx hb dX12_of_3 rfl hlv (by decide) rfl (fun ls hlv => ?_)
  refine lv_iload_n hx hb dX12_of_4 rfl (lv_at hlv 0 rfl) ?_
  refine lv_aload_n hx hb dX12_of_5 rfl (lv_at hlv 2 rfl) ?_
  refine cjr_i [] (fun pre9 => (va_runV (As := []) (rest := [vI 0]) ⟨hx, hb, hml, hown, hts⟩ (s_length l hl D cy sa 34 s.heap.size (by show (0 : Int) ≤ 34 ∧ (34 : Int) ≤ 55; decide)) (cwV 0 hts gg_0 rfl rfl rfl (by decide +kernel) ⟨Nat.le_of_ble_eq_true rfl, Nat.le_of_ble_eq_true rfl⟩) ⟨pcW.blind, (wo_recv (WD.tx hT.2.2 (34 : Int).toNat (by omega)).1 hS), pre9⟩ rfl rfl hlv.1 rfl (lv_room (Nat.le_of_ble_eq_true rfl)) dX12_of_6 ⟨Nat.le_of_ble_eq_true rfl, Nat.le_of_ble_eq_true rfl⟩)) hP hD hS hA hG hT [] rfl (by decide +kernel) (fun r1 u1 H locs hw1 hq9 hS => ?_)
  obtain ⟨rfl, hq1_1, hq1_2⟩ := hw1
  obtain ⟨hP, hD⟩ := pd9 [] hq9
  have hev1 : (u1.2.1 0) = 5 := by first | (rw [hq1_2]; rfl) | omega
  refine lt_i (y := iI 5) (by rw [show (u1.2.1 0) = 5 by omega]) ?_
  refine ir_ge (tgt := 31) hx hb dX12_of_9 (by decide) (by show ((-2147483648) : Int) ≤ 0 ∧ (0 : Int) ≤ 2147483647; decide) (by show ((-2147483648) : Int) ≤ 5 ∧ (5 : Int) ≤ 2147483647; decide) (fun c_1 => by exfalso; omega) (fun c_1 => ?_)
  refine lv_iload_n hx hb dX12_of_12 rfl (lv_at hlv 1 rfl) ?_
  refine lv_iconst (v := iI 5) hx hb dX12_of_13 (by decide) ?_
  refine lv_ishl hx hb dX12_of_14 ?_
  refine lt_i (y := iI 0) (by decide) ?_
  refine lv_aload_n hx hb dX12_of_15 rfl (lv_at hlv 2 rfl) ?_
  refine lv_iload_n hx hb dX12_of_16 rfl (lv_at hlv 0 rfl) ?_
  refine cjr_i [] (fun pre9 => (va_runV (As := [vI 0]) (rest := [vI 0]) ⟨hx, hb, hml, hown, hts⟩ (s_charAt l hl D cy sa 34 0 H.size (by show (0 : Int) ≤ 34 ∧ (34 : Int) ≤ 55; decide) (by show (0 : Int) ≤ 0 ∧ (0 : Int) ≤ 6; decide) (by omega)) (cwV 1 hts gg_1 rfl rfl rfl (by decide +kernel) ⟨Nat.le_of_ble_eq_true rfl, Nat.le_of_ble_eq_true rfl⟩) ⟨pcW.blind, (wo_recv (WD.tx hT.2.2 (34 : Int).toNat (by omega)).1 hS), pre9⟩ rfl rfl hlv.1 rfl (lv_room (Nat.le_of_ble_eq_true rfl)) dX12_of_17 ⟨Nat.le_of_ble_eq_true rfl, Nat.le_of_ble_eq_true rfl⟩)) hP hD hS hA hG hT [] rfl (by decide +kernel) (fun r2 u2 H locs hw2 hq9 hS => ?_)
  obtain ⟨rfl, hq2_1, hq2_2⟩ := hw2
  obtain ⟨hP, hD⟩ := pd9 [] hq9
  have hev2 : (u2.2.1 0) = 99 := by first | (rw [hq2_2]; rfl) | omega
  refine lt_i (y := iI 99) (by rw [show (u2.2.1 0) = 99 by omega]) ?_
  refine lv_bipush (v := iI 96) hx hb dX12_of_20 (by decide) ?_
  refine lv_isub hx hb dX12_of_22 ?_
  refine lt_i (y := iI 3) (by decide) ?_
  refine lv_ior hx hb dX12_of_23 ?_
  refine lt_i (y := iI 3) (by decide) ?_
  refine lv_istore_n (lv' := [(1, vI 3), (2, vI 0), (0, .ref (sn sa 34))]) hx hb dX12_of_24 rfl hlv (by decide) rfl (fun ls hlv => ?_)
  refine lv_iinc (v := iI 1) (lv' := [(2, vI 1), (1, vI 3), (0, .ref (sn sa 34))]) hx hb dX12_of_25 hlv (k := 1) rfl (by decide) (by decide) rfl (fun ls hlv => ?_)
  refine lv_goto (tgt := 4) hx hb dX12_of_28 (by decide) ?_
  refine lv_iload_n hx hb dX12_of_4 rfl (lv_at hlv 0 rfl) ?_
  refine lv_aload_n hx hb dX12_of_5 rfl (lv_at hlv 2 rfl) ?_
  refine cjr_i [] (fun pre9 => (va_runV (As := []) (rest := [vI 1]) ⟨hx, hb, hml, hown, hts⟩ (s_length l hl D cy sa 34 H.size (by show (0 : Int) ≤ 34 ∧ (34 : Int) ≤ 55; decide)) (cwV 0 hts gg_0 rfl rfl rfl (by decide +kernel) ⟨Nat.le_of_ble_eq_true rfl, Nat.le_of_ble_eq_true rfl⟩) ⟨pcW.blind, (wo_recv (WD.tx hT.2.2 (34 : Int).toNat (by omega)).1 hS), pre9⟩ rfl rfl hlv.1 rfl (lv_room (Nat.le_of_ble_eq_true rfl)) dX12_of_6 ⟨Nat.le_of_ble_eq_true rfl, Nat.le_of_ble_eq_true rfl⟩)) hP hD hS hA hG hT [] rfl (by decide +kernel) (fun r3 u3 H locs hw3 hq9 hS => ?_)
  obtain ⟨rfl, hq3_1, hq3_2⟩ := hw3
  obtain ⟨hP, hD⟩ := pd9 [] hq9
  have hev3 : (u3.2.1 0) = 5 := by first | (rw [hq3_2]; rfl) | omega
  refine lt_i (y := iI 5) (by rw [show (u3.2.1 0) = 5 by omega]) ?_
  refine ir_ge (tgt := 31) hx hb dX12_of_9 (by decide) (by show ((-2147483648) : Int) ≤ 1 ∧ (1 : Int) ≤ 2147483647; decide) (by show ((-2147483648) : Int) ≤ 5 ∧ (5 : Int) ≤ 2147483647; decide) (fun c_2 => by exfalso; omega) (fun c_2 => ?_)
  refine lv_iload_n hx hb dX12_of_12 rfl (lv_at hlv 1 rfl) ?_
  refine lv_iconst (v := iI 5) hx hb dX12_of_13 (by decide) ?_
  refine lv_ishl hx hb dX12_of_14 ?_
  refine lt_i (y := iI 96) (by decide) ?_
  refine lv_aload_n hx hb dX12_of_15 rfl (lv_at hlv 2 rfl) ?_
  refine lv_iload_n hx hb dX12_of_16 rfl (lv_at hlv 0 rfl) ?_
  refine cjr_i [] (fun pre9 => (va_runV (As := [vI 1]) (rest := [vI 96]) ⟨hx, hb, hml, hown, hts⟩ (s_charAt l hl D cy sa 34 1 H.size (by show (0 : Int) ≤ 34 ∧ (34 : Int) ≤ 55; decide) (by show (0 : Int) ≤ 1 ∧ (1 : Int) ≤ 6; decide) (by omega)) (cwV 1 hts gg_1 rfl rfl rfl (by decide +kernel) ⟨Nat.le_of_ble_eq_true rfl, Nat.le_of_ble_eq_true rfl⟩) ⟨pcW.blind, (wo_recv (WD.tx hT.2.2 (34 : Int).toNat (by omega)).1 hS), pre9⟩ rfl rfl hlv.1 rfl (lv_room (Nat.le_of_ble_eq_true rfl)) dX12_of_17 ⟨Nat.le_of_ble_eq_true rfl, Nat.le_of_ble_eq_true rfl⟩)) hP hD hS hA hG hT [] rfl (by decide +kernel) (fun r4 u4 H locs hw4 hq9 hS => ?_)
  obtain ⟨rfl, hq4_1, hq4_2⟩ := hw4
  obtain ⟨hP, hD⟩ := pd9 [] hq9
  have hev4 : (u4.2.1 0) = 108 := by first | (rw [hq4_2]; rfl) | omega
  refine lt_i (y := iI 108) (by rw [show (u4.2.1 0) = 108 by omega]) ?_
  refine lv_bipush (v := iI 96) hx hb dX12_of_20 (by decide) ?_
  refine lv_isub hx hb dX12_of_22 ?_
  refine lt_i (y := iI 12) (by decide) ?_
  refine lv_ior hx hb dX12_of_23 ?_
  refine lt_i (y := iI 108) (by decide) ?_
  refine lv_istore_n (lv' := [(1, vI 108), (2, vI 1), (0, .ref (sn sa 34))]) hx hb dX12_of_24 rfl hlv (by decide) rfl (fun ls hlv => ?_)
  refine lv_iinc (v := iI 2) (lv' := [(2, vI 2), (1, vI 108), (0, .ref (sn sa 34))]) hx hb dX12_of_25 hlv (k := 1) rfl (by decide) (by decide) rfl (fun ls hlv => ?_)
  refine lv_goto (tgt := 4) hx hb dX12_of_28 (by decide) ?_
  refine lv_iload_n hx hb dX12_of_4 rfl (lv_at hlv 0 rfl) ?_
  refine lv_aload_n hx hb dX12_of_5 rfl (lv_at hlv 2 rfl) ?_
  refine cjr_i [] (fun pre9 => (va_runV (As := []) (rest := [vI 2]) ⟨hx, hb, hml, hown, hts⟩ (s_length l hl D cy sa 34 H.size (by show (0 : Int) ≤ 34 ∧ (34 : Int) ≤ 55; decide)) (cwV 0 hts gg_0 rfl rfl rfl (by decide +kernel) ⟨Nat.le_of_ble_eq_true rfl, Nat.le_of_ble_eq_true rfl⟩) ⟨pcW.blind, (wo_recv (WD.tx hT.2.2 (34 : Int).toNat (by omega)).1 hS), pre9⟩ rfl rfl hlv.1 rfl (lv_room (Nat.le_of_ble_eq_true rfl)) dX12_of_6 ⟨Nat.le_of_ble_eq_true rfl, Nat.le_of_ble_eq_true rfl⟩)) hP hD hS hA hG hT [] rfl (by decide +kernel) (fun r5 u5 H locs hw5 hq9 hS => ?_)
  obtain ⟨rfl, hq5_1, hq5_2⟩ := hw5
  obtain ⟨hP, hD⟩ := pd9 [] hq9
  have hev5 : (u5.2.1 0) = 5 := by first | (rw [hq5_2]; rfl) | omega
  refine lt_i (y := iI 5) (by rw [show (u5.2.1 0) = 5 by omega]) ?_
  refine ir_ge (tgt := 31) hx hb dX12_of_9 (by decide) (by show ((-2147483648) : Int) ≤ 2 ∧ (2 : Int) ≤ 2147483647; decide) (by show ((-2147483648) : Int) ≤ 5 ∧ (5 : Int) ≤ 2147483647; decide) (fun c_3 => by exfalso; omega) (fun c_3 => ?_)
  refine lv_iload_n hx hb dX12_of_12 rfl (lv_at hlv 1 rfl) ?_
  refine lv_iconst (v := iI 5) hx hb dX12_of_13 (by decide) ?_
  refine lv_ishl hx hb dX12_of_14 ?_
  refine lt_i (y := iI 3456) (by decide) ?_
  refine lv_aload_n hx hb dX12_of_15 rfl (lv_at hlv 2 rfl) ?_
  refine lv_iload_n hx hb dX12_of_16 rfl (lv_at hlv 0 rfl) ?_
  refine cjr_i [] (fun pre9 => (va_runV (As := [vI 2]) (rest := [vI 3456]) ⟨hx, hb, hml, hown, hts⟩ (s_charAt l hl D cy sa 34 2 H.size (by show (0 : Int) ≤ 34 ∧ (34 : Int) ≤ 55; decide) (by show (0 : Int) ≤ 2 ∧ (2 : Int) ≤ 6; decide) (by omega)) (cwV 1 hts gg_1 rfl rfl rfl (by decide +kernel) ⟨Nat.le_of_ble_eq_true rfl, Nat.le_of_ble_eq_true rfl⟩) ⟨pcW.blind, (wo_recv (WD.tx hT.2.2 (34 : Int).toNat (by omega)).1 hS), pre9⟩ rfl rfl hlv.1 rfl (lv_room (Nat.le_of_ble_eq_true rfl)) dX12_of_17 ⟨Nat.le_of_ble_eq_true rfl, Nat.le_of_ble_eq_true rfl⟩)) hP hD hS hA hG hT [] rfl (by decide +kernel) (fun r6 u6 H locs hw6 hq9 hS => ?_)
  obtain ⟨rfl, hq6_1, hq6_2⟩ := hw6
  obtain ⟨hP, hD⟩ := pd9 [] hq9
  have hev6 : (u6.2.1 0) = 101 := by first | (rw [hq6_2]; rfl) | omega
  refine lt_i (y := iI 101) (by rw [show (u6.2.1 0) = 101 by omega]) ?_
  refine lv_bipush (v := iI 96) hx hb dX12_of_20 (by decide) ?_
  refine lv_isub hx hb dX12_of_22 ?_
  refine lt_i (y := iI 5) (by decide) ?_
  refine lv_ior hx hb dX12_of_23 ?_
  refine lt_i (y := iI 3461) (by decide) ?_
  refine lv_istore_n (lv' := [(1, vI 3461), (2, vI 2), (0, .ref (sn sa 34))]) hx hb dX12_of_24 rfl hlv (by decide) rfl (fun ls hlv => ?_)
  refine lv_iinc (v := iI 3) (lv' := [(2, vI 3), (1, vI 3461), (0, .ref (sn sa 34))]) hx hb dX12_of_25 hlv (k := 1) rfl (by decide) (by decide) rfl (fun ls hlv => ?_)
  refine lv_goto (tgt := 4) hx hb dX12_of_28 (by decide) ?_
  refine lv_iload_n hx hb dX12_of_4 rfl (lv_at hlv 0 rfl) ?_
  refine lv_aload_n hx hb dX12_of_5 rfl (lv_at hlv 2 rfl) ?_
  refine cjr_i [] (fun pre9 => (va_runV (As := []) (rest := [vI 3]) ⟨hx, hb, hml, hown, hts⟩ (s_length l hl D cy sa 34 H.size (by show (0 : Int) ≤ 34 ∧ (34 : Int) ≤ 55; decide)) (cwV 0 hts gg_0 rfl rfl rfl (by decide +kernel) ⟨Nat.le_of_ble_eq_true rfl, Nat.le_of_ble_eq_true rfl⟩) ⟨pcW.blind, (wo_recv (WD.tx hT.2.2 (34 : Int).toNat (by omega)).1 hS), pre9⟩ rfl rfl hlv.1 rfl (lv_room (Nat.le_of_ble_eq_true rfl)) dX12_of_6 ⟨Nat.le_of_ble_eq_true rfl, Nat.le_of_ble_eq_true rfl⟩)) hP hD hS hA hG hT [] rfl (by decide +kernel) (fun r7 u7 H locs hw7 hq9 hS => ?_)
  obtain ⟨rfl, hq7_1, hq7_2⟩ := hw7
  obtain ⟨hP, hD⟩ := pd9 [] hq9
  have hev7 : (u7.2.1 0) = 5 := by first | (rw [hq7_2]; rfl) | omega
  refine lt_i (y := iI 5) (by rw [show (u7.2.1 0) = 5 by omega]) ?_
  refine ir_ge (tgt := 31) hx hb dX12_of_9 (by decide) (by show ((-2147483648) : Int) ≤ 3 ∧ (3 : Int) ≤ 2147483647; decide) (by show ((-2147483648) : Int) ≤ 5 ∧ (5 : Int) ≤ 2147483647; decide) (fun c_4 => by exfalso; omega) (fun c_4 => ?_)
  refine lv_iload_n hx hb dX12_of_12 rfl (lv_at hlv 1 rfl) ?_
  refine lv_iconst (v := iI 5) hx hb dX12_of_13 (by decide) ?_
  refine lv_ishl hx hb dX12_of_14 ?_
  refine lt_i (y := iI 110752) (by decide) ?_
  refine lv_aload_n hx hb dX12_of_15 rfl (lv_at hlv 2 rfl) ?_
  refine lv_iload_n hx hb dX12_of_16 rfl (lv_at hlv 0 rfl) ?_
  refine cjr_i [] (fun pre9 => (va_runV (As := [vI 3]) (rest := [vI 110752]) ⟨hx, hb, hml, hown, hts⟩ (s_charAt l hl D cy sa 34 3 H.size (by show (0 : Int) ≤ 34 ∧ (34 : Int) ≤ 55; decide) (by show (0 : Int) ≤ 3 ∧ (3 : Int) ≤ 6; decide) (by omega)) (cwV 1 hts gg_1 rfl rfl rfl (by decide +kernel) ⟨Nat.le_of_ble_eq_true rfl, Nat.le_of_ble_eq_true rfl⟩) ⟨pcW.blind, (wo_recv (WD.tx hT.2.2 (34 : Int).toNat (by omega)).1 hS), pre9⟩ rfl rfl hlv.1 rfl (lv_room (Nat.le_of_ble_eq_true rfl)) dX12_of_17 ⟨Nat.le_of_ble_eq_true rfl, Nat.le_of_ble_eq_true rfl⟩)) hP hD hS hA hG hT [] rfl (by decide +kernel) (fun r8 u8 H locs hw8 hq9 hS => ?_)
  obtain ⟨rfl, hq8_1, hq8_2⟩ := hw8
  obtain ⟨hP, hD⟩ := pd9 [] hq9
  have hev8 : (u8.2.1 0) = 97 := by first | (rw [hq8_2]; rfl) | omega
  refine lt_i (y := iI 97) (by rw [show (u8.2.1 0) = 97 by omega]) ?_
  refine lv_bipush (v := iI 96) hx hb dX12_of_20 (by decide) ?_
  refine lv_isub hx hb dX12_of_22 ?_
  refine lt_i (y := iI 1) (by decide) ?_
  refine lv_ior hx hb dX12_of_23 ?_
  refine lt_i (y := iI 110753) (by decide) ?_
  refine lv_istore_n (lv' := [(1, vI 110753), (2, vI 3), (0, .ref (sn sa 34))]) hx hb dX12_of_24 rfl hlv (by decide) rfl (fun ls hlv => ?_)
  refine lv_iinc (v := iI 4) (lv' := [(2, vI 4), (1, vI 110753), (0, .ref (sn sa 34))]) hx hb dX12_of_25 hlv (k := 1) rfl (by decide) (by decide) rfl (fun ls hlv => ?_)
  refine lv_goto (tgt := 4) hx hb dX12_of_28 (by decide) ?_
  refine lv_iload_n hx hb dX12_of_4 rfl (lv_at hlv 0 rfl) ?_
  refine lv_aload_n hx hb dX12_of_5 rfl (lv_at hlv 2 rfl) ?_
  refine cjr_i [] (fun pre9 => (va_runV (As := []) (rest := [vI 4]) ⟨hx, hb, hml, hown, hts⟩ (s_length l hl D cy sa 34 H.size (by show (0 : Int) ≤ 34 ∧ (34 : Int) ≤ 55; decide)) (cwV 0 hts gg_0 rfl rfl rfl (by decide +kernel) ⟨Nat.le_of_ble_eq_true rfl, Nat.le_of_ble_eq_true rfl⟩) ⟨pcW.blind, (wo_recv (WD.tx hT.2.2 (34 : Int).toNat (by omega)).1 hS), pre9⟩ rfl rfl hlv.1 rfl (lv_room (Nat.le_of_ble_eq_true rfl)) dX12_of_6 ⟨Nat.le_of_ble_eq_true rfl, Nat.le_of_ble_eq_true rfl⟩)) hP hD hS hA hG hT [] rfl (by decide +kernel) (fun r9 u9 H locs hw9 hq9 hS => ?_)
  obtain ⟨rfl, hq9_1, hq9_2⟩ := hw9
  obtain ⟨hP, hD⟩ := pd9 [] hq9
  have hev9 : (u9.2.1 0) = 5 := by first | (rw [hq9_2]; rfl) | omega
  refine lt_i (y := iI 5) (by rw [show (u9.2.1 0) = 5 by omega]) ?_
  refine ir_ge (tgt := 31) hx hb dX12_of_9 (by decide) (by show ((-2147483648) : Int) ≤ 4 ∧ (4 : Int) ≤ 2147483647; decide) (by show ((-2147483648) : Int) ≤ 5 ∧ (5 : Int) ≤ 2147483647; decide) (fun c_5 => by exfalso; omega) (fun c_5 => ?_)
  refine lv_iload_n hx hb dX12_of_12 rfl (lv_at hlv 1 rfl) ?_
  refine lv_iconst (v := iI 5) hx hb dX12_of_13 (by decide) ?_
  refine lv_ishl hx hb dX12_of_14 ?_
  refine lt_i (y := iI 3544096) (by decide) ?_
  refine lv_aload_n hx hb dX12_of_15 rfl (lv_at hlv 2 rfl) ?_
  refine lv_iload_n hx hb dX12_of_16 rfl (lv_at hlv 0 rfl) ?_
  refine cjr_i [] (fun pre9 => (va_runV (As := [vI 4]) (rest := [vI 3544096]) ⟨hx, hb, hml, hown, hts⟩ (s_charAt l hl D cy sa 34 4 H.size (by show (0 : Int) ≤ 34 ∧ (34 : Int) ≤ 55; decide) (by show (0 : Int) ≤ 4 ∧ (4 : Int) ≤ 6; decide) (by omega)) (cwV 1 hts gg_1 rfl rfl rfl (by decide +kernel) ⟨Nat.le_of_ble_eq_true rfl, Nat.le_of_ble_eq_true rfl⟩) ⟨pcW.blind, (wo_recv (WD.tx hT.2.2 (34 : Int).toNat (by omega)).1 hS), pre9⟩ rfl rfl hlv.1 rfl (lv_room (Nat.le_of_ble_eq_true rfl)) dX12_of_17 ⟨Nat.le_of_ble_eq_true rfl, Nat.le_of_ble_eq_true rfl⟩)) hP hD hS hA hG hT [] rfl (by decide +kernel) (fun r10 u10 H locs hw10 hq9 hS => ?_)
  obtain ⟨rfl, hq10_1, hq10_2⟩ := hw10
  obtain ⟨hP, hD⟩ := pd9 [] hq9
  have hev10 : (u10.2.1 0) = 114 := by first | (rw [hq10_2]; rfl) | omega
  refine lt_i (y := iI 114) (by rw [show (u10.2.1 0) = 114 by omega]) ?_
  refine lv_bipush (v := iI 96) hx hb dX12_of_20 (by decide) ?_
  refine lv_isub hx hb dX12_of_22 ?_
  refine lt_i (y := iI 18) (by decide) ?_
  refine lv_ior hx hb dX12_of_23 ?_
  refine lt_i (y := iI 3544114) (by decide) ?_
  refine lv_istore_n (lv' := [(1, vI 3544114), (2, vI 4), (0, .ref (sn sa 34))]) hx hb dX12_of_24 rfl hlv (by decide) rfl (fun ls hlv => ?_)
  refine lv_iinc (v := iI 5) (lv' := [(2, vI 5), (1, vI 3544114), (0, .ref (sn sa 34))]) hx hb dX12_of_25 hlv (k := 1) rfl (by decide) (by decide) rfl (fun ls hlv => ?_)
  refine lv_goto (tgt := 4) hx hb dX12_of_28 (by decide) ?_
  refine lv_iload_n hx hb dX12_of_4 rfl (lv_at hlv 0 rfl) ?_
  refine lv_aload_n hx hb dX12_of_5 rfl (lv_at hlv 2 rfl) ?_
  refine cjr_i [] (fun pre9 => (va_runV (As := []) (rest := [vI 5]) ⟨hx, hb, hml, hown, hts⟩ (s_length l hl D cy sa 34 H.size (by show (0 : Int) ≤ 34 ∧ (34 : Int) ≤ 55; decide)) (cwV 0 hts gg_0 rfl rfl rfl (by decide +kernel) ⟨Nat.le_of_ble_eq_true rfl, Nat.le_of_ble_eq_true rfl⟩) ⟨pcW.blind, (wo_recv (WD.tx hT.2.2 (34 : Int).toNat (by omega)).1 hS), pre9⟩ rfl rfl hlv.1 rfl (lv_room (Nat.le_of_ble_eq_true rfl)) dX12_of_6 ⟨Nat.le_of_ble_eq_true rfl, Nat.le_of_ble_eq_true rfl⟩)) hP hD hS hA hG hT [] rfl (by decide +kernel) (fun r11 u11 H locs hw11 hq9 hS => ?_)
  obtain ⟨rfl, hq11_1, hq11_2⟩ := hw11
  obtain ⟨hP, hD⟩ := pd9 [] hq9
  have hev11 : (u11.2.1 0) = 5 := by first | (rw [hq11_2]; rfl) | omega
  refine lt_i (y := iI 5) (by rw [show (u11.2.1 0) = 5 by omega]) ?_
  refine ir_ge (tgt := 31) hx hb dX12_of_9 (by decide) (by show ((-2147483648) : Int) ≤ 5 ∧ (5 : Int) ≤ 2147483647; decide) (by show ((-2147483648) : Int) ≤ 5 ∧ (5 : Int) ≤ 2147483647; decide) (fun c_6 => ?_) (fun c_6 => by exfalso; omega)
  refine lv_iload_n hx hb dX12_of_31 rfl (lv_at hlv 1 rfl) ?_
  refine W.widen (k := 0) (n := 0) (Nat.le_of_ble_eq_true rfl) (Nat.le_of_ble_eq_true rfl) ?_
  exact W.iret (v := iI 3544114) hx hb hr (fun t ht hW => ⟨⟨iI 3544114, ((fun k => ([] : List Nat).getD k 0), (fun k => ([3544114] : List Int).getD k 0), (fun k => ([] : List (Nat → Int32)).getD k (fun _ => 0))), rfl, ⟨rfl, (by show (3544114 ≤ 3544114 ∧ 3544114 ≤ 3544114); show (3544114 : Int) ≤ 3544114 ∧ (3544114 : Int) ≤ 3544114; decide)⟩, at9 ht hP hD [] (by decide +kernel) rfl⟩, hS.F ht⟩) hS.2.2 dX12_of_32
def vs_m_of7 : List Cond := .code yX12_of cX12_of 3 (some .int) :: (([] : List Cond) ++ ((wsV RX12 100 RJ0 yJ0_length_8abf5 vs_s_length) ++ ((wsV RX12 105 RJ0 yJ0_charAt_5068e vs_s_charAt) ++ ([]))))
theorem gd_m_of7 : vs_m_of7.all goodWord = true := gd_C (by decide +kernel) (gd_A (by decide +kernel) (gd_A (gd_V gd_s_length (by decide +kernel)) (gd_A (gd_V gd_s_charAt (by decide +kernel)) rfl)))
set_option maxHeartbeats 4000000 in
set_option maxRecDepth 100000 in
theorem m_of7 (l : Launch) (hl : l.stackTraces = false) (D : va_G) (cy : Nat → ClassId) (sa : Nat → Nat)  (sz : Nat) : mI9 l yX12_of vs_m_of7 ({ frames := 4, cells := 0, slots := 0, locals := 85 }) D cy sa sz [.ref (sn sa 35)] [] (fun (r : Int32) (u : SV) => r = iI (u.2.1 0) ∧ (18916965 ≤ u.2.1 0 ∧ u.2.1 0 ≤ 18916965)) (fun u : SV => []) 0 0 := by
  refine Met.ofW (cc := cX12_of) (maxL := 3) (ret := (some .int)) (by decide) rfl ?_
  intro p e s m args below meth c s₁ B hml hv
  obtain ⟨rfl, hsz, hP, hG, hD0, hT⟩ := hv
  have hx := B.exec
  have hb := B.bytes
  have hr := B.returns
  have hts := atoms_spec (ws := vs_m_of7) B.pre
  have hown : s.vm.findClass RX12 = some m.cls := findClass_of_methodNamed B.named
  have hlocks := B.notSynchronized
  subst hsz
  have hD := hD0.self (sz := s.heap.size)
  generalize hAe : va_A [] s.heap.size = A at hD hT ⊢
  have hA : ∀ q : Nat, s.heap.size ≤ q → A q := fun q h => by rw [← hAe]; exact Or.inr h
  have hS : va_S A s.heap s.heap [] := va_S.rf
  have hl0 := lv_entry ([.ref (sn sa 35)]) (n := 3) (Nat.le_of_ble_eq_true rfl)
  rw [lg_entry_eq]
  generalize (lg_sl ([.ref (sn sa 35)]) ++ List.replicate (3 - (lg_sl ([.ref (sn sa 35)])).length) Slot.unset).toArray = ls at hl0 ⊢
  have hlv : lv_has ls 3 [(0, .ref (sn sa 35))] := hl0
  have gg_0 : GoodIn vs_m_of7 (wsV RX12 100 RJ0 yJ0_length_8abf5 vs_s_length) := goodIn_sub (fun w h => List.mem_cons_of_mem _ (List.mem_append_right _ (List.mem_append_left _ h))) (gd_V gd_s_length (by decide +kernel))
  have gg_1 : GoodIn vs_m_of7 (wsV RX12 105 RJ0 yJ0_charAt_5068e vs_s_charAt) := goodIn_sub (fun w h => List.mem_cons_of_mem _ (List.mem_append_right _ (List.mem_append_right _ (List.mem_append_left _ h)))) (gd_V gd_s_charAt (by decide +kernel))
  refine lv_iconst (v := iI 0) hx hb dX12_of_0 (by decide) ?_
  refine lv_istore_n (lv' := [(1, vI 0), (0, .ref (sn sa 35))]) hx hb dX12_of_1 rfl hlv (by decide) rfl (fun ls hlv => ?_)
  refine lv_iconst (v := iI 0) hx hb dX12_of_2 (by decide) ?_
  refine lv_istore_n (lv' := [(2, vI 0), (1, vI 0), (0, .ref (sn sa 35))]) hx hb dX12_of_3 rfl hlv (by decide) rfl (fun ls hlv => ?_)
  refine lv_iload_n hx hb dX12_of_4 rfl (lv_at hlv 0 rfl) ?_
  refine lv_aload_n hx hb dX12_of_5 rfl (lv_at hlv 2 rfl) ?_
  refine cjr_i [] (fun pre9 => (va_runV (As := []) (rest := [vI 0]) ⟨hx, hb, hml, hown, hts⟩ (s_length l hl D cy sa 35 s.heap.size (by show (0 : Int) ≤ 35 ∧ (35 : Int) ≤ 55; decide)) (cwV 0 hts gg_0 rfl rfl rfl (by decide +kernel) ⟨Nat.le_of_ble_eq_true rfl, Nat.le_of_ble_eq_true rfl⟩) ⟨pcW.blind, (wo_recv (WD.tx hT.2.2 (35 : Int).toNat (by omega)).1 hS), pre9⟩ rfl rfl hlv.1 rfl (lv_room (Nat.le_of_ble_eq_true rfl)) dX12_of_6 ⟨Nat.le_of_ble_eq_true rfl, Nat.le_of_ble_eq_true rfl⟩)) hP hD hS hA hG hT [] rfl (by decide +kernel) (fun r1 u1 H locs hw1 hq9 hS => ?_)
  obtain ⟨rfl, hq1_1, hq1_2⟩ := hw1
  obtain ⟨hP, hD⟩ := pd9 [] hq9
  have hev1 : (u1.2.1 0) = 5 := by first | (rw [hq1_2]; rfl) | omega
  refine lt_i (y := iI 5) (by rw [show (u1.2.1 0) = 5 by omega]) ?_
  refine ir_ge (tgt := 31) hx hb dX12_of_9 (by decide) (by show ((-2147483648) : Int) ≤ 0 ∧ (0 : Int) ≤ 2147483647; decide) (by show ((-2147483648) : Int) ≤ 5 ∧ (5 : Int) ≤ 2147483647; decide) (fun c_1 => by exfalso; omega) (fun c_1 => ?_)
  refine lv_iload_n hx hb dX12_of_12 rfl (lv_at hlv 1 rfl) ?_
  refine lv_iconst (v := iI 5) hx hb dX12_of_13 (by decide) ?_
  refine lv_ishl hx hb dX12_of_14 ?_
  refine lt_i (y := iI 0) (by decide) ?_
  refine lv_aload_n hx hb dX12_of_15 rfl (lv_at hlv 2 rfl) ?_
  refine lv_iload_n hx hb dX12_of_16 rfl (lv_at hlv 0 rfl) ?_
  refine cjr_i [] (fun pre9 => (va_runV (As := [vI 0]) (rest := [vI 0]) ⟨hx, hb, hml, hown, hts⟩ (s_charAt l hl D cy sa 35 0 H.size (by show (0 : Int) ≤ 35 ∧ (35 : Int) ≤ 55; decide) (by show (0 : Int) ≤ 0 ∧ (0 : Int) ≤ 6; decide) (by omega)) (cwV 1 hts gg_1 rfl rfl rfl (by decide +kernel) ⟨Nat.le_of_ble_eq_true rfl, Nat.le_of_ble_eq_true rfl⟩) ⟨pcW.blind, (wo_recv (WD.tx hT.2.2 (35 : Int).toNat (by omega)).1 hS), pre9⟩ rfl rfl hlv.1 rfl (lv_room (Nat.le_of_ble_eq_true rfl)) dX12_of_17 ⟨Nat.le_of_ble_eq_true rfl, Nat.le_of_ble_eq_true rfl⟩)) hP hD hS hA hG hT [] rfl (by decide +kernel) (fun r2 u2 H locs hw2 hq9 hS => ?_)
  obtain ⟨rfl, hq2_1, hq2_2⟩ := hw2
  obtain ⟨hP, hD⟩ := pd9 [] hq9
  have hev2 : (u2.2.1 0) = 114 := by first | (rw [hq2_2]; rfl) | omega
  refine lt_i (y := iI 114) (by rw [show (u2.2.1 0) = 114 by omega]) ?_
  refine lv_bipush (v := iI 96) hx hb dX12_of_20 (by decide) ?_
  refine lv_isub hx hb dX12_of_22 ?_
  refine lt_i (y := iI 18) (by decide) ?_
  refine lv_ior hx hb dX12_of_23 ?_
  refine lt_i (y := iI 18) (by decide) ?_
  refine lv_istore_n (lv' := [(1, vI 18), (2, vI 0), (0, .ref (sn sa 35))]) hx hb dX12_of_24 rfl hlv (by decide) rfl (fun ls hlv => ?_)
  refine lv_iinc (v := iI 1) (lv' := [(2, vI 1), (1, vI 18), (0, .ref (sn sa 35))]) hx hb dX12_of_25 hlv (k := 1) rfl (by decide) (by decide) rfl (fun ls hlv => ?_)
  refine lv_goto (tgt := 4) hx hb dX12_of_28 (by decide) ?_
  refine lv_iload_n hx hb dX12_of_4 rfl (lv_at hlv 0 rfl) ?_
  refine lv_aload_n hx hb dX12_of_5 rfl (lv_at hlv 2 rfl) ?_
  refine cjr_i [] (fun pre9 => (va_runV (As := []) (rest := [vI 1]) ⟨hx, hb, hml, hown, hts⟩ (s_length l hl D cy sa 35 H.size (by show (0 : Int) ≤ 35 ∧ (35 : Int) ≤ 55; decide)) (cwV 0 hts gg_0 rfl rfl rfl (by decide +kernel) ⟨Nat.le_of_ble_eq_true rfl, Nat.le_of_ble_eq_true rfl⟩) ⟨pcW.blind, (wo_recv (WD.tx hT.2.2 (35 : Int).toNat (by omega)).1 hS), pre9⟩ rfl rfl hlv.1 rfl (lv_room (Nat.le_of_ble_eq_true rfl)) dX12_of_6 ⟨Nat.le_of_ble_eq_true rfl, Nat.le_of_ble_eq_true rfl⟩)) hP hD hS hA hG hT [] rfl (by decide +kernel) (fun r3 u3 H locs hw3 hq9 hS => ?_)
  obtain ⟨rfl, hq3_1, hq3_2⟩ := hw3
  obtain ⟨hP, hD⟩ := pd9 [] hq9
  have hev3 : (u3.2.1 0) = 5 := by first | (rw [hq3_2]; rfl) | omega
  refine lt_i (y := iI 5) (by rw [show (u3.2.1 0) = 5 by omega]) ?_
  refine ir_ge (tgt := 31) hx hb dX12_of_9 (by decide) (by show ((-2147483648) : Int) ≤ 1 ∧ (1 : Int) ≤ 2147483647; decide) (by show ((-2147483648) : Int) ≤ 5 ∧ (5 : Int) ≤ 2147483647; decide) (fun c_2 => by exfalso; omega) (fun c_2 => ?_)
  refine lv_iload_n hx hb dX12_of_12 rfl (lv_at hlv 1 rfl) ?_
  refine lv_iconst (v := iI 5) hx hb dX12_of_13 (by decide) ?_
  refine lv_ishl hx hb dX12_of_14 ?_
  refine lt_i (y := iI 576) (by decide) ?_
  refine lv_aload_n hx hb dX12_of_15 rfl (lv_at hlv 2 rfl) ?_
  refine lv_iload_n hx hb dX12_of_16 rfl (lv_at hlv 0 rfl) ?_
  refine cjr_i [] (fun pre9 => (va_runV (As := [vI 1]) (rest := [vI 576]) ⟨hx, hb, hml, hown, hts⟩ (s_charAt l hl D cy sa 35 1 H.size (by show (0 : Int) ≤ 35 ∧ (35 : Int) ≤ 55; decide) (by show (0 : Int) ≤ 1 ∧ (1 : Int) ≤ 6; decide) (by omega)) (cwV 1 hts gg_1 rfl rfl rfl (by decide +kernel) ⟨Nat.le_of_ble_eq_true rfl, Nat.le_of_ble_eq_true rfl⟩) ⟨pcW.blind, (wo_recv (WD.tx hT.2.2 (35 : Int).toNat (by omega)).1 hS), pre9⟩ rfl rfl hlv.1 rfl (lv_room (Nat.le_of_ble_eq_true rfl)) dX12_of_17 ⟨Nat.le_of_ble_eq_true rfl, Nat.le_of_ble_eq_true rfl⟩)) hP hD hS hA hG hT [] rfl (by decide +kernel) (fun r4 u4 H locs hw4 hq9 hS => ?_)
  obtain ⟨rfl, hq4_1, hq4_2⟩ := hw4
  obtain ⟨hP, hD⟩ := pd9 [] hq9
  have hev4 : (u4.2.1 0) = 97 := by first | (rw [hq4_2]; rfl) | omega
  refine lt_i (y := iI 97) (by rw [show (u4.2.1 0) = 97 by omega]) ?_
  refine lv_bipush (v := iI 96) hx hb dX12_of_20 (by decide) ?_
  refine lv_isub hx hb dX12_of_22 ?_
  refine lt_i (y := iI 1) (by decide) ?_
  refine lv_ior hx hb dX12_of_23 ?_
  refine lt_i (y := iI 577) (by decide) ?_
  refine lv_istore_n (lv' := [(1, vI 577), (2, vI 1), (0, .ref (sn sa 35))]) hx hb dX12_of_24 rfl hlv (by decide) rfl (fun ls hlv => ?_)
  refine lv_iinc (v := iI 2) (lv' := [(2, vI 2), (1, vI 577), (0, .ref (sn sa 35))]) hx hb dX12_of_25 hlv (k := 1) rfl (by decide) (by decide) rfl (fun ls hlv => ?_)
  refine lv_goto (tgt := 4) hx hb dX12_of_28 (by decide) ?_
  refine lv_iload_n hx hb dX12_of_4 rfl (lv_at hlv 0 rfl) ?_
  refine lv_aload_n hx hb dX12_of_5 rfl (lv_at hlv 2 rfl) ?_
  refine cjr_i [] (fun pre9 => (va_runV (As := []) (rest := [vI 2]) ⟨hx, hb, hml, hown, hts⟩ (s_length l hl D cy sa 35 H.size (by show (0 : Int) ≤ 35 ∧ (35 : Int) ≤ 55; decide)) (cwV 0 hts gg_0 rfl rfl rfl (by decide +kernel) ⟨Nat.le_of_ble_eq_true rfl, Nat.le_of_ble_eq_true rfl⟩) ⟨pcW.blind, (wo_recv (WD.tx hT.2.2 (35 : Int).toNat (by omega)).1 hS), pre9⟩ rfl rfl hlv.1 rfl (lv_room (Nat.le_of_ble_eq_true rfl)) dX12_of_6 ⟨Nat.le_of_ble_eq_true rfl, Nat.le_of_ble_eq_true rfl⟩)) hP hD hS hA hG hT [] rfl (by decide +kernel) (fun r5 u5 H locs hw5 hq9 hS => ?_)
  obtain ⟨rfl, hq5_1, hq5_2⟩ := hw5
  obtain ⟨hP, hD⟩ := pd9 [] hq9
  have hev5 : (u5.2.1 0) = 5 := by first | (rw [hq5_2]; rfl) | omega
  refine lt_i (y := iI 5) (by rw [show (u5.2.1 0) = 5 by omega]) ?_
  refine ir_ge (tgt := 31) hx hb dX12_of_9 (by decide) (by show ((-2147483648) : Int) ≤ 2 ∧ (2 : Int) ≤ 2147483647; decide) (by show ((-2147483648) : Int) ≤ 5 ∧ (5 : Int) ≤ 2147483647; decide) (fun c_3 => by exfalso; omega) (fun c_3 => ?_)
  refine lv_iload_n hx hb dX12_of_12 rfl (lv_at hlv 1 rfl) ?_
  refine lv_iconst (v := iI 5) hx hb dX12_of_13 (by decide) ?_
  refine lv_ishl hx hb dX12_of_14 ?_
  refine lt_i (y := iI 18464) (by decide) ?_
  refine lv_aload_n hx hb dX12_of_15 rfl (lv_at hlv 2 rfl) ?_
  refine lv_iload_n hx hb dX12_of_16 rfl (lv_at hlv 0 rfl) ?_
  refine cjr_i [] (fun pre9 => (va_runV (As := [vI 2]) (rest := [vI 18464]) ⟨hx, hb, hml, hown, hts⟩ (s_charAt l hl D cy sa 35 2 H.size (by show (0 : Int) ≤ 35 ∧ (35 : Int) ≤ 55; decide) (by show (0 : Int) ≤ 2 ∧ (2 : Int) ≤ 6; decide) (by omega)) (cwV 1 hts gg_1 rfl rfl rfl (by decide +kernel) ⟨Nat.le_of_ble_eq_true rfl, Nat.le_of_ble_eq_true rfl⟩) ⟨pcW.blind, (wo_recv (WD.tx hT.2.2 (35 : Int).toNat (by omega)).1 hS), pre9⟩ rfl rfl hlv.1 rfl (lv_room (Nat.le_of_ble_eq_true rfl)) dX12_of_17 ⟨Nat.le_of_ble_eq_true rfl, Nat.le_of_ble_eq_true rfl⟩)) hP hD hS hA hG hT [] rfl (by decide +kernel) (fun r6 u6 H locs hw6 hq9 hS => ?_)
  obtain ⟨rfl, hq6_1, hq6_2⟩ := hw6
  obtain ⟨hP, hD⟩ := pd9 [] hq9
  have hev6 : (u6.2.1 0) = 105 := by first | (rw [hq6_2]; rfl) | omega
  refine lt_i (y := iI 105) (by rw [show (u6.2.1 0) = 105 by omega]) ?_
  refine lv_bipush (v := iI 96) hx hb dX12_of_20 (by decide) ?_
  refine lv_isub hx hb dX12_of_22 ?_
  refine lt_i (y := iI 9) (by decide) ?_
  refine lv_ior hx hb dX12_of_23 ?_
  refine lt_i (y := iI 18473) (by decide) ?_
  refine lv_istore_n (lv' := [(1, vI 18473), (2, vI 2), (0, .ref (sn sa 35))]) hx hb dX12_of_24 rfl hlv (by decide) rfl (fun ls hlv => ?_)
  refine lv_iinc (v := iI 3) (lv' := [(2, vI 3), (1, vI 18473), (0, .ref (sn sa 35))]) hx hb dX12_of_25 hlv (k := 1) rfl (by decide) (by decide) rfl (fun ls hlv => ?_)
  refine lv_goto (tgt := 4) hx hb dX12_of_28 (by decide) ?_
  refine lv_iload_n hx hb dX12_of_4 rfl (lv_at hlv 0 rfl) ?_
  refine lv_aload_n hx hb dX12_of_5 rfl (lv_at hlv 2 rfl) ?_
  refine cjr_i [] (fun pre9 => (va_runV (As := []) (rest := [vI 3]) ⟨hx, hb, hml, hown, hts⟩ (s_length l hl D cy sa 35 H.size (by show (0 : Int) ≤ 35 ∧ (35 : Int) ≤ 55; decide)) (cwV 0 hts gg_0 rfl rfl rfl (by decide +kernel) ⟨Nat.le_of_ble_eq_true rfl, Nat.le_of_ble_eq_true rfl⟩) ⟨pcW.blind, (wo_recv (WD.tx hT.2.2 (35 : Int).toNat (by omega)).1 hS), pre9⟩ rfl rfl hlv.1 rfl (lv_room (Nat.le_of_ble_eq_true rfl)) dX12_of_6 ⟨Nat.le_of_ble_eq_true rfl, Nat.le_of_ble_eq_true rfl⟩)) hP hD hS hA hG hT [] rfl (by decide +kernel) (fun r7 u7 H locs hw7 hq9 hS => ?_)
  obtain ⟨rfl, hq7_1, hq7_2⟩ := hw7
  obtain ⟨hP, hD⟩ := pd9 [] hq9
  have hev7 : (u7.2.1 0) = 5 := by first | (rw [hq7_2]; rfl) | omega
  refine lt_i (y := iI 5) (by rw [show (u7.2.1 0) = 5 by omega]) ?_
  refine ir_ge (tgt := 31) hx hb dX12_of_9 (by decide) (by show ((-2147483648) : Int) ≤ 3 ∧ (3 : Int) ≤ 2147483647; decide) (by show ((-2147483648) : Int) ≤ 5 ∧ (5 : Int) ≤ 2147483647; decide) (fun c_4 => by exfalso; omega) (fun c_4 => ?_)
  refine lv_iload_n hx hb dX12_of_12 rfl (lv_at hlv 1 rfl) ?_
  refine lv_iconst (v := iI 5) hx hb dX12_of_13 (by decide) ?_
  refine lv_ishl hx hb dX12_of_14 ?_
  refine lt_i (y := iI 591136) (by decide) ?_
  refine lv_aload_n hx hb dX12_of_15 rfl (lv_at hlv 2 rfl) ?_
  refine lv_iload_n hx hb dX12_of_16 rfl (lv_at hlv 0 rfl) ?_
  refine cjr_i [] (fun pre9 => (va_runV (As := [vI 3]) (rest := [vI 591136]) ⟨hx, hb, hml, hown, hts⟩ (s_charAt l hl D cy sa 35 3 H.size (by show (0 : Int) ≤ 35 ∧ (35 : Int) ≤ 55; decide) (by show (0 : Int) ≤ 3 ∧ (3 : Int) ≤ 6; decide) (by omega)) (cwV 1 hts gg_1 rfl rfl rfl (by decide +kernel) ⟨Nat.le_of_ble_eq_true rfl, Nat.le_of_ble_eq_true rfl⟩) ⟨pcW.blind, (wo_recv (WD.tx hT.2.2 (35 : Int).toNat (by omega)).1 hS), pre9⟩ rfl rfl hlv.1 rfl (lv_room (Nat.le_of_ble_eq_true rfl)) dX12_of_17 ⟨Nat.le_of_ble_eq_true rfl, Nat.le_of_ble_eq_true rfl⟩)) hP hD hS hA hG hT [] rfl (by decide +kernel) (fun r8 u8 H locs hw8 hq9 hS => ?_)
  obtain ⟨rfl, hq8_1, hq8_2⟩ := hw8
  obtain ⟨hP, hD⟩ := pd9 [] hq9
  have hev8 : (u8.2.1 0) = 115 := by first | (rw [hq8_2]; rfl) | omega
  refine lt_i (y := iI 115) (by rw [show (u8.2.1 0) = 115 by omega]) ?_
  refine lv_bipush (v := iI 96) hx hb dX12_of_20 (by decide) ?_
  refine lv_isub hx hb dX12_of_22 ?_
  refine lt_i (y := iI 19) (by decide) ?_
  refine lv_ior hx hb dX12_of_23 ?_
  refine lt_i (y := iI 591155) (by decide) ?_
  refine lv_istore_n (lv' := [(1, vI 591155), (2, vI 3), (0, .ref (sn sa 35))]) hx hb dX12_of_24 rfl hlv (by decide) rfl (fun ls hlv => ?_)
  refine lv_iinc (v := iI 4) (lv' := [(2, vI 4), (1, vI 591155), (0, .ref (sn sa 35))]) hx hb dX12_of_25 hlv (k := 1) rfl (by decide) (by decide) rfl (fun ls hlv => ?_)
  refine lv_goto (tgt := 4) hx hb dX12_of_28 (by decide) ?_
  refine lv_iload_n hx hb dX12_of_4 rfl (lv_at hlv 0 rfl) ?_
  refine lv_aload_n hx hb dX12_of_5 rfl (lv_at hlv 2 rfl) ?_
  refine cjr_i [] (fun pre9 => (va_runV (As := []) (rest := [vI 4]) ⟨hx, hb, hml, hown, hts⟩ (s_length l hl D cy sa 35 H.size (by show (0 : Int) ≤ 35 ∧ (35 : Int) ≤ 55; decide)) (cwV 0 hts gg_0 rfl rfl rfl (by decide +kernel) ⟨Nat.le_of_ble_eq_true rfl, Nat.le_of_ble_eq_true rfl⟩) ⟨pcW.blind, (wo_recv (WD.tx hT.2.2 (35 : Int).toNat (by omega)).1 hS), pre9⟩ rfl rfl hlv.1 rfl (lv_room (Nat.le_of_ble_eq_true rfl)) dX12_of_6 ⟨Nat.le_of_ble_eq_true rfl, Nat.le_of_ble_eq_true rfl⟩)) hP hD hS hA hG hT [] rfl (by decide +kernel) (fun r9 u9 H locs hw9 hq9 hS => ?_)
  obtain ⟨rfl, hq9_1, hq9_2⟩ := hw9
  obtain ⟨hP, hD⟩ := pd9 [] hq9
  have hev9 : (u9.2.1 0) = 5 := by first | (rw [hq9_2]; rfl) | omega
  refine lt_i (y := iI 5) (by rw [show (u9.2.1 0) = 5 by omega]) ?_
  refine ir_ge (tgt := 31) hx hb dX12_of_9 (by decide) (by show ((-2147483648) : Int) ≤ 4 ∧ (4 : Int) ≤ 2147483647; decide) (by show ((-2147483648) : Int) ≤ 5 ∧ (5 : Int) ≤ 2147483647; decide) (fun c_5 => by exfalso; omega) (fun c_5 => ?_)
  refine lv_iload_n hx hb dX12_of_12 rfl (lv_at hlv 1 rfl) ?_
  refine lv_iconst (v := iI 5) hx hb dX12_of_13 (by decide) ?_
  refine lv_ishl hx hb dX12_of_14 ?_
  refine lt_i (y := iI 18916960) (by decide) ?_
  refine lv_aload_n hx hb dX12_of_15 rfl (lv_at hlv 2 rfl) ?_
  refine lv_iload_n hx hb dX12_of_16 rfl (lv_at hlv 0 rfl) ?_
  refine cjr_i [] (fun pre9 => (va_runV (As := [vI 4]) (rest := [vI 18916960]) ⟨hx, hb, hml, hown, hts⟩ (s_charAt l hl D cy sa 35 4 H.size (by show (0 : Int) ≤ 35 ∧ (35 : Int) ≤ 55; decide) (by show (0 : Int) ≤ 4 ∧ (4 : Int) ≤ 6; decide) (by omega)) (cwV 1 hts gg_1 rfl rfl rfl (by decide +kernel) ⟨Nat.le_of_ble_eq_true rfl, Nat.le_of_ble_eq_true rfl⟩) ⟨pcW.blind, (wo_recv (WD.tx hT.2.2 (35 : Int).toNat (by omega)).1 hS), pre9⟩ rfl rfl hlv.1 rfl (lv_room (Nat.le_of_ble_eq_true rfl)) dX12_of_17 ⟨Nat.le_of_ble_eq_true rfl, Nat.le_of_ble_eq_true rfl⟩)) hP hD hS hA hG hT [] rfl (by decide +kernel) (fun r10 u10 H locs hw10 hq9 hS => ?_)
  obtain ⟨rfl, hq10_1, hq10_2⟩ := hw10
  obtain ⟨hP, hD⟩ := pd9 [] hq9
  have hev10 : (u10.2.1 0) = 101 := by first | (rw [hq10_2]; rfl) | omega
  refine lt_i (y := iI 101) (by rw [show (u10.2.1 0) = 101 by omega]) ?_
  refine lv_bipush (v := iI 96) hx hb dX12_of_20 (by decide) ?_
  refine lv_isub hx hb dX12_of_22 ?_
  refine lt_i (y := iI 5) (by decide) ?_
  refine lv_ior hx hb dX12_of_23 ?_
  refine lt_i (y := iI 18916965) (by decide) ?_
  refine lv_istore_n (lv' := [(1, vI 18916965), (2, vI 4), (0, .ref (sn sa 35))]) hx hb dX12_of_24 rfl hlv (by decide) rfl (fun ls hlv => ?_)
  refine lv_iinc (v := iI 5) (lv' := [(2, vI 5), (1, vI 18916965), (0, .ref (sn sa 35))]) hx hb dX12_of_25 hlv (k := 1) rfl (by decide) (by decide) rfl (fun ls hlv => ?_)
  refine lv_goto (tgt := 4) hx hb dX12_of_28 (by decide) ?_
  refine lv_iload_n hx hb dX12_of_4 rfl (lv_at hlv 0 rfl) ?_
  refine lv_aload_n hx hb dX12_of_5 rfl (lv_at hlv 2 rfl) ?_
  refine cjr_i [] (fun pre9 => (va_runV (As := []) (rest := [vI 5]) ⟨hx, hb, hml, hown, hts⟩ (s_length l hl D cy sa 35 H.size (by show (0 : Int) ≤ 35 ∧ (35 : Int) ≤ 55; decide)) (cwV 0 hts gg_0 rfl rfl rfl (by decide +kernel) ⟨Nat.le_of_ble_eq_true rfl, Nat.le_of_ble_eq_true rfl⟩) ⟨pcW.blind, (wo_recv (WD.tx hT.2.2 (35 : Int).toNat (by omega)).1 hS), pre9⟩ rfl rfl hlv.1 rfl (lv_room (Nat.le_of_ble_eq_true rfl)) dX12_of_6 ⟨Nat.le_of_ble_eq_true rfl, Nat.le_of_ble_eq_true rfl⟩)) hP hD hS hA hG hT [] rfl (by decide +kernel) (fun r11 u11 H locs hw11 hq9 hS => ?_)
  obtain ⟨rfl, hq11_1, hq11_2⟩ := hw11
  obtain ⟨hP, hD⟩ := pd9 [] hq9
  have hev11 : (u11.2.1 0) = 5 := by first | (rw [hq11_2]; rfl) | omega
  refine lt_i (y := iI 5) (by rw [show (u11.2.1 0) = 5 by omega]) ?_
  refine ir_ge (tgt := 31) hx hb dX12_of_9 (by decide) (by show ((-2147483648) : Int) ≤ 5 ∧ (5 : Int) ≤ 2147483647; decide) (by show ((-2147483648) : Int) ≤ 5 ∧ (5 : Int) ≤ 2147483647; decide) (fun c_6 => ?_) (fun c_6 => by exfalso; omega)
  refine lv_iload_n hx hb dX12_of_31 rfl (lv_at hlv 1 rfl) ?_
  refine W.widen (k := 0) (n := 0) (Nat.le_of_ble_eq_true rfl) (Nat.le_of_ble_eq_true rfl) ?_
  exact W.iret (v := iI 18916965) hx hb hr (fun t ht hW => ⟨⟨iI 18916965, ((fun k => ([] : List Nat).getD k 0), (fun k => ([18916965] : List Int).getD k 0), (fun k => ([] : List (Nat → Int32)).getD k (fun _ => 0))), rfl, ⟨rfl, (by show (18916965 ≤ 18916965 ∧ 18916965 ≤ 18916965); show (18916965 : Int) ≤ 18916965 ∧ (18916965 : Int) ≤ 18916965; decide)⟩, at9 ht hP hD [] (by decide +kernel) rfl⟩, hS.F ht⟩) hS.2.2 dX12_of_32
def vs_m_of8 : List Cond := .code yX12_of cX12_of 3 (some .int) :: (([] : List Cond) ++ ((wsV RX12 100 RJ0 yJ0_length_8abf5 vs_s_length) ++ ((wsV RX12 105 RJ0 yJ0_charAt_5068e vs_s_charAt) ++ ([]))))
theorem gd_m_of8 : vs_m_of8.all goodWord = true := gd_C (by decide +kernel) (gd_A (by decide +kernel) (gd_A (gd_V gd_s_length (by decide +kernel)) (gd_A (gd_V gd_s_charAt (by decide +kernel)) rfl)))
set_option maxHeartbeats 4000000 in
set_option maxRecDepth 100000 in
theorem m_of8 (l : Launch) (hl : l.stackTraces = false) (D : va_G) (cy : Nat → ClassId) (sa : Nat → Nat)  (sz : Nat) : mI9 l yX12_of vs_m_of8 ({ frames := 4, cells := 0, slots := 0, locals := 85 }) D cy sa sz [.ref (sn sa 36)] [] (fun (r : Int32) (u : SV) => r = iI (u.2.1 0) ∧ (13098162 ≤ u.2.1 0 ∧ u.2.1 0 ≤ 13098162)) (fun u : SV => []) 0 0 := by
  refine Met.ofW (cc := cX12_of) (maxL := 3) (ret := (some .int)) (by decide) rfl ?_
  intro p e s m args below meth c s₁ B hml hv
  obtain ⟨rfl, hsz, hP, hG, hD0, hT⟩ := hv
  have hx := B.exec
  have hb := B.bytes
  have hr := B.returns
  have hts := atoms_spec (ws := vs_m_of8) B.pre
  have hown : s.vm.findClass RX12 = some m.cls := findClass_of_methodNamed B.named
  have hlocks := B.notSynchronized
  subst hsz
  have hD := hD0.self (sz := s.heap.size)
  generalize hAe : va_A [] s.heap.size = A at hD hT ⊢
  have hA : ∀ q : Nat, s.heap.size ≤ q → A q := fun q h => by rw [← hAe]; exact Or.inr h
  have hS : va_S A s.heap s.heap [] := va_S.rf
  have hl0 := lv_entry ([.ref (sn sa 36)]) (n := 3) (Nat.le_of_ble_eq_true rfl)
  rw [lg_entry_eq]
  generalize (lg_sl ([.ref (sn sa 36)]) ++ List.replicate (3 - (lg_sl ([.ref (sn sa 36)])).length) Slot.unset).toArray = ls at hl0 ⊢
  have hlv : lv_has ls 3 [(0, .ref (sn sa 36))] := hl0
  have gg_0 : GoodIn vs_m_of8 (wsV RX12 100 RJ0 yJ0_length_8abf5 vs_s_length) := goodIn_sub (fun w h => List.mem_cons_of_mem _ (List.mem_append_right _ (List.mem_append_left _ h))) (gd_V gd_s_length (by decide +kernel))
  have gg_1 : GoodIn vs_m_of8 (wsV RX12 105 RJ0 yJ0_charAt_5068e vs_s_charAt) := goodIn_sub (fun w h => List.mem_cons_of_mem _ (List.mem_append_right _ (List.mem_append_right _ (List.mem_append_left _ h)))) (gd_V gd_s_charAt (by decide +kernel))
  refine lv_iconst (v := iI 0) hx hb dX12_of_0 (by decide) ?_
  refine lv_istore_n (lv' := [(1, vI 0), (0, .ref (sn sa 36))]) hx hb dX12_of_1 rfl hlv (by decide) rfl (fun ls hlv => ?_)
  refine lv_iconst (v := iI 0) hx hb dX12_of_2 (by decide) ?_
  refine lv_istore_n (lv' := [(2, vI 0), (1, vI 0), (0, .ref (sn sa 36))]) hx hb dX12_of_3 rfl hlv (by decide) rfl (fun ls hlv => ?_)
  refine lv_iload_n hx hb dX12_of_4 rfl (lv_at hlv 0 rfl) ?_
  refine lv_aload_n hx hb dX12_of_5 rfl (lv_at hlv 2 rfl) ?_
  refine cjr_i [] (fun pre9 => (va_runV (As := []) (rest := [vI 0]) ⟨hx, hb, hml, hown, hts⟩ (s_length l hl D cy sa 36 s.heap.size (by show (0 : Int) ≤ 36 ∧ (36 : Int) ≤ 55; decide)) (cwV 0 hts gg_0 rfl rfl rfl (by decide +kernel) ⟨Nat.le_of_ble_eq_true rfl, Nat.le_of_ble_eq_true rfl⟩) ⟨pcW.blind, (wo_recv (WD.tx hT.2.2 (36 : Int).toNat (by omega)).1 hS), pre9⟩ rfl rfl hlv.1 rfl (lv_room (Nat.le_of_ble_eq_true rfl)) dX12_of_6 ⟨Nat.le_of_ble_eq_true rfl, Nat.le_of_ble_eq_true rfl⟩)) hP hD hS hA hG hT [] rfl (by decide +kernel) (fun r1 u1 H locs hw1 hq9 hS => ?_)
  obtain ⟨rfl, hq1_1, hq1_2⟩ := hw1
  obtain ⟨hP, hD⟩ := pd9 [] hq9
  have hev1 : (u1.2.1 0) = 5 := by first | (rw [hq1_2]; rfl) | omega
  refine lt_i (y := iI 5) (by rw [show (u1.2.1 0) = 5 by omega]) ?_
  refine ir_ge (tgt := 31) hx hb dX12_of_9 (by decide) (by show ((-2147483648) : Int) ≤ 0 ∧ (0 : Int) ≤ 2147483647; decide) (by show ((-2147483648) : Int) ≤ 5 ∧ (5 : Int) ≤ 2147483647; decide) (fun c_1 => by exfalso; omega) (fun c_1 => ?_)
  refine lv_iload_n hx hb dX12_of_12 rfl (lv_at hlv 1 rfl) ?_
  refine lv_iconst (v := iI 5) hx hb dX12_of_13 (by decide) ?_
  refine lv_ishl hx hb dX12_of_14 ?_
  refine lt_i (y := iI 0) (by decide) ?_
  refine lv_aload_n hx hb dX12_of_15 rfl (lv_at hlv 2 rfl) ?_
  refine lv_iload_n hx hb dX12_of_16 rfl (lv_at hlv 0 rfl) ?_
  refine cjr_i [] (fun pre9 => (va_runV (As := [vI 0]) (rest := [vI 0]) ⟨hx, hb, hml, hown, hts⟩ (s_charAt l hl D cy sa 36 0 H.size (by show (0 : Int) ≤ 36 ∧ (36 : Int) ≤ 55; decide) (by show (0 : Int) ≤ 0 ∧ (0 : Int) ≤ 6; decide) (by omega)) (cwV 1 hts gg_1 rfl rfl rfl (by decide +kernel) ⟨Nat.le_of_ble_eq_true rfl, Nat.le_of_ble_eq_true rfl⟩) ⟨pcW.blind, (wo_recv (WD.tx hT.2.2 (36 : Int).toNat (by omega)).1 hS), pre9⟩ rfl rfl hlv.1 rfl (lv_room (Nat.le_of_ble_eq_true rfl)) dX12_of_17 ⟨Nat.le_of_ble_eq_true rfl, Nat.le_of_ble_eq_true rfl⟩)) hP hD hS hA hG hT [] rfl (by decide +kernel) (fun r2 u2 H locs hw2 hq9 hS => ?_)
  obtain ⟨rfl, hq2_1, hq2_2⟩ := hw2
  obtain ⟨hP, hD⟩ := pd9 [] hq9
  have hev2 : (u2.2.1 0) = 108 := by first | (rw [hq2_2]; rfl) | omega
  refine lt_i (y := iI 108) (by rw [show (u2.2.1 0) = 108 by omega]) ?_
  refine lv_bipush (v := iI 96) hx hb dX12_of_20 (by decide) ?_
  refine lv_isub hx hb dX12_of_22 ?_
  refine lt_i (y := iI 12) (by decide) ?_
  refine lv_ior hx hb dX12_of_23 ?_
  refine lt_i (y := iI 12) (by decide) ?_
  refine lv_istore_n (lv' := [(1, vI 12), (2, vI 0), (0, .ref (sn sa 36))]) hx hb dX12_of_24 rfl hlv (by decide) rfl (fun ls hlv => ?_)
  refine lv_iinc (v := iI 1) (lv' := [(2, vI 1), (1, vI 12), (0, .ref (sn sa 36))]) hx hb dX12_of_25 hlv (k := 1) rfl (by decide) (by decide) rfl (fun ls hlv => ?_)
  refine lv_goto (tgt := 4) hx hb dX12_of_28 (by decide) ?_
  refine lv_iload_n hx hb dX12_of_4 rfl (lv_at hlv 0 rfl) ?_
  refine lv_aload_n hx hb dX12_of_5 rfl (lv_at hlv 2 rfl) ?_
  refine cjr_i [] (fun pre9 => (va_runV (As := []) (rest := [vI 1]) ⟨hx, hb, hml, hown, hts⟩ (s_length l hl D cy sa 36 H.size (by show (0 : Int) ≤ 36 ∧ (36 : Int) ≤ 55; decide)) (cwV 0 hts gg_0 rfl rfl rfl (by decide +kernel) ⟨Nat.le_of_ble_eq_true rfl, Nat.le_of_ble_eq_true rfl⟩) ⟨pcW.blind, (wo_recv (WD.tx hT.2.2 (36 : Int).toNat (by omega)).1 hS), pre9⟩ rfl rfl hlv.1 rfl (lv_room (Nat.le_of_ble_eq_true rfl)) dX12_of_6 ⟨Nat.le_of_ble_eq_true rfl, Nat.le_of_ble_eq_true rfl⟩)) hP hD hS hA hG hT [] rfl (by decide +kernel) (fun r3 u3 H locs hw3 hq9 hS => ?_)
  obtain ⟨rfl, hq3_1, hq3_2⟩ := hw3
  obtain ⟨hP, hD⟩ := pd9 [] hq9
  have hev3 : (u3.2.1 0) = 5 := by first | (rw [hq3_2]; rfl) | omega
  refine lt_i (y := iI 5) (by rw [show (u3.2.1 0) = 5 by omega]) ?_
  refine ir_ge (tgt := 31) hx hb dX12_of_9 (by decide) (by show ((-2147483648) : Int) ≤ 1 ∧ (1 : Int) ≤ 2147483647; decide) (by show ((-2147483648) : Int) ≤ 5 ∧ (5 : Int) ≤ 2147483647; decide) (fun c_2 => by exfalso; omega) (fun c_2 => ?_)
  refine lv_iload_n hx hb dX12_of_12 rfl (lv_at hlv 1 rfl) ?_
  refine lv_iconst (v := iI 5) hx hb dX12_of_13 (by decide) ?_
  refine lv_ishl hx hb dX12_of_14 ?_
  refine lt_i (y := iI 384) (by decide) ?_
  refine lv_aload_n hx hb dX12_of_15 rfl (lv_at hlv 2 rfl) ?_
  refine lv_iload_n hx hb dX12_of_16 rfl (lv_at hlv 0 rfl) ?_
  refine cjr_i [] (fun pre9 => (va_runV (As := [vI 1]) (rest := [vI 384]) ⟨hx, hb, hml, hown, hts⟩ (s_charAt l hl D cy sa 36 1 H.size (by show (0 : Int) ≤ 36 ∧ (36 : Int) ≤ 55; decide) (by show (0 : Int) ≤ 1 ∧ (1 : Int) ≤ 6; decide) (by omega)) (cwV 1 hts gg_1 rfl rfl rfl (by decide +kernel) ⟨Nat.le_of_ble_eq_true rfl, Nat.le_of_ble_eq_true rfl⟩) ⟨pcW.blind, (wo_recv (WD.tx hT.2.2 (36 : Int).toNat (by omega)).1 hS), pre9⟩ rfl rfl hlv.1 rfl (lv_room (Nat.le_of_ble_eq_true rfl)) dX12_of_17 ⟨Nat.le_of_ble_eq_true rfl, Nat.le_of_ble_eq_true rfl⟩)) hP hD hS hA hG hT [] rfl (by decide +kernel) (fun r4 u4 H locs hw4 hq9 hS => ?_)
  obtain ⟨rfl, hq4_1, hq4_2⟩ := hw4
  obtain ⟨hP, hD⟩ := pd9 [] hq9
  have hev4 : (u4.2.1 0) = 111 := by first | (rw [hq4_2]; rfl) | omega
  refine lt_i (y := iI 111) (by rw [show (u4.2.1 0) = 111 by omega]) ?_
  refine lv_bipush (v := iI 96) hx hb dX12_of_20 (by decide) ?_
  refine lv_isub hx hb dX12_of_22 ?_
  refine lt_i (y := iI 15) (by decide) ?_
  refine lv_ior hx hb dX12_of_23 ?_
  refine lt_i (y := iI 399) (by decide) ?_
  refine lv_istore_n (lv' := [(1, vI 399), (2, vI 1), (0, .ref (sn sa 36))]) hx hb dX12_of_24 rfl hlv (by decide) rfl (fun ls hlv => ?_)
  refine lv_iinc (v := iI 2) (lv' := [(2, vI 2), (1, vI 399), (0, .ref (sn sa 36))]) hx hb dX12_of_25 hlv (k := 1) rfl (by decide) (by decide) rfl (fun ls hlv => ?_)
  refine lv_goto (tgt := 4) hx hb dX12_of_28 (by decide) ?_
  refine lv_iload_n hx hb dX12_of_4 rfl (lv_at hlv 0 rfl) ?_
  refine lv_aload_n hx hb dX12_of_5 rfl (lv_at hlv 2 rfl) ?_
  refine cjr_i [] (fun pre9 => (va_runV (As := []) (rest := [vI 2]) ⟨hx, hb, hml, hown, hts⟩ (s_length l hl D cy sa 36 H.size (by show (0 : Int) ≤ 36 ∧ (36 : Int) ≤ 55; decide)) (cwV 0 hts gg_0 rfl rfl rfl (by decide +kernel) ⟨Nat.le_of_ble_eq_true rfl, Nat.le_of_ble_eq_true rfl⟩) ⟨pcW.blind, (wo_recv (WD.tx hT.2.2 (36 : Int).toNat (by omega)).1 hS), pre9⟩ rfl rfl hlv.1 rfl (lv_room (Nat.le_of_ble_eq_true rfl)) dX12_of_6 ⟨Nat.le_of_ble_eq_true rfl, Nat.le_of_ble_eq_true rfl⟩)) hP hD hS hA hG hT [] rfl (by decide +kernel) (fun r5 u5 H locs hw5 hq9 hS => ?_)
  obtain ⟨rfl, hq5_1, hq5_2⟩ := hw5
  obtain ⟨hP, hD⟩ := pd9 [] hq9
  have hev5 : (u5.2.1 0) = 5 := by first | (rw [hq5_2]; rfl) | omega
  refine lt_i (y := iI 5) (by rw [show (u5.2.1 0) = 5 by omega]) ?_
  refine ir_ge (tgt := 31) hx hb dX12_of_9 (by decide) (by show ((-2147483648) : Int) ≤ 2 ∧ (2 : Int) ≤ 2147483647; decide) (by show ((-2147483648) : Int) ≤ 5 ∧ (5 : Int) ≤ 2147483647; decide) (fun c_3 => by exfalso; omega) (fun c_3 => ?_)
  refine lv_iload_n hx hb dX12_of_12 rfl (lv_at hlv 1 rfl) ?_
  refine lv_iconst (v := iI 5) hx hb dX12_of_13 (by decide) ?_
  refine lv_ishl hx hb dX12_of_14 ?_
  refine lt_i (y := iI 12768) (by decide) ?_
  refine lv_aload_n hx hb dX12_of_15 rfl (lv_at hlv 2 rfl) ?_
  refine lv_iload_n hx hb dX12_of_16 rfl (lv_at hlv 0 rfl) ?_
  refine cjr_i [] (fun pre9 => (va_runV (As := [vI 2]) (rest := [vI 12768]) ⟨hx, hb, hml, hown, hts⟩ (s_charAt l hl D cy sa 36 2 H.size (by show (0 : Int) ≤ 36 ∧ (36 : Int) ≤ 55; decide) (by show (0 : Int) ≤ 2 ∧ (2 : Int) ≤ 6; decide) (by omega)) (cwV 1 hts gg_1 rfl rfl rfl (by decide +kernel) ⟨Nat.le_of_ble_eq_true rfl, Nat.le_of_ble_eq_true rfl⟩) ⟨pcW.blind, (wo_recv (WD.tx hT.2.2 (36 : Int).toNat (by omega)).1 hS), pre9⟩ rfl rfl hlv.1 rfl (lv_room (Nat.le_of_ble_eq_true rfl)) dX12_of_17 ⟨Nat.le_of_ble_eq_true rfl, Nat.le_of_ble_eq_true rfl⟩)) hP hD hS hA hG hT [] rfl (by decide +kernel) (fun r6 u6 H locs hw6 hq9 hS => ?_)
  obtain ⟨rfl, hq6_1, hq6_2⟩ := hw6
  obtain ⟨hP, hD⟩ := pd9 [] hq9
  have hev6 : (u6.2.1 0) = 119 := by first | (rw [hq6_2]; rfl) | omega
  refine lt_i (y := iI 119) (by rw [show (u6.2.1 0) = 119 by omega]) ?_
  refine lv_bipush (v := iI 96) hx hb dX12_of_20 (by decide) ?_
  refine lv_isub hx hb dX12_of_22 ?_
  refine lt_i (y := iI 23) (by decide) ?_
  refine lv_ior hx hb dX12_of_23 ?_
  refine lt_i (y := iI 12791) (by decide) ?_
  refine lv_istore_n (lv' := [(1, vI 12791), (2, vI 2), (0, .ref (sn sa 36))]) hx hb dX12_of_24 rfl hlv (by decide) rfl (fun ls hlv => ?_)
  refine lv_iinc (v := iI 3) (lv' := [(2, vI 3), (1, vI 12791), (0, .ref (sn sa 36))]) hx hb dX12_of_25 hlv (k := 1) rfl (by decide) (by decide) rfl (fun ls hlv => ?_)
  refine lv_goto (tgt := 4) hx hb dX12_of_28 (by decide) ?_
  refine lv_iload_n hx hb dX12_of_4 rfl (lv_at hlv 0 rfl) ?_
  refine lv_aload_n hx hb dX12_of_5 rfl (lv_at hlv 2 rfl) ?_
  refine cjr_i [] (fun pre9 => (va_runV (As := []) (rest := [vI 3]) ⟨hx, hb, hml, hown, hts⟩ (s_length l hl D cy sa 36 H.size (by show (0 : Int) ≤ 36 ∧ (36 : Int) ≤ 55; decide)) (cwV 0 hts gg_0 rfl rfl rfl (by decide +kernel) ⟨Nat.le_of_ble_eq_true rfl, Nat.le_of_ble_eq_true rfl⟩) ⟨pcW.blind, (wo_recv (WD.tx hT.2.2 (36 : Int).toNat (by omega)).1 hS), pre9⟩ rfl rfl hlv.1 rfl (lv_room (Nat.le_of_ble_eq_true rfl)) dX12_of_6 ⟨Nat.le_of_ble_eq_true rfl, Nat.le_of_ble_eq_true rfl⟩)) hP hD hS hA hG hT [] rfl (by decide +kernel) (fun r7 u7 H locs hw7 hq9 hS => ?_)
  obtain ⟨rfl, hq7_1, hq7_2⟩ := hw7
  obtain ⟨hP, hD⟩ := pd9 [] hq9
  have hev7 : (u7.2.1 0) = 5 := by first | (rw [hq7_2]; rfl) | omega
  refine lt_i (y := iI 5) (by rw [show (u7.2.1 0) = 5 by omega]) ?_
  refine ir_ge (tgt := 31) hx hb dX12_of_9 (by decide) (by show ((-2147483648) : Int) ≤ 3 ∧ (3 : Int) ≤ 2147483647; decide) (by show ((-2147483648) : Int) ≤ 5 ∧ (5 : Int) ≤ 2147483647; decide) (fun c_4 => by exfalso; omega) (fun c_4 => ?_)
  refine lv_iload_n hx hb dX12_of_12 rfl (lv_at hlv 1 rfl) ?_
  refine lv_iconst (v := iI 5) hx hb dX12_of_13 (by decide) ?_
  refine lv_ishl hx hb dX12_of_14 ?_
  refine lt_i (y := iI 409312) (by decide) ?_
  refine lv_aload_n hx hb dX12_of_15 rfl (lv_at hlv 2 rfl) ?_
  refine lv_iload_n hx hb dX12_of_16 rfl (lv_at hlv 0 rfl) ?_
  refine cjr_i [] (fun pre9 => (va_runV (As := [vI 3]) (rest := [vI 409312]) ⟨hx, hb, hml, hown, hts⟩ (s_charAt l hl D cy sa 36 3 H.size (by show (0 : Int) ≤ 36 ∧ (36 : Int) ≤ 55; decide) (by show (0 : Int) ≤ 3 ∧ (3 : Int) ≤ 6; decide) (by omega)) (cwV 1 hts gg_1 rfl rfl rfl (by decide +kernel) ⟨Nat.le_of_ble_eq_true rfl, Nat.le_of_ble_eq_true rfl⟩) ⟨pcW.blind, (wo_recv (WD.tx hT.2.2 (36 : Int).toNat (by omega)).1 hS), pre9⟩ rfl rfl hlv.1 rfl (lv_room (Nat.le_of_ble_eq_true rfl)) dX12_of_17 ⟨Nat.le_of_ble_eq_true rfl, Nat.le_of_ble_eq_true rfl⟩)) hP hD hS hA hG hT [] rfl (by decide +kernel) (fun r8 u8 H locs hw8 hq9 hS => ?_)
  obtain ⟨rfl, hq8_1, hq8_2⟩ := hw8
  obtain ⟨hP, hD⟩ := pd9 [] hq9
  have hev8 : (u8.2.1 0) = 101 := by first | (rw [hq8_2]; rfl) | omega
  refine lt_i (y := iI 101) (by rw [show (u8.2.1 0) = 101 by omega]) ?_
  refine lv_bipush (v := iI 96) hx hb dX12_of_20 (by decide) ?_
  refine lv_isub hx hb dX12_of_22 ?_
  refine lt_i (y := iI 5) (by decide) ?_
  refine lv_ior hx hb dX12_of_23 ?_
  refine lt_i (y := iI 409317) (by decide) ?_
  refine lv_istore_n (lv' := [(1, vI 409317), (2, vI 3), (0, .ref (sn sa 36))]) hx hb dX12_of_24 rfl hlv (by decide) rfl (fun ls hlv => ?_)
  refine lv_iinc (v := iI 4) (lv' := [(2, vI 4), (1, vI 409317), (0, .ref (sn sa 36))]) hx hb dX12_of_25 hlv (k := 1) rfl (by decide) (by decide) rfl (fun ls hlv => ?_)
  refine lv_goto (tgt := 4) hx hb dX12_of_28 (by decide) ?_
  refine lv_iload_n hx hb dX12_of_4 rfl (lv_at hlv 0 rfl) ?_
  refine lv_aload_n hx hb dX12_of_5 rfl (lv_at hlv 2 rfl) ?_
  refine cjr_i [] (fun pre9 => (va_runV (As := []) (rest := [vI 4]) ⟨hx, hb, hml, hown, hts⟩ (s_length l hl D cy sa 36 H.size (by show (0 : Int) ≤ 36 ∧ (36 : Int) ≤ 55; decide)) (cwV 0 hts gg_0 rfl rfl rfl (by decide +kernel) ⟨Nat.le_of_ble_eq_true rfl, Nat.le_of_ble_eq_true rfl⟩) ⟨pcW.blind, (wo_recv (WD.tx hT.2.2 (36 : Int).toNat (by omega)).1 hS), pre9⟩ rfl rfl hlv.1 rfl (lv_room (Nat.le_of_ble_eq_true rfl)) dX12_of_6 ⟨Nat.le_of_ble_eq_true rfl, Nat.le_of_ble_eq_true rfl⟩)) hP hD hS hA hG hT [] rfl (by decide +kernel) (fun r9 u9 H locs hw9 hq9 hS => ?_)
  obtain ⟨rfl, hq9_1, hq9_2⟩ := hw9
  obtain ⟨hP, hD⟩ := pd9 [] hq9
  have hev9 : (u9.2.1 0) = 5 := by first | (rw [hq9_2]; rfl) | omega
  refine lt_i (y := iI 5) (by rw [show (u9.2.1 0) = 5 by omega]) ?_
  refine ir_ge (tgt := 31) hx hb dX12_of_9 (by decide) (by show ((-2147483648) : Int) ≤ 4 ∧ (4 : Int) ≤ 2147483647; decide) (by show ((-2147483648) : Int) ≤ 5 ∧ (5 : Int) ≤ 2147483647; decide) (fun c_5 => by exfalso; omega) (fun c_5 => ?_)
  refine lv_iload_n hx hb dX12_of_12 rfl (lv_at hlv 1 rfl) ?_
  refine lv_iconst (v := iI 5) hx hb dX12_of_13 (by decide) ?_
  refine lv_ishl hx hb dX12_of_14 ?_
  refine lt_i (y := iI 13098144) (by decide) ?_
  refine lv_aload_n hx hb dX12_of_15 rfl (lv_at hlv 2 rfl) ?_
  refine lv_iload_n hx hb dX12_of_16 rfl (lv_at hlv 0 rfl) ?_
  refine cjr_i [] (fun pre9 => (va_runV (As := [vI 4]) (rest := [vI 13098144]) ⟨hx, hb, hml, hown, hts⟩ (s_charAt l hl D cy sa 36 4 H.size (by show (0 : Int) ≤ 36 ∧ (36 : Int) ≤ 55; decide) (by show (0 : Int) ≤ 4 ∧ (4 : Int) ≤ 6; decide) (by omega)) (cwV 1 hts gg_1 rfl rfl rfl (by decide +kernel) ⟨Nat.le_of_ble_eq_true rfl, Nat.le_of_ble_eq_true rfl⟩) ⟨pcW.blind, (wo_recv (WD.tx hT.2.2 (36 : Int).toNat (by omega)).1 hS), pre9⟩ rfl rfl hlv.1 rfl (lv_room (Nat.le_of_ble_eq_true rfl)) dX12_of_17 ⟨Nat.le_of_ble_eq_true rfl, Nat.le_of_ble_eq_true rfl⟩)) hP hD hS hA hG hT [] rfl (by decide +kernel) (fun r10 u10 H locs hw10 hq9 hS => ?_)
  obtain ⟨rfl, hq10_1, hq10_2⟩ := hw10
  obtain ⟨hP, hD⟩ := pd9 [] hq9
  have hev10 : (u10.2.1 0) = 114 := by first | (rw [hq10_2]; rfl) | omega
  refine lt_i (y := iI 114) (by rw [show (u10.2.1 0) = 114 by omega]) ?_
  refine lv_bipush (v := iI 96) hx hb dX12_of_20 (by decide) ?_
  refine lv_isub hx hb dX12_of_22 ?_
  refine lt_i (y := iI 18) (by decide) ?_
  refine lv_ior hx hb dX12_of_23 ?_
  refine lt_i (y := iI 13098162) (by decide) ?_
  refine lv_istore_n (lv' := [(1, vI 13098162), (2, vI 4), (0, .ref (sn sa 36))]) hx hb dX12_of_24 rfl hlv (by decide) rfl (fun ls hlv => ?_)
  refine lv_iinc (v := iI 5) (lv' := [(2, vI 5), (1, vI 13098162), (0, .ref (sn sa 36))]) hx hb dX12_of_25 hlv (k := 1) rfl (by decide) (by decide) rfl (fun ls hlv => ?_)
  refine lv_goto (tgt := 4) hx hb dX12_of_28 (by decide) ?_
  refine lv_iload_n hx hb dX12_of_4 rfl (lv_at hlv 0 rfl) ?_
  refine lv_aload_n hx hb dX12_of_5 rfl (lv_at hlv 2 rfl) ?_
  refine cjr_i [] (fun pre9 => (va_runV (As := []) (rest := [vI 5]) ⟨hx, hb, hml, hown, hts⟩ (s_length l hl D cy sa 36 H.size (by show (0 : Int) ≤ 36 ∧ (36 : Int) ≤ 55; decide)) (cwV 0 hts gg_0 rfl rfl rfl (by decide +kernel) ⟨Nat.le_of_ble_eq_true rfl, Nat.le_of_ble_eq_true rfl⟩) ⟨pcW.blind, (wo_recv (WD.tx hT.2.2 (36 : Int).toNat (by omega)).1 hS), pre9⟩ rfl rfl hlv.1 rfl (lv_room (Nat.le_of_ble_eq_true rfl)) dX12_of_6 ⟨Nat.le_of_ble_eq_true rfl, Nat.le_of_ble_eq_true rfl⟩)) hP hD hS hA hG hT [] rfl (by decide +kernel) (fun r11 u11 H locs hw11 hq9 hS => ?_)
  obtain ⟨rfl, hq11_1, hq11_2⟩ := hw11
  obtain ⟨hP, hD⟩ := pd9 [] hq9
  have hev11 : (u11.2.1 0) = 5 := by first | (rw [hq11_2]; rfl) | omega
  refine lt_i (y := iI 5) (by rw [show (u11.2.1 0) = 5 by omega]) ?_
  refine ir_ge (tgt := 31) hx hb dX12_of_9 (by decide) (by show ((-2147483648) : Int) ≤ 5 ∧ (5 : Int) ≤ 2147483647; decide) (by show ((-2147483648) : Int) ≤ 5 ∧ (5 : Int) ≤ 2147483647; decide) (fun c_6 => ?_) (fun c_6 => by exfalso; omega)
  refine lv_iload_n hx hb dX12_of_31 rfl (lv_at hlv 1 rfl) ?_
  refine W.widen (k := 0) (n := 0) (Nat.le_of_ble_eq_true rfl) (Nat.le_of_ble_eq_true rfl) ?_
  exact W.iret (v := iI 13098162) hx hb hr (fun t ht hW => ⟨⟨iI 13098162, ((fun k => ([] : List Nat).getD k 0), (fun k => ([13098162] : List Int).getD k 0), (fun k => ([] : List (Nat → Int32)).getD k (fun _ => 0))), rfl, ⟨rfl, (by show (13098162 ≤ 13098162 ∧ 13098162 ≤ 13098162); show (13098162 : Int) ≤ 13098162 ∧ (13098162 : Int) ≤ 13098162; decide)⟩, at9 ht hP hD [] (by decide +kernel) rfl⟩, hS.F ht⟩) hS.2.2 dX12_of_32
def vs_m_of9 : List Cond := .code yX12_of cX12_of 3 (some .int) :: (([] : List Cond) ++ ((wsV RX12 100 RJ0 yJ0_length_8abf5 vs_s_length) ++ ((wsV RX12 105 RJ0 yJ0_charAt_5068e vs_s_charAt) ++ ([]))))
theorem gd_m_of9 : vs_m_of9.all goodWord = true := gd_C (by decide +kernel) (gd_A (by decide +kernel) (gd_A (gd_V gd_s_length (by decide +kernel)) (gd_A (gd_V gd_s_charAt (by decide +kernel)) rfl)))
set_option maxHeartbeats 4000000 in
set_option maxRecDepth 100000 in
theorem m_of9 (l : Launch) (hl : l.stackTraces = false) (D : va_G) (cy : Nat → ClassId) (sa : Nat → Nat)  (sz : Nat) : mI9 l yX12_of vs_m_of9 ({ frames := 4, cells := 0, slots := 0, locals := 85 }) D cy sa sz [.ref (sn sa 37)] [] (fun (r : Int32) (u : SV) => r = iI (u.2.1 0) ∧ (81477 ≤ u.2.1 0 ∧ u.2.1 0 ≤ 81477)) (fun u : SV => []) 0 0 := by
  refine Met.ofW (cc := cX12_of) (maxL := 3) (ret := (some .int)) (by decide) rfl ?_
  intro p e s m args below meth c s₁ B hml hv
  obtain ⟨rfl, hsz, hP, hG, hD0, hT⟩ := hv
  have hx := B.exec
  have hb := B.bytes
  have hr := B.returns
  have hts := atoms_spec (ws := vs_m_of9) B.pre
  have hown : s.vm.findClass RX12 = some m.cls := findClass_of_methodNamed B.named
  have hlocks := B.notSynchronized
  subst hsz
  have hD := hD0.self (sz := s.heap.size)
  generalize hAe : va_A [] s.heap.size = A at hD hT ⊢
  have hA : ∀ q : Nat, s.heap.size ≤ q → A q := fun q h => by rw [← hAe]; exact Or.inr h
  have hS : va_S A s.heap s.heap [] := va_S.rf
  have hl0 := lv_entry ([.ref (sn sa 37)]) (n := 3) (Nat.le_of_ble_eq_true rfl)
  rw [lg_entry_eq]
  generalize (lg_sl ([.ref (sn sa 37)]) ++ List.replicate (3 - (lg_sl ([.ref (sn sa 37)])).length) Slot.unset).toArray = ls at hl0 ⊢
  have hlv : lv_has ls 3 [(0, .ref (sn sa 37))] := hl0
  have gg_0 : GoodIn vs_m_of9 (wsV RX12 100 RJ0 yJ0_length_8abf5 vs_s_length) := goodIn_sub (fun w h => List.mem_cons_of_mem _ (List.mem_append_right _ (List.mem_append_left _ h))) (gd_V gd_s_length (by decide +kernel))
  have gg_1 : GoodIn vs_m_of9 (wsV RX12 105 RJ0 yJ0_charAt_5068e vs_s_charAt) := goodIn_sub (fun w h => List.mem_cons_of_mem _ (List.mem_append_right _ (List.mem_append_right _ (List.mem_append_left _ h)))) (gd_V gd_s_charAt (by decide +kernel))
  refine lv_iconst (v := iI 0) hx hb dX12_of_0 (by decide) ?_
  refine lv_istore_n (lv' := [(1, vI 0), (0, .ref (sn sa 37))]) hx hb dX12_of_1 rfl hlv (by decide) rfl (fun ls hlv => ?_)
  refine lv_iconst (v := iI 0) hx hb dX12_of_2 (by decide) ?_
  refine lv_istore_n (lv' := [(2, vI 0), (1, vI 0), (0, .ref (sn sa 37))]) hx hb dX12_of_3 rfl hlv (by decide) rfl (fun ls hlv => ?_)
  refine lv_iload_n hx hb dX12_of_4 rfl (lv_at hlv 0 rfl) ?_
  refine lv_aload_n hx hb dX12_of_5 rfl (lv_at hlv 2 rfl) ?_
  refine cjr_i [] (fun pre9 => (va_runV (As := []) (rest := [vI 0]) ⟨hx, hb, hml, hown, hts⟩ (s_length l hl D cy sa 37 s.heap.size (by show (0 : Int) ≤ 37 ∧ (37 : Int) ≤ 55; decide)) (cwV 0 hts gg_0 rfl rfl rfl (by decide +kernel) ⟨Nat.le_of_ble_eq_true rfl, Nat.le_of_ble_eq_true rfl⟩) ⟨pcW.blind, (wo_recv (WD.tx hT.2.2 (37 : Int).toNat (by omega)).1 hS), pre9⟩ rfl rfl hlv.1 rfl (lv_room (Nat.le_of_ble_eq_true rfl)) dX12_of_6 ⟨Nat.le_of_ble_eq_true rfl, Nat.le_of_ble_eq_true rfl⟩)) hP hD hS hA hG hT [] rfl (by decide +kernel) (fun r1 u1 H locs hw1 hq9 hS => ?_)
  obtain ⟨rfl, hq1_1, hq1_2⟩ := hw1
  obtain ⟨hP, hD⟩ := pd9 [] hq9
  have hev1 : (u1.2.1 0) = 4 := by first | (rw [hq1_2]; rfl) | omega
  refine lt_i (y := iI 4) (by rw [show (u1.2.1 0) = 4 by omega]) ?_
  refine ir_ge (tgt := 31) hx hb dX12_of_9 (by decide) (by show ((-2147483648) : Int) ≤ 0 ∧ (0 : Int) ≤ 2147483647; decide) (by show ((-2147483648) : Int) ≤ 4 ∧ (4 : Int) ≤ 2147483647; decide) (fun c_1 => by exfalso; omega) (fun c_1 => ?_)
  refine lv_iload_n hx hb dX12_of_12 rfl (lv_at hlv 1 rfl) ?_
  refine lv_iconst (v := iI 5) hx hb dX12_of_13 (by decide) ?_
  refine lv_ishl hx hb dX12_of_14 ?_
  refine lt_i (y := iI 0) (by decide) ?_
  refine lv_aload_n hx hb dX12_of_15 rfl (lv_at hlv 2 rfl) ?_
  refine lv_iload_n hx hb dX12_of_16 rfl (lv_at hlv 0 rfl) ?_
  refine cjr_i [] (fun pre9 => (va_runV (As := [vI 0]) (rest := [vI 0]) ⟨hx, hb, hml, hown, hts⟩ (s_charAt l hl D cy sa 37 0 H.size (by show (0 : Int) ≤ 37 ∧ (37 : Int) ≤ 55; decide) (by show (0 : Int) ≤ 0 ∧ (0 : Int) ≤ 6; decide) (by omega)) (cwV 1 hts gg_1 rfl rfl rfl (by decide +kernel) ⟨Nat.le_of_ble_eq_true rfl, Nat.le_of_ble_eq_true rfl⟩) ⟨pcW.blind, (wo_recv (WD.tx hT.2.2 (37 : Int).toNat (by omega)).1 hS), pre9⟩ rfl rfl hlv.1 rfl (lv_room (Nat.le_of_ble_eq_true rfl)) dX12_of_17 ⟨Nat.le_of_ble_eq_true rfl, Nat.le_of_ble_eq_true rfl⟩)) hP hD hS hA hG hT [] rfl (by decide +kernel) (fun r2 u2 H locs hw2 hq9 hS => ?_)
  obtain ⟨rfl, hq2_1, hq2_2⟩ := hw2
  obtain ⟨hP, hD⟩ := pd9 [] hq9
  have hev2 : (u2.2.1 0) = 98 := by first | (rw [hq2_2]; rfl) | omega
  refine lt_i (y := iI 98) (by rw [show (u2.2.1 0) = 98 by omega]) ?_
  refine lv_bipush (v := iI 96) hx hb dX12_of_20 (by decide) ?_
  refine lv_isub hx hb dX12_of_22 ?_
  refine lt_i (y := iI 2) (by decide) ?_
  refine lv_ior hx hb dX12_of_23 ?_
  refine lt_i (y := iI 2) (by decide) ?_
  refine lv_istore_n (lv' := [(1, vI 2), (2, vI 0), (0, .ref (sn sa 37))]) hx hb dX12_of_24 rfl hlv (by decide) rfl (fun ls hlv => ?_)
  refine lv_iinc (v := iI 1) (lv' := [(2, vI 1), (1, vI 2), (0, .ref (sn sa 37))]) hx hb dX12_of_25 hlv (k := 1) rfl (by decide) (by decide) rfl (fun ls hlv => ?_)
  refine lv_goto (tgt := 4) hx hb dX12_of_28 (by decide) ?_
  refine lv_iload_n hx hb dX12_of_4 rfl (lv_at hlv 0 rfl) ?_
  refine lv_aload_n hx hb dX12_of_5 rfl (lv_at hlv 2 rfl) ?_
  refine cjr_i [] (fun pre9 => (va_runV (As := []) (rest := [vI 1]) ⟨hx, hb, hml, hown, hts⟩ (s_length l hl D cy sa 37 H.size (by show (0 : Int) ≤ 37 ∧ (37 : Int) ≤ 55; decide)) (cwV 0 hts gg_0 rfl rfl rfl (by decide +kernel) ⟨Nat.le_of_ble_eq_true rfl, Nat.le_of_ble_eq_true rfl⟩) ⟨pcW.blind, (wo_recv (WD.tx hT.2.2 (37 : Int).toNat (by omega)).1 hS), pre9⟩ rfl rfl hlv.1 rfl (lv_room (Nat.le_of_ble_eq_true rfl)) dX12_of_6 ⟨Nat.le_of_ble_eq_true rfl, Nat.le_of_ble_eq_true rfl⟩)) hP hD hS hA hG hT [] rfl (by decide +kernel) (fun r3 u3 H locs hw3 hq9 hS => ?_)
  obtain ⟨rfl, hq3_1, hq3_2⟩ := hw3
  obtain ⟨hP, hD⟩ := pd9 [] hq9
  have hev3 : (u3.2.1 0) = 4 := by first | (rw [hq3_2]; rfl) | omega
  refine lt_i (y := iI 4) (by rw [show (u3.2.1 0) = 4 by omega]) ?_
  refine ir_ge (tgt := 31) hx hb dX12_of_9 (by decide) (by show ((-2147483648) : Int) ≤ 1 ∧ (1 : Int) ≤ 2147483647; decide) (by show ((-2147483648) : Int) ≤ 4 ∧ (4 : Int) ≤ 2147483647; decide) (fun c_2 => by exfalso; omega) (fun c_2 => ?_)
  refine lv_iload_n hx hb dX12_of_12 rfl (lv_at hlv 1 rfl) ?_
  refine lv_iconst (v := iI 5) hx hb dX12_of_13 (by decide) ?_
  refine lv_ishl hx hb dX12_of_14 ?_
  refine lt_i (y := iI 64) (by decide) ?_
  refine lv_aload_n hx hb dX12_of_15 rfl (lv_at hlv 2 rfl) ?_
  refine lv_iload_n hx hb dX12_of_16 rfl (lv_at hlv 0 rfl) ?_
  refine cjr_i [] (fun pre9 => (va_runV (As := [vI 1]) (rest := [vI 64]) ⟨hx, hb, hml, hown, hts⟩ (s_charAt l hl D cy sa 37 1 H.size (by show (0 : Int) ≤ 37 ∧ (37 : Int) ≤ 55; decide) (by show (0 : Int) ≤ 1 ∧ (1 : Int) ≤ 6; decide) (by omega)) (cwV 1 hts gg_1 rfl rfl rfl (by decide +kernel) ⟨Nat.le_of_ble_eq_true rfl, Nat.le_of_ble_eq_true rfl⟩) ⟨pcW.blind, (wo_recv (WD.tx hT.2.2 (37 : Int).toNat (by omega)).1 hS), pre9⟩ rfl rfl hlv.1 rfl (lv_room (Nat.le_of_ble_eq_true rfl)) dX12_of_17 ⟨Nat.le_of_ble_eq_true rfl, Nat.le_of_ble_eq_true rfl⟩)) hP hD hS hA hG hT [] rfl (by decide +kernel) (fun r4 u4 H locs hw4 hq9 hS => ?_)
  obtain ⟨rfl, hq4_1, hq4_2⟩ := hw4
  obtain ⟨hP, hD⟩ := pd9 [] hq9
  have hev4 : (u4.2.1 0) = 111 := by first | (rw [hq4_2]; rfl) | omega
  refine lt_i (y := iI 111) (by rw [show (u4.2.1 0) = 111 by omega]) ?_
  refine lv_bipush (v := iI 96) hx hb dX12_of_20 (by decide) ?_
  refine lv_isub hx hb dX12_of_22 ?_
  refine lt_i (y := iI 15) (by decide) ?_
  refine lv_ior hx hb dX12_of_23 ?_
  refine lt_i (y := iI 79) (by decide) ?_
  refine lv_istore_n (lv' := [(1, vI 79), (2, vI 1), (0, .ref (sn sa 37))]) hx hb dX12_of_24 rfl hlv (by decide) rfl (fun ls hlv => ?_)
  refine lv_iinc (v := iI 2) (lv' := [(2, vI 2), (1, vI 79), (0, .ref (sn sa 37))]) hx hb dX12_of_25 hlv (k := 1) rfl (by decide) (by decide) rfl (fun ls hlv => ?_)
  refine lv_goto (tgt := 4) hx hb dX12_of_28 (by decide) ?_
  refine lv_iload_n hx hb dX12_of_4 rfl (lv_at hlv 0 rfl) ?_
  refine lv_aload_n hx hb dX12_of_5 rfl (lv_at hlv 2 rfl) ?_
  refine cjr_i [] (fun pre9 => (va_runV (As := []) (rest := [vI 2]) ⟨hx, hb, hml, hown, hts⟩ (s_length l hl D cy sa 37 H.size (by show (0 : Int) ≤ 37 ∧ (37 : Int) ≤ 55; decide)) (cwV 0 hts gg_0 rfl rfl rfl (by decide +kernel) ⟨Nat.le_of_ble_eq_true rfl, Nat.le_of_ble_eq_true rfl⟩) ⟨pcW.blind, (wo_recv (WD.tx hT.2.2 (37 : Int).toNat (by omega)).1 hS), pre9⟩ rfl rfl hlv.1 rfl (lv_room (Nat.le_of_ble_eq_true rfl)) dX12_of_6 ⟨Nat.le_of_ble_eq_true rfl, Nat.le_of_ble_eq_true rfl⟩)) hP hD hS hA hG hT [] rfl (by decide +kernel) (fun r5 u5 H locs hw5 hq9 hS => ?_)
  obtain ⟨rfl, hq5_1, hq5_2⟩ := hw5
  obtain ⟨hP, hD⟩ := pd9 [] hq9
  have hev5 : (u5.2.1 0) = 4 := by first | (rw [hq5_2]; rfl) | omega
  refine lt_i (y := iI 4) (by rw [show (u5.2.1 0) = 4 by omega]) ?_
  refine ir_ge (tgt := 31) hx hb dX12_of_9 (by decide) (by show ((-2147483648) : Int) ≤ 2 ∧ (2 : Int) ≤ 2147483647; decide) (by show ((-2147483648) : Int) ≤ 4 ∧ (4 : Int) ≤ 2147483647; decide) (fun c_3 => by exfalso; omega) (fun c_3 => ?_)
  refine lv_iload_n hx hb dX12_of_12 rfl (lv_at hlv 1 rfl) ?_
  refine lv_iconst (v := iI 5) hx hb dX12_of_13 (by decide) ?_
  refine lv_ishl hx hb dX12_of_14 ?_
  refine lt_i (y := iI 2528) (by decide) ?_
  refine lv_aload_n hx hb dX12_of_15 rfl (lv_at hlv 2 rfl) ?_
  refine lv_iload_n hx hb dX12_of_16 rfl (lv_at hlv 0 rfl) ?_
  refine cjr_i [] (fun pre9 => (va_runV (As := [vI 2]) (rest := [vI 2528]) ⟨hx, hb, hml, hown, hts⟩ (s_charAt l hl D cy sa 37 2 H.size (by show (0 : Int) ≤ 37 ∧ (37 : Int) ≤ 55; decide) (by show (0 : Int) ≤ 2 ∧ (2 : Int) ≤ 6; decide) (by omega)) (cwV 1 hts gg_1 rfl rfl rfl (by decide +kernel) ⟨Nat.le_of_ble_eq_true rfl, Nat.le_of_ble_eq_true rfl⟩) ⟨pcW.blind, (wo_recv (WD.tx hT.2.2 (37 : Int).toNat (by omega)).1 hS), pre9⟩ rfl rfl hlv.1 rfl (lv_room (Nat.le_of_ble_eq_true rfl)) dX12_of_17 ⟨Nat.le_of_ble_eq_true rfl, Nat.le_of_ble_eq_true rfl⟩)) hP hD hS hA hG hT [] rfl (by decide +kernel) (fun r6 u6 H locs hw6 hq9 hS => ?_)
  obtain ⟨rfl, hq6_1, hq6_2⟩ := hw6
  obtain ⟨hP, hD⟩ := pd9 [] hq9
  have hev6 : (u6.2.1 0) = 114 := by first | (rw [hq6_2]; rfl) | omega
  refine lt_i (y := iI 114) (by rw [show (u6.2.1 0) = 114 by omega]) ?_
  refine lv_bipush (v := iI 96) hx hb dX12_of_20 (by decide) ?_
  refine lv_isub hx hb dX12_of_22 ?_
  refine lt_i (y := iI 18) (by decide) ?_
  refine lv_ior hx hb dX12_of_23 ?_
  refine lt_i (y := iI 2546) (by decide) ?_
  refine lv_istore_n (lv' := [(1, vI 2546), (2, vI 2), (0, .ref (sn sa 37))]) hx hb dX12_of_24 rfl hlv (by decide) rfl (fun ls hlv => ?_)
  refine lv_iinc (v := iI 3) (lv' := [(2, vI 3), (1, vI 2546), (0, .ref (sn sa 37))]) hx hb dX12_of_25 hlv (k := 1) rfl (by decide) (by decide) rfl (fun ls hlv => ?_)
  refine lv_goto (tgt := 4) hx hb dX12_of_28 (by decide) ?_
  refine lv_iload_n hx hb dX12_of_4 rfl (lv_at hlv 0 rfl) ?_
  refine lv_aload_n hx hb dX12_of_5 rfl (lv_at hlv 2 rfl) ?_
  refine cjr_i [] (fun pre9 => (va_runV (As := []) (rest := [vI 3]) ⟨hx, hb, hml, hown, hts⟩ (s_length l hl D cy sa 37 H.size (by show (0 : Int) ≤ 37 ∧ (37 : Int) ≤ 55; decide)) (cwV 0 hts gg_0 rfl rfl rfl (by decide +kernel) ⟨Nat.le_of_ble_eq_true rfl, Nat.le_of_ble_eq_true rfl⟩) ⟨pcW.blind, (wo_recv (WD.tx hT.2.2 (37 : Int).toNat (by omega)).1 hS), pre9⟩ rfl rfl hlv.1 rfl (lv_room (Nat.le_of_ble_eq_true rfl)) dX12_of_6 ⟨Nat.le_of_ble_eq_true rfl, Nat.le_of_ble_eq_true rfl⟩)) hP hD hS hA hG hT [] rfl (by decide +kernel) (fun r7 u7 H locs hw7 hq9 hS => ?_)
  obtain ⟨rfl, hq7_1, hq7_2⟩ := hw7
  obtain ⟨hP, hD⟩ := pd9 [] hq9
  have hev7 : (u7.2.1 0) = 4 := by first | (rw [hq7_2]; rfl) | omega
  refine lt_i (y := iI 4) (by rw [show (u7.2.1 0) = 4 by omega]) ?_
  refine ir_ge (tgt := 31) hx hb dX12_of_9 (by decide) (by show ((-2147483648) : Int) ≤ 3 ∧ (3 : Int) ≤ 2147483647; decide) (by show ((-2147483648) : Int) ≤ 4 ∧ (4 : Int) ≤ 2147483647; decide) (fun c_4 => by exfalso; omega) (fun c_4 => ?_)
  refine lv_iload_n hx hb dX12_of_12 rfl (lv_at hlv 1 rfl) ?_
  refine lv_iconst (v := iI 5) hx hb dX12_of_13 (by decide) ?_
  refine lv_ishl hx hb dX12_of_14 ?_
  refine lt_i (y := iI 81472) (by decide) ?_
  refine lv_aload_n hx hb dX12_of_15 rfl (lv_at hlv 2 rfl) ?_
  refine lv_iload_n hx hb dX12_of_16 rfl (lv_at hlv 0 rfl) ?_
  refine cjr_i [] (fun pre9 => (va_runV (As := [vI 3]) (rest := [vI 81472]) ⟨hx, hb, hml, hown, hts⟩ (s_charAt l hl D cy sa 37 3 H.size (by show (0 : Int) ≤ 37 ∧ (37 : Int) ≤ 55; decide) (by show (0 : Int) ≤ 3 ∧ (3 : Int) ≤ 6; decide) (by omega)) (cwV 1 hts gg_1 rfl rfl rfl (by decide +kernel) ⟨Nat.le_of_ble_eq_true rfl, Nat.le_of_ble_eq_true rfl⟩) ⟨pcW.blind, (wo_recv (WD.tx hT.2.2 (37 : Int).toNat (by omega)).1 hS), pre9⟩ rfl rfl hlv.1 rfl (lv_room (Nat.le_of_ble_eq_true rfl)) dX12_of_17 ⟨Nat.le_of_ble_eq_true rfl, Nat.le_of_ble_eq_true rfl⟩)) hP hD hS hA hG hT [] rfl (by decide +kernel) (fun r8 u8 H locs hw8 hq9 hS => ?_)
  obtain ⟨rfl, hq8_1, hq8_2⟩ := hw8
  obtain ⟨hP, hD⟩ := pd9 [] hq9
  have hev8 : (u8.2.1 0) = 101 := by first | (rw [hq8_2]; rfl) | omega
  refine lt_i (y := iI 101) (by rw [show (u8.2.1 0) = 101 by omega]) ?_
  refine lv_bipush (v := iI 96) hx hb dX12_of_20 (by decide) ?_
  refine lv_isub hx hb dX12_of_22 ?_
  refine lt_i (y := iI 5) (by decide) ?_
  refine lv_ior hx hb dX12_of_23 ?_
  refine lt_i (y := iI 81477) (by decide) ?_
  refine lv_istore_n (lv' := [(1, vI 81477), (2, vI 3), (0, .ref (sn sa 37))]) hx hb dX12_of_24 rfl hlv (by decide) rfl (fun ls hlv => ?_)
  refine lv_iinc (v := iI 4) (lv' := [(2, vI 4), (1, vI 81477), (0, .ref (sn sa 37))]) hx hb dX12_of_25 hlv (k := 1) rfl (by decide) (by decide) rfl (fun ls hlv => ?_)
  refine lv_goto (tgt := 4) hx hb dX12_of_28 (by decide) ?_
  refine lv_iload_n hx hb dX12_of_4 rfl (lv_at hlv 0 rfl) ?_
  refine lv_aload_n hx hb dX12_of_5 rfl (lv_at hlv 2 rfl) ?_
  refine cjr_i [] (fun pre9 => (va_runV (As := []) (rest := [vI 4]) ⟨hx, hb, hml, hown, hts⟩ (s_length l hl D cy sa 37 H.size (by show (0 : Int) ≤ 37 ∧ (37 : Int) ≤ 55; decide)) (cwV 0 hts gg_0 rfl rfl rfl (by decide +kernel) ⟨Nat.le_of_ble_eq_true rfl, Nat.le_of_ble_eq_true rfl⟩) ⟨pcW.blind, (wo_recv (WD.tx hT.2.2 (37 : Int).toNat (by omega)).1 hS), pre9⟩ rfl rfl hlv.1 rfl (lv_room (Nat.le_of_ble_eq_true rfl)) dX12_of_6 ⟨Nat.le_of_ble_eq_true rfl, Nat.le_of_ble_eq_true rfl⟩)) hP hD hS hA hG hT [] rfl (by decide +kernel) (fun r9 u9 H locs hw9 hq9 hS => ?_)
  obtain ⟨rfl, hq9_1, hq9_2⟩ := hw9
  obtain ⟨hP, hD⟩ := pd9 [] hq9
  have hev9 : (u9.2.1 0) = 4 := by first | (rw [hq9_2]; rfl) | omega
  refine lt_i (y := iI 4) (by rw [show (u9.2.1 0) = 4 by omega]) ?_
  refine ir_ge (tgt := 31) hx hb dX12_of_9 (by decide) (by show ((-2147483648) : Int) ≤ 4 ∧ (4 : Int) ≤ 2147483647; decide) (by show ((-2147483648) : Int) ≤ 4 ∧ (4 : Int) ≤ 2147483647; decide) (fun c_5 => ?_) (fun c_5 => by exfalso; omega)
  refine lv_iload_n hx hb dX12_of_31 rfl (lv_at hlv 1 rfl) ?_
  refine W.widen (k := 0) (n := 0) (Nat.le_of_ble_eq_true rfl) (Nat.le_of_ble_eq_true rfl) ?_
  exact W.iret (v := iI 81477) hx hb hr (fun t ht hW => ⟨⟨iI 81477, ((fun k => ([] : List Nat).getD k 0), (fun k => ([81477] : List Int).getD k 0), (fun k => ([] : List (Nat → Int32)).getD k (fun _ => 0))), rfl, ⟨rfl, (by show (81477 ≤ 81477 ∧ 81477 ≤ 81477); show (81477 : Int) ≤ 81477 ∧ (81477 : Int) ≤ 81477; decide)⟩, at9 ht hP hD [] (by decide +kernel) rfl⟩, hS.F ht⟩) hS.2.2 dX12_of_32
def vs_m_of10 : List Cond := .code yX12_of cX12_of 3 (some .int) :: (([] : List Cond) ++ ((wsV RX12 100 RJ0 yJ0_length_8abf5 vs_s_length) ++ ((wsV RX12 105 RJ0 yJ0_charAt_5068e vs_s_charAt) ++ ([]))))
theorem gd_m_of10 : vs_m_of10.all goodWord = true := gd_C (by decide +kernel) (gd_A (by decide +kernel) (gd_A (gd_V gd_s_length (by decide +kernel)) (gd_A (gd_V gd_s_charAt (by decide +kernel)) rfl)))
set_option maxHeartbeats 4000000 in
set_option maxRecDepth 100000 in
theorem m_of10 (l : Launch) (hl : l.stackTraces = false) (D : va_G) (cy : Nat → ClassId) (sa : Nat → Nat)  (sz : Nat) : mI9 l yX12_of vs_m_of10 ({ frames := 4, cells := 0, slots := 0, locals := 85 }) D cy sa sz [.ref (sn sa 38)] [] (fun (r : Int32) (u : SV) => r = iI (u.2.1 0) ∧ (591150 ≤ u.2.1 0 ∧ u.2.1 0 ≤ 591150)) (fun u : SV => []) 0 0 := by
  refine Met.ofW (cc := cX12_of) (maxL := 3) (ret := (some .int)) (by decide) rfl ?_
  intro p e s m args below meth c s₁ B hml hv
  obtain ⟨rfl, hsz, hP, hG, hD0, hT⟩ := hv
  have hx := B.exec
  have hb := B.bytes
  have hr := B.returns
  have hts := atoms_spec (ws := vs_m_of10) B.pre
  have hown : s.vm.findClass RX12 = some m.cls := findClass_of_methodNamed B.named
  have hlocks := B.notSynchronized
  subst hsz
  have hD := hD0.self (sz := s.heap.size)
  generalize hAe : va_A [] s.heap.size = A at hD hT ⊢
  have hA : ∀ q : Nat, s.heap.size ≤ q → A q := fun q h => by rw [← hAe]; exact Or.inr h
  have hS : va_S A s.heap s.heap [] := va_S.rf
  have hl0 := lv_entry ([.ref (sn sa 38)]) (n := 3) (Nat.le_of_ble_eq_true rfl)
  rw [lg_entry_eq]
  generalize (lg_sl ([.ref (sn sa 38)]) ++ List.replicate (3 - (lg_sl ([.ref (sn sa 38)])).length) Slot.unset).toArray = ls at hl0 ⊢
  have hlv : lv_has ls 3 [(0, .ref (sn sa 38))] := hl0
  have gg_0 : GoodIn vs_m_of10 (wsV RX12 100 RJ0 yJ0_length_8abf5 vs_s_length) := goodIn_sub (fun w h => List.mem_cons_of_mem _ (List.mem_append_right _ (List.mem_append_left _ h))) (gd_V gd_s_length (by decide +kernel))
  have gg_1 : GoodIn vs_m_of10 (wsV RX12 105 RJ0 yJ0_charAt_5068e vs_s_charAt) := goodIn_sub (fun w h => List.mem_cons_of_mem _ (List.mem_append_right _ (List.mem_append_right _ (List.mem_append_left _ h)))) (gd_V gd_s_charAt (by decide +kernel))
  refine lv_iconst (v := iI 0) hx hb dX12_of_0 (by decide) ?_
  refine lv_istore_n (lv' := [(1, vI 0), (0, .ref (sn sa 38))]) hx hb dX12_of_1 rfl hlv (by decide) rfl (fun ls hlv => ?_)
  refine lv_iconst (v := iI 0) hx hb dX12_of_2 (by decide) ?_
  refine lv_istore_n (lv' := [(2, vI 0), (1, vI 0), (0, .ref (sn sa 38))]) hx hb dX12_of_3 rfl hlv (by decide) rfl (fun ls hlv => ?_)
  refine lv_iload_n hx hb dX12_of_4 rfl (lv_at hlv 0 rfl) ?_
  refine lv_aload_n hx hb dX12_of_5 rfl (lv_at hlv 2 rfl) ?_
  refine cjr_i [] (fun pre9 => (va_runV (As := []) (rest := [vI 0]) ⟨hx, hb, hml, hown, hts⟩ (s_length l hl D cy sa 38 s.heap.size (by show (0 : Int) ≤ 38 ∧ (38 : Int) ≤ 55; decide)) (cwV 0 hts gg_0 rfl rfl rfl (by decide +kernel) ⟨Nat.le_of_ble_eq_true rfl, Nat.le_of_ble_eq_true rfl⟩) ⟨pcW.blind, (wo_recv (WD.tx hT.2.2 (38 : Int).toNat (by omega)).1 hS), pre9⟩ rfl rfl hlv.1 rfl (lv_room (Nat.le_of_ble_eq_true rfl)) dX12_of_6 ⟨Nat.le_of_ble_eq_true rfl, Nat.le_of_ble_eq_true rfl⟩)) hP hD hS hA hG hT [] rfl (by decide +kernel) (fun r1 u1 H locs hw1 hq9 hS => ?_)
  obtain ⟨rfl, hq1_1, hq1_2⟩ := hw1
  obtain ⟨hP, hD⟩ := pd9 [] hq9
  have hev1 : (u1.2.1 0) = 4 := by first | (rw [hq1_2]; rfl) | omega
  refine lt_i (y := iI 4) (by rw [show (u1.2.1 0) = 4 by omega]) ?_
  refine ir_ge (tgt := 31) hx hb dX12_of_9 (by decide) (by show ((-2147483648) : Int) ≤ 0 ∧ (0 : Int) ≤ 2147483647; decide) (by show ((-2147483648) : Int) ≤ 4 ∧ (4 : Int) ≤ 2147483647; decide) (fun c_1 => by exfalso; omega) (fun c_1 => ?_)
  refine lv_iload_n hx hb dX12_of_12 rfl (lv_at hlv 1 rfl) ?_
  refine lv_iconst (v := iI 5) hx hb dX12_of_13 (by decide) ?_
  refine lv_ishl hx hb dX12_of_14 ?_
  refine lt_i (y := iI 0) (by decide) ?_
  refine lv_aload_n hx hb dX12_of_15 rfl (lv_at hlv 2 rfl) ?_
  refine lv_iload_n hx hb dX12_of_16 rfl (lv_at hlv 0 rfl) ?_
  refine cjr_i [] (fun pre9 => (va_runV (As := [vI 0]) (rest := [vI 0]) ⟨hx, hb, hml, hown, hts⟩ (s_charAt l hl D cy sa 38 0 H.size (by show (0 : Int) ≤ 38 ∧ (38 : Int) ≤ 55; decide) (by show (0 : Int) ≤ 0 ∧ (0 : Int) ≤ 6; decide) (by omega)) (cwV 1 hts gg_1 rfl rfl rfl (by decide +kernel) ⟨Nat.le_of_ble_eq_true rfl, Nat.le_of_ble_eq_true rfl⟩) ⟨pcW.blind, (wo_recv (WD.tx hT.2.2 (38 : Int).toNat (by omega)).1 hS), pre9⟩ rfl rfl hlv.1 rfl (lv_room (Nat.le_of_ble_eq_true rfl)) dX12_of_17 ⟨Nat.le_of_ble_eq_true rfl, Nat.le_of_ble_eq_true rfl⟩)) hP hD hS hA hG hT [] rfl (by decide +kernel) (fun r2 u2 H locs hw2 hq9 hS => ?_)
  obtain ⟨rfl, hq2_1, hq2_2⟩ := hw2
  obtain ⟨hP, hD⟩ := pd9 [] hq9
  have hev2 : (u2.2.1 0) = 114 := by first | (rw [hq2_2]; rfl) | omega
  refine lt_i (y := iI 114) (by rw [show (u2.2.1 0) = 114 by omega]) ?_
  refine lv_bipush (v := iI 96) hx hb dX12_of_20 (by decide) ?_
  refine lv_isub hx hb dX12_of_22 ?_
  refine lt_i (y := iI 18) (by decide) ?_
  refine lv_ior hx hb dX12_of_23 ?_
  refine lt_i (y := iI 18) (by decide) ?_
  refine lv_istore_n (lv' := [(1, vI 18), (2, vI 0), (0, .ref (sn sa 38))]) hx hb dX12_of_24 rfl hlv (by decide) rfl (fun ls hlv => ?_)
  refine lv_iinc (v := iI 1) (lv' := [(2, vI 1), (1, vI 18), (0, .ref (sn sa 38))]) hx hb dX12_of_25 hlv (k := 1) rfl (by decide) (by decide) rfl (fun ls hlv => ?_)
  refine lv_goto (tgt := 4) hx hb dX12_of_28 (by decide) ?_
  refine lv_iload_n hx hb dX12_of_4 rfl (lv_at hlv 0 rfl) ?_
  refine lv_aload_n hx hb dX12_of_5 rfl (lv_at hlv 2 rfl) ?_
  refine cjr_i [] (fun pre9 => (va_runV (As := []) (rest := [vI 1]) ⟨hx, hb, hml, hown, hts⟩ (s_length l hl D cy sa 38 H.size (by show (0 : Int) ≤ 38 ∧ (38 : Int) ≤ 55; decide)) (cwV 0 hts gg_0 rfl rfl rfl (by decide +kernel) ⟨Nat.le_of_ble_eq_true rfl, Nat.le_of_ble_eq_true rfl⟩) ⟨pcW.blind, (wo_recv (WD.tx hT.2.2 (38 : Int).toNat (by omega)).1 hS), pre9⟩ rfl rfl hlv.1 rfl (lv_room (Nat.le_of_ble_eq_true rfl)) dX12_of_6 ⟨Nat.le_of_ble_eq_true rfl, Nat.le_of_ble_eq_true rfl⟩)) hP hD hS hA hG hT [] rfl (by decide +kernel) (fun r3 u3 H locs hw3 hq9 hS => ?_)
  obtain ⟨rfl, hq3_1, hq3_2⟩ := hw3
  obtain ⟨hP, hD⟩ := pd9 [] hq9
  have hev3 : (u3.2.1 0) = 4 := by first | (rw [hq3_2]; rfl) | omega
  refine lt_i (y := iI 4) (by rw [show (u3.2.1 0) = 4 by omega]) ?_
  refine ir_ge (tgt := 31) hx hb dX12_of_9 (by decide) (by show ((-2147483648) : Int) ≤ 1 ∧ (1 : Int) ≤ 2147483647; decide) (by show ((-2147483648) : Int) ≤ 4 ∧ (4 : Int) ≤ 2147483647; decide) (fun c_2 => by exfalso; omega) (fun c_2 => ?_)
  refine lv_iload_n hx hb dX12_of_12 rfl (lv_at hlv 1 rfl) ?_
  refine lv_iconst (v := iI 5) hx hb dX12_of_13 (by decide) ?_
  refine lv_ishl hx hb dX12_of_14 ?_
  refine lt_i (y := iI 576) (by decide) ?_
  refine lv_aload_n hx hb dX12_of_15 rfl (lv_at hlv 2 rfl) ?_
  refine lv_iload_n hx hb dX12_of_16 rfl (lv_at hlv 0 rfl) ?_
  refine cjr_i [] (fun pre9 => (va_runV (As := [vI 1]) (rest := [vI 576]) ⟨hx, hb, hml, hown, hts⟩ (s_charAt l hl D cy sa 38 1 H.size (by show (0 : Int) ≤ 38 ∧ (38 : Int) ≤ 55; decide) (by show (0 : Int) ≤ 1 ∧ (1 : Int) ≤ 6; decide) (by omega)) (cwV 1 hts gg_1 rfl rfl rfl (by decide +kernel) ⟨Nat.le_of_ble_eq_true rfl, Nat.le_of_ble_eq_true rfl⟩) ⟨pcW.blind, (wo_recv (WD.tx hT.2.2 (38 : Int).toNat (by omega)).1 hS), pre9⟩ rfl rfl hlv.1 rfl (lv_room (Nat.le_of_ble_eq_true rfl)) dX12_of_17 ⟨Nat.le_of_ble_eq_true rfl, Nat.le_of_ble_eq_true rfl⟩)) hP hD hS hA hG hT [] rfl (by decide +kernel) (fun r4 u4 H locs hw4 hq9 hS => ?_)
  obtain ⟨rfl, hq4_1, hq4_2⟩ := hw4
  obtain ⟨hP, hD⟩ := pd9 [] hq9
  have hev4 : (u4.2.1 0) = 97 := by first | (rw [hq4_2]; rfl) | omega
  refine lt_i (y := iI 97) (by rw [show (u4.2.1 0) = 97 by omega]) ?_
  refine lv_bipush (v := iI 96) hx hb dX12_of_20 (by decide) ?_
  refine lv_isub hx hb dX12_of_22 ?_
  refine lt_i (y := iI 1) (by decide) ?_
  refine lv_ior hx hb dX12_of_23 ?_
  refine lt_i (y := iI 577) (by decide) ?_
  refine lv_istore_n (lv' := [(1, vI 577), (2, vI 1), (0, .ref (sn sa 38))]) hx hb dX12_of_24 rfl hlv (by decide) rfl (fun ls hlv => ?_)
  refine lv_iinc (v := iI 2) (lv' := [(2, vI 2), (1, vI 577), (0, .ref (sn sa 38))]) hx hb dX12_of_25 hlv (k := 1) rfl (by decide) (by decide) rfl (fun ls hlv => ?_)
  refine lv_goto (tgt := 4) hx hb dX12_of_28 (by decide) ?_
  refine lv_iload_n hx hb dX12_of_4 rfl (lv_at hlv 0 rfl) ?_
  refine lv_aload_n hx hb dX12_of_5 rfl (lv_at hlv 2 rfl) ?_
  refine cjr_i [] (fun pre9 => (va_runV (As := []) (rest := [vI 2]) ⟨hx, hb, hml, hown, hts⟩ (s_length l hl D cy sa 38 H.size (by show (0 : Int) ≤ 38 ∧ (38 : Int) ≤ 55; decide)) (cwV 0 hts gg_0 rfl rfl rfl (by decide +kernel) ⟨Nat.le_of_ble_eq_true rfl, Nat.le_of_ble_eq_true rfl⟩) ⟨pcW.blind, (wo_recv (WD.tx hT.2.2 (38 : Int).toNat (by omega)).1 hS), pre9⟩ rfl rfl hlv.1 rfl (lv_room (Nat.le_of_ble_eq_true rfl)) dX12_of_6 ⟨Nat.le_of_ble_eq_true rfl, Nat.le_of_ble_eq_true rfl⟩)) hP hD hS hA hG hT [] rfl (by decide +kernel) (fun r5 u5 H locs hw5 hq9 hS => ?_)
  obtain ⟨rfl, hq5_1, hq5_2⟩ := hw5
  obtain ⟨hP, hD⟩ := pd9 [] hq9
  have hev5 : (u5.2.1 0) = 4 := by first | (rw [hq5_2]; rfl) | omega
  refine lt_i (y := iI 4) (by rw [show (u5.2.1 0) = 4 by omega]) ?_
  refine ir_ge (tgt := 31) hx hb dX12_of_9 (by decide) (by show ((-2147483648) : Int) ≤ 2 ∧ (2 : Int) ≤ 2147483647; decide) (by show ((-2147483648) : Int) ≤ 4 ∧ (4 : Int) ≤ 2147483647; decide) (fun c_3 => by exfalso; omega) (fun c_3 => ?_)
  refine lv_iload_n hx hb dX12_of_12 rfl (lv_at hlv 1 rfl) ?_
  refine lv_iconst (v := iI 5) hx hb dX12_of_13 (by decide) ?_
  refine lv_ishl hx hb dX12_of_14 ?_
  refine lt_i (y := iI 18464) (by decide) ?_
  refine lv_aload_n hx hb dX12_of_15 rfl (lv_at hlv 2 rfl) ?_
  refine lv_iload_n hx hb dX12_of_16 rfl (lv_at hlv 0 rfl) ?_
  refine cjr_i [] (fun pre9 => (va_runV (As := [vI 2]) (rest := [vI 18464]) ⟨hx, hb, hml, hown, hts⟩ (s_charAt l hl D cy sa 38 2 H.size (by show (0 : Int) ≤ 38 ∧ (38 : Int) ≤ 55; decide) (by show (0 : Int) ≤ 2 ∧ (2 : Int) ≤ 6; decide) (by omega)) (cwV 1 hts gg_1 rfl rfl rfl (by decide +kernel) ⟨Nat.le_of_ble_eq_true rfl, Nat.le_of_ble_eq_true rfl⟩) ⟨pcW.blind, (wo_recv (WD.tx hT.2.2 (38 : Int).toNat (by omega)).1 hS), pre9⟩ rfl rfl hlv.1 rfl (lv_room (Nat.le_of_ble_eq_true rfl)) dX12_of_17 ⟨Nat.le_of_ble_eq_true rfl, Nat.le_of_ble_eq_true rfl⟩)) hP hD hS hA hG hT [] rfl (by decide +kernel) (fun r6 u6 H locs hw6 hq9 hS => ?_)
  obtain ⟨rfl, hq6_1, hq6_2⟩ := hw6
  obtain ⟨hP, hD⟩ := pd9 [] hq9
  have hev6 : (u6.2.1 0) = 105 := by first | (rw [hq6_2]; rfl) | omega
  refine lt_i (y := iI 105) (by rw [show (u6.2.1 0) = 105 by omega]) ?_
  refine lv_bipush (v := iI 96) hx hb dX12_of_20 (by decide) ?_
  refine lv_isub hx hb dX12_of_22 ?_
  refine lt_i (y := iI 9) (by decide) ?_
  refine lv_ior hx hb dX12_of_23 ?_
  refine lt_i (y := iI 18473) (by decide) ?_
  refine lv_istore_n (lv' := [(1, vI 18473), (2, vI 2), (0, .ref (sn sa 38))]) hx hb dX12_of_24 rfl hlv (by decide) rfl (fun ls hlv => ?_)
  refine lv_iinc (v := iI 3) (lv' := [(2, vI 3), (1, vI 18473), (0, .ref (sn sa 38))]) hx hb dX12_of_25 hlv (k := 1) rfl (by decide) (by decide) rfl (fun ls hlv => ?_)
  refine lv_goto (tgt := 4) hx hb dX12_of_28 (by decide) ?_
  refine lv_iload_n hx hb dX12_of_4 rfl (lv_at hlv 0 rfl) ?_
  refine lv_aload_n hx hb dX12_of_5 rfl (lv_at hlv 2 rfl) ?_
  refine cjr_i [] (fun pre9 => (va_runV (As := []) (rest := [vI 3]) ⟨hx, hb, hml, hown, hts⟩ (s_length l hl D cy sa 38 H.size (by show (0 : Int) ≤ 38 ∧ (38 : Int) ≤ 55; decide)) (cwV 0 hts gg_0 rfl rfl rfl (by decide +kernel) ⟨Nat.le_of_ble_eq_true rfl, Nat.le_of_ble_eq_true rfl⟩) ⟨pcW.blind, (wo_recv (WD.tx hT.2.2 (38 : Int).toNat (by omega)).1 hS), pre9⟩ rfl rfl hlv.1 rfl (lv_room (Nat.le_of_ble_eq_true rfl)) dX12_of_6 ⟨Nat.le_of_ble_eq_true rfl, Nat.le_of_ble_eq_true rfl⟩)) hP hD hS hA hG hT [] rfl (by decide +kernel) (fun r7 u7 H locs hw7 hq9 hS => ?_)
  obtain ⟨rfl, hq7_1, hq7_2⟩ := hw7
  obtain ⟨hP, hD⟩ := pd9 [] hq9
  have hev7 : (u7.2.1 0) = 4 := by first | (rw [hq7_2]; rfl) | omega
  refine lt_i (y := iI 4) (by rw [show (u7.2.1 0) = 4 by omega]) ?_
  refine ir_ge (tgt := 31) hx hb dX12_of_9 (by decide) (by show ((-2147483648) : Int) ≤ 3 ∧ (3 : Int) ≤ 2147483647; decide) (by show ((-2147483648) : Int) ≤ 4 ∧ (4 : Int) ≤ 2147483647; decide) (fun c_4 => by exfalso; omega) (fun c_4 => ?_)
  refine lv_iload_n hx hb dX12_of_12 rfl (lv_at hlv 1 rfl) ?_
  refine lv_iconst (v := iI 5) hx hb dX12_of_13 (by decide) ?_
  refine lv_ishl hx hb dX12_of_14 ?_
  refine lt_i (y := iI 591136) (by decide) ?_
  refine lv_aload_n hx hb dX12_of_15 rfl (lv_at hlv 2 rfl) ?_
  refine lv_iload_n hx hb dX12_of_16 rfl (lv_at hlv 0 rfl) ?_
  refine cjr_i [] (fun pre9 => (va_runV (As := [vI 3]) (rest := [vI 591136]) ⟨hx, hb, hml, hown, hts⟩ (s_charAt l hl D cy sa 38 3 H.size (by show (0 : Int) ≤ 38 ∧ (38 : Int) ≤ 55; decide) (by show (0 : Int) ≤ 3 ∧ (3 : Int) ≤ 6; decide) (by omega)) (cwV 1 hts gg_1 rfl rfl rfl (by decide +kernel) ⟨Nat.le_of_ble_eq_true rfl, Nat.le_of_ble_eq_true rfl⟩) ⟨pcW.blind, (wo_recv (WD.tx hT.2.2 (38 : Int).toNat (by omega)).1 hS), pre9⟩ rfl rfl hlv.1 rfl (lv_room (Nat.le_of_ble_eq_true rfl)) dX12_of_17 ⟨Nat.le_of_ble_eq_true rfl, Nat.le_of_ble_eq_true rfl⟩)) hP hD hS hA hG hT [] rfl (by decide +kernel) (fun r8 u8 H locs hw8 hq9 hS => ?_)
  obtain ⟨rfl, hq8_1, hq8_2⟩ := hw8
  obtain ⟨hP, hD⟩ := pd9 [] hq9
  have hev8 : (u8.2.1 0) = 110 := by first | (rw [hq8_2]; rfl) | omega
  refine lt_i (y := iI 110) (by rw [show (u8.2.1 0) = 110 by omega]) ?_
  refine lv_bipush (v := iI 96) hx hb dX12_of_20 (by decide) ?_
  refine lv_isub hx hb dX12_of_22 ?_
  refine lt_i (y := iI 14) (by decide) ?_
  refine lv_ior hx hb dX12_of_23 ?_
  refine lt_i (y := iI 591150) (by decide) ?_
  refine lv_istore_n (lv' := [(1, vI 591150), (2, vI 3), (0, .ref (sn sa 38))]) hx hb dX12_of_24 rfl hlv (by decide) rfl (fun ls hlv => ?_)
  refine lv_iinc (v := iI 4) (lv' := [(2, vI 4), (1, vI 591150), (0, .ref (sn sa 38))]) hx hb dX12_of_25 hlv (k := 1) rfl (by decide) (by decide) rfl (fun ls hlv => ?_)
  refine lv_goto (tgt := 4) hx hb dX12_of_28 (by decide) ?_
  refine lv_iload_n hx hb dX12_of_4 rfl (lv_at hlv 0 rfl) ?_
  refine lv_aload_n hx hb dX12_of_5 rfl (lv_at hlv 2 rfl) ?_
  refine cjr_i [] (fun pre9 => (va_runV (As := []) (rest := [vI 4]) ⟨hx, hb, hml, hown, hts⟩ (s_length l hl D cy sa 38 H.size (by show (0 : Int) ≤ 38 ∧ (38 : Int) ≤ 55; decide)) (cwV 0 hts gg_0 rfl rfl rfl (by decide +kernel) ⟨Nat.le_of_ble_eq_true rfl, Nat.le_of_ble_eq_true rfl⟩) ⟨pcW.blind, (wo_recv (WD.tx hT.2.2 (38 : Int).toNat (by omega)).1 hS), pre9⟩ rfl rfl hlv.1 rfl (lv_room (Nat.le_of_ble_eq_true rfl)) dX12_of_6 ⟨Nat.le_of_ble_eq_true rfl, Nat.le_of_ble_eq_true rfl⟩)) hP hD hS hA hG hT [] rfl (by decide +kernel) (fun r9 u9 H locs hw9 hq9 hS => ?_)
  obtain ⟨rfl, hq9_1, hq9_2⟩ := hw9
  obtain ⟨hP, hD⟩ := pd9 [] hq9
  have hev9 : (u9.2.1 0) = 4 := by first | (rw [hq9_2]; rfl) | omega
  refine lt_i (y := iI 4) (by rw [show (u9.2.1 0) = 4 by omega]) ?_
  refine ir_ge (tgt := 31) hx hb dX12_of_9 (by decide) (by show ((-2147483648) : Int) ≤ 4 ∧ (4 : Int) ≤ 2147483647; decide) (by show ((-2147483648) : Int) ≤ 4 ∧ (4 : Int) ≤ 2147483647; decide) (fun c_5 => ?_) (fun c_5 => by exfalso; omega)
  refine lv_iload_n hx hb dX12_of_31 rfl (lv_at hlv 1 rfl) ?_
  refine W.widen (k := 0) (n := 0) (Nat.le_of_ble_eq_true rfl) (Nat.le_of_ble_eq_true rfl) ?_
  exact W.iret (v := iI 591150) hx hb hr (fun t ht hW => ⟨⟨iI 591150, ((fun k => ([] : List Nat).getD k 0), (fun k => ([591150] : List Int).getD k 0), (fun k => ([] : List (Nat → Int32)).getD k (fun _ => 0))), rfl, ⟨rfl, (by show (591150 ≤ 591150 ∧ 591150 ≤ 591150); show (591150 : Int) ≤ 591150 ∧ (591150 : Int) ≤ 591150; decide)⟩, at9 ht hP hD [] (by decide +kernel) rfl⟩, hS.F ht⟩) hS.2.2 dX12_of_32
def vs_m_of11 : List Cond := .code yX12_of cX12_of 3 (some .int) :: (([] : List Cond) ++ ((wsV RX12 100 RJ0 yJ0_length_8abf5 vs_s_length) ++ ((wsV RX12 105 RJ0 yJ0_charAt_5068e vs_s_charAt) ++ ([]))))
theorem gd_m_of11 : vs_m_of11.all goodWord = true := gd_C (by decide +kernel) (gd_A (by decide +kernel) (gd_A (gd_V gd_s_length (by decide +kernel)) (gd_A (gd_V gd_s_charAt (by decide +kernel)) rfl)))
set_option maxHeartbeats 4000000 in
set_option maxRecDepth 100000 in
theorem m_of11 (l : Launch) (hl : l.stackTraces = false) (D : va_G) (cy : Nat → ClassId) (sa : Nat → Nat)  (sz : Nat) : mI9 l yX12_of vs_m_of11 ({ frames := 4, cells := 0, slots := 0, locals := 85 }) D cy sa sz [.ref (sn sa 39)] [] (fun (r : Int32) (u : SV) => r = iI (u.2.1 0) ∧ (21252599 ≤ u.2.1 0 ∧ u.2.1 0 ≤ 21252599)) (fun u : SV => []) 0 0 := by
  refine Met.ofW (cc := cX12_of) (maxL := 3) (ret := (some .int)) (by decide) rfl ?_
  intro p e s m args below meth c s₁ B hml hv
  obtain ⟨rfl, hsz, hP, hG, hD0, hT⟩ := hv
  have hx := B.exec
  have hb := B.bytes
  have hr := B.returns
  have hts := atoms_spec (ws := vs_m_of11) B.pre
  have hown : s.vm.findClass RX12 = some m.cls := findClass_of_methodNamed B.named
  have hlocks := B.notSynchronized
  subst hsz
  have hD := hD0.self (sz := s.heap.size)
  generalize hAe : va_A [] s.heap.size = A at hD hT ⊢
  have hA : ∀ q : Nat, s.heap.size ≤ q → A q := fun q h => by rw [← hAe]; exact Or.inr h
  have hS : va_S A s.heap s.heap [] := va_S.rf
  have hl0 := lv_entry ([.ref (sn sa 39)]) (n := 3) (Nat.le_of_ble_eq_true rfl)
  rw [lg_entry_eq]
  generalize (lg_sl ([.ref (sn sa 39)]) ++ List.replicate (3 - (lg_sl ([.ref (sn sa 39)])).length) Slot.unset).toArray = ls at hl0 ⊢
  have hlv : lv_has ls 3 [(0, .ref (sn sa 39))] := hl0
  have gg_0 : GoodIn vs_m_of11 (wsV RX12 100 RJ0 yJ0_length_8abf5 vs_s_length) := goodIn_sub (fun w h => List.mem_cons_of_mem _ (List.mem_append_right _ (List.mem_append_left _ h))) (gd_V gd_s_length (by decide +kernel))
  have gg_1 : GoodIn vs_m_of11 (wsV RX12 105 RJ0 yJ0_charAt_5068e vs_s_charAt) := goodIn_sub (fun w h => List.mem_cons_of_mem _ (List.mem_append_right _ (List.mem_append_right _ (List.mem_append_left _ h)))) (gd_V gd_s_charAt (by decide +kernel))
  refine lv_iconst (v := iI 0) hx hb dX12_of_0 (by decide) ?_
  refine lv_istore_n (lv' := [(1, vI 0), (0, .ref (sn sa 39))]) hx hb dX12_of_1 rfl hlv (by decide) rfl (fun ls hlv => ?_)
  refine lv_iconst (v := iI 0) hx hb dX12_of_2 (by decide) ?_
  refine lv_istore_n (lv' := [(2, vI 0), (1, vI 0), (0, .ref (sn sa 39))]) hx hb dX12_of_3 rfl hlv (by decide) rfl (fun ls hlv => ?_)
  refine lv_iload_n hx hb dX12_of_4 rfl (lv_at hlv 0 rfl) ?_
  refine lv_aload_n hx hb dX12_of_5 rfl (lv_at hlv 2 rfl) ?_
  refine cjr_i [] (fun pre9 => (va_runV (As := []) (rest := [vI 0]) ⟨hx, hb, hml, hown, hts⟩ (s_length l hl D cy sa 39 s.heap.size (by show (0 : Int) ≤ 39 ∧ (39 : Int) ≤ 55; decide)) (cwV 0 hts gg_0 rfl rfl rfl (by decide +kernel) ⟨Nat.le_of_ble_eq_true rfl, Nat.le_of_ble_eq_true rfl⟩) ⟨pcW.blind, (wo_recv (WD.tx hT.2.2 (39 : Int).toNat (by omega)).1 hS), pre9⟩ rfl rfl hlv.1 rfl (lv_room (Nat.le_of_ble_eq_true rfl)) dX12_of_6 ⟨Nat.le_of_ble_eq_true rfl, Nat.le_of_ble_eq_true rfl⟩)) hP hD hS hA hG hT [] rfl (by decide +kernel) (fun r1 u1 H locs hw1 hq9 hS => ?_)
  obtain ⟨rfl, hq1_1, hq1_2⟩ := hw1
  obtain ⟨hP, hD⟩ := pd9 [] hq9
  have hev1 : (u1.2.1 0) = 5 := by first | (rw [hq1_2]; rfl) | omega
  refine lt_i (y := iI 5) (by rw [show (u1.2.1 0) = 5 by omega]) ?_
  refine ir_ge (tgt := 31) hx hb dX12_of_9 (by decide) (by show ((-2147483648) : Int) ≤ 0 ∧ (0 : Int) ≤ 2147483647; decide) (by show ((-2147483648) : Int) ≤ 5 ∧ (5 : Int) ≤ 2147483647; decide) (fun c_1 => by exfalso; omega) (fun c_1 => ?_)
  refine lv_iload_n hx hb dX12_of_12 rfl (lv_at hlv 1 rfl) ?_
  refine lv_iconst (v := iI 5) hx hb dX12_of_13 (by decide) ?_
  refine lv_ishl hx hb dX12_of_14 ?_
  refine lt_i (y := iI 0) (by decide) ?_
  refine lv_aload_n hx hb dX12_of_15 rfl (lv_at hlv 2 rfl) ?_
  refine lv_iload_n hx hb dX12_of_16 rfl (lv_at hlv 0 rfl) ?_
  refine cjr_i [] (fun pre9 => (va_runV (As := [vI 0]) (rest := [vI 0]) ⟨hx, hb, hml, hown, hts⟩ (s_charAt l hl D cy sa 39 0 H.size (by show (0 : Int) ≤ 39 ∧ (39 : Int) ≤ 55; decide) (by show (0 : Int) ≤ 0 ∧ (0 : Int) ≤ 6; decide) (by omega)) (cwV 1 hts gg_1 rfl rfl rfl (by decide +kernel) ⟨Nat.le_of_ble_eq_true rfl, Nat.le_of_ble_eq_true rfl⟩) ⟨pcW.blind, (wo_recv (WD.tx hT.2.2 (39 : Int).toNat (by omega)).1 hS), pre9⟩ rfl rfl hlv.1 rfl (lv_room (Nat.le_of_ble_eq_true rfl)) dX12_of_17 ⟨Nat.le_of_ble_eq_true rfl, Nat.le_of_ble_eq_true rfl⟩)) hP hD hS hA hG hT [] rfl (by decide +kernel) (fun r2 u2 H locs hw2 hq9 hS => ?_)
  obtain ⟨rfl, hq2_1, hq2_2⟩ := hw2
  obtain ⟨hP, hD⟩ := pd9 [] hq9
  have hev2 : (u2.2.1 0) = 116 := by first | (rw [hq2_2]; rfl) | omega
  refine lt_i (y := iI 116) (by rw [show (u2.2.1 0) = 116 by omega]) ?_
  refine lv_bipush (v := iI 96) hx hb dX12_of_20 (by decide) ?_
  refine lv_isub hx hb dX12_of_22 ?_
  refine lt_i (y := iI 20) (by decide) ?_
  refine lv_ior hx hb dX12_of_23 ?_
  refine lt_i (y := iI 20) (by decide) ?_
  refine lv_istore_n (lv' := [(1, vI 20), (2, vI 0), (0, .ref (sn sa 39))]) hx hb dX12_of_24 rfl hlv (by decide) rfl (fun ls hlv => ?_)
  refine lv_iinc (v := iI 1) (lv' := [(2, vI 1), (1, vI 20), (0, .ref (sn sa 39))]) hx hb dX12_of_25 hlv (k := 1) rfl (by decide) (by decide) rfl (fun ls hlv => ?_)
  refine lv_goto (tgt := 4) hx hb dX12_of_28 (by decide) ?_
  refine lv_iload_n hx hb dX12_of_4 rfl (lv_at hlv 0 rfl) ?_
  refine lv_aload_n hx hb dX12_of_5 rfl (lv_at hlv 2 rfl) ?_
  refine cjr_i [] (fun pre9 => (va_runV (As := []) (rest := [vI 1]) ⟨hx, hb, hml, hown, hts⟩ (s_length l hl D cy sa 39 H.size (by show (0 : Int) ≤ 39 ∧ (39 : Int) ≤ 55; decide)) (cwV 0 hts gg_0 rfl rfl rfl (by decide +kernel) ⟨Nat.le_of_ble_eq_true rfl, Nat.le_of_ble_eq_true rfl⟩) ⟨pcW.blind, (wo_recv (WD.tx hT.2.2 (39 : Int).toNat (by omega)).1 hS), pre9⟩ rfl rfl hlv.1 rfl (lv_room (Nat.le_of_ble_eq_true rfl)) dX12_of_6 ⟨Nat.le_of_ble_eq_true rfl, Nat.le_of_ble_eq_true rfl⟩)) hP hD hS hA hG hT [] rfl (by decide +kernel) (fun r3 u3 H locs hw3 hq9 hS => ?_)
  obtain ⟨rfl, hq3_1, hq3_2⟩ := hw3
  obtain ⟨hP, hD⟩ := pd9 [] hq9
  have hev3 : (u3.2.1 0) = 5 := by first | (rw [hq3_2]; rfl) | omega
  refine lt_i (y := iI 5) (by rw [show (u3.2.1 0) = 5 by omega]) ?_
  refine ir_ge (tgt := 31) hx hb dX12_of_9 (by decide) (by show ((-2147483648) : Int) ≤ 1 ∧ (1 : Int) ≤ 2147483647; decide) (by show ((-2147483648) : Int) ≤ 5 ∧ (5 : Int) ≤ 2147483647; decide) (fun c_2 => by exfalso; omega) (fun c_2 => ?_)
  refine lv_iload_n hx hb dX12_of_12 rfl (lv_at hlv 1 rfl) ?_
  refine lv_iconst (v := iI 5) hx hb dX12_of_13 (by decide) ?_
  refine lv_ishl hx hb dX12_of_14 ?_
  refine lt_i (y := iI 640) (by decide) ?_
  refine lv_aload_n hx hb dX12_of_15 rfl (lv_at hlv 2 rfl) ?_
  refine lv_iload_n hx hb dX12_of_16 rfl (lv_at hlv 0 rfl) ?_
  refine cjr_i [] (fun pre9 => (va_runV (As := [vI 1]) (rest := [vI 640]) ⟨hx, hb, hml, hown, hts⟩ (s_charAt l hl D cy sa 39 1 H.size (by show (0 : Int) ≤ 39 ∧ (39 : Int) ≤ 55; decide) (by show (0 : Int) ≤ 1 ∧ (1 : Int) ≤ 6; decide) (by omega)) (cwV 1 hts gg_1 rfl rfl rfl (by decide +kernel) ⟨Nat.le_of_ble_eq_true rfl, Nat.le_of_ble_eq_true rfl⟩) ⟨pcW.blind, (wo_recv (WD.tx hT.2.2 (39 : Int).toNat (by omega)).1 hS), pre9⟩ rfl rfl hlv.1 rfl (lv_room (Nat.le_of_ble_eq_true rfl)) dX12_of_17 ⟨Nat.le_of_ble_eq_true rfl, Nat.le_of_ble_eq_true rfl⟩)) hP hD hS hA hG hT [] rfl (by decide +kernel) (fun r4 u4 H locs hw4 hq9 hS => ?_)
  obtain ⟨rfl, hq4_1, hq4_2⟩ := hw4
  obtain ⟨hP, hD⟩ := pd9 [] hq9
  have hev4 : (u4.2.1 0) = 104 := by first | (rw [hq4_2]; rfl) | omega
  refine lt_i (y := iI 104) (by rw [show (u4.2.1 0) = 104 by omega]) ?_
  refine lv_bipush (v := iI 96) hx hb dX12_of_20 (by decide) ?_
  refine lv_isub hx hb dX12_of_22 ?_
  refine lt_i (y := iI 8) (by decide) ?_
  refine lv_ior hx hb dX12_of_23 ?_
  refine lt_i (y := iI 648) (by decide) ?_
  refine lv_istore_n (lv' := [(1, vI 648), (2, vI 1), (0, .ref (sn sa 39))]) hx hb dX12_of_24 rfl hlv (by decide) rfl (fun ls hlv => ?_)
  refine lv_iinc (v := iI 2) (lv' := [(2, vI 2), (1, vI 648), (0, .ref (sn sa 39))]) hx hb dX12_of_25 hlv (k := 1) rfl (by decide) (by decide) rfl (fun ls hlv => ?_)
  refine lv_goto (tgt := 4) hx hb dX12_of_28 (by decide) ?_
  refine lv_iload_n hx hb dX12_of_4 rfl (lv_at hlv 0 rfl) ?_
  refine lv_aload_n hx hb dX12_of_5 rfl (lv_at hlv 2 rfl) ?_
  refine cjr_i [] (fun pre9 => (va_runV (As := []) (rest := [vI 2]) ⟨hx, hb, hml, hown, hts⟩ (s_length l hl D cy sa 39 H.size (by show (0 : Int) ≤ 39 ∧ (39 : Int) ≤ 55; decide)) (cwV 0 hts gg_0 rfl rfl rfl (by decide +kernel) ⟨Nat.le_of_ble_eq_true rfl, Nat.le_of_ble_eq_true rfl⟩) ⟨pcW.blind, (wo_recv (WD.tx hT.2.2 (39 : Int).toNat (by omega)).1 hS), pre9⟩ rfl rfl hlv.1 rfl (lv_room (Nat.le_of_ble_eq_true rfl)) dX12_of_6 ⟨Nat.le_of_ble_eq_true rfl, Nat.le_of_ble_eq_true rfl⟩)) hP hD hS hA hG hT [] rfl (by decide +kernel) (fun r5 u5 H locs hw5 hq9 hS => ?_)
  obtain ⟨rfl, hq5_1, hq5_2⟩ := hw5
  obtain ⟨hP, hD⟩ := pd9 [] hq9
  have hev5 : (u5.2.1 0) = 5 := by first | (rw [hq5_2]; rfl) | omega
  refine lt_i (y := iI 5) (by rw [show (u5.2.1 0) = 5 by omega]) ?_
  refine ir_ge (tgt := 31) hx hb dX12_of_9 (by decide) (by show ((-2147483648) : Int) ≤ 2 ∧ (2 : Int) ≤ 2147483647; decide) (by show ((-2147483648) : Int) ≤ 5 ∧ (5 : Int) ≤ 2147483647; decide) (fun c_3 => by exfalso; omega) (fun c_3 => ?_)
  refine lv_iload_n hx hb dX12_of_12 rfl (lv_at hlv 1 rfl) ?_
  refine lv_iconst (v := iI 5) hx hb dX12_of_13 (by decide) ?_
  refine lv_ishl hx hb dX12_of_14 ?_
  refine lt_i (y := iI 20736) (by decide) ?_
  refine lv_aload_n hx hb dX12_of_15 rfl (lv_at hlv 2 rfl) ?_
  refine lv_iload_n hx hb dX12_of_16 rfl (lv_at hlv 0 rfl) ?_
  refine cjr_i [] (fun pre9 => (va_runV (As := [vI 2]) (rest := [vI 20736]) ⟨hx, hb, hml, hown, hts⟩ (s_charAt l hl D cy sa 39 2 H.size (by show (0 : Int) ≤ 39 ∧ (39 : Int) ≤ 55; decide) (by show (0 : Int) ≤ 2 ∧ (2 : Int) ≤ 6; decide) (by omega)) (cwV 1 hts gg_1 rfl rfl rfl (by decide +kernel) ⟨Nat.le_of_ble_eq_true rfl, Nat.le_of_ble_eq_true rfl⟩) ⟨pcW.blind, (wo_recv (WD.tx hT.2.2 (39 : Int).toNat (by omega)).1 hS), pre9⟩ rfl rfl hlv.1 rfl (lv_room (Nat.le_of_ble_eq_true rfl)) dX12_of_17 ⟨Nat.le_of_ble_eq_true rfl, Nat.le_of_ble_eq_true rfl⟩)) hP hD hS hA hG hT [] rfl (by decide +kernel) (fun r6 u6 H locs hw6 hq9 hS => ?_)
  obtain ⟨rfl, hq6_1, hq6_2⟩ := hw6
  obtain ⟨hP, hD⟩ := pd9 [] hq9
  have hev6 : (u6.2.1 0) = 114 := by first | (rw [hq6_2]; rfl) | omega
  refine lt_i (y := iI 114) (by rw [show (u6.2.1 0) = 114 by omega]) ?_
  refine lv_bipush (v := iI 96) hx hb dX12_of_20 (by decide) ?_
  refine lv_isub hx hb dX12_of_22 ?_
  refine lt_i (y := iI 18) (by decide) ?_
  refine lv_ior hx hb dX12_of_23 ?_
  refine lt_i (y := iI 20754) (by decide) ?_
  refine lv_istore_n (lv' := [(1, vI 20754), (2, vI 2), (0, .ref (sn sa 39))]) hx hb dX12_of_24 rfl hlv (by decide) rfl (fun ls hlv => ?_)
  refine lv_iinc (v := iI 3) (lv' := [(2, vI 3), (1, vI 20754), (0, .ref (sn sa 39))]) hx hb dX12_of_25 hlv (k := 1) rfl (by decide) (by decide) rfl (fun ls hlv => ?_)
  refine lv_goto (tgt := 4) hx hb dX12_of_28 (by decide) ?_
  refine lv_iload_n hx hb dX12_of_4 rfl (lv_at hlv 0 rfl) ?_
  refine lv_aload_n hx hb dX12_of_5 rfl (lv_at hlv 2 rfl) ?_
  refine cjr_i [] (fun pre9 => (va_runV (As := []) (rest := [vI 3]) ⟨hx, hb, hml, hown, hts⟩ (s_length l hl D cy sa 39 H.size (by show (0 : Int) ≤ 39 ∧ (39 : Int) ≤ 55; decide)) (cwV 0 hts gg_0 rfl rfl rfl (by decide +kernel) ⟨Nat.le_of_ble_eq_true rfl, Nat.le_of_ble_eq_true rfl⟩) ⟨pcW.blind, (wo_recv (WD.tx hT.2.2 (39 : Int).toNat (by omega)).1 hS), pre9⟩ rfl rfl hlv.1 rfl (lv_room (Nat.le_of_ble_eq_true rfl)) dX12_of_6 ⟨Nat.le_of_ble_eq_true rfl, Nat.le_of_ble_eq_true rfl⟩)) hP hD hS hA hG hT [] rfl (by decide +kernel) (fun r7 u7 H locs hw7 hq9 hS => ?_)
  obtain ⟨rfl, hq7_1, hq7_2⟩ := hw7
  obtain ⟨hP, hD⟩ := pd9 [] hq9
  have hev7 : (u7.2.1 0) = 5 := by first | (rw [hq7_2]; rfl) | omega
  refine lt_i (y := iI 5) (by rw [show (u7.2.1 0) = 5 by omega]) ?_
  refine ir_ge (tgt := 31) hx hb dX12_of_9 (by decide) (by show ((-2147483648) : Int) ≤ 3 ∧ (3 : Int) ≤ 2147483647; decide) (by show ((-2147483648) : Int) ≤ 5 ∧ (5 : Int) ≤ 2147483647; decide) (fun c_4 => by exfalso; omega) (fun c_4 => ?_)
  refine lv_iload_n hx hb dX12_of_12 rfl (lv_at hlv 1 rfl) ?_
  refine lv_iconst (v := iI 5) hx hb dX12_of_13 (by decide) ?_
  refine lv_ishl hx hb dX12_of_14 ?_
  refine lt_i (y := iI 664128) (by decide) ?_
  refine lv_aload_n hx hb dX12_of_15 rfl (lv_at hlv 2 rfl) ?_
  refine lv_iload_n hx hb dX12_of_16 rfl (lv_at hlv 0 rfl) ?_
  refine cjr_i [] (fun pre9 => (va_runV (As := [vI 3]) (rest := [vI 664128]) ⟨hx, hb, hml, hown, hts⟩ (s_charAt l hl D cy sa 39 3 H.size (by show (0 : Int) ≤ 39 ∧ (39 : Int) ≤ 55; decide) (by show (0 : Int) ≤ 3 ∧ (3 : Int) ≤ 6; decide) (by omega)) (cwV 1 hts gg_1 rfl rfl rfl (by decide +kernel) ⟨Nat.le_of_ble_eq_true rfl, Nat.le_of_ble_eq_true rfl⟩) ⟨pcW.blind, (wo_recv (WD.tx hT.2.2 (39 : Int).toNat (by omega)).1 hS), pre9⟩ rfl rfl hlv.1 rfl (lv_room (Nat.le_of_ble_eq_true rfl)) dX12_of_17 ⟨Nat.le_of_ble_eq_true rfl, Nat.le_of_ble_eq_true rfl⟩)) hP hD hS hA hG hT [] rfl (by decide +kernel) (fun r8 u8 H locs hw8 hq9 hS => ?_)
  obtain ⟨rfl, hq8_1, hq8_2⟩ := hw8
  obtain ⟨hP, hD⟩ := pd9 [] hq9
  have hev8 : (u8.2.1 0) = 111 := by first | (rw [hq8_2]; rfl) | omega
  refine lt_i (y := iI 111) (by rw [show (u8.2.1 0) = 111 by omega]) ?_
  refine lv_bipush (v := iI 96) hx hb dX12_of_20 (by decide) ?_
  refine lv_isub hx hb dX12_of_22 ?_
  refine lt_i (y := iI 15) (by decide) ?_
  refine lv_ior hx hb dX12_of_23 ?_
  refine lt_i (y := iI 664143) (by decide) ?_
  refine lv_istore_n (lv' := [(1, vI 664143), (2, vI 3), (0, .ref (sn sa 39))]) hx hb dX12_of_24 rfl hlv (by decide) rfl (fun ls hlv => ?_)
  refine lv_iinc (v := iI 4) (lv' := [(2, vI 4), (1, vI 664143), (0, .ref (sn sa 39))]) hx hb dX12_of_25 hlv (k := 1) rfl (by decide) (by decide) rfl (fun ls hlv => ?_)
  refine lv_goto (tgt := 4) hx hb dX12_of_28 (by decide) ?_
  refine lv_iload_n hx hb dX12_of_4 rfl (lv_at hlv 0 rfl) ?_
  refine lv_aload_n hx hb dX12_of_5 rfl (lv_at hlv 2 rfl) ?_
  refine cjr_i [] (fun pre9 => (va_runV (As := []) (rest := [vI 4]) ⟨hx, hb, hml, hown, hts⟩ (s_length l hl D cy sa 39 H.size (by show (0 : Int) ≤ 39 ∧ (39 : Int) ≤ 55; decide)) (cwV 0 hts gg_0 rfl rfl rfl (by decide +kernel) ⟨Nat.le_of_ble_eq_true rfl, Nat.le_of_ble_eq_true rfl⟩) ⟨pcW.blind, (wo_recv (WD.tx hT.2.2 (39 : Int).toNat (by omega)).1 hS), pre9⟩ rfl rfl hlv.1 rfl (lv_room (Nat.le_of_ble_eq_true rfl)) dX12_of_6 ⟨Nat.le_of_ble_eq_true rfl, Nat.le_of_ble_eq_true rfl⟩)) hP hD hS hA hG hT [] rfl (by decide +kernel) (fun r9 u9 H locs hw9 hq9 hS => ?_)
  obtain ⟨rfl, hq9_1, hq9_2⟩ := hw9
  obtain ⟨hP, hD⟩ := pd9 [] hq9
  have hev9 : (u9.2.1 0) = 5 := by first | (rw [hq9_2]; rfl) | omega
  refine lt_i (y := iI 5) (by rw [show (u9.2.1 0) = 5 by omega]) ?_
  refine ir_ge (tgt := 31) hx hb dX12_of_9 (by decide) (by show ((-2147483648) : Int) ≤ 4 ∧ (4 : Int) ≤ 2147483647; decide) (by show ((-2147483648) : Int) ≤ 5 ∧ (5 : Int) ≤ 2147483647; decide) (fun c_5 => by exfalso; omega) (fun c_5 => ?_)
  refine lv_iload_n hx hb dX12_of_12 rfl (lv_at hlv 1 rfl) ?_
  refine lv_iconst (v := iI 5) hx hb dX12_of_13 (by decide) ?_
  refine lv_ishl hx hb dX12_of_14 ?_
  refine lt_i (y := iI 21252576) (by decide) ?_
  refine lv_aload_n hx hb dX12_of_15 rfl (lv_at hlv 2 rfl) ?_
  refine lv_iload_n hx hb dX12_of_16 rfl (lv_at hlv 0 rfl) ?_
  refine cjr_i [] (fun pre9 => (va_runV (As := [vI 4]) (rest := [vI 21252576]) ⟨hx, hb, hml, hown, hts⟩ (s_charAt l hl D cy sa 39 4 H.size (by show (0 : Int) ≤ 39 ∧ (39 : Int) ≤ 55; decide) (by show (0 : Int) ≤ 4 ∧ (4 : Int) ≤ 6; decide) (by omega)) (cwV 1 hts gg_1 rfl rfl rfl (by decide +kernel) ⟨Nat.le_of_ble_eq_true rfl, Nat.le_of_ble_eq_true rfl⟩) ⟨pcW.blind, (wo_recv (WD.tx hT.2.2 (39 : Int).toNat (by omega)).1 hS), pre9⟩ rfl rfl hlv.1 rfl (lv_room (Nat.le_of_ble_eq_true rfl)) dX12_of_17 ⟨Nat.le_of_ble_eq_true rfl, Nat.le_of_ble_eq_true rfl⟩)) hP hD hS hA hG hT [] rfl (by decide +kernel) (fun r10 u10 H locs hw10 hq9 hS => ?_)
  obtain ⟨rfl, hq10_1, hq10_2⟩ := hw10
  obtain ⟨hP, hD⟩ := pd9 [] hq9
  have hev10 : (u10.2.1 0) = 119 := by first | (rw [hq10_2]; rfl) | omega
  refine lt_i (y := iI 119) (by rw [show (u10.2.1 0) = 119 by omega]) ?_
  refine lv_bipush (v := iI 96) hx hb dX12_of_20 (by decide) ?_
  refine lv_isub hx hb dX12_of_22 ?_
  refine lt_i (y := iI 23) (by decide) ?_
  refine lv_ior hx hb dX12_of_23 ?_
  refine lt_i (y := iI 21252599) (by decide) ?_
  refine lv_istore_n (lv' := [(1, vI 21252599), (2, vI 4), (0, .ref (sn sa 39))]) hx hb dX12_of_24 rfl hlv (by decide) rfl (fun ls hlv => ?_)
  refine lv_iinc (v := iI 5) (lv' := [(2, vI 5), (1, vI 21252599), (0, .ref (sn sa 39))]) hx hb dX12_of_25 hlv (k := 1) rfl (by decide) (by decide) rfl (fun ls hlv => ?_)
  refine lv_goto (tgt := 4) hx hb dX12_of_28 (by decide) ?_
  refine lv_iload_n hx hb dX12_of_4 rfl (lv_at hlv 0 rfl) ?_
  refine lv_aload_n hx hb dX12_of_5 rfl (lv_at hlv 2 rfl) ?_
  refine cjr_i [] (fun pre9 => (va_runV (As := []) (rest := [vI 5]) ⟨hx, hb, hml, hown, hts⟩ (s_length l hl D cy sa 39 H.size (by show (0 : Int) ≤ 39 ∧ (39 : Int) ≤ 55; decide)) (cwV 0 hts gg_0 rfl rfl rfl (by decide +kernel) ⟨Nat.le_of_ble_eq_true rfl, Nat.le_of_ble_eq_true rfl⟩) ⟨pcW.blind, (wo_recv (WD.tx hT.2.2 (39 : Int).toNat (by omega)).1 hS), pre9⟩ rfl rfl hlv.1 rfl (lv_room (Nat.le_of_ble_eq_true rfl)) dX12_of_6 ⟨Nat.le_of_ble_eq_true rfl, Nat.le_of_ble_eq_true rfl⟩)) hP hD hS hA hG hT [] rfl (by decide +kernel) (fun r11 u11 H locs hw11 hq9 hS => ?_)
  obtain ⟨rfl, hq11_1, hq11_2⟩ := hw11
  obtain ⟨hP, hD⟩ := pd9 [] hq9
  have hev11 : (u11.2.1 0) = 5 := by first | (rw [hq11_2]; rfl) | omega
  refine lt_i (y := iI 5) (by rw [show (u11.2.1 0) = 5 by omega]) ?_
  refine ir_ge (tgt := 31) hx hb dX12_of_9 (by decide) (by show ((-2147483648) : Int) ≤ 5 ∧ (5 : Int) ≤ 2147483647; decide) (by show ((-2147483648) : Int) ≤ 5 ∧ (5 : Int) ≤ 2147483647; decide) (fun c_6 => ?_) (fun c_6 => by exfalso; omega)
  refine lv_iload_n hx hb dX12_of_31 rfl (lv_at hlv 1 rfl) ?_
  refine W.widen (k := 0) (n := 0) (Nat.le_of_ble_eq_true rfl) (Nat.le_of_ble_eq_true rfl) ?_
  exact W.iret (v := iI 21252599) hx hb hr (fun t ht hW => ⟨⟨iI 21252599, ((fun k => ([] : List Nat).getD k 0), (fun k => ([21252599] : List Int).getD k 0), (fun k => ([] : List (Nat → Int32)).getD k (fun _ => 0))), rfl, ⟨rfl, (by show (21252599 ≤ 21252599 ∧ 21252599 ≤ 21252599); show (21252599 : Int) ≤ 21252599 ∧ (21252599 : Int) ≤ 21252599; decide)⟩, at9 ht hP hD [] (by decide +kernel) rfl⟩, hS.F ht⟩) hS.2.2 dX12_of_32
def vs_m_of12 : List Cond := .code yX12_of cX12_of 3 (some .int) :: (([] : List Cond) ++ ((wsV RX12 100 RJ0 yJ0_length_8abf5 vs_s_length) ++ ((wsV RX12 105 RJ0 yJ0_charAt_5068e vs_s_charAt) ++ ([]))))
theorem gd_m_of12 : vs_m_of12.all goodWord = true := gd_C (by decide +kernel) (gd_A (by decide +kernel) (gd_A (gd_V gd_s_length (by decide +kernel)) (gd_A (gd_V gd_s_charAt (by decide +kernel)) rfl)))
set_option maxHeartbeats 4000000 in
set_option maxRecDepth 100000 in
theorem m_of12 (l : Launch) (hl : l.stackTraces = false) (D : va_G) (cy : Nat → ClassId) (sa : Nat → Nat)  (sz : Nat) : mI9 l yX12_of vs_m_of12 ({ frames := 4, cells := 0, slots := 0, locals := 85 }) D cy sa sz [.ref (sn sa 40)] [] (fun (r : Int32) (u : SV) => r = iI (u.2.1 0) ∧ (19039336 ≤ u.2.1 0 ∧ u.2.1 0 ≤ 19039336)) (fun u : SV => []) 0 0 := by
  refine Met.ofW (cc := cX12_of) (maxL := 3) (ret := (some .int)) (by decide) rfl ?_
  intro p e s m args below meth c s₁ B hml hv
  obtain ⟨rfl, hsz, hP, hG, hD0, hT⟩ := hv
  have hx := B.exec
  have hb := B.bytes
  have hr := B.returns
  have hts := atoms_spec (ws := vs_m_of12) B.pre
  have hown : s.vm.findClass RX12 = some m.cls := findClass_of_methodNamed B.named
  have hlocks := B.notSynchronized
  subst hsz
  have hD := hD0.self (sz := s.heap.size)
  generalize hAe : va_A [] s.heap.size = A at hD hT ⊢
  have hA : ∀ q : Nat, s.heap.size ≤ q → A q := fun q h => by rw [← hAe]; exact Or.inr h
  have hS : va_S A s.heap s.heap [] := va_S.rf
  have hl0 := lv_entry ([.ref (sn sa 40)]) (n := 3) (Nat.le_of_ble_eq_true rfl)
  rw [lg_entry_eq]
  generalize (lg_sl ([.ref (sn sa 40)]) ++ List.replicate (3 - (lg_sl ([.ref (sn sa 40)])).length) Slot.unset).toArray = ls at hl0 ⊢
  have hlv : lv_has ls 3 [(0, .ref (sn sa 40))] := hl0
  have gg_0 : GoodIn vs_m_of12 (wsV RX12 100 RJ0 yJ0_length_8abf5 vs_s_length) := goodIn_sub (fun w h => List.mem_cons_of_mem _ (List.mem_append_right _ (List.mem_append_left _ h))) (gd_V gd_s_length (by decide +kernel))
  have gg_1 : GoodIn vs_m_of12 (wsV RX12 105 RJ0 yJ0_charAt_5068e vs_s_charAt) := goodIn_sub (fun w h => List.mem_cons_of_mem _ (List.mem_append_right _ (List.mem_append_right _ (List.mem_append_left _ h)))) (gd_V gd_s_charAt (by decide +kernel))
  refine lv_iconst (v := iI 0) hx hb dX12_of_0 (by decide) ?_
  refine lv_istore_n (lv' := [(1, vI 0), (0, .ref (sn sa 40))]) hx hb dX12_of_1 rfl hlv (by decide) rfl (fun ls hlv => ?_)
  refine lv_iconst (v := iI 0) hx hb dX12_of_2 (by decide) ?_
  refine lv_istore_n (lv' := [(2, vI 0), (1, vI 0), (0, .ref (sn sa 40))]) hx hb dX12_of_3 rfl hlv (by decide) rfl (fun ls hlv => ?_)
  refine lv_iload_n hx hb dX12_of_4 rfl (lv_at hlv 0 rfl) ?_
  refine lv_aload_n hx hb dX12_of_5 rfl (lv_at hlv 2 rfl) ?_
  refine cjr_i [] (fun pre9 => (va_runV (As := []) (rest := [vI 0]) ⟨hx, hb, hml, hown, hts⟩ (s_length l hl D cy sa 40 s.heap.size (by show (0 : Int) ≤ 40 ∧ (40 : Int) ≤ 55; decide)) (cwV 0 hts gg_0 rfl rfl rfl (by decide +kernel) ⟨Nat.le_of_ble_eq_true rfl, Nat.le_of_ble_eq_true rfl⟩) ⟨pcW.blind, (wo_recv (WD.tx hT.2.2 (40 : Int).toNat (by omega)).1 hS), pre9⟩ rfl rfl hlv.1 rfl (lv_room (Nat.le_of_ble_eq_true rfl)) dX12_of_6 ⟨Nat.le_of_ble_eq_true rfl, Nat.le_of_ble_eq_true rfl⟩)) hP hD hS hA hG hT [] rfl (by decide +kernel) (fun r1 u1 H locs hw1 hq9 hS => ?_)
  obtain ⟨rfl, hq1_1, hq1_2⟩ := hw1
  obtain ⟨hP, hD⟩ := pd9 [] hq9
  have hev1 : (u1.2.1 0) = 5 := by first | (rw [hq1_2]; rfl) | omega
  refine lt_i (y := iI 5) (by rw [show (u1.2.1 0) = 5 by omega]) ?_
  refine ir_ge (tgt := 31) hx hb dX12_of_9 (by decide) (by show ((-2147483648) : Int) ≤ 0 ∧ (0 : Int) ≤ 2147483647; decide) (by show ((-2147483648) : Int) ≤ 5 ∧ (5 : Int) ≤ 2147483647; decide) (fun c_1 => by exfalso; omega) (fun c_1 => ?_)
  refine lv_iload_n hx hb dX12_of_12 rfl (lv_at hlv 1 rfl) ?_
  refine lv_iconst (v := iI 5) hx hb dX12_of_13 (by decide) ?_
  refine lv_ishl hx hb dX12_of_14 ?_
  refine lt_i (y := iI 0) (by decide) ?_
  refine lv_aload_n hx hb dX12_of_15 rfl (lv_at hlv 2 rfl) ?_
  refine lv_iload_n hx hb dX12_of_16 rfl (lv_at hlv 0 rfl) ?_
  refine cjr_i [] (fun pre9 => (va_runV (As := [vI 0]) (rest := [vI 0]) ⟨hx, hb, hml, hown, hts⟩ (s_charAt l hl D cy sa 40 0 H.size (by show (0 : Int) ≤ 40 ∧ (40 : Int) ≤ 55; decide) (by show (0 : Int) ≤ 0 ∧ (0 : Int) ≤ 6; decide) (by omega)) (cwV 1 hts gg_1 rfl rfl rfl (by decide +kernel) ⟨Nat.le_of_ble_eq_true rfl, Nat.le_of_ble_eq_true rfl⟩) ⟨pcW.blind, (wo_recv (WD.tx hT.2.2 (40 : Int).toNat (by omega)).1 hS), pre9⟩ rfl rfl hlv.1 rfl (lv_room (Nat.le_of_ble_eq_true rfl)) dX12_of_17 ⟨Nat.le_of_ble_eq_true rfl, Nat.le_of_ble_eq_true rfl⟩)) hP hD hS hA hG hT [] rfl (by decide +kernel) (fun r2 u2 H locs hw2 hq9 hS => ?_)
  obtain ⟨rfl, hq2_1, hq2_2⟩ := hw2
  obtain ⟨hP, hD⟩ := pd9 [] hq9
  have hev2 : (u2.2.1 0) = 114 := by first | (rw [hq2_2]; rfl) | omega
  refine lt_i (y := iI 114) (by rw [show (u2.2.1 0) = 114 by omega]) ?_
  refine lv_bipush (v := iI 96) hx hb dX12_of_20 (by decide) ?_
  refine lv_isub hx hb dX12_of_22 ?_
  refine lt_i (y := iI 18) (by decide) ?_
  refine lv_ior hx hb dX12_of_23 ?_
  refine lt_i (y := iI 18) (by decide) ?_
  refine lv_istore_n (lv' := [(1, vI 18), (2, vI 0), (0, .ref (sn sa 40))]) hx hb dX12_of_24 rfl hlv (by decide) rfl (fun ls hlv => ?_)
  refine lv_iinc (v := iI 1) (lv' := [(2, vI 1), (1, vI 18), (0, .ref (sn sa 40))]) hx hb dX12_of_25 hlv (k := 1) rfl (by decide) (by decide) rfl (fun ls hlv => ?_)
  refine lv_goto (tgt := 4) hx hb dX12_of_28 (by decide) ?_
  refine lv_iload_n hx hb dX12_of_4 rfl (lv_at hlv 0 rfl) ?_
  refine lv_aload_n hx hb dX12_of_5 rfl (lv_at hlv 2 rfl) ?_
  refine cjr_i [] (fun pre9 => (va_runV (As := []) (rest := [vI 1]) ⟨hx, hb, hml, hown, hts⟩ (s_length l hl D cy sa 40 H.size (by show (0 : Int) ≤ 40 ∧ (40 : Int) ≤ 55; decide)) (cwV 0 hts gg_0 rfl rfl rfl (by decide +kernel) ⟨Nat.le_of_ble_eq_true rfl, Nat.le_of_ble_eq_true rfl⟩) ⟨pcW.blind, (wo_recv (WD.tx hT.2.2 (40 : Int).toNat (by omega)).1 hS), pre9⟩ rfl rfl hlv.1 rfl (lv_room (Nat.le_of_ble_eq_true rfl)) dX12_of_6 ⟨Nat.le_of_ble_eq_true rfl, Nat.le_of_ble_eq_true rfl⟩)) hP hD hS hA hG hT [] rfl (by decide +kernel) (fun r3 u3 H locs hw3 hq9 hS => ?_)
  obtain ⟨rfl, hq3_1, hq3_2⟩ := hw3
  obtain ⟨hP, hD⟩ := pd9 [] hq9
  have hev3 : (u3.2.1 0) = 5 := by first | (rw [hq3_2]; rfl) | omega
  refine lt_i (y := iI 5) (by rw [show (u3.2.1 0) = 5 by omega]) ?_
  refine ir_ge (tgt := 31) hx hb dX12_of_9 (by decide) (by show ((-2147483648) : Int) ≤ 1 ∧ (1 : Int) ≤ 2147483647; decide) (by show ((-2147483648) : Int) ≤ 5 ∧ (5 : Int) ≤ 2147483647; decide) (fun c_2 => by exfalso; omega) (fun c_2 => ?_)
  refine lv_iload_n hx hb dX12_of_12 rfl (lv_at hlv 1 rfl) ?_
  refine lv_iconst (v := iI 5) hx hb dX12_of_13 (by decide) ?_
  refine lv_ishl hx hb dX12_of_14 ?_
  refine lt_i (y := iI 576) (by decide) ?_
  refine lv_aload_n hx hb dX12_of_15 rfl (lv_at hlv 2 rfl) ?_
  refine lv_iload_n hx hb dX12_of_16 rfl (lv_at hlv 0 rfl) ?_
  refine cjr_i [] (fun pre9 => (va_runV (As := [vI 1]) (rest := [vI 576]) ⟨hx, hb, hml, hown, hts⟩ (s_charAt l hl D cy sa 40 1 H.size (by show (0 : Int) ≤ 40 ∧ (40 : Int) ≤ 55; decide) (by show (0 : Int) ≤ 1 ∧ (1 : Int) ≤ 6; decide) (by omega)) (cwV 1 hts gg_1 rfl rfl rfl (by decide +kernel) ⟨Nat.le_of_ble_eq_true rfl, Nat.le_of_ble_eq_true rfl⟩) ⟨pcW.blind, (wo_recv (WD.tx hT.2.2 (40 : Int).toNat (by omega)).1 hS), pre9⟩ rfl rfl hlv.1 rfl (lv_room (Nat.le_of_ble_eq_true rfl)) dX12_of_17 ⟨Nat.le_of_ble_eq_true rfl, Nat.le_of_ble_eq_true rfl⟩)) hP hD hS hA hG hT [] rfl (by decide +kernel) (fun r4 u4 H locs hw4 hq9 hS => ?_)
  obtain ⟨rfl, hq4_1, hq4_2⟩ := hw4
  obtain ⟨hP, hD⟩ := pd9 [] hq9
  have hev4 : (u4.2.1 0) = 101 := by first | (rw [hq4_2]; rfl) | omega
  refine lt_i (y := iI 101) (by rw [show (u4.2.1 0) = 101 by omega]) ?_
  refine lv_bipush (v := iI 96) hx hb dX12_of_20 (by decide) ?_
  refine lv_isub hx hb dX12_of_22 ?_
  refine lt_i (y := iI 5) (by decide) ?_
  refine lv_ior hx hb dX12_of_23 ?_
  refine lt_i (y := iI 581) (by decide) ?_
  refine lv_istore_n (lv' := [(1, vI 581), (2, vI 1), (0, .ref (sn sa 40))]) hx hb dX12_of_24 rfl hlv (by decide) rfl (fun ls hlv => ?_)
  refine lv_iinc (v := iI 2) (lv' := [(2, vI 2), (1, vI 581), (0, .ref (sn sa 40))]) hx hb dX12_of_25 hlv (k := 1) rfl (by decide) (by decide) rfl (fun ls hlv => ?_)
  refine lv_goto (tgt := 4) hx hb dX12_of_28 (by decide) ?_
  refine lv_iload_n hx hb dX12_of_4 rfl (lv_at hlv 0 rfl) ?_
  refine lv_aload_n hx hb dX12_of_5 rfl (lv_at hlv 2 rfl) ?_
  refine cjr_i [] (fun pre9 => (va_runV (As := []) (rest := [vI 2]) ⟨hx, hb, hml, hown, hts⟩ (s_length l hl D cy sa 40 H.size (by show (0 : Int) ≤ 40 ∧ (40 : Int) ≤ 55; decide)) (cwV 0 hts gg_0 rfl rfl rfl (by decide +kernel) ⟨Nat.le_of_ble_eq_true rfl, Nat.le_of_ble_eq_true rfl⟩) ⟨pcW.blind, (wo_recv (WD.tx hT.2.2 (40 : Int).toNat (by omega)).1 hS), pre9⟩ rfl rfl hlv.1 rfl (lv_room (Nat.le_of_ble_eq_true rfl)) dX12_of_6 ⟨Nat.le_of_ble_eq_true rfl, Nat.le_of_ble_eq_true rfl⟩)) hP hD hS hA hG hT [] rfl (by decide +kernel) (fun r5 u5 H locs hw5 hq9 hS => ?_)
  obtain ⟨rfl, hq5_1, hq5_2⟩ := hw5
  obtain ⟨hP, hD⟩ := pd9 [] hq9
  have hev5 : (u5.2.1 0) = 5 := by first | (rw [hq5_2]; rfl) | omega
  refine lt_i (y := iI 5) (by rw [show (u5.2.1 0) = 5 by omega]) ?_
  refine ir_ge (tgt := 31) hx hb dX12_of_9 (by decide) (by show ((-2147483648) : Int) ≤ 2 ∧ (2 : Int) ≤ 2147483647; decide) (by show ((-2147483648) : Int) ≤ 5 ∧ (5 : Int) ≤ 2147483647; decide) (fun c_3 => by exfalso; omega) (fun c_3 => ?_)
  refine lv_iload_n hx hb dX12_of_12 rfl (lv_at hlv 1 rfl) ?_
  refine lv_iconst (v := iI 5) hx hb dX12_of_13 (by decide) ?_
  refine lv_ishl hx hb dX12_of_14 ?_
  refine lt_i (y := iI 18592) (by decide) ?_
  refine lv_aload_n hx hb dX12_of_15 rfl (lv_at hlv 2 rfl) ?_
  refine lv_iload_n hx hb dX12_of_16 rfl (lv_at hlv 0 rfl) ?_
  refine cjr_i [] (fun pre9 => (va_runV (As := [vI 2]) (rest := [vI 18592]) ⟨hx, hb, hml, hown, hts⟩ (s_charAt l hl D cy sa 40 2 H.size (by show (0 : Int) ≤ 40 ∧ (40 : Int) ≤ 55; decide) (by show (0 : Int) ≤ 2 ∧ (2 : Int) ≤ 6; decide) (by omega)) (cwV 1 hts gg_1 rfl rfl rfl (by decide +kernel) ⟨Nat.le_of_ble_eq_true rfl, Nat.le_of_ble_eq_true rfl⟩) ⟨pcW.blind, (wo_recv (WD.tx hT.2.2 (40 : Int).toNat (by omega)).1 hS), pre9⟩ rfl rfl hlv.1 rfl (lv_room (Nat.le_of_ble_eq_true rfl)) dX12_of_17 ⟨Nat.le_of_ble_eq_true rfl, Nat.le_of_ble_eq_true rfl⟩)) hP hD hS hA hG hT [] rfl (by decide +kernel) (fun r6 u6 H locs hw6 hq9 hS => ?_)
  obtain ⟨rfl, hq6_1, hq6_2⟩ := hw6
  obtain ⟨hP, hD⟩ := pd9 [] hq9
  have hev6 : (u6.2.1 0) = 97 := by first | (rw [hq6_2]; rfl) | omega
  refine lt_i (y := iI 97) (by rw [show (u6.2.1 0) = 97 by omega]) ?_
  refine lv_bipush (v := iI 96) hx hb dX12_of_20 (by decide) ?_
  refine lv_isub hx hb dX12_of_22 ?_
  refine lt_i (y := iI 1) (by decide) ?_
  refine lv_ior hx hb dX12_of_23 ?_
  refine lt_i (y := iI 18593) (by decide) ?_
  refine lv_istore_n (lv' := [(1, vI 18593), (2, vI 2), (0, .ref (sn sa 40))]) hx hb dX12_of_24 rfl hlv (by decide) rfl (fun ls hlv => ?_)
  refine lv_iinc (v := iI 3) (lv' := [(2, vI 3), (1, vI 18593), (0, .ref (sn sa 40))]) hx hb dX12_of_25 hlv (k := 1) rfl (by decide) (by decide) rfl (fun ls hlv => ?_)
  refine lv_goto (tgt := 4) hx hb dX12_of_28 (by decide) ?_
  refine lv_iload_n hx hb dX12_of_4 rfl (lv_at hlv 0 rfl) ?_
  refine lv_aload_n hx hb dX12_of_5 rfl (lv_at hlv 2 rfl) ?_
  refine cjr_i [] (fun pre9 => (va_runV (As := []) (rest := [vI 3]) ⟨hx, hb, hml, hown, hts⟩ (s_length l hl D cy sa 40 H.size (by show (0 : Int) ≤ 40 ∧ (40 : Int) ≤ 55; decide)) (cwV 0 hts gg_0 rfl rfl rfl (by decide +kernel) ⟨Nat.le_of_ble_eq_true rfl, Nat.le_of_ble_eq_true rfl⟩) ⟨pcW.blind, (wo_recv (WD.tx hT.2.2 (40 : Int).toNat (by omega)).1 hS), pre9⟩ rfl rfl hlv.1 rfl (lv_room (Nat.le_of_ble_eq_true rfl)) dX12_of_6 ⟨Nat.le_of_ble_eq_true rfl, Nat.le_of_ble_eq_true rfl⟩)) hP hD hS hA hG hT [] rfl (by decide +kernel) (fun r7 u7 H locs hw7 hq9 hS => ?_)
  obtain ⟨rfl, hq7_1, hq7_2⟩ := hw7
  obtain ⟨hP, hD⟩ := pd9 [] hq9
  have hev7 : (u7.2.1 0) = 5 := by first | (rw [hq7_2]; rfl) | omega
  refine lt_i (y := iI 5) (by rw [show (u7.2.1 0) = 5 by omega]) ?_
  refine ir_ge (tgt := 31) hx hb dX12_of_9 (by decide) (by show ((-2147483648) : Int) ≤ 3 ∧ (3 : Int) ≤ 2147483647; decide) (by show ((-2147483648) : Int) ≤ 5 ∧ (5 : Int) ≤ 2147483647; decide) (fun c_4 => by exfalso; omega) (fun c_4 => ?_)
  refine lv_iload_n hx hb dX12_of_12 rfl (lv_at hlv 1 rfl) ?_
  refine lv_iconst (v := iI 5) hx hb dX12_of_13 (by decide) ?_
  refine lv_ishl hx hb dX12_of_14 ?_
  refine lt_i (y := iI 594976) (by decide) ?_
  refine lv_aload_n hx hb dX12_of_15 rfl (lv_at hlv 2 rfl) ?_
  refine lv_iload_n hx hb dX12_of_16 rfl (lv_at hlv 0 rfl) ?_
  refine cjr_i [] (fun pre9 => (va_runV (As := [vI 3]) (rest := [vI 594976]) ⟨hx, hb, hml, hown, hts⟩ (s_charAt l hl D cy sa 40 3 H.size (by show (0 : Int) ≤ 40 ∧ (40 : Int) ≤ 55; decide) (by show (0 : Int) ≤ 3 ∧ (3 : Int) ≤ 6; decide) (by omega)) (cwV 1 hts gg_1 rfl rfl rfl (by decide +kernel) ⟨Nat.le_of_ble_eq_true rfl, Nat.le_of_ble_eq_true rfl⟩) ⟨pcW.blind, (wo_recv (WD.tx hT.2.2 (40 : Int).toNat (by omega)).1 hS), pre9⟩ rfl rfl hlv.1 rfl (lv_room (Nat.le_of_ble_eq_true rfl)) dX12_of_17 ⟨Nat.le_of_ble_eq_true rfl, Nat.le_of_ble_eq_true rfl⟩)) hP hD hS hA hG hT [] rfl (by decide +kernel) (fun r8 u8 H locs hw8 hq9 hS => ?_)
  obtain ⟨rfl, hq8_1, hq8_2⟩ := hw8
  obtain ⟨hP, hD⟩ := pd9 [] hq9
  have hev8 : (u8.2.1 0) = 99 := by first | (rw [hq8_2]; rfl) | omega
  refine lt_i (y := iI 99) (by rw [show (u8.2.1 0) = 99 by omega]) ?_
  refine lv_bipush (v := iI 96) hx hb dX12_of_20 (by decide) ?_
  refine lv_isub hx hb dX12_of_22 ?_
  refine lt_i (y := iI 3) (by decide) ?_
  refine lv_ior hx hb dX12_of_23 ?_
  refine lt_i (y := iI 594979) (by decide) ?_
  refine lv_istore_n (lv' := [(1, vI 594979), (2, vI 3), (0, .ref (sn sa 40))]) hx hb dX12_of_24 rfl hlv (by decide) rfl (fun ls hlv => ?_)
  refine lv_iinc (v := iI 4) (lv' := [(2, vI 4), (1, vI 594979), (0, .ref (sn sa 40))]) hx hb dX12_of_25 hlv (k := 1) rfl (by decide) (by decide) rfl (fun ls hlv => ?_)
  refine lv_goto (tgt := 4) hx hb dX12_of_28 (by decide) ?_
  refine lv_iload_n hx hb dX12_of_4 rfl (lv_at hlv 0 rfl) ?_
  refine lv_aload_n hx hb dX12_of_5 rfl (lv_at hlv 2 rfl) ?_
  refine cjr_i [] (fun pre9 => (va_runV (As := []) (rest := [vI 4]) ⟨hx, hb, hml, hown, hts⟩ (s_length l hl D cy sa 40 H.size (by show (0 : Int) ≤ 40 ∧ (40 : Int) ≤ 55; decide)) (cwV 0 hts gg_0 rfl rfl rfl (by decide +kernel) ⟨Nat.le_of_ble_eq_true rfl, Nat.le_of_ble_eq_true rfl⟩) ⟨pcW.blind, (wo_recv (WD.tx hT.2.2 (40 : Int).toNat (by omega)).1 hS), pre9⟩ rfl rfl hlv.1 rfl (lv_room (Nat.le_of_ble_eq_true rfl)) dX12_of_6 ⟨Nat.le_of_ble_eq_true rfl, Nat.le_of_ble_eq_true rfl⟩)) hP hD hS hA hG hT [] rfl (by decide +kernel) (fun r9 u9 H locs hw9 hq9 hS => ?_)
  obtain ⟨rfl, hq9_1, hq9_2⟩ := hw9
  obtain ⟨hP, hD⟩ := pd9 [] hq9
  have hev9 : (u9.2.1 0) = 5 := by first | (rw [hq9_2]; rfl) | omega
  refine lt_i (y := iI 5) (by rw [show (u9.2.1 0) = 5 by omega]) ?_
  refine ir_ge (tgt := 31) hx hb dX12_of_9 (by decide) (by show ((-2147483648) : Int) ≤ 4 ∧ (4 : Int) ≤ 2147483647; decide) (by show ((-2147483648) : Int) ≤ 5 ∧ (5 : Int) ≤ 2147483647; decide) (fun c_5 => by exfalso; omega) (fun c_5 => ?_)
  refine lv_iload_n hx hb dX12_of_12 rfl (lv_at hlv 1 rfl) ?_
  refine lv_iconst (v := iI 5) hx hb dX12_of_13 (by decide) ?_
  refine lv_ishl hx hb dX12_of_14 ?_
  refine lt_i (y := iI 19039328) (by decide) ?_
  refine lv_aload_n hx hb dX12_of_15 rfl (lv_at hlv 2 rfl) ?_
  refine lv_iload_n hx hb dX12_of_16 rfl (lv_at hlv 0 rfl) ?_
  refine cjr_i [] (fun pre9 => (va_runV (As := [vI 4]) (rest := [vI 19039328]) ⟨hx, hb, hml, hown, hts⟩ (s_charAt l hl D cy sa 40 4 H.size (by show (0 : Int) ≤ 40 ∧ (40 : Int) ≤ 55; decide) (by show (0 : Int) ≤ 4 ∧ (4 : Int) ≤ 6; decide) (by omega)) (cwV 1 hts gg_1 rfl rfl rfl (by decide +kernel) ⟨Nat.le_of_ble_eq_true rfl, Nat.le_of_ble_eq_true rfl⟩) ⟨pcW.blind, (wo_recv (WD.tx hT.2.2 (40 : Int).toNat (by omega)).1 hS), pre9⟩ rfl rfl hlv.1 rfl (lv_room (Nat.le_of_ble_eq_true rfl)) dX12_of_17 ⟨Nat.le_of_ble_eq_true rfl, Nat.le_of_ble_eq_true rfl⟩)) hP hD hS hA hG hT [] rfl (by decide +kernel) (fun r10 u10 H locs hw10 hq9 hS => ?_)
  obtain ⟨rfl, hq10_1, hq10_2⟩ := hw10
  obtain ⟨hP, hD⟩ := pd9 [] hq9
  have hev10 : (u10.2.1 0) = 104 := by first | (rw [hq10_2]; rfl) | omega
  refine lt_i (y := iI 104) (by rw [show (u10.2.1 0) = 104 by omega]) ?_
  refine lv_bipush (v := iI 96) hx hb dX12_of_20 (by decide) ?_
  refine lv_isub hx hb dX12_of_22 ?_
  refine lt_i (y := iI 8) (by decide) ?_
  refine lv_ior hx hb dX12_of_23 ?_
  refine lt_i (y := iI 19039336) (by decide) ?_
  refine lv_istore_n (lv' := [(1, vI 19039336), (2, vI 4), (0, .ref (sn sa 40))]) hx hb dX12_of_24 rfl hlv (by decide) rfl (fun ls hlv => ?_)
  refine lv_iinc (v := iI 5) (lv' := [(2, vI 5), (1, vI 19039336), (0, .ref (sn sa 40))]) hx hb dX12_of_25 hlv (k := 1) rfl (by decide) (by decide) rfl (fun ls hlv => ?_)
  refine lv_goto (tgt := 4) hx hb dX12_of_28 (by decide) ?_
  refine lv_iload_n hx hb dX12_of_4 rfl (lv_at hlv 0 rfl) ?_
  refine lv_aload_n hx hb dX12_of_5 rfl (lv_at hlv 2 rfl) ?_
  refine cjr_i [] (fun pre9 => (va_runV (As := []) (rest := [vI 5]) ⟨hx, hb, hml, hown, hts⟩ (s_length l hl D cy sa 40 H.size (by show (0 : Int) ≤ 40 ∧ (40 : Int) ≤ 55; decide)) (cwV 0 hts gg_0 rfl rfl rfl (by decide +kernel) ⟨Nat.le_of_ble_eq_true rfl, Nat.le_of_ble_eq_true rfl⟩) ⟨pcW.blind, (wo_recv (WD.tx hT.2.2 (40 : Int).toNat (by omega)).1 hS), pre9⟩ rfl rfl hlv.1 rfl (lv_room (Nat.le_of_ble_eq_true rfl)) dX12_of_6 ⟨Nat.le_of_ble_eq_true rfl, Nat.le_of_ble_eq_true rfl⟩)) hP hD hS hA hG hT [] rfl (by decide +kernel) (fun r11 u11 H locs hw11 hq9 hS => ?_)
  obtain ⟨rfl, hq11_1, hq11_2⟩ := hw11
  obtain ⟨hP, hD⟩ := pd9 [] hq9
  have hev11 : (u11.2.1 0) = 5 := by first | (rw [hq11_2]; rfl) | omega
  refine lt_i (y := iI 5) (by rw [show (u11.2.1 0) = 5 by omega]) ?_
  refine ir_ge (tgt := 31) hx hb dX12_of_9 (by decide) (by show ((-2147483648) : Int) ≤ 5 ∧ (5 : Int) ≤ 2147483647; decide) (by show ((-2147483648) : Int) ≤ 5 ∧ (5 : Int) ≤ 2147483647; decide) (fun c_6 => ?_) (fun c_6 => by exfalso; omega)
  refine lv_iload_n hx hb dX12_of_31 rfl (lv_at hlv 1 rfl) ?_
  refine W.widen (k := 0) (n := 0) (Nat.le_of_ble_eq_true rfl) (Nat.le_of_ble_eq_true rfl) ?_
  exact W.iret (v := iI 19039336) hx hb hr (fun t ht hW => ⟨⟨iI 19039336, ((fun k => ([] : List Nat).getD k 0), (fun k => ([19039336] : List Int).getD k 0), (fun k => ([] : List (Nat → Int32)).getD k (fun _ => 0))), rfl, ⟨rfl, (by show (19039336 ≤ 19039336 ∧ 19039336 ≤ 19039336); show (19039336 : Int) ≤ 19039336 ∧ (19039336 : Int) ≤ 19039336; decide)⟩, at9 ht hP hD [] (by decide +kernel) rfl⟩, hS.F ht⟩) hS.2.2 dX12_of_32
def vs_m_of13 : List Cond := .code yX12_of cX12_of 3 (some .int) :: (([] : List Cond) ++ ((wsV RX12 100 RJ0 yJ0_length_8abf5 vs_s_length) ++ ((wsV RX12 105 RJ0 yJ0_charAt_5068e vs_s_charAt) ++ ([]))))
theorem gd_m_of13 : vs_m_of13.all goodWord = true := gd_C (by decide +kernel) (gd_A (by decide +kernel) (gd_A (gd_V gd_s_length (by decide +kernel)) (gd_A (gd_V gd_s_charAt (by decide +kernel)) rfl)))
set_option maxHeartbeats 4000000 in
set_option maxRecDepth 100000 in
theorem m_of13 (l : Launch) (hl : l.stackTraces = false) (D : va_G) (cy : Nat → ClassId) (sa : Nat → Nat)  (sz : Nat) : mI9 l yX12_of vs_m_of13 ({ frames := 4, cells := 0, slots := 0, locals := 85 }) D cy sa sz [.ref (sn sa 41)] [] (fun (r : Int32) (u : SV) => r = iI (u.2.1 0) ∧ (23732 ≤ u.2.1 0 ∧ u.2.1 0 ≤ 23732)) (fun u : SV => []) 0 0 := by
  refine Met.ofW (cc := cX12_of) (maxL := 3) (ret := (some .int)) (by decide) rfl ?_
  intro p e s m args below meth c s₁ B hml hv
  obtain ⟨rfl, hsz, hP, hG, hD0, hT⟩ := hv
  have hx := B.exec
  have hb := B.bytes
  have hr := B.returns
  have hts := atoms_spec (ws := vs_m_of13) B.pre
  have hown : s.vm.findClass RX12 = some m.cls := findClass_of_methodNamed B.named
  have hlocks := B.notSynchronized
  subst hsz
  have hD := hD0.self (sz := s.heap.size)
  generalize hAe : va_A [] s.heap.size = A at hD hT ⊢
  have hA : ∀ q : Nat, s.heap.size ≤ q → A q := fun q h => by rw [← hAe]; exact Or.inr h
  have hS : va_S A s.heap s.heap [] := va_S.rf
  have hl0 := lv_entry ([.ref (sn sa 41)]) (n := 3) (Nat.le_of_ble_eq_true rfl)
  rw [lg_entry_eq]
  generalize (lg_sl ([.ref (sn sa 41)]) ++ List.replicate (3 - (lg_sl ([.ref (sn sa 41)])).length) Slot.unset).toArray = ls at hl0 ⊢
  have hlv : lv_has ls 3 [(0, .ref (sn sa 41))] := hl0
  have gg_0 : GoodIn vs_m_of13 (wsV RX12 100 RJ0 yJ0_length_8abf5 vs_s_length) := goodIn_sub (fun w h => List.mem_cons_of_mem _ (List.mem_append_right _ (List.mem_append_left _ h))) (gd_V gd_s_length (by decide +kernel))
  have gg_1 : GoodIn vs_m_of13 (wsV RX12 105 RJ0 yJ0_charAt_5068e vs_s_charAt) := goodIn_sub (fun w h => List.mem_cons_of_mem _ (List.mem_append_right _ (List.mem_append_right _ (List.mem_append_left _ h)))) (gd_V gd_s_charAt (by decide +kernel))
  refine lv_iconst (v := iI 0) hx hb dX12_of_0 (by decide) ?_
  refine lv_istore_n (lv' := [(1, vI 0), (0, .ref (sn sa 41))]) hx hb dX12_of_1 rfl hlv (by decide) rfl (fun ls hlv => ?_)
  refine lv_iconst (v := iI 0) hx hb dX12_of_2 (by decide) ?_
  refine lv_istore_n (lv' := [(2, vI 0), (1, vI 0), (0, .ref (sn sa 41))]) hx hb dX12_of_3 rfl hlv (by decide) rfl (fun ls hlv => ?_)
  refine lv_iload_n hx hb dX12_of_4 rfl (lv_at hlv 0 rfl) ?_
  refine lv_aload_n hx hb dX12_of_5 rfl (lv_at hlv 2 rfl) ?_
  refine cjr_i [] (fun pre9 => (va_runV (As := []) (rest := [vI 0]) ⟨hx, hb, hml, hown, hts⟩ (s_length l hl D cy sa 41 s.heap.size (by show (0 : Int) ≤ 41 ∧ (41 : Int) ≤ 55; decide)) (cwV 0 hts gg_0 rfl rfl rfl (by decide +kernel) ⟨Nat.le_of_ble_eq_true rfl, Nat.le_of_ble_eq_true rfl⟩) ⟨pcW.blind, (wo_recv (WD.tx hT.2.2 (41 : Int).toNat (by omega)).1 hS), pre9⟩ rfl rfl hlv.1 rfl (lv_room (Nat.le_of_ble_eq_true rfl)) dX12_of_6 ⟨Nat.le_of_ble_eq_true rfl, Nat.le_of_ble_eq_true rfl⟩)) hP hD hS hA hG hT [] rfl (by decide +kernel) (fun r1 u1 H locs hw1 hq9 hS => ?_)
  obtain ⟨rfl, hq1_1, hq1_2⟩ := hw1
  obtain ⟨hP, hD⟩ := pd9 [] hq9
  have hev1 : (u1.2.1 0) = 3 := by first | (rw [hq1_2]; rfl) | omega
  refine lt_i (y := iI 3) (by rw [show (u1.2.1 0) = 3 by omega]) ?_
  refine ir_ge (tgt := 31) hx hb dX12_of_9 (by decide) (by show ((-2147483648) : Int) ≤ 0 ∧ (0 : Int) ≤ 2147483647; decide) (by show ((-2147483648) : Int) ≤ 3 ∧ (3 : Int) ≤ 2147483647; decide) (fun c_1 => by exfalso; omega) (fun c_1 => ?_)
  refine lv_iload_n hx hb dX12_of_12 rfl (lv_at hlv 1 rfl) ?_
  refine lv_iconst (v := iI 5) hx hb dX12_of_13 (by decide) ?_
  refine lv_ishl hx hb dX12_of_14 ?_
  refine lt_i (y := iI 0) (by decide) ?_
  refine lv_aload_n hx hb dX12_of_15 rfl (lv_at hlv 2 rfl) ?_
  refine lv_iload_n hx hb dX12_of_16 rfl (lv_at hlv 0 rfl) ?_
  refine cjr_i [] (fun pre9 => (va_runV (As := [vI 0]) (rest := [vI 0]) ⟨hx, hb, hml, hown, hts⟩ (s_charAt l hl D cy sa 41 0 H.size (by show (0 : Int) ≤ 41 ∧ (41 : Int) ≤ 55; decide) (by show (0 : Int) ≤ 0 ∧ (0 : Int) ≤ 6; decide) (by omega)) (cwV 1 hts gg_1 rfl rfl rfl (by decide +kernel) ⟨Nat.le_of_ble_eq_true rfl, Nat.le_of_ble_eq_true rfl⟩) ⟨pcW.blind, (wo_recv (WD.tx hT.2.2 (41 : Int).toNat (by omega)).1 hS), pre9⟩ rfl rfl hlv.1 rfl (lv_room (Nat.le_of_ble_eq_true rfl)) dX12_of_17 ⟨Nat.le_of_ble_eq_true rfl, Nat.le_of_ble_eq_true rfl⟩)) hP hD hS hA hG hT [] rfl (by decide +kernel) (fun r2 u2 H locs hw2 hq9 hS => ?_)
  obtain ⟨rfl, hq2_1, hq2_2⟩ := hw2
  obtain ⟨hP, hD⟩ := pd9 [] hq9
  have hev2 : (u2.2.1 0) = 119 := by first | (rw [hq2_2]; rfl) | omega
  refine lt_i (y := iI 119) (by rw [show (u2.2.1 0) = 119 by omega]) ?_
  refine lv_bipush (v := iI 96) hx hb dX12_of_20 (by decide) ?_
  refine lv_isub hx hb dX12_of_22 ?_
  refine lt_i (y := iI 23) (by decide) ?_
  refine lv_ior hx hb dX12_of_23 ?_
  refine lt_i (y := iI 23) (by decide) ?_
  refine lv_istore_n (lv' := [(1, vI 23), (2, vI 0), (0, .ref (sn sa 41))]) hx hb dX12_of_24 rfl hlv (by decide) rfl (fun ls hlv => ?_)
  refine lv_iinc (v := iI 1) (lv' := [(2, vI 1), (1, vI 23), (0, .ref (sn sa 41))]) hx hb dX12_of_25 hlv (k := 1) rfl (by decide) (by decide) rfl (fun ls hlv => ?_)
  refine lv_goto (tgt := 4) hx hb dX12_of_28 (by decide) ?_
  refine lv_iload_n hx hb dX12_of_4 rfl (lv_at hlv 0 rfl) ?_
  refine lv_aload_n hx hb dX12_of_5 rfl (lv_at hlv 2 rfl) ?_
  refine cjr_i [] (fun pre9 => (va_runV (As := []) (rest := [vI 1]) ⟨hx, hb, hml, hown, hts⟩ (s_length l hl D cy sa 41 H.size (by show (0 : Int) ≤ 41 ∧ (41 : Int) ≤ 55; decide)) (cwV 0 hts gg_0 rfl rfl rfl (by decide +kernel) ⟨Nat.le_of_ble_eq_true rfl, Nat.le_of_ble_eq_true rfl⟩) ⟨pcW.blind, (wo_recv (WD.tx hT.2.2 (41 : Int).toNat (by omega)).1 hS), pre9⟩ rfl rfl hlv.1 rfl (lv_room (Nat.le_of_ble_eq_true rfl)) dX12_of_6 ⟨Nat.le_of_ble_eq_true rfl, Nat.le_of_ble_eq_true rfl⟩)) hP hD hS hA hG hT [] rfl (by decide +kernel) (fun r3 u3 H locs hw3 hq9 hS => ?_)
  obtain ⟨rfl, hq3_1, hq3_2⟩ := hw3
  obtain ⟨hP, hD⟩ := pd9 [] hq9
  have hev3 : (u3.2.1 0) = 3 := by first | (rw [hq3_2]; rfl) | omega
  refine lt_i (y := iI 3) (by rw [show (u3.2.1 0) = 3 by omega]) ?_
  refine ir_ge (tgt := 31) hx hb dX12_of_9 (by decide) (by show ((-2147483648) : Int) ≤ 1 ∧ (1 : Int) ≤ 2147483647; decide) (by show ((-2147483648) : Int) ≤ 3 ∧ (3 : Int) ≤ 2147483647; decide) (fun c_2 => by exfalso; omega) (fun c_2 => ?_)
  refine lv_iload_n hx hb dX12_of_12 rfl (lv_at hlv 1 rfl) ?_
  refine lv_iconst (v := iI 5) hx hb dX12_of_13 (by decide) ?_
  refine lv_ishl hx hb dX12_of_14 ?_
  refine lt_i (y := iI 736) (by decide) ?_
  refine lv_aload_n hx hb dX12_of_15 rfl (lv_at hlv 2 rfl) ?_
  refine lv_iload_n hx hb dX12_of_16 rfl (lv_at hlv 0 rfl) ?_
  refine cjr_i [] (fun pre9 => (va_runV (As := [vI 1]) (rest := [vI 736]) ⟨hx, hb, hml, hown, hts⟩ (s_charAt l hl D cy sa 41 1 H.size (by show (0 : Int) ≤ 41 ∧ (41 : Int) ≤ 55; decide) (by show (0 : Int) ≤ 1 ∧ (1 : Int) ≤ 6; decide) (by omega)) (cwV 1 hts gg_1 rfl rfl rfl (by decide +kernel) ⟨Nat.le_of_ble_eq_true rfl, Nat.le_of_ble_eq_true rfl⟩) ⟨pcW.blind, (wo_recv (WD.tx hT.2.2 (41 : Int).toNat (by omega)).1 hS), pre9⟩ rfl rfl hlv.1 rfl (lv_room (Nat.le_of_ble_eq_true rfl)) dX12_of_17 ⟨Nat.le_of_ble_eq_true rfl, Nat.le_of_ble_eq_true rfl⟩)) hP hD hS hA hG hT [] rfl (by decide +kernel) (fun r4 u4 H locs hw4 hq9 hS => ?_)
  obtain ⟨rfl, hq4_1, hq4_2⟩ := hw4
  obtain ⟨hP, hD⟩ := pd9 [] hq9
  have hev4 : (u4.2.1 0) = 101 := by first | (rw [hq4_2]; rfl) | omega
  refine lt_i (y := iI 101) (by rw [show (u4.2.1 0) = 101 by omega]) ?_
  refine lv_bipush (v := iI 96) hx hb dX12_of_20 (by decide) ?_
  refine lv_isub hx hb dX12_of_22 ?_
  refine lt_i (y := iI 5) (by decide) ?_
  refine lv_ior hx hb dX12_of_23 ?_
  refine lt_i (y := iI 741) (by decide) ?_
  refine lv_istore_n (lv' := [(1, vI 741), (2, vI 1), (0, .ref (sn sa 41))]) hx hb dX12_of_24 rfl hlv (by decide) rfl (fun ls hlv => ?_)
  refine lv_iinc (v := iI 2) (lv' := [(2, vI 2), (1, vI 741), (0, .ref (sn sa 41))]) hx hb dX12_of_25 hlv (k := 1) rfl (by decide) (by decide) rfl (fun ls hlv => ?_)
  refine lv_goto (tgt := 4) hx hb dX12_of_28 (by decide) ?_
  refine lv_iload_n hx hb dX12_of_4 rfl (lv_at hlv 0 rfl) ?_
  refine lv_aload_n hx hb dX12_of_5 rfl (lv_at hlv 2 rfl) ?_
  refine cjr_i [] (fun pre9 => (va_runV (As := []) (rest := [vI 2]) ⟨hx, hb, hml, hown, hts⟩ (s_length l hl D cy sa 41 H.size (by show (0 : Int) ≤ 41 ∧ (41 : Int) ≤ 55; decide)) (cwV 0 hts gg_0 rfl rfl rfl (by decide +kernel) ⟨Nat.le_of_ble_eq_true rfl, Nat.le_of_ble_eq_true rfl⟩) ⟨pcW.blind, (wo_recv (WD.tx hT.2.2 (41 : Int).toNat (by omega)).1 hS), pre9⟩ rfl rfl hlv.1 rfl (lv_room (Nat.le_of_ble_eq_true rfl)) dX12_of_6 ⟨Nat.le_of_ble_eq_true rfl, Nat.le_of_ble_eq_true rfl⟩)) hP hD hS hA hG hT [] rfl (by decide +kernel) (fun r5 u5 H locs hw5 hq9 hS => ?_)
  obtain ⟨rfl, hq5_1, hq5_2⟩ := hw5
  obtain ⟨hP, hD⟩ := pd9 [] hq9
  have hev5 : (u5.2.1 0) = 3 := by first | (rw [hq5_2]; rfl) | omega
  refine lt_i (y := iI 3) (by rw [show (u5.2.1 0) = 3 by omega]) ?_
  refine ir_ge (tgt := 31) hx hb dX12_of_9 (by decide) (by show ((-2147483648) : Int) ≤ 2 ∧ (2 : Int) ≤ 2147483647; decide) (by show ((-2147483648) : Int) ≤ 3 ∧ (3 : Int) ≤ 2147483647; decide) (fun c_3 => by exfalso; omega) (fun c_3 => ?_)
  refine lv_iload_n hx hb dX12_of_12 rfl (lv_at hlv 1 rfl) ?_
  refine lv_iconst (v := iI 5) hx hb dX12_of_13 (by decide) ?_
  refine lv_ishl hx hb dX12_of_14 ?_
  refine lt_i (y := iI 23712) (by decide) ?_
  refine lv_aload_n hx hb dX12_of_15 rfl (lv_at hlv 2 rfl) ?_
  refine lv_iload_n hx hb dX12_of_16 rfl (lv_at hlv 0 rfl) ?_
  refine cjr_i [] (fun pre9 => (va_runV (As := [vI 2]) (rest := [vI 23712]) ⟨hx, hb, hml, hown, hts⟩ (s_charAt l hl D cy sa 41 2 H.size (by show (0 : Int) ≤ 41 ∧ (41 : Int) ≤ 55; decide) (by show (0 : Int) ≤ 2 ∧ (2 : Int) ≤ 6; decide) (by omega)) (cwV 1 hts gg_1 rfl rfl rfl (by decide +kernel) ⟨Nat.le_of_ble_eq_true rfl, Nat.le_of_ble_eq_true rfl⟩) ⟨pcW.blind, (wo_recv (WD.tx hT.2.2 (41 : Int).toNat (by omega)).1 hS), pre9⟩ rfl rfl hlv.1 rfl (lv_room (Nat.le_of_ble_eq_true rfl)) dX12_of_17 ⟨Nat.le_of_ble_eq_true rfl, Nat.le_of_ble_eq_true rfl⟩)) hP hD hS hA hG hT [] rfl (by decide +kernel) (fun r6 u6 H locs hw6 hq9 hS => ?_)
  obtain ⟨rfl, hq6_1, hq6_2⟩ := hw6
  obtain ⟨hP, hD⟩ := pd9 [] hq9
  have hev6 : (u6.2.1 0) = 116 := by first | (rw [hq6_2]; rfl) | omega
  refine lt_i (y := iI 116) (by rw [show (u6.2.1 0) = 116 by omega]) ?_
  refine lv_bipush (v := iI 96) hx hb dX12_of_20 (by decide) ?_
  refine lv_isub hx hb dX12_of_22 ?_
  refine lt_i (y := iI 20) (by decide) ?_
  refine lv_ior hx hb dX12_of_23 ?_
  refine lt_i (y := iI 23732) (by decide) ?_
  refine lv_istore_n (lv' := [(1, vI 23732), (2, vI 2), (0, .ref (sn sa 41))]) hx hb dX12_of_24 rfl hlv (by decide) rfl (fun ls hlv => ?_)
  refine lv_iinc (v := iI 3) (lv' := [(2, vI 3), (1, vI 23732), (0, .ref (sn sa 41))]) hx hb dX12_of_25 hlv (k := 1) rfl (by decide) (by decide) rfl (fun ls hlv => ?_)
  refine lv_goto (tgt := 4) hx hb dX12_of_28 (by decide) ?_
  refine lv_iload_n hx hb dX12_of_4 rfl (lv_at hlv 0 rfl) ?_
  refine lv_aload_n hx hb dX12_of_5 rfl (lv_at hlv 2 rfl) ?_
  refine cjr_i [] (fun pre9 => (va_runV (As := []) (rest := [vI 3]) ⟨hx, hb, hml, hown, hts⟩ (s_length l hl D cy sa 41 H.size (by show (0 : Int) ≤ 41 ∧ (41 : Int) ≤ 55; decide)) (cwV 0 hts gg_0 rfl rfl rfl (by decide +kernel) ⟨Nat.le_of_ble_eq_true rfl, Nat.le_of_ble_eq_true rfl⟩) ⟨pcW.blind, (wo_recv (WD.tx hT.2.2 (41 : Int).toNat (by omega)).1 hS), pre9⟩ rfl rfl hlv.1 rfl (lv_room (Nat.le_of_ble_eq_true rfl)) dX12_of_6 ⟨Nat.le_of_ble_eq_true rfl, Nat.le_of_ble_eq_true rfl⟩)) hP hD hS hA hG hT [] rfl (by decide +kernel) (fun r7 u7 H locs hw7 hq9 hS => ?_)
  obtain ⟨rfl, hq7_1, hq7_2⟩ := hw7
  obtain ⟨hP, hD⟩ := pd9 [] hq9
  have hev7 : (u7.2.1 0) = 3 := by first | (rw [hq7_2]; rfl) | omega
  refine lt_i (y := iI 3) (by rw [show (u7.2.1 0) = 3 by omega]) ?_
  refine ir_ge (tgt := 31) hx hb dX12_of_9 (by decide) (by show ((-2147483648) : Int) ≤ 3 ∧ (3 : Int) ≤ 2147483647; decide) (by show ((-2147483648) : Int) ≤ 3 ∧ (3 : Int) ≤ 2147483647; decide) (fun c_4 => ?_) (fun c_4 => by exfalso; omega)
  refine lv_iload_n hx hb dX12_of_31 rfl (lv_at hlv 1 rfl) ?_
  refine W.widen (k := 0) (n := 0) (Nat.le_of_ble_eq_true rfl) (Nat.le_of_ble_eq_true rfl) ?_
  exact W.iret (v := iI 23732) hx hb hr (fun t ht hW => ⟨⟨iI 23732, ((fun k => ([] : List Nat).getD k 0), (fun k => ([23732] : List Int).getD k 0), (fun k => ([] : List (Nat → Int32)).getD k (fun _ => 0))), rfl, ⟨rfl, (by show (23732 ≤ 23732 ∧ 23732 ≤ 23732); show (23732 : Int) ≤ 23732 ∧ (23732 : Int) ≤ 23732; decide)⟩, at9 ht hP hD [] (by decide +kernel) rfl⟩, hS.F ht⟩) hS.2.2 dX12_of_32
def vs_m_of14 : List Cond := .code yX12_of cX12_of 3 (some .int) :: (([] : List Cond) ++ ((wsV RX12 100 RJ0 yJ0_length_8abf5 vs_s_length) ++ ((wsV RX12 105 RJ0 yJ0_charAt_5068e vs_s_charAt) ++ ([]))))
theorem gd_m_of14 : vs_m_of14.all goodWord = true := gd_C (by decide +kernel) (gd_A (by decide +kernel) (gd_A (gd_V gd_s_length (by decide +kernel)) (gd_A (gd_V gd_s_charAt (by decide +kernel)) rfl)))
set_option maxHeartbeats 4000000 in
set_option maxRecDepth 100000 in
theorem m_of14 (l : Launch) (hl : l.stackTraces = false) (D : va_G) (cy : Nat → ClassId) (sa : Nat → Nat)  (sz : Nat) : mI9 l yX12_of vs_m_of14 ({ frames := 4, cells := 0, slots := 0, locals := 85 }) D cy sa sz [.ref (sn sa 42)] [] (fun (r : Int32) (u : SV) => r = iI (u.2.1 0) ∧ (635383 ≤ u.2.1 0 ∧ u.2.1 0 ≤ 635383)) (fun u : SV => []) 0 0 := by
  refine Met.ofW (cc := cX12_of) (maxL := 3) (ret := (some .int)) (by decide) rfl ?_
  intro p e s m args below meth c s₁ B hml hv
  obtain ⟨rfl, hsz, hP, hG, hD0, hT⟩ := hv
  have hx := B.exec
  have hb := B.bytes
  have hr := B.returns
  have hts := atoms_spec (ws := vs_m_of14) B.pre
  have hown : s.vm.findClass RX12 = some m.cls := findClass_of_methodNamed B.named
  have hlocks := B.notSynchronized
  subst hsz
  have hD := hD0.self (sz := s.heap.size)
  generalize hAe : va_A [] s.heap.size = A at hD hT ⊢
  have hA : ∀ q : Nat, s.heap.size ≤ q → A q := fun q h => by rw [← hAe]; exact Or.inr h
  have hS : va_S A s.heap s.heap [] := va_S.rf
  have hl0 := lv_entry ([.ref (sn sa 42)]) (n := 3) (Nat.le_of_ble_eq_true rfl)
  rw [lg_entry_eq]
  generalize (lg_sl ([.ref (sn sa 42)]) ++ List.replicate (3 - (lg_sl ([.ref (sn sa 42)])).length) Slot.unset).toArray = ls at hl0 ⊢
  have hlv : lv_has ls 3 [(0, .ref (sn sa 42))] := hl0
  have gg_0 : GoodIn vs_m_of14 (wsV RX12 100 RJ0 yJ0_length_8abf5 vs_s_length) := goodIn_sub (fun w h => List.mem_cons_of_mem _ (List.mem_append_right _ (List.mem_append_left _ h))) (gd_V gd_s_length (by decide +kernel))
  have gg_1 : GoodIn vs_m_of14 (wsV RX12 105 RJ0 yJ0_charAt_5068e vs_s_charAt) := goodIn_sub (fun w h => List.mem_cons_of_mem _ (List.mem_append_right _ (List.mem_append_right _ (List.mem_append_left _ h)))) (gd_V gd_s_charAt (by decide +kernel))
  refine lv_iconst (v := iI 0) hx hb dX12_of_0 (by decide) ?_
  refine lv_istore_n (lv' := [(1, vI 0), (0, .ref (sn sa 42))]) hx hb dX12_of_1 rfl hlv (by decide) rfl (fun ls hlv => ?_)
  refine lv_iconst (v := iI 0) hx hb dX12_of_2 (by decide) ?_
  refine lv_istore_n (lv' := [(2, vI 0), (1, vI 0), (0, .ref (sn sa 42))]) hx hb dX12_of_3 rfl hlv (by decide) rfl (fun ls hlv => ?_)
  refine lv_iload_n hx hb dX12_of_4 rfl (lv_at hlv 0 rfl) ?_
  refine lv_aload_n hx hb dX12_of_5 rfl (lv_at hlv 2 rfl) ?_
  refine cjr_i [] (fun pre9 => (va_runV (As := []) (rest := [vI 0]) ⟨hx, hb, hml, hown, hts⟩ (s_length l hl D cy sa 42 s.heap.size (by show (0 : Int) ≤ 42 ∧ (42 : Int) ≤ 55; decide)) (cwV 0 hts gg_0 rfl rfl rfl (by decide +kernel) ⟨Nat.le_of_ble_eq_true rfl, Nat.le_of_ble_eq_true rfl⟩) ⟨pcW.blind, (wo_recv (WD.tx hT.2.2 (42 : Int).toNat (by omega)).1 hS), pre9⟩ rfl rfl hlv.1 rfl (lv_room (Nat.le_of_ble_eq_true rfl)) dX12_of_6 ⟨Nat.le_of_ble_eq_true rfl, Nat.le_of_ble_eq_true rfl⟩)) hP hD hS hA hG hT [] rfl (by decide +kernel) (fun r1 u1 H locs hw1 hq9 hS => ?_)
  obtain ⟨rfl, hq1_1, hq1_2⟩ := hw1
  obtain ⟨hP, hD⟩ := pd9 [] hq9
  have hev1 : (u1.2.1 0) = 4 := by first | (rw [hq1_2]; rfl) | omega
  refine lt_i (y := iI 4) (by rw [show (u1.2.1 0) = 4 by omega]) ?_
  refine ir_ge (tgt := 31) hx hb dX12_of_9 (by decide) (by show ((-2147483648) : Int) ≤ 0 ∧ (0 : Int) ≤ 2147483647; decide) (by show ((-2147483648) : Int) ≤ 4 ∧ (4 : Int) ≤ 2147483647; decide) (fun c_1 => by exfalso; omega) (fun c_1 => ?_)
  refine lv_iload_n hx hb dX12_of_12 rfl (lv_at hlv 1 rfl) ?_
  refine lv_iconst (v := iI 5) hx hb dX12_of_13 (by decide) ?_
  refine lv_ishl hx hb dX12_of_14 ?_
  refine lt_i (y := iI 0) (by decide) ?_
  refine lv_aload_n hx hb dX12_of_15 rfl (lv_at hlv 2 rfl) ?_
  refine lv_iload_n hx hb dX12_of_16 rfl (lv_at hlv 0 rfl) ?_
  refine cjr_i [] (fun pre9 => (va_runV (As := [vI 0]) (rest := [vI 0]) ⟨hx, hb, hml, hown, hts⟩ (s_charAt l hl D cy sa 42 0 H.size (by show (0 : Int) ≤ 42 ∧ (42 : Int) ≤ 55; decide) (by show (0 : Int) ≤ 0 ∧ (0 : Int) ≤ 6; decide) (by omega)) (cwV 1 hts gg_1 rfl rfl rfl (by decide +kernel) ⟨Nat.le_of_ble_eq_true rfl, Nat.le_of_ble_eq_true rfl⟩) ⟨pcW.blind, (wo_recv (WD.tx hT.2.2 (42 : Int).toNat (by omega)).1 hS), pre9⟩ rfl rfl hlv.1 rfl (lv_room (Nat.le_of_ble_eq_true rfl)) dX12_of_17 ⟨Nat.le_of_ble_eq_true rfl, Nat.le_of_ble_eq_true rfl⟩)) hP hD hS hA hG hT [] rfl (by decide +kernel) (fun r2 u2 H locs hw2 hq9 hS => ?_)
  obtain ⟨rfl, hq2_1, hq2_2⟩ := hw2
  obtain ⟨hP, hD⟩ := pd9 [] hq9
  have hev2 : (u2.2.1 0) = 115 := by first | (rw [hq2_2]; rfl) | omega
  refine lt_i (y := iI 115) (by rw [show (u2.2.1 0) = 115 by omega]) ?_
  refine lv_bipush (v := iI 96) hx hb dX12_of_20 (by decide) ?_
  refine lv_isub hx hb dX12_of_22 ?_
  refine lt_i (y := iI 19) (by decide) ?_
  refine lv_ior hx hb dX12_of_23 ?_
  refine lt_i (y := iI 19) (by decide) ?_
  refine lv_istore_n (lv' := [(1, vI 19), (2, vI 0), (0, .ref (sn sa 42))]) hx hb dX12_of_24 rfl hlv (by decide) rfl (fun ls hlv => ?_)
  refine lv_iinc (v := iI 1) (lv' := [(2, vI 1), (1, vI 19), (0, .ref (sn sa 42))]) hx hb dX12_of_25 hlv (k := 1) rfl (by decide) (by decide) rfl (fun ls hlv => ?_)
  refine lv_goto (tgt := 4) hx hb dX12_of_28 (by decide) ?_
  refine lv_iload_n hx hb dX12_of_4 rfl (lv_at hlv 0 rfl) ?_
  refine lv_aload_n hx hb dX12_of_5 rfl (lv_at hlv 2 rfl) ?_
  refine cjr_i [] (fun pre9 => (va_runV (As := []) (rest := [vI 1]) ⟨hx, hb, hml, hown, hts⟩ (s_length l hl D cy sa 42 H.size (by show (0 : Int) ≤ 42 ∧ (42 : Int) ≤ 55; decide)) (cwV 0 hts gg_0 rfl rfl rfl (by decide +kernel) ⟨Nat.le_of_ble_eq_true rfl, Nat.le_of_ble_eq_true rfl⟩) ⟨pcW.blind, (wo_recv (WD.tx hT.2.2 (42 : Int).toNat (by omega)).1 hS), pre9⟩ rfl rfl hlv.1 rfl (lv_room (Nat.le_of_ble_eq_true rfl)) dX12_of_6 ⟨Nat.le_of_ble_eq_true rfl, Nat.le_of_ble_eq_true rfl⟩)) hP hD hS hA hG hT [] rfl (by decide +kernel) (fun r3 u3 H locs hw3 hq9 hS => ?_)
  obtain ⟨rfl, hq3_1, hq3_2⟩ := hw3
  obtain ⟨hP, hD⟩ := pd9 [] hq9
  have hev3 : (u3.2.1 0) = 4 := by first | (rw [hq3_2]; rfl) | omega
  refine lt_i (y := iI 4) (by rw [show (u3.2.1 0) = 4 by omega]) ?_
  refine ir_ge (tgt := 31) hx hb dX12_of_9 (by decide) (by show ((-2147483648) : Int) ≤ 1 ∧ (1 : Int) ≤ 2147483647; decide) (by show ((-2147483648) : Int) ≤ 4 ∧ (4 : Int) ≤ 2147483647; decide) (fun c_2 => by exfalso; omega) (fun c_2 => ?_)
  refine lv_iload_n hx hb dX12_of_12 rfl (lv_at hlv 1 rfl) ?_
  refine lv_iconst (v := iI 5) hx hb dX12_of_13 (by decide) ?_
  refine lv_ishl hx hb dX12_of_14 ?_
  refine lt_i (y := iI 608) (by decide) ?_
  refine lv_aload_n hx hb dX12_of_15 rfl (lv_at hlv 2 rfl) ?_
  refine lv_iload_n hx hb dX12_of_16 rfl (lv_at hlv 0 rfl) ?_
  refine cjr_i [] (fun pre9 => (va_runV (As := [vI 1]) (rest := [vI 608]) ⟨hx, hb, hml, hown, hts⟩ (s_charAt l hl D cy sa 42 1 H.size (by show (0 : Int) ≤ 42 ∧ (42 : Int) ≤ 55; decide) (by show (0 : Int) ≤ 1 ∧ (1 : Int) ≤ 6; decide) (by omega)) (cwV 1 hts gg_1 rfl rfl rfl (by decide +kernel) ⟨Nat.le_of_ble_eq_true rfl, Nat.le_of_ble_eq_true rfl⟩) ⟨pcW.blind, (wo_recv (WD.tx hT.2.2 (42 : Int).toNat (by omega)).1 hS), pre9⟩ rfl rfl hlv.1 rfl (lv_room (Nat.le_of_ble_eq_true rfl)) dX12_of_17 ⟨Nat.le_of_ble_eq_true rfl, Nat.le_of_ble_eq_true rfl⟩)) hP hD hS hA hG hT [] rfl (by decide +kernel) (fun r4 u4 H locs hw4 hq9 hS => ?_)
  obtain ⟨rfl, hq4_1, hq4_2⟩ := hw4
  obtain ⟨hP, hD⟩ := pd9 [] hq9
  have hev4 : (u4.2.1 0) = 108 := by first | (rw [hq4_2]; rfl) | omega
  refine lt_i (y := iI 108) (by rw [show (u4.2.1 0) = 108 by omega]) ?_
  refine lv_bipush (v := iI 96) hx hb dX12_of_20 (by decide) ?_
  refine lv_isub hx hb dX12_of_22 ?_
  refine lt_i (y := iI 12) (by decide) ?_
  refine lv_ior hx hb dX12_of_23 ?_
  refine lt_i (y := iI 620) (by decide) ?_
  refine lv_istore_n (lv' := [(1, vI 620), (2, vI 1), (0, .ref (sn sa 42))]) hx hb dX12_of_24 rfl hlv (by decide) rfl (fun ls hlv => ?_)
  refine lv_iinc (v := iI 2) (lv' := [(2, vI 2), (1, vI 620), (0, .ref (sn sa 42))]) hx hb dX12_of_25 hlv (k := 1) rfl (by decide) (by decide) rfl (fun ls hlv => ?_)
  refine lv_goto (tgt := 4) hx hb dX12_of_28 (by decide) ?_
  refine lv_iload_n hx hb dX12_of_4 rfl (lv_at hlv 0 rfl) ?_
  refine lv_aload_n hx hb dX12_of_5 rfl (lv_at hlv 2 rfl) ?_
  refine cjr_i [] (fun pre9 => (va_runV (As := []) (rest := [vI 2]) ⟨hx, hb, hml, hown, hts⟩ (s_length l hl D cy sa 42 H.size (by show (0 : Int) ≤ 42 ∧ (42 : Int) ≤ 55; decide)) (cwV 0 hts gg_0 rfl rfl rfl (by decide +kernel) ⟨Nat.le_of_ble_eq_true rfl, Nat.le_of_ble_eq_true rfl⟩) ⟨pcW.blind, (wo_recv (WD.tx hT.2.2 (42 : Int).toNat (by omega)).1 hS), pre9⟩ rfl rfl hlv.1 rfl (lv_room (Nat.le_of_ble_eq_true rfl)) dX12_of_6 ⟨Nat.le_of_ble_eq_true rfl, Nat.le_of_ble_eq_true rfl⟩)) hP hD hS hA hG hT [] rfl (by decide +kernel) (fun r5 u5 H locs hw5 hq9 hS => ?_)
  obtain ⟨rfl, hq5_1, hq5_2⟩ := hw5
  obtain ⟨hP, hD⟩ := pd9 [] hq9
  have hev5 : (u5.2.1 0) = 4 := by first | (rw [hq5_2]; rfl) | omega
  refine lt_i (y := iI 4) (by rw [show (u5.2.1 0) = 4 by omega]) ?_
  refine ir_ge (tgt := 31) hx hb dX12_of_9 (by decide) (by show ((-2147483648) : Int) ≤ 2 ∧ (2 : Int) ≤ 2147483647; decide) (by show ((-2147483648) : Int) ≤ 4 ∧ (4 : Int) ≤ 2147483647; decide) (fun c_3 => by exfalso; omega) (fun c_3 => ?_)
  refine lv_iload_n hx hb dX12_of_12 rfl (lv_at hlv 1 rfl) ?_
  refine lv_iconst (v := iI 5) hx hb dX12_of_13 (by decide) ?_
  refine lv_ishl hx hb dX12_of_14 ?_
  refine lt_i (y := iI 19840) (by decide) ?_
  refine lv_aload_n hx hb dX12_of_15 rfl (lv_at hlv 2 rfl) ?_
  refine lv_iload_n hx hb dX12_of_16 rfl (lv_at hlv 0 rfl) ?_
  refine cjr_i [] (fun pre9 => (va_runV (As := [vI 2]) (rest := [vI 19840]) ⟨hx, hb, hml, hown, hts⟩ (s_charAt l hl D cy sa 42 2 H.size (by show (0 : Int) ≤ 42 ∧ (42 : Int) ≤ 55; decide) (by show (0 : Int) ≤ 2 ∧ (2 : Int) ≤ 6; decide) (by omega)) (cwV 1 hts gg_1 rfl rfl rfl (by decide +kernel) ⟨Nat.le_of_ble_eq_true rfl, Nat.le_of_ble_eq_true rfl⟩) ⟨pcW.blind, (wo_recv (WD.tx hT.2.2 (42 : Int).toNat (by omega)).1 hS), pre9⟩ rfl rfl hlv.1 rfl (lv_room (Nat.le_of_ble_eq_true rfl)) dX12_of_17 ⟨Nat.le_of_ble_eq_true rfl, Nat.le_of_ble_eq_true rfl⟩)) hP hD hS hA hG hT [] rfl (by decide +kernel) (fun r6 u6 H locs hw6 hq9 hS => ?_)
  obtain ⟨rfl, hq6_1, hq6_2⟩ := hw6
  obtain ⟨hP, hD⟩ := pd9 [] hq9
  have hev6 : (u6.2.1 0) = 111 := by first | (rw [hq6_2]; rfl) | omega
  refine lt_i (y := iI 111) (by rw [show (u6.2.1 0) = 111 by omega]) ?_
  refine lv_bipush (v := iI 96) hx hb dX12_of_20 (by decide) ?_
  refine lv_isub hx hb dX12_of_22 ?_
  refine lt_i (y := iI 15) (by decide) ?_
  refine lv_ior hx hb dX12_of_23 ?_
  refine lt_i (y := iI 19855) (by decide) ?_
  refine lv_istore_n (lv' := [(1, vI 19855), (2, vI 2), (0, .ref (sn sa 42))]) hx hb dX12_of_24 rfl hlv (by decide) rfl (fun ls hlv => ?_)
  refine lv_iinc (v := iI 3) (lv' := [(2, vI 3), (1, vI 19855), (0, .ref (sn sa 42))]) hx hb dX12_of_25 hlv (k := 1) rfl (by decide) (by decide) rfl (fun ls hlv => ?_)
  refine lv_goto (tgt := 4) hx hb dX12_of_28 (by decide) ?_
  refine lv_iload_n hx hb dX12_of_4 rfl (lv_at hlv 0 rfl) ?_
  refine lv_aload_n hx hb dX12_of_5 rfl (lv_at hlv 2 rfl) ?_
  refine cjr_i [] (fun pre9 => (va_runV (As := []) (rest := [vI 3]) ⟨hx, hb, hml, hown, hts⟩ (s_length l hl D cy sa 42 H.size (by show (0 : Int) ≤ 42 ∧ (42 : Int) ≤ 55; decide)) (cwV 0 hts gg_0 rfl rfl rfl (by decide +kernel) ⟨Nat.le_of_ble_eq_true rfl, Nat.le_of_ble_eq_true rfl⟩) ⟨pcW.blind, (wo_recv (WD.tx hT.2.2 (42 : Int).toNat (by omega)).1 hS), pre9⟩ rfl rfl hlv.1 rfl (lv_room (Nat.le_of_ble_eq_true rfl)) dX12_of_6 ⟨Nat.le_of_ble_eq_true rfl, Nat.le_of_ble_eq_true rfl⟩)) hP hD hS hA hG hT [] rfl (by decide +kernel) (fun r7 u7 H locs hw7 hq9 hS => ?_)
  obtain ⟨rfl, hq7_1, hq7_2⟩ := hw7
  obtain ⟨hP, hD⟩ := pd9 [] hq9
  have hev7 : (u7.2.1 0) = 4 := by first | (rw [hq7_2]; rfl) | omega
  refine lt_i (y := iI 4) (by rw [show (u7.2.1 0) = 4 by omega]) ?_
  refine ir_ge (tgt := 31) hx hb dX12_of_9 (by decide) (by show ((-2147483648) : Int) ≤ 3 ∧ (3 : Int) ≤ 2147483647; decide) (by show ((-2147483648) : Int) ≤ 4 ∧ (4 : Int) ≤ 2147483647; decide) (fun c_4 => by exfalso; omega) (fun c_4 => ?_)
  refine lv_iload_n hx hb dX12_of_12 rfl (lv_at hlv 1 rfl) ?_
  refine lv_iconst (v := iI 5) hx hb dX12_of_13 (by decide) ?_
  refine lv_ishl hx hb dX12_of_14 ?_
  refine lt_i (y := iI 635360) (by decide) ?_
  refine lv_aload_n hx hb dX12_of_15 rfl (lv_at hlv 2 rfl) ?_
  refine lv_iload_n hx hb dX12_of_16 rfl (lv_at hlv 0 rfl) ?_
  refine cjr_i [] (fun pre9 => (va_runV (As := [vI 3]) (rest := [vI 635360]) ⟨hx, hb, hml, hown, hts⟩ (s_charAt l hl D cy sa 42 3 H.size (by show (0 : Int) ≤ 42 ∧ (42 : Int) ≤ 55; decide) (by show (0 : Int) ≤ 3 ∧ (3 : Int) ≤ 6; decide) (by omega)) (cwV 1 hts gg_1 rfl rfl rfl (by decide +kernel) ⟨Nat.le_of_ble_eq_true rfl, Nat.le_of_ble_eq_true rfl⟩) ⟨pcW.blind, (wo_recv (WD.tx hT.2.2 (42 : Int).toNat (by omega)).1 hS), pre9⟩ rfl rfl hlv.1 rfl (lv_room (Nat.le_of_ble_eq_true rfl)) dX12_of_17 ⟨Nat.le_of_ble_eq_true rfl, Nat.le_of_ble_eq_true rfl⟩)) hP hD hS hA hG hT [] rfl (by decide +kernel) (fun r8 u8 H locs hw8 hq9 hS => ?_)
  obtain ⟨rfl, hq8_1, hq8_2⟩ := hw8
  obtain ⟨hP, hD⟩ := pd9 [] hq9
  have hev8 : (u8.2.1 0) = 119 := by first | (rw [hq8_2]; rfl) | omega
  refine lt_i (y := iI 119) (by rw [show (u8.2.1 0) = 119 by omega]) ?_
  refine lv_bipush (v := iI 96) hx hb dX12_of_20 (by decide) ?_
  refine lv_isub hx hb dX12_of_22 ?_
  refine lt_i (y := iI 23) (by decide) ?_
  refine lv_ior hx hb dX12_of_23 ?_
  refine lt_i (y := iI 635383) (by decide) ?_
  refine lv_istore_n (lv' := [(1, vI 635383), (2, vI 3), (0, .ref (sn sa 42))]) hx hb dX12_of_24 rfl hlv (by decide) rfl (fun ls hlv => ?_)
  refine lv_iinc (v := iI 4) (lv' := [(2, vI 4), (1, vI 635383), (0, .ref (sn sa 42))]) hx hb dX12_of_25 hlv (k := 1) rfl (by decide) (by decide) rfl (fun ls hlv => ?_)
  refine lv_goto (tgt := 4) hx hb dX12_of_28 (by decide) ?_
  refine lv_iload_n hx hb dX12_of_4 rfl (lv_at hlv 0 rfl) ?_
  refine lv_aload_n hx hb dX12_of_5 rfl (lv_at hlv 2 rfl) ?_
  refine cjr_i [] (fun pre9 => (va_runV (As := []) (rest := [vI 4]) ⟨hx, hb, hml, hown, hts⟩ (s_length l hl D cy sa 42 H.size (by show (0 : Int) ≤ 42 ∧ (42 : Int) ≤ 55; decide)) (cwV 0 hts gg_0 rfl rfl rfl (by decide +kernel) ⟨Nat.le_of_ble_eq_true rfl, Nat.le_of_ble_eq_true rfl⟩) ⟨pcW.blind, (wo_recv (WD.tx hT.2.2 (42 : Int).toNat (by omega)).1 hS), pre9⟩ rfl rfl hlv.1 rfl (lv_room (Nat.le_of_ble_eq_true rfl)) dX12_of_6 ⟨Nat.le_of_ble_eq_true rfl, Nat.le_of_ble_eq_true rfl⟩)) hP hD hS hA hG hT [] rfl (by decide +kernel) (fun r9 u9 H locs hw9 hq9 hS => ?_)
  obtain ⟨rfl, hq9_1, hq9_2⟩ := hw9
  obtain ⟨hP, hD⟩ := pd9 [] hq9
  have hev9 : (u9.2.1 0) = 4 := by first | (rw [hq9_2]; rfl) | omega
  refine lt_i (y := iI 4) (by rw [show (u9.2.1 0) = 4 by omega]) ?_
  refine ir_ge (tgt := 31) hx hb dX12_of_9 (by decide) (by show ((-2147483648) : Int) ≤ 4 ∧ (4 : Int) ≤ 2147483647; decide) (by show ((-2147483648) : Int) ≤ 4 ∧ (4 : Int) ≤ 2147483647; decide) (fun c_5 => ?_) (fun c_5 => by exfalso; omega)
  refine lv_iload_n hx hb dX12_of_31 rfl (lv_at hlv 1 rfl) ?_
  refine W.widen (k := 0) (n := 0) (Nat.le_of_ble_eq_true rfl) (Nat.le_of_ble_eq_true rfl) ?_
  exact W.iret (v := iI 635383) hx hb hr (fun t ht hW => ⟨⟨iI 635383, ((fun k => ([] : List Nat).getD k 0), (fun k => ([635383] : List Int).getD k 0), (fun k => ([] : List (Nat → Int32)).getD k (fun _ => 0))), rfl, ⟨rfl, (by show (635383 ≤ 635383 ∧ 635383 ≤ 635383); show (635383 : Int) ≤ 635383 ∧ (635383 : Int) ≤ 635383; decide)⟩, at9 ht hP hD [] (by decide +kernel) rfl⟩, hS.F ht⟩) hS.2.2 dX12_of_32
def vs_m_of15 : List Cond := .code yX12_of cX12_of 3 (some .int) :: (([] : List Cond) ++ ((wsV RX12 100 RJ0 yJ0_length_8abf5 vs_s_length) ++ ((wsV RX12 105 RJ0 yJ0_charAt_5068e vs_s_charAt) ++ ([]))))
theorem gd_m_of15 : vs_m_of15.all goodWord = true := gd_C (by decide +kernel) (gd_A (by decide +kernel) (gd_A (gd_V gd_s_length (by decide +kernel)) (gd_A (gd_V gd_s_charAt (by decide +kernel)) rfl)))
set_option maxHeartbeats 4000000 in
set_option maxRecDepth 100000 in
theorem m_of15 (l : Launch) (hl : l.stackTraces = false) (D : va_G) (cy : Nat → ClassId) (sa : Nat → Nat)  (sz : Nat) : mI9 l yX12_of vs_m_of15 ({ frames := 4, cells := 0, slots := 0, locals := 85 }) D cy sa sz [.ref (sn sa 43)] [] (fun (r : Int32) (u : SV) => r = iI (u.2.1 0) ∧ (16052 ≤ u.2.1 0 ∧ u.2.1 0 ≤ 16052)) (fun u : SV => []) 0 0 := by
  refine Met.ofW (cc := cX12_of) (maxL := 3) (ret := (some .int)) (by decide) rfl ?_
  intro p e s m args below meth c s₁ B hml hv
  obtain ⟨rfl, hsz, hP, hG, hD0, hT⟩ := hv
  have hx := B.exec
  have hb := B.bytes
  have hr := B.returns
  have hts := atoms_spec (ws := vs_m_of15) B.pre
  have hown : s.vm.findClass RX12 = some m.cls := findClass_of_methodNamed B.named
  have hlocks := B.notSynchronized
  subst hsz
  have hD := hD0.self (sz := s.heap.size)
  generalize hAe : va_A [] s.heap.size = A at hD hT ⊢
  have hA : ∀ q : Nat, s.heap.size ≤ q → A q := fun q h => by rw [← hAe]; exact Or.inr h
  have hS : va_S A s.heap s.heap [] := va_S.rf
  have hl0 := lv_entry ([.ref (sn sa 43)]) (n := 3) (Nat.le_of_ble_eq_true rfl)
  rw [lg_entry_eq]
  generalize (lg_sl ([.ref (sn sa 43)]) ++ List.replicate (3 - (lg_sl ([.ref (sn sa 43)])).length) Slot.unset).toArray = ls at hl0 ⊢
  have hlv : lv_has ls 3 [(0, .ref (sn sa 43))] := hl0
  have gg_0 : GoodIn vs_m_of15 (wsV RX12 100 RJ0 yJ0_length_8abf5 vs_s_length) := goodIn_sub (fun w h => List.mem_cons_of_mem _ (List.mem_append_right _ (List.mem_append_left _ h))) (gd_V gd_s_length (by decide +kernel))
  have gg_1 : GoodIn vs_m_of15 (wsV RX12 105 RJ0 yJ0_charAt_5068e vs_s_charAt) := goodIn_sub (fun w h => List.mem_cons_of_mem _ (List.mem_append_right _ (List.mem_append_right _ (List.mem_append_left _ h)))) (gd_V gd_s_charAt (by decide +kernel))
  refine lv_iconst (v := iI 0) hx hb dX12_of_0 (by decide) ?_
  refine lv_istore_n (lv' := [(1, vI 0), (0, .ref (sn sa 43))]) hx hb dX12_of_1 rfl hlv (by decide) rfl (fun ls hlv => ?_)
  refine lv_iconst (v := iI 0) hx hb dX12_of_2 (by decide) ?_
  refine lv_istore_n (lv' := [(2, vI 0), (1, vI 0), (0, .ref (sn sa 43))]) hx hb dX12_of_3 rfl hlv (by decide) rfl (fun ls hlv => ?_)
  refine lv_iload_n hx hb dX12_of_4 rfl (lv_at hlv 0 rfl) ?_
  refine lv_aload_n hx hb dX12_of_5 rfl (lv_at hlv 2 rfl) ?_
  refine cjr_i [] (fun pre9 => (va_runV (As := []) (rest := [vI 0]) ⟨hx, hb, hml, hown, hts⟩ (s_length l hl D cy sa 43 s.heap.size (by show (0 : Int) ≤ 43 ∧ (43 : Int) ≤ 55; decide)) (cwV 0 hts gg_0 rfl rfl rfl (by decide +kernel) ⟨Nat.le_of_ble_eq_true rfl, Nat.le_of_ble_eq_true rfl⟩) ⟨pcW.blind, (wo_recv (WD.tx hT.2.2 (43 : Int).toNat (by omega)).1 hS), pre9⟩ rfl rfl hlv.1 rfl (lv_room (Nat.le_of_ble_eq_true rfl)) dX12_of_6 ⟨Nat.le_of_ble_eq_true rfl, Nat.le_of_ble_eq_true rfl⟩)) hP hD hS hA hG hT [] rfl (by decide +kernel) (fun r1 u1 H locs hw1 hq9 hS => ?_)
  obtain ⟨rfl, hq1_1, hq1_2⟩ := hw1
  obtain ⟨hP, hD⟩ := pd9 [] hq9
  have hev1 : (u1.2.1 0) = 3 := by first | (rw [hq1_2]; rfl) | omega
  refine lt_i (y := iI 3) (by rw [show (u1.2.1 0) = 3 by omega]) ?_
  refine ir_ge (tgt := 31) hx hb dX12_of_9 (by decide) (by show ((-2147483648) : Int) ≤ 0 ∧ (0 : Int) ≤ 2147483647; decide) (by show ((-2147483648) : Int) ≤ 3 ∧ (3 : Int) ≤ 2147483647; decide) (fun c_1 => by exfalso; omega) (fun c_1 => ?_)
  refine lv_iload_n hx hb dX12_of_12 rfl (lv_at hlv 1 rfl) ?_
  refine lv_iconst (v := iI 5) hx hb dX12_of_13 (by decide) ?_
  refine lv_ishl hx hb dX12_of_14 ?_
  refine lt_i (y := iI 0) (by decide) ?_
  refine lv_aload_n hx hb dX12_of_15 rfl (lv_at hlv 2 rfl) ?_
  refine lv_iload_n hx hb dX12_of_16 rfl (lv_at hlv 0 rfl) ?_
  refine cjr_i [] (fun pre9 => (va_runV (As := [vI 0]) (rest := [vI 0]) ⟨hx, hb, hml, hown, hts⟩ (s_charAt l hl D cy sa 43 0 H.size (by show (0 : Int) ≤ 43 ∧ (43 : Int) ≤ 55; decide) (by show (0 : Int) ≤ 0 ∧ (0 : Int) ≤ 6; decide) (by omega)) (cwV 1 hts gg_1 rfl rfl rfl (by decide +kernel) ⟨Nat.le_of_ble_eq_true rfl, Nat.le_of_ble_eq_true rfl⟩) ⟨pcW.blind, (wo_recv (WD.tx hT.2.2 (43 : Int).toNat (by omega)).1 hS), pre9⟩ rfl rfl hlv.1 rfl (lv_room (Nat.le_of_ble_eq_true rfl)) dX12_of_17 ⟨Nat.le_of_ble_eq_true rfl, Nat.le_of_ble_eq_true rfl⟩)) hP hD hS hA hG hT [] rfl (by decide +kernel) (fun r2 u2 H locs hw2 hq9 hS => ?_)
  obtain ⟨rfl, hq2_1, hq2_2⟩ := hw2
  obtain ⟨hP, hD⟩ := pd9 [] hq9
  have hev2 : (u2.2.1 0) = 111 := by first | (rw [hq2_2]; rfl) | omega
  refine lt_i (y := iI 111) (by rw [show (u2.2.1 0) = 111 by omega]) ?_
  refine lv_bipush (v := iI 96) hx hb dX12_of_20 (by decide) ?_
  refine lv_isub hx hb dX12_of_22 ?_
  refine lt_i (y := iI 15) (by decide) ?_
  refine lv_ior hx hb dX12_of_23 ?_
  refine lt_i (y := iI 15) (by decide) ?_
  refine lv_istore_n (lv' := [(1, vI 15), (2, vI 0), (0, .ref (sn sa 43))]) hx hb dX12_of_24 rfl hlv (by decide) rfl (fun ls hlv => ?_)
  refine lv_iinc (v := iI 1) (lv' := [(2, vI 1), (1, vI 15), (0, .ref (sn sa 43))]) hx hb dX12_of_25 hlv (k := 1) rfl (by decide) (by decide) rfl (fun ls hlv => ?_)
  refine lv_goto (tgt := 4) hx hb dX12_of_28 (by decide) ?_
  refine lv_iload_n hx hb dX12_of_4 rfl (lv_at hlv 0 rfl) ?_
  refine lv_aload_n hx hb dX12_of_5 rfl (lv_at hlv 2 rfl) ?_
  refine cjr_i [] (fun pre9 => (va_runV (As := []) (rest := [vI 1]) ⟨hx, hb, hml, hown, hts⟩ (s_length l hl D cy sa 43 H.size (by show (0 : Int) ≤ 43 ∧ (43 : Int) ≤ 55; decide)) (cwV 0 hts gg_0 rfl rfl rfl (by decide +kernel) ⟨Nat.le_of_ble_eq_true rfl, Nat.le_of_ble_eq_true rfl⟩) ⟨pcW.blind, (wo_recv (WD.tx hT.2.2 (43 : Int).toNat (by omega)).1 hS), pre9⟩ rfl rfl hlv.1 rfl (lv_room (Nat.le_of_ble_eq_true rfl)) dX12_of_6 ⟨Nat.le_of_ble_eq_true rfl, Nat.le_of_ble_eq_true rfl⟩)) hP hD hS hA hG hT [] rfl (by decide +kernel) (fun r3 u3 H locs hw3 hq9 hS => ?_)
  obtain ⟨rfl, hq3_1, hq3_2⟩ := hw3
  obtain ⟨hP, hD⟩ := pd9 [] hq9
  have hev3 : (u3.2.1 0) = 3 := by first | (rw [hq3_2]; rfl) | omega
  refine lt_i (y := iI 3) (by rw [show (u3.2.1 0) = 3 by omega]) ?_
  refine ir_ge (tgt := 31) hx hb dX12_of_9 (by decide) (by show ((-2147483648) : Int) ≤ 1 ∧ (1 : Int) ≤ 2147483647; decide) (by show ((-2147483648) : Int) ≤ 3 ∧ (3 : Int) ≤ 2147483647; decide) (fun c_2 => by exfalso; omega) (fun c_2 => ?_)
  refine lv_iload_n hx hb dX12_of_12 rfl (lv_at hlv 1 rfl) ?_
  refine lv_iconst (v := iI 5) hx hb dX12_of_13 (by decide) ?_
  refine lv_ishl hx hb dX12_of_14 ?_
  refine lt_i (y := iI 480) (by decide) ?_
  refine lv_aload_n hx hb dX12_of_15 rfl (lv_at hlv 2 rfl) ?_
  refine lv_iload_n hx hb dX12_of_16 rfl (lv_at hlv 0 rfl) ?_
  refine cjr_i [] (fun pre9 => (va_runV (As := [vI 1]) (rest := [vI 480]) ⟨hx, hb, hml, hown, hts⟩ (s_charAt l hl D cy sa 43 1 H.size (by show (0 : Int) ≤ 43 ∧ (43 : Int) ≤ 55; decide) (by show (0 : Int) ≤ 1 ∧ (1 : Int) ≤ 6; decide) (by omega)) (cwV 1 hts gg_1 rfl rfl rfl (by decide +kernel) ⟨Nat.le_of_ble_eq_true rfl, Nat.le_of_ble_eq_true rfl⟩) ⟨pcW.blind, (wo_recv (WD.tx hT.2.2 (43 : Int).toNat (by omega)).1 hS), pre9⟩ rfl rfl hlv.1 rfl (lv_room (Nat.le_of_ble_eq_true rfl)) dX12_of_17 ⟨Nat.le_of_ble_eq_true rfl, Nat.le_of_ble_eq_true rfl⟩)) hP hD hS hA hG hT [] rfl (by decide +kernel) (fun r4 u4 H locs hw4 hq9 hS => ?_)
  obtain ⟨rfl, hq4_1, hq4_2⟩ := hw4
  obtain ⟨hP, hD⟩ := pd9 [] hq9
  have hev4 : (u4.2.1 0) = 117 := by first | (rw [hq4_2]; rfl) | omega
  refine lt_i (y := iI 117) (by rw [show (u4.2.1 0) = 117 by omega]) ?_
  refine lv_bipush (v := iI 96) hx hb dX12_of_20 (by decide) ?_
  refine lv_isub hx hb dX12_of_22 ?_
  refine lt_i (y := iI 21) (by decide) ?_
  refine lv_ior hx hb dX12_of_23 ?_
  refine lt_i (y := iI 501) (by decide) ?_
  refine lv_istore_n (lv' := [(1, vI 501), (2, vI 1), (0, .ref (sn sa 43))]) hx hb dX12_of_24 rfl hlv (by decide) rfl (fun ls hlv => ?_)
  refine lv_iinc (v := iI 2) (lv' := [(2, vI 2), (1, vI 501), (0, .ref (sn sa 43))]) hx hb dX12_of_25 hlv (k := 1) rfl (by decide) (by decide) rfl (fun ls hlv => ?_)
  refine lv_goto (tgt := 4) hx hb dX12_of_28 (by decide) ?_
  refine lv_iload_n hx hb dX12_of_4 rfl (lv_at hlv 0 rfl) ?_
  refine lv_aload_n hx hb dX12_of_5 rfl (lv_at hlv 2 rfl) ?_
  refine cjr_i [] (fun pre9 => (va_runV (As := []) (rest := [vI 2]) ⟨hx, hb, hml, hown, hts⟩ (s_length l hl D cy sa 43 H.size (by show (0 : Int) ≤ 43 ∧ (43 : Int) ≤ 55; decide)) (cwV 0 hts gg_0 rfl rfl rfl (by decide +kernel) ⟨Nat.le_of_ble_eq_true rfl, Nat.le_of_ble_eq_true rfl⟩) ⟨pcW.blind, (wo_recv (WD.tx hT.2.2 (43 : Int).toNat (by omega)).1 hS), pre9⟩ rfl rfl hlv.1 rfl (lv_room (Nat.le_of_ble_eq_true rfl)) dX12_of_6 ⟨Nat.le_of_ble_eq_true rfl, Nat.le_of_ble_eq_true rfl⟩)) hP hD hS hA hG hT [] rfl (by decide +kernel) (fun r5 u5 H locs hw5 hq9 hS => ?_)
  obtain ⟨rfl, hq5_1, hq5_2⟩ := hw5
  obtain ⟨hP, hD⟩ := pd9 [] hq9
  have hev5 : (u5.2.1 0) = 3 := by first | (rw [hq5_2]; rfl) | omega
  refine lt_i (y := iI 3) (by rw [show (u5.2.1 0) = 3 by omega]) ?_
  refine ir_ge (tgt := 31) hx hb dX12_of_9 (by decide) (by show ((-2147483648) : Int) ≤ 2 ∧ (2 : Int) ≤ 2147483647; decide) (by show ((-2147483648) : Int) ≤ 3 ∧ (3 : Int) ≤ 2147483647; decide) (fun c_3 => by exfalso; omega) (fun c_3 => ?_)
  refine lv_iload_n hx hb dX12_of_12 rfl (lv_at hlv 1 rfl) ?_
  refine lv_iconst (v := iI 5) hx hb dX12_of_13 (by decide) ?_
  refine lv_ishl hx hb dX12_of_14 ?_
  refine lt_i (y := iI 16032) (by decide) ?_
  refine lv_aload_n hx hb dX12_of_15 rfl (lv_at hlv 2 rfl) ?_
  refine lv_iload_n hx hb dX12_of_16 rfl (lv_at hlv 0 rfl) ?_
  refine cjr_i [] (fun pre9 => (va_runV (As := [vI 2]) (rest := [vI 16032]) ⟨hx, hb, hml, hown, hts⟩ (s_charAt l hl D cy sa 43 2 H.size (by show (0 : Int) ≤ 43 ∧ (43 : Int) ≤ 55; decide) (by show (0 : Int) ≤ 2 ∧ (2 : Int) ≤ 6; decide) (by omega)) (cwV 1 hts gg_1 rfl rfl rfl (by decide +kernel) ⟨Nat.le_of_ble_eq_true rfl, Nat.le_of_ble_eq_true rfl⟩) ⟨pcW.blind, (wo_recv (WD.tx hT.2.2 (43 : Int).toNat (by omega)).1 hS), pre9⟩ rfl rfl hlv.1 rfl (lv_room (Nat.le_of_ble_eq_true rfl)) dX12_of_17 ⟨Nat.le_of_ble_eq_true rfl, Nat.le_of_ble_eq_true rfl⟩)) hP hD hS hA hG hT [] rfl (by decide +kernel) (fun r6 u6 H locs hw6 hq9 hS => ?_)
  obtain ⟨rfl, hq6_1, hq6_2⟩ := hw6
  obtain ⟨hP, hD⟩ := pd9 [] hq9
  have hev6 : (u6.2.1 0) = 116 := by first | (rw [hq6_2]; rfl) | omega
  refine lt_i (y := iI 116) (by rw [show (u6.2.1 0) = 116 by omega]) ?_
  refine lv_bipush (v := iI 96) hx hb dX12_of_20 (by decide) ?_
  refine lv_isub hx hb dX12_of_22 ?_
  refine lt_i (y := iI 20) (by decide) ?_
  refine lv_ior hx hb dX12_of_23 ?_
  refine lt_i (y := iI 16052) (by decide) ?_
  refine lv_istore_n (lv' := [(1, vI 16052), (2, vI 2), (0, .ref (sn sa 43))]) hx hb dX12_of_24 rfl hlv (by decide) rfl (fun ls hlv => ?_)
  refine lv_iinc (v := iI 3) (lv' := [(2, vI 3), (1, vI 16052), (0, .ref (sn sa 43))]) hx hb dX12_of_25 hlv (k := 1) rfl (by decide) (by decide) rfl (fun ls hlv => ?_)
  refine lv_goto (tgt := 4) hx hb dX12_of_28 (by decide) ?_
  refine lv_iload_n hx hb dX12_of_4 rfl (lv_at hlv 0 rfl) ?_
  refine lv_aload_n hx hb dX12_of_5 rfl (lv_at hlv 2 rfl) ?_
  refine cjr_i [] (fun pre9 => (va_runV (As := []) (rest := [vI 3]) ⟨hx, hb, hml, hown, hts⟩ (s_length l hl D cy sa 43 H.size (by show (0 : Int) ≤ 43 ∧ (43 : Int) ≤ 55; decide)) (cwV 0 hts gg_0 rfl rfl rfl (by decide +kernel) ⟨Nat.le_of_ble_eq_true rfl, Nat.le_of_ble_eq_true rfl⟩) ⟨pcW.blind, (wo_recv (WD.tx hT.2.2 (43 : Int).toNat (by omega)).1 hS), pre9⟩ rfl rfl hlv.1 rfl (lv_room (Nat.le_of_ble_eq_true rfl)) dX12_of_6 ⟨Nat.le_of_ble_eq_true rfl, Nat.le_of_ble_eq_true rfl⟩)) hP hD hS hA hG hT [] rfl (by decide +kernel) (fun r7 u7 H locs hw7 hq9 hS => ?_)
  obtain ⟨rfl, hq7_1, hq7_2⟩ := hw7
  obtain ⟨hP, hD⟩ := pd9 [] hq9
  have hev7 : (u7.2.1 0) = 3 := by first | (rw [hq7_2]; rfl) | omega
  refine lt_i (y := iI 3) (by rw [show (u7.2.1 0) = 3 by omega]) ?_
  refine ir_ge (tgt := 31) hx hb dX12_of_9 (by decide) (by show ((-2147483648) : Int) ≤ 3 ∧ (3 : Int) ≤ 2147483647; decide) (by show ((-2147483648) : Int) ≤ 3 ∧ (3 : Int) ≤ 2147483647; decide) (fun c_4 => ?_) (fun c_4 => by exfalso; omega)
  refine lv_iload_n hx hb dX12_of_31 rfl (lv_at hlv 1 rfl) ?_
  refine W.widen (k := 0) (n := 0) (Nat.le_of_ble_eq_true rfl) (Nat.le_of_ble_eq_true rfl) ?_
  exact W.iret (v := iI 16052) hx hb hr (fun t ht hW => ⟨⟨iI 16052, ((fun k => ([] : List Nat).getD k 0), (fun k => ([16052] : List Int).getD k 0), (fun k => ([] : List (Nat → Int32)).getD k (fun _ => 0))), rfl, ⟨rfl, (by show (16052 ≤ 16052 ∧ 16052 ≤ 16052); show (16052 : Int) ≤ 16052 ∧ (16052 : Int) ≤ 16052; decide)⟩, at9 ht hP hD [] (by decide +kernel) rfl⟩, hS.F ht⟩) hS.2.2 dX12_of_32
def vs_m_of16 : List Cond := .code yX12_of cX12_of 3 (some .int) :: (([] : List Cond) ++ ((wsV RX12 100 RJ0 yJ0_length_8abf5 vs_s_length) ++ ((wsV RX12 105 RJ0 yJ0_charAt_5068e vs_s_charAt) ++ ([]))))
theorem gd_m_of16 : vs_m_of16.all goodWord = true := gd_C (by decide +kernel) (gd_A (by decide +kernel) (gd_A (gd_V gd_s_length (by decide +kernel)) (gd_A (gd_V gd_s_charAt (by decide +kernel)) rfl)))
set_option maxHeartbeats 4000000 in
set_option maxRecDepth 100000 in
theorem m_of16 (l : Launch) (hl : l.stackTraces = false) (D : va_G) (cy : Nat → ClassId) (sa : Nat → Nat)  (sz : Nat) : mI9 l yX12_of vs_m_of16 ({ frames := 4, cells := 0, slots := 0, locals := 85 }) D cy sa sz [.ref (sn sa 44)] [] (fun (r : Int32) (u : SV) => r = iI (u.2.1 0) ∧ (294 ≤ u.2.1 0 ∧ u.2.1 0 ≤ 294)) (fun u : SV => []) 0 0 := by
  refine Met.ofW (cc := cX12_of) (maxL := 3) (ret := (some .int)) (by decide) rfl ?_
  intro p e s m args below meth c s₁ B hml hv
  obtain ⟨rfl, hsz, hP, hG, hD0, hT⟩ := hv
  have hx := B.exec
  have hb := B.bytes
  have hr := B.returns
  have hts := atoms_spec (ws := vs_m_of16) B.pre
  have hown : s.vm.findClass RX12 = some m.cls := findClass_of_methodNamed B.named
  have hlocks := B.notSynchronized
  subst hsz
  have hD := hD0.self (sz := s.heap.size)
  generalize hAe : va_A [] s.heap.size = A at hD hT ⊢
  have hA : ∀ q : Nat, s.heap.size ≤ q → A q := fun q h => by rw [← hAe]; exact Or.inr h
  have hS : va_S A s.heap s.heap [] := va_S.rf
  have hl0 := lv_entry ([.ref (sn sa 44)]) (n := 3) (Nat.le_of_ble_eq_true rfl)
  rw [lg_entry_eq]
  generalize (lg_sl ([.ref (sn sa 44)]) ++ List.replicate (3 - (lg_sl ([.ref (sn sa 44)])).length) Slot.unset).toArray = ls at hl0 ⊢
  have hlv : lv_has ls 3 [(0, .ref (sn sa 44))] := hl0
  have gg_0 : GoodIn vs_m_of16 (wsV RX12 100 RJ0 yJ0_length_8abf5 vs_s_length) := goodIn_sub (fun w h => List.mem_cons_of_mem _ (List.mem_append_right _ (List.mem_append_left _ h))) (gd_V gd_s_length (by decide +kernel))
  have gg_1 : GoodIn vs_m_of16 (wsV RX12 105 RJ0 yJ0_charAt_5068e vs_s_charAt) := goodIn_sub (fun w h => List.mem_cons_of_mem _ (List.mem_append_right _ (List.mem_append_right _ (List.mem_append_left _ h)))) (gd_V gd_s_charAt (by decide +kernel))
  refine lv_iconst (v := iI 0) hx hb dX12_of_0 (by decide) ?_
  refine lv_istore_n (lv' := [(1, vI 0), (0, .ref (sn sa 44))]) hx hb dX12_of_1 rfl hlv (by decide) rfl (fun ls hlv => ?_)
  refine lv_iconst (v := iI 0) hx hb dX12_of_2 (by decide) ?_
  refine lv_istore_n (lv' := [(2, vI 0), (1, vI 0), (0, .ref (sn sa 44))]) hx hb dX12_of_3 rfl hlv (by decide) rfl (fun ls hlv => ?_)
  refine lv_iload_n hx hb dX12_of_4 rfl (lv_at hlv 0 rfl) ?_
  refine lv_aload_n hx hb dX12_of_5 rfl (lv_at hlv 2 rfl) ?_
  refine cjr_i [] (fun pre9 => (va_runV (As := []) (rest := [vI 0]) ⟨hx, hb, hml, hown, hts⟩ (s_length l hl D cy sa 44 s.heap.size (by show (0 : Int) ≤ 44 ∧ (44 : Int) ≤ 55; decide)) (cwV 0 hts gg_0 rfl rfl rfl (by decide +kernel) ⟨Nat.le_of_ble_eq_true rfl, Nat.le_of_ble_eq_true rfl⟩) ⟨pcW.blind, (wo_recv (WD.tx hT.2.2 (44 : Int).toNat (by omega)).1 hS), pre9⟩ rfl rfl hlv.1 rfl (lv_room (Nat.le_of_ble_eq_true rfl)) dX12_of_6 ⟨Nat.le_of_ble_eq_true rfl, Nat.le_of_ble_eq_true rfl⟩)) hP hD hS hA hG hT [] rfl (by decide +kernel) (fun r1 u1 H locs hw1 hq9 hS => ?_)
  obtain ⟨rfl, hq1_1, hq1_2⟩ := hw1
  obtain ⟨hP, hD⟩ := pd9 [] hq9
  have hev1 : (u1.2.1 0) = 2 := by first | (rw [hq1_2]; rfl) | omega
  refine lt_i (y := iI 2) (by rw [show (u1.2.1 0) = 2 by omega]) ?_
  refine ir_ge (tgt := 31) hx hb dX12_of_9 (by decide) (by show ((-2147483648) : Int) ≤ 0 ∧ (0 : Int) ≤ 2147483647; decide) (by show ((-2147483648) : Int) ≤ 2 ∧ (2 : Int) ≤ 2147483647; decide) (fun c_1 => by exfalso; omega) (fun c_1 => ?_)
  refine lv_iload_n hx hb dX12_of_12 rfl (lv_at hlv 1 rfl) ?_
  refine lv_iconst (v := iI 5) hx hb dX12_of_13 (by decide) ?_
  refine lv_ishl hx hb dX12_of_14 ?_
  refine lt_i (y := iI 0) (by decide) ?_
  refine lv_aload_n hx hb dX12_of_15 rfl (lv_at hlv 2 rfl) ?_
  refine lv_iload_n hx hb dX12_of_16 rfl (lv_at hlv 0 rfl) ?_
  refine cjr_i [] (fun pre9 => (va_runV (As := [vI 0]) (rest := [vI 0]) ⟨hx, hb, hml, hown, hts⟩ (s_charAt l hl D cy sa 44 0 H.size (by show (0 : Int) ≤ 44 ∧ (44 : Int) ≤ 55; decide) (by show (0 : Int) ≤ 0 ∧ (0 : Int) ≤ 6; decide) (by omega)) (cwV 1 hts gg_1 rfl rfl rfl (by decide +kernel) ⟨Nat.le_of_ble_eq_true rfl, Nat.le_of_ble_eq_true rfl⟩) ⟨pcW.blind, (wo_recv (WD.tx hT.2.2 (44 : Int).toNat (by omega)).1 hS), pre9⟩ rfl rfl hlv.1 rfl (lv_room (Nat.le_of_ble_eq_true rfl)) dX12_of_17 ⟨Nat.le_of_ble_eq_true rfl, Nat.le_of_ble_eq_true rfl⟩)) hP hD hS hA hG hT [] rfl (by decide +kernel) (fun r2 u2 H locs hw2 hq9 hS => ?_)
  obtain ⟨rfl, hq2_1, hq2_2⟩ := hw2
  obtain ⟨hP, hD⟩ := pd9 [] hq9
  have hev2 : (u2.2.1 0) = 105 := by first | (rw [hq2_2]; rfl) | omega
  refine lt_i (y := iI 105) (by rw [show (u2.2.1 0) = 105 by omega]) ?_
  refine lv_bipush (v := iI 96) hx hb dX12_of_20 (by decide) ?_
  refine lv_isub hx hb dX12_of_22 ?_
  refine lt_i (y := iI 9) (by decide) ?_
  refine lv_ior hx hb dX12_of_23 ?_
  refine lt_i (y := iI 9) (by decide) ?_
  refine lv_istore_n (lv' := [(1, vI 9), (2, vI 0), (0, .ref (sn sa 44))]) hx hb dX12_of_24 rfl hlv (by decide) rfl (fun ls hlv => ?_)
  refine lv_iinc (v := iI 1) (lv' := [(2, vI 1), (1, vI 9), (0, .ref (sn sa 44))]) hx hb dX12_of_25 hlv (k := 1) rfl (by decide) (by decide) rfl (fun ls hlv => ?_)
  refine lv_goto (tgt := 4) hx hb dX12_of_28 (by decide) ?_
  refine lv_iload_n hx hb dX12_of_4 rfl (lv_at hlv 0 rfl) ?_
  refine lv_aload_n hx hb dX12_of_5 rfl (lv_at hlv 2 rfl) ?_
  refine cjr_i [] (fun pre9 => (va_runV (As := []) (rest := [vI 1]) ⟨hx, hb, hml, hown, hts⟩ (s_length l hl D cy sa 44 H.size (by show (0 : Int) ≤ 44 ∧ (44 : Int) ≤ 55; decide)) (cwV 0 hts gg_0 rfl rfl rfl (by decide +kernel) ⟨Nat.le_of_ble_eq_true rfl, Nat.le_of_ble_eq_true rfl⟩) ⟨pcW.blind, (wo_recv (WD.tx hT.2.2 (44 : Int).toNat (by omega)).1 hS), pre9⟩ rfl rfl hlv.1 rfl (lv_room (Nat.le_of_ble_eq_true rfl)) dX12_of_6 ⟨Nat.le_of_ble_eq_true rfl, Nat.le_of_ble_eq_true rfl⟩)) hP hD hS hA hG hT [] rfl (by decide +kernel) (fun r3 u3 H locs hw3 hq9 hS => ?_)
  obtain ⟨rfl, hq3_1, hq3_2⟩ := hw3
  obtain ⟨hP, hD⟩ := pd9 [] hq9
  have hev3 : (u3.2.1 0) = 2 := by first | (rw [hq3_2]; rfl) | omega
  refine lt_i (y := iI 2) (by rw [show (u3.2.1 0) = 2 by omega]) ?_
  refine ir_ge (tgt := 31) hx hb dX12_of_9 (by decide) (by show ((-2147483648) : Int) ≤ 1 ∧ (1 : Int) ≤ 2147483647; decide) (by show ((-2147483648) : Int) ≤ 2 ∧ (2 : Int) ≤ 2147483647; decide) (fun c_2 => by exfalso; omega) (fun c_2 => ?_)
  refine lv_iload_n hx hb dX12_of_12 rfl (lv_at hlv 1 rfl) ?_
  refine lv_iconst (v := iI 5) hx hb dX12_of_13 (by decide) ?_
  refine lv_ishl hx hb dX12_of_14 ?_
  refine lt_i (y := iI 288) (by decide) ?_
  refine lv_aload_n hx hb dX12_of_15 rfl (lv_at hlv 2 rfl) ?_
  refine lv_iload_n hx hb dX12_of_16 rfl (lv_at hlv 0 rfl) ?_
  refine cjr_i [] (fun pre9 => (va_runV (As := [vI 1]) (rest := [vI 288]) ⟨hx, hb, hml, hown, hts⟩ (s_charAt l hl D cy sa 44 1 H.size (by show (0 : Int) ≤ 44 ∧ (44 : Int) ≤ 55; decide) (by show (0 : Int) ≤ 1 ∧ (1 : Int) ≤ 6; decide) (by omega)) (cwV 1 hts gg_1 rfl rfl rfl (by decide +kernel) ⟨Nat.le_of_ble_eq_true rfl, Nat.le_of_ble_eq_true rfl⟩) ⟨pcW.blind, (wo_recv (WD.tx hT.2.2 (44 : Int).toNat (by omega)).1 hS), pre9⟩ rfl rfl hlv.1 rfl (lv_room (Nat.le_of_ble_eq_true rfl)) dX12_of_17 ⟨Nat.le_of_ble_eq_true rfl, Nat.le_of_ble_eq_true rfl⟩)) hP hD hS hA hG hT [] rfl (by decide +kernel) (fun r4 u4 H locs hw4 hq9 hS => ?_)
  obtain ⟨rfl, hq4_1, hq4_2⟩ := hw4
  obtain ⟨hP, hD⟩ := pd9 [] hq9
  have hev4 : (u4.2.1 0) = 102 := by first | (rw [hq4_2]; rfl) | omega
  refine lt_i (y := iI 102) (by rw [show (u4.2.1 0) = 102 by omega]) ?_
  refine lv_bipush (v := iI 96) hx hb dX12_of_20 (by decide) ?_
  refine lv_isub hx hb dX12_of_22 ?_
  refine lt_i (y := iI 6) (by decide) ?_
  refine lv_ior hx hb dX12_of_23 ?_
  refine lt_i (y := iI 294) (by decide) ?_
  refine lv_istore_n (lv' := [(1, vI 294), (2, vI 1), (0, .ref (sn sa 44))]) hx hb dX12_of_24 rfl hlv (by decide) rfl (fun ls hlv => ?_)
  refine lv_iinc (v := iI 2) (lv' := [(2, vI 2), (1, vI 294), (0, .ref (sn sa 44))]) hx hb dX12_of_25 hlv (k := 1) rfl (by decide) (by decide) rfl (fun ls hlv => ?_)
  refine lv_goto (tgt := 4) hx hb dX12_of_28 (by decide) ?_
  refine lv_iload_n hx hb dX12_of_4 rfl (lv_at hlv 0 rfl) ?_
  refine lv_aload_n hx hb dX12_of_5 rfl (lv_at hlv 2 rfl) ?_
  refine cjr_i [] (fun pre9 => (va_runV (As := []) (rest := [vI 2]) ⟨hx, hb, hml, hown, hts⟩ (s_length l hl D cy sa 44 H.size (by show (0 : Int) ≤ 44 ∧ (44 : Int) ≤ 55; decide)) (cwV 0 hts gg_0 rfl rfl rfl (by decide +kernel) ⟨Nat.le_of_ble_eq_true rfl, Nat.le_of_ble_eq_true rfl⟩) ⟨pcW.blind, (wo_recv (WD.tx hT.2.2 (44 : Int).toNat (by omega)).1 hS), pre9⟩ rfl rfl hlv.1 rfl (lv_room (Nat.le_of_ble_eq_true rfl)) dX12_of_6 ⟨Nat.le_of_ble_eq_true rfl, Nat.le_of_ble_eq_true rfl⟩)) hP hD hS hA hG hT [] rfl (by decide +kernel) (fun r5 u5 H locs hw5 hq9 hS => ?_)
  obtain ⟨rfl, hq5_1, hq5_2⟩ := hw5
  obtain ⟨hP, hD⟩ := pd9 [] hq9
  have hev5 : (u5.2.1 0) = 2 := by first | (rw [hq5_2]; rfl) | omega
  refine lt_i (y := iI 2) (by rw [show (u5.2.1 0) = 2 by omega]) ?_
  refine ir_ge (tgt := 31) hx hb dX12_of_9 (by decide) (by show ((-2147483648) : Int) ≤ 2 ∧ (2 : Int) ≤ 2147483647; decide) (by show ((-2147483648) : Int) ≤ 2 ∧ (2 : Int) ≤ 2147483647; decide) (fun c_3 => ?_) (fun c_3 => by exfalso; omega)
  refine lv_iload_n hx hb dX12_of_31 rfl (lv_at hlv 1 rfl) ?_
  refine W.widen (k := 0) (n := 0) (Nat.le_of_ble_eq_true rfl) (Nat.le_of_ble_eq_true rfl) ?_
  exact W.iret (v := iI 294) hx hb hr (fun t ht hW => ⟨⟨iI 294, ((fun k => ([] : List Nat).getD k 0), (fun k => ([294] : List Int).getD k 0), (fun k => ([] : List (Nat → Int32)).getD k (fun _ => 0))), rfl, ⟨rfl, (by show (294 ≤ 294 ∧ 294 ≤ 294); show (294 : Int) ≤ 294 ∧ (294 : Int) ≤ 294; decide)⟩, at9 ht hP hD [] (by decide +kernel) rfl⟩, hS.F ht⟩) hS.2.2 dX12_of_32
def vs_m_of17 : List Cond := .code yX12_of cX12_of 3 (some .int) :: (([] : List Cond) ++ ((wsV RX12 100 RJ0 yJ0_length_8abf5 vs_s_length) ++ ((wsV RX12 105 RJ0 yJ0_charAt_5068e vs_s_charAt) ++ ([]))))
theorem gd_m_of17 : vs_m_of17.all goodWord = true := gd_C (by decide +kernel) (gd_A (by decide +kernel) (gd_A (gd_V gd_s_length (by decide +kernel)) (gd_A (gd_V gd_s_charAt (by decide +kernel)) rfl)))
set_option maxHeartbeats 4000000 in
set_option maxRecDepth 100000 in
theorem m_of17 (l : Launch) (hl : l.stackTraces = false) (D : va_G) (cy : Nat → ClassId) (sa : Nat → Nat)  (sz : Nat) : mI9 l yX12_of vs_m_of17 ({ frames := 4, cells := 0, slots := 0, locals := 85 }) D cy sa sz [.ref (sn sa 45)] [] (fun (r : Int32) (u : SV) => r = iI (u.2.1 0) ∧ (663726 ≤ u.2.1 0 ∧ u.2.1 0 ≤ 663726)) (fun u : SV => []) 0 0 := by
  refine Met.ofW (cc := cX12_of) (maxL := 3) (ret := (some .int)) (by decide) rfl ?_
  intro p e s m args below meth c s₁ B hml hv
  obtain ⟨rfl, hsz, hP, hG, hD0, hT⟩ := hv
  have hx := B.exec
  have hb := B.bytes
  have hr := B.returns
  have hts := atoms_spec (ws := vs_m_of17) B.pre
  have hown : s.vm.findClass RX12 = some m.cls := findClass_of_methodNamed B.named
  have hlocks := B.notSynchronized
  subst hsz
  have hD := hD0.self (sz := s.heap.size)
  generalize hAe : va_A [] s.heap.size = A at hD hT ⊢
  have hA : ∀ q : Nat, s.heap.size ≤ q → A q := fun q h => by rw [← hAe]; exact Or.inr h
  have hS : va_S A s.heap s.heap [] := va_S.rf
  have hl0 := lv_entry ([.ref (sn sa 45)]) (n := 3) (Nat.le_of_ble_eq_true rfl)
  rw [lg_entry_eq]
  generalize (lg_sl ([.ref (sn sa 45)]) ++ List.replicate (3 - (lg_sl ([.ref (sn sa 45)])).length) Slot.unset).toArray = ls at hl0 ⊢
  have hlv : lv_has ls 3 [(0, .ref (sn sa 45))] := hl0
  have gg_0 : GoodIn vs_m_of17 (wsV RX12 100 RJ0 yJ0_length_8abf5 vs_s_length) := goodIn_sub (fun w h => List.mem_cons_of_mem _ (List.mem_append_right _ (List.mem_append_left _ h))) (gd_V gd_s_length (by decide +kernel))
  have gg_1 : GoodIn vs_m_of17 (wsV RX12 105 RJ0 yJ0_charAt_5068e vs_s_charAt) := goodIn_sub (fun w h => List.mem_cons_of_mem _ (List.mem_append_right _ (List.mem_append_right _ (List.mem_append_left _ h)))) (gd_V gd_s_charAt (by decide +kernel))
  refine lv_iconst (v := iI 0) hx hb dX12_of_0 (by decide) ?_
  refine lv_istore_n (lv' := [(1, vI 0), (0, .ref (sn sa 45))]) hx hb dX12_of_1 rfl hlv (by decide) rfl (fun ls hlv => ?_)
  refine lv_iconst (v := iI 0) hx hb dX12_of_2 (by decide) ?_
  refine lv_istore_n (lv' := [(2, vI 0), (1, vI 0), (0, .ref (sn sa 45))]) hx hb dX12_of_3 rfl hlv (by decide) rfl (fun ls hlv => ?_)
  refine lv_iload_n hx hb dX12_of_4 rfl (lv_at hlv 0 rfl) ?_
  refine lv_aload_n hx hb dX12_of_5 rfl (lv_at hlv 2 rfl) ?_
  refine cjr_i [] (fun pre9 => (va_runV (As := []) (rest := [vI 0]) ⟨hx, hb, hml, hown, hts⟩ (s_length l hl D cy sa 45 s.heap.size (by show (0 : Int) ≤ 45 ∧ (45 : Int) ≤ 55; decide)) (cwV 0 hts gg_0 rfl rfl rfl (by decide +kernel) ⟨Nat.le_of_ble_eq_true rfl, Nat.le_of_ble_eq_true rfl⟩) ⟨pcW.blind, (wo_recv (WD.tx hT.2.2 (45 : Int).toNat (by omega)).1 hS), pre9⟩ rfl rfl hlv.1 rfl (lv_room (Nat.le_of_ble_eq_true rfl)) dX12_of_6 ⟨Nat.le_of_ble_eq_true rfl, Nat.le_of_ble_eq_true rfl⟩)) hP hD hS hA hG hT [] rfl (by decide +kernel) (fun r1 u1 H locs hw1 hq9 hS => ?_)
  obtain ⟨rfl, hq1_1, hq1_2⟩ := hw1
  obtain ⟨hP, hD⟩ := pd9 [] hq9
  have hev1 : (u1.2.1 0) = 4 := by first | (rw [hq1_2]; rfl) | omega
  refine lt_i (y := iI 4) (by rw [show (u1.2.1 0) = 4 by omega]) ?_
  refine ir_ge (tgt := 31) hx hb dX12_of_9 (by decide) (by show ((-2147483648) : Int) ≤ 0 ∧ (0 : Int) ≤ 2147483647; decide) (by show ((-2147483648) : Int) ≤ 4 ∧ (4 : Int) ≤ 2147483647; decide) (fun c_1 => by exfalso; omega) (fun c_1 => ?_)
  refine lv_iload_n hx hb dX12_of_12 rfl (lv_at hlv 1 rfl) ?_
  refine lv_iconst (v := iI 5) hx hb dX12_of_13 (by decide) ?_
  refine lv_ishl hx hb dX12_of_14 ?_
  refine lt_i (y := iI 0) (by decide) ?_
  refine lv_aload_n hx hb dX12_of_15 rfl (lv_at hlv 2 rfl) ?_
  refine lv_iload_n hx hb dX12_of_16 rfl (lv_at hlv 0 rfl) ?_
  refine cjr_i [] (fun pre9 => (va_runV (As := [vI 0]) (rest := [vI 0]) ⟨hx, hb, hml, hown, hts⟩ (s_charAt l hl D cy sa 45 0 H.size (by show (0 : Int) ≤ 45 ∧ (45 : Int) ≤ 55; decide) (by show (0 : Int) ≤ 0 ∧ (0 : Int) ≤ 6; decide) (by omega)) (cwV 1 hts gg_1 rfl rfl rfl (by decide +kernel) ⟨Nat.le_of_ble_eq_true rfl, Nat.le_of_ble_eq_true rfl⟩) ⟨pcW.blind, (wo_recv (WD.tx hT.2.2 (45 : Int).toNat (by omega)).1 hS), pre9⟩ rfl rfl hlv.1 rfl (lv_room (Nat.le_of_ble_eq_true rfl)) dX12_of_17 ⟨Nat.le_of_ble_eq_true rfl, Nat.le_of_ble_eq_true rfl⟩)) hP hD hS hA hG hT [] rfl (by decide +kernel) (fun r2 u2 H locs hw2 hq9 hS => ?_)
  obtain ⟨rfl, hq2_1, hq2_2⟩ := hw2
  obtain ⟨hP, hD⟩ := pd9 [] hq9
  have hev2 : (u2.2.1 0) = 116 := by first | (rw [hq2_2]; rfl) | omega
  refine lt_i (y := iI 116) (by rw [show (u2.2.1 0) = 116 by omega]) ?_
  refine lv_bipush (v := iI 96) hx hb dX12_of_20 (by decide) ?_
  refine lv_isub hx hb dX12_of_22 ?_
  refine lt_i (y := iI 20) (by decide) ?_
  refine lv_ior hx hb dX12_of_23 ?_
  refine lt_i (y := iI 20) (by decide) ?_
  refine lv_istore_n (lv' := [(1, vI 20), (2, vI 0), (0, .ref (sn sa 45))]) hx hb dX12_of_24 rfl hlv (by decide) rfl (fun ls hlv => ?_)
  refine lv_iinc (v := iI 1) (lv' := [(2, vI 1), (1, vI 20), (0, .ref (sn sa 45))]) hx hb dX12_of_25 hlv (k := 1) rfl (by decide) (by decide) rfl (fun ls hlv => ?_)
  refine lv_goto (tgt := 4) hx hb dX12_of_28 (by decide) ?_
  refine lv_iload_n hx hb dX12_of_4 rfl (lv_at hlv 0 rfl) ?_
  refine lv_aload_n hx hb dX12_of_5 rfl (lv_at hlv 2 rfl) ?_
  refine cjr_i [] (fun pre9 => (va_runV (As := []) (rest := [vI 1]) ⟨hx, hb, hml, hown, hts⟩ (s_length l hl D cy sa 45 H.size (by show (0 : Int) ≤ 45 ∧ (45 : Int) ≤ 55; decide)) (cwV 0 hts gg_0 rfl rfl rfl (by decide +kernel) ⟨Nat.le_of_ble_eq_true rfl, Nat.le_of_ble_eq_true rfl⟩) ⟨pcW.blind, (wo_recv (WD.tx hT.2.2 (45 : Int).toNat (by omega)).1 hS), pre9⟩ rfl rfl hlv.1 rfl (lv_room (Nat.le_of_ble_eq_true rfl)) dX12_of_6 ⟨Nat.le_of_ble_eq_true rfl, Nat.le_of_ble_eq_true rfl⟩)) hP hD hS hA hG hT [] rfl (by decide +kernel) (fun r3 u3 H locs hw3 hq9 hS => ?_)
  obtain ⟨rfl, hq3_1, hq3_2⟩ := hw3
  obtain ⟨hP, hD⟩ := pd9 [] hq9
  have hev3 : (u3.2.1 0) = 4 := by first | (rw [hq3_2]; rfl) | omega
  refine lt_i (y := iI 4) (by rw [show (u3.2.1 0) = 4 by omega]) ?_
  refine ir_ge (tgt := 31) hx hb dX12_of_9 (by decide) (by show ((-2147483648) : Int) ≤ 1 ∧ (1 : Int) ≤ 2147483647; decide) (by show ((-2147483648) : Int) ≤ 4 ∧ (4 : Int) ≤ 2147483647; decide) (fun c_2 => by exfalso; omega) (fun c_2 => ?_)
  refine lv_iload_n hx hb dX12_of_12 rfl (lv_at hlv 1 rfl) ?_
  refine lv_iconst (v := iI 5) hx hb dX12_of_13 (by decide) ?_
  refine lv_ishl hx hb dX12_of_14 ?_
  refine lt_i (y := iI 640) (by decide) ?_
  refine lv_aload_n hx hb dX12_of_15 rfl (lv_at hlv 2 rfl) ?_
  refine lv_iload_n hx hb dX12_of_16 rfl (lv_at hlv 0 rfl) ?_
  refine cjr_i [] (fun pre9 => (va_runV (As := [vI 1]) (rest := [vI 640]) ⟨hx, hb, hml, hown, hts⟩ (s_charAt l hl D cy sa 45 1 H.size (by show (0 : Int) ≤ 45 ∧ (45 : Int) ≤ 55; decide) (by show (0 : Int) ≤ 1 ∧ (1 : Int) ≤ 6; decide) (by omega)) (cwV 1 hts gg_1 rfl rfl rfl (by decide +kernel) ⟨Nat.le_of_ble_eq_true rfl, Nat.le_of_ble_eq_true rfl⟩) ⟨pcW.blind, (wo_recv (WD.tx hT.2.2 (45 : Int).toNat (by omega)).1 hS), pre9⟩ rfl rfl hlv.1 rfl (lv_room (Nat.le_of_ble_eq_true rfl)) dX12_of_17 ⟨Nat.le_of_ble_eq_true rfl, Nat.le_of_ble_eq_true rfl⟩)) hP hD hS hA hG hT [] rfl (by decide +kernel) (fun r4 u4 H locs hw4 hq9 hS => ?_)
  obtain ⟨rfl, hq4_1, hq4_2⟩ := hw4
  obtain ⟨hP, hD⟩ := pd9 [] hq9
  have hev4 : (u4.2.1 0) = 104 := by first | (rw [hq4_2]; rfl) | omega
  refine lt_i (y := iI 104) (by rw [show (u4.2.1 0) = 104 by omega]) ?_
  refine lv_bipush (v := iI 96) hx hb dX12_of_20 (by decide) ?_
  refine lv_isub hx hb dX12_of_22 ?_
  refine lt_i (y := iI 8) (by decide) ?_
  refine lv_ior hx hb dX12_of_23 ?_
  refine lt_i (y := iI 648) (by decide) ?_
  refine lv_istore_n (lv' := [(1, vI 648), (2, vI 1), (0, .ref (sn sa 45))]) hx hb dX12_of_24 rfl hlv (by decide) rfl (fun ls hlv => ?_)
  refine lv_iinc (v := iI 2) (lv' := [(2, vI 2), (1, vI 648), (0, .ref (sn sa 45))]) hx hb dX12_of_25 hlv (k := 1) rfl (by decide) (by decide) rfl (fun ls hlv => ?_)
  refine lv_goto (tgt := 4) hx hb dX12_of_28 (by decide) ?_
  refine lv_iload_n hx hb dX12_of_4 rfl (lv_at hlv 0 rfl) ?_
  refine lv_aload_n hx hb dX12_of_5 rfl (lv_at hlv 2 rfl) ?_
  refine cjr_i [] (fun pre9 => (va_runV (As := []) (rest := [vI 2]) ⟨hx, hb, hml, hown, hts⟩ (s_length l hl D cy sa 45 H.size (by show (0 : Int) ≤ 45 ∧ (45 : Int) ≤ 55; decide)) (cwV 0 hts gg_0 rfl rfl rfl (by decide +kernel) ⟨Nat.le_of_ble_eq_true rfl, Nat.le_of_ble_eq_true rfl⟩) ⟨pcW.blind, (wo_recv (WD.tx hT.2.2 (45 : Int).toNat (by omega)).1 hS), pre9⟩ rfl rfl hlv.1 rfl (lv_room (Nat.le_of_ble_eq_true rfl)) dX12_of_6 ⟨Nat.le_of_ble_eq_true rfl, Nat.le_of_ble_eq_true rfl⟩)) hP hD hS hA hG hT [] rfl (by decide +kernel) (fun r5 u5 H locs hw5 hq9 hS => ?_)
  obtain ⟨rfl, hq5_1, hq5_2⟩ := hw5
  obtain ⟨hP, hD⟩ := pd9 [] hq9
  have hev5 : (u5.2.1 0) = 4 := by first | (rw [hq5_2]; rfl) | omega
  refine lt_i (y := iI 4) (by rw [show (u5.2.1 0) = 4 by omega]) ?_
  refine ir_ge (tgt := 31) hx hb dX12_of_9 (by decide) (by show ((-2147483648) : Int) ≤ 2 ∧ (2 : Int) ≤ 2147483647; decide) (by show ((-2147483648) : Int) ≤ 4 ∧ (4 : Int) ≤ 2147483647; decide) (fun c_3 => by exfalso; omega) (fun c_3 => ?_)
  refine lv_iload_n hx hb dX12_of_12 rfl (lv_at hlv 1 rfl) ?_
  refine lv_iconst (v := iI 5) hx hb dX12_of_13 (by decide) ?_
  refine lv_ishl hx hb dX12_of_14 ?_
  refine lt_i (y := iI 20736) (by decide) ?_
  refine lv_aload_n hx hb dX12_of_15 rfl (lv_at hlv 2 rfl) ?_
  refine lv_iload_n hx hb dX12_of_16 rfl (lv_at hlv 0 rfl) ?_
  refine cjr_i [] (fun pre9 => (va_runV (As := [vI 2]) (rest := [vI 20736]) ⟨hx, hb, hml, hown, hts⟩ (s_charAt l hl D cy sa 45 2 H.size (by show (0 : Int) ≤ 45 ∧ (45 : Int) ≤ 55; decide) (by show (0 : Int) ≤ 2 ∧ (2 : Int) ≤ 6; decide) (by omega)) (cwV 1 hts gg_1 rfl rfl rfl (by decide +kernel) ⟨Nat.le_of_ble_eq_true rfl, Nat.le_of_ble_eq_true rfl⟩) ⟨pcW.blind, (wo_recv (WD.tx hT.2.2 (45 : Int).toNat (by omega)).1 hS), pre9⟩ rfl rfl hlv.1 rfl (lv_room (Nat.le_of_ble_eq_true rfl)) dX12_of_17 ⟨Nat.le_of_ble_eq_true rfl, Nat.le_of_ble_eq_true rfl⟩)) hP hD hS hA hG hT [] rfl (by decide +kernel) (fun r6 u6 H locs hw6 hq9 hS => ?_)
  obtain ⟨rfl, hq6_1, hq6_2⟩ := hw6
  obtain ⟨hP, hD⟩ := pd9 [] hq9
  have hev6 : (u6.2.1 0) = 101 := by first | (rw [hq6_2]; rfl) | omega
  refine lt_i (y := iI 101) (by rw [show (u6.2.1 0) = 101 by omega]) ?_
  refine lv_bipush (v := iI 96) hx hb dX12_of_20 (by decide) ?_
  refine lv_isub hx hb dX12_of_22 ?_
  refine lt_i (y := iI 5) (by decide) ?_
  refine lv_ior hx hb dX12_of_23 ?_
  refine lt_i (y := iI 20741) (by decide) ?_
  refine lv_istore_n (lv' := [(1, vI 20741), (2, vI 2), (0, .ref (sn sa 45))]) hx hb dX12_of_24 rfl hlv (by decide) rfl (fun ls hlv => ?_)
  refine lv_iinc (v := iI 3) (lv' := [(2, vI 3), (1, vI 20741), (0, .ref (sn sa 45))]) hx hb dX12_of_25 hlv (k := 1) rfl (by decide) (by decide) rfl (fun ls hlv => ?_)
  refine lv_goto (tgt := 4) hx hb dX12_of_28 (by decide) ?_
  refine lv_iload_n hx hb dX12_of_4 rfl (lv_at hlv 0 rfl) ?_
  refine lv_aload_n hx hb dX12_of_5 rfl (lv_at hlv 2 rfl) ?_
  refine cjr_i [] (fun pre9 => (va_runV (As := []) (rest := [vI 3]) ⟨hx, hb, hml, hown, hts⟩ (s_length l hl D cy sa 45 H.size (by show (0 : Int) ≤ 45 ∧ (45 : Int) ≤ 55; decide)) (cwV 0 hts gg_0 rfl rfl rfl (by decide +kernel) ⟨Nat.le_of_ble_eq_true rfl, Nat.le_of_ble_eq_true rfl⟩) ⟨pcW.blind, (wo_recv (WD.tx hT.2.2 (45 : Int).toNat (by omega)).1 hS), pre9⟩ rfl rfl hlv.1 rfl (lv_room (Nat.le_of_ble_eq_true rfl)) dX12_of_6 ⟨Nat.le_of_ble_eq_true rfl, Nat.le_of_ble_eq_true rfl⟩)) hP hD hS hA hG hT [] rfl (by decide +kernel) (fun r7 u7 H locs hw7 hq9 hS => ?_)
  obtain ⟨rfl, hq7_1, hq7_2⟩ := hw7
  obtain ⟨hP, hD⟩ := pd9 [] hq9
  have hev7 : (u7.2.1 0) = 4 := by first | (rw [hq7_2]; rfl) | omega
  refine lt_i (y := iI 4) (by rw [show (u7.2.1 0) = 4 by omega]) ?_
  refine ir_ge (tgt := 31) hx hb dX12_of_9 (by decide) (by show ((-2147483648) : Int) ≤ 3 ∧ (3 : Int) ≤ 2147483647; decide) (by show ((-2147483648) : Int) ≤ 4 ∧ (4 : Int) ≤ 2147483647; decide) (fun c_4 => by exfalso; omega) (fun c_4 => ?_)
  refine lv_iload_n hx hb dX12_of_12 rfl (lv_at hlv 1 rfl) ?_
  refine lv_iconst (v := iI 5) hx hb dX12_of_13 (by decide) ?_
  refine lv_ishl hx hb dX12_of_14 ?_
  refine lt_i (y := iI 663712) (by decide) ?_
  refine lv_aload_n hx hb dX12_of_15 rfl (lv_at hlv 2 rfl) ?_
  refine lv_iload_n hx hb dX12_of_16 rfl (lv_at hlv 0 rfl) ?_
  refine cjr_i [] (fun pre9 => (va_runV (As := [vI 3]) (rest := [vI 663712]) ⟨hx, hb, hml, hown, hts⟩ (s_charAt l hl D cy sa 45 3 H.size (by show (0 : Int) ≤ 45 ∧ (45 : Int) ≤ 55; decide) (by show (0 : Int) ≤ 3 ∧ (3 : Int) ≤ 6; decide) (by omega)) (cwV 1 hts gg_1 rfl rfl rfl (by decide +kernel) ⟨Nat.le_of_ble_eq_true rfl, Nat.le_of_ble_eq_true rfl⟩) ⟨pcW.blind, (wo_recv (WD.tx hT.2.2 (45 : Int).toNat (by omega)).1 hS), pre9⟩ rfl rfl hlv.1 rfl (lv_room (Nat.le_of_ble_eq_true rfl)) dX12_of_17 ⟨Nat.le_of_ble_eq_true rfl, Nat.le_of_ble_eq_true rfl⟩)) hP hD hS hA hG hT [] rfl (by decide +kernel) (fun r8 u8 H locs hw8 hq9 hS => ?_)
  obtain ⟨rfl, hq8_1, hq8_2⟩ := hw8
  obtain ⟨hP, hD⟩ := pd9 [] hq9
  have hev8 : (u8.2.1 0) = 110 := by first | (rw [hq8_2]; rfl) | omega
  refine lt_i (y := iI 110) (by rw [show (u8.2.1 0) = 110 by omega]) ?_
  refine lv_bipush (v := iI 96) hx hb dX12_of_20 (by decide) ?_
  refine lv_isub hx hb dX12_of_22 ?_
  refine lt_i (y := iI 14) (by decide) ?_
  refine lv_ior hx hb dX12_of_23 ?_
  refine lt_i (y := iI 663726) (by decide) ?_
  refine lv_istore_n (lv' := [(1, vI 663726), (2, vI 3), (0, .ref (sn sa 45))]) hx hb dX12_of_24 rfl hlv (by decide) rfl (fun ls hlv => ?_)
  refine lv_iinc (v := iI 4) (lv' := [(2, vI 4), (1, vI 663726), (0, .ref (sn sa 45))]) hx hb dX12_of_25 hlv (k := 1) rfl (by decide) (by decide) rfl (fun ls hlv => ?_)
  refine lv_goto (tgt := 4) hx hb dX12_of_28 (by decide) ?_
  refine lv_iload_n hx hb dX12_of_4 rfl (lv_at hlv 0 rfl) ?_
  refine lv_aload_n hx hb dX12_of_5 rfl (lv_at hlv 2 rfl) ?_
  refine cjr_i [] (fun pre9 => (va_runV (As := []) (rest := [vI 4]) ⟨hx, hb, hml, hown, hts⟩ (s_length l hl D cy sa 45 H.size (by show (0 : Int) ≤ 45 ∧ (45 : Int) ≤ 55; decide)) (cwV 0 hts gg_0 rfl rfl rfl (by decide +kernel) ⟨Nat.le_of_ble_eq_true rfl, Nat.le_of_ble_eq_true rfl⟩) ⟨pcW.blind, (wo_recv (WD.tx hT.2.2 (45 : Int).toNat (by omega)).1 hS), pre9⟩ rfl rfl hlv.1 rfl (lv_room (Nat.le_of_ble_eq_true rfl)) dX12_of_6 ⟨Nat.le_of_ble_eq_true rfl, Nat.le_of_ble_eq_true rfl⟩)) hP hD hS hA hG hT [] rfl (by decide +kernel) (fun r9 u9 H locs hw9 hq9 hS => ?_)
  obtain ⟨rfl, hq9_1, hq9_2⟩ := hw9
  obtain ⟨hP, hD⟩ := pd9 [] hq9
  have hev9 : (u9.2.1 0) = 4 := by first | (rw [hq9_2]; rfl) | omega
  refine lt_i (y := iI 4) (by rw [show (u9.2.1 0) = 4 by omega]) ?_
  refine ir_ge (tgt := 31) hx hb dX12_of_9 (by decide) (by show ((-2147483648) : Int) ≤ 4 ∧ (4 : Int) ≤ 2147483647; decide) (by show ((-2147483648) : Int) ≤ 4 ∧ (4 : Int) ≤ 2147483647; decide) (fun c_5 => ?_) (fun c_5 => by exfalso; omega)
  refine lv_iload_n hx hb dX12_of_31 rfl (lv_at hlv 1 rfl) ?_
  refine W.widen (k := 0) (n := 0) (Nat.le_of_ble_eq_true rfl) (Nat.le_of_ble_eq_true rfl) ?_
  exact W.iret (v := iI 663726) hx hb hr (fun t ht hW => ⟨⟨iI 663726, ((fun k => ([] : List Nat).getD k 0), (fun k => ([663726] : List Int).getD k 0), (fun k => ([] : List (Nat → Int32)).getD k (fun _ => 0))), rfl, ⟨rfl, (by show (663726 ≤ 663726 ∧ 663726 ≤ 663726); show (663726 : Int) ≤ 663726 ∧ (663726 : Int) ≤ 663726; decide)⟩, at9 ht hP hD [] (by decide +kernel) rfl⟩, hS.F ht⟩) hS.2.2 dX12_of_32
def vs_m_of18 : List Cond := .code yX12_of cX12_of 3 (some .int) :: (([] : List Cond) ++ ((wsV RX12 100 RJ0 yJ0_length_8abf5 vs_s_length) ++ ((wsV RX12 105 RJ0 yJ0_charAt_5068e vs_s_charAt) ++ ([]))))
theorem gd_m_of18 : vs_m_of18.all goodWord = true := gd_C (by decide +kernel) (gd_A (by decide +kernel) (gd_A (gd_V gd_s_length (by decide +kernel)) (gd_A (gd_V gd_s_charAt (by decide +kernel)) rfl)))
set_option maxHeartbeats 4000000 in
set_option maxRecDepth 100000 in
theorem m_of18 (l : Launch) (hl : l.stackTraces = false) (D : va_G) (cy : Nat → ClassId) (sa : Nat → Nat)  (sz : Nat) : mI9 l yX12_of vs_m_of18 ({ frames := 4, cells := 0, slots := 0, locals := 85 }) D cy sa sz [.ref (sn sa 46)] [] (fun (r : Int32) (u : SV) => r = iI (u.2.1 0) ∧ (176741 ≤ u.2.1 0 ∧ u.2.1 0 ≤ 176741)) (fun u : SV => []) 0 0 := by
  refine Met.ofW (cc := cX12_of) (maxL := 3) (ret := (some .int)) (by decide) rfl ?_
  intro p e s m args below meth c s₁ B hml hv
  obtain ⟨rfl, hsz, hP, hG, hD0, hT⟩ := hv
  have hx := B.exec
  have hb := B.bytes
  have hr := B.returns
  have hts := atoms_spec (ws := vs_m_of18) B.pre
  have hown : s.vm.findClass RX12 = some m.cls := findClass_of_methodNamed B.named
  have hlocks := B.notSynchronized
  subst hsz
  have hD := hD0.self (sz := s.heap.size)
  generalize hAe : va_A [] s.heap.size = A at hD hT ⊢
  have hA : ∀ q : Nat, s.heap.size ≤ q → A q := fun q h => by rw [← hAe]; exact Or.inr h
  have hS : va_S A s.heap s.heap [] := va_S.rf
  have hl0 := lv_entry ([.ref (sn sa 46)]) (n := 3) (Nat.le_of_ble_eq_true rfl)
  rw [lg_entry_eq]
  generalize (lg_sl ([.ref (sn sa 46)]) ++ List.replicate (3 - (lg_sl ([.ref (sn sa 46)])).length) Slot.unset).toArray = ls at hl0 ⊢
  have hlv : lv_has ls 3 [(0, .ref (sn sa 46))] := hl0
  have gg_0 : GoodIn vs_m_of18 (wsV RX12 100 RJ0 yJ0_length_8abf5 vs_s_length) := goodIn_sub (fun w h => List.mem_cons_of_mem _ (List.mem_append_right _ (List.mem_append_left _ h))) (gd_V gd_s_length (by decide +kernel))
  have gg_1 : GoodIn vs_m_of18 (wsV RX12 105 RJ0 yJ0_charAt_5068e vs_s_charAt) := goodIn_sub (fun w h => List.mem_cons_of_mem _ (List.mem_append_right _ (List.mem_append_right _ (List.mem_append_left _ h)))) (gd_V gd_s_charAt (by decide +kernel))
  refine lv_iconst (v := iI 0) hx hb dX12_of_0 (by decide) ?_
  refine lv_istore_n (lv' := [(1, vI 0), (0, .ref (sn sa 46))]) hx hb dX12_of_1 rfl hlv (by decide) rfl (fun ls hlv => ?_)
  refine lv_iconst (v := iI 0) hx hb dX12_of_2 (by decide) ?_
  refine lv_istore_n (lv' := [(2, vI 0), (1, vI 0), (0, .ref (sn sa 46))]) hx hb dX12_of_3 rfl hlv (by decide) rfl (fun ls hlv => ?_)
  refine lv_iload_n hx hb dX12_of_4 rfl (lv_at hlv 0 rfl) ?_
  refine lv_aload_n hx hb dX12_of_5 rfl (lv_at hlv 2 rfl) ?_
  refine cjr_i [] (fun pre9 => (va_runV (As := []) (rest := [vI 0]) ⟨hx, hb, hml, hown, hts⟩ (s_length l hl D cy sa 46 s.heap.size (by show (0 : Int) ≤ 46 ∧ (46 : Int) ≤ 55; decide)) (cwV 0 hts gg_0 rfl rfl rfl (by decide +kernel) ⟨Nat.le_of_ble_eq_true rfl, Nat.le_of_ble_eq_true rfl⟩) ⟨pcW.blind, (wo_recv (WD.tx hT.2.2 (46 : Int).toNat (by omega)).1 hS), pre9⟩ rfl rfl hlv.1 rfl (lv_room (Nat.le_of_ble_eq_true rfl)) dX12_of_6 ⟨Nat.le_of_ble_eq_true rfl, Nat.le_of_ble_eq_true rfl⟩)) hP hD hS hA hG hT [] rfl (by decide +kernel) (fun r1 u1 H locs hw1 hq9 hS => ?_)
  obtain ⟨rfl, hq1_1, hq1_2⟩ := hw1
  obtain ⟨hP, hD⟩ := pd9 [] hq9
  have hev1 : (u1.2.1 0) = 4 := by first | (rw [hq1_2]; rfl) | omega
  refine lt_i (y := iI 4) (by rw [show (u1.2.1 0) = 4 by omega]) ?_
  refine ir_ge (tgt := 31) hx hb dX12_of_9 (by decide) (by show ((-2147483648) : Int) ≤ 0 ∧ (0 : Int) ≤ 2147483647; decide) (by show ((-2147483648) : Int) ≤ 4 ∧ (4 : Int) ≤ 2147483647; decide) (fun c_1 => by exfalso; omega) (fun c_1 => ?_)
  refine lv_iload_n hx hb dX12_of_12 rfl (lv_at hlv 1 rfl) ?_
  refine lv_iconst (v := iI 5) hx hb dX12_of_13 (by decide) ?_
  refine lv_ishl hx hb dX12_of_14 ?_
  refine lt_i (y := iI 0) (by decide) ?_
  refine lv_aload_n hx hb dX12_of_15 rfl (lv_at hlv 2 rfl) ?_
  refine lv_iload_n hx hb dX12_of_16 rfl (lv_at hlv 0 rfl) ?_
  refine cjr_i [] (fun pre9 => (va_runV (As := [vI 0]) (rest := [vI 0]) ⟨hx, hb, hml, hown, hts⟩ (s_charAt l hl D cy sa 46 0 H.size (by show (0 : Int) ≤ 46 ∧ (46 : Int) ≤ 55; decide) (by show (0 : Int) ≤ 0 ∧ (0 : Int) ≤ 6; decide) (by omega)) (cwV 1 hts gg_1 rfl rfl rfl (by decide +kernel) ⟨Nat.le_of_ble_eq_true rfl, Nat.le_of_ble_eq_true rfl⟩) ⟨pcW.blind, (wo_recv (WD.tx hT.2.2 (46 : Int).toNat (by omega)).1 hS), pre9⟩ rfl rfl hlv.1 rfl (lv_room (Nat.le_of_ble_eq_true rfl)) dX12_of_17 ⟨Nat.le_of_ble_eq_true rfl, Nat.le_of_ble_eq_true rfl⟩)) hP hD hS hA hG hT [] rfl (by decide +kernel) (fun r2 u2 H locs hw2 hq9 hS => ?_)
  obtain ⟨rfl, hq2_1, hq2_2⟩ := hw2
  obtain ⟨hP, hD⟩ := pd9 [] hq9
  have hev2 : (u2.2.1 0) = 101 := by first | (rw [hq2_2]; rfl) | omega
  refine lt_i (y := iI 101) (by rw [show (u2.2.1 0) = 101 by omega]) ?_
  refine lv_bipush (v := iI 96) hx hb dX12_of_20 (by decide) ?_
  refine lv_isub hx hb dX12_of_22 ?_
  refine lt_i (y := iI 5) (by decide) ?_
  refine lv_ior hx hb dX12_of_23 ?_
  refine lt_i (y := iI 5) (by decide) ?_
  refine lv_istore_n (lv' := [(1, vI 5), (2, vI 0), (0, .ref (sn sa 46))]) hx hb dX12_of_24 rfl hlv (by decide) rfl (fun ls hlv => ?_)
  refine lv_iinc (v := iI 1) (lv' := [(2, vI 1), (1, vI 5), (0, .ref (sn sa 46))]) hx hb dX12_of_25 hlv (k := 1) rfl (by decide) (by decide) rfl (fun ls hlv => ?_)
  refine lv_goto (tgt := 4) hx hb dX12_of_28 (by decide) ?_
  refine lv_iload_n hx hb dX12_of_4 rfl (lv_at hlv 0 rfl) ?_
  refine lv_aload_n hx hb dX12_of_5 rfl (lv_at hlv 2 rfl) ?_
  refine cjr_i [] (fun pre9 => (va_runV (As := []) (rest := [vI 1]) ⟨hx, hb, hml, hown, hts⟩ (s_length l hl D cy sa 46 H.size (by show (0 : Int) ≤ 46 ∧ (46 : Int) ≤ 55; decide)) (cwV 0 hts gg_0 rfl rfl rfl (by decide +kernel) ⟨Nat.le_of_ble_eq_true rfl, Nat.le_of_ble_eq_true rfl⟩) ⟨pcW.blind, (wo_recv (WD.tx hT.2.2 (46 : Int).toNat (by omega)).1 hS), pre9⟩ rfl rfl hlv.1 rfl (lv_room (Nat.le_of_ble_eq_true rfl)) dX12_of_6 ⟨Nat.le_of_ble_eq_true rfl, Nat.le_of_ble_eq_true rfl⟩)) hP hD hS hA hG hT [] rfl (by decide +kernel) (fun r3 u3 H locs hw3 hq9 hS => ?_)
  obtain ⟨rfl, hq3_1, hq3_2⟩ := hw3
  obtain ⟨hP, hD⟩ := pd9 [] hq9
  have hev3 : (u3.2.1 0) = 4 := by first | (rw [hq3_2]; rfl) | omega
  refine lt_i (y := iI 4) (by rw [show (u3.2.1 0) = 4 by omega]) ?_
  refine ir_ge (tgt := 31) hx hb dX12_of_9 (by decide) (by show ((-2147483648) : Int) ≤ 1 ∧ (1 : Int) ≤ 2147483647; decide) (by show ((-2147483648) : Int) ≤ 4 ∧ (4 : Int) ≤ 2147483647; decide) (fun c_2 => by exfalso; omega) (fun c_2 => ?_)
  refine lv_iload_n hx hb dX12_of_12 rfl (lv_at hlv 1 rfl) ?_
  refine lv_iconst (v := iI 5) hx hb dX12_of_13 (by decide) ?_
  refine lv_ishl hx hb dX12_of_14 ?_
  refine lt_i (y := iI 160) (by decide) ?_
  refine lv_aload_n hx hb dX12_of_15 rfl (lv_at hlv 2 rfl) ?_
  refine lv_iload_n hx hb dX12_of_16 rfl (lv_at hlv 0 rfl) ?_
  refine cjr_i [] (fun pre9 => (va_runV (As := [vI 1]) (rest := [vI 160]) ⟨hx, hb, hml, hown, hts⟩ (s_charAt l hl D cy sa 46 1 H.size (by show (0 : Int) ≤ 46 ∧ (46 : Int) ≤ 55; decide) (by show (0 : Int) ≤ 1 ∧ (1 : Int) ≤ 6; decide) (by omega)) (cwV 1 hts gg_1 rfl rfl rfl (by decide +kernel) ⟨Nat.le_of_ble_eq_true rfl, Nat.le_of_ble_eq_true rfl⟩) ⟨pcW.blind, (wo_recv (WD.tx hT.2.2 (46 : Int).toNat (by omega)).1 hS), pre9⟩ rfl rfl hlv.1 rfl (lv_room (Nat.le_of_ble_eq_true rfl)) dX12_of_17 ⟨Nat.le_of_ble_eq_true rfl, Nat.le_of_ble_eq_true rfl⟩)) hP hD hS hA hG hT [] rfl (by decide +kernel) (fun r4 u4 H locs hw4 hq9 hS => ?_)
  obtain ⟨rfl, hq4_1, hq4_2⟩ := hw4
  obtain ⟨hP, hD⟩ := pd9 [] hq9
  have hev4 : (u4.2.1 0) = 108 := by first | (rw [hq4_2]; rfl) | omega
  refine lt_i (y := iI 108) (by rw [show (u4.2.1 0) = 108 by omega]) ?_
  refine lv_bipush (v := iI 96) hx hb dX12_of_20 (by decide) ?_
  refine lv_isub hx hb dX12_of_22 ?_
  refine lt_i (y := iI 12) (by decide) ?_
  refine lv_ior hx hb dX12_of_23 ?_
  refine lt_i (y := iI 172) (by decide) ?_
  refine lv_istore_n (lv' := [(1, vI 172), (2, vI 1), (0, .ref (sn sa 46))]) hx hb dX12_of_24 rfl hlv (by decide) rfl (fun ls hlv => ?_)
  refine lv_iinc (v := iI 2) (lv' := [(2, vI 2), (1, vI 172), (0, .ref (sn sa 46))]) hx hb dX12_of_25 hlv (k := 1) rfl (by decide) (by decide) rfl (fun ls hlv => ?_)
  refine lv_goto (tgt := 4) hx hb dX12_of_28 (by decide) ?_
  refine lv_iload_n hx hb dX12_of_4 rfl (lv_at hlv 0 rfl) ?_
  refine lv_aload_n hx hb dX12_of_5 rfl (lv_at hlv 2 rfl) ?_
  refine cjr_i [] (fun pre9 => (va_runV (As := []) (rest := [vI 2]) ⟨hx, hb, hml, hown, hts⟩ (s_length l hl D cy sa 46 H.size (by show (0 : Int) ≤ 46 ∧ (46 : Int) ≤ 55; decide)) (cwV 0 hts gg_0 rfl rfl rfl (by decide +kernel) ⟨Nat.le_of_ble_eq_true rfl, Nat.le_of_ble_eq_true rfl⟩) ⟨pcW.blind, (wo_recv (WD.tx hT.2.2 (46 : Int).toNat (by omega)).1 hS), pre9⟩ rfl rfl hlv.1 rfl (lv_room (Nat.le_of_ble_eq_true rfl)) dX12_of_6 ⟨Nat.le_of_ble_eq_true rfl, Nat.le_of_ble_eq_true rfl⟩)) hP hD hS hA hG hT [] rfl (by decide +kernel) (fun r5 u5 H locs hw5 hq9 hS => ?_)
  obtain ⟨rfl, hq5_1, hq5_2⟩ := hw5
  obtain ⟨hP, hD⟩ := pd9 [] hq9
  have hev5 : (u5.2.1 0) = 4 := by first | (rw [hq5_2]; rfl) | omega
  refine lt_i (y := iI 4) (by rw [show (u5.2.1 0) = 4 by omega]) ?_
  refine ir_ge (tgt := 31) hx hb dX12_of_9 (by decide) (by show ((-2147483648) : Int) ≤ 2 ∧ (2 : Int) ≤ 2147483647; decide) (by show ((-2147483648) : Int) ≤ 4 ∧ (4 : Int) ≤ 2147483647; decide) (fun c_3 => by exfalso; omega) (fun c_3 => ?_)
  refine lv_iload_n hx hb dX12_of_12 rfl (lv_at hlv 1 rfl) ?_
  refine lv_iconst (v := iI 5) hx hb dX12_of_13 (by decide) ?_
  refine lv_ishl hx hb dX12_of_14 ?_
  refine lt_i (y := iI 5504) (by decide) ?_
  refine lv_aload_n hx hb dX12_of_15 rfl (lv_at hlv 2 rfl) ?_
  refine lv_iload_n hx hb dX12_of_16 rfl (lv_at hlv 0 rfl) ?_
  refine cjr_i [] (fun pre9 => (va_runV (As := [vI 2]) (rest := [vI 5504]) ⟨hx, hb, hml, hown, hts⟩ (s_charAt l hl D cy sa 46 2 H.size (by show (0 : Int) ≤ 46 ∧ (46 : Int) ≤ 55; decide) (by show (0 : Int) ≤ 2 ∧ (2 : Int) ≤ 6; decide) (by omega)) (cwV 1 hts gg_1 rfl rfl rfl (by decide +kernel) ⟨Nat.le_of_ble_eq_true rfl, Nat.le_of_ble_eq_true rfl⟩) ⟨pcW.blind, (wo_recv (WD.tx hT.2.2 (46 : Int).toNat (by omega)).1 hS), pre9⟩ rfl rfl hlv.1 rfl (lv_room (Nat.le_of_ble_eq_true rfl)) dX12_of_17 ⟨Nat.le_of_ble_eq_true rfl, Nat.le_of_ble_eq_true rfl⟩)) hP hD hS hA hG hT [] rfl (by decide +kernel) (fun r6 u6 H locs hw6 hq9 hS => ?_)
  obtain ⟨rfl, hq6_1, hq6_2⟩ := hw6
  obtain ⟨hP, hD⟩ := pd9 [] hq9
  have hev6 : (u6.2.1 0) = 115 := by first | (rw [hq6_2]; rfl) | omega
  refine lt_i (y := iI 115) (by rw [show (u6.2.1 0) = 115 by omega]) ?_
  refine lv_bipush (v := iI 96) hx hb dX12_of_20 (by decide) ?_
  refine lv_isub hx hb dX12_of_22 ?_
  refine lt_i (y := iI 19) (by decide) ?_
  refine lv_ior hx hb dX12_of_23 ?_
  refine lt_i (y := iI 5523) (by decide) ?_
  refine lv_istore_n (lv' := [(1, vI 5523), (2, vI 2), (0, .ref (sn sa 46))]) hx hb dX12_of_24 rfl hlv (by decide) rfl (fun ls hlv => ?_)
  refine lv_iinc (v := iI 3) (lv' := [(2, vI 3), (1, vI 5523), (0, .ref (sn sa 46))]) hx hb dX12_of_25 hlv (k := 1) rfl (by decide) (by decide) rfl (fun ls hlv => ?_)
  refine lv_goto (tgt := 4) hx hb dX12_of_28 (by decide) ?_
  refine lv_iload_n hx hb dX12_of_4 rfl (lv_at hlv 0 rfl) ?_
  refine lv_aload_n hx hb dX12_of_5 rfl (lv_at hlv 2 rfl) ?_
  refine cjr_i [] (fun pre9 => (va_runV (As := []) (rest := [vI 3]) ⟨hx, hb, hml, hown, hts⟩ (s_length l hl D cy sa 46 H.size (by show (0 : Int) ≤ 46 ∧ (46 : Int) ≤ 55; decide)) (cwV 0 hts gg_0 rfl rfl rfl (by decide +kernel) ⟨Nat.le_of_ble_eq_true rfl, Nat.le_of_ble_eq_true rfl⟩) ⟨pcW.blind, (wo_recv (WD.tx hT.2.2 (46 : Int).toNat (by omega)).1 hS), pre9⟩ rfl rfl hlv.1 rfl (lv_room (Nat.le_of_ble_eq_true rfl)) dX12_of_6 ⟨Nat.le_of_ble_eq_true rfl, Nat.le_of_ble_eq_true rfl⟩)) hP hD hS hA hG hT [] rfl (by decide +kernel) (fun r7 u7 H locs hw7 hq9 hS => ?_)
  obtain ⟨rfl, hq7_1, hq7_2⟩ := hw7
  obtain ⟨hP, hD⟩ := pd9 [] hq9
  have hev7 : (u7.2.1 0) = 4 := by first | (rw [hq7_2]; rfl) | omega
  refine lt_i (y := iI 4) (by rw [show (u7.2.1 0) = 4 by omega]) ?_
  refine ir_ge (tgt := 31) hx hb dX12_of_9 (by decide) (by show ((-2147483648) : Int) ≤ 3 ∧ (3 : Int) ≤ 2147483647; decide) (by show ((-2147483648) : Int) ≤ 4 ∧ (4 : Int) ≤ 2147483647; decide) (fun c_4 => by exfalso; omega) (fun c_4 => ?_)
  refine lv_iload_n hx hb dX12_of_12 rfl (lv_at hlv 1 rfl) ?_
  refine lv_iconst (v := iI 5) hx hb dX12_of_13 (by decide) ?_
  refine lv_ishl hx hb dX12_of_14 ?_
  refine lt_i (y := iI 176736) (by decide) ?_
  refine lv_aload_n hx hb dX12_of_15 rfl (lv_at hlv 2 rfl) ?_
  refine lv_iload_n hx hb dX12_of_16 rfl (lv_at hlv 0 rfl) ?_
  refine cjr_i [] (fun pre9 => (va_runV (As := [vI 3]) (rest := [vI 176736]) ⟨hx, hb, hml, hown, hts⟩ (s_charAt l hl D cy sa 46 3 H.size (by show (0 : Int) ≤ 46 ∧ (46 : Int) ≤ 55; decide) (by show (0 : Int) ≤ 3 ∧ (3 : Int) ≤ 6; decide) (by omega)) (cwV 1 hts gg_1 rfl rfl rfl (by decide +kernel) ⟨Nat.le_of_ble_eq_true rfl, Nat.le_of_ble_eq_true rfl⟩) ⟨pcW.blind, (wo_recv (WD.tx hT.2.2 (46 : Int).toNat (by omega)).1 hS), pre9⟩ rfl rfl hlv.1 rfl (lv_room (Nat.le_of_ble_eq_true rfl)) dX12_of_17 ⟨Nat.le_of_ble_eq_true rfl, Nat.le_of_ble_eq_true rfl⟩)) hP hD hS hA hG hT [] rfl (by decide +kernel) (fun r8 u8 H locs hw8 hq9 hS => ?_)
  obtain ⟨rfl, hq8_1, hq8_2⟩ := hw8
  obtain ⟨hP, hD⟩ := pd9 [] hq9
  have hev8 : (u8.2.1 0) = 101 := by first | (rw [hq8_2]; rfl) | omega
  refine lt_i (y := iI 101) (by rw [show (u8.2.1 0) = 101 by omega]) ?_
  refine lv_bipush (v := iI 96) hx hb dX12_of_20 (by decide) ?_
  refine lv_isub hx hb dX12_of_22 ?_
  refine lt_i (y := iI 5) (by decide) ?_
  refine lv_ior hx hb dX12_of_23 ?_
  refine lt_i (y := iI 176741) (by decide) ?_
  refine lv_istore_n (lv' := [(1, vI 176741), (2, vI 3), (0, .ref (sn sa 46))]) hx hb dX12_of_24 rfl hlv (by decide) rfl (fun ls hlv => ?_)
  refine lv_iinc (v := iI 4) (lv' := [(2, vI 4), (1, vI 176741), (0, .ref (sn sa 46))]) hx hb dX12_of_25 hlv (k := 1) rfl (by decide) (by decide) rfl (fun ls hlv => ?_)
  refine lv_goto (tgt := 4) hx hb dX12_of_28 (by decide) ?_
  refine lv_iload_n hx hb dX12_of_4 rfl (lv_at hlv 0 rfl) ?_
  refine lv_aload_n hx hb dX12_of_5 rfl (lv_at hlv 2 rfl) ?_
  refine cjr_i [] (fun pre9 => (va_runV (As := []) (rest := [vI 4]) ⟨hx, hb, hml, hown, hts⟩ (s_length l hl D cy sa 46 H.size (by show (0 : Int) ≤ 46 ∧ (46 : Int) ≤ 55; decide)) (cwV 0 hts gg_0 rfl rfl rfl (by decide +kernel) ⟨Nat.le_of_ble_eq_true rfl, Nat.le_of_ble_eq_true rfl⟩) ⟨pcW.blind, (wo_recv (WD.tx hT.2.2 (46 : Int).toNat (by omega)).1 hS), pre9⟩ rfl rfl hlv.1 rfl (lv_room (Nat.le_of_ble_eq_true rfl)) dX12_of_6 ⟨Nat.le_of_ble_eq_true rfl, Nat.le_of_ble_eq_true rfl⟩)) hP hD hS hA hG hT [] rfl (by decide +kernel) (fun r9 u9 H locs hw9 hq9 hS => ?_)
  obtain ⟨rfl, hq9_1, hq9_2⟩ := hw9
  obtain ⟨hP, hD⟩ := pd9 [] hq9
  have hev9 : (u9.2.1 0) = 4 := by first | (rw [hq9_2]; rfl) | omega
  refine lt_i (y := iI 4) (by rw [show (u9.2.1 0) = 4 by omega]) ?_
  refine ir_ge (tgt := 31) hx hb dX12_of_9 (by decide) (by show ((-2147483648) : Int) ≤ 4 ∧ (4 : Int) ≤ 2147483647; decide) (by show ((-2147483648) : Int) ≤ 4 ∧ (4 : Int) ≤ 2147483647; decide) (fun c_5 => ?_) (fun c_5 => by exfalso; omega)
  refine lv_iload_n hx hb dX12_of_31 rfl (lv_at hlv 1 rfl) ?_
  refine W.widen (k := 0) (n := 0) (Nat.le_of_ble_eq_true rfl) (Nat.le_of_ble_eq_true rfl) ?_
  exact W.iret (v := iI 176741) hx hb hr (fun t ht hW => ⟨⟨iI 176741, ((fun k => ([] : List Nat).getD k 0), (fun k => ([176741] : List Int).getD k 0), (fun k => ([] : List (Nat → Int32)).getD k (fun _ => 0))), rfl, ⟨rfl, (by show (176741 ≤ 176741 ∧ 176741 ≤ 176741); show (176741 : Int) ≤ 176741 ∧ (176741 : Int) ≤ 176741; decide)⟩, at9 ht hP hD [] (by decide +kernel) rfl⟩, hS.F ht⟩) hS.2.2 dX12_of_32
def vs_m_of19 : List Cond := .code yX12_of cX12_of 3 (some .int) :: (([] : List Cond) ++ ((wsV RX12 100 RJ0 yJ0_length_8abf5 vs_s_length) ++ ((wsV RX12 105 RJ0 yJ0_charAt_5068e vs_s_charAt) ++ ([]))))
theorem gd_m_of19 : vs_m_of19.all goodWord = true := gd_C (by decide +kernel) (gd_A (by decide +kernel) (gd_A (gd_V gd_s_length (by decide +kernel)) (gd_A (gd_V gd_s_charAt (by decide +kernel)) rfl)))
set_option maxHeartbeats 4000000 in
set_option maxRecDepth 100000 in
theorem m_of19 (l : Launch) (hl : l.stackTraces = false) (D : va_G) (cy : Nat → ClassId) (sa : Nat → Nat)  (sz : Nat) : mI9 l yX12_of vs_m_of19 ({ frames := 4, cells := 0, slots := 0, locals := 85 }) D cy sa sz [.ref (sn sa 47)] [] (fun (r : Int32) (u : SV) => r = iI (u.2.1 0) ∧ (498 ≤ u.2.1 0 ∧ u.2.1 0 ≤ 498)) (fun u : SV => []) 0 0 := by
  refine Met.ofW (cc := cX12_of) (maxL := 3) (ret := (some .int)) (by decide) rfl ?_
  intro p e s m args below meth c s₁ B hml hv
  obtain ⟨rfl, hsz, hP, hG, hD0, hT⟩ := hv
  have hx := B.exec
  have hb := B.bytes
  have hr := B.returns
  have hts := atoms_spec (ws := vs_m_of19) B.pre
  have hown : s.vm.findClass RX12 = some m.cls := findClass_of_methodNamed B.named
  have hlocks := B.notSynchronized
  subst hsz
  have hD := hD0.self (sz := s.heap.size)
  generalize hAe : va_A [] s.heap.size = A at hD hT ⊢
  have hA : ∀ q : Nat, s.heap.size ≤ q → A q := fun q h => by rw [← hAe]; exact Or.inr h
  have hS : va_S A s.heap s.heap [] := va_S.rf
  have hl0 := lv_entry ([.ref (sn sa 47)]) (n := 3) (Nat.le_of_ble_eq_true rfl)
  rw [lg_entry_eq]
  generalize (lg_sl ([.ref (sn sa 47)]) ++ List.replicate (3 - (lg_sl ([.ref (sn sa 47)])).length) Slot.unset).toArray = ls at hl0 ⊢
  have hlv : lv_has ls 3 [(0, .ref (sn sa 47))] := hl0
  have gg_0 : GoodIn vs_m_of19 (wsV RX12 100 RJ0 yJ0_length_8abf5 vs_s_length) := goodIn_sub (fun w h => List.mem_cons_of_mem _ (List.mem_append_right _ (List.mem_append_left _ h))) (gd_V gd_s_length (by decide +kernel))
  have gg_1 : GoodIn vs_m_of19 (wsV RX12 105 RJ0 yJ0_charAt_5068e vs_s_charAt) := goodIn_sub (fun w h => List.mem_cons_of_mem _ (List.mem_append_right _ (List.mem_append_right _ (List.mem_append_left _ h)))) (gd_V gd_s_charAt (by decide +kernel))
  refine lv_iconst (v := iI 0) hx hb dX12_of_0 (by decide) ?_
  refine lv_istore_n (lv' := [(1, vI 0), (0, .ref (sn sa 47))]) hx hb dX12_of_1 rfl hlv (by decide) rfl (fun ls hlv => ?_)
  refine lv_iconst (v := iI 0) hx hb dX12_of_2 (by decide) ?_
  refine lv_istore_n (lv' := [(2, vI 0), (1, vI 0), (0, .ref (sn sa 47))]) hx hb dX12_of_3 rfl hlv (by decide) rfl (fun ls hlv => ?_)
  refine lv_iload_n hx hb dX12_of_4 rfl (lv_at hlv 0 rfl) ?_
  refine lv_aload_n hx hb dX12_of_5 rfl (lv_at hlv 2 rfl) ?_
  refine cjr_i [] (fun pre9 => (va_runV (As := []) (rest := [vI 0]) ⟨hx, hb, hml, hown, hts⟩ (s_length l hl D cy sa 47 s.heap.size (by show (0 : Int) ≤ 47 ∧ (47 : Int) ≤ 55; decide)) (cwV 0 hts gg_0 rfl rfl rfl (by decide +kernel) ⟨Nat.le_of_ble_eq_true rfl, Nat.le_of_ble_eq_true rfl⟩) ⟨pcW.blind, (wo_recv (WD.tx hT.2.2 (47 : Int).toNat (by omega)).1 hS), pre9⟩ rfl rfl hlv.1 rfl (lv_room (Nat.le_of_ble_eq_true rfl)) dX12_of_6 ⟨Nat.le_of_ble_eq_true rfl, Nat.le_of_ble_eq_true rfl⟩)) hP hD hS hA hG hT [] rfl (by decide +kernel) (fun r1 u1 H locs hw1 hq9 hS => ?_)
  obtain ⟨rfl, hq1_1, hq1_2⟩ := hw1
  obtain ⟨hP, hD⟩ := pd9 [] hq9
  have hev1 : (u1.2.1 0) = 2 := by first | (rw [hq1_2]; rfl) | omega
  refine lt_i (y := iI 2) (by rw [show (u1.2.1 0) = 2 by omega]) ?_
  refine ir_ge (tgt := 31) hx hb dX12_of_9 (by decide) (by show ((-2147483648) : Int) ≤ 0 ∧ (0 : Int) ≤ 2147483647; decide) (by show ((-2147483648) : Int) ≤ 2 ∧ (2 : Int) ≤ 2147483647; decide) (fun c_1 => by exfalso; omega) (fun c_1 => ?_)
  refine lv_iload_n hx hb dX12_of_12 rfl (lv_at hlv 1 rfl) ?_
  refine lv_iconst (v := iI 5) hx hb dX12_of_13 (by decide) ?_
  refine lv_ishl hx hb dX12_of_14 ?_
  refine lt_i (y := iI 0) (by decide) ?_
  refine lv_aload_n hx hb dX12_of_15 rfl (lv_at hlv 2 rfl) ?_
  refine lv_iload_n hx hb dX12_of_16 rfl (lv_at hlv 0 rfl) ?_
  refine cjr_i [] (fun pre9 => (va_runV (As := [vI 0]) (rest := [vI 0]) ⟨hx, hb, hml, hown, hts⟩ (s_charAt l hl D cy sa 47 0 H.size (by show (0 : Int) ≤ 47 ∧ (47 : Int) ≤ 55; decide) (by show (0 : Int) ≤ 0 ∧ (0 : Int) ≤ 6; decide) (by omega)) (cwV 1 hts gg_1 rfl rfl rfl (by decide +kernel) ⟨Nat.le_of_ble_eq_true rfl, Nat.le_of_ble_eq_true rfl⟩) ⟨pcW.blind, (wo_recv (WD.tx hT.2.2 (47 : Int).toNat (by omega)).1 hS), pre9⟩ rfl rfl hlv.1 rfl (lv_room (Nat.le_of_ble_eq_true rfl)) dX12_of_17 ⟨Nat.le_of_ble_eq_true rfl, Nat.le_of_ble_eq_true rfl⟩)) hP hD hS hA hG hT [] rfl (by decide +kernel) (fun r2 u2 H locs hw2 hq9 hS => ?_)
  obtain ⟨rfl, hq2_1, hq2_2⟩ := hw2
  obtain ⟨hP, hD⟩ := pd9 [] hq9
  have hev2 : (u2.2.1 0) = 111 := by first | (rw [hq2_2]; rfl) | omega
  refine lt_i (y := iI 111) (by rw [show (u2.2.1 0) = 111 by omega]) ?_
  refine lv_bipush (v := iI 96) hx hb dX12_of_20 (by decide) ?_
  refine lv_isub hx hb dX12_of_22 ?_
  refine lt_i (y := iI 15) (by decide) ?_
  refine lv_ior hx hb dX12_of_23 ?_
  refine lt_i (y := iI 15) (by decide) ?_
  refine lv_istore_n (lv' := [(1, vI 15), (2, vI 0), (0, .ref (sn sa 47))]) hx hb dX12_of_24 rfl hlv (by decide) rfl (fun ls hlv => ?_)
  refine lv_iinc (v := iI 1) (lv' := [(2, vI 1), (1, vI 15), (0, .ref (sn sa 47))]) hx hb dX12_of_25 hlv (k := 1) rfl (by decide) (by decide) rfl (fun ls hlv => ?_)
  refine lv_goto (tgt := 4) hx hb dX12_of_28 (by decide) ?_
  refine lv_iload_n hx hb dX12_of_4 rfl (lv_at hlv 0 rfl) ?_
  refine lv_aload_n hx hb dX12_of_5 rfl (lv_at hlv 2 rfl) ?_
  refine cjr_i [] (fun pre9 => (va_runV (As := []) (rest := [vI 1]) ⟨hx, hb, hml, hown, hts⟩ (s_length l hl D cy sa 47 H.size (by show (0 : Int) ≤ 47 ∧ (47 : Int) ≤ 55; decide)) (cwV 0 hts gg_0 rfl rfl rfl (by decide +kernel) ⟨Nat.le_of_ble_eq_true rfl, Nat.le_of_ble_eq_true rfl⟩) ⟨pcW.blind, (wo_recv (WD.tx hT.2.2 (47 : Int).toNat (by omega)).1 hS), pre9⟩ rfl rfl hlv.1 rfl (lv_room (Nat.le_of_ble_eq_true rfl)) dX12_of_6 ⟨Nat.le_of_ble_eq_true rfl, Nat.le_of_ble_eq_true rfl⟩)) hP hD hS hA hG hT [] rfl (by decide +kernel) (fun r3 u3 H locs hw3 hq9 hS => ?_)
  obtain ⟨rfl, hq3_1, hq3_2⟩ := hw3
  obtain ⟨hP, hD⟩ := pd9 [] hq9
  have hev3 : (u3.2.1 0) = 2 := by first | (rw [hq3_2]; rfl) | omega
  refine lt_i (y := iI 2) (by rw [show (u3.2.1 0) = 2 by omega]) ?_
  refine ir_ge (tgt := 31) hx hb dX12_of_9 (by decide) (by show ((-2147483648) : Int) ≤ 1 ∧ (1 : Int) ≤ 2147483647; decide) (by show ((-2147483648) : Int) ≤ 2 ∧ (2 : Int) ≤ 2147483647; decide) (fun c_2 => by exfalso; omega) (fun c_2 => ?_)
  refine lv_iload_n hx hb dX12_of_12 rfl (lv_at hlv 1 rfl) ?_
  refine lv_iconst (v := iI 5) hx hb dX12_of_13 (by decide) ?_
  refine lv_ishl hx hb dX12_of_14 ?_
  refine lt_i (y := iI 480) (by decide) ?_
  refine lv_aload_n hx hb dX12_of_15 rfl (lv_at hlv 2 rfl) ?_
  refine lv_iload_n hx hb dX12_of_16 rfl (lv_at hlv 0 rfl) ?_
  refine cjr_i [] (fun pre9 => (va_runV (As := [vI 1]) (rest := [vI 480]) ⟨hx, hb, hml, hown, hts⟩ (s_charAt l hl D cy sa 47 1 H.size (by show (0 : Int) ≤ 47 ∧ (47 : Int) ≤ 55; decide) (by show (0 : Int) ≤ 1 ∧ (1 : Int) ≤ 6; decide) (by omega)) (cwV 1 hts gg_1 rfl rfl rfl (by decide +kernel) ⟨Nat.le_of_ble_eq_true rfl, Nat.le_of_ble_eq_true rfl⟩) ⟨pcW.blind, (wo_recv (WD.tx hT.2.2 (47 : Int).toNat (by omega)).1 hS), pre9⟩ rfl rfl hlv.1 rfl (lv_room (Nat.le_of_ble_eq_true rfl)) dX12_of_17 ⟨Nat.le_of_ble_eq_true rfl, Nat.le_of_ble_eq_true rfl⟩)) hP hD hS hA hG hT [] rfl (by decide +kernel) (fun r4 u4 H locs hw4 hq9 hS => ?_)
  obtain ⟨rfl, hq4_1, hq4_2⟩ := hw4
  obtain ⟨hP, hD⟩ := pd9 [] hq9
  have hev4 : (u4.2.1 0) = 114 := by first | (rw [hq4_2]; rfl) | omega
  refine lt_i (y := iI 114) (by rw [show (u4.2.1 0) = 114 by omega]) ?_
  refine lv_bipush (v := iI 96) hx hb dX12_of_20 (by decide) ?_
  refine lv_isub hx hb dX12_of_22 ?_
  refine lt_i (y := iI 18) (by decide) ?_
  refine lv_ior hx hb dX12_of_23 ?_
  refine lt_i (y := iI 498) (by decide) ?_
  refine lv_istore_n (lv' := [(1, vI 498), (2, vI 1), (0, .ref (sn sa 47))]) hx hb dX12_of_24 rfl hlv (by decide) rfl (fun ls hlv => ?_)
  refine lv_iinc (v := iI 2) (lv' := [(2, vI 2), (1, vI 498), (0, .ref (sn sa 47))]) hx hb dX12_of_25 hlv (k := 1) rfl (by decide) (by decide) rfl (fun ls hlv => ?_)
  refine lv_goto (tgt := 4) hx hb dX12_of_28 (by decide) ?_
  refine lv_iload_n hx hb dX12_of_4 rfl (lv_at hlv 0 rfl) ?_
  refine lv_aload_n hx hb dX12_of_5 rfl (lv_at hlv 2 rfl) ?_
  refine cjr_i [] (fun pre9 => (va_runV (As := []) (rest := [vI 2]) ⟨hx, hb, hml, hown, hts⟩ (s_length l hl D cy sa 47 H.size (by show (0 : Int) ≤ 47 ∧ (47 : Int) ≤ 55; decide)) (cwV 0 hts gg_0 rfl rfl rfl (by decide +kernel) ⟨Nat.le_of_ble_eq_true rfl, Nat.le_of_ble_eq_true rfl⟩) ⟨pcW.blind, (wo_recv (WD.tx hT.2.2 (47 : Int).toNat (by omega)).1 hS), pre9⟩ rfl rfl hlv.1 rfl (lv_room (Nat.le_of_ble_eq_true rfl)) dX12_of_6 ⟨Nat.le_of_ble_eq_true rfl, Nat.le_of_ble_eq_true rfl⟩)) hP hD hS hA hG hT [] rfl (by decide +kernel) (fun r5 u5 H locs hw5 hq9 hS => ?_)
  obtain ⟨rfl, hq5_1, hq5_2⟩ := hw5
  obtain ⟨hP, hD⟩ := pd9 [] hq9
  have hev5 : (u5.2.1 0) = 2 := by first | (rw [hq5_2]; rfl) | omega
  refine lt_i (y := iI 2) (by rw [show (u5.2.1 0) = 2 by omega]) ?_
  refine ir_ge (tgt := 31) hx hb dX12_of_9 (by decide) (by show ((-2147483648) : Int) ≤ 2 ∧ (2 : Int) ≤ 2147483647; decide) (by show ((-2147483648) : Int) ≤ 2 ∧ (2 : Int) ≤ 2147483647; decide) (fun c_3 => ?_) (fun c_3 => by exfalso; omega)
  refine lv_iload_n hx hb dX12_of_31 rfl (lv_at hlv 1 rfl) ?_
  refine W.widen (k := 0) (n := 0) (Nat.le_of_ble_eq_true rfl) (Nat.le_of_ble_eq_true rfl) ?_
  exact W.iret (v := iI 498) hx hb hr (fun t ht hW => ⟨⟨iI 498, ((fun k => ([] : List Nat).getD k 0), (fun k => ([498] : List Int).getD k 0), (fun k => ([] : List (Nat → Int32)).getD k (fun _ => 0))), rfl, ⟨rfl, (by show (498 ≤ 498 ∧ 498 ≤ 498); show (498 : Int) ≤ 498 ∧ (498 : Int) ≤ 498; decide)⟩, at9 ht hP hD [] (by decide +kernel) rfl⟩, hS.F ht⟩) hS.2.2 dX12_of_32
def vs_m_of20 : List Cond := .code yX12_of cX12_of 3 (some .int) :: (([] : List Cond) ++ ((wsV RX12 100 RJ0 yJ0_length_8abf5 vs_s_length) ++ ((wsV RX12 105 RJ0 yJ0_charAt_5068e vs_s_charAt) ++ ([]))))
theorem gd_m_of20 : vs_m_of20.all goodWord = true := gd_C (by decide +kernel) (gd_A (by decide +kernel) (gd_A (gd_V gd_s_length (by decide +kernel)) (gd_A (gd_V gd_s_charAt (by decide +kernel)) rfl)))
set_option maxHeartbeats 4000000 in
set_option maxRecDepth 100000 in
theorem m_of20 (l : Launch) (hl : l.stackTraces = false) (D : va_G) (cy : Nat → ClassId) (sa : Nat → Nat)  (sz : Nat) : mI9 l yX12_of vs_m_of20 ({ frames := 4, cells := 0, slots := 0, locals := 85 }) D cy sa sz [.ref (sn sa 48)] [] (fun (r : Int32) (u : SV) => r = iI (u.2.1 0) ∧ (1476 ≤ u.2.1 0 ∧ u.2.1 0 ≤ 1476)) (fun u : SV => []) 0 0 := by
  refine Met.ofW (cc := cX12_of) (maxL := 3) (ret := (some .int)) (by decide) rfl ?_
  intro p e s m args below meth c s₁ B hml hv
  obtain ⟨rfl, hsz, hP, hG, hD0, hT⟩ := hv
  have hx := B.exec
  have hb := B.bytes
  have hr := B.returns
  have hts := atoms_spec (ws := vs_m_of20) B.pre
  have hown : s.vm.findClass RX12 = some m.cls := findClass_of_methodNamed B.named
  have hlocks := B.notSynchronized
  subst hsz
  have hD := hD0.self (sz := s.heap.size)
  generalize hAe : va_A [] s.heap.size = A at hD hT ⊢
  have hA : ∀ q : Nat, s.heap.size ≤ q → A q := fun q h => by rw [← hAe]; exact Or.inr h
  have hS : va_S A s.heap s.heap [] := va_S.rf
  have hl0 := lv_entry ([.ref (sn sa 48)]) (n := 3) (Nat.le_of_ble_eq_true rfl)
  rw [lg_entry_eq]
  generalize (lg_sl ([.ref (sn sa 48)]) ++ List.replicate (3 - (lg_sl ([.ref (sn sa 48)])).length) Slot.unset).toArray = ls at hl0 ⊢
  have hlv : lv_has ls 3 [(0, .ref (sn sa 48))] := hl0
  have gg_0 : GoodIn vs_m_of20 (wsV RX12 100 RJ0 yJ0_length_8abf5 vs_s_length) := goodIn_sub (fun w h => List.mem_cons_of_mem _ (List.mem_append_right _ (List.mem_append_left _ h))) (gd_V gd_s_length (by decide +kernel))
  have gg_1 : GoodIn vs_m_of20 (wsV RX12 105 RJ0 yJ0_charAt_5068e vs_s_charAt) := goodIn_sub (fun w h => List.mem_cons_of_mem _ (List.mem_append_right _ (List.mem_append_right _ (List.mem_append_left _ h)))) (gd_V gd_s_charAt (by decide +kernel))
  refine lv_iconst (v := iI 0) hx hb dX12_of_0 (by decide) ?_
  refine lv_istore_n (lv' := [(1, vI 0), (0, .ref (sn sa 48))]) hx hb dX12_of_1 rfl hlv (by decide) rfl (fun ls hlv => ?_)
  refine lv_iconst (v := iI 0) hx hb dX12_of_2 (by decide) ?_
  refine lv_istore_n (lv' := [(2, vI 0), (1, vI 0), (0, .ref (sn sa 48))]) hx hb dX12_of_3 rfl hlv (by decide) rfl (fun ls hlv => ?_)
  refine lv_iload_n hx hb dX12_of_4 rfl (lv_at hlv 0 rfl) ?_
  refine lv_aload_n hx hb dX12_of_5 rfl (lv_at hlv 2 rfl) ?_
  refine cjr_i [] (fun pre9 => (va_runV (As := []) (rest := [vI 0]) ⟨hx, hb, hml, hown, hts⟩ (s_length l hl D cy sa 48 s.heap.size (by show (0 : Int) ≤ 48 ∧ (48 : Int) ≤ 55; decide)) (cwV 0 hts gg_0 rfl rfl rfl (by decide +kernel) ⟨Nat.le_of_ble_eq_true rfl, Nat.le_of_ble_eq_true rfl⟩) ⟨pcW.blind, (wo_recv (WD.tx hT.2.2 (48 : Int).toNat (by omega)).1 hS), pre9⟩ rfl rfl hlv.1 rfl (lv_room (Nat.le_of_ble_eq_true rfl)) dX12_of_6 ⟨Nat.le_of_ble_eq_true rfl, Nat.le_of_ble_eq_true rfl⟩)) hP hD hS hA hG hT [] rfl (by decide +kernel) (fun r1 u1 H locs hw1 hq9 hS => ?_)
  obtain ⟨rfl, hq1_1, hq1_2⟩ := hw1
  obtain ⟨hP, hD⟩ := pd9 [] hq9
  have hev1 : (u1.2.1 0) = 3 := by first | (rw [hq1_2]; rfl) | omega
  refine lt_i (y := iI 3) (by rw [show (u1.2.1 0) = 3 by omega]) ?_
  refine ir_ge (tgt := 31) hx hb dX12_of_9 (by decide) (by show ((-2147483648) : Int) ≤ 0 ∧ (0 : Int) ≤ 2147483647; decide) (by show ((-2147483648) : Int) ≤ 3 ∧ (3 : Int) ≤ 2147483647; decide) (fun c_1 => by exfalso; omega) (fun c_1 => ?_)
  refine lv_iload_n hx hb dX12_of_12 rfl (lv_at hlv 1 rfl) ?_
  refine lv_iconst (v := iI 5) hx hb dX12_of_13 (by decide) ?_
  refine lv_ishl hx hb dX12_of_14 ?_
  refine lt_i (y := iI 0) (by decide) ?_
  refine lv_aload_n hx hb dX12_of_15 rfl (lv_at hlv 2 rfl) ?_
  refine lv_iload_n hx hb dX12_of_16 rfl (lv_at hlv 0 rfl) ?_
  refine cjr_i [] (fun pre9 => (va_runV (As := [vI 0]) (rest := [vI 0]) ⟨hx, hb, hml, hown, hts⟩ (s_charAt l hl D cy sa 48 0 H.size (by show (0 : Int) ≤ 48 ∧ (48 : Int) ≤ 55; decide) (by show (0 : Int) ≤ 0 ∧ (0 : Int) ≤ 6; decide) (by omega)) (cwV 1 hts gg_1 rfl rfl rfl (by decide +kernel) ⟨Nat.le_of_ble_eq_true rfl, Nat.le_of_ble_eq_true rfl⟩) ⟨pcW.blind, (wo_recv (WD.tx hT.2.2 (48 : Int).toNat (by omega)).1 hS), pre9⟩ rfl rfl hlv.1 rfl (lv_room (Nat.le_of_ble_eq_true rfl)) dX12_of_17 ⟨Nat.le_of_ble_eq_true rfl, Nat.le_of_ble_eq_true rfl⟩)) hP hD hS hA hG hT [] rfl (by decide +kernel) (fun r2 u2 H locs hw2 hq9 hS => ?_)
  obtain ⟨rfl, hq2_1, hq2_2⟩ := hw2
  obtain ⟨hP, hD⟩ := pd9 [] hq9
  have hev2 : (u2.2.1 0) = 97 := by first | (rw [hq2_2]; rfl) | omega
  refine lt_i (y := iI 97) (by rw [show (u2.2.1 0) = 97 by omega]) ?_
  refine lv_bipush (v := iI 96) hx hb dX12_of_20 (by decide) ?_
  refine lv_isub hx hb dX12_of_22 ?_
  refine lt_i (y := iI 1) (by decide) ?_
  refine lv_ior hx hb dX12_of_23 ?_
  refine lt_i (y := iI 1) (by decide) ?_
  refine lv_istore_n (lv' := [(1, vI 1), (2, vI 0), (0, .ref (sn sa 48))]) hx hb dX12_of_24 rfl hlv (by decide) rfl (fun ls hlv => ?_)
  refine lv_iinc (v := iI 1) (lv' := [(2, vI 1), (1, vI 1), (0, .ref (sn sa 48))]) hx hb dX12_of_25 hlv (k := 1) rfl (by decide) (by decide) rfl (fun ls hlv => ?_)
  refine lv_goto (tgt := 4) hx hb dX12_of_28 (by decide) ?_
  refine lv_iload_n hx hb dX12_of_4 rfl (lv_at hlv 0 rfl) ?_
  refine lv_aload_n hx hb dX12_of_5 rfl (lv_at hlv 2 rfl) ?_
  refine cjr_i [] (fun pre9 => (va_runV (As := []) (rest := [vI 1]) ⟨hx, hb, hml, hown, hts⟩ (s_length l hl D cy sa 48 H.size (by show (0 : Int) ≤ 48 ∧ (48 : Int) ≤ 55; decide)) (cwV 0 hts gg_0 rfl rfl rfl (by decide +kernel) ⟨Nat.le_of_ble_eq_true rfl, Nat.le_of_ble_eq_true rfl⟩) ⟨pcW.blind, (wo_recv (WD.tx hT.2.2 (48 : Int).toNat (by omega)).1 hS), pre9⟩ rfl rfl hlv.1 rfl (lv_room (Nat.le_of_ble_eq_true rfl)) dX12_of_6 ⟨Nat.le_of_ble_eq_true rfl, Nat.le_of_ble_eq_true rfl⟩)) hP hD hS hA hG hT [] rfl (by decide +kernel) (fun r3 u3 H locs hw3 hq9 hS => ?_)
  obtain ⟨rfl, hq3_1, hq3_2⟩ := hw3
  obtain ⟨hP, hD⟩ := pd9 [] hq9
  have hev3 : (u3.2.1 0) = 3 := by first | (rw [hq3_2]; rfl) | omega
  refine lt_i (y := iI 3) (by rw [show (u3.2.1 0) = 3 by omega]) ?_
  refine ir_ge (tgt := 31) hx hb dX12_of_9 (by decide) (by show ((-2147483648) : Int) ≤ 1 ∧ (1 : Int) ≤ 2147483647; decide) (by show ((-2147483648) : Int) ≤ 3 ∧ (3 : Int) ≤ 2147483647; decide) (fun c_2 => by exfalso; omega) (fun c_2 => ?_)
  refine lv_iload_n hx hb dX12_of_12 rfl (lv_at hlv 1 rfl) ?_
  refine lv_iconst (v := iI 5) hx hb dX12_of_13 (by decide) ?_
  refine lv_ishl hx hb dX12_of_14 ?_
  refine lt_i (y := iI 32) (by decide) ?_
  refine lv_aload_n hx hb dX12_of_15 rfl (lv_at hlv 2 rfl) ?_
  refine lv_iload_n hx hb dX12_of_16 rfl (lv_at hlv 0 rfl) ?_
  refine cjr_i [] (fun pre9 => (va_runV (As := [vI 1]) (rest := [vI 32]) ⟨hx, hb, hml, hown, hts⟩ (s_charAt l hl D cy sa 48 1 H.size (by show (0 : Int) ≤ 48 ∧ (48 : Int) ≤ 55; decide) (by show (0 : Int) ≤ 1 ∧ (1 : Int) ≤ 6; decide) (by omega)) (cwV 1 hts gg_1 rfl rfl rfl (by decide +kernel) ⟨Nat.le_of_ble_eq_true rfl, Nat.le_of_ble_eq_true rfl⟩) ⟨pcW.blind, (wo_recv (WD.tx hT.2.2 (48 : Int).toNat (by omega)).1 hS), pre9⟩ rfl rfl hlv.1 rfl (lv_room (Nat.le_of_ble_eq_true rfl)) dX12_of_17 ⟨Nat.le_of_ble_eq_true rfl, Nat.le_of_ble_eq_true rfl⟩)) hP hD hS hA hG hT [] rfl (by decide +kernel) (fun r4 u4 H locs hw4 hq9 hS => ?_)
  obtain ⟨rfl, hq4_1, hq4_2⟩ := hw4
  obtain ⟨hP, hD⟩ := pd9 [] hq9
  have hev4 : (u4.2.1 0) = 110 := by first | (rw [hq4_2]; rfl) | omega
  refine lt_i (y := iI 110) (by rw [show (u4.2.1 0) = 110 by omega]) ?_
  refine lv_bipush (v := iI 96) hx hb dX12_of_20 (by decide) ?_
  refine lv_isub hx hb dX12_of_22 ?_
  refine lt_i (y := iI 14) (by decide) ?_
  refine lv_ior hx hb dX12_of_23 ?_
  refine lt_i (y := iI 46) (by decide) ?_
  refine lv_istore_n (lv' := [(1, vI 46), (2, vI 1), (0, .ref (sn sa 48))]) hx hb dX12_of_24 rfl hlv (by decide) rfl (fun ls hlv => ?_)
  refine lv_iinc (v := iI 2) (lv' := [(2, vI 2), (1, vI 46), (0, .ref (sn sa 48))]) hx hb dX12_of_25 hlv (k := 1) rfl (by decide) (by decide) rfl (fun ls hlv => ?_)
  refine lv_goto (tgt := 4) hx hb dX12_of_28 (by decide) ?_
  refine lv_iload_n hx hb dX12_of_4 rfl (lv_at hlv 0 rfl) ?_
  refine lv_aload_n hx hb dX12_of_5 rfl (lv_at hlv 2 rfl) ?_
  refine cjr_i [] (fun pre9 => (va_runV (As := []) (rest := [vI 2]) ⟨hx, hb, hml, hown, hts⟩ (s_length l hl D cy sa 48 H.size (by show (0 : Int) ≤ 48 ∧ (48 : Int) ≤ 55; decide)) (cwV 0 hts gg_0 rfl rfl rfl (by decide +kernel) ⟨Nat.le_of_ble_eq_true rfl, Nat.le_of_ble_eq_true rfl⟩) ⟨pcW.blind, (wo_recv (WD.tx hT.2.2 (48 : Int).toNat (by omega)).1 hS), pre9⟩ rfl rfl hlv.1 rfl (lv_room (Nat.le_of_ble_eq_true rfl)) dX12_of_6 ⟨Nat.le_of_ble_eq_true rfl, Nat.le_of_ble_eq_true rfl⟩)) hP hD hS hA hG hT [] rfl (by decide +kernel) (fun r5 u5 H locs hw5 hq9 hS => ?_)
  obtain ⟨rfl, hq5_1, hq5_2⟩ := hw5
  obtain ⟨hP, hD⟩ := pd9 [] hq9
  have hev5 : (u5.2.1 0) = 3 := by first | (rw [hq5_2]; rfl) | omega
  refine lt_i (y := iI 3) (by rw [show (u5.2.1 0) = 3 by omega]) ?_
  refine ir_ge (tgt := 31) hx hb dX12_of_9 (by decide) (by show ((-2147483648) : Int) ≤ 2 ∧ (2 : Int) ≤ 2147483647; decide) (by show ((-2147483648) : Int) ≤ 3 ∧ (3 : Int) ≤ 2147483647; decide) (fun c_3 => by exfalso; omega) (fun c_3 => ?_)
  refine lv_iload_n hx hb dX12_of_12 rfl (lv_at hlv 1 rfl) ?_
  refine lv_iconst (v := iI 5) hx hb dX12_of_13 (by decide) ?_
  refine lv_ishl hx hb dX12_of_14 ?_
  refine lt_i (y := iI 1472) (by decide) ?_
  refine lv_aload_n hx hb dX12_of_15 rfl (lv_at hlv 2 rfl) ?_
  refine lv_iload_n hx hb dX12_of_16 rfl (lv_at hlv 0 rfl) ?_
  refine cjr_i [] (fun pre9 => (va_runV (As := [vI 2]) (rest := [vI 1472]) ⟨hx, hb, hml, hown, hts⟩ (s_charAt l hl D cy sa 48 2 H.size (by show (0 : Int) ≤ 48 ∧ (48 : Int) ≤ 55; decide) (by show (0 : Int) ≤ 2 ∧ (2 : Int) ≤ 6; decide) (by omega)) (cwV 1 hts gg_1 rfl rfl rfl (by decide +kernel) ⟨Nat.le_of_ble_eq_true rfl, Nat.le_of_ble_eq_true rfl⟩) ⟨pcW.blind, (wo_recv (WD.tx hT.2.2 (48 : Int).toNat (by omega)).1 hS), pre9⟩ rfl rfl hlv.1 rfl (lv_room (Nat.le_of_ble_eq_true rfl)) dX12_of_17 ⟨Nat.le_of_ble_eq_true rfl, Nat.le_of_ble_eq_true rfl⟩)) hP hD hS hA hG hT [] rfl (by decide +kernel) (fun r6 u6 H locs hw6 hq9 hS => ?_)
  obtain ⟨rfl, hq6_1, hq6_2⟩ := hw6
  obtain ⟨hP, hD⟩ := pd9 [] hq9
  have hev6 : (u6.2.1 0) = 100 := by first | (rw [hq6_2]; rfl) | omega
  refine lt_i (y := iI 100) (by rw [show (u6.2.1 0) = 100 by omega]) ?_
  refine lv_bipush (v := iI 96) hx hb dX12_of_20 (by decide) ?_
  refine lv_isub hx hb dX12_of_22 ?_
  refine lt_i (y := iI 4) (by decide) ?_
  refine lv_ior hx hb dX12_of_23 ?_
  refine lt_i (y := iI 1476) (by decide) ?_
  refine lv_istore_n (lv' := [(1, vI 1476), (2, vI 2), (0, .ref (sn sa 48))]) hx hb dX12_of_24 rfl hlv (by decide) rfl (fun ls hlv => ?_)
  refine lv_iinc (v := iI 3) (lv' := [(2, vI 3), (1, vI 1476), (0, .ref (sn sa 48))]) hx hb dX12_of_25 hlv (k := 1) rfl (by decide) (by decide) rfl (fun ls hlv => ?_)
  refine lv_goto (tgt := 4) hx hb dX12_of_28 (by decide) ?_
  refine lv_iload_n hx hb dX12_of_4 rfl (lv_at hlv 0 rfl) ?_
  refine lv_aload_n hx hb dX12_of_5 rfl (lv_at hlv 2 rfl) ?_
  refine cjr_i [] (fun pre9 => (va_runV (As := []) (rest := [vI 3]) ⟨hx, hb, hml, hown, hts⟩ (s_length l hl D cy sa 48 H.size (by show (0 : Int) ≤ 48 ∧ (48 : Int) ≤ 55; decide)) (cwV 0 hts gg_0 rfl rfl rfl (by decide +kernel) ⟨Nat.le_of_ble_eq_true rfl, Nat.le_of_ble_eq_true rfl⟩) ⟨pcW.blind, (wo_recv (WD.tx hT.2.2 (48 : Int).toNat (by omega)).1 hS), pre9⟩ rfl rfl hlv.1 rfl (lv_room (Nat.le_of_ble_eq_true rfl)) dX12_of_6 ⟨Nat.le_of_ble_eq_true rfl, Nat.le_of_ble_eq_true rfl⟩)) hP hD hS hA hG hT [] rfl (by decide +kernel) (fun r7 u7 H locs hw7 hq9 hS => ?_)
  obtain ⟨rfl, hq7_1, hq7_2⟩ := hw7
  obtain ⟨hP, hD⟩ := pd9 [] hq9
  have hev7 : (u7.2.1 0) = 3 := by first | (rw [hq7_2]; rfl) | omega
  refine lt_i (y := iI 3) (by rw [show (u7.2.1 0) = 3 by omega]) ?_
  refine ir_ge (tgt := 31) hx hb dX12_of_9 (by decide) (by show ((-2147483648) : Int) ≤ 3 ∧ (3 : Int) ≤ 2147483647; decide) (by show ((-2147483648) : Int) ≤ 3 ∧ (3 : Int) ≤ 2147483647; decide) (fun c_4 => ?_) (fun c_4 => by exfalso; omega)
  refine lv_iload_n hx hb dX12_of_31 rfl (lv_at hlv 1 rfl) ?_
  refine W.widen (k := 0) (n := 0) (Nat.le_of_ble_eq_true rfl) (Nat.le_of_ble_eq_true rfl) ?_
  exact W.iret (v := iI 1476) hx hb hr (fun t ht hW => ⟨⟨iI 1476, ((fun k => ([] : List Nat).getD k 0), (fun k => ([1476] : List Int).getD k 0), (fun k => ([] : List (Nat → Int32)).getD k (fun _ => 0))), rfl, ⟨rfl, (by show (1476 ≤ 1476 ∧ 1476 ≤ 1476); show (1476 : Int) ≤ 1476 ∧ (1476 : Int) ≤ 1476; decide)⟩, at9 ht hP hD [] (by decide +kernel) rfl⟩, hS.F ht⟩) hS.2.2 dX12_of_32
def vs_m_of21 : List Cond := .code yX12_of cX12_of 3 (some .int) :: (([] : List Cond) ++ ((wsV RX12 100 RJ0 yJ0_length_8abf5 vs_s_length) ++ ((wsV RX12 105 RJ0 yJ0_charAt_5068e vs_s_charAt) ++ ([]))))
theorem gd_m_of21 : vs_m_of21.all goodWord = true := gd_C (by decide +kernel) (gd_A (by decide +kernel) (gd_A (gd_V gd_s_length (by decide +kernel)) (gd_A (gd_V gd_s_charAt (by decide +kernel)) rfl)))
set_option maxHeartbeats 4000000 in
set_option maxRecDepth 100000 in
theorem m_of21 (l : Launch) (hl : l.stackTraces = false) (D : va_G) (cy : Nat → ClassId) (sa : Nat → Nat)  (sz : Nat) : mI9 l yX12_of vs_m_of21 ({ frames := 4, cells := 0, slots := 0, locals := 85 }) D cy sa sz [.ref (sn sa 49)] [] (fun (r : Int32) (u : SV) => r = iI (u.2.1 0) ∧ (14836 ≤ u.2.1 0 ∧ u.2.1 0 ≤ 14836)) (fun u : SV => []) 0 0 := by
  refine Met.ofW (cc := cX12_of) (maxL := 3) (ret := (some .int)) (by decide) rfl ?_
  intro p e s m args below meth c s₁ B hml hv
  obtain ⟨rfl, hsz, hP, hG, hD0, hT⟩ := hv
  have hx := B.exec
  have hb := B.bytes
  have hr := B.returns
  have hts := atoms_spec (ws := vs_m_of21) B.pre
  have hown : s.vm.findClass RX12 = some m.cls := findClass_of_methodNamed B.named
  have hlocks := B.notSynchronized
  subst hsz
  have hD := hD0.self (sz := s.heap.size)
  generalize hAe : va_A [] s.heap.size = A at hD hT ⊢
  have hA : ∀ q : Nat, s.heap.size ≤ q → A q := fun q h => by rw [← hAe]; exact Or.inr h
  have hS : va_S A s.heap s.heap [] := va_S.rf
  have hl0 := lv_entry ([.ref (sn sa 49)]) (n := 3) (Nat.le_of_ble_eq_true rfl)
  rw [lg_entry_eq]
  generalize (lg_sl ([.ref (sn sa 49)]) ++ List.replicate (3 - (lg_sl ([.ref (sn sa 49)])).length) Slot.unset).toArray = ls at hl0 ⊢
  have hlv : lv_has ls 3 [(0, .ref (sn sa 49))] := hl0
  have gg_0 : GoodIn vs_m_of21 (wsV RX12 100 RJ0 yJ0_length_8abf5 vs_s_length) := goodIn_sub (fun w h => List.mem_cons_of_mem _ (List.mem_append_right _ (List.mem_append_left _ h))) (gd_V gd_s_length (by decide +kernel))
  have gg_1 : GoodIn vs_m_of21 (wsV RX12 105 RJ0 yJ0_charAt_5068e vs_s_charAt) := goodIn_sub (fun w h => List.mem_cons_of_mem _ (List.mem_append_right _ (List.mem_append_right _ (List.mem_append_left _ h)))) (gd_V gd_s_charAt (by decide +kernel))
  refine lv_iconst (v := iI 0) hx hb dX12_of_0 (by decide) ?_
  refine lv_istore_n (lv' := [(1, vI 0), (0, .ref (sn sa 49))]) hx hb dX12_of_1 rfl hlv (by decide) rfl (fun ls hlv => ?_)
  refine lv_iconst (v := iI 0) hx hb dX12_of_2 (by decide) ?_
  refine lv_istore_n (lv' := [(2, vI 0), (1, vI 0), (0, .ref (sn sa 49))]) hx hb dX12_of_3 rfl hlv (by decide) rfl (fun ls hlv => ?_)
  refine lv_iload_n hx hb dX12_of_4 rfl (lv_at hlv 0 rfl) ?_
  refine lv_aload_n hx hb dX12_of_5 rfl (lv_at hlv 2 rfl) ?_
  refine cjr_i [] (fun pre9 => (va_runV (As := []) (rest := [vI 0]) ⟨hx, hb, hml, hown, hts⟩ (s_length l hl D cy sa 49 s.heap.size (by show (0 : Int) ≤ 49 ∧ (49 : Int) ≤ 55; decide)) (cwV 0 hts gg_0 rfl rfl rfl (by decide +kernel) ⟨Nat.le_of_ble_eq_true rfl, Nat.le_of_ble_eq_true rfl⟩) ⟨pcW.blind, (wo_recv (WD.tx hT.2.2 (49 : Int).toNat (by omega)).1 hS), pre9⟩ rfl rfl hlv.1 rfl (lv_room (Nat.le_of_ble_eq_true rfl)) dX12_of_6 ⟨Nat.le_of_ble_eq_true rfl, Nat.le_of_ble_eq_true rfl⟩)) hP hD hS hA hG hT [] rfl (by decide +kernel) (fun r1 u1 H locs hw1 hq9 hS => ?_)
  obtain ⟨rfl, hq1_1, hq1_2⟩ := hw1
  obtain ⟨hP, hD⟩ := pd9 [] hq9
  have hev1 : (u1.2.1 0) = 3 := by first | (rw [hq1_2]; rfl) | omega
  refine lt_i (y := iI 3) (by rw [show (u1.2.1 0) = 3 by omega]) ?_
  refine ir_ge (tgt := 31) hx hb dX12_of_9 (by decide) (by show ((-2147483648) : Int) ≤ 0 ∧ (0 : Int) ≤ 2147483647; decide) (by show ((-2147483648) : Int) ≤ 3 ∧ (3 : Int) ≤ 2147483647; decide) (fun c_1 => by exfalso; omega) (fun c_1 => ?_)
  refine lv_iload_n hx hb dX12_of_12 rfl (lv_at hlv 1 rfl) ?_
  refine lv_iconst (v := iI 5) hx hb dX12_of_13 (by decide) ?_
  refine lv_ishl hx hb dX12_of_14 ?_
  refine lt_i (y := iI 0) (by decide) ?_
  refine lv_aload_n hx hb dX12_of_15 rfl (lv_at hlv 2 rfl) ?_
  refine lv_iload_n hx hb dX12_of_16 rfl (lv_at hlv 0 rfl) ?_
  refine cjr_i [] (fun pre9 => (va_runV (As := [vI 0]) (rest := [vI 0]) ⟨hx, hb, hml, hown, hts⟩ (s_charAt l hl D cy sa 49 0 H.size (by show (0 : Int) ≤ 49 ∧ (49 : Int) ≤ 55; decide) (by show (0 : Int) ≤ 0 ∧ (0 : Int) ≤ 6; decide) (by omega)) (cwV 1 hts gg_1 rfl rfl rfl (by decide +kernel) ⟨Nat.le_of_ble_eq_true rfl, Nat.le_of_ble_eq_true rfl⟩) ⟨pcW.blind, (wo_recv (WD.tx hT.2.2 (49 : Int).toNat (by omega)).1 hS), pre9⟩ rfl rfl hlv.1 rfl (lv_room (Nat.le_of_ble_eq_true rfl)) dX12_of_17 ⟨Nat.le_of_ble_eq_true rfl, Nat.le_of_ble_eq_true rfl⟩)) hP hD hS hA hG hT [] rfl (by decide +kernel) (fun r2 u2 H locs hw2 hq9 hS => ?_)
  obtain ⟨rfl, hq2_1, hq2_2⟩ := hw2
  obtain ⟨hP, hD⟩ := pd9 [] hq9
  have hev2 : (u2.2.1 0) = 110 := by first | (rw [hq2_2]; rfl) | omega
  refine lt_i (y := iI 110) (by rw [show (u2.2.1 0) = 110 by omega]) ?_
  refine lv_bipush (v := iI 96) hx hb dX12_of_20 (by decide) ?_
  refine lv_isub hx hb dX12_of_22 ?_
  refine lt_i (y := iI 14) (by decide) ?_
  refine lv_ior hx hb dX12_of_23 ?_
  refine lt_i (y := iI 14) (by decide) ?_
  refine lv_istore_n (lv' := [(1, vI 14), (2, vI 0), (0, .ref (sn sa 49))]) hx hb dX12_of_24 rfl hlv (by decide) rfl (fun ls hlv => ?_)
  refine lv_iinc (v := iI 1) (lv' := [(2, vI 1), (1, vI 14), (0, .ref (sn sa 49))]) hx hb dX12_of_25 hlv (k := 1) rfl (by decide) (by decide) rfl (fun ls hlv => ?_)
  refine lv_goto (tgt := 4) hx hb dX12_of_28 (by decide) ?_
  refine lv_iload_n hx hb dX12_of_4 rfl (lv_at hlv 0 rfl) ?_
  refine lv_aload_n hx hb dX12_of_5 rfl (lv_at hlv 2 rfl) ?_
  refine cjr_i [] (fun pre9 => (va_runV (As := []) (rest := [vI 1]) ⟨hx, hb, hml, hown, hts⟩ (s_length l hl D cy sa 49 H.size (by show (0 : Int) ≤ 49 ∧ (49 : Int) ≤ 55; decide)) (cwV 0 hts gg_0 rfl rfl rfl (by decide +kernel) ⟨Nat.le_of_ble_eq_true rfl, Nat.le_of_ble_eq_true rfl⟩) ⟨pcW.blind, (wo_recv (WD.tx hT.2.2 (49 : Int).toNat (by omega)).1 hS), pre9⟩ rfl rfl hlv.1 rfl (lv_room (Nat.le_of_ble_eq_true rfl)) dX12_of_6 ⟨Nat.le_of_ble_eq_true rfl, Nat.le_of_ble_eq_true rfl⟩)) hP hD hS hA hG hT [] rfl (by decide +kernel) (fun r3 u3 H locs hw3 hq9 hS => ?_)
  obtain ⟨rfl, hq3_1, hq3_2⟩ := hw3
  obtain ⟨hP, hD⟩ := pd9 [] hq9
  have hev3 : (u3.2.1 0) = 3 := by first | (rw [hq3_2]; rfl) | omega
  refine lt_i (y := iI 3) (by rw [show (u3.2.1 0) = 3 by omega]) ?_
  refine ir_ge (tgt := 31) hx hb dX12_of_9 (by decide) (by show ((-2147483648) : Int) ≤ 1 ∧ (1 : Int) ≤ 2147483647; decide) (by show ((-2147483648) : Int) ≤ 3 ∧ (3 : Int) ≤ 2147483647; decide) (fun c_2 => by exfalso; omega) (fun c_2 => ?_)
  refine lv_iload_n hx hb dX12_of_12 rfl (lv_at hlv 1 rfl) ?_
  refine lv_iconst (v := iI 5) hx hb dX12_of_13 (by decide) ?_
  refine lv_ishl hx hb dX12_of_14 ?_
  refine lt_i (y := iI 448) (by decide) ?_
  refine lv_aload_n hx hb dX12_of_15 rfl (lv_at hlv 2 rfl) ?_
  refine lv_iload_n hx hb dX12_of_16 rfl (lv_at hlv 0 rfl) ?_
  refine cjr_i [] (fun pre9 => (va_runV (As := [vI 1]) (rest := [vI 448]) ⟨hx, hb, hml, hown, hts⟩ (s_charAt l hl D cy sa 49 1 H.size (by show (0 : Int) ≤ 49 ∧ (49 : Int) ≤ 55; decide) (by show (0 : Int) ≤ 1 ∧ (1 : Int) ≤ 6; decide) (by omega)) (cwV 1 hts gg_1 rfl rfl rfl (by decide +kernel) ⟨Nat.le_of_ble_eq_true rfl, Nat.le_of_ble_eq_true rfl⟩) ⟨pcW.blind, (wo_recv (WD.tx hT.2.2 (49 : Int).toNat (by omega)).1 hS), pre9⟩ rfl rfl hlv.1 rfl (lv_room (Nat.le_of_ble_eq_true rfl)) dX12_of_17 ⟨Nat.le_of_ble_eq_true rfl, Nat.le_of_ble_eq_true rfl⟩)) hP hD hS hA hG hT [] rfl (by decide +kernel) (fun r4 u4 H locs hw4 hq9 hS => ?_)
  obtain ⟨rfl, hq4_1, hq4_2⟩ := hw4
  obtain ⟨hP, hD⟩ := pd9 [] hq9
  have hev4 : (u4.2.1 0) = 111 := by first | (rw [hq4_2]; rfl) | omega
  refine lt_i (y := iI 111) (by rw [show (u4.2.1 0) = 111 by omega]) ?_
  refine lv_bipush (v := iI 96) hx hb dX12_of_20 (by decide) ?_
  refine lv_isub hx hb dX12_of_22 ?_
  refine lt_i (y := iI 15) (by decide) ?_
  refine lv_ior hx hb dX12_of_23 ?_
  refine lt_i (y := iI 463) (by decide) ?_
  refine lv_istore_n (lv' := [(1, vI 463), (2, vI 1), (0, .ref (sn sa 49))]) hx hb dX12_of_24 rfl hlv (by decide) rfl (fun ls hlv => ?_)
  refine lv_iinc (v := iI 2) (lv' := [(2, vI 2), (1, vI 463), (0, .ref (sn sa 49))]) hx hb dX12_of_25 hlv (k := 1) rfl (by decide) (by decide) rfl (fun ls hlv => ?_)
  refine lv_goto (tgt := 4) hx hb dX12_of_28 (by decide) ?_
  refine lv_iload_n hx hb dX12_of_4 rfl (lv_at hlv 0 rfl) ?_
  refine lv_aload_n hx hb dX12_of_5 rfl (lv_at hlv 2 rfl) ?_
  refine cjr_i [] (fun pre9 => (va_runV (As := []) (rest := [vI 2]) ⟨hx, hb, hml, hown, hts⟩ (s_length l hl D cy sa 49 H.size (by show (0 : Int) ≤ 49 ∧ (49 : Int) ≤ 55; decide)) (cwV 0 hts gg_0 rfl rfl rfl (by decide +kernel) ⟨Nat.le_of_ble_eq_true rfl, Nat.le_of_ble_eq_true rfl⟩) ⟨pcW.blind, (wo_recv (WD.tx hT.2.2 (49 : Int).toNat (by omega)).1 hS), pre9⟩ rfl rfl hlv.1 rfl (lv_room (Nat.le_of_ble_eq_true rfl)) dX12_of_6 ⟨Nat.le_of_ble_eq_true rfl, Nat.le_of_ble_eq_true rfl⟩)) hP hD hS hA hG hT [] rfl (by decide +kernel) (fun r5 u5 H locs hw5 hq9 hS => ?_)
  obtain ⟨rfl, hq5_1, hq5_2⟩ := hw5
  obtain ⟨hP, hD⟩ := pd9 [] hq9
  have hev5 : (u5.2.1 0) = 3 := by first | (rw [hq5_2]; rfl) | omega
  refine lt_i (y := iI 3) (by rw [show (u5.2.1 0) = 3 by omega]) ?_
  refine ir_ge (tgt := 31) hx hb dX12_of_9 (by decide) (by show ((-2147483648) : Int) ≤ 2 ∧ (2 : Int) ≤ 2147483647; decide) (by show ((-2147483648) : Int) ≤ 3 ∧ (3 : Int) ≤ 2147483647; decide) (fun c_3 => by exfalso; omega) (fun c_3 => ?_)
  refine lv_iload_n hx hb dX12_of_12 rfl (lv_at hlv 1 rfl) ?_
  refine lv_iconst (v := iI 5) hx hb dX12_of_13 (by decide) ?_
  refine lv_ishl hx hb dX12_of_14 ?_
  refine lt_i (y := iI 14816) (by decide) ?_
  refine lv_aload_n hx hb dX12_of_15 rfl (lv_at hlv 2 rfl) ?_
  refine lv_iload_n hx hb dX12_of_16 rfl (lv_at hlv 0 rfl) ?_
  refine cjr_i [] (fun pre9 => (va_runV (As := [vI 2]) (rest := [vI 14816]) ⟨hx, hb, hml, hown, hts⟩ (s_charAt l hl D cy sa 49 2 H.size (by show (0 : Int) ≤ 49 ∧ (49 : Int) ≤ 55; decide) (by show (0 : Int) ≤ 2 ∧ (2 : Int) ≤ 6; decide) (by omega)) (cwV 1 hts gg_1 rfl rfl rfl (by decide +kernel) ⟨Nat.le_of_ble_eq_true rfl, Nat.le_of_ble_eq_true rfl⟩) ⟨pcW.blind, (wo_recv (WD.tx hT.2.2 (49 : Int).toNat (by omega)).1 hS), pre9⟩ rfl rfl hlv.1 rfl (lv_room (Nat.le_of_ble_eq_true rfl)) dX12_of_17 ⟨Nat.le_of_ble_eq_true rfl, Nat.le_of_ble_eq_true rfl⟩)) hP hD hS hA hG hT [] rfl (by decide +kernel) (fun r6 u6 H locs hw6 hq9 hS => ?_)
  obtain ⟨rfl, hq6_1, hq6_2⟩ := hw6
  obtain ⟨hP, hD⟩ := pd9 [] hq9
  have hev6 : (u6.2.1 0) = 116 := by first | (rw [hq6_2]; rfl) | omega
  refine lt_i (y := iI 116) (by rw [show (u6.2.1 0) = 116 by omega]) ?_
  refine lv_bipush (v := iI 96) hx hb dX12_of_20 (by decide) ?_
  refine lv_isub hx hb dX12_of_22 ?_
  refine lt_i (y := iI 20) (by decide) ?_
  refine lv_ior hx hb dX12_of_23 ?_
  refine lt_i (y := iI 14836) (by decide) ?_
  refine lv_istore_n (lv' := [(1, vI 14836), (2, vI 2), (0, .ref (sn sa 49))]) hx hb dX12_of_24 rfl hlv (by decide) rfl (fun ls hlv => ?_)
  refine lv_iinc (v := iI 3) (lv' := [(2, vI 3), (1, vI 14836), (0, .ref (sn sa 49))]) hx hb dX12_of_25 hlv (k := 1) rfl (by decide) (by decide) rfl (fun ls hlv => ?_)
  refine lv_goto (tgt := 4) hx hb dX12_of_28 (by decide) ?_
  refine lv_iload_n hx hb dX12_of_4 rfl (lv_at hlv 0 rfl) ?_
  refine lv_aload_n hx hb dX12_of_5 rfl (lv_at hlv 2 rfl) ?_
  refine cjr_i [] (fun pre9 => (va_runV (As := []) (rest := [vI 3]) ⟨hx, hb, hml, hown, hts⟩ (s_length l hl D cy sa 49 H.size (by show (0 : Int) ≤ 49 ∧ (49 : Int) ≤ 55; decide)) (cwV 0 hts gg_0 rfl rfl rfl (by decide +kernel) ⟨Nat.le_of_ble_eq_true rfl, Nat.le_of_ble_eq_true rfl⟩) ⟨pcW.blind, (wo_recv (WD.tx hT.2.2 (49 : Int).toNat (by omega)).1 hS), pre9⟩ rfl rfl hlv.1 rfl (lv_room (Nat.le_of_ble_eq_true rfl)) dX12_of_6 ⟨Nat.le_of_ble_eq_true rfl, Nat.le_of_ble_eq_true rfl⟩)) hP hD hS hA hG hT [] rfl (by decide +kernel) (fun r7 u7 H locs hw7 hq9 hS => ?_)
  obtain ⟨rfl, hq7_1, hq7_2⟩ := hw7
  obtain ⟨hP, hD⟩ := pd9 [] hq9
  have hev7 : (u7.2.1 0) = 3 := by first | (rw [hq7_2]; rfl) | omega
  refine lt_i (y := iI 3) (by rw [show (u7.2.1 0) = 3 by omega]) ?_
  refine ir_ge (tgt := 31) hx hb dX12_of_9 (by decide) (by show ((-2147483648) : Int) ≤ 3 ∧ (3 : Int) ≤ 2147483647; decide) (by show ((-2147483648) : Int) ≤ 3 ∧ (3 : Int) ≤ 2147483647; decide) (fun c_4 => ?_) (fun c_4 => by exfalso; omega)
  refine lv_iload_n hx hb dX12_of_31 rfl (lv_at hlv 1 rfl) ?_
  refine W.widen (k := 0) (n := 0) (Nat.le_of_ble_eq_true rfl) (Nat.le_of_ble_eq_true rfl) ?_
  exact W.iret (v := iI 14836) hx hb hr (fun t ht hW => ⟨⟨iI 14836, ((fun k => ([] : List Nat).getD k 0), (fun k => ([14836] : List Int).getD k 0), (fun k => ([] : List (Nat → Int32)).getD k (fun _ => 0))), rfl, ⟨rfl, (by show (14836 ≤ 14836 ∧ 14836 ≤ 14836); show (14836 : Int) ≤ 14836 ∧ (14836 : Int) ≤ 14836; decide)⟩, at9 ht hP hD [] (by decide +kernel) rfl⟩, hS.F ht⟩) hS.2.2 dX12_of_32
def vs_m_of22 : List Cond := .code yX12_of cX12_of 3 (some .int) :: (([] : List Cond) ++ ((wsV RX12 100 RJ0 yJ0_length_8abf5 vs_s_length) ++ ((wsV RX12 105 RJ0 yJ0_charAt_5068e vs_s_charAt) ++ ([]))))
theorem gd_m_of22 : vs_m_of22.all goodWord = true := gd_C (by decide +kernel) (gd_A (by decide +kernel) (gd_A (gd_V gd_s_length (by decide +kernel)) (gd_A (gd_V gd_s_charAt (by decide +kernel)) rfl)))
set_option maxHeartbeats 4000000 in
set_option maxRecDepth 100000 in
theorem m_of22 (l : Launch) (hl : l.stackTraces = false) (D : va_G) (cy : Nat → ClassId) (sa : Nat → Nat)  (sz : Nat) : mI9 l yX12_of vs_m_of22 ({ frames := 4, cells := 0, slots := 0, locals := 85 }) D cy sa sz [.ref (sn sa 50)] [] (fun (r : Int32) (u : SV) => r = iI (u.2.1 0) ∧ (4375176 ≤ u.2.1 0 ∧ u.2.1 0 ≤ 4375176)) (fun u : SV => []) 0 0 := by
  refine Met.ofW (cc := cX12_of) (maxL := 3) (ret := (some .int)) (by decide) rfl ?_
  intro p e s m args below meth c s₁ B hml hv
  obtain ⟨rfl, hsz, hP, hG, hD0, hT⟩ := hv
  have hx := B.exec
  have hb := B.bytes
  have hr := B.returns
  have hts := atoms_spec (ws := vs_m_of22) B.pre
  have hown : s.vm.findClass RX12 = some m.cls := findClass_of_methodNamed B.named
  have hlocks := B.notSynchronized
  subst hsz
  have hD := hD0.self (sz := s.heap.size)
  generalize hAe : va_A [] s.heap.size = A at hD hT ⊢
  have hA : ∀ q : Nat, s.heap.size ≤ q → A q := fun q h => by rw [← hAe]; exact Or.inr h
  have hS : va_S A s.heap s.heap [] := va_S.rf
  have hl0 := lv_entry ([.ref (sn sa 50)]) (n := 3) (Nat.le_of_ble_eq_true rfl)
  rw [lg_entry_eq]
  generalize (lg_sl ([.ref (sn sa 50)]) ++ List.replicate (3 - (lg_sl ([.ref (sn sa 50)])).length) Slot.unset).toArray = ls at hl0 ⊢
  have hlv : lv_has ls 3 [(0, .ref (sn sa 50))] := hl0
  have gg_0 : GoodIn vs_m_of22 (wsV RX12 100 RJ0 yJ0_length_8abf5 vs_s_length) := goodIn_sub (fun w h => List.mem_cons_of_mem _ (List.mem_append_right _ (List.mem_append_left _ h))) (gd_V gd_s_length (by decide +kernel))
  have gg_1 : GoodIn vs_m_of22 (wsV RX12 105 RJ0 yJ0_charAt_5068e vs_s_charAt) := goodIn_sub (fun w h => List.mem_cons_of_mem _ (List.mem_append_right _ (List.mem_append_right _ (List.mem_append_left _ h)))) (gd_V gd_s_charAt (by decide +kernel))
  refine lv_iconst (v := iI 0) hx hb dX12_of_0 (by decide) ?_
  refine lv_istore_n (lv' := [(1, vI 0), (0, .ref (sn sa 50))]) hx hb dX12_of_1 rfl hlv (by decide) rfl (fun ls hlv => ?_)
  refine lv_iconst (v := iI 0) hx hb dX12_of_2 (by decide) ?_
  refine lv_istore_n (lv' := [(2, vI 0), (1, vI 0), (0, .ref (sn sa 50))]) hx hb dX12_of_3 rfl hlv (by decide) rfl (fun ls hlv => ?_)
  refine lv_iload_n hx hb dX12_of_4 rfl (lv_at hlv 0 rfl) ?_
  refine lv_aload_n hx hb dX12_of_5 rfl (lv_at hlv 2 rfl) ?_
  refine cjr_i [] (fun pre9 => (va_runV (As := []) (rest := [vI 0]) ⟨hx, hb, hml, hown, hts⟩ (s_length l hl D cy sa 50 s.heap.size (by show (0 : Int) ≤ 50 ∧ (50 : Int) ≤ 55; decide)) (cwV 0 hts gg_0 rfl rfl rfl (by decide +kernel) ⟨Nat.le_of_ble_eq_true rfl, Nat.le_of_ble_eq_true rfl⟩) ⟨pcW.blind, (wo_recv (WD.tx hT.2.2 (50 : Int).toNat (by omega)).1 hS), pre9⟩ rfl rfl hlv.1 rfl (lv_room (Nat.le_of_ble_eq_true rfl)) dX12_of_6 ⟨Nat.le_of_ble_eq_true rfl, Nat.le_of_ble_eq_true rfl⟩)) hP hD hS hA hG hT [] rfl (by decide +kernel) (fun r1 u1 H locs hw1 hq9 hS => ?_)
  obtain ⟨rfl, hq1_1, hq1_2⟩ := hw1
  obtain ⟨hP, hD⟩ := pd9 [] hq9
  have hev1 : (u1.2.1 0) = 5 := by first | (rw [hq1_2]; rfl) | omega
  refine lt_i (y := iI 5) (by rw [show (u1.2.1 0) = 5 by omega]) ?_
  refine ir_ge (tgt := 31) hx hb dX12_of_9 (by decide) (by show ((-2147483648) : Int) ≤ 0 ∧ (0 : Int) ≤ 2147483647; decide) (by show ((-2147483648) : Int) ≤ 5 ∧ (5 : Int) ≤ 2147483647; decide) (fun c_1 => by exfalso; omega) (fun c_1 => ?_)
  refine lv_iload_n hx hb dX12_of_12 rfl (lv_at hlv 1 rfl) ?_
  refine lv_iconst (v := iI 5) hx hb dX12_of_13 (by decide) ?_
  refine lv_ishl hx hb dX12_of_14 ?_
  refine lt_i (y := iI 0) (by decide) ?_
  refine lv_aload_n hx hb dX12_of_15 rfl (lv_at hlv 2 rfl) ?_
  refine lv_iload_n hx hb dX12_of_16 rfl (lv_at hlv 0 rfl) ?_
  refine cjr_i [] (fun pre9 => (va_runV (As := [vI 0]) (rest := [vI 0]) ⟨hx, hb, hml, hown, hts⟩ (s_charAt l hl D cy sa 50 0 H.size (by show (0 : Int) ≤ 50 ∧ (50 : Int) ≤ 55; decide) (by show (0 : Int) ≤ 0 ∧ (0 : Int) ≤ 6; decide) (by omega)) (cwV 1 hts gg_1 rfl rfl rfl (by decide +kernel) ⟨Nat.le_of_ble_eq_true rfl, Nat.le_of_ble_eq_true rfl⟩) ⟨pcW.blind, (wo_recv (WD.tx hT.2.2 (50 : Int).toNat (by omega)).1 hS), pre9⟩ rfl rfl hlv.1 rfl (lv_room (Nat.le_of_ble_eq_true rfl)) dX12_of_17 ⟨Nat.le_of_ble_eq_true rfl, Nat.le_of_ble_eq_true rfl⟩)) hP hD hS hA hG hT [] rfl (by decide +kernel) (fun r2 u2 H locs hw2 hq9 hS => ?_)
  obtain ⟨rfl, hq2_1, hq2_2⟩ := hw2
  obtain ⟨hP, hD⟩ := pd9 [] hq9
  have hev2 : (u2.2.1 0) = 100 := by first | (rw [hq2_2]; rfl) | omega
  refine lt_i (y := iI 100) (by rw [show (u2.2.1 0) = 100 by omega]) ?_
  refine lv_bipush (v := iI 96) hx hb dX12_of_20 (by decide) ?_
  refine lv_isub hx hb dX12_of_22 ?_
  refine lt_i (y := iI 4) (by decide) ?_
  refine lv_ior hx hb dX12_of_23 ?_
  refine lt_i (y := iI 4) (by decide) ?_
  refine lv_istore_n (lv' := [(1, vI 4), (2, vI 0), (0, .ref (sn sa 50))]) hx hb dX12_of_24 rfl hlv (by decide) rfl (fun ls hlv => ?_)
  refine lv_iinc (v := iI 1) (lv' := [(2, vI 1), (1, vI 4), (0, .ref (sn sa 50))]) hx hb dX12_of_25 hlv (k := 1) rfl (by decide) (by decide) rfl (fun ls hlv => ?_)
  refine lv_goto (tgt := 4) hx hb dX12_of_28 (by decide) ?_
  refine lv_iload_n hx hb dX12_of_4 rfl (lv_at hlv 0 rfl) ?_
  refine lv_aload_n hx hb dX12_of_5 rfl (lv_at hlv 2 rfl) ?_
  refine cjr_i [] (fun pre9 => (va_runV (As := []) (rest := [vI 1]) ⟨hx, hb, hml, hown, hts⟩ (s_length l hl D cy sa 50 H.size (by show (0 : Int) ≤ 50 ∧ (50 : Int) ≤ 55; decide)) (cwV 0 hts gg_0 rfl rfl rfl (by decide +kernel) ⟨Nat.le_of_ble_eq_true rfl, Nat.le_of_ble_eq_true rfl⟩) ⟨pcW.blind, (wo_recv (WD.tx hT.2.2 (50 : Int).toNat (by omega)).1 hS), pre9⟩ rfl rfl hlv.1 rfl (lv_room (Nat.le_of_ble_eq_true rfl)) dX12_of_6 ⟨Nat.le_of_ble_eq_true rfl, Nat.le_of_ble_eq_true rfl⟩)) hP hD hS hA hG hT [] rfl (by decide +kernel) (fun r3 u3 H locs hw3 hq9 hS => ?_)
  obtain ⟨rfl, hq3_1, hq3_2⟩ := hw3
  obtain ⟨hP, hD⟩ := pd9 [] hq9
  have hev3 : (u3.2.1 0) = 5 := by first | (rw [hq3_2]; rfl) | omega
  refine lt_i (y := iI 5) (by rw [show (u3.2.1 0) = 5 by omega]) ?_
  refine ir_ge (tgt := 31) hx hb dX12_of_9 (by decide) (by show ((-2147483648) : Int) ≤ 1 ∧ (1 : Int) ≤ 2147483647; decide) (by show ((-2147483648) : Int) ≤ 5 ∧ (5 : Int) ≤ 2147483647; decide) (fun c_2 => by exfalso; omega) (fun c_2 => ?_)
  refine lv_iload_n hx hb dX12_of_12 rfl (lv_at hlv 1 rfl) ?_
  refine lv_iconst (v := iI 5) hx hb dX12_of_13 (by decide) ?_
  refine lv_ishl hx hb dX12_of_14 ?_
  refine lt_i (y := iI 128) (by decide) ?_
  refine lv_aload_n hx hb dX12_of_15 rfl (lv_at hlv 2 rfl) ?_
  refine lv_iload_n hx hb dX12_of_16 rfl (lv_at hlv 0 rfl) ?_
  refine cjr_i [] (fun pre9 => (va_runV (As := [vI 1]) (rest := [vI 128]) ⟨hx, hb, hml, hown, hts⟩ (s_charAt l hl D cy sa 50 1 H.size (by show (0 : Int) ≤ 50 ∧ (50 : Int) ≤ 55; decide) (by show (0 : Int) ≤ 1 ∧ (1 : Int) ≤ 6; decide) (by omega)) (cwV 1 hts gg_1 rfl rfl rfl (by decide +kernel) ⟨Nat.le_of_ble_eq_true rfl, Nat.le_of_ble_eq_true rfl⟩) ⟨pcW.blind, (wo_recv (WD.tx hT.2.2 (50 : Int).toNat (by omega)).1 hS), pre9⟩ rfl rfl hlv.1 rfl (lv_room (Nat.le_of_ble_eq_true rfl)) dX12_of_17 ⟨Nat.le_of_ble_eq_true rfl, Nat.le_of_ble_eq_true rfl⟩)) hP hD hS hA hG hT [] rfl (by decide +kernel) (fun r4 u4 H locs hw4 hq9 hS => ?_)
  obtain ⟨rfl, hq4_1, hq4_2⟩ := hw4
  obtain ⟨hP, hD⟩ := pd9 [] hq9
  have hev4 : (u4.2.1 0) = 101 := by first | (rw [hq4_2]; rfl) | omega
  refine lt_i (y := iI 101) (by rw [show (u4.2.1 0) = 101 by omega]) ?_
  refine lv_bipush (v := iI 96) hx hb dX12_of_20 (by decide) ?_
  refine lv_isub hx hb dX12_of_22 ?_
  refine lt_i (y := iI 5) (by decide) ?_
  refine lv_ior hx hb dX12_of_23 ?_
  refine lt_i (y := iI 133) (by decide) ?_
  refine lv_istore_n (lv' := [(1, vI 133), (2, vI 1), (0, .ref (sn sa 50))]) hx hb dX12_of_24 rfl hlv (by decide) rfl (fun ls hlv => ?_)
  refine lv_iinc (v := iI 2) (lv' := [(2, vI 2), (1, vI 133), (0, .ref (sn sa 50))]) hx hb dX12_of_25 hlv (k := 1) rfl (by decide) (by decide) rfl (fun ls hlv => ?_)
  refine lv_goto (tgt := 4) hx hb dX12_of_28 (by decide) ?_
  refine lv_iload_n hx hb dX12_of_4 rfl (lv_at hlv 0 rfl) ?_
  refine lv_aload_n hx hb dX12_of_5 rfl (lv_at hlv 2 rfl) ?_
  refine cjr_i [] (fun pre9 => (va_runV (As := []) (rest := [vI 2]) ⟨hx, hb, hml, hown, hts⟩ (s_length l hl D cy sa 50 H.size (by show (0 : Int) ≤ 50 ∧ (50 : Int) ≤ 55; decide)) (cwV 0 hts gg_0 rfl rfl rfl (by decide +kernel) ⟨Nat.le_of_ble_eq_true rfl, Nat.le_of_ble_eq_true rfl⟩) ⟨pcW.blind, (wo_recv (WD.tx hT.2.2 (50 : Int).toNat (by omega)).1 hS), pre9⟩ rfl rfl hlv.1 rfl (lv_room (Nat.le_of_ble_eq_true rfl)) dX12_of_6 ⟨Nat.le_of_ble_eq_true rfl, Nat.le_of_ble_eq_true rfl⟩)) hP hD hS hA hG hT [] rfl (by decide +kernel) (fun r5 u5 H locs hw5 hq9 hS => ?_)
  obtain ⟨rfl, hq5_1, hq5_2⟩ := hw5
  obtain ⟨hP, hD⟩ := pd9 [] hq9
  have hev5 : (u5.2.1 0) = 5 := by first | (rw [hq5_2]; rfl) | omega
  refine lt_i (y := iI 5) (by rw [show (u5.2.1 0) = 5 by omega]) ?_
  refine ir_ge (tgt := 31) hx hb dX12_of_9 (by decide) (by show ((-2147483648) : Int) ≤ 2 ∧ (2 : Int) ≤ 2147483647; decide) (by show ((-2147483648) : Int) ≤ 5 ∧ (5 : Int) ≤ 2147483647; decide) (fun c_3 => by exfalso; omega) (fun c_3 => ?_)
  refine lv_iload_n hx hb dX12_of_12 rfl (lv_at hlv 1 rfl) ?_
  refine lv_iconst (v := iI 5) hx hb dX12_of_13 (by decide) ?_
  refine lv_ishl hx hb dX12_of_14 ?_
  refine lt_i (y := iI 4256) (by decide) ?_
  refine lv_aload_n hx hb dX12_of_15 rfl (lv_at hlv 2 rfl) ?_
  refine lv_iload_n hx hb dX12_of_16 rfl (lv_at hlv 0 rfl) ?_
  refine cjr_i [] (fun pre9 => (va_runV (As := [vI 2]) (rest := [vI 4256]) ⟨hx, hb, hml, hown, hts⟩ (s_charAt l hl D cy sa 50 2 H.size (by show (0 : Int) ≤ 50 ∧ (50 : Int) ≤ 55; decide) (by show (0 : Int) ≤ 2 ∧ (2 : Int) ≤ 6; decide) (by omega)) (cwV 1 hts gg_1 rfl rfl rfl (by decide +kernel) ⟨Nat.le_of_ble_eq_true rfl, Nat.le_of_ble_eq_true rfl⟩) ⟨pcW.blind, (wo_recv (WD.tx hT.2.2 (50 : Int).toNat (by omega)).1 hS), pre9⟩ rfl rfl hlv.1 rfl (lv_room (Nat.le_of_ble_eq_true rfl)) dX12_of_17 ⟨Nat.le_of_ble_eq_true rfl, Nat.le_of_ble_eq_true rfl⟩)) hP hD hS hA hG hT [] rfl (by decide +kernel) (fun r6 u6 H locs hw6 hq9 hS => ?_)
  obtain ⟨rfl, hq6_1, hq6_2⟩ := hw6
  obtain ⟨hP, hD⟩ := pd9 [] hq9
  have hev6 : (u6.2.1 0) = 112 := by first | (rw [hq6_2]; rfl) | omega
  refine lt_i (y := iI 112) (by rw [show (u6.2.1 0) = 112 by omega]) ?_
  refine lv_bipush (v := iI 96) hx hb dX12_of_20 (by decide) ?_
  refine lv_isub hx hb dX12_of_22 ?_
  refine lt_i (y := iI 16) (by decide) ?_
  refine lv_ior hx hb dX12_of_23 ?_
  refine lt_i (y := iI 4272) (by decide) ?_
  refine lv_istore_n (lv' := [(1, vI 4272), (2, vI 2), (0, .ref (sn sa 50))]) hx hb dX12_of_24 rfl hlv (by decide) rfl (fun ls hlv => ?_)
  refine lv_iinc (v := iI 3) (lv' := [(2, vI 3), (1, vI 4272), (0, .ref (sn sa 50))]) hx hb dX12_of_25 hlv (k := 1) rfl (by decide) (by decide) rfl (fun ls hlv => ?_)
  refine lv_goto (tgt := 4) hx hb dX12_of_28 (by decide) ?_
  refine lv_iload_n hx hb dX12_of_4 rfl (lv_at hlv 0 rfl) ?_
  refine lv_aload_n hx hb dX12_of_5 rfl (lv_at hlv 2 rfl) ?_
  refine cjr_i [] (fun pre9 => (va_runV (As := []) (rest := [vI 3]) ⟨hx, hb, hml, hown, hts⟩ (s_length l hl D cy sa 50 H.size (by show (0 : Int) ≤ 50 ∧ (50 : Int) ≤ 55; decide)) (cwV 0 hts gg_0 rfl rfl rfl (by decide +kernel) ⟨Nat.le_of_ble_eq_true rfl, Nat.le_of_ble_eq_true rfl⟩) ⟨pcW.blind, (wo_recv (WD.tx hT.2.2 (50 : Int).toNat (by omega)).1 hS), pre9⟩ rfl rfl hlv.1 rfl (lv_room (Nat.le_of_ble_eq_true rfl)) dX12_of_6 ⟨Nat.le_of_ble_eq_true rfl, Nat.le_of_ble_eq_true rfl⟩)) hP hD hS hA hG hT [] rfl (by decide +kernel) (fun r7 u7 H locs hw7 hq9 hS => ?_)
  obtain ⟨rfl, hq7_1, hq7_2⟩ := hw7
  obtain ⟨hP, hD⟩ := pd9 [] hq9
  have hev7 : (u7.2.1 0) = 5 := by first | (rw [hq7_2]; rfl) | omega
  refine lt_i (y := iI 5) (by rw [show (u7.2.1 0) = 5 by omega]) ?_
  refine ir_ge (tgt := 31) hx hb dX12_of_9 (by decide) (by show ((-2147483648) : Int) ≤ 3 ∧ (3 : Int) ≤ 2147483647; decide) (by show ((-2147483648) : Int) ≤ 5 ∧ (5 : Int) ≤ 2147483647; decide) (fun c_4 => by exfalso; omega) (fun c_4 => ?_)
  refine lv_iload_n hx hb dX12_of_12 rfl (lv_at hlv 1 rfl) ?_
  refine lv_iconst (v := iI 5) hx hb dX12_of_13 (by decide) ?_
  refine lv_ishl hx hb dX12_of_14 ?_
  refine lt_i (y := iI 136704) (by decide) ?_
  refine lv_aload_n hx hb dX12_of_15 rfl (lv_at hlv 2 rfl) ?_
  refine lv_iload_n hx hb dX12_of_16 rfl (lv_at hlv 0 rfl) ?_
  refine cjr_i [] (fun pre9 => (va_runV (As := [vI 3]) (rest := [vI 136704]) ⟨hx, hb, hml, hown, hts⟩ (s_charAt l hl D cy sa 50 3 H.size (by show (0 : Int) ≤ 50 ∧ (50 : Int) ≤ 55; decide) (by show (0 : Int) ≤ 3 ∧ (3 : Int) ≤ 6; decide) (by omega)) (cwV 1 hts gg_1 rfl rfl rfl (by decide +kernel) ⟨Nat.le_of_ble_eq_true rfl, Nat.le_of_ble_eq_true rfl⟩) ⟨pcW.blind, (wo_recv (WD.tx hT.2.2 (50 : Int).toNat (by omega)).1 hS), pre9⟩ rfl rfl hlv.1 rfl (lv_room (Nat.le_of_ble_eq_true rfl)) dX12_of_17 ⟨Nat.le_of_ble_eq_true rfl, Nat.le_of_ble_eq_true rfl⟩)) hP hD hS hA hG hT [] rfl (by decide +kernel) (fun r8 u8 H locs hw8 hq9 hS => ?_)
  obtain ⟨rfl, hq8_1, hq8_2⟩ := hw8
  obtain ⟨hP, hD⟩ := pd9 [] hq9
  have hev8 : (u8.2.1 0) = 116 := by first | (rw [hq8_2]; rfl) | omega
  refine lt_i (y := iI 116) (by rw [show (u8.2.1 0) = 116 by omega]) ?_
  refine lv_bipush (v := iI 96) hx hb dX12_of_20 (by decide) ?_
  refine lv_isub hx hb dX12_of_22 ?_
  refine lt_i (y := iI 20) (by decide) ?_
  refine lv_ior hx hb dX12_of_23 ?_
  refine lt_i (y := iI 136724) (by decide) ?_
  refine lv_istore_n (lv' := [(1, vI 136724), (2, vI 3), (0, .ref (sn sa 50))]) hx hb dX12_of_24 rfl hlv (by decide) rfl (fun ls hlv => ?_)
  refine lv_iinc (v := iI 4) (lv' := [(2, vI 4), (1, vI 136724), (0, .ref (sn sa 50))]) hx hb dX12_of_25 hlv (k := 1) rfl (by decide) (by decide) rfl (fun ls hlv => ?_)
  refine lv_goto (tgt := 4) hx hb dX12_of_28 (by decide) ?_
  refine lv_iload_n hx hb dX12_of_4 rfl (lv_at hlv 0 rfl) ?_
  refine lv_aload_n hx hb dX12_of_5 rfl (lv_at hlv 2 rfl) ?_
  refine cjr_i [] (fun pre9 => (va_runV (As := []) (rest := [vI 4]) ⟨hx, hb, hml, hown, hts⟩ (s_length l hl D cy sa 50 H.size (by show (0 : Int) ≤ 50 ∧ (50 : Int) ≤ 55; decide)) (cwV 0 hts gg_0 rfl rfl rfl (by decide +kernel) ⟨Nat.le_of_ble_eq_true rfl, Nat.le_of_ble_eq_true rfl⟩) ⟨pcW.blind, (wo_recv (WD.tx hT.2.2 (50 : Int).toNat (by omega)).1 hS), pre9⟩ rfl rfl hlv.1 rfl (lv_room (Nat.le_of_ble_eq_true rfl)) dX12_of_6 ⟨Nat.le_of_ble_eq_true rfl, Nat.le_of_ble_eq_true rfl⟩)) hP hD hS hA hG hT [] rfl (by decide +kernel) (fun r9 u9 H locs hw9 hq9 hS => ?_)
  obtain ⟨rfl, hq9_1, hq9_2⟩ := hw9
  obtain ⟨hP, hD⟩ := pd9 [] hq9
  have hev9 : (u9.2.1 0) = 5 := by first | (rw [hq9_2]; rfl) | omega
  refine lt_i (y := iI 5) (by rw [show (u9.2.1 0) = 5 by omega]) ?_
  refine ir_ge (tgt := 31) hx hb dX12_of_9 (by decide) (by show ((-2147483648) : Int) ≤ 4 ∧ (4 : Int) ≤ 2147483647; decide) (by show ((-2147483648) : Int) ≤ 5 ∧ (5 : Int) ≤ 2147483647; decide) (fun c_5 => by exfalso; omega) (fun c_5 => ?_)
  refine lv_iload_n hx hb dX12_of_12 rfl (lv_at hlv 1 rfl) ?_
  refine lv_iconst (v := iI 5) hx hb dX12_of_13 (by decide) ?_
  refine lv_ishl hx hb dX12_of_14 ?_
  refine lt_i (y := iI 4375168) (by decide) ?_
  refine lv_aload_n hx hb dX12_of_15 rfl (lv_at hlv 2 rfl) ?_
  refine lv_iload_n hx hb dX12_of_16 rfl (lv_at hlv 0 rfl) ?_
  refine cjr_i [] (fun pre9 => (va_runV (As := [vI 4]) (rest := [vI 4375168]) ⟨hx, hb, hml, hown, hts⟩ (s_charAt l hl D cy sa 50 4 H.size (by show (0 : Int) ≤ 50 ∧ (50 : Int) ≤ 55; decide) (by show (0 : Int) ≤ 4 ∧ (4 : Int) ≤ 6; decide) (by omega)) (cwV 1 hts gg_1 rfl rfl rfl (by decide +kernel) ⟨Nat.le_of_ble_eq_true rfl, Nat.le_of_ble_eq_true rfl⟩) ⟨pcW.blind, (wo_recv (WD.tx hT.2.2 (50 : Int).toNat (by omega)).1 hS), pre9⟩ rfl rfl hlv.1 rfl (lv_room (Nat.le_of_ble_eq_true rfl)) dX12_of_17 ⟨Nat.le_of_ble_eq_true rfl, Nat.le_of_ble_eq_true rfl⟩)) hP hD hS hA hG hT [] rfl (by decide +kernel) (fun r10 u10 H locs hw10 hq9 hS => ?_)
  obtain ⟨rfl, hq10_1, hq10_2⟩ := hw10
  obtain ⟨hP, hD⟩ := pd9 [] hq9
  have hev10 : (u10.2.1 0) = 104 := by first | (rw [hq10_2]; rfl) | omega
  refine lt_i (y := iI 104) (by rw [show (u10.2.1 0) = 104 by omega]) ?_
  refine lv_bipush (v := iI 96) hx hb dX12_of_20 (by decide) ?_
  refine lv_isub hx hb dX12_of_22 ?_
  refine lt_i (y := iI 8) (by decide) ?_
  refine lv_ior hx hb dX12_of_23 ?_
  refine lt_i (y := iI 4375176) (by decide) ?_
  refine lv_istore_n (lv' := [(1, vI 4375176), (2, vI 4), (0, .ref (sn sa 50))]) hx hb dX12_of_24 rfl hlv (by decide) rfl (fun ls hlv => ?_)
  refine lv_iinc (v := iI 5) (lv' := [(2, vI 5), (1, vI 4375176), (0, .ref (sn sa 50))]) hx hb dX12_of_25 hlv (k := 1) rfl (by decide) (by decide) rfl (fun ls hlv => ?_)
  refine lv_goto (tgt := 4) hx hb dX12_of_28 (by decide) ?_
  refine lv_iload_n hx hb dX12_of_4 rfl (lv_at hlv 0 rfl) ?_
  refine lv_aload_n hx hb dX12_of_5 rfl (lv_at hlv 2 rfl) ?_
  refine cjr_i [] (fun pre9 => (va_runV (As := []) (rest := [vI 5]) ⟨hx, hb, hml, hown, hts⟩ (s_length l hl D cy sa 50 H.size (by show (0 : Int) ≤ 50 ∧ (50 : Int) ≤ 55; decide)) (cwV 0 hts gg_0 rfl rfl rfl (by decide +kernel) ⟨Nat.le_of_ble_eq_true rfl, Nat.le_of_ble_eq_true rfl⟩) ⟨pcW.blind, (wo_recv (WD.tx hT.2.2 (50 : Int).toNat (by omega)).1 hS), pre9⟩ rfl rfl hlv.1 rfl (lv_room (Nat.le_of_ble_eq_true rfl)) dX12_of_6 ⟨Nat.le_of_ble_eq_true rfl, Nat.le_of_ble_eq_true rfl⟩)) hP hD hS hA hG hT [] rfl (by decide +kernel) (fun r11 u11 H locs hw11 hq9 hS => ?_)
  obtain ⟨rfl, hq11_1, hq11_2⟩ := hw11
  obtain ⟨hP, hD⟩ := pd9 [] hq9
  have hev11 : (u11.2.1 0) = 5 := by first | (rw [hq11_2]; rfl) | omega
  refine lt_i (y := iI 5) (by rw [show (u11.2.1 0) = 5 by omega]) ?_
  refine ir_ge (tgt := 31) hx hb dX12_of_9 (by decide) (by show ((-2147483648) : Int) ≤ 5 ∧ (5 : Int) ≤ 2147483647; decide) (by show ((-2147483648) : Int) ≤ 5 ∧ (5 : Int) ≤ 2147483647; decide) (fun c_6 => ?_) (fun c_6 => by exfalso; omega)
  refine lv_iload_n hx hb dX12_of_31 rfl (lv_at hlv 1 rfl) ?_
  refine W.widen (k := 0) (n := 0) (Nat.le_of_ble_eq_true rfl) (Nat.le_of_ble_eq_true rfl) ?_
  exact W.iret (v := iI 4375176) hx hb hr (fun t ht hW => ⟨⟨iI 4375176, ((fun k => ([] : List Nat).getD k 0), (fun k => ([4375176] : List Int).getD k 0), (fun k => ([] : List (Nat → Int32)).getD k (fun _ => 0))), rfl, ⟨rfl, (by show (4375176 ≤ 4375176 ∧ 4375176 ≤ 4375176); show (4375176 : Int) ≤ 4375176 ∧ (4375176 : Int) ≤ 4375176; decide)⟩, at9 ht hP hD [] (by decide +kernel) rfl⟩, hS.F ht⟩) hS.2.2 dX12_of_32
def vs_m_of23 : List Cond := .code yX12_of cX12_of 3 (some .int) :: (([] : List Cond) ++ ((wsV RX12 100 RJ0 yJ0_length_8abf5 vs_s_length) ++ ((wsV RX12 105 RJ0 yJ0_charAt_5068e vs_s_charAt) ++ ([]))))
theorem gd_m_of23 : vs_m_of23.all goodWord = true := gd_C (by decide +kernel) (gd_A (by decide +kernel) (gd_A (gd_V gd_s_length (by decide +kernel)) (gd_A (gd_V gd_s_charAt (by decide +kernel)) rfl)))
set_option maxHeartbeats 4000000 in
set_option maxRecDepth 100000 in
theorem m_of23 (l : Launch) (hl : l.stackTraces = false) (D : va_G) (cy : Nat → ClassId) (sa : Nat → Nat)  (sz : Nat) : mI9 l yX12_of vs_m_of23 ({ frames := 4, cells := 0, slots := 0, locals := 85 }) D cy sa sz [.ref (sn sa 51)] [] (fun (r : Int32) (u : SV) => r = iI (u.2.1 0) ∧ (525413 ≤ u.2.1 0 ∧ u.2.1 0 ≤ 525413)) (fun u : SV => []) 0 0 := by
  refine Met.ofW (cc := cX12_of) (maxL := 3) (ret := (some .int)) (by decide) rfl ?_
  intro p e s m args below meth c s₁ B hml hv
  obtain ⟨rfl, hsz, hP, hG, hD0, hT⟩ := hv
  have hx := B.exec
  have hb := B.bytes
  have hr := B.returns
  have hts := atoms_spec (ws := vs_m_of23) B.pre
  have hown : s.vm.findClass RX12 = some m.cls := findClass_of_methodNamed B.named
  have hlocks := B.notSynchronized
  subst hsz
  have hD := hD0.self (sz := s.heap.size)
  generalize hAe : va_A [] s.heap.size = A at hD hT ⊢
  have hA : ∀ q : Nat, s.heap.size ≤ q → A q := fun q h => by rw [← hAe]; exact Or.inr h
  have hS : va_S A s.heap s.heap [] := va_S.rf
  have hl0 := lv_entry ([.ref (sn sa 51)]) (n := 3) (Nat.le_of_ble_eq_true rfl)
  rw [lg_entry_eq]
  generalize (lg_sl ([.ref (sn sa 51)]) ++ List.replicate (3 - (lg_sl ([.ref (sn sa 51)])).length) Slot.unset).toArray = ls at hl0 ⊢
  have hlv : lv_has ls 3 [(0, .ref (sn sa 51))] := hl0
  have gg_0 : GoodIn vs_m_of23 (wsV RX12 100 RJ0 yJ0_length_8abf5 vs_s_length) := goodIn_sub (fun w h => List.mem_cons_of_mem _ (List.mem_append_right _ (List.mem_append_left _ h))) (gd_V gd_s_length (by decide +kernel))
  have gg_1 : GoodIn vs_m_of23 (wsV RX12 105 RJ0 yJ0_charAt_5068e vs_s_charAt) := goodIn_sub (fun w h => List.mem_cons_of_mem _ (List.mem_append_right _ (List.mem_append_right _ (List.mem_append_left _ h)))) (gd_V gd_s_charAt (by decide +kernel))
  refine lv_iconst (v := iI 0) hx hb dX12_of_0 (by decide) ?_
  refine lv_istore_n (lv' := [(1, vI 0), (0, .ref (sn sa 51))]) hx hb dX12_of_1 rfl hlv (by decide) rfl (fun ls hlv => ?_)
  refine lv_iconst (v := iI 0) hx hb dX12_of_2 (by decide) ?_
  refine lv_istore_n (lv' := [(2, vI 0), (1, vI 0), (0, .ref (sn sa 51))]) hx hb dX12_of_3 rfl hlv (by decide) rfl (fun ls hlv => ?_)
  refine lv_iload_n hx hb dX12_of_4 rfl (lv_at hlv 0 rfl) ?_
  refine lv_aload_n hx hb dX12_of_5 rfl (lv_at hlv 2 rfl) ?_
  refine cjr_i [] (fun pre9 => (va_runV (As := []) (rest := [vI 0]) ⟨hx, hb, hml, hown, hts⟩ (s_length l hl D cy sa 51 s.heap.size (by show (0 : Int) ≤ 51 ∧ (51 : Int) ≤ 55; decide)) (cwV 0 hts gg_0 rfl rfl rfl (by decide +kernel) ⟨Nat.le_of_ble_eq_true rfl, Nat.le_of_ble_eq_true rfl⟩) ⟨pcW.blind, (wo_recv (WD.tx hT.2.2 (51 : Int).toNat (by omega)).1 hS), pre9⟩ rfl rfl hlv.1 rfl (lv_room (Nat.le_of_ble_eq_true rfl)) dX12_of_6 ⟨Nat.le_of_ble_eq_true rfl, Nat.le_of_ble_eq_true rfl⟩)) hP hD hS hA hG hT [] rfl (by decide +kernel) (fun r1 u1 H locs hw1 hq9 hS => ?_)
  obtain ⟨rfl, hq1_1, hq1_2⟩ := hw1
  obtain ⟨hP, hD⟩ := pd9 [] hq9
  have hev1 : (u1.2.1 0) = 4 := by first | (rw [hq1_2]; rfl) | omega
  refine lt_i (y := iI 4) (by rw [show (u1.2.1 0) = 4 by omega]) ?_
  refine ir_ge (tgt := 31) hx hb dX12_of_9 (by decide) (by show ((-2147483648) : Int) ≤ 0 ∧ (0 : Int) ≤ 2147483647; decide) (by show ((-2147483648) : Int) ≤ 4 ∧ (4 : Int) ≤ 2147483647; decide) (fun c_1 => by exfalso; omega) (fun c_1 => ?_)
  refine lv_iload_n hx hb dX12_of_12 rfl (lv_at hlv 1 rfl) ?_
  refine lv_iconst (v := iI 5) hx hb dX12_of_13 (by decide) ?_
  refine lv_ishl hx hb dX12_of_14 ?_
  refine lt_i (y := iI 0) (by decide) ?_
  refine lv_aload_n hx hb dX12_of_15 rfl (lv_at hlv 2 rfl) ?_
  refine lv_iload_n hx hb dX12_of_16 rfl (lv_at hlv 0 rfl) ?_
  refine cjr_i [] (fun pre9 => (va_runV (As := [vI 0]) (rest := [vI 0]) ⟨hx, hb, hml, hown, hts⟩ (s_charAt l hl D cy sa 51 0 H.size (by show (0 : Int) ≤ 51 ∧ (51 : Int) ≤ 55; decide) (by show (0 : Int) ≤ 0 ∧ (0 : Int) ≤ 6; decide) (by omega)) (cwV 1 hts gg_1 rfl rfl rfl (by decide +kernel) ⟨Nat.le_of_ble_eq_true rfl, Nat.le_of_ble_eq_true rfl⟩) ⟨pcW.blind, (wo_recv (WD.tx hT.2.2 (51 : Int).toNat (by omega)).1 hS), pre9⟩ rfl rfl hlv.1 rfl (lv_room (Nat.le_of_ble_eq_true rfl)) dX12_of_17 ⟨Nat.le_of_ble_eq_true rfl, Nat.le_of_ble_eq_true rfl⟩)) hP hD hS hA hG hT [] rfl (by decide +kernel) (fun r2 u2 H locs hw2 hq9 hS => ?_)
  obtain ⟨rfl, hq2_1, hq2_2⟩ := hw2
  obtain ⟨hP, hD⟩ := pd9 [] hq9
  have hev2 : (u2.2.1 0) = 112 := by first | (rw [hq2_2]; rfl) | omega
  refine lt_i (y := iI 112) (by rw [show (u2.2.1 0) = 112 by omega]) ?_
  refine lv_bipush (v := iI 96) hx hb dX12_of_20 (by decide) ?_
  refine lv_isub hx hb dX12_of_22 ?_
  refine lt_i (y := iI 16) (by decide) ?_
  refine lv_ior hx hb dX12_of_23 ?_
  refine lt_i (y := iI 16) (by decide) ?_
  refine lv_istore_n (lv' := [(1, vI 16), (2, vI 0), (0, .ref (sn sa 51))]) hx hb dX12_of_24 rfl hlv (by decide) rfl (fun ls hlv => ?_)
  refine lv_iinc (v := iI 1) (lv' := [(2, vI 1), (1, vI 16), (0, .ref (sn sa 51))]) hx hb dX12_of_25 hlv (k := 1) rfl (by decide) (by decide) rfl (fun ls hlv => ?_)
  refine lv_goto (tgt := 4) hx hb dX12_of_28 (by decide) ?_
  refine lv_iload_n hx hb dX12_of_4 rfl (lv_at hlv 0 rfl) ?_
  refine lv_aload_n hx hb dX12_of_5 rfl (lv_at hlv 2 rfl) ?_
  refine cjr_i [] (fun pre9 => (va_runV (As := []) (rest := [vI 1]) ⟨hx, hb, hml, hown, hts⟩ (s_length l hl D cy sa 51 H.size (by show (0 : Int) ≤ 51 ∧ (51 : Int) ≤ 55; decide)) (cwV 0 hts gg_0 rfl rfl rfl (by decide +kernel) ⟨Nat.le_of_ble_eq_true rfl, Nat.le_of_ble_eq_true rfl⟩) ⟨pcW.blind, (wo_recv (WD.tx hT.2.2 (51 : Int).toNat (by omega)).1 hS), pre9⟩ rfl rfl hlv.1 rfl (lv_room (Nat.le_of_ble_eq_true rfl)) dX12_of_6 ⟨Nat.le_of_ble_eq_true rfl, Nat.le_of_ble_eq_true rfl⟩)) hP hD hS hA hG hT [] rfl (by decide +kernel) (fun r3 u3 H locs hw3 hq9 hS => ?_)
  obtain ⟨rfl, hq3_1, hq3_2⟩ := hw3
  obtain ⟨hP, hD⟩ := pd9 [] hq9
  have hev3 : (u3.2.1 0) = 4 := by first | (rw [hq3_2]; rfl) | omega
  refine lt_i (y := iI 4) (by rw [show (u3.2.1 0) = 4 by omega]) ?_
  refine ir_ge (tgt := 31) hx hb dX12_of_9 (by decide) (by show ((-2147483648) : Int) ≤ 1 ∧ (1 : Int) ≤ 2147483647; decide) (by show ((-2147483648) : Int) ≤ 4 ∧ (4 : Int) ≤ 2147483647; decide) (fun c_2 => by exfalso; omega) (fun c_2 => ?_)
  refine lv_iload_n hx hb dX12_of_12 rfl (lv_at hlv 1 rfl) ?_
  refine lv_iconst (v := iI 5) hx hb dX12_of_13 (by decide) ?_
  refine lv_ishl hx hb dX12_of_14 ?_
  refine lt_i (y := iI 512) (by decide) ?_
  refine lv_aload_n hx hb dX12_of_15 rfl (lv_at hlv 2 rfl) ?_
  refine lv_iload_n hx hb dX12_of_16 rfl (lv_at hlv 0 rfl) ?_
  refine cjr_i [] (fun pre9 => (va_runV (As := [vI 1]) (rest := [vI 512]) ⟨hx, hb, hml, hown, hts⟩ (s_charAt l hl D cy sa 51 1 H.size (by show (0 : Int) ≤ 51 ∧ (51 : Int) ≤ 55; decide) (by show (0 : Int) ≤ 1 ∧ (1 : Int) ≤ 6; decide) (by omega)) (cwV 1 hts gg_1 rfl rfl rfl (by decide +kernel) ⟨Nat.le_of_ble_eq_true rfl, Nat.le_of_ble_eq_true rfl⟩) ⟨pcW.blind, (wo_recv (WD.tx hT.2.2 (51 : Int).toNat (by omega)).1 hS), pre9⟩ rfl rfl hlv.1 rfl (lv_room (Nat.le_of_ble_eq_true rfl)) dX12_of_17 ⟨Nat.le_of_ble_eq_true rfl, Nat.le_of_ble_eq_true rfl⟩)) hP hD hS hA hG hT [] rfl (by decide +kernel) (fun r4 u4 H locs hw4 hq9 hS => ?_)
  obtain ⟨rfl, hq4_1, hq4_2⟩ := hw4
  obtain ⟨hP, hD⟩ := pd9 [] hq9
  have hev4 : (u4.2.1 0) = 97 := by first | (rw [hq4_2]; rfl) | omega
  refine lt_i (y := iI 97) (by rw [show (u4.2.1 0) = 97 by omega]) ?_
  refine lv_bipush (v := iI 96) hx hb dX12_of_20 (by decide) ?_
  refine lv_isub hx hb dX12_of_22 ?_
  refine lt_i (y := iI 1) (by decide) ?_
  refine lv_ior hx hb dX12_of_23 ?_
  refine lt_i (y := iI 513) (by decide) ?_
  refine lv_istore_n (lv' := [(1, vI 513), (2, vI 1), (0, .ref (sn sa 51))]) hx hb dX12_of_24 rfl hlv (by decide) rfl (fun ls hlv => ?_)
  refine lv_iinc (v := iI 2) (lv' := [(2, vI 2), (1, vI 513), (0, .ref (sn sa 51))]) hx hb dX12_of_25 hlv (k := 1) rfl (by decide) (by decide) rfl (fun ls hlv => ?_)
  refine lv_goto (tgt := 4) hx hb dX12_of_28 (by decide) ?_
  refine lv_iload_n hx hb dX12_of_4 rfl (lv_at hlv 0 rfl) ?_
  refine lv_aload_n hx hb dX12_of_5 rfl (lv_at hlv 2 rfl) ?_
  refine cjr_i [] (fun pre9 => (va_runV (As := []) (rest := [vI 2]) ⟨hx, hb, hml, hown, hts⟩ (s_length l hl D cy sa 51 H.size (by show (0 : Int) ≤ 51 ∧ (51 : Int) ≤ 55; decide)) (cwV 0 hts gg_0 rfl rfl rfl (by decide +kernel) ⟨Nat.le_of_ble_eq_true rfl, Nat.le_of_ble_eq_true rfl⟩) ⟨pcW.blind, (wo_recv (WD.tx hT.2.2 (51 : Int).toNat (by omega)).1 hS), pre9⟩ rfl rfl hlv.1 rfl (lv_room (Nat.le_of_ble_eq_true rfl)) dX12_of_6 ⟨Nat.le_of_ble_eq_true rfl, Nat.le_of_ble_eq_true rfl⟩)) hP hD hS hA hG hT [] rfl (by decide +kernel) (fun r5 u5 H locs hw5 hq9 hS => ?_)
  obtain ⟨rfl, hq5_1, hq5_2⟩ := hw5
  obtain ⟨hP, hD⟩ := pd9 [] hq9
  have hev5 : (u5.2.1 0) = 4 := by first | (rw [hq5_2]; rfl) | omega
  refine lt_i (y := iI 4) (by rw [show (u5.2.1 0) = 4 by omega]) ?_
  refine ir_ge (tgt := 31) hx hb dX12_of_9 (by decide) (by show ((-2147483648) : Int) ≤ 2 ∧ (2 : Int) ≤ 2147483647; decide) (by show ((-2147483648) : Int) ≤ 4 ∧ (4 : Int) ≤ 2147483647; decide) (fun c_3 => by exfalso; omega) (fun c_3 => ?_)
  refine lv_iload_n hx hb dX12_of_12 rfl (lv_at hlv 1 rfl) ?_
  refine lv_iconst (v := iI 5) hx hb dX12_of_13 (by decide) ?_
  refine lv_ishl hx hb dX12_of_14 ?_
  refine lt_i (y := iI 16416) (by decide) ?_
  refine lv_aload_n hx hb dX12_of_15 rfl (lv_at hlv 2 rfl) ?_
  refine lv_iload_n hx hb dX12_of_16 rfl (lv_at hlv 0 rfl) ?_
  refine cjr_i [] (fun pre9 => (va_runV (As := [vI 2]) (rest := [vI 16416]) ⟨hx, hb, hml, hown, hts⟩ (s_charAt l hl D cy sa 51 2 H.size (by show (0 : Int) ≤ 51 ∧ (51 : Int) ≤ 55; decide) (by show (0 : Int) ≤ 2 ∧ (2 : Int) ≤ 6; decide) (by omega)) (cwV 1 hts gg_1 rfl rfl rfl (by decide +kernel) ⟨Nat.le_of_ble_eq_true rfl, Nat.le_of_ble_eq_true rfl⟩) ⟨pcW.blind, (wo_recv (WD.tx hT.2.2 (51 : Int).toNat (by omega)).1 hS), pre9⟩ rfl rfl hlv.1 rfl (lv_room (Nat.le_of_ble_eq_true rfl)) dX12_of_17 ⟨Nat.le_of_ble_eq_true rfl, Nat.le_of_ble_eq_true rfl⟩)) hP hD hS hA hG hT [] rfl (by decide +kernel) (fun r6 u6 H locs hw6 hq9 hS => ?_)
  obtain ⟨rfl, hq6_1, hq6_2⟩ := hw6
  obtain ⟨hP, hD⟩ := pd9 [] hq9
  have hev6 : (u6.2.1 0) = 99 := by first | (rw [hq6_2]; rfl) | omega
  refine lt_i (y := iI 99) (by rw [show (u6.2.1 0) = 99 by omega]) ?_
  refine lv_bipush (v := iI 96) hx hb dX12_of_20 (by decide) ?_
  refine lv_isub hx hb dX12_of_22 ?_
  refine lt_i (y := iI 3) (by decide) ?_
  refine lv_ior hx hb dX12_of_23 ?_
  refine lt_i (y := iI 16419) (by decide) ?_
  refine lv_istore_n (lv' := [(1, vI 16419), (2, vI 2), (0, .ref (sn sa 51))]) hx hb dX12_of_24 rfl hlv (by decide) rfl (fun ls hlv => ?_)
  refine lv_iinc (v := iI 3) (lv' := [(2, vI 3), (1, vI 16419), (0, .ref (sn sa 51))]) hx hb dX12_of_25 hlv (k := 1) rfl (by decide) (by decide) rfl (fun ls hlv => ?_)
  refine lv_goto (tgt := 4) hx hb dX12_of_28 (by decide) ?_
  refine lv_iload_n hx hb dX12_of_4 rfl (lv_at hlv 0 rfl) ?_
  refine lv_aload_n hx hb dX12_of_5 rfl (lv_at hlv 2 rfl) ?_
  refine cjr_i [] (fun pre9 => (va_runV (As := []) (rest := [vI 3]) ⟨hx, hb, hml, hown, hts⟩ (s_length l hl D cy sa 51 H.size (by show (0 : Int) ≤ 51 ∧ (51 : Int) ≤ 55; decide)) (cwV 0 hts gg_0 rfl rfl rfl (by decide +kernel) ⟨Nat.le_of_ble_eq_true rfl, Nat.le_of_ble_eq_true rfl⟩) ⟨pcW.blind, (wo_recv (WD.tx hT.2.2 (51 : Int).toNat (by omega)).1 hS), pre9⟩ rfl rfl hlv.1 rfl (lv_room (Nat.le_of_ble_eq_true rfl)) dX12_of_6 ⟨Nat.le_of_ble_eq_true rfl, Nat.le_of_ble_eq_true rfl⟩)) hP hD hS hA hG hT [] rfl (by decide +kernel) (fun r7 u7 H locs hw7 hq9 hS => ?_)
  obtain ⟨rfl, hq7_1, hq7_2⟩ := hw7
  obtain ⟨hP, hD⟩ := pd9 [] hq9
  have hev7 : (u7.2.1 0) = 4 := by first | (rw [hq7_2]; rfl) | omega
  refine lt_i (y := iI 4) (by rw [show (u7.2.1 0) = 4 by omega]) ?_
  refine ir_ge (tgt := 31) hx hb dX12_of_9 (by decide) (by show ((-2147483648) : Int) ≤ 3 ∧ (3 : Int) ≤ 2147483647; decide) (by show ((-2147483648) : Int) ≤ 4 ∧ (4 : Int) ≤ 2147483647; decide) (fun c_4 => by exfalso; omega) (fun c_4 => ?_)
  refine lv_iload_n hx hb dX12_of_12 rfl (lv_at hlv 1 rfl) ?_
  refine lv_iconst (v := iI 5) hx hb dX12_of_13 (by decide) ?_
  refine lv_ishl hx hb dX12_of_14 ?_
  refine lt_i (y := iI 525408) (by decide) ?_
  refine lv_aload_n hx hb dX12_of_15 rfl (lv_at hlv 2 rfl) ?_
  refine lv_iload_n hx hb dX12_of_16 rfl (lv_at hlv 0 rfl) ?_
  refine cjr_i [] (fun pre9 => (va_runV (As := [vI 3]) (rest := [vI 525408]) ⟨hx, hb, hml, hown, hts⟩ (s_charAt l hl D cy sa 51 3 H.size (by show (0 : Int) ≤ 51 ∧ (51 : Int) ≤ 55; decide) (by show (0 : Int) ≤ 3 ∧ (3 : Int) ≤ 6; decide) (by omega)) (cwV 1 hts gg_1 rfl rfl rfl (by decide +kernel) ⟨Nat.le_of_ble_eq_true rfl, Nat.le_of_ble_eq_true rfl⟩) ⟨pcW.blind, (wo_recv (WD.tx hT.2.2 (51 : Int).toNat (by omega)).1 hS), pre9⟩ rfl rfl hlv.1 rfl (lv_room (Nat.le_of_ble_eq_true rfl)) dX12_of_17 ⟨Nat.le_of_ble_eq_true rfl, Nat.le_of_ble_eq_true rfl⟩)) hP hD hS hA hG hT [] rfl (by decide +kernel) (fun r8 u8 H locs hw8 hq9 hS => ?_)
  obtain ⟨rfl, hq8_1, hq8_2⟩ := hw8
  obtain ⟨hP, hD⟩ := pd9 [] hq9
  have hev8 : (u8.2.1 0) = 101 := by first | (rw [hq8_2]; rfl) | omega
  refine lt_i (y := iI 101) (by rw [show (u8.2.1 0) = 101 by omega]) ?_
  refine lv_bipush (v := iI 96) hx hb dX12_of_20 (by decide) ?_
  refine lv_isub hx hb dX12_of_22 ?_
  refine lt_i (y := iI 5) (by decide) ?_
  refine lv_ior hx hb dX12_of_23 ?_
  refine lt_i (y := iI 525413) (by decide) ?_
  refine lv_istore_n (lv' := [(1, vI 525413), (2, vI 3), (0, .ref (sn sa 51))]) hx hb dX12_of_24 rfl hlv (by decide) rfl (fun ls hlv => ?_)
  refine lv_iinc (v := iI 4) (lv' := [(2, vI 4), (1, vI 525413), (0, .ref (sn sa 51))]) hx hb dX12_of_25 hlv (k := 1) rfl (by decide) (by decide) rfl (fun ls hlv => ?_)
  refine lv_goto (tgt := 4) hx hb dX12_of_28 (by decide) ?_
  refine lv_iload_n hx hb dX12_of_4 rfl (lv_at hlv 0 rfl) ?_
  refine lv_aload_n hx hb dX12_of_5 rfl (lv_at hlv 2 rfl) ?_
  refine cjr_i [] (fun pre9 => (va_runV (As := []) (rest := [vI 4]) ⟨hx, hb, hml, hown, hts⟩ (s_length l hl D cy sa 51 H.size (by show (0 : Int) ≤ 51 ∧ (51 : Int) ≤ 55; decide)) (cwV 0 hts gg_0 rfl rfl rfl (by decide +kernel) ⟨Nat.le_of_ble_eq_true rfl, Nat.le_of_ble_eq_true rfl⟩) ⟨pcW.blind, (wo_recv (WD.tx hT.2.2 (51 : Int).toNat (by omega)).1 hS), pre9⟩ rfl rfl hlv.1 rfl (lv_room (Nat.le_of_ble_eq_true rfl)) dX12_of_6 ⟨Nat.le_of_ble_eq_true rfl, Nat.le_of_ble_eq_true rfl⟩)) hP hD hS hA hG hT [] rfl (by decide +kernel) (fun r9 u9 H locs hw9 hq9 hS => ?_)
  obtain ⟨rfl, hq9_1, hq9_2⟩ := hw9
  obtain ⟨hP, hD⟩ := pd9 [] hq9
  have hev9 : (u9.2.1 0) = 4 := by first | (rw [hq9_2]; rfl) | omega
  refine lt_i (y := iI 4) (by rw [show (u9.2.1 0) = 4 by omega]) ?_
  refine ir_ge (tgt := 31) hx hb dX12_of_9 (by decide) (by show ((-2147483648) : Int) ≤ 4 ∧ (4 : Int) ≤ 2147483647; decide) (by show ((-2147483648) : Int) ≤ 4 ∧ (4 : Int) ≤ 2147483647; decide) (fun c_5 => ?_) (fun c_5 => by exfalso; omega)
  refine lv_iload_n hx hb dX12_of_31 rfl (lv_at hlv 1 rfl) ?_
  refine W.widen (k := 0) (n := 0) (Nat.le_of_ble_eq_true rfl) (Nat.le_of_ble_eq_true rfl) ?_
  exact W.iret (v := iI 525413) hx hb hr (fun t ht hW => ⟨⟨iI 525413, ((fun k => ([] : List Nat).getD k 0), (fun k => ([525413] : List Int).getD k 0), (fun k => ([] : List (Nat → Int32)).getD k (fun _ => 0))), rfl, ⟨rfl, (by show (525413 ≤ 525413 ∧ 525413 ≤ 525413); show (525413 : Int) ≤ 525413 ∧ (525413 : Int) ≤ 525413; decide)⟩, at9 ht hP hD [] (by decide +kernel) rfl⟩, hS.F ht⟩) hS.2.2 dX12_of_32
def vs_m_of24 : List Cond := .code yX12_of cX12_of 3 (some .int) :: (([] : List Cond) ++ ((wsV RX12 100 RJ0 yJ0_length_8abf5 vs_s_length) ++ ((wsV RX12 105 RJ0 yJ0_charAt_5068e vs_s_charAt) ++ ([]))))
theorem gd_m_of24 : vs_m_of24.all goodWord = true := gd_C (by decide +kernel) (gd_A (by decide +kernel) (gd_A (gd_V gd_s_length (by decide +kernel)) (gd_A (gd_V gd_s_charAt (by decide +kernel)) rfl)))
set_option maxHeartbeats 4000000 in
set_option maxRecDepth 100000 in
theorem m_of24 (l : Launch) (hl : l.stackTraces = false) (D : va_G) (cy : Nat → ClassId) (sa : Nat → Nat)  (sz : Nat) : mI9 l yX12_of vs_m_of24 ({ frames := 4, cells := 0, slots := 0, locals := 85 }) D cy sa sz [.ref (sn sa 52)] [] (fun (r : Int32) (u : SV) => r = iI (u.2.1 0) ∧ (681541 ≤ u.2.1 0 ∧ u.2.1 0 ≤ 681541)) (fun u : SV => []) 0 0 := by
  refine Met.ofW (cc := cX12_of) (maxL := 3) (ret := (some .int)) (by decide) rfl ?_
  intro p e s m args below meth c s₁ B hml hv
  obtain ⟨rfl, hsz, hP, hG, hD0, hT⟩ := hv
  have hx := B.exec
  have hb := B.bytes
  have hr := B.returns
  have hts := atoms_spec (ws := vs_m_of24) B.pre
  have hown : s.vm.findClass RX12 = some m.cls := findClass_of_methodNamed B.named
  have hlocks := B.notSynchronized
  subst hsz
  have hD := hD0.self (sz := s.heap.size)
  generalize hAe : va_A [] s.heap.size = A at hD hT ⊢
  have hA : ∀ q : Nat, s.heap.size ≤ q → A q := fun q h => by rw [← hAe]; exact Or.inr h
  have hS : va_S A s.heap s.heap [] := va_S.rf
  have hl0 := lv_entry ([.ref (sn sa 52)]) (n := 3) (Nat.le_of_ble_eq_true rfl)
  rw [lg_entry_eq]
  generalize (lg_sl ([.ref (sn sa 52)]) ++ List.replicate (3 - (lg_sl ([.ref (sn sa 52)])).length) Slot.unset).toArray = ls at hl0 ⊢
  have hlv : lv_has ls 3 [(0, .ref (sn sa 52))] := hl0
  have gg_0 : GoodIn vs_m_of24 (wsV RX12 100 RJ0 yJ0_length_8abf5 vs_s_length) := goodIn_sub (fun w h => List.mem_cons_of_mem _ (List.mem_append_right _ (List.mem_append_left _ h))) (gd_V gd_s_length (by decide +kernel))
  have gg_1 : GoodIn vs_m_of24 (wsV RX12 105 RJ0 yJ0_charAt_5068e vs_s_charAt) := goodIn_sub (fun w h => List.mem_cons_of_mem _ (List.mem_append_right _ (List.mem_append_right _ (List.mem_append_left _ h)))) (gd_V gd_s_charAt (by decide +kernel))
  refine lv_iconst (v := iI 0) hx hb dX12_of_0 (by decide) ?_
  refine lv_istore_n (lv' := [(1, vI 0), (0, .ref (sn sa 52))]) hx hb dX12_of_1 rfl hlv (by decide) rfl (fun ls hlv => ?_)
  refine lv_iconst (v := iI 0) hx hb dX12_of_2 (by decide) ?_
  refine lv_istore_n (lv' := [(2, vI 0), (1, vI 0), (0, .ref (sn sa 52))]) hx hb dX12_of_3 rfl hlv (by decide) rfl (fun ls hlv => ?_)
  refine lv_iload_n hx hb dX12_of_4 rfl (lv_at hlv 0 rfl) ?_
  refine lv_aload_n hx hb dX12_of_5 rfl (lv_at hlv 2 rfl) ?_
  refine cjr_i [] (fun pre9 => (va_runV (As := []) (rest := [vI 0]) ⟨hx, hb, hml, hown, hts⟩ (s_length l hl D cy sa 52 s.heap.size (by show (0 : Int) ≤ 52 ∧ (52 : Int) ≤ 55; decide)) (cwV 0 hts gg_0 rfl rfl rfl (by decide +kernel) ⟨Nat.le_of_ble_eq_true rfl, Nat.le_of_ble_eq_true rfl⟩) ⟨pcW.blind, (wo_recv (WD.tx hT.2.2 (52 : Int).toNat (by omega)).1 hS), pre9⟩ rfl rfl hlv.1 rfl (lv_room (Nat.le_of_ble_eq_true rfl)) dX12_of_6 ⟨Nat.le_of_ble_eq_true rfl, Nat.le_of_ble_eq_true rfl⟩)) hP hD hS hA hG hT [] rfl (by decide +kernel) (fun r1 u1 H locs hw1 hq9 hS => ?_)
  obtain ⟨rfl, hq1_1, hq1_2⟩ := hw1
  obtain ⟨hP, hD⟩ := pd9 [] hq9
  have hev1 : (u1.2.1 0) = 4 := by first | (rw [hq1_2]; rfl) | omega
  refine lt_i (y := iI 4) (by rw [show (u1.2.1 0) = 4 by omega]) ?_
  refine ir_ge (tgt := 31) hx hb dX12_of_9 (by decide) (by show ((-2147483648) : Int) ≤ 0 ∧ (0 : Int) ≤ 2147483647; decide) (by show ((-2147483648) : Int) ≤ 4 ∧ (4 : Int) ≤ 2147483647; decide) (fun c_1 => by exfalso; omega) (fun c_1 => ?_)
  refine lv_iload_n hx hb dX12_of_12 rfl (lv_at hlv 1 rfl) ?_
  refine lv_iconst (v := iI 5) hx hb dX12_of_13 (by decide) ?_
  refine lv_ishl hx hb dX12_of_14 ?_
  refine lt_i (y := iI 0) (by decide) ?_
  refine lv_aload_n hx hb dX12_of_15 rfl (lv_at hlv 2 rfl) ?_
  refine lv_iload_n hx hb dX12_of_16 rfl (lv_at hlv 0 rfl) ?_
  refine cjr_i [] (fun pre9 => (va_runV (As := [vI 0]) (rest := [vI 0]) ⟨hx, hb, hml, hown, hts⟩ (s_charAt l hl D cy sa 52 0 H.size (by show (0 : Int) ≤ 52 ∧ (52 : Int) ≤ 55; decide) (by show (0 : Int) ≤ 0 ∧ (0 : Int) ≤ 6; decide) (by omega)) (cwV 1 hts gg_1 rfl rfl rfl (by decide +kernel) ⟨Nat.le_of_ble_eq_true rfl, Nat.le_of_ble_eq_true rfl⟩) ⟨pcW.blind, (wo_recv (WD.tx hT.2.2 (52 : Int).toNat (by omega)).1 hS), pre9⟩ rfl rfl hlv.1 rfl (lv_room (Nat.le_of_ble_eq_true rfl)) dX12_of_17 ⟨Nat.le_of_ble_eq_true rfl, Nat.le_of_ble_eq_true rfl⟩)) hP hD hS hA hG hT [] rfl (by decide +kernel) (fun r2 u2 H locs hw2 hq9 hS => ?_)
  obtain ⟨rfl, hq2_1, hq2_2⟩ := hw2
  obtain ⟨hP, hD⟩ := pd9 [] hq9
  have hev2 : (u2.2.1 0) = 116 := by first | (rw [hq2_2]; rfl) | omega
  refine lt_i (y := iI 116) (by rw [show (u2.2.1 0) = 116 by omega]) ?_
  refine lv_bipush (v := iI 96) hx hb dX12_of_20 (by decide) ?_
  refine lv_isub hx hb dX12_of_22 ?_
  refine lt_i (y := iI 20) (by decide) ?_
  refine lv_ior hx hb dX12_of_23 ?_
  refine lt_i (y := iI 20) (by decide) ?_
  refine lv_istore_n (lv' := [(1, vI 20), (2, vI 0), (0, .ref (sn sa 52))]) hx hb dX12_of_24 rfl hlv (by decide) rfl (fun ls hlv => ?_)
  refine lv_iinc (v := iI 1) (lv' := [(2, vI 1), (1, vI 20), (0, .ref (sn sa 52))]) hx hb dX12_of_25 hlv (k := 1) rfl (by decide) (by decide) rfl (fun ls hlv => ?_)
  refine lv_goto (tgt := 4) hx hb dX12_of_28 (by decide) ?_
  refine lv_iload_n hx hb dX12_of_4 rfl (lv_at hlv 0 rfl) ?_
  refine lv_aload_n hx hb dX12_of_5 rfl (lv_at hlv 2 rfl) ?_
  refine cjr_i [] (fun pre9 => (va_runV (As := []) (rest := [vI 1]) ⟨hx, hb, hml, hown, hts⟩ (s_length l hl D cy sa 52 H.size (by show (0 : Int) ≤ 52 ∧ (52 : Int) ≤ 55; decide)) (cwV 0 hts gg_0 rfl rfl rfl (by decide +kernel) ⟨Nat.le_of_ble_eq_true rfl, Nat.le_of_ble_eq_true rfl⟩) ⟨pcW.blind, (wo_recv (WD.tx hT.2.2 (52 : Int).toNat (by omega)).1 hS), pre9⟩ rfl rfl hlv.1 rfl (lv_room (Nat.le_of_ble_eq_true rfl)) dX12_of_6 ⟨Nat.le_of_ble_eq_true rfl, Nat.le_of_ble_eq_true rfl⟩)) hP hD hS hA hG hT [] rfl (by decide +kernel) (fun r3 u3 H locs hw3 hq9 hS => ?_)
  obtain ⟨rfl, hq3_1, hq3_2⟩ := hw3
  obtain ⟨hP, hD⟩ := pd9 [] hq9
  have hev3 : (u3.2.1 0) = 4 := by first | (rw [hq3_2]; rfl) | omega
  refine lt_i (y := iI 4) (by rw [show (u3.2.1 0) = 4 by omega]) ?_
  refine ir_ge (tgt := 31) hx hb dX12_of_9 (by decide) (by show ((-2147483648) : Int) ≤ 1 ∧ (1 : Int) ≤ 2147483647; decide) (by show ((-2147483648) : Int) ≤ 4 ∧ (4 : Int) ≤ 2147483647; decide) (fun c_2 => by exfalso; omega) (fun c_2 => ?_)
  refine lv_iload_n hx hb dX12_of_12 rfl (lv_at hlv 1 rfl) ?_
  refine lv_iconst (v := iI 5) hx hb dX12_of_13 (by decide) ?_
  refine lv_ishl hx hb dX12_of_14 ?_
  refine lt_i (y := iI 640) (by decide) ?_
  refine lv_aload_n hx hb dX12_of_15 rfl (lv_at hlv 2 rfl) ?_
  refine lv_iload_n hx hb dX12_of_16 rfl (lv_at hlv 0 rfl) ?_
  refine cjr_i [] (fun pre9 => (va_runV (As := [vI 1]) (rest := [vI 640]) ⟨hx, hb, hml, hown, hts⟩ (s_charAt l hl D cy sa 52 1 H.size (by show (0 : Int) ≤ 52 ∧ (52 : Int) ≤ 55; decide) (by show (0 : Int) ≤ 1 ∧ (1 : Int) ≤ 6; decide) (by omega)) (cwV 1 hts gg_1 rfl rfl rfl (by decide +kernel) ⟨Nat.le_of_ble_eq_true rfl, Nat.le_of_ble_eq_true rfl⟩) ⟨pcW.blind, (wo_recv (WD.tx hT.2.2 (52 : Int).toNat (by omega)).1 hS), pre9⟩ rfl rfl hlv.1 rfl (lv_room (Nat.le_of_ble_eq_true rfl)) dX12_of_17 ⟨Nat.le_of_ble_eq_true rfl, Nat.le_of_ble_eq_true rfl⟩)) hP hD hS hA hG hT [] rfl (by decide +kernel) (fun r4 u4 H locs hw4 hq9 hS => ?_)
  obtain ⟨rfl, hq4_1, hq4_2⟩ := hw4
  obtain ⟨hP, hD⟩ := pd9 [] hq9
  have hev4 : (u4.2.1 0) = 121 := by first | (rw [hq4_2]; rfl) | omega
  refine lt_i (y := iI 121) (by rw [show (u4.2.1 0) = 121 by omega]) ?_
  refine lv_bipush (v := iI 96) hx hb dX12_of_20 (by decide) ?_
  refine lv_isub hx hb dX12_of_22 ?_
  refine lt_i (y := iI 25) (by decide) ?_
  refine lv_ior hx hb dX12_of_23 ?_
  refine lt_i (y := iI 665) (by decide) ?_
  refine lv_istore_n (lv' := [(1, vI 665), (2, vI 1), (0, .ref (sn sa 52))]) hx hb dX12_of_24 rfl hlv (by decide) rfl (fun ls hlv => ?_)
  refine lv_iinc (v := iI 2) (lv' := [(2, vI 2), (1, vI 665), (0, .ref (sn sa 52))]) hx hb dX12_of_25 hlv (k := 1) rfl (by decide) (by decide) rfl (fun ls hlv => ?_)
  refine lv_goto (tgt := 4) hx hb dX12_of_28 (by decide) ?_
  refine lv_iload_n hx hb dX12_of_4 rfl (lv_at hlv 0 rfl) ?_
  refine lv_aload_n hx hb dX12_of_5 rfl (lv_at hlv 2 rfl) ?_
  refine cjr_i [] (fun pre9 => (va_runV (As := []) (rest := [vI 2]) ⟨hx, hb, hml, hown, hts⟩ (s_length l hl D cy sa 52 H.size (by show (0 : Int) ≤ 52 ∧ (52 : Int) ≤ 55; decide)) (cwV 0 hts gg_0 rfl rfl rfl (by decide +kernel) ⟨Nat.le_of_ble_eq_true rfl, Nat.le_of_ble_eq_true rfl⟩) ⟨pcW.blind, (wo_recv (WD.tx hT.2.2 (52 : Int).toNat (by omega)).1 hS), pre9⟩ rfl rfl hlv.1 rfl (lv_room (Nat.le_of_ble_eq_true rfl)) dX12_of_6 ⟨Nat.le_of_ble_eq_true rfl, Nat.le_of_ble_eq_true rfl⟩)) hP hD hS hA hG hT [] rfl (by decide +kernel) (fun r5 u5 H locs hw5 hq9 hS => ?_)
  obtain ⟨rfl, hq5_1, hq5_2⟩ := hw5
  obtain ⟨hP, hD⟩ := pd9 [] hq9
  have hev5 : (u5.2.1 0) = 4 := by first | (rw [hq5_2]; rfl) | omega
  refine lt_i (y := iI 4) (by rw [show (u5.2.1 0) = 4 by omega]) ?_
  refine ir_ge (tgt := 31) hx hb dX12_of_9 (by decide) (by show ((-2147483648) : Int) ≤ 2 ∧ (2 : Int) ≤ 2147483647; decide) (by show ((-2147483648) : Int) ≤ 4 ∧ (4 : Int) ≤ 2147483647; decide) (fun c_3 => by exfalso; omega) (fun c_3 => ?_)
  refine lv_iload_n hx hb dX12_of_12 rfl (lv_at hlv 1 rfl) ?_
  refine lv_iconst (v := iI 5) hx hb dX12_of_13 (by decide) ?_
  refine lv_ishl hx hb dX12_of_14 ?_
  refine lt_i (y := iI 21280) (by decide) ?_
  refine lv_aload_n hx hb dX12_of_15 rfl (lv_at hlv 2 rfl) ?_
  refine lv_iload_n hx hb dX12_of_16 rfl (lv_at hlv 0 rfl) ?_
  refine cjr_i [] (fun pre9 => (va_runV (As := [vI 2]) (rest := [vI 21280]) ⟨hx, hb, hml, hown, hts⟩ (s_charAt l hl D cy sa 52 2 H.size (by show (0 : Int) ≤ 52 ∧ (52 : Int) ≤ 55; decide) (by show (0 : Int) ≤ 2 ∧ (2 : Int) ≤ 6; decide) (by omega)) (cwV 1 hts gg_1 rfl rfl rfl (by decide +kernel) ⟨Nat.le_of_ble_eq_true rfl, Nat.le_of_ble_eq_true rfl⟩) ⟨pcW.blind, (wo_recv (WD.tx hT.2.2 (52 : Int).toNat (by omega)).1 hS), pre9⟩ rfl rfl hlv.1 rfl (lv_room (Nat.le_of_ble_eq_true rfl)) dX12_of_17 ⟨Nat.le_of_ble_eq_true rfl, Nat.le_of_ble_eq_true rfl⟩)) hP hD hS hA hG hT [] rfl (by decide +kernel) (fun r6 u6 H locs hw6 hq9 hS => ?_)
  obtain ⟨rfl, hq6_1, hq6_2⟩ := hw6
  obtain ⟨hP, hD⟩ := pd9 [] hq9
  have hev6 : (u6.2.1 0) = 114 := by first | (rw [hq6_2]; rfl) | omega
  refine lt_i (y := iI 114) (by rw [show (u6.2.1 0) = 114 by omega]) ?_
  refine lv_bipush (v := iI 96) hx hb dX12_of_20 (by decide) ?_
  refine lv_isub hx hb dX12_of_22 ?_
  refine lt_i (y := iI 18) (by decide) ?_
  refine lv_ior hx hb dX12_of_23 ?_
  refine lt_i (y := iI 21298) (by decide) ?_
  refine lv_istore_n (lv' := [(1, vI 21298), (2, vI 2), (0, .ref (sn sa 52))]) hx hb dX12_of_24 rfl hlv (by decide) rfl (fun ls hlv => ?_)
  refine lv_iinc (v := iI 3) (lv' := [(2, vI 3), (1, vI 21298), (0, .ref (sn sa 52))]) hx hb dX12_of_25 hlv (k := 1) rfl (by decide) (by decide) rfl (fun ls hlv => ?_)
  refine lv_goto (tgt := 4) hx hb dX12_of_28 (by decide) ?_
  refine lv_iload_n hx hb dX12_of_4 rfl (lv_at hlv 0 rfl) ?_
  refine lv_aload_n hx hb dX12_of_5 rfl (lv_at hlv 2 rfl) ?_
  refine cjr_i [] (fun pre9 => (va_runV (As := []) (rest := [vI 3]) ⟨hx, hb, hml, hown, hts⟩ (s_length l hl D cy sa 52 H.size (by show (0 : Int) ≤ 52 ∧ (52 : Int) ≤ 55; decide)) (cwV 0 hts gg_0 rfl rfl rfl (by decide +kernel) ⟨Nat.le_of_ble_eq_true rfl, Nat.le_of_ble_eq_true rfl⟩) ⟨pcW.blind, (wo_recv (WD.tx hT.2.2 (52 : Int).toNat (by omega)).1 hS), pre9⟩ rfl rfl hlv.1 rfl (lv_room (Nat.le_of_ble_eq_true rfl)) dX12_of_6 ⟨Nat.le_of_ble_eq_true rfl, Nat.le_of_ble_eq_true rfl⟩)) hP hD hS hA hG hT [] rfl (by decide +kernel) (fun r7 u7 H locs hw7 hq9 hS => ?_)
  obtain ⟨rfl, hq7_1, hq7_2⟩ := hw7
  obtain ⟨hP, hD⟩ := pd9 [] hq9
  have hev7 : (u7.2.1 0) = 4 := by first | (rw [hq7_2]; rfl) | omega
  refine lt_i (y := iI 4) (by rw [show (u7.2.1 0) = 4 by omega]) ?_
  refine ir_ge (tgt := 31) hx hb dX12_of_9 (by decide) (by show ((-2147483648) : Int) ≤ 3 ∧ (3 : Int) ≤ 2147483647; decide) (by show ((-2147483648) : Int) ≤ 4 ∧ (4 : Int) ≤ 2147483647; decide) (fun c_4 => by exfalso; omega) (fun c_4 => ?_)
  refine lv_iload_n hx hb dX12_of_12 rfl (lv_at hlv 1 rfl) ?_
  refine lv_iconst (v := iI 5) hx hb dX12_of_13 (by decide) ?_
  refine lv_ishl hx hb dX12_of_14 ?_
  refine lt_i (y := iI 681536) (by decide) ?_
  refine lv_aload_n hx hb dX12_of_15 rfl (lv_at hlv 2 rfl) ?_
  refine lv_iload_n hx hb dX12_of_16 rfl (lv_at hlv 0 rfl) ?_
  refine cjr_i [] (fun pre9 => (va_runV (As := [vI 3]) (rest := [vI 681536]) ⟨hx, hb, hml, hown, hts⟩ (s_charAt l hl D cy sa 52 3 H.size (by show (0 : Int) ≤ 52 ∧ (52 : Int) ≤ 55; decide) (by show (0 : Int) ≤ 3 ∧ (3 : Int) ≤ 6; decide) (by omega)) (cwV 1 hts gg_1 rfl rfl rfl (by decide +kernel) ⟨Nat.le_of_ble_eq_true rfl, Nat.le_of_ble_eq_true rfl⟩) ⟨pcW.blind, (wo_recv (WD.tx hT.2.2 (52 : Int).toNat (by omega)).1 hS), pre9⟩ rfl rfl hlv.1 rfl (lv_room (Nat.le_of_ble_eq_true rfl)) dX12_of_17 ⟨Nat.le_of_ble_eq_true rfl, Nat.le_of_ble_eq_true rfl⟩)) hP hD hS hA hG hT [] rfl (by decide +kernel) (fun r8 u8 H locs hw8 hq9 hS => ?_)
  obtain ⟨rfl, hq8_1, hq8_2⟩ := hw8
  obtain ⟨hP, hD⟩ := pd9 [] hq9
  have hev8 : (u8.2.1 0) = 101 := by first | (rw [hq8_2]; rfl) | omega
  refine lt_i (y := iI 101) (by rw [show (u8.2.1 0) = 101 by omega]) ?_
  refine lv_bipush (v := iI 96) hx hb dX12_of_20 (by decide) ?_
  refine lv_isub hx hb dX12_of_22 ?_
  refine lt_i (y := iI 5) (by decide) ?_
  refine lv_ior hx hb dX12_of_23 ?_
  refine lt_i (y := iI 681541) (by decide) ?_
  refine lv_istore_n (lv' := [(1, vI 681541), (2, vI 3), (0, .ref (sn sa 52))]) hx hb dX12_of_24 rfl hlv (by decide) rfl (fun ls hlv => ?_)
  refine lv_iinc (v := iI 4) (lv' := [(2, vI 4), (1, vI 681541), (0, .ref (sn sa 52))]) hx hb dX12_of_25 hlv (k := 1) rfl (by decide) (by decide) rfl (fun ls hlv => ?_)
  refine lv_goto (tgt := 4) hx hb dX12_of_28 (by decide) ?_
  refine lv_iload_n hx hb dX12_of_4 rfl (lv_at hlv 0 rfl) ?_
  refine lv_aload_n hx hb dX12_of_5 rfl (lv_at hlv 2 rfl) ?_
  refine cjr_i [] (fun pre9 => (va_runV (As := []) (rest := [vI 4]) ⟨hx, hb, hml, hown, hts⟩ (s_length l hl D cy sa 52 H.size (by show (0 : Int) ≤ 52 ∧ (52 : Int) ≤ 55; decide)) (cwV 0 hts gg_0 rfl rfl rfl (by decide +kernel) ⟨Nat.le_of_ble_eq_true rfl, Nat.le_of_ble_eq_true rfl⟩) ⟨pcW.blind, (wo_recv (WD.tx hT.2.2 (52 : Int).toNat (by omega)).1 hS), pre9⟩ rfl rfl hlv.1 rfl (lv_room (Nat.le_of_ble_eq_true rfl)) dX12_of_6 ⟨Nat.le_of_ble_eq_true rfl, Nat.le_of_ble_eq_true rfl⟩)) hP hD hS hA hG hT [] rfl (by decide +kernel) (fun r9 u9 H locs hw9 hq9 hS => ?_)
  obtain ⟨rfl, hq9_1, hq9_2⟩ := hw9
  obtain ⟨hP, hD⟩ := pd9 [] hq9
  have hev9 : (u9.2.1 0) = 4 := by first | (rw [hq9_2]; rfl) | omega
  refine lt_i (y := iI 4) (by rw [show (u9.2.1 0) = 4 by omega]) ?_
  refine ir_ge (tgt := 31) hx hb dX12_of_9 (by decide) (by show ((-2147483648) : Int) ≤ 4 ∧ (4 : Int) ≤ 2147483647; decide) (by show ((-2147483648) : Int) ≤ 4 ∧ (4 : Int) ≤ 2147483647; decide) (fun c_5 => ?_) (fun c_5 => by exfalso; omega)
  refine lv_iload_n hx hb dX12_of_31 rfl (lv_at hlv 1 rfl) ?_
  refine W.widen (k := 0) (n := 0) (Nat.le_of_ble_eq_true rfl) (Nat.le_of_ble_eq_true rfl) ?_
  exact W.iret (v := iI 681541) hx hb hr (fun t ht hW => ⟨⟨iI 681541, ((fun k => ([] : List Nat).getD k 0), (fun k => ([681541] : List Int).getD k 0), (fun k => ([] : List (Nat → Int32)).getD k (fun _ => 0))), rfl, ⟨rfl, (by show (681541 ≤ 681541 ∧ 681541 ≤ 681541); show (681541 : Int) ≤ 681541 ∧ (681541 : Int) ≤ 681541; decide)⟩, at9 ht hP hD [] (by decide +kernel) rfl⟩, hS.F ht⟩) hS.2.2 dX12_of_32
def vs_m_of25 : List Cond := .code yX12_of cX12_of 3 (some .int) :: (([] : List Cond) ++ ((wsV RX12 100 RJ0 yJ0_length_8abf5 vs_s_length) ++ ((wsV RX12 105 RJ0 yJ0_charAt_5068e vs_s_charAt) ++ ([]))))
theorem gd_m_of25 : vs_m_of25.all goodWord = true := gd_C (by decide +kernel) (gd_A (by decide +kernel) (gd_A (gd_V gd_s_length (by decide +kernel)) (gd_A (gd_V gd_s_charAt (by decide +kernel)) rfl)))
set_option maxHeartbeats 4000000 in
set_option maxRecDepth 100000 in
theorem m_of25 (l : Launch) (hl : l.stackTraces = false) (D : va_G) (cy : Nat → ClassId) (sa : Nat → Nat)  (sz : Nat) : mI9 l yX12_of vs_m_of25 ({ frames := 4, cells := 0, slots := 0, locals := 85 }) D cy sa sz [.ref (sn sa 53)] [] (fun (r : Int32) (u : SV) => r = iI (u.2.1 0) ∧ (18935 ≤ u.2.1 0 ∧ u.2.1 0 ≤ 18935)) (fun u : SV => []) 0 0 := by
  refine Met.ofW (cc := cX12_of) (maxL := 3) (ret := (some .int)) (by decide) rfl ?_
  intro p e s m args below meth c s₁ B hml hv
  obtain ⟨rfl, hsz, hP, hG, hD0, hT⟩ := hv
  have hx := B.exec
  have hb := B.bytes
  have hr := B.returns
  have hts := atoms_spec (ws := vs_m_of25) B.pre
  have hown : s.vm.findClass RX12 = some m.cls := findClass_of_methodNamed B.named
  have hlocks := B.notSynchronized
  subst hsz
  have hD := hD0.self (sz := s.heap.size)
  generalize hAe : va_A [] s.heap.size = A at hD hT ⊢
  have hA : ∀ q : Nat, s.heap.size ≤ q → A q := fun q h => by rw [← hAe]; exact Or.inr h
  have hS : va_S A s.heap s.heap [] := va_S.rf
  have hl0 := lv_entry ([.ref (sn sa 53)]) (n := 3) (Nat.le_of_ble_eq_true rfl)
  rw [lg_entry_eq]
  generalize (lg_sl ([.ref (sn sa 53)]) ++ List.replicate (3 - (lg_sl ([.ref (sn sa 53)])).length) Slot.unset).toArray = ls at hl0 ⊢
  have hlv : lv_has ls 3 [(0, .ref (sn sa 53))] := hl0
  have gg_0 : GoodIn vs_m_of25 (wsV RX12 100 RJ0 yJ0_length_8abf5 vs_s_length) := goodIn_sub (fun w h => List.mem_cons_of_mem _ (List.mem_append_right _ (List.mem_append_left _ h))) (gd_V gd_s_length (by decide +kernel))
  have gg_1 : GoodIn vs_m_of25 (wsV RX12 105 RJ0 yJ0_charAt_5068e vs_s_charAt) := goodIn_sub (fun w h => List.mem_cons_of_mem _ (List.mem_append_right _ (List.mem_append_right _ (List.mem_append_left _ h)))) (gd_V gd_s_charAt (by decide +kernel))
  refine lv_iconst (v := iI 0) hx hb dX12_of_0 (by decide) ?_
  refine lv_istore_n (lv' := [(1, vI 0), (0, .ref (sn sa 53))]) hx hb dX12_of_1 rfl hlv (by decide) rfl (fun ls hlv => ?_)
  refine lv_iconst (v := iI 0) hx hb dX12_of_2 (by decide) ?_
  refine lv_istore_n (lv' := [(2, vI 0), (1, vI 0), (0, .ref (sn sa 53))]) hx hb dX12_of_3 rfl hlv (by decide) rfl (fun ls hlv => ?_)
  refine lv_iload_n hx hb dX12_of_4 rfl (lv_at hlv 0 rfl) ?_
  refine lv_aload_n hx hb dX12_of_5 rfl (lv_at hlv 2 rfl) ?_
  refine cjr_i [] (fun pre9 => (va_runV (As := []) (rest := [vI 0]) ⟨hx, hb, hml, hown, hts⟩ (s_length l hl D cy sa 53 s.heap.size (by show (0 : Int) ≤ 53 ∧ (53 : Int) ≤ 55; decide)) (cwV 0 hts gg_0 rfl rfl rfl (by decide +kernel) ⟨Nat.le_of_ble_eq_true rfl, Nat.le_of_ble_eq_true rfl⟩) ⟨pcW.blind, (wo_recv (WD.tx hT.2.2 (53 : Int).toNat (by omega)).1 hS), pre9⟩ rfl rfl hlv.1 rfl (lv_room (Nat.le_of_ble_eq_true rfl)) dX12_of_6 ⟨Nat.le_of_ble_eq_true rfl, Nat.le_of_ble_eq_true rfl⟩)) hP hD hS hA hG hT [] rfl (by decide +kernel) (fun r1 u1 H locs hw1 hq9 hS => ?_)
  obtain ⟨rfl, hq1_1, hq1_2⟩ := hw1
  obtain ⟨hP, hD⟩ := pd9 [] hq9
  have hev1 : (u1.2.1 0) = 3 := by first | (rw [hq1_2]; rfl) | omega
  refine lt_i (y := iI 3) (by rw [show (u1.2.1 0) = 3 by omega]) ?_
  refine ir_ge (tgt := 31) hx hb dX12_of_9 (by decide) (by show ((-2147483648) : Int) ≤ 0 ∧ (0 : Int) ≤ 2147483647; decide) (by show ((-2147483648) : Int) ≤ 3 ∧ (3 : Int) ≤ 2147483647; decide) (fun c_1 => by exfalso; omega) (fun c_1 => ?_)
  refine lv_iload_n hx hb dX12_of_12 rfl (lv_at hlv 1 rfl) ?_
  refine lv_iconst (v := iI 5) hx hb dX12_of_13 (by decide) ?_
  refine lv_ishl hx hb dX12_of_14 ?_
  refine lt_i (y := iI 0) (by decide) ?_
  refine lv_aload_n hx hb dX12_of_15 rfl (lv_at hlv 2 rfl) ?_
  refine lv_iload_n hx hb dX12_of_16 rfl (lv_at hlv 0 rfl) ?_
  refine cjr_i [] (fun pre9 => (va_runV (As := [vI 0]) (rest := [vI 0]) ⟨hx, hb, hml, hown, hts⟩ (s_charAt l hl D cy sa 53 0 H.size (by show (0 : Int) ≤ 53 ∧ (53 : Int) ≤ 55; decide) (by show (0 : Int) ≤ 0 ∧ (0 : Int) ≤ 6; decide) (by omega)) (cwV 1 hts gg_1 rfl rfl rfl (by decide +kernel) ⟨Nat.le_of_ble_eq_true rfl, Nat.le_of_ble_eq_true rfl⟩) ⟨pcW.blind, (wo_recv (WD.tx hT.2.2 (53 : Int).toNat (by omega)).1 hS), pre9⟩ rfl rfl hlv.1 rfl (lv_room (Nat.le_of_ble_eq_true rfl)) dX12_of_17 ⟨Nat.le_of_ble_eq_true rfl, Nat.le_of_ble_eq_true rfl⟩)) hP hD hS hA hG hT [] rfl (by decide +kernel) (fun r2 u2 H locs hw2 hq9 hS => ?_)
  obtain ⟨rfl, hq2_1, hq2_2⟩ := hw2
  obtain ⟨hP, hD⟩ := pd9 [] hq9
  have hev2 : (u2.2.1 0) = 114 := by first | (rw [hq2_2]; rfl) | omega
  refine lt_i (y := iI 114) (by rw [show (u2.2.1 0) = 114 by omega]) ?_
  refine lv_bipush (v := iI 96) hx hb dX12_of_20 (by decide) ?_
  refine lv_isub hx hb dX12_of_22 ?_
  refine lt_i (y := iI 18) (by decide) ?_
  refine lv_ior hx hb dX12_of_23 ?_
  refine lt_i (y := iI 18) (by decide) ?_
  refine lv_istore_n (lv' := [(1, vI 18), (2, vI 0), (0, .ref (sn sa 53))]) hx hb dX12_of_24 rfl hlv (by decide) rfl (fun ls hlv => ?_)
  refine lv_iinc (v := iI 1) (lv' := [(2, vI 1), (1, vI 18), (0, .ref (sn sa 53))]) hx hb dX12_of_25 hlv (k := 1) rfl (by decide) (by decide) rfl (fun ls hlv => ?_)
  refine lv_goto (tgt := 4) hx hb dX12_of_28 (by decide) ?_
  refine lv_iload_n hx hb dX12_of_4 rfl (lv_at hlv 0 rfl) ?_
  refine lv_aload_n hx hb dX12_of_5 rfl (lv_at hlv 2 rfl) ?_
  refine cjr_i [] (fun pre9 => (va_runV (As := []) (rest := [vI 1]) ⟨hx, hb, hml, hown, hts⟩ (s_length l hl D cy sa 53 H.size (by show (0 : Int) ≤ 53 ∧ (53 : Int) ≤ 55; decide)) (cwV 0 hts gg_0 rfl rfl rfl (by decide +kernel) ⟨Nat.le_of_ble_eq_true rfl, Nat.le_of_ble_eq_true rfl⟩) ⟨pcW.blind, (wo_recv (WD.tx hT.2.2 (53 : Int).toNat (by omega)).1 hS), pre9⟩ rfl rfl hlv.1 rfl (lv_room (Nat.le_of_ble_eq_true rfl)) dX12_of_6 ⟨Nat.le_of_ble_eq_true rfl, Nat.le_of_ble_eq_true rfl⟩)) hP hD hS hA hG hT [] rfl (by decide +kernel) (fun r3 u3 H locs hw3 hq9 hS => ?_)
  obtain ⟨rfl, hq3_1, hq3_2⟩ := hw3
  obtain ⟨hP, hD⟩ := pd9 [] hq9
  have hev3 : (u3.2.1 0) = 3 := by first | (rw [hq3_2]; rfl) | omega
  refine lt_i (y := iI 3) (by rw [show (u3.2.1 0) = 3 by omega]) ?_
  refine ir_ge (tgt := 31) hx hb dX12_of_9 (by decide) (by show ((-2147483648) : Int) ≤ 1 ∧ (1 : Int) ≤ 2147483647; decide) (by show ((-2147483648) : Int) ≤ 3 ∧ (3 : Int) ≤ 2147483647; decide) (fun c_2 => by exfalso; omega) (fun c_2 => ?_)
  refine lv_iload_n hx hb dX12_of_12 rfl (lv_at hlv 1 rfl) ?_
  refine lv_iconst (v := iI 5) hx hb dX12_of_13 (by decide) ?_
  refine lv_ishl hx hb dX12_of_14 ?_
  refine lt_i (y := iI 576) (by decide) ?_
  refine lv_aload_n hx hb dX12_of_15 rfl (lv_at hlv 2 rfl) ?_
  refine lv_iload_n hx hb dX12_of_16 rfl (lv_at hlv 0 rfl) ?_
  refine cjr_i [] (fun pre9 => (va_runV (As := [vI 1]) (rest := [vI 576]) ⟨hx, hb, hml, hown, hts⟩ (s_charAt l hl D cy sa 53 1 H.size (by show (0 : Int) ≤ 53 ∧ (53 : Int) ≤ 55; decide) (by show (0 : Int) ≤ 1 ∧ (1 : Int) ≤ 6; decide) (by omega)) (cwV 1 hts gg_1 rfl rfl rfl (by decide +kernel) ⟨Nat.le_of_ble_eq_true rfl, Nat.le_of_ble_eq_true rfl⟩) ⟨pcW.blind, (wo_recv (WD.tx hT.2.2 (53 : Int).toNat (by omega)).1 hS), pre9⟩ rfl rfl hlv.1 rfl (lv_room (Nat.le_of_ble_eq_true rfl)) dX12_of_17 ⟨Nat.le_of_ble_eq_true rfl, Nat.le_of_ble_eq_true rfl⟩)) hP hD hS hA hG hT [] rfl (by decide +kernel) (fun r4 u4 H locs hw4 hq9 hS => ?_)
  obtain ⟨rfl, hq4_1, hq4_2⟩ := hw4
  obtain ⟨hP, hD⟩ := pd9 [] hq9
  have hev4 : (u4.2.1 0) = 111 := by first | (rw [hq4_2]; rfl) | omega
  refine lt_i (y := iI 111) (by rw [show (u4.2.1 0) = 111 by omega]) ?_
  refine lv_bipush (v := iI 96) hx hb dX12_of_20 (by decide) ?_
  refine lv_isub hx hb dX12_of_22 ?_
  refine lt_i (y := iI 15) (by decide) ?_
  refine lv_ior hx hb dX12_of_23 ?_
  refine lt_i (y := iI 591) (by decide) ?_
  refine lv_istore_n (lv' := [(1, vI 591), (2, vI 1), (0, .ref (sn sa 53))]) hx hb dX12_of_24 rfl hlv (by decide) rfl (fun ls hlv => ?_)
  refine lv_iinc (v := iI 2) (lv' := [(2, vI 2), (1, vI 591), (0, .ref (sn sa 53))]) hx hb dX12_of_25 hlv (k := 1) rfl (by decide) (by decide) rfl (fun ls hlv => ?_)
  refine lv_goto (tgt := 4) hx hb dX12_of_28 (by decide) ?_
  refine lv_iload_n hx hb dX12_of_4 rfl (lv_at hlv 0 rfl) ?_
  refine lv_aload_n hx hb dX12_of_5 rfl (lv_at hlv 2 rfl) ?_
  refine cjr_i [] (fun pre9 => (va_runV (As := []) (rest := [vI 2]) ⟨hx, hb, hml, hown, hts⟩ (s_length l hl D cy sa 53 H.size (by show (0 : Int) ≤ 53 ∧ (53 : Int) ≤ 55; decide)) (cwV 0 hts gg_0 rfl rfl rfl (by decide +kernel) ⟨Nat.le_of_ble_eq_true rfl, Nat.le_of_ble_eq_true rfl⟩) ⟨pcW.blind, (wo_recv (WD.tx hT.2.2 (53 : Int).toNat (by omega)).1 hS), pre9⟩ rfl rfl hlv.1 rfl (lv_room (Nat.le_of_ble_eq_true rfl)) dX12_of_6 ⟨Nat.le_of_ble_eq_true rfl, Nat.le_of_ble_eq_true rfl⟩)) hP hD hS hA hG hT [] rfl (by decide +kernel) (fun r5 u5 H locs hw5 hq9 hS => ?_)
  obtain ⟨rfl, hq5_1, hq5_2⟩ := hw5
  obtain ⟨hP, hD⟩ := pd9 [] hq9
  have hev5 : (u5.2.1 0) = 3 := by first | (rw [hq5_2]; rfl) | omega
  refine lt_i (y := iI 3) (by rw [show (u5.2.1 0) = 3 by omega]) ?_
  refine ir_ge (tgt := 31) hx hb dX12_of_9 (by decide) (by show ((-2147483648) : Int) ≤ 2 ∧ (2 : Int) ≤ 2147483647; decide) (by show ((-2147483648) : Int) ≤ 3 ∧ (3 : Int) ≤ 2147483647; decide) (fun c_3 => by exfalso; omega) (fun c_3 => ?_)
  refine lv_iload_n hx hb dX12_of_12 rfl (lv_at hlv 1 rfl) ?_
  refine lv_iconst (v := iI 5) hx hb dX12_of_13 (by decide) ?_
  refine lv_ishl hx hb dX12_of_14 ?_
  refine lt_i (y := iI 18912) (by decide) ?_
  refine lv_aload_n hx hb dX12_of_15 rfl (lv_at hlv 2 rfl) ?_
  refine lv_iload_n hx hb dX12_of_16 rfl (lv_at hlv 0 rfl) ?_
  refine cjr_i [] (fun pre9 => (va_runV (As := [vI 2]) (rest := [vI 18912]) ⟨hx, hb, hml, hown, hts⟩ (s_charAt l hl D cy sa 53 2 H.size (by show (0 : Int) ≤ 53 ∧ (53 : Int) ≤ 55; decide) (by show (0 : Int) ≤ 2 ∧ (2 : Int) ≤ 6; decide) (by omega)) (cwV 1 hts gg_1 rfl rfl rfl (by decide +kernel) ⟨Nat.le_of_ble_eq_true rfl, Nat.le_of_ble_eq_true rfl⟩) ⟨pcW.blind, (wo_recv (WD.tx hT.2.2 (53 : Int).toNat (by omega)).1 hS), pre9⟩ rfl rfl hlv.1 rfl (lv_room (Nat.le_of_ble_eq_true rfl)) dX12_of_17 ⟨Nat.le_of_ble_eq_true rfl, Nat.le_of_ble_eq_true rfl⟩)) hP hD hS hA hG hT [] rfl (by decide +kernel) (fun r6 u6 H locs hw6 hq9 hS => ?_)
  obtain ⟨rfl, hq6_1, hq6_2⟩ := hw6
  obtain ⟨hP, hD⟩ := pd9 [] hq9
  have hev6 : (u6.2.1 0) = 119 := by first | (rw [hq6_2]; rfl) | omega
  refine lt_i (y := iI 119) (by rw [show (u6.2.1 0) = 119 by omega]) ?_
  refine lv_bipush (v := iI 96) hx hb dX12_of_20 (by decide) ?_
  refine lv_isub hx hb dX12_of_22 ?_
  refine lt_i (y := iI 23) (by decide) ?_
  refine lv_ior hx hb dX12_of_23 ?_
  refine lt_i (y := iI 18935) (by decide) ?_
  refine lv_istore_n (lv' := [(1, vI 18935), (2, vI 2), (0, .ref (sn sa 53))]) hx hb dX12_of_24 rfl hlv (by decide) rfl (fun ls hlv => ?_)
  refine lv_iinc (v := iI 3) (lv' := [(2, vI 3), (1, vI 18935), (0, .ref (sn sa 53))]) hx hb dX12_of_25 hlv (k := 1) rfl (by decide) (by decide) rfl (fun ls hlv => ?_)
  refine lv_goto (tgt := 4) hx hb dX12_of_28 (by decide) ?_
  refine lv_iload_n hx hb dX12_of_4 rfl (lv_at hlv 0 rfl) ?_
  refine lv_aload_n hx hb dX12_of_5 rfl (lv_at hlv 2 rfl) ?_
  refine cjr_i [] (fun pre9 => (va_runV (As := []) (rest := [vI 3]) ⟨hx, hb, hml, hown, hts⟩ (s_length l hl D cy sa 53 H.size (by show (0 : Int) ≤ 53 ∧ (53 : Int) ≤ 55; decide)) (cwV 0 hts gg_0 rfl rfl rfl (by decide +kernel) ⟨Nat.le_of_ble_eq_true rfl, Nat.le_of_ble_eq_true rfl⟩) ⟨pcW.blind, (wo_recv (WD.tx hT.2.2 (53 : Int).toNat (by omega)).1 hS), pre9⟩ rfl rfl hlv.1 rfl (lv_room (Nat.le_of_ble_eq_true rfl)) dX12_of_6 ⟨Nat.le_of_ble_eq_true rfl, Nat.le_of_ble_eq_true rfl⟩)) hP hD hS hA hG hT [] rfl (by decide +kernel) (fun r7 u7 H locs hw7 hq9 hS => ?_)
  obtain ⟨rfl, hq7_1, hq7_2⟩ := hw7
  obtain ⟨hP, hD⟩ := pd9 [] hq9
  have hev7 : (u7.2.1 0) = 3 := by first | (rw [hq7_2]; rfl) | omega
  refine lt_i (y := iI 3) (by rw [show (u7.2.1 0) = 3 by omega]) ?_
  refine ir_ge (tgt := 31) hx hb dX12_of_9 (by decide) (by show ((-2147483648) : Int) ≤ 3 ∧ (3 : Int) ≤ 2147483647; decide) (by show ((-2147483648) : Int) ≤ 3 ∧ (3 : Int) ≤ 2147483647; decide) (fun c_4 => ?_) (fun c_4 => by exfalso; omega)
  refine lv_iload_n hx hb dX12_of_31 rfl (lv_at hlv 1 rfl) ?_
  refine W.widen (k := 0) (n := 0) (Nat.le_of_ble_eq_true rfl) (Nat.le_of_ble_eq_true rfl) ?_
  exact W.iret (v := iI 18935) hx hb hr (fun t ht hW => ⟨⟨iI 18935, ((fun k => ([] : List Nat).getD k 0), (fun k => ([18935] : List Int).getD k 0), (fun k => ([] : List (Nat → Int32)).getD k (fun _ => 0))), rfl, ⟨rfl, (by show (18935 ≤ 18935 ∧ 18935 ≤ 18935); show (18935 : Int) ≤ 18935 ∧ (18935 : Int) ≤ 18935; decide)⟩, at9 ht hP hD [] (by decide +kernel) rfl⟩, hS.F ht⟩) hS.2.2 dX12_of_32
def vs_m_of26 : List Cond := .code yX12_of cX12_of 3 (some .int) :: (([] : List Cond) ++ ((wsV RX12 100 RJ0 yJ0_length_8abf5 vs_s_length) ++ ((wsV RX12 105 RJ0 yJ0_charAt_5068e vs_s_charAt) ++ ([]))))
theorem gd_m_of26 : vs_m_of26.all goodWord = true := gd_C (by decide +kernel) (gd_A (by decide +kernel) (gd_A (gd_V gd_s_length (by decide +kernel)) (gd_A (gd_V gd_s_charAt (by decide +kernel)) rfl)))
set_option maxHeartbeats 4000000 in
set_option maxRecDepth 100000 in
theorem m_of26 (l : Launch) (hl : l.stackTraces = false) (D : va_G) (cy : Nat → ClassId) (sa : Nat → Nat)  (sz : Nat) : mI9 l yX12_of vs_m_of26 ({ frames := 4, cells := 0, slots := 0, locals := 85 }) D cy sa sz [.ref (sn sa 54)] [] (fun (r : Int32) (u : SV) => r = iI (u.2.1 0) ∧ (6194 ≤ u.2.1 0 ∧ u.2.1 0 ≤ 6194)) (fun u : SV => []) 0 0 := by
  refine Met.ofW (cc := cX12_of) (maxL := 3) (ret := (some .int)) (by decide) rfl ?_
  intro p e s m args below meth c s₁ B hml hv
  obtain ⟨rfl, hsz, hP, hG, hD0, hT⟩ := hv
  have hx := B.exec
  have hb := B.bytes
  have hr := B.returns
  have hts := atoms_spec (ws := vs_m_of26) B.pre
  have hown : s.vm.findClass RX12 = some m.cls := findClass_of_methodNamed B.named
  have hlocks := B.notSynchronized
  subst hsz
  have hD := hD0.self (sz := s.heap.size)
  generalize hAe : va_A [] s.heap.size = A at hD hT ⊢
  have hA : ∀ q : Nat, s.heap.size ≤ q → A q := fun q h => by rw [← hAe]; exact Or.inr h
  have hS : va_S A s.heap s.heap [] := va_S.rf
  have hl0 := lv_entry ([.ref (sn sa 54)]) (n := 3) (Nat.le_of_ble_eq_true rfl)
  rw [lg_entry_eq]
  generalize (lg_sl ([.ref (sn sa 54)]) ++ List.replicate (3 - (lg_sl ([.ref (sn sa 54)])).length) Slot.unset).toArray = ls at hl0 ⊢
  have hlv : lv_has ls 3 [(0, .ref (sn sa 54))] := hl0
  have gg_0 : GoodIn vs_m_of26 (wsV RX12 100 RJ0 yJ0_length_8abf5 vs_s_length) := goodIn_sub (fun w h => List.mem_cons_of_mem _ (List.mem_append_right _ (List.mem_append_left _ h))) (gd_V gd_s_length (by decide +kernel))
  have gg_1 : GoodIn vs_m_of26 (wsV RX12 105 RJ0 yJ0_charAt_5068e vs_s_charAt) := goodIn_sub (fun w h => List.mem_cons_of_mem _ (List.mem_append_right _ (List.mem_append_right _ (List.mem_append_left _ h)))) (gd_V gd_s_charAt (by decide +kernel))
  refine lv_iconst (v := iI 0) hx hb dX12_of_0 (by decide) ?_
  refine lv_istore_n (lv' := [(1, vI 0), (0, .ref (sn sa 54))]) hx hb dX12_of_1 rfl hlv (by decide) rfl (fun ls hlv => ?_)
  refine lv_iconst (v := iI 0) hx hb dX12_of_2 (by decide) ?_
  refine lv_istore_n (lv' := [(2, vI 0), (1, vI 0), (0, .ref (sn sa 54))]) hx hb dX12_of_3 rfl hlv (by decide) rfl (fun ls hlv => ?_)
  refine lv_iload_n hx hb dX12_of_4 rfl (lv_at hlv 0 rfl) ?_
  refine lv_aload_n hx hb dX12_of_5 rfl (lv_at hlv 2 rfl) ?_
  refine cjr_i [] (fun pre9 => (va_runV (As := []) (rest := [vI 0]) ⟨hx, hb, hml, hown, hts⟩ (s_length l hl D cy sa 54 s.heap.size (by show (0 : Int) ≤ 54 ∧ (54 : Int) ≤ 55; decide)) (cwV 0 hts gg_0 rfl rfl rfl (by decide +kernel) ⟨Nat.le_of_ble_eq_true rfl, Nat.le_of_ble_eq_true rfl⟩) ⟨pcW.blind, (wo_recv (WD.tx hT.2.2 (54 : Int).toNat (by omega)).1 hS), pre9⟩ rfl rfl hlv.1 rfl (lv_room (Nat.le_of_ble_eq_true rfl)) dX12_of_6 ⟨Nat.le_of_ble_eq_true rfl, Nat.le_of_ble_eq_true rfl⟩)) hP hD hS hA hG hT [] rfl (by decide +kernel) (fun r1 u1 H locs hw1 hq9 hS => ?_)
  obtain ⟨rfl, hq1_1, hq1_2⟩ := hw1
  obtain ⟨hP, hD⟩ := pd9 [] hq9
  have hev1 : (u1.2.1 0) = 3 := by first | (rw [hq1_2]; rfl) | omega
  refine lt_i (y := iI 3) (by rw [show (u1.2.1 0) = 3 by omega]) ?_
  refine ir_ge (tgt := 31) hx hb dX12_of_9 (by decide) (by show ((-2147483648) : Int) ≤ 0 ∧ (0 : Int) ≤ 2147483647; decide) (by show ((-2147483648) : Int) ≤ 3 ∧ (3 : Int) ≤ 2147483647; decide) (fun c_1 => by exfalso; omega) (fun c_1 => ?_)
  refine lv_iload_n hx hb dX12_of_12 rfl (lv_at hlv 1 rfl) ?_
  refine lv_iconst (v := iI 5) hx hb dX12_of_13 (by decide) ?_
  refine lv_ishl hx hb dX12_of_14 ?_
  refine lt_i (y := iI 0) (by decide) ?_
  refine lv_aload_n hx hb dX12_of_15 rfl (lv_at hlv 2 rfl) ?_
  refine lv_iload_n hx hb dX12_of_16 rfl (lv_at hlv 0 rfl) ?_
  refine cjr_i [] (fun pre9 => (va_runV (As := [vI 0]) (rest := [vI 0]) ⟨hx, hb, hml, hown, hts⟩ (s_charAt l hl D cy sa 54 0 H.size (by show (0 : Int) ≤ 54 ∧ (54 : Int) ≤ 55; decide) (by show (0 : Int) ≤ 0 ∧ (0 : Int) ≤ 6; decide) (by omega)) (cwV 1 hts gg_1 rfl rfl rfl (by decide +kernel) ⟨Nat.le_of_ble_eq_true rfl, Nat.le_of_ble_eq_true rfl⟩) ⟨pcW.blind, (wo_recv (WD.tx hT.2.2 (54 : Int).toNat (by omega)).1 hS), pre9⟩ rfl rfl hlv.1 rfl (lv_room (Nat.le_of_ble_eq_true rfl)) dX12_of_17 ⟨Nat.le_of_ble_eq_true rfl, Nat.le_of_ble_eq_true rfl⟩)) hP hD hS hA hG hT [] rfl (by decide +kernel) (fun r2 u2 H locs hw2 hq9 hS => ?_)
  obtain ⟨rfl, hq2_1, hq2_2⟩ := hw2
  obtain ⟨hP, hD⟩ := pd9 [] hq9
  have hev2 : (u2.2.1 0) = 102 := by first | (rw [hq2_2]; rfl) | omega
  refine lt_i (y := iI 102) (by rw [show (u2.2.1 0) = 102 by omega]) ?_
  refine lv_bipush (v := iI 96) hx hb dX12_of_20 (by decide) ?_
  refine lv_isub hx hb dX12_of_22 ?_
  refine lt_i (y := iI 6) (by decide) ?_
  refine lv_ior hx hb dX12_of_23 ?_
  refine lt_i (y := iI 6) (by decide) ?_
  refine lv_istore_n (lv' := [(1, vI 6), (2, vI 0), (0, .ref (sn sa 54))]) hx hb dX12_of_24 rfl hlv (by decide) rfl (fun ls hlv => ?_)
  refine lv_iinc (v := iI 1) (lv' := [(2, vI 1), (1, vI 6), (0, .ref (sn sa 54))]) hx hb dX12_of_25 hlv (k := 1) rfl (by decide) (by decide) rfl (fun ls hlv => ?_)
  refine lv_goto (tgt := 4) hx hb dX12_of_28 (by decide) ?_
  refine lv_iload_n hx hb dX12_of_4 rfl (lv_at hlv 0 rfl) ?_
  refine lv_aload_n hx hb dX12_of_5 rfl (lv_at hlv 2 rfl) ?_
  refine cjr_i [] (fun pre9 => (va_runV (As := []) (rest := [vI 1]) ⟨hx, hb, hml, hown, hts⟩ (s_length l hl D cy sa 54 H.size (by show (0 : Int) ≤ 54 ∧ (54 : Int) ≤ 55; decide)) (cwV 0 hts gg_0 rfl rfl rfl (by decide +kernel) ⟨Nat.le_of_ble_eq_true rfl, Nat.le_of_ble_eq_true rfl⟩) ⟨pcW.blind, (wo_recv (WD.tx hT.2.2 (54 : Int).toNat (by omega)).1 hS), pre9⟩ rfl rfl hlv.1 rfl (lv_room (Nat.le_of_ble_eq_true rfl)) dX12_of_6 ⟨Nat.le_of_ble_eq_true rfl, Nat.le_of_ble_eq_true rfl⟩)) hP hD hS hA hG hT [] rfl (by decide +kernel) (fun r3 u3 H locs hw3 hq9 hS => ?_)
  obtain ⟨rfl, hq3_1, hq3_2⟩ := hw3
  obtain ⟨hP, hD⟩ := pd9 [] hq9
  have hev3 : (u3.2.1 0) = 3 := by first | (rw [hq3_2]; rfl) | omega
  refine lt_i (y := iI 3) (by rw [show (u3.2.1 0) = 3 by omega]) ?_
  refine ir_ge (tgt := 31) hx hb dX12_of_9 (by decide) (by show ((-2147483648) : Int) ≤ 1 ∧ (1 : Int) ≤ 2147483647; decide) (by show ((-2147483648) : Int) ≤ 3 ∧ (3 : Int) ≤ 2147483647; decide) (fun c_2 => by exfalso; omega) (fun c_2 => ?_)
  refine lv_iload_n hx hb dX12_of_12 rfl (lv_at hlv 1 rfl) ?_
  refine lv_iconst (v := iI 5) hx hb dX12_of_13 (by decide) ?_
  refine lv_ishl hx hb dX12_of_14 ?_
  refine lt_i (y := iI 192) (by decide) ?_
  refine lv_aload_n hx hb dX12_of_15 rfl (lv_at hlv 2 rfl) ?_
  refine lv_iload_n hx hb dX12_of_16 rfl (lv_at hlv 0 rfl) ?_
  refine cjr_i [] (fun pre9 => (va_runV (As := [vI 1]) (rest := [vI 192]) ⟨hx, hb, hml, hown, hts⟩ (s_charAt l hl D cy sa 54 1 H.size (by show (0 : Int) ≤ 54 ∧ (54 : Int) ≤ 55; decide) (by show (0 : Int) ≤ 1 ∧ (1 : Int) ≤ 6; decide) (by omega)) (cwV 1 hts gg_1 rfl rfl rfl (by decide +kernel) ⟨Nat.le_of_ble_eq_true rfl, Nat.le_of_ble_eq_true rfl⟩) ⟨pcW.blind, (wo_recv (WD.tx hT.2.2 (54 : Int).toNat (by omega)).1 hS), pre9⟩ rfl rfl hlv.1 rfl (lv_room (Nat.le_of_ble_eq_true rfl)) dX12_of_17 ⟨Nat.le_of_ble_eq_true rfl, Nat.le_of_ble_eq_true rfl⟩)) hP hD hS hA hG hT [] rfl (by decide +kernel) (fun r4 u4 H locs hw4 hq9 hS => ?_)
  obtain ⟨rfl, hq4_1, hq4_2⟩ := hw4
  obtain ⟨hP, hD⟩ := pd9 [] hq9
  have hev4 : (u4.2.1 0) = 97 := by first | (rw [hq4_2]; rfl) | omega
  refine lt_i (y := iI 97) (by rw [show (u4.2.1 0) = 97 by omega]) ?_
  refine lv_bipush (v := iI 96) hx hb dX12_of_20 (by decide) ?_
  refine lv_isub hx hb dX12_of_22 ?_
  refine lt_i (y := iI 1) (by decide) ?_
  refine lv_ior hx hb dX12_of_23 ?_
  refine lt_i (y := iI 193) (by decide) ?_
  refine lv_istore_n (lv' := [(1, vI 193), (2, vI 1), (0, .ref (sn sa 54))]) hx hb dX12_of_24 rfl hlv (by decide) rfl (fun ls hlv => ?_)
  refine lv_iinc (v := iI 2) (lv' := [(2, vI 2), (1, vI 193), (0, .ref (sn sa 54))]) hx hb dX12_of_25 hlv (k := 1) rfl (by decide) (by decide) rfl (fun ls hlv => ?_)
  refine lv_goto (tgt := 4) hx hb dX12_of_28 (by decide) ?_
  refine lv_iload_n hx hb dX12_of_4 rfl (lv_at hlv 0 rfl) ?_
  refine lv_aload_n hx hb dX12_of_5 rfl (lv_at hlv 2 rfl) ?_
  refine cjr_i [] (fun pre9 => (va_runV (As := []) (rest := [vI 2]) ⟨hx, hb, hml, hown, hts⟩ (s_length l hl D cy sa 54 H.size (by show (0 : Int) ≤ 54 ∧ (54 : Int) ≤ 55; decide)) (cwV 0 hts gg_0 rfl rfl rfl (by decide +kernel) ⟨Nat.le_of_ble_eq_true rfl, Nat.le_of_ble_eq_true rfl⟩) ⟨pcW.blind, (wo_recv (WD.tx hT.2.2 (54 : Int).toNat (by omega)).1 hS), pre9⟩ rfl rfl hlv.1 rfl (lv_room (Nat.le_of_ble_eq_true rfl)) dX12_of_6 ⟨Nat.le_of_ble_eq_true rfl, Nat.le_of_ble_eq_true rfl⟩)) hP hD hS hA hG hT [] rfl (by decide +kernel) (fun r5 u5 H locs hw5 hq9 hS => ?_)
  obtain ⟨rfl, hq5_1, hq5_2⟩ := hw5
  obtain ⟨hP, hD⟩ := pd9 [] hq9
  have hev5 : (u5.2.1 0) = 3 := by first | (rw [hq5_2]; rfl) | omega
  refine lt_i (y := iI 3) (by rw [show (u5.2.1 0) = 3 by omega]) ?_
  refine ir_ge (tgt := 31) hx hb dX12_of_9 (by decide) (by show ((-2147483648) : Int) ≤ 2 ∧ (2 : Int) ≤ 2147483647; decide) (by show ((-2147483648) : Int) ≤ 3 ∧ (3 : Int) ≤ 2147483647; decide) (fun c_3 => by exfalso; omega) (fun c_3 => ?_)
  refine lv_iload_n hx hb dX12_of_12 rfl (lv_at hlv 1 rfl) ?_
  refine lv_iconst (v := iI 5) hx hb dX12_of_13 (by decide) ?_
  refine lv_ishl hx hb dX12_of_14 ?_
  refine lt_i (y := iI 6176) (by decide) ?_
  refine lv_aload_n hx hb dX12_of_15 rfl (lv_at hlv 2 rfl) ?_
  refine lv_iload_n hx hb dX12_of_16 rfl (lv_at hlv 0 rfl) ?_
  refine cjr_i [] (fun pre9 => (va_runV (As := [vI 2]) (rest := [vI 6176]) ⟨hx, hb, hml, hown, hts⟩ (s_charAt l hl D cy sa 54 2 H.size (by show (0 : Int) ≤ 54 ∧ (54 : Int) ≤ 55; decide) (by show (0 : Int) ≤ 2 ∧ (2 : Int) ≤ 6; decide) (by omega)) (cwV 1 hts gg_1 rfl rfl rfl (by decide +kernel) ⟨Nat.le_of_ble_eq_true rfl, Nat.le_of_ble_eq_true rfl⟩) ⟨pcW.blind, (wo_recv (WD.tx hT.2.2 (54 : Int).toNat (by omega)).1 hS), pre9⟩ rfl rfl hlv.1 rfl (lv_room (Nat.le_of_ble_eq_true rfl)) dX12_of_17 ⟨Nat.le_of_ble_eq_true rfl, Nat.le_of_ble_eq_true rfl⟩)) hP hD hS hA hG hT [] rfl (by decide +kernel) (fun r6 u6 H locs hw6 hq9 hS => ?_)
  obtain ⟨rfl, hq6_1, hq6_2⟩ := hw6
  obtain ⟨hP, hD⟩ := pd9 [] hq9
  have hev6 : (u6.2.1 0) = 114 := by first | (rw [hq6_2]; rfl) | omega
  refine lt_i (y := iI 114) (by rw [show (u6.2.1 0) = 114 by omega]) ?_
  refine lv_bipush (v := iI 96) hx hb dX12_of_20 (by decide) ?_
  refine lv_isub hx hb dX12_of_22 ?_
  refine lt_i (y := iI 18) (by decide) ?_
  refine lv_ior hx hb dX12_of_23 ?_
  refine lt_i (y := iI 6194) (by decide) ?_
  refine lv_istore_n (lv' := [(1, vI 6194), (2, vI 2), (0, .ref (sn sa 54))]) hx hb dX12_of_24 rfl hlv (by decide) rfl (fun ls hlv => ?_)
  refine lv_iinc (v := iI 3) (lv' := [(2, vI 3), (1, vI 6194), (0, .ref (sn sa 54))]) hx hb dX12_of_25 hlv (k := 1) rfl (by decide) (by decide) rfl (fun ls hlv => ?_)
  refine lv_goto (tgt := 4) hx hb dX12_of_28 (by decide) ?_
  refine lv_iload_n hx hb dX12_of_4 rfl (lv_at hlv 0 rfl) ?_
  refine lv_aload_n hx hb dX12_of_5 rfl (lv_at hlv 2 rfl) ?_
  refine cjr_i [] (fun pre9 => (va_runV (As := []) (rest := [vI 3]) ⟨hx, hb, hml, hown, hts⟩ (s_length l hl D cy sa 54 H.size (by show (0 : Int) ≤ 54 ∧ (54 : Int) ≤ 55; decide)) (cwV 0 hts gg_0 rfl rfl rfl (by decide +kernel) ⟨Nat.le_of_ble_eq_true rfl, Nat.le_of_ble_eq_true rfl⟩) ⟨pcW.blind, (wo_recv (WD.tx hT.2.2 (54 : Int).toNat (by omega)).1 hS), pre9⟩ rfl rfl hlv.1 rfl (lv_room (Nat.le_of_ble_eq_true rfl)) dX12_of_6 ⟨Nat.le_of_ble_eq_true rfl, Nat.le_of_ble_eq_true rfl⟩)) hP hD hS hA hG hT [] rfl (by decide +kernel) (fun r7 u7 H locs hw7 hq9 hS => ?_)
  obtain ⟨rfl, hq7_1, hq7_2⟩ := hw7
  obtain ⟨hP, hD⟩ := pd9 [] hq9
  have hev7 : (u7.2.1 0) = 3 := by first | (rw [hq7_2]; rfl) | omega
  refine lt_i (y := iI 3) (by rw [show (u7.2.1 0) = 3 by omega]) ?_
  refine ir_ge (tgt := 31) hx hb dX12_of_9 (by decide) (by show ((-2147483648) : Int) ≤ 3 ∧ (3 : Int) ≤ 2147483647; decide) (by show ((-2147483648) : Int) ≤ 3 ∧ (3 : Int) ≤ 2147483647; decide) (fun c_4 => ?_) (fun c_4 => by exfalso; omega)
  refine lv_iload_n hx hb dX12_of_31 rfl (lv_at hlv 1 rfl) ?_
  refine W.widen (k := 0) (n := 0) (Nat.le_of_ble_eq_true rfl) (Nat.le_of_ble_eq_true rfl) ?_
  exact W.iret (v := iI 6194) hx hb hr (fun t ht hW => ⟨⟨iI 6194, ((fun k => ([] : List Nat).getD k 0), (fun k => ([6194] : List Int).getD k 0), (fun k => ([] : List (Nat → Int32)).getD k (fun _ => 0))), rfl, ⟨rfl, (by show (6194 ≤ 6194 ∧ 6194 ≤ 6194); show (6194 : Int) ≤ 6194 ∧ (6194 : Int) ≤ 6194; decide)⟩, at9 ht hP hD [] (by decide +kernel) rfl⟩, hS.F ht⟩) hS.2.2 dX12_of_32
def vs_m_of27 : List Cond := .code yX12_of cX12_of 3 (some .int) :: (([] : List Cond) ++ ((wsV RX12 100 RJ0 yJ0_length_8abf5 vs_s_length) ++ ((wsV RX12 105 RJ0 yJ0_charAt_5068e vs_s_charAt) ++ ([]))))
theorem gd_m_of27 : vs_m_of27.all goodWord = true := gd_C (by decide +kernel) (gd_A (by decide +kernel) (gd_A (gd_V gd_s_length (by decide +kernel)) (gd_A (gd_V gd_s_charAt (by decide +kernel)) rfl)))
set_option maxHeartbeats 4000000 in
set_option maxRecDepth 100000 in
theorem m_of27 (l : Launch) (hl : l.stackTraces = false) (D : va_G) (cy : Nat → ClassId) (sa : Nat → Nat)  (sz : Nat) : mI9 l yX12_of vs_m_of27 ({ frames := 4, cells := 0, slots := 0, locals := 85 }) D cy sa sz [.ref (sn sa 55)] [] (fun (r : Int32) (u : SV) => r = iI (u.2.1 0) ∧ (542622085 ≤ u.2.1 0 ∧ u.2.1 0 ≤ 542622085)) (fun u : SV => []) 0 0 := by
  refine Met.ofW (cc := cX12_of) (maxL := 3) (ret := (some .int)) (by decide) rfl ?_
  intro p e s m args below meth c s₁ B hml hv
  obtain ⟨rfl, hsz, hP, hG, hD0, hT⟩ := hv
  have hx := B.exec
  have hb := B.bytes
  have hr := B.returns
  have hts := atoms_spec (ws := vs_m_of27) B.pre
  have hown : s.vm.findClass RX12 = some m.cls := findClass_of_methodNamed B.named
  have hlocks := B.notSynchronized
  subst hsz
  have hD := hD0.self (sz := s.heap.size)
  generalize hAe : va_A [] s.heap.size = A at hD hT ⊢
  have hA : ∀ q : Nat, s.heap.size ≤ q → A q := fun q h => by rw [← hAe]; exact Or.inr h
  have hS : va_S A s.heap s.heap [] := va_S.rf
  have hl0 := lv_entry ([.ref (sn sa 55)]) (n := 3) (Nat.le_of_ble_eq_true rfl)
  rw [lg_entry_eq]
  generalize (lg_sl ([.ref (sn sa 55)]) ++ List.replicate (3 - (lg_sl ([.ref (sn sa 55)])).length) Slot.unset).toArray = ls at hl0 ⊢
  have hlv : lv_has ls 3 [(0, .ref (sn sa 55))] := hl0
  have gg_0 : GoodIn vs_m_of27 (wsV RX12 100 RJ0 yJ0_length_8abf5 vs_s_length) := goodIn_sub (fun w h => List.mem_cons_of_mem _ (List.mem_append_right _ (List.mem_append_left _ h))) (gd_V gd_s_length (by decide +kernel))
  have gg_1 : GoodIn vs_m_of27 (wsV RX12 105 RJ0 yJ0_charAt_5068e vs_s_charAt) := goodIn_sub (fun w h => List.mem_cons_of_mem _ (List.mem_append_right _ (List.mem_append_right _ (List.mem_append_left _ h)))) (gd_V gd_s_charAt (by decide +kernel))
  refine lv_iconst (v := iI 0) hx hb dX12_of_0 (by decide) ?_
  refine lv_istore_n (lv' := [(1, vI 0), (0, .ref (sn sa 55))]) hx hb dX12_of_1 rfl hlv (by decide) rfl (fun ls hlv => ?_)
  refine lv_iconst (v := iI 0) hx hb dX12_of_2 (by decide) ?_
  refine lv_istore_n (lv' := [(2, vI 0), (1, vI 0), (0, .ref (sn sa 55))]) hx hb dX12_of_3 rfl hlv (by decide) rfl (fun ls hlv => ?_)
  refine lv_iload_n hx hb dX12_of_4 rfl (lv_at hlv 0 rfl) ?_
  refine lv_aload_n hx hb dX12_of_5 rfl (lv_at hlv 2 rfl) ?_
  refine cjr_i [] (fun pre9 => (va_runV (As := []) (rest := [vI 0]) ⟨hx, hb, hml, hown, hts⟩ (s_length l hl D cy sa 55 s.heap.size (by show (0 : Int) ≤ 55 ∧ (55 : Int) ≤ 55; decide)) (cwV 0 hts gg_0 rfl rfl rfl (by decide +kernel) ⟨Nat.le_of_ble_eq_true rfl, Nat.le_of_ble_eq_true rfl⟩) ⟨pcW.blind, (wo_recv (WD.tx hT.2.2 (55 : Int).toNat (by omega)).1 hS), pre9⟩ rfl rfl hlv.1 rfl (lv_room (Nat.le_of_ble_eq_true rfl)) dX12_of_6 ⟨Nat.le_of_ble_eq_true rfl, Nat.le_of_ble_eq_true rfl⟩)) hP hD hS hA hG hT [] rfl (by decide +kernel) (fun r1 u1 H locs hw1 hq9 hS => ?_)
  obtain ⟨rfl, hq1_1, hq1_2⟩ := hw1
  obtain ⟨hP, hD⟩ := pd9 [] hq9
  have hev1 : (u1.2.1 0) = 6 := by first | (rw [hq1_2]; rfl) | omega
  refine lt_i (y := iI 6) (by rw [show (u1.2.1 0) = 6 by omega]) ?_
  refine ir_ge (tgt := 31) hx hb dX12_of_9 (by decide) (by show ((-2147483648) : Int) ≤ 0 ∧ (0 : Int) ≤ 2147483647; decide) (by show ((-2147483648) : Int) ≤ 6 ∧ (6 : Int) ≤ 2147483647; decide) (fun c_1 => by exfalso; omega) (fun c_1 => ?_)
  refine lv_iload_n hx hb dX12_of_12 rfl (lv_at hlv 1 rfl) ?_
  refine lv_iconst (v := iI 5) hx hb dX12_of_13 (by decide) ?_
  refine lv_ishl hx hb dX12_of_14 ?_
  refine lt_i (y := iI 0) (by decide) ?_
  refine lv_aload_n hx hb dX12_of_15 rfl (lv_at hlv 2 rfl) ?_
  refine lv_iload_n hx hb dX12_of_16 rfl (lv_at hlv 0 rfl) ?_
  refine cjr_i [] (fun pre9 => (va_runV (As := [vI 0]) (rest := [vI 0]) ⟨hx, hb, hml, hown, hts⟩ (s_charAt l hl D cy sa 55 0 H.size (by show (0 : Int) ≤ 55 ∧ (55 : Int) ≤ 55; decide) (by show (0 : Int) ≤ 0 ∧ (0 : Int) ≤ 6; decide) (by omega)) (cwV 1 hts gg_1 rfl rfl rfl (by decide +kernel) ⟨Nat.le_of_ble_eq_true rfl, Nat.le_of_ble_eq_true rfl⟩) ⟨pcW.blind, (wo_recv (WD.tx hT.2.2 (55 : Int).toNat (by omega)).1 hS), pre9⟩ rfl rfl hlv.1 rfl (lv_room (Nat.le_of_ble_eq_true rfl)) dX12_of_17 ⟨Nat.le_of_ble_eq_true rfl, Nat.le_of_ble_eq_true rfl⟩)) hP hD hS hA hG hT [] rfl (by decide +kernel) (fun r2 u2 H locs hw2 hq9 hS => ?_)
  obtain ⟨rfl, hq2_1, hq2_2⟩ := hw2
  obtain ⟨hP, hD⟩ := pd9 [] hq9
  have hev2 : (u2.2.1 0) = 112 := by first | (rw [hq2_2]; rfl) | omega
  refine lt_i (y := iI 112) (by rw [show (u2.2.1 0) = 112 by omega]) ?_
  refine lv_bipush (v := iI 96) hx hb dX12_of_20 (by decide) ?_
  refine lv_isub hx hb dX12_of_22 ?_
  refine lt_i (y := iI 16) (by decide) ?_
  refine lv_ior hx hb dX12_of_23 ?_
  refine lt_i (y := iI 16) (by decide) ?_
  refine lv_istore_n (lv' := [(1, vI 16), (2, vI 0), (0, .ref (sn sa 55))]) hx hb dX12_of_24 rfl hlv (by decide) rfl (fun ls hlv => ?_)
  refine lv_iinc (v := iI 1) (lv' := [(2, vI 1), (1, vI 16), (0, .ref (sn sa 55))]) hx hb dX12_of_25 hlv (k := 1) rfl (by decide) (by decide) rfl (fun ls hlv => ?_)
  refine lv_goto (tgt := 4) hx hb dX12_of_28 (by decide) ?_
  refine lv_iload_n hx hb dX12_of_4 rfl (lv_at hlv 0 rfl) ?_
  refine lv_aload_n hx hb dX12_of_5 rfl (lv_at hlv 2 rfl) ?_
  refine cjr_i [] (fun pre9 => (va_runV (As := []) (rest := [vI 1]) ⟨hx, hb, hml, hown, hts⟩ (s_length l hl D cy sa 55 H.size (by show (0 : Int) ≤ 55 ∧ (55 : Int) ≤ 55; decide)) (cwV 0 hts gg_0 rfl rfl rfl (by decide +kernel) ⟨Nat.le_of_ble_eq_true rfl, Nat.le_of_ble_eq_true rfl⟩) ⟨pcW.blind, (wo_recv (WD.tx hT.2.2 (55 : Int).toNat (by omega)).1 hS), pre9⟩ rfl rfl hlv.1 rfl (lv_room (Nat.le_of_ble_eq_true rfl)) dX12_of_6 ⟨Nat.le_of_ble_eq_true rfl, Nat.le_of_ble_eq_true rfl⟩)) hP hD hS hA hG hT [] rfl (by decide +kernel) (fun r3 u3 H locs hw3 hq9 hS => ?_)
  obtain ⟨rfl, hq3_1, hq3_2⟩ := hw3
  obtain ⟨hP, hD⟩ := pd9 [] hq9
  have hev3 : (u3.2.1 0) = 6 := by first | (rw [hq3_2]; rfl) | omega
  refine lt_i (y := iI 6) (by rw [show (u3.2.1 0) = 6 by omega]) ?_
  refine ir_ge (tgt := 31) hx hb dX12_of_9 (by decide) (by show ((-2147483648) : Int) ≤ 1 ∧ (1 : Int) ≤ 2147483647; decide) (by show ((-2147483648) : Int) ≤ 6 ∧ (6 : Int) ≤ 2147483647; decide) (fun c_2 => by exfalso; omega) (fun c_2 => ?_)
  refine lv_iload_n hx hb dX12_of_12 rfl (lv_at hlv 1 rfl) ?_
  refine lv_iconst (v := iI 5) hx hb dX12_of_13 (by decide) ?_
  refine lv_ishl hx hb dX12_of_14 ?_
  refine lt_i (y := iI 512) (by decide) ?_
  refine lv_aload_n hx hb dX12_of_15 rfl (lv_at hlv 2 rfl) ?_
  refine lv_iload_n hx hb dX12_of_16 rfl (lv_at hlv 0 rfl) ?_
  refine cjr_i [] (fun pre9 => (va_runV (As := [vI 1]) (rest := [vI 512]) ⟨hx, hb, hml, hown, hts⟩ (s_charAt l hl D cy sa 55 1 H.size (by show (0 : Int) ≤ 55 ∧ (55 : Int) ≤ 55; decide) (by show (0 : Int) ≤ 1 ∧ (1 : Int) ≤ 6; decide) (by omega)) (cwV 1 hts gg_1 rfl rfl rfl (by decide +kernel) ⟨Nat.le_of_ble_eq_true rfl, Nat.le_of_ble_eq_true rfl⟩) ⟨pcW.blind, (wo_recv (WD.tx hT.2.2 (55 : Int).toNat (by omega)).1 hS), pre9⟩ rfl rfl hlv.1 rfl (lv_room (Nat.le_of_ble_eq_true rfl)) dX12_of_17 ⟨Nat.le_of_ble_eq_true rfl, Nat.le_of_ble_eq_true rfl⟩)) hP hD hS hA hG hT [] rfl (by decide +kernel) (fun r4 u4 H locs hw4 hq9 hS => ?_)
  obtain ⟨rfl, hq4_1, hq4_2⟩ := hw4
  obtain ⟨hP, hD⟩ := pd9 [] hq9
  have hev4 : (u4.2.1 0) = 101 := by first | (rw [hq4_2]; rfl) | omega
  refine lt_i (y := iI 101) (by rw [show (u4.2.1 0) = 101 by omega]) ?_
  refine lv_bipush (v := iI 96) hx hb dX12_of_20 (by decide) ?_
  refine lv_isub hx hb dX12_of_22 ?_
  refine lt_i (y := iI 5) (by decide) ?_
  refine lv_ior hx hb dX12_of_23 ?_
  refine lt_i (y := iI 517) (by decide) ?_
  refine lv_istore_n (lv' := [(1, vI 517), (2, vI 1), (0, .ref (sn sa 55))]) hx hb dX12_of_24 rfl hlv (by decide) rfl (fun ls hlv => ?_)
  refine lv_iinc (v := iI 2) (lv' := [(2, vI 2), (1, vI 517), (0, .ref (sn sa 55))]) hx hb dX12_of_25 hlv (k := 1) rfl (by decide) (by decide) rfl (fun ls hlv => ?_)
  refine lv_goto (tgt := 4) hx hb dX12_of_28 (by decide) ?_
  refine lv_iload_n hx hb dX12_of_4 rfl (lv_at hlv 0 rfl) ?_
  refine lv_aload_n hx hb dX12_of_5 rfl (lv_at hlv 2 rfl) ?_
  refine cjr_i [] (fun pre9 => (va_runV (As := []) (rest := [vI 2]) ⟨hx, hb, hml, hown, hts⟩ (s_length l hl D cy sa 55 H.size (by show (0 : Int) ≤ 55 ∧ (55 : Int) ≤ 55; decide)) (cwV 0 hts gg_0 rfl rfl rfl (by decide +kernel) ⟨Nat.le_of_ble_eq_true rfl, Nat.le_of_ble_eq_true rfl⟩) ⟨pcW.blind, (wo_recv (WD.tx hT.2.2 (55 : Int).toNat (by omega)).1 hS), pre9⟩ rfl rfl hlv.1 rfl (lv_room (Nat.le_of_ble_eq_true rfl)) dX12_of_6 ⟨Nat.le_of_ble_eq_true rfl, Nat.le_of_ble_eq_true rfl⟩)) hP hD hS hA hG hT [] rfl (by decide +kernel) (fun r5 u5 H locs hw5 hq9 hS => ?_)
  obtain ⟨rfl, hq5_1, hq5_2⟩ := hw5
  obtain ⟨hP, hD⟩ := pd9 [] hq9
  have hev5 : (u5.2.1 0) = 6 := by first | (rw [hq5_2]; rfl) | omega
  refine lt_i (y := iI 6) (by rw [show (u5.2.1 0) = 6 by omega]) ?_
  refine ir_ge (tgt := 31) hx hb dX12_of_9 (by decide) (by show ((-2147483648) : Int) ≤ 2 ∧ (2 : Int) ≤ 2147483647; decide) (by show ((-2147483648) : Int) ≤ 6 ∧ (6 : Int) ≤ 2147483647; decide) (fun c_3 => by exfalso; omega) (fun c_3 => ?_)
  refine lv_iload_n hx hb dX12_of_12 rfl (lv_at hlv 1 rfl) ?_
  refine lv_iconst (v := iI 5) hx hb dX12_of_13 (by decide) ?_
  refine lv_ishl hx hb dX12_of_14 ?_
  refine lt_i (y := iI 16544) (by decide) ?_
  refine lv_aload_n hx hb dX12_of_15 rfl (lv_at hlv 2 rfl) ?_
  refine lv_iload_n hx hb dX12_of_16 rfl (lv_at hlv 0 rfl) ?_
  refine cjr_i [] (fun pre9 => (va_runV (As := [vI 2]) (rest := [vI 16544]) ⟨hx, hb, hml, hown, hts⟩ (s_charAt l hl D cy sa 55 2 H.size (by show (0 : Int) ≤ 55 ∧ (55 : Int) ≤ 55; decide) (by show (0 : Int) ≤ 2 ∧ (2 : Int) ≤ 6; decide) (by omega)) (cwV 1 hts gg_1 rfl rfl rfl (by decide +kernel) ⟨Nat.le_of_ble_eq_true rfl, Nat.le_of_ble_eq_true rfl⟩) ⟨pcW.blind, (wo_recv (WD.tx hT.2.2 (55 : Int).toNat (by omega)).1 hS), pre9⟩ rfl rfl hlv.1 rfl (lv_room (Nat.le_of_ble_eq_true rfl)) dX12_of_17 ⟨Nat.le_of_ble_eq_true rfl, Nat.le_of_ble_eq_true rfl⟩)) hP hD hS hA hG hT [] rfl (by decide +kernel) (fun r6 u6 H locs hw6 hq9 hS => ?_)
  obtain ⟨rfl, hq6_1, hq6_2⟩ := hw6
  obtain ⟨hP, hD⟩ := pd9 [] hq9
  have hev6 : (u6.2.1 0) = 111 := by first | (rw [hq6_2]; rfl) | omega
  refine lt_i (y := iI 111) (by rw [show (u6.2.1 0) = 111 by omega]) ?_
  refine lv_bipush (v := iI 96) hx hb dX12_of_20 (by decide) ?_
  refine lv_isub hx hb dX12_of_22 ?_
  refine lt_i (y := iI 15) (by decide) ?_
  refine lv_ior hx hb dX12_of_23 ?_
  refine lt_i (y := iI 16559) (by decide) ?_
  refine lv_istore_n (lv' := [(1, vI 16559), (2, vI 2), (0, .ref (sn sa 55))]) hx hb dX12_of_24 rfl hlv (by decide) rfl (fun ls hlv => ?_)
  refine lv_iinc (v := iI 3) (lv' := [(2, vI 3), (1, vI 16559), (0, .ref (sn sa 55))]) hx hb dX12_of_25 hlv (k := 1) rfl (by decide) (by decide) rfl (fun ls hlv => ?_)
  refine lv_goto (tgt := 4) hx hb dX12_of_28 (by decide) ?_
  refine lv_iload_n hx hb dX12_of_4 rfl (lv_at hlv 0 rfl) ?_
  refine lv_aload_n hx hb dX12_of_5 rfl (lv_at hlv 2 rfl) ?_
  refine cjr_i [] (fun pre9 => (va_runV (As := []) (rest := [vI 3]) ⟨hx, hb, hml, hown, hts⟩ (s_length l hl D cy sa 55 H.size (by show (0 : Int) ≤ 55 ∧ (55 : Int) ≤ 55; decide)) (cwV 0 hts gg_0 rfl rfl rfl (by decide +kernel) ⟨Nat.le_of_ble_eq_true rfl, Nat.le_of_ble_eq_true rfl⟩) ⟨pcW.blind, (wo_recv (WD.tx hT.2.2 (55 : Int).toNat (by omega)).1 hS), pre9⟩ rfl rfl hlv.1 rfl (lv_room (Nat.le_of_ble_eq_true rfl)) dX12_of_6 ⟨Nat.le_of_ble_eq_true rfl, Nat.le_of_ble_eq_true rfl⟩)) hP hD hS hA hG hT [] rfl (by decide +kernel) (fun r7 u7 H locs hw7 hq9 hS => ?_)
  obtain ⟨rfl, hq7_1, hq7_2⟩ := hw7
  obtain ⟨hP, hD⟩ := pd9 [] hq9
  have hev7 : (u7.2.1 0) = 6 := by first | (rw [hq7_2]; rfl) | omega
  refine lt_i (y := iI 6) (by rw [show (u7.2.1 0) = 6 by omega]) ?_
  refine ir_ge (tgt := 31) hx hb dX12_of_9 (by decide) (by show ((-2147483648) : Int) ≤ 3 ∧ (3 : Int) ≤ 2147483647; decide) (by show ((-2147483648) : Int) ≤ 6 ∧ (6 : Int) ≤ 2147483647; decide) (fun c_4 => by exfalso; omega) (fun c_4 => ?_)
  refine lv_iload_n hx hb dX12_of_12 rfl (lv_at hlv 1 rfl) ?_
  refine lv_iconst (v := iI 5) hx hb dX12_of_13 (by decide) ?_
  refine lv_ishl hx hb dX12_of_14 ?_
  refine lt_i (y := iI 529888) (by decide) ?_
  refine lv_aload_n hx hb dX12_of_15 rfl (lv_at hlv 2 rfl) ?_
  refine lv_iload_n hx hb dX12_of_16 rfl (lv_at hlv 0 rfl) ?_
  refine cjr_i [] (fun pre9 => (va_runV (As := [vI 3]) (rest := [vI 529888]) ⟨hx, hb, hml, hown, hts⟩ (s_charAt l hl D cy sa 55 3 H.size (by show (0 : Int) ≤ 55 ∧ (55 : Int) ≤ 55; decide) (by show (0 : Int) ≤ 3 ∧ (3 : Int) ≤ 6; decide) (by omega)) (cwV 1 hts gg_1 rfl rfl rfl (by decide +kernel) ⟨Nat.le_of_ble_eq_true rfl, Nat.le_of_ble_eq_true rfl⟩) ⟨pcW.blind, (wo_recv (WD.tx hT.2.2 (55 : Int).toNat (by omega)).1 hS), pre9⟩ rfl rfl hlv.1 rfl (lv_room (Nat.le_of_ble_eq_true rfl)) dX12_of_17 ⟨Nat.le_of_ble_eq_true rfl, Nat.le_of_ble_eq_true rfl⟩)) hP hD hS hA hG hT [] rfl (by decide +kernel) (fun r8 u8 H locs hw8 hq9 hS => ?_)
  obtain ⟨rfl, hq8_1, hq8_2⟩ := hw8
  obtain ⟨hP, hD⟩ := pd9 [] hq9
  have hev8 : (u8.2.1 0) = 112 := by first | (rw [hq8_2]; rfl) | omega
  refine lt_i (y := iI 112) (by rw [show (u8.2.1 0) = 112 by omega]) ?_
  refine lv_bipush (v := iI 96) hx hb dX12_of_20 (by decide) ?_
  refine lv_isub hx hb dX12_of_22 ?_
  refine lt_i (y := iI 16) (by decide) ?_
  refine lv_ior hx hb dX12_of_23 ?_
  refine lt_i (y := iI 529904) (by decide) ?_
  refine lv_istore_n (lv' := [(1, vI 529904), (2, vI 3), (0, .ref (sn sa 55))]) hx hb dX12_of_24 rfl hlv (by decide) rfl (fun ls hlv => ?_)
  refine lv_iinc (v := iI 4) (lv' := [(2, vI 4), (1, vI 529904), (0, .ref (sn sa 55))]) hx hb dX12_of_25 hlv (k := 1) rfl (by decide) (by decide) rfl (fun ls hlv => ?_)
  refine lv_goto (tgt := 4) hx hb dX12_of_28 (by decide) ?_
  refine lv_iload_n hx hb dX12_of_4 rfl (lv_at hlv 0 rfl) ?_
  refine lv_aload_n hx hb dX12_of_5 rfl (lv_at hlv 2 rfl) ?_
  refine cjr_i [] (fun pre9 => (va_runV (As := []) (rest := [vI 4]) ⟨hx, hb, hml, hown, hts⟩ (s_length l hl D cy sa 55 H.size (by show (0 : Int) ≤ 55 ∧ (55 : Int) ≤ 55; decide)) (cwV 0 hts gg_0 rfl rfl rfl (by decide +kernel) ⟨Nat.le_of_ble_eq_true rfl, Nat.le_of_ble_eq_true rfl⟩) ⟨pcW.blind, (wo_recv (WD.tx hT.2.2 (55 : Int).toNat (by omega)).1 hS), pre9⟩ rfl rfl hlv.1 rfl (lv_room (Nat.le_of_ble_eq_true rfl)) dX12_of_6 ⟨Nat.le_of_ble_eq_true rfl, Nat.le_of_ble_eq_true rfl⟩)) hP hD hS hA hG hT [] rfl (by decide +kernel) (fun r9 u9 H locs hw9 hq9 hS => ?_)
  obtain ⟨rfl, hq9_1, hq9_2⟩ := hw9
  obtain ⟨hP, hD⟩ := pd9 [] hq9
  have hev9 : (u9.2.1 0) = 6 := by first | (rw [hq9_2]; rfl) | omega
  refine lt_i (y := iI 6) (by rw [show (u9.2.1 0) = 6 by omega]) ?_
  refine ir_ge (tgt := 31) hx hb dX12_of_9 (by decide) (by show ((-2147483648) : Int) ≤ 4 ∧ (4 : Int) ≤ 2147483647; decide) (by show ((-2147483648) : Int) ≤ 6 ∧ (6 : Int) ≤ 2147483647; decide) (fun c_5 => by exfalso; omega) (fun c_5 => ?_)
  refine lv_iload_n hx hb dX12_of_12 rfl (lv_at hlv 1 rfl) ?_
  refine lv_iconst (v := iI 5) hx hb dX12_of_13 (by decide) ?_
  refine lv_ishl hx hb dX12_of_14 ?_
  refine lt_i (y := iI 16956928) (by decide) ?_
  refine lv_aload_n hx hb dX12_of_15 rfl (lv_at hlv 2 rfl) ?_
  refine lv_iload_n hx hb dX12_of_16 rfl (lv_at hlv 0 rfl) ?_
  refine cjr_i [] (fun pre9 => (va_runV (As := [vI 4]) (rest := [vI 16956928]) ⟨hx, hb, hml, hown, hts⟩ (s_charAt l hl D cy sa 55 4 H.size (by show (0 : Int) ≤ 55 ∧ (55 : Int) ≤ 55; decide) (by show (0 : Int) ≤ 4 ∧ (4 : Int) ≤ 6; decide) (by omega)) (cwV 1 hts gg_1 rfl rfl rfl (by decide +kernel) ⟨Nat.le_of_ble_eq_true rfl, Nat.le_of_ble_eq_true rfl⟩) ⟨pcW.blind, (wo_recv (WD.tx hT.2.2 (55 : Int).toNat (by omega)).1 hS), pre9⟩ rfl rfl hlv.1 rfl (lv_room (Nat.le_of_ble_eq_true rfl)) dX12_of_17 ⟨Nat.le_of_ble_eq_true rfl, Nat.le_of_ble_eq_true rfl⟩)) hP hD hS hA hG hT [] rfl (by decide +kernel) (fun r10 u10 H locs hw10 hq9 hS => ?_)
  obtain ⟨rfl, hq10_1, hq10_2⟩ := hw10
  obtain ⟨hP, hD⟩ := pd9 [] hq9
  have hev10 : (u10.2.1 0) = 108 := by first | (rw [hq10_2]; rfl) | omega
  refine lt_i (y := iI 108) (by rw [show (u10.2.1 0) = 108 by omega]) ?_
  refine lv_bipush (v := iI 96) hx hb dX12_of_20 (by decide) ?_
  refine lv_isub hx hb dX12_of_22 ?_
  refine lt_i (y := iI 12) (by decide) ?_
  refine lv_ior hx hb dX12_of_23 ?_
  refine lt_i (y := iI 16956940) (by decide) ?_
  refine lv_istore_n (lv' := [(1, vI 16956940), (2, vI 4), (0, .ref (sn sa 55))]) hx hb dX12_of_24 rfl hlv (by decide) rfl (fun ls hlv => ?_)
  refine lv_iinc (v := iI 5) (lv' := [(2, vI 5), (1, vI 16956940), (0, .ref (sn sa 55))]) hx hb dX12_of_25 hlv (k := 1) rfl (by decide) (by decide) rfl (fun ls hlv => ?_)
  refine lv_goto (tgt := 4) hx hb dX12_of_28 (by decide) ?_
  refine lv_iload_n hx hb dX12_of_4 rfl (lv_at hlv 0 rfl) ?_
  refine lv_aload_n hx hb dX12_of_5 rfl (lv_at hlv 2 rfl) ?_
  refine cjr_i [] (fun pre9 => (va_runV (As := []) (rest := [vI 5]) ⟨hx, hb, hml, hown, hts⟩ (s_length l hl D cy sa 55 H.size (by show (0 : Int) ≤ 55 ∧ (55 : Int) ≤ 55; decide)) (cwV 0 hts gg_0 rfl rfl rfl (by decide +kernel) ⟨Nat.le_of_ble_eq_true rfl, Nat.le_of_ble_eq_true rfl⟩) ⟨pcW.blind, (wo_recv (WD.tx hT.2.2 (55 : Int).toNat (by omega)).1 hS), pre9⟩ rfl rfl hlv.1 rfl (lv_room (Nat.le_of_ble_eq_true rfl)) dX12_of_6 ⟨Nat.le_of_ble_eq_true rfl, Nat.le_of_ble_eq_true rfl⟩)) hP hD hS hA hG hT [] rfl (by decide +kernel) (fun r11 u11 H locs hw11 hq9 hS => ?_)
  obtain ⟨rfl, hq11_1, hq11_2⟩ := hw11
  obtain ⟨hP, hD⟩ := pd9 [] hq9
  have hev11 : (u11.2.1 0) = 6 := by first | (rw [hq11_2]; rfl) | omega
  refine lt_i (y := iI 6) (by rw [show (u11.2.1 0) = 6 by omega]) ?_
  refine ir_ge (tgt := 31) hx hb dX12_of_9 (by decide) (by show ((-2147483648) : Int) ≤ 5 ∧ (5 : Int) ≤ 2147483647; decide) (by show ((-2147483648) : Int) ≤ 6 ∧ (6 : Int) ≤ 2147483647; decide) (fun c_6 => by exfalso; omega) (fun c_6 => ?_)
  refine lv_iload_n hx hb dX12_of_12 rfl (lv_at hlv 1 rfl) ?_
  refine lv_iconst (v := iI 5) hx hb dX12_of_13 (by decide) ?_
  refine lv_ishl hx hb dX12_of_14 ?_
  refine lt_i (y := iI 542622080) (by decide) ?_
  refine lv_aload_n hx hb dX12_of_15 rfl (lv_at hlv 2 rfl) ?_
  refine lv_iload_n hx hb dX12_of_16 rfl (lv_at hlv 0 rfl) ?_
  refine cjr_i [] (fun pre9 => (va_runV (As := [vI 5]) (rest := [vI 542622080]) ⟨hx, hb, hml, hown, hts⟩ (s_charAt l hl D cy sa 55 5 H.size (by show (0 : Int) ≤ 55 ∧ (55 : Int) ≤ 55; decide) (by show (0 : Int) ≤ 5 ∧ (5 : Int) ≤ 6; decide) (by omega)) (cwV 1 hts gg_1 rfl rfl rfl (by decide +kernel) ⟨Nat.le_of_ble_eq_true rfl, Nat.le_of_ble_eq_true rfl⟩) ⟨pcW.blind, (wo_recv (WD.tx hT.2.2 (55 : Int).toNat (by omega)).1 hS), pre9⟩ rfl rfl hlv.1 rfl (lv_room (Nat.le_of_ble_eq_true rfl)) dX12_of_17 ⟨Nat.le_of_ble_eq_true rfl, Nat.le_of_ble_eq_true rfl⟩)) hP hD hS hA hG hT [] rfl (by decide +kernel) (fun r12 u12 H locs hw12 hq9 hS => ?_)
  obtain ⟨rfl, hq12_1, hq12_2⟩ := hw12
  obtain ⟨hP, hD⟩ := pd9 [] hq9
  have hev12 : (u12.2.1 0) = 101 := by first | (rw [hq12_2]; rfl) | omega
  refine lt_i (y := iI 101) (by rw [show (u12.2.1 0) = 101 by omega]) ?_
  refine lv_bipush (v := iI 96) hx hb dX12_of_20 (by decide) ?_
  refine lv_isub hx hb dX12_of_22 ?_
  refine lt_i (y := iI 5) (by decide) ?_
  refine lv_ior hx hb dX12_of_23 ?_
  refine lt_i (y := iI 542622085) (by decide) ?_
  refine lv_istore_n (lv' := [(1, vI 542622085), (2, vI 5), (0, .ref (sn sa 55))]) hx hb dX12_of_24 rfl hlv (by decide) rfl (fun ls hlv => ?_)
  refine lv_iinc (v := iI 6) (lv' := [(2, vI 6), (1, vI 542622085), (0, .ref (sn sa 55))]) hx hb dX12_of_25 hlv (k := 1) rfl (by decide) (by decide) rfl (fun ls hlv => ?_)
  refine lv_goto (tgt := 4) hx hb dX12_of_28 (by decide) ?_
  refine lv_iload_n hx hb dX12_of_4 rfl (lv_at hlv 0 rfl) ?_
  refine lv_aload_n hx hb dX12_of_5 rfl (lv_at hlv 2 rfl) ?_
  refine cjr_i [] (fun pre9 => (va_runV (As := []) (rest := [vI 6]) ⟨hx, hb, hml, hown, hts⟩ (s_length l hl D cy sa 55 H.size (by show (0 : Int) ≤ 55 ∧ (55 : Int) ≤ 55; decide)) (cwV 0 hts gg_0 rfl rfl rfl (by decide +kernel) ⟨Nat.le_of_ble_eq_true rfl, Nat.le_of_ble_eq_true rfl⟩) ⟨pcW.blind, (wo_recv (WD.tx hT.2.2 (55 : Int).toNat (by omega)).1 hS), pre9⟩ rfl rfl hlv.1 rfl (lv_room (Nat.le_of_ble_eq_true rfl)) dX12_of_6 ⟨Nat.le_of_ble_eq_true rfl, Nat.le_of_ble_eq_true rfl⟩)) hP hD hS hA hG hT [] rfl (by decide +kernel) (fun r13 u13 H locs hw13 hq9 hS => ?_)
  obtain ⟨rfl, hq13_1, hq13_2⟩ := hw13
  obtain ⟨hP, hD⟩ := pd9 [] hq9
  have hev13 : (u13.2.1 0) = 6 := by first | (rw [hq13_2]; rfl) | omega
  refine lt_i (y := iI 6) (by rw [show (u13.2.1 0) = 6 by omega]) ?_
  refine ir_ge (tgt := 31) hx hb dX12_of_9 (by decide) (by show ((-2147483648) : Int) ≤ 6 ∧ (6 : Int) ≤ 2147483647; decide) (by show ((-2147483648) : Int) ≤ 6 ∧ (6 : Int) ≤ 2147483647; decide) (fun c_7 => ?_) (fun c_7 => by exfalso; omega)
  refine lv_iload_n hx hb dX12_of_31 rfl (lv_at hlv 1 rfl) ?_
  refine W.widen (k := 0) (n := 0) (Nat.le_of_ble_eq_true rfl) (Nat.le_of_ble_eq_true rfl) ?_
  exact W.iret (v := iI 542622085) hx hb hr (fun t ht hW => ⟨⟨iI 542622085, ((fun k => ([] : List Nat).getD k 0), (fun k => ([542622085] : List Int).getD k 0), (fun k => ([] : List (Nat → Int32)).getD k (fun _ => 0))), rfl, ⟨rfl, (by show (542622085 ≤ 542622085 ∧ 542622085 ≤ 542622085); show (542622085 : Int) ≤ 542622085 ∧ (542622085 : Int) ≤ 542622085; decide)⟩, at9 ht hP hD [] (by decide +kernel) rfl⟩, hS.F ht⟩) hS.2.2 dX12_of_32
