theorem dX12_drains_0 : decode cX12_drains 0 = .ok (.aload_n 0, 1) := by decide +kernel
theorem dX12_drains_1 : decode cX12_drains 1 = .ok (.getfield 23, 3) := by decide +kernel
theorem dX12_drains_10 : decode cX12_drains 10 = .ok (.sipush 206, 3) := by decide +kernel
theorem dX12_drains_13 : decode cX12_drains 13 = .ok (.iaload, 1) := by decide +kernel
theorem dX12_drains_14 : decode cX12_drains 14 = .ok (.iadd, 1) := by decide +kernel
theorem dX12_drains_15 : decode cX12_drains 15 = .ok (.ireturn, 1) := by decide +kernel
theorem dX12_drains_4 : decode cX12_drains 4 = .ok (.iconst 2, 1) := by decide +kernel
theorem dX12_drains_5 : decode cX12_drains 5 = .ok (.iaload, 1) := by decide +kernel
theorem dX12_drains_6 : decode cX12_drains 6 = .ok (.aload_n 0, 1) := by decide +kernel
theorem dX12_drains_7 : decode cX12_drains 7 = .ok (.getfield 29, 3) := by decide +kernel
theorem dX12_isCar_0 : decode cX12_isCar 0 = .ok (.iload_n 1, 1) := by decide +kernel
theorem dX12_isCar_1 : decode cX12_isCar 1 = .ok (.iconst 0, 1) := by decide +kernel
theorem dX12_isCar_10 : decode cX12_isCar 10 = .ok (.invokestatic 279, 3) := by decide +kernel
theorem dX12_isCar_13 : decode cX12_isCar 13 = .ok (.ifCond .eq 37, 3) := by decide +kernel
theorem dX12_isCar_2 : decode cX12_isCar 2 = .ok (.aload_n 0, 1) := by decide +kernel
theorem dX12_isCar_3 : decode cX12_isCar 3 = .ok (.getfield 23, 3) := by decide +kernel
theorem dX12_isCar_50 : decode cX12_isCar 50 = .ok (.iconst 0, 1) := by decide +kernel
theorem dX12_isCar_51 : decode cX12_isCar 51 = .ok (.ireturn, 1) := by decide +kernel
theorem dX12_isCar_6 : decode cX12_isCar 6 = .ok (.iconst 1, 1) := by decide +kernel
theorem dX12_isCar_7 : decode cX12_isCar 7 = .ok (.iaload, 1) := by decide +kernel
theorem dX12_isCar_8 : decode cX12_isCar 8 = .ok (.iconst 1, 1) := by decide +kernel
theorem dX12_isCar_9 : decode cX12_isCar 9 = .ok (.isub, 1) := by decide +kernel
theorem dX12_isCell_0 : decode cX12_isCell 0 = .ok (.aload_n 0, 1) := by decide +kernel
theorem dX12_isCell_1 : decode cX12_isCell 1 = .ok (.iload_n 1, 1) := by decide +kernel
theorem dX12_isCell_10 : decode cX12_isCell 10 = .ok (.isub, 1) := by decide +kernel
theorem dX12_isCell_11 : decode cX12_isCell 11 = .ok (.invokestatic 279, 3) := by decide +kernel
theorem dX12_isCell_14 : decode cX12_isCell 14 = .ok (.ifCond .eq 23, 3) := by decide +kernel
theorem dX12_isCell_2 : decode cX12_isCell 2 = .ok (.iconst 0, 1) := by decide +kernel
theorem dX12_isCell_3 : decode cX12_isCell 3 = .ok (.aload_n 0, 1) := by decide +kernel
theorem dX12_isCell_37 : decode cX12_isCell 37 = .ok (.iconst 0, 1) := by decide +kernel
theorem dX12_isCell_38 : decode cX12_isCell 38 = .ok (.iload_n 3, 1) := by decide +kernel
theorem dX12_isCell_39 : decode cX12_isCell 39 = .ok (.iconst 0, 1) := by decide +kernel
theorem dX12_isCell_4 : decode cX12_isCell 4 = .ok (.getfield 23, 3) := by decide +kernel
theorem dX12_isCell_40 : decode cX12_isCell 40 = .ok (.invokevirtual 175, 3) := by decide +kernel
theorem dX12_isCell_43 : decode cX12_isCell 43 = .ok (.ireturn, 1) := by decide +kernel
theorem dX12_isCell_7 : decode cX12_isCell 7 = .ok (.iconst 0, 1) := by decide +kernel
theorem dX12_isCell_8 : decode cX12_isCell 8 = .ok (.iaload, 1) := by decide +kernel
theorem dX12_isCell_9 : decode cX12_isCell 9 = .ok (.iconst 1, 1) := by decide +kernel
theorem dX12_isLaw_0 : decode cX12_isLaw 0 = .ok (.aload_n 0, 1) := by decide +kernel
theorem dX12_isLaw_1 : decode cX12_isLaw 1 = .ok (.iload_n 1, 1) := by decide +kernel
theorem dX12_isLaw_12 : decode cX12_isLaw 12 = .ok (.iload_n 2, 1) := by decide +kernel
theorem dX12_isLaw_13 : decode cX12_isLaw 13 = .ok (.iconst 1, 1) := by decide +kernel
theorem dX12_isLaw_14 : decode cX12_isLaw 14 = .ok (.invokevirtual 175, 3) := by decide +kernel
theorem dX12_isLaw_17 : decode cX12_isLaw 17 = .ok (.ireturn, 1) := by decide +kernel
theorem dX12_isLaw_2 : decode cX12_isLaw 2 = .ok (.iconst 0, 1) := by decide +kernel
theorem dX12_isLaw_3 : decode cX12_isLaw 3 = .ok (.aload_n 0, 1) := by decide +kernel
theorem dX12_isLaw_4 : decode cX12_isLaw 4 = .ok (.getfield 209, 3) := by decide +kernel
theorem dX12_isLaw_7 : decode cX12_isLaw 7 = .ok (.iconst 1, 1) := by decide +kernel
theorem dX12_isLaw_8 : decode cX12_isLaw 8 = .ok (.isub, 1) := by decide +kernel
theorem dX12_isLaw_9 : decode cX12_isLaw 9 = .ok (.invokestatic 279, 3) := by decide +kernel
theorem dX12_isNow_0 : decode cX12_isNow 0 = .ok (.aload_n 0, 1) := by decide +kernel
theorem dX12_isNow_1 : decode cX12_isNow 1 = .ok (.aload_n 0, 1) := by decide +kernel
theorem dX12_isNow_2 : decode cX12_isNow 2 = .ok (.getfield 23, 3) := by decide +kernel
theorem dX12_isNow_28 : decode cX12_isNow 28 = .ok (.iconst 0, 1) := by decide +kernel
theorem dX12_isNow_29 : decode cX12_isNow 29 = .ok (.iload_n 1, 1) := by decide +kernel
theorem dX12_isNow_30 : decode cX12_isNow 30 = .ok (.iconst 3, 1) := by decide +kernel
theorem dX12_isNow_31 : decode cX12_isNow 31 = .ok (.invokevirtual 175, 3) := by decide +kernel
theorem dX12_isNow_34 : decode cX12_isNow 34 = .ok (.ireturn, 1) := by decide +kernel
theorem dX12_isNow_5 : decode cX12_isNow 5 = .ok (.iconst 0, 1) := by decide +kernel
theorem dX12_isNow_6 : decode cX12_isNow 6 = .ok (.iaload, 1) := by decide +kernel
theorem dX12_isNow_7 : decode cX12_isNow 7 = .ok (.ifCond .le 21, 3) := by decide +kernel
theorem dX12_isRain_0 : decode cX12_isRain 0 = .ok (.aload_n 0, 1) := by decide +kernel
theorem dX12_isRain_1 : decode cX12_isRain 1 = .ok (.iload_n 1, 1) := by decide +kernel
theorem dX12_isRain_12 : decode cX12_isRain 12 = .ok (.iload_n 2, 1) := by decide +kernel
theorem dX12_isRain_13 : decode cX12_isRain 13 = .ok (.iconst 1, 1) := by decide +kernel
theorem dX12_isRain_14 : decode cX12_isRain 14 = .ok (.invokevirtual 175, 3) := by decide +kernel
theorem dX12_isRain_17 : decode cX12_isRain 17 = .ok (.ireturn, 1) := by decide +kernel
theorem dX12_isRain_2 : decode cX12_isRain 2 = .ok (.iconst 0, 1) := by decide +kernel
theorem dX12_isRain_3 : decode cX12_isRain 3 = .ok (.aload_n 0, 1) := by decide +kernel
theorem dX12_isRain_4 : decode cX12_isRain 4 = .ok (.getfield 204, 3) := by decide +kernel
theorem dX12_isRain_7 : decode cX12_isRain 7 = .ok (.iconst 1, 1) := by decide +kernel
theorem dX12_isRain_8 : decode cX12_isRain 8 = .ok (.isub, 1) := by decide +kernel
theorem dX12_isRain_9 : decode cX12_isRain 9 = .ok (.invokestatic 279, 3) := by decide +kernel
theorem dX12_isWork_0 : decode cX12_isWork 0 = .ok (.aload_n 0, 1) := by decide +kernel
theorem dX12_isWork_1 : decode cX12_isWork 1 = .ok (.iload_n 1, 1) := by decide +kernel
theorem dX12_isWork_10 : decode cX12_isWork 10 = .ok (.isub, 1) := by decide +kernel
theorem dX12_isWork_11 : decode cX12_isWork 11 = .ok (.invokestatic 279, 3) := by decide +kernel
theorem dX12_isWork_14 : decode cX12_isWork 14 = .ok (.iconst 1, 1) := by decide +kernel
theorem dX12_isWork_15 : decode cX12_isWork 15 = .ok (.iconst 1, 1) := by decide +kernel
theorem dX12_isWork_16 : decode cX12_isWork 16 = .ok (.invokevirtual 175, 3) := by decide +kernel
theorem dX12_isWork_19 : decode cX12_isWork 19 = .ok (.ireturn, 1) := by decide +kernel
theorem dX12_isWork_2 : decode cX12_isWork 2 = .ok (.iconst 0, 1) := by decide +kernel
theorem dX12_isWork_3 : decode cX12_isWork 3 = .ok (.aload_n 0, 1) := by decide +kernel
theorem dX12_isWork_4 : decode cX12_isWork 4 = .ok (.getfield 23, 3) := by decide +kernel
theorem dX12_isWork_7 : decode cX12_isWork 7 = .ok (.iconst 5, 1) := by decide +kernel
theorem dX12_isWork_8 : decode cX12_isWork 8 = .ok (.iaload, 1) := by decide +kernel
theorem dX12_isWork_9 : decode cX12_isWork 9 = .ok (.iconst 1, 1) := by decide +kernel
theorem dX12_may_0 : decode cX12_may 0 = .ok (.iload_n 1, 1) := by decide +kernel
theorem dX12_may_1 : decode cX12_may 1 = .ok (.ifCond .ne 25, 3) := by decide +kernel
theorem dX12_may_11 : decode cX12_may 11 = .ok (.aload_n 0, 1) := by decide +kernel
theorem dX12_may_12 : decode cX12_may 12 = .ok (.iload_n 2, 1) := by decide +kernel
theorem dX12_may_13 : decode cX12_may 13 = .ok (.putfield 1, 3) := by decide +kernel
theorem dX12_may_16 : decode cX12_may 16 = .ok (.aload_n 0, 1) := by decide +kernel
theorem dX12_may_17 : decode cX12_may 17 = .ok (.getfield 7, 3) := by decide +kernel
theorem dX12_may_20 : decode cX12_may 20 = .ok (.iload_n 3, 1) := by decide +kernel
theorem dX12_may_21 : decode cX12_may 21 = .ok (.dup2, 1) := by decide +kernel
theorem dX12_may_22 : decode cX12_may 22 = .ok (.iaload, 1) := by decide +kernel
theorem dX12_may_23 : decode cX12_may 23 = .ok (.iconst 1, 1) := by decide +kernel
theorem dX12_may_24 : decode cX12_may 24 = .ok (.iadd, 1) := by decide +kernel
theorem dX12_may_25 : decode cX12_may 25 = .ok (.iastore, 1) := by decide +kernel
theorem dX12_may_26 : decode cX12_may 26 = .ok (.aload_n 0, 1) := by decide +kernel
theorem dX12_may_27 : decode cX12_may 27 = .ok (.getfield 1, 3) := by decide +kernel
theorem dX12_may_30 : decode cX12_may 30 = .ok (.ifCond .ne 7, 3) := by decide +kernel
theorem dX12_may_33 : decode cX12_may 33 = .ok (.iconst 1, 1) := by decide +kernel
theorem dX12_may_34 : decode cX12_may 34 = .ok (.goto 4, 3) := by decide +kernel
theorem dX12_may_37 : decode cX12_may 37 = .ok (.iconst 0, 1) := by decide +kernel
theorem dX12_may_38 : decode cX12_may 38 = .ok (.ireturn, 1) := by decide +kernel
theorem dX12_may_4 : decode cX12_may 4 = .ok (.aload_n 0, 1) := by decide +kernel
theorem dX12_may_5 : decode cX12_may 5 = .ok (.getfield 1, 3) := by decide +kernel
theorem dX12_may_8 : decode cX12_may 8 = .ok (.ifCond .ne 18, 3) := by decide +kernel
theorem dX12_thrown_0 : decode cX12_thrown 0 = .ok (.aload_n 0, 1) := by decide +kernel
theorem dX12_thrown_1 : decode cX12_thrown 1 = .ok (.getfield 1, 3) := by decide +kernel
theorem dX12_thrown_4 : decode cX12_thrown 4 = .ok (.ireturn, 1) := by decide +kernel
theorem dX12_within_0 : decode cX12_within 0 = .ok (.iload_n 0, 1) := by decide +kernel
theorem dX12_within_1 : decode cX12_within 1 = .ok (.iload_n 1, 1) := by decide +kernel
theorem dX12_within_10 : decode cX12_within 10 = .ok (.iconst 1, 1) := by decide +kernel
theorem dX12_within_11 : decode cX12_within 11 = .ok (.goto 4, 3) := by decide +kernel
theorem dX12_within_14 : decode cX12_within 14 = .ok (.iconst 0, 1) := by decide +kernel
theorem dX12_within_15 : decode cX12_within 15 = .ok (.ireturn, 1) := by decide +kernel
theorem dX12_within_2 : decode cX12_within 2 = .ok (.if_icmp .lt 12, 3) := by decide +kernel
theorem dX12_within_5 : decode cX12_within 5 = .ok (.iload_n 0, 1) := by decide +kernel
theorem dX12_within_6 : decode cX12_within 6 = .ok (.iload_n 2, 1) := by decide +kernel
theorem dX12_within_7 : decode cX12_within 7 = .ok (.if_icmp .gt 7, 3) := by decide +kernel
def vs_c_within : List Cond := .code yX12_within cX12_within 3 (some .boolean) :: (([] : List Cond) ++ ([]))
set_option maxHeartbeats 4000000 in
set_option maxRecDepth 100000 in
theorem c_within (l : Launch) (hl : l.stackTraces = false) (D : va_G) (cy : Nat → ClassId) (sa : Nat → Nat) (n a b : Int32) (sz : Nat) : Met l yX12_within vs_c_within ({ frames := 0, cells := 0, slots := 0, locals := 0 }) (va_Pc [.int n, .int a, .int b] (pcW D cy sa sz [])) (va_Qi (fun (r : Int32) (u : SU) => (((a ≤ n ∧ n ≤ b)) ∧ r = 1) ∨ ((¬ (a ≤ n ∧ n ≤ b)) ∧ r = 0)) (fun u t => atW D (va_A [] sz) [] t) (va_A [] sz)) 0 0 (va_A [] sz) := by
  refine Met.ofW (cc := cX12_within) (maxL := 3) (ret := (some .boolean)) (by decide) rfl ?_
  intro p e s m args below meth c s₁ B hml hv
  obtain ⟨rfl, hsz, hP, hG, hD0, hT⟩ := hv
  have hx := B.exec
  have hb := B.bytes
  have hr := B.returns
  have hts := atoms_spec (ws := vs_c_within) B.pre
  have hown : s.vm.findClass RX12 = some m.cls := findClass_of_methodNamed B.named
  have hlocks := B.notSynchronized
  subst hsz
  have hD := hD0.self (sz := s.heap.size)
  generalize hAe : va_A [] s.heap.size = A at hD hT ⊢
  have hA : ∀ q : Nat, s.heap.size ≤ q → A q := fun q h => by rw [← hAe]; exact Or.inr h
  have hS : va_S A s.heap s.heap [] := va_S.rf
  have hl0 := lv_entry ([.int n, .int a, .int b]) (n := 3) (Nat.le_of_ble_eq_true rfl)
  rw [lg_entry_eq]
  generalize (lg_sl ([.int n, .int a, .int b]) ++ List.replicate (3 - (lg_sl ([.int n, .int a, .int b])).length) Slot.unset).toArray = ls at hl0 ⊢
  have hlv : lv_has ls 3 [(0, .int n), (1, .int a), (2, .int b)] := hl0
  refine lv_iload_n hx hb dX12_within_0 rfl (lv_at hlv 0 rfl) ?_
  refine lv_iload_n hx hb dX12_within_1 rfl (lv_at hlv 1 rfl) ?_
  refine lv_icmp_lt (tgt := 14) hx hb dX12_within_2 (by decide) (fun c_1 => ?_) (fun c_1 => ?_)
  · refine lv_iconst (v := 0) hx hb dX12_within_14 (by decide) ?_
    refine W.widen (k := 0) (n := 0) (Nat.le_of_ble_eq_true rfl) (Nat.le_of_ble_eq_true rfl) ?_
    exact W.zret (v := 0) hx hb hr (by first | rfl | decide) (fun t ht hW => ⟨⟨0, ((fun k => ([] : List Nat).getD k 0), (fun k => ([] : List Int32).getD k 0), (fun k => ([] : List (Nat → Int32)).getD k (fun _ => 0))), rfl, (by first | (right; exact ⟨by first | trivial | assumption | exact ⟨Int32.not_lt.mp (by assumption), Int32.not_lt.mp (by assumption)⟩ | exact (fun q => absurd q.1 (Int32.not_le.mpr (by assumption))) | exact (fun q => absurd q.2 (Int32.not_le.mpr (by assumption))) | (refine ⟨?_, ?_⟩ <;> assumption) | decide, by rfl⟩)), by rw [ht]; exact hP.sub [] rfl, hD.sub [] (by decide) rfl⟩, hS.F ht⟩) hS.2.2 dX12_within_15
  · refine lv_iload_n hx hb dX12_within_5 rfl (lv_at hlv 0 rfl) ?_
    refine lv_iload_n hx hb dX12_within_6 rfl (lv_at hlv 2 rfl) ?_
    refine lv_icmp_gt (tgt := 14) hx hb dX12_within_7 (by decide) (fun c_2 => ?_) (fun c_2 => ?_)
    · refine lv_iconst (v := 0) hx hb dX12_within_14 (by decide) ?_
      refine W.widen (k := 0) (n := 0) (Nat.le_of_ble_eq_true rfl) (Nat.le_of_ble_eq_true rfl) ?_
      exact W.zret (v := 0) hx hb hr (by first | rfl | decide) (fun t ht hW => ⟨⟨0, ((fun k => ([] : List Nat).getD k 0), (fun k => ([] : List Int32).getD k 0), (fun k => ([] : List (Nat → Int32)).getD k (fun _ => 0))), rfl, (by first | (right; exact ⟨by first | trivial | assumption | exact ⟨Int32.not_lt.mp (by assumption), Int32.not_lt.mp (by assumption)⟩ | exact (fun q => absurd q.1 (Int32.not_le.mpr (by assumption))) | exact (fun q => absurd q.2 (Int32.not_le.mpr (by assumption))) | (refine ⟨?_, ?_⟩ <;> assumption) | decide, by rfl⟩)), by rw [ht]; exact hP.sub [] rfl, hD.sub [] (by decide) rfl⟩, hS.F ht⟩) hS.2.2 dX12_within_15
    · refine lv_iconst (v := 1) hx hb dX12_within_10 (by decide) ?_
      refine lv_goto (tgt := 15) hx hb dX12_within_11 (by decide) ?_
      refine W.widen (k := 0) (n := 0) (Nat.le_of_ble_eq_true rfl) (Nat.le_of_ble_eq_true rfl) ?_
      exact W.zret (v := 1) hx hb hr (by first | rfl | decide) (fun t ht hW => ⟨⟨1, ((fun k => ([] : List Nat).getD k 0), (fun k => ([] : List Int32).getD k 0), (fun k => ([] : List (Nat → Int32)).getD k (fun _ => 0))), rfl, (by first | (left; exact ⟨by first | trivial | assumption | exact ⟨Int32.not_lt.mp (by assumption), Int32.not_lt.mp (by assumption)⟩ | exact (fun q => absurd q.1 (Int32.not_le.mpr (by assumption))) | exact (fun q => absurd q.2 (Int32.not_le.mpr (by assumption))) | (refine ⟨?_, ?_⟩ <;> assumption) | decide, by rfl⟩)), by rw [ht]; exact hP.sub [] rfl, hD.sub [] (by decide) rfl⟩, hS.F ht⟩) hS.2.2 dX12_within_15
def vs_c_thrown : List Cond := .code yX12_thrown cX12_thrown 1 (some .int) :: (([.fieldLink RX12 1 "KerbSplashModel" "thrown" "I"] : List Cond) ++ ((wsX120) ++ ([])))
set_option maxHeartbeats 4000000 in
set_option maxRecDepth 100000 in
theorem c_thrown (l : Launch) (hl : l.stackTraces = false) (D : va_G) (cy : Nat → ClassId) (sa : Nat → Nat) (mo : Nat) (ma : Nat → Nat) (y0 y2 y3 y4 y5 y6 y7 y8 y16 y17 y18 y22 y29 y30 y31 y32 y34 y36 y37 : Int32) (sz : Nat) : Met l yX12_thrown vs_c_thrown ({ frames := 0, cells := 0, slots := 0, locals := 0 }) (va_Pc [.ref mo] (pcW D cy sa sz [(mo, .inr (12, [.int y0, .ref (ma 1), .int y2, .int y3, .int y4, .int y5, .int y6, .int y7, .int y8, .ref (ma 9), .ref (ma 10), .ref (ma 11), .ref (ma 12), .ref (ma 13), .ref (ma 14), .ref (ma 15), .int y16, .int y17, .int y18, .ref (ma 19), .ref (ma 20), .ref (ma 21), .int y22, .ref (ma 23), .ref (ma 24), .ref (ma 25), .ref (ma 26), .ref (ma 27), .ref (ma 28), .int y29, .int y30, .int y31, .int y32, .ref (ma 33), .int y34, .ref (ma 35), .int y36, .int y37]))])) (va_Qi (fun (r : Int32) (u : SU) => (r = y0)) (fun u t => atW D (va_A [(mo, .inr (12, [.int y0, .ref (ma 1), .int y2, .int y3, .int y4, .int y5, .int y6, .int y7, .int y8, .ref (ma 9), .ref (ma 10), .ref (ma 11), .ref (ma 12), .ref (ma 13), .ref (ma 14), .ref (ma 15), .int y16, .int y17, .int y18, .ref (ma 19), .ref (ma 20), .ref (ma 21), .int y22, .ref (ma 23), .ref (ma 24), .ref (ma 25), .ref (ma 26), .ref (ma 27), .ref (ma 28), .int y29, .int y30, .int y31, .int y32, .ref (ma 33), .int y34, .ref (ma 35), .int y36, .int y37]))] sz) [] t) (va_A [(mo, .inr (12, [.int y0, .ref (ma 1), .int y2, .int y3, .int y4, .int y5, .int y6, .int y7, .int y8, .ref (ma 9), .ref (ma 10), .ref (ma 11), .ref (ma 12), .ref (ma 13), .ref (ma 14), .ref (ma 15), .int y16, .int y17, .int y18, .ref (ma 19), .ref (ma 20), .ref (ma 21), .int y22, .ref (ma 23), .ref (ma 24), .ref (ma 25), .ref (ma 26), .ref (ma 27), .ref (ma 28), .int y29, .int y30, .int y31, .int y32, .ref (ma 33), .int y34, .ref (ma 35), .int y36, .int y37]))] sz)) 0 0 (va_A [(mo, .inr (12, [.int y0, .ref (ma 1), .int y2, .int y3, .int y4, .int y5, .int y6, .int y7, .int y8, .ref (ma 9), .ref (ma 10), .ref (ma 11), .ref (ma 12), .ref (ma 13), .ref (ma 14), .ref (ma 15), .int y16, .int y17, .int y18, .ref (ma 19), .ref (ma 20), .ref (ma 21), .int y22, .ref (ma 23), .ref (ma 24), .ref (ma 25), .ref (ma 26), .ref (ma 27), .ref (ma 28), .int y29, .int y30, .int y31, .int y32, .ref (ma 33), .int y34, .ref (ma 35), .int y36, .int y37]))] sz) := by
  refine Met.ofW (cc := cX12_thrown) (maxL := 1) (ret := (some .int)) (by decide) rfl ?_
  intro p e s m args below meth c s₁ B hml hv
  obtain ⟨rfl, hsz, hP, hG, hD0, hT⟩ := hv
  have hx := B.exec
  have hb := B.bytes
  have hr := B.returns
  have hts := atoms_spec (ws := vs_c_thrown) B.pre
  have hown : s.vm.findClass RX12 = some m.cls := findClass_of_methodNamed B.named
  have hlocks := B.notSynchronized
  subst hsz
  have hD := hD0.self (sz := s.heap.size)
  generalize hAe : va_A [(mo, .inr (12, [.int y0, .ref (ma 1), .int y2, .int y3, .int y4, .int y5, .int y6, .int y7, .int y8, .ref (ma 9), .ref (ma 10), .ref (ma 11), .ref (ma 12), .ref (ma 13), .ref (ma 14), .ref (ma 15), .int y16, .int y17, .int y18, .ref (ma 19), .ref (ma 20), .ref (ma 21), .int y22, .ref (ma 23), .ref (ma 24), .ref (ma 25), .ref (ma 26), .ref (ma 27), .ref (ma 28), .int y29, .int y30, .int y31, .int y32, .ref (ma 33), .int y34, .ref (ma 35), .int y36, .int y37]))] s.heap.size = A at hD hT ⊢
  have hA : ∀ q : Nat, s.heap.size ≤ q → A q := fun q h => by rw [← hAe]; exact Or.inr h
  have hS : va_S A s.heap s.heap [] := va_S.rf
  have hl0 := lv_entry ([.ref mo]) (n := 1) (Nat.le_of_ble_eq_true rfl)
  rw [lg_entry_eq]
  generalize (lg_sl ([.ref mo]) ++ List.replicate (1 - (lg_sl ([.ref mo])).length) Slot.unset).toArray = ls at hl0 ⊢
  have hlv : lv_has ls 1 [(0, .ref mo)] := hl0
  have lf1 := hts (.fieldLink RX12 1 "KerbSplashModel" "thrown" "I") (List.mem_of_getElem? (i := 1) rfl)
  have hi12 : ∀ w ∈ wsX120, w ∈ vs_c_thrown := fun w h => List.mem_cons_of_mem _ (List.mem_append_right _ (List.mem_append_left _ h))
  refine lv_aload_n hx hb dX12_thrown_0 rfl (lv_at hlv 0 rfl) ?_
  refine va_get (D := D) (ci := 12) (v := .int y0) (C := RX12) (T := TX12) (N := 38) hx hb hts hi12 hown hG.1 hP 0 rfl rfl 0 (by decide) lf1 (fun _ h9 => h9) rfl dX12_thrown_1 ?_
  refine W.widen (k := 0) (n := 0) (Nat.le_of_ble_eq_true rfl) (Nat.le_of_ble_eq_true rfl) ?_
  exact W.iret (v := y0) hx hb hr (fun t ht hW => ⟨⟨y0, ((fun k => ([] : List Nat).getD k 0), (fun k => ([] : List Int32).getD k 0), (fun k => ([] : List (Nat → Int32)).getD k (fun _ => 0))), rfl, (by first | (exact (by rfl))), by rw [ht]; exact hP.sub [] rfl, hD.sub [] (by decide) rfl⟩, hS.F ht⟩) hS.2.2 dX12_thrown_4
def vs_c_may1 : List Cond := .code yX12_may cX12_may 4 (some .boolean) :: (([.fieldLink RX12 1 "KerbSplashModel" "thrown" "I"] : List Cond) ++ ((wsX120) ++ ([])))
set_option maxHeartbeats 4000000 in
set_option maxRecDepth 100000 in
theorem c_may1 (l : Launch) (hl : l.stackTraces = false) (D : va_G) (cy : Nat → ClassId) (sa : Nat → Nat) (mo : Nat) (ma : Nat → Nat) (cd kd : Int32) (sz : Nat) : Met l yX12_may vs_c_may1 ({ frames := 0, cells := 0, slots := 0, locals := 0 }) (va_Pc [.ref mo, .int 1, .int cd, .int kd] (pcW D cy sa sz [(mo, .inr (12, [.int 0, .ref (ma 1), .int 0, .int 0, .int 0, .int 0, .int 0, .int 0, .int (-1), .ref (ma 9), .ref (ma 10), .ref (ma 11), .ref (ma 12), .ref (ma 13), .ref (ma 14), .ref (ma 15), .int 0, .int 0, .int 0, .ref (ma 19), .ref (ma 20), .ref (ma 21), .int 0, .ref (ma 23), .ref (ma 24), .ref (ma 25), .ref (ma 26), .ref (ma 27), .ref (ma 28), .int 0, .int 0, .int 0, .int 0, .ref (ma 33), .int (-1), .ref (ma 35), .int 0, .int 0]))])) (va_Qi (fun (r : Int32) (u : SU) => (r = 1)) (fun u t => atW D (va_A [(mo, .inr (12, [.int 0, .ref (ma 1), .int 0, .int 0, .int 0, .int 0, .int 0, .int 0, .int (-1), .ref (ma 9), .ref (ma 10), .ref (ma 11), .ref (ma 12), .ref (ma 13), .ref (ma 14), .ref (ma 15), .int 0, .int 0, .int 0, .ref (ma 19), .ref (ma 20), .ref (ma 21), .int 0, .ref (ma 23), .ref (ma 24), .ref (ma 25), .ref (ma 26), .ref (ma 27), .ref (ma 28), .int 0, .int 0, .int 0, .int 0, .ref (ma 33), .int (-1), .ref (ma 35), .int 0, .int 0]))] sz) [(mo, .inr (12, [.int 0, .ref (ma 1), .int 0, .int 0, .int 0, .int 0, .int 0, .int 0, .int (-1), .ref (ma 9), .ref (ma 10), .ref (ma 11), .ref (ma 12), .ref (ma 13), .ref (ma 14), .ref (ma 15), .int 0, .int 0, .int 0, .ref (ma 19), .ref (ma 20), .ref (ma 21), .int 0, .ref (ma 23), .ref (ma 24), .ref (ma 25), .ref (ma 26), .ref (ma 27), .ref (ma 28), .int 0, .int 0, .int 0, .int 0, .ref (ma 33), .int (-1), .ref (ma 35), .int 0, .int 0]))] t) (va_A [(mo, .inr (12, [.int 0, .ref (ma 1), .int 0, .int 0, .int 0, .int 0, .int 0, .int 0, .int (-1), .ref (ma 9), .ref (ma 10), .ref (ma 11), .ref (ma 12), .ref (ma 13), .ref (ma 14), .ref (ma 15), .int 0, .int 0, .int 0, .ref (ma 19), .ref (ma 20), .ref (ma 21), .int 0, .ref (ma 23), .ref (ma 24), .ref (ma 25), .ref (ma 26), .ref (ma 27), .ref (ma 28), .int 0, .int 0, .int 0, .int 0, .ref (ma 33), .int (-1), .ref (ma 35), .int 0, .int 0]))] sz)) 0 0 (va_A [(mo, .inr (12, [.int 0, .ref (ma 1), .int 0, .int 0, .int 0, .int 0, .int 0, .int 0, .int (-1), .ref (ma 9), .ref (ma 10), .ref (ma 11), .ref (ma 12), .ref (ma 13), .ref (ma 14), .ref (ma 15), .int 0, .int 0, .int 0, .ref (ma 19), .ref (ma 20), .ref (ma 21), .int 0, .ref (ma 23), .ref (ma 24), .ref (ma 25), .ref (ma 26), .ref (ma 27), .ref (ma 28), .int 0, .int 0, .int 0, .int 0, .ref (ma 33), .int (-1), .ref (ma 35), .int 0, .int 0]))] sz) := by
  refine Met.ofW (cc := cX12_may) (maxL := 4) (ret := (some .boolean)) (by decide) rfl ?_
  intro p e s m args below meth c s₁ B hml hv
  obtain ⟨rfl, hsz, hP, hG, hD0, hT⟩ := hv
  have hx := B.exec
  have hb := B.bytes
  have hr := B.returns
  have hts := atoms_spec (ws := vs_c_may1) B.pre
  have hown : s.vm.findClass RX12 = some m.cls := findClass_of_methodNamed B.named
  have hlocks := B.notSynchronized
  subst hsz
  have hD := hD0.self (sz := s.heap.size)
  generalize hAe : va_A [(mo, .inr (12, [.int 0, .ref (ma 1), .int 0, .int 0, .int 0, .int 0, .int 0, .int 0, .int (-1), .ref (ma 9), .ref (ma 10), .ref (ma 11), .ref (ma 12), .ref (ma 13), .ref (ma 14), .ref (ma 15), .int 0, .int 0, .int 0, .ref (ma 19), .ref (ma 20), .ref (ma 21), .int 0, .ref (ma 23), .ref (ma 24), .ref (ma 25), .ref (ma 26), .ref (ma 27), .ref (ma 28), .int 0, .int 0, .int 0, .int 0, .ref (ma 33), .int (-1), .ref (ma 35), .int 0, .int 0]))] s.heap.size = A at hD hT ⊢
  have hA : ∀ q : Nat, s.heap.size ≤ q → A q := fun q h => by rw [← hAe]; exact Or.inr h
  have hS : va_S A s.heap s.heap [] := va_S.rf
  have hl0 := lv_entry ([.ref mo, .int 1, .int cd, .int kd]) (n := 4) (Nat.le_of_ble_eq_true rfl)
  rw [lg_entry_eq]
  generalize (lg_sl ([.ref mo, .int 1, .int cd, .int kd]) ++ List.replicate (4 - (lg_sl ([.ref mo, .int 1, .int cd, .int kd])).length) Slot.unset).toArray = ls at hl0 ⊢
  have hlv : lv_has ls 4 [(0, .ref mo), (1, .int 1), (2, .int cd), (3, .int kd)] := hl0
  have lf1 := hts (.fieldLink RX12 1 "KerbSplashModel" "thrown" "I") (List.mem_of_getElem? (i := 1) rfl)
  have hi12 : ∀ w ∈ wsX120, w ∈ vs_c_may1 := fun w h => List.mem_cons_of_mem _ (List.mem_append_right _ (List.mem_append_left _ h))
  refine lv_iload_n hx hb dX12_may_0 rfl (lv_at hlv 1 rfl) ?_
  refine lv_if_ne (tgt := 26) hx hb dX12_may_1 (by decide) (fun _ => ?_) (fun c => absurd c (by decide))
  refine lv_aload_n hx hb dX12_may_26 rfl (lv_at hlv 0 rfl) ?_
  refine va_get (D := D) (ci := 12) (v := .int 0) (C := RX12) (T := TX12) (N := 38) hx hb hts hi12 hown hG.1 hP 0 rfl rfl 0 (by decide) lf1 (fun _ h9 => h9) rfl dX12_may_27 ?_
  refine lv_if_ne (tgt := 37) hx hb dX12_may_30 (by decide) (fun c => absurd (by decide) c) (fun _ => ?_)
  refine lv_iconst (v := 1) hx hb dX12_may_33 (by decide) ?_
  refine lv_goto (tgt := 38) hx hb dX12_may_34 (by decide) ?_
  refine W.widen (k := 0) (n := 0) (Nat.le_of_ble_eq_true rfl) (Nat.le_of_ble_eq_true rfl) ?_
  exact W.zret (v := 1) hx hb hr (by first | rfl | decide) (fun t ht hW => ⟨⟨1, ((fun k => ([] : List Nat).getD k 0), (fun k => ([] : List Int32).getD k 0), (fun k => ([] : List (Nat → Int32)).getD k (fun _ => 0))), rfl, (by first | (exact (by rfl))), by rw [ht]; exact hP.sub [0] rfl, hD.sub [0] (by decide) rfl⟩, hS.F ht⟩) hS.2.2 dX12_may_38
def vs_c_may0_0 : List Cond := .code yX12_may cX12_may 4 (some .boolean) :: (([.fieldLink RX12 1 "KerbSplashModel" "thrown" "I", .fieldLink RX12 7 "KerbSplashModel" "refused" "[I"] : List Cond) ++ ((wsX120) ++ ([])))
set_option maxHeartbeats 4000000 in
set_option maxRecDepth 100000 in
theorem c_may0_0 (l : Launch) (hl : l.stackTraces = false) (D : va_G) (cy : Nat → ClassId) (sa : Nat → Nat) (mo : Nat) (ma : Nat → Nat) (cd : Int32) (sz : Nat) (hc : ¬ (cd = 0)) : Met l yX12_may vs_c_may0_0 ({ frames := 0, cells := 0, slots := 0, locals := 0 }) (va_Pc [.ref mo, .int 0, .int cd, .int 0] (pcW D cy sa sz [(mo, .inr (12, [.int 0, .ref (ma 1), .int 0, .int 0, .int 0, .int 0, .int 0, .int 0, .int (-1), .ref (ma 9), .ref (ma 10), .ref (ma 11), .ref (ma 12), .ref (ma 13), .ref (ma 14), .ref (ma 15), .int 0, .int 0, .int 0, .ref (ma 19), .ref (ma 20), .ref (ma 21), .int 0, .ref (ma 23), .ref (ma 24), .ref (ma 25), .ref (ma 26), .ref (ma 27), .ref (ma 28), .int 0, .int 0, .int 0, .int 0, .ref (ma 33), .int (-1), .ref (ma 35), .int 0, .int 0])), ((ma 1), .inl (cy 0, 4, .inl (fun _ => 0)))])) (va_Qi (fun (r : Int32) (u : SU) => (r = 0)) (fun u t => atW D (va_A [(mo, .inr (12, [.int 0, .ref (ma 1), .int 0, .int 0, .int 0, .int 0, .int 0, .int 0, .int (-1), .ref (ma 9), .ref (ma 10), .ref (ma 11), .ref (ma 12), .ref (ma 13), .ref (ma 14), .ref (ma 15), .int 0, .int 0, .int 0, .ref (ma 19), .ref (ma 20), .ref (ma 21), .int 0, .ref (ma 23), .ref (ma 24), .ref (ma 25), .ref (ma 26), .ref (ma 27), .ref (ma 28), .int 0, .int 0, .int 0, .int 0, .ref (ma 33), .int (-1), .ref (ma 35), .int 0, .int 0])), ((ma 1), .inl (cy 0, 4, .inl (fun _ => 0)))] sz) [(mo, .inr (12, [.int cd, .ref (ma 1), .int 0, .int 0, .int 0, .int 0, .int 0, .int 0, .int (-1), .ref (ma 9), .ref (ma 10), .ref (ma 11), .ref (ma 12), .ref (ma 13), .ref (ma 14), .ref (ma 15), .int 0, .int 0, .int 0, .ref (ma 19), .ref (ma 20), .ref (ma 21), .int 0, .ref (ma 23), .ref (ma 24), .ref (ma 25), .ref (ma 26), .ref (ma 27), .ref (ma 28), .int 0, .int 0, .int 0, .int 0, .ref (ma 33), .int (-1), .ref (ma 35), .int 0, .int 0]))] t) (va_A [(mo, .inr (12, [.int 0, .ref (ma 1), .int 0, .int 0, .int 0, .int 0, .int 0, .int 0, .int (-1), .ref (ma 9), .ref (ma 10), .ref (ma 11), .ref (ma 12), .ref (ma 13), .ref (ma 14), .ref (ma 15), .int 0, .int 0, .int 0, .ref (ma 19), .ref (ma 20), .ref (ma 21), .int 0, .ref (ma 23), .ref (ma 24), .ref (ma 25), .ref (ma 26), .ref (ma 27), .ref (ma 28), .int 0, .int 0, .int 0, .int 0, .ref (ma 33), .int (-1), .ref (ma 35), .int 0, .int 0])), ((ma 1), .inl (cy 0, 4, .inl (fun _ => 0)))] sz)) 0 0 (va_A [(mo, .inr (12, [.int 0, .ref (ma 1), .int 0, .int 0, .int 0, .int 0, .int 0, .int 0, .int (-1), .ref (ma 9), .ref (ma 10), .ref (ma 11), .ref (ma 12), .ref (ma 13), .ref (ma 14), .ref (ma 15), .int 0, .int 0, .int 0, .ref (ma 19), .ref (ma 20), .ref (ma 21), .int 0, .ref (ma 23), .ref (ma 24), .ref (ma 25), .ref (ma 26), .ref (ma 27), .ref (ma 28), .int 0, .int 0, .int 0, .int 0, .ref (ma 33), .int (-1), .ref (ma 35), .int 0, .int 0])), ((ma 1), .inl (cy 0, 4, .inl (fun _ => 0)))] sz) := by
  refine Met.ofW (cc := cX12_may) (maxL := 4) (ret := (some .boolean)) (by decide) rfl ?_
  intro p e s m args below meth c s₁ B hml hv
  obtain ⟨rfl, hsz, hP, hG, hD0, hT⟩ := hv
  have hx := B.exec
  have hb := B.bytes
  have hr := B.returns
  have hts := atoms_spec (ws := vs_c_may0_0) B.pre
  have hown : s.vm.findClass RX12 = some m.cls := findClass_of_methodNamed B.named
  have hlocks := B.notSynchronized
  subst hsz
  have hD := hD0.self (sz := s.heap.size)
  generalize hAe : va_A [(mo, .inr (12, [.int 0, .ref (ma 1), .int 0, .int 0, .int 0, .int 0, .int 0, .int 0, .int (-1), .ref (ma 9), .ref (ma 10), .ref (ma 11), .ref (ma 12), .ref (ma 13), .ref (ma 14), .ref (ma 15), .int 0, .int 0, .int 0, .ref (ma 19), .ref (ma 20), .ref (ma 21), .int 0, .ref (ma 23), .ref (ma 24), .ref (ma 25), .ref (ma 26), .ref (ma 27), .ref (ma 28), .int 0, .int 0, .int 0, .int 0, .ref (ma 33), .int (-1), .ref (ma 35), .int 0, .int 0])), ((ma 1), .inl (cy 0, 4, .inl (fun _ => 0)))] s.heap.size = A at hD hT ⊢
  have hA : ∀ q : Nat, s.heap.size ≤ q → A q := fun q h => by rw [← hAe]; exact Or.inr h
  have hS : va_S A s.heap s.heap [] := va_S.rf
  have hl0 := lv_entry ([.ref mo, .int 0, .int cd, .int 0]) (n := 4) (Nat.le_of_ble_eq_true rfl)
  rw [lg_entry_eq]
  generalize (lg_sl ([.ref mo, .int 0, .int cd, .int 0]) ++ List.replicate (4 - (lg_sl ([.ref mo, .int 0, .int cd, .int 0])).length) Slot.unset).toArray = ls at hl0 ⊢
  have hlv : lv_has ls 4 [(0, .ref mo), (1, .int 0), (2, .int cd), (3, .int 0)] := hl0
  have lf1 := hts (.fieldLink RX12 1 "KerbSplashModel" "thrown" "I") (List.mem_of_getElem? (i := 1) rfl)
  have hi12 : ∀ w ∈ wsX120, w ∈ vs_c_may0_0 := fun w h => List.mem_cons_of_mem _ (List.mem_append_right _ (List.mem_append_left _ h))
  have lf7 := hts (.fieldLink RX12 7 "KerbSplashModel" "refused" "[I") (List.mem_of_getElem? (i := 2) rfl)
  refine lv_iload_n hx hb dX12_may_0 rfl (lv_at hlv 1 rfl) ?_
  refine lv_if_ne (tgt := 26) hx hb dX12_may_1 (by decide) (fun c => absurd (by decide) c) (fun _ => ?_)
  refine lv_aload_n hx hb dX12_may_4 rfl (lv_at hlv 0 rfl) ?_
  refine va_get (D := D) (ci := 12) (v := .int 0) (C := RX12) (T := TX12) (N := 38) hx hb hts hi12 hown hG.1 hP 0 rfl rfl 0 (by decide) lf1 (fun _ h9 => h9) rfl dX12_may_5 ?_
  refine lv_if_ne (tgt := 26) hx hb dX12_may_8 (by decide) (fun c => absurd (by decide) c) (fun _ => ?_)
  refine lv_aload_n hx hb dX12_may_11 rfl (lv_at hlv 0 rfl) ?_
  refine lv_iload_n hx hb dX12_may_12 rfl (lv_at hlv 2 rfl) ?_
  refine va_put (D := D) (ci := 12) (v := .int cd) (ty := .int) (C := RX12) (T := TX12) (N := 38) hx hb hts hi12 tyX12 tyX12_ok nmX12 hown hG.1 hP hD hS 0 rfl rfl 0 (by decide) lf1 (fun _ h9 => h9) rfl (by decide +kernel) rfl rfl (Nat.le_of_ble_eq_true rfl) dX12_may_13 (fun H locs hP hD hS => ?_)
  have hP : va_P D vwCl [(mo, .inr (12, [.int cd, .ref (ma 1), .int 0, .int 0, .int 0, .int 0, .int 0, .int 0, .int (-1), .ref (ma 9), .ref (ma 10), .ref (ma 11), .ref (ma 12), .ref (ma 13), .ref (ma 14), .ref (ma 15), .int 0, .int 0, .int 0, .ref (ma 19), .ref (ma 20), .ref (ma 21), .int 0, .ref (ma 23), .ref (ma 24), .ref (ma 25), .ref (ma 26), .ref (ma 27), .ref (ma 28), .int 0, .int 0, .int 0, .int 0, .ref (ma 33), .int (-1), .ref (ma 35), .int 0, .int 0])), ((ma 1), .inl (cy 0, 4, .inl (fun _ => 0)))] H := hP
  have hD : va_D A [(mo, .inr (12, [.int cd, .ref (ma 1), .int 0, .int 0, .int 0, .int 0, .int 0, .int 0, .int (-1), .ref (ma 9), .ref (ma 10), .ref (ma 11), .ref (ma 12), .ref (ma 13), .ref (ma 14), .ref (ma 15), .int 0, .int 0, .int 0, .ref (ma 19), .ref (ma 20), .ref (ma 21), .int 0, .ref (ma 23), .ref (ma 24), .ref (ma 25), .ref (ma 26), .ref (ma 27), .ref (ma 28), .int 0, .int 0, .int 0, .int 0, .ref (ma 33), .int (-1), .ref (ma 35), .int 0, .int 0])), ((ma 1), .inl (cy 0, 4, .inl (fun _ => 0)))] := hD
  refine lv_aload_n hx hb dX12_may_16 rfl (lv_at hlv 0 rfl) ?_
  refine va_get (D := D) (ci := 12) (v := .ref (ma 1)) (C := RX12) (T := TX12) (N := 38) hx hb hts hi12 hown hG.1 hP 0 rfl rfl 1 (by decide) lf7 (fun _ h9 => h9) rfl dX12_may_17 ?_
  refine lv_iload_n hx hb dX12_may_20 rfl (lv_at hlv 3 rfl) ?_
  refine lv_dup2_11 hx hb dX12_may_21 rfl rfl ?_
  refine va_iald hx hb hG.1 hP 1 0 rfl rfl (vpd (by decide)) dX12_may_22 ?_
  refine lt_i (y := 0) (by rfl) ?_
  refine lv_iconst (v := 1) hx hb dX12_may_23 (by decide) ?_
  refine lv_iadd hx hb dX12_may_24 ?_
  refine lt_i (y := 1) (by decide) ?_
  refine va_iast hx hb hG.1 hP hD hS 1 0 rfl rfl (vpd (by decide)) dX12_may_25 (fun H locs hP hD hS => ?_)
  have ⟨f_1, hP, hD⟩ : ∃ f_1 : Nat → Int32, va_P D vwCl [(mo, .inr (12, [.int cd, .ref (ma 1), .int 0, .int 0, .int 0, .int 0, .int 0, .int 0, .int (-1), .ref (ma 9), .ref (ma 10), .ref (ma 11), .ref (ma 12), .ref (ma 13), .ref (ma 14), .ref (ma 15), .int 0, .int 0, .int 0, .ref (ma 19), .ref (ma 20), .ref (ma 21), .int 0, .ref (ma 23), .ref (ma 24), .ref (ma 25), .ref (ma 26), .ref (ma 27), .ref (ma 28), .int 0, .int 0, .int 0, .int 0, .ref (ma 33), .int (-1), .ref (ma 35), .int 0, .int 0])), ((ma 1), .inl (cy 0, 4, .inl f_1))] H ∧ va_D A [(mo, .inr (12, [.int cd, .ref (ma 1), .int 0, .int 0, .int 0, .int 0, .int 0, .int 0, .int (-1), .ref (ma 9), .ref (ma 10), .ref (ma 11), .ref (ma 12), .ref (ma 13), .ref (ma 14), .ref (ma 15), .int 0, .int 0, .int 0, .ref (ma 19), .ref (ma 20), .ref (ma 21), .int 0, .ref (ma 23), .ref (ma 24), .ref (ma 25), .ref (ma 26), .ref (ma 27), .ref (ma 28), .int 0, .int 0, .int 0, .int 0, .ref (ma 33), .int (-1), .ref (ma 35), .int 0, .int 0])), ((ma 1), .inl (cy 0, 4, .inl f_1))] := ⟨_, hP, hD⟩
  refine lv_aload_n hx hb dX12_may_26 rfl (lv_at hlv 0 rfl) ?_
  refine va_get (D := D) (ci := 12) (v := .int cd) (C := RX12) (T := TX12) (N := 38) hx hb hts hi12 hown hG.1 hP 0 rfl rfl 0 (by decide) lf1 (fun _ h9 => h9) rfl dX12_may_27 ?_
  refine lv_if_ne (tgt := 37) hx hb dX12_may_30 (by decide) (fun _ => ?_) (fun c => absurd c hc)
  refine lv_iconst (v := 0) hx hb dX12_may_37 (by decide) ?_
  refine W.widen (k := 0) (n := 0) (Nat.le_of_ble_eq_true rfl) (Nat.le_of_ble_eq_true rfl) ?_
  exact W.zret (v := 0) hx hb hr (by first | rfl | decide) (fun t ht hW => ⟨⟨0, ((fun k => ([] : List Nat).getD k 0), (fun k => ([] : List Int32).getD k 0), (fun k => ([] : List (Nat → Int32)).getD k (fun _ => 0))), rfl, (by first | (exact (by rfl))), by rw [ht]; exact hP.sub [0] rfl, hD.sub [0] (by decide) rfl⟩, hS.F ht⟩) hS.2.2 dX12_may_38
def vs_c_may0_1 : List Cond := .code yX12_may cX12_may 4 (some .boolean) :: (([.fieldLink RX12 1 "KerbSplashModel" "thrown" "I", .fieldLink RX12 7 "KerbSplashModel" "refused" "[I"] : List Cond) ++ ((wsX120) ++ ([])))
set_option maxHeartbeats 4000000 in
set_option maxRecDepth 100000 in
theorem c_may0_1 (l : Launch) (hl : l.stackTraces = false) (D : va_G) (cy : Nat → ClassId) (sa : Nat → Nat) (mo : Nat) (ma : Nat → Nat) (cd : Int32) (sz : Nat) (hc : ¬ (cd = 0)) : Met l yX12_may vs_c_may0_1 ({ frames := 0, cells := 0, slots := 0, locals := 0 }) (va_Pc [.ref mo, .int 0, .int cd, .int 1] (pcW D cy sa sz [(mo, .inr (12, [.int 0, .ref (ma 1), .int 0, .int 0, .int 0, .int 0, .int 0, .int 0, .int (-1), .ref (ma 9), .ref (ma 10), .ref (ma 11), .ref (ma 12), .ref (ma 13), .ref (ma 14), .ref (ma 15), .int 0, .int 0, .int 0, .ref (ma 19), .ref (ma 20), .ref (ma 21), .int 0, .ref (ma 23), .ref (ma 24), .ref (ma 25), .ref (ma 26), .ref (ma 27), .ref (ma 28), .int 0, .int 0, .int 0, .int 0, .ref (ma 33), .int (-1), .ref (ma 35), .int 0, .int 0])), ((ma 1), .inl (cy 0, 4, .inl (fun _ => 0)))])) (va_Qi (fun (r : Int32) (u : SU) => (r = 0)) (fun u t => atW D (va_A [(mo, .inr (12, [.int 0, .ref (ma 1), .int 0, .int 0, .int 0, .int 0, .int 0, .int 0, .int (-1), .ref (ma 9), .ref (ma 10), .ref (ma 11), .ref (ma 12), .ref (ma 13), .ref (ma 14), .ref (ma 15), .int 0, .int 0, .int 0, .ref (ma 19), .ref (ma 20), .ref (ma 21), .int 0, .ref (ma 23), .ref (ma 24), .ref (ma 25), .ref (ma 26), .ref (ma 27), .ref (ma 28), .int 0, .int 0, .int 0, .int 0, .ref (ma 33), .int (-1), .ref (ma 35), .int 0, .int 0])), ((ma 1), .inl (cy 0, 4, .inl (fun _ => 0)))] sz) [(mo, .inr (12, [.int cd, .ref (ma 1), .int 0, .int 0, .int 0, .int 0, .int 0, .int 0, .int (-1), .ref (ma 9), .ref (ma 10), .ref (ma 11), .ref (ma 12), .ref (ma 13), .ref (ma 14), .ref (ma 15), .int 0, .int 0, .int 0, .ref (ma 19), .ref (ma 20), .ref (ma 21), .int 0, .ref (ma 23), .ref (ma 24), .ref (ma 25), .ref (ma 26), .ref (ma 27), .ref (ma 28), .int 0, .int 0, .int 0, .int 0, .ref (ma 33), .int (-1), .ref (ma 35), .int 0, .int 0]))] t) (va_A [(mo, .inr (12, [.int 0, .ref (ma 1), .int 0, .int 0, .int 0, .int 0, .int 0, .int 0, .int (-1), .ref (ma 9), .ref (ma 10), .ref (ma 11), .ref (ma 12), .ref (ma 13), .ref (ma 14), .ref (ma 15), .int 0, .int 0, .int 0, .ref (ma 19), .ref (ma 20), .ref (ma 21), .int 0, .ref (ma 23), .ref (ma 24), .ref (ma 25), .ref (ma 26), .ref (ma 27), .ref (ma 28), .int 0, .int 0, .int 0, .int 0, .ref (ma 33), .int (-1), .ref (ma 35), .int 0, .int 0])), ((ma 1), .inl (cy 0, 4, .inl (fun _ => 0)))] sz)) 0 0 (va_A [(mo, .inr (12, [.int 0, .ref (ma 1), .int 0, .int 0, .int 0, .int 0, .int 0, .int 0, .int (-1), .ref (ma 9), .ref (ma 10), .ref (ma 11), .ref (ma 12), .ref (ma 13), .ref (ma 14), .ref (ma 15), .int 0, .int 0, .int 0, .ref (ma 19), .ref (ma 20), .ref (ma 21), .int 0, .ref (ma 23), .ref (ma 24), .ref (ma 25), .ref (ma 26), .ref (ma 27), .ref (ma 28), .int 0, .int 0, .int 0, .int 0, .ref (ma 33), .int (-1), .ref (ma 35), .int 0, .int 0])), ((ma 1), .inl (cy 0, 4, .inl (fun _ => 0)))] sz) := by
  refine Met.ofW (cc := cX12_may) (maxL := 4) (ret := (some .boolean)) (by decide) rfl ?_
  intro p e s m args below meth c s₁ B hml hv
  obtain ⟨rfl, hsz, hP, hG, hD0, hT⟩ := hv
  have hx := B.exec
  have hb := B.bytes
  have hr := B.returns
  have hts := atoms_spec (ws := vs_c_may0_1) B.pre
  have hown : s.vm.findClass RX12 = some m.cls := findClass_of_methodNamed B.named
  have hlocks := B.notSynchronized
  subst hsz
  have hD := hD0.self (sz := s.heap.size)
  generalize hAe : va_A [(mo, .inr (12, [.int 0, .ref (ma 1), .int 0, .int 0, .int 0, .int 0, .int 0, .int 0, .int (-1), .ref (ma 9), .ref (ma 10), .ref (ma 11), .ref (ma 12), .ref (ma 13), .ref (ma 14), .ref (ma 15), .int 0, .int 0, .int 0, .ref (ma 19), .ref (ma 20), .ref (ma 21), .int 0, .ref (ma 23), .ref (ma 24), .ref (ma 25), .ref (ma 26), .ref (ma 27), .ref (ma 28), .int 0, .int 0, .int 0, .int 0, .ref (ma 33), .int (-1), .ref (ma 35), .int 0, .int 0])), ((ma 1), .inl (cy 0, 4, .inl (fun _ => 0)))] s.heap.size = A at hD hT ⊢
  have hA : ∀ q : Nat, s.heap.size ≤ q → A q := fun q h => by rw [← hAe]; exact Or.inr h
  have hS : va_S A s.heap s.heap [] := va_S.rf
  have hl0 := lv_entry ([.ref mo, .int 0, .int cd, .int 1]) (n := 4) (Nat.le_of_ble_eq_true rfl)
  rw [lg_entry_eq]
  generalize (lg_sl ([.ref mo, .int 0, .int cd, .int 1]) ++ List.replicate (4 - (lg_sl ([.ref mo, .int 0, .int cd, .int 1])).length) Slot.unset).toArray = ls at hl0 ⊢
  have hlv : lv_has ls 4 [(0, .ref mo), (1, .int 0), (2, .int cd), (3, .int 1)] := hl0
  have lf1 := hts (.fieldLink RX12 1 "KerbSplashModel" "thrown" "I") (List.mem_of_getElem? (i := 1) rfl)
  have hi12 : ∀ w ∈ wsX120, w ∈ vs_c_may0_1 := fun w h => List.mem_cons_of_mem _ (List.mem_append_right _ (List.mem_append_left _ h))
  have lf7 := hts (.fieldLink RX12 7 "KerbSplashModel" "refused" "[I") (List.mem_of_getElem? (i := 2) rfl)
  refine lv_iload_n hx hb dX12_may_0 rfl (lv_at hlv 1 rfl) ?_
  refine lv_if_ne (tgt := 26) hx hb dX12_may_1 (by decide) (fun c => absurd (by decide) c) (fun _ => ?_)
  refine lv_aload_n hx hb dX12_may_4 rfl (lv_at hlv 0 rfl) ?_
  refine va_get (D := D) (ci := 12) (v := .int 0) (C := RX12) (T := TX12) (N := 38) hx hb hts hi12 hown hG.1 hP 0 rfl rfl 0 (by decide) lf1 (fun _ h9 => h9) rfl dX12_may_5 ?_
  refine lv_if_ne (tgt := 26) hx hb dX12_may_8 (by decide) (fun c => absurd (by decide) c) (fun _ => ?_)
  refine lv_aload_n hx hb dX12_may_11 rfl (lv_at hlv 0 rfl) ?_
  refine lv_iload_n hx hb dX12_may_12 rfl (lv_at hlv 2 rfl) ?_
  refine va_put (D := D) (ci := 12) (v := .int cd) (ty := .int) (C := RX12) (T := TX12) (N := 38) hx hb hts hi12 tyX12 tyX12_ok nmX12 hown hG.1 hP hD hS 0 rfl rfl 0 (by decide) lf1 (fun _ h9 => h9) rfl (by decide +kernel) rfl rfl (Nat.le_of_ble_eq_true rfl) dX12_may_13 (fun H locs hP hD hS => ?_)
  have hP : va_P D vwCl [(mo, .inr (12, [.int cd, .ref (ma 1), .int 0, .int 0, .int 0, .int 0, .int 0, .int 0, .int (-1), .ref (ma 9), .ref (ma 10), .ref (ma 11), .ref (ma 12), .ref (ma 13), .ref (ma 14), .ref (ma 15), .int 0, .int 0, .int 0, .ref (ma 19), .ref (ma 20), .ref (ma 21), .int 0, .ref (ma 23), .ref (ma 24), .ref (ma 25), .ref (ma 26), .ref (ma 27), .ref (ma 28), .int 0, .int 0, .int 0, .int 0, .ref (ma 33), .int (-1), .ref (ma 35), .int 0, .int 0])), ((ma 1), .inl (cy 0, 4, .inl (fun _ => 0)))] H := hP
  have hD : va_D A [(mo, .inr (12, [.int cd, .ref (ma 1), .int 0, .int 0, .int 0, .int 0, .int 0, .int 0, .int (-1), .ref (ma 9), .ref (ma 10), .ref (ma 11), .ref (ma 12), .ref (ma 13), .ref (ma 14), .ref (ma 15), .int 0, .int 0, .int 0, .ref (ma 19), .ref (ma 20), .ref (ma 21), .int 0, .ref (ma 23), .ref (ma 24), .ref (ma 25), .ref (ma 26), .ref (ma 27), .ref (ma 28), .int 0, .int 0, .int 0, .int 0, .ref (ma 33), .int (-1), .ref (ma 35), .int 0, .int 0])), ((ma 1), .inl (cy 0, 4, .inl (fun _ => 0)))] := hD
  refine lv_aload_n hx hb dX12_may_16 rfl (lv_at hlv 0 rfl) ?_
  refine va_get (D := D) (ci := 12) (v := .ref (ma 1)) (C := RX12) (T := TX12) (N := 38) hx hb hts hi12 hown hG.1 hP 0 rfl rfl 1 (by decide) lf7 (fun _ h9 => h9) rfl dX12_may_17 ?_
  refine lv_iload_n hx hb dX12_may_20 rfl (lv_at hlv 3 rfl) ?_
  refine lv_dup2_11 hx hb dX12_may_21 rfl rfl ?_
  refine va_iald hx hb hG.1 hP 1 0 rfl rfl (vpd (by decide)) dX12_may_22 ?_
  refine lt_i (y := 0) (by rfl) ?_
  refine lv_iconst (v := 1) hx hb dX12_may_23 (by decide) ?_
  refine lv_iadd hx hb dX12_may_24 ?_
  refine lt_i (y := 1) (by decide) ?_
  refine va_iast hx hb hG.1 hP hD hS 1 0 rfl rfl (vpd (by decide)) dX12_may_25 (fun H locs hP hD hS => ?_)
  have ⟨f_1, hP, hD⟩ : ∃ f_1 : Nat → Int32, va_P D vwCl [(mo, .inr (12, [.int cd, .ref (ma 1), .int 0, .int 0, .int 0, .int 0, .int 0, .int 0, .int (-1), .ref (ma 9), .ref (ma 10), .ref (ma 11), .ref (ma 12), .ref (ma 13), .ref (ma 14), .ref (ma 15), .int 0, .int 0, .int 0, .ref (ma 19), .ref (ma 20), .ref (ma 21), .int 0, .ref (ma 23), .ref (ma 24), .ref (ma 25), .ref (ma 26), .ref (ma 27), .ref (ma 28), .int 0, .int 0, .int 0, .int 0, .ref (ma 33), .int (-1), .ref (ma 35), .int 0, .int 0])), ((ma 1), .inl (cy 0, 4, .inl f_1))] H ∧ va_D A [(mo, .inr (12, [.int cd, .ref (ma 1), .int 0, .int 0, .int 0, .int 0, .int 0, .int 0, .int (-1), .ref (ma 9), .ref (ma 10), .ref (ma 11), .ref (ma 12), .ref (ma 13), .ref (ma 14), .ref (ma 15), .int 0, .int 0, .int 0, .ref (ma 19), .ref (ma 20), .ref (ma 21), .int 0, .ref (ma 23), .ref (ma 24), .ref (ma 25), .ref (ma 26), .ref (ma 27), .ref (ma 28), .int 0, .int 0, .int 0, .int 0, .ref (ma 33), .int (-1), .ref (ma 35), .int 0, .int 0])), ((ma 1), .inl (cy 0, 4, .inl f_1))] := ⟨_, hP, hD⟩
  refine lv_aload_n hx hb dX12_may_26 rfl (lv_at hlv 0 rfl) ?_
  refine va_get (D := D) (ci := 12) (v := .int cd) (C := RX12) (T := TX12) (N := 38) hx hb hts hi12 hown hG.1 hP 0 rfl rfl 0 (by decide) lf1 (fun _ h9 => h9) rfl dX12_may_27 ?_
  refine lv_if_ne (tgt := 37) hx hb dX12_may_30 (by decide) (fun _ => ?_) (fun c => absurd c hc)
  refine lv_iconst (v := 0) hx hb dX12_may_37 (by decide) ?_
  refine W.widen (k := 0) (n := 0) (Nat.le_of_ble_eq_true rfl) (Nat.le_of_ble_eq_true rfl) ?_
  exact W.zret (v := 0) hx hb hr (by first | rfl | decide) (fun t ht hW => ⟨⟨0, ((fun k => ([] : List Nat).getD k 0), (fun k => ([] : List Int32).getD k 0), (fun k => ([] : List (Nat → Int32)).getD k (fun _ => 0))), rfl, (by first | (exact (by rfl))), by rw [ht]; exact hP.sub [0] rfl, hD.sub [0] (by decide) rfl⟩, hS.F ht⟩) hS.2.2 dX12_may_38
def vs_c_may0_2 : List Cond := .code yX12_may cX12_may 4 (some .boolean) :: (([.fieldLink RX12 1 "KerbSplashModel" "thrown" "I", .fieldLink RX12 7 "KerbSplashModel" "refused" "[I"] : List Cond) ++ ((wsX120) ++ ([])))
set_option maxHeartbeats 4000000 in
set_option maxRecDepth 100000 in
theorem c_may0_2 (l : Launch) (hl : l.stackTraces = false) (D : va_G) (cy : Nat → ClassId) (sa : Nat → Nat) (mo : Nat) (ma : Nat → Nat) (cd : Int32) (sz : Nat) (hc : ¬ (cd = 0)) : Met l yX12_may vs_c_may0_2 ({ frames := 0, cells := 0, slots := 0, locals := 0 }) (va_Pc [.ref mo, .int 0, .int cd, .int 2] (pcW D cy sa sz [(mo, .inr (12, [.int 0, .ref (ma 1), .int 0, .int 0, .int 0, .int 0, .int 0, .int 0, .int (-1), .ref (ma 9), .ref (ma 10), .ref (ma 11), .ref (ma 12), .ref (ma 13), .ref (ma 14), .ref (ma 15), .int 0, .int 0, .int 0, .ref (ma 19), .ref (ma 20), .ref (ma 21), .int 0, .ref (ma 23), .ref (ma 24), .ref (ma 25), .ref (ma 26), .ref (ma 27), .ref (ma 28), .int 0, .int 0, .int 0, .int 0, .ref (ma 33), .int (-1), .ref (ma 35), .int 0, .int 0])), ((ma 1), .inl (cy 0, 4, .inl (fun _ => 0)))])) (va_Qi (fun (r : Int32) (u : SU) => (r = 0)) (fun u t => atW D (va_A [(mo, .inr (12, [.int 0, .ref (ma 1), .int 0, .int 0, .int 0, .int 0, .int 0, .int 0, .int (-1), .ref (ma 9), .ref (ma 10), .ref (ma 11), .ref (ma 12), .ref (ma 13), .ref (ma 14), .ref (ma 15), .int 0, .int 0, .int 0, .ref (ma 19), .ref (ma 20), .ref (ma 21), .int 0, .ref (ma 23), .ref (ma 24), .ref (ma 25), .ref (ma 26), .ref (ma 27), .ref (ma 28), .int 0, .int 0, .int 0, .int 0, .ref (ma 33), .int (-1), .ref (ma 35), .int 0, .int 0])), ((ma 1), .inl (cy 0, 4, .inl (fun _ => 0)))] sz) [(mo, .inr (12, [.int cd, .ref (ma 1), .int 0, .int 0, .int 0, .int 0, .int 0, .int 0, .int (-1), .ref (ma 9), .ref (ma 10), .ref (ma 11), .ref (ma 12), .ref (ma 13), .ref (ma 14), .ref (ma 15), .int 0, .int 0, .int 0, .ref (ma 19), .ref (ma 20), .ref (ma 21), .int 0, .ref (ma 23), .ref (ma 24), .ref (ma 25), .ref (ma 26), .ref (ma 27), .ref (ma 28), .int 0, .int 0, .int 0, .int 0, .ref (ma 33), .int (-1), .ref (ma 35), .int 0, .int 0]))] t) (va_A [(mo, .inr (12, [.int 0, .ref (ma 1), .int 0, .int 0, .int 0, .int 0, .int 0, .int 0, .int (-1), .ref (ma 9), .ref (ma 10), .ref (ma 11), .ref (ma 12), .ref (ma 13), .ref (ma 14), .ref (ma 15), .int 0, .int 0, .int 0, .ref (ma 19), .ref (ma 20), .ref (ma 21), .int 0, .ref (ma 23), .ref (ma 24), .ref (ma 25), .ref (ma 26), .ref (ma 27), .ref (ma 28), .int 0, .int 0, .int 0, .int 0, .ref (ma 33), .int (-1), .ref (ma 35), .int 0, .int 0])), ((ma 1), .inl (cy 0, 4, .inl (fun _ => 0)))] sz)) 0 0 (va_A [(mo, .inr (12, [.int 0, .ref (ma 1), .int 0, .int 0, .int 0, .int 0, .int 0, .int 0, .int (-1), .ref (ma 9), .ref (ma 10), .ref (ma 11), .ref (ma 12), .ref (ma 13), .ref (ma 14), .ref (ma 15), .int 0, .int 0, .int 0, .ref (ma 19), .ref (ma 20), .ref (ma 21), .int 0, .ref (ma 23), .ref (ma 24), .ref (ma 25), .ref (ma 26), .ref (ma 27), .ref (ma 28), .int 0, .int 0, .int 0, .int 0, .ref (ma 33), .int (-1), .ref (ma 35), .int 0, .int 0])), ((ma 1), .inl (cy 0, 4, .inl (fun _ => 0)))] sz) := by
  refine Met.ofW (cc := cX12_may) (maxL := 4) (ret := (some .boolean)) (by decide) rfl ?_
  intro p e s m args below meth c s₁ B hml hv
  obtain ⟨rfl, hsz, hP, hG, hD0, hT⟩ := hv
  have hx := B.exec
  have hb := B.bytes
  have hr := B.returns
  have hts := atoms_spec (ws := vs_c_may0_2) B.pre
  have hown : s.vm.findClass RX12 = some m.cls := findClass_of_methodNamed B.named
  have hlocks := B.notSynchronized
  subst hsz
  have hD := hD0.self (sz := s.heap.size)
  generalize hAe : va_A [(mo, .inr (12, [.int 0, .ref (ma 1), .int 0, .int 0, .int 0, .int 0, .int 0, .int 0, .int (-1), .ref (ma 9), .ref (ma 10), .ref (ma 11), .ref (ma 12), .ref (ma 13), .ref (ma 14), .ref (ma 15), .int 0, .int 0, .int 0, .ref (ma 19), .ref (ma 20), .ref (ma 21), .int 0, .ref (ma 23), .ref (ma 24), .ref (ma 25), .ref (ma 26), .ref (ma 27), .ref (ma 28), .int 0, .int 0, .int 0, .int 0, .ref (ma 33), .int (-1), .ref (ma 35), .int 0, .int 0])), ((ma 1), .inl (cy 0, 4, .inl (fun _ => 0)))] s.heap.size = A at hD hT ⊢
  have hA : ∀ q : Nat, s.heap.size ≤ q → A q := fun q h => by rw [← hAe]; exact Or.inr h
  have hS : va_S A s.heap s.heap [] := va_S.rf
  have hl0 := lv_entry ([.ref mo, .int 0, .int cd, .int 2]) (n := 4) (Nat.le_of_ble_eq_true rfl)
  rw [lg_entry_eq]
  generalize (lg_sl ([.ref mo, .int 0, .int cd, .int 2]) ++ List.replicate (4 - (lg_sl ([.ref mo, .int 0, .int cd, .int 2])).length) Slot.unset).toArray = ls at hl0 ⊢
  have hlv : lv_has ls 4 [(0, .ref mo), (1, .int 0), (2, .int cd), (3, .int 2)] := hl0
  have lf1 := hts (.fieldLink RX12 1 "KerbSplashModel" "thrown" "I") (List.mem_of_getElem? (i := 1) rfl)
  have hi12 : ∀ w ∈ wsX120, w ∈ vs_c_may0_2 := fun w h => List.mem_cons_of_mem _ (List.mem_append_right _ (List.mem_append_left _ h))
  have lf7 := hts (.fieldLink RX12 7 "KerbSplashModel" "refused" "[I") (List.mem_of_getElem? (i := 2) rfl)
  refine lv_iload_n hx hb dX12_may_0 rfl (lv_at hlv 1 rfl) ?_
  refine lv_if_ne (tgt := 26) hx hb dX12_may_1 (by decide) (fun c => absurd (by decide) c) (fun _ => ?_)
  refine lv_aload_n hx hb dX12_may_4 rfl (lv_at hlv 0 rfl) ?_
  refine va_get (D := D) (ci := 12) (v := .int 0) (C := RX12) (T := TX12) (N := 38) hx hb hts hi12 hown hG.1 hP 0 rfl rfl 0 (by decide) lf1 (fun _ h9 => h9) rfl dX12_may_5 ?_
  refine lv_if_ne (tgt := 26) hx hb dX12_may_8 (by decide) (fun c => absurd (by decide) c) (fun _ => ?_)
  refine lv_aload_n hx hb dX12_may_11 rfl (lv_at hlv 0 rfl) ?_
  refine lv_iload_n hx hb dX12_may_12 rfl (lv_at hlv 2 rfl) ?_
  refine va_put (D := D) (ci := 12) (v := .int cd) (ty := .int) (C := RX12) (T := TX12) (N := 38) hx hb hts hi12 tyX12 tyX12_ok nmX12 hown hG.1 hP hD hS 0 rfl rfl 0 (by decide) lf1 (fun _ h9 => h9) rfl (by decide +kernel) rfl rfl (Nat.le_of_ble_eq_true rfl) dX12_may_13 (fun H locs hP hD hS => ?_)
  have hP : va_P D vwCl [(mo, .inr (12, [.int cd, .ref (ma 1), .int 0, .int 0, .int 0, .int 0, .int 0, .int 0, .int (-1), .ref (ma 9), .ref (ma 10), .ref (ma 11), .ref (ma 12), .ref (ma 13), .ref (ma 14), .ref (ma 15), .int 0, .int 0, .int 0, .ref (ma 19), .ref (ma 20), .ref (ma 21), .int 0, .ref (ma 23), .ref (ma 24), .ref (ma 25), .ref (ma 26), .ref (ma 27), .ref (ma 28), .int 0, .int 0, .int 0, .int 0, .ref (ma 33), .int (-1), .ref (ma 35), .int 0, .int 0])), ((ma 1), .inl (cy 0, 4, .inl (fun _ => 0)))] H := hP
  have hD : va_D A [(mo, .inr (12, [.int cd, .ref (ma 1), .int 0, .int 0, .int 0, .int 0, .int 0, .int 0, .int (-1), .ref (ma 9), .ref (ma 10), .ref (ma 11), .ref (ma 12), .ref (ma 13), .ref (ma 14), .ref (ma 15), .int 0, .int 0, .int 0, .ref (ma 19), .ref (ma 20), .ref (ma 21), .int 0, .ref (ma 23), .ref (ma 24), .ref (ma 25), .ref (ma 26), .ref (ma 27), .ref (ma 28), .int 0, .int 0, .int 0, .int 0, .ref (ma 33), .int (-1), .ref (ma 35), .int 0, .int 0])), ((ma 1), .inl (cy 0, 4, .inl (fun _ => 0)))] := hD
  refine lv_aload_n hx hb dX12_may_16 rfl (lv_at hlv 0 rfl) ?_
  refine va_get (D := D) (ci := 12) (v := .ref (ma 1)) (C := RX12) (T := TX12) (N := 38) hx hb hts hi12 hown hG.1 hP 0 rfl rfl 1 (by decide) lf7 (fun _ h9 => h9) rfl dX12_may_17 ?_
  refine lv_iload_n hx hb dX12_may_20 rfl (lv_at hlv 3 rfl) ?_
  refine lv_dup2_11 hx hb dX12_may_21 rfl rfl ?_
  refine va_iald hx hb hG.1 hP 1 0 rfl rfl (vpd (by decide)) dX12_may_22 ?_
  refine lt_i (y := 0) (by rfl) ?_
  refine lv_iconst (v := 1) hx hb dX12_may_23 (by decide) ?_
  refine lv_iadd hx hb dX12_may_24 ?_
  refine lt_i (y := 1) (by decide) ?_
  refine va_iast hx hb hG.1 hP hD hS 1 0 rfl rfl (vpd (by decide)) dX12_may_25 (fun H locs hP hD hS => ?_)
  have ⟨f_1, hP, hD⟩ : ∃ f_1 : Nat → Int32, va_P D vwCl [(mo, .inr (12, [.int cd, .ref (ma 1), .int 0, .int 0, .int 0, .int 0, .int 0, .int 0, .int (-1), .ref (ma 9), .ref (ma 10), .ref (ma 11), .ref (ma 12), .ref (ma 13), .ref (ma 14), .ref (ma 15), .int 0, .int 0, .int 0, .ref (ma 19), .ref (ma 20), .ref (ma 21), .int 0, .ref (ma 23), .ref (ma 24), .ref (ma 25), .ref (ma 26), .ref (ma 27), .ref (ma 28), .int 0, .int 0, .int 0, .int 0, .ref (ma 33), .int (-1), .ref (ma 35), .int 0, .int 0])), ((ma 1), .inl (cy 0, 4, .inl f_1))] H ∧ va_D A [(mo, .inr (12, [.int cd, .ref (ma 1), .int 0, .int 0, .int 0, .int 0, .int 0, .int 0, .int (-1), .ref (ma 9), .ref (ma 10), .ref (ma 11), .ref (ma 12), .ref (ma 13), .ref (ma 14), .ref (ma 15), .int 0, .int 0, .int 0, .ref (ma 19), .ref (ma 20), .ref (ma 21), .int 0, .ref (ma 23), .ref (ma 24), .ref (ma 25), .ref (ma 26), .ref (ma 27), .ref (ma 28), .int 0, .int 0, .int 0, .int 0, .ref (ma 33), .int (-1), .ref (ma 35), .int 0, .int 0])), ((ma 1), .inl (cy 0, 4, .inl f_1))] := ⟨_, hP, hD⟩
  refine lv_aload_n hx hb dX12_may_26 rfl (lv_at hlv 0 rfl) ?_
  refine va_get (D := D) (ci := 12) (v := .int cd) (C := RX12) (T := TX12) (N := 38) hx hb hts hi12 hown hG.1 hP 0 rfl rfl 0 (by decide) lf1 (fun _ h9 => h9) rfl dX12_may_27 ?_
  refine lv_if_ne (tgt := 37) hx hb dX12_may_30 (by decide) (fun _ => ?_) (fun c => absurd c hc)
  refine lv_iconst (v := 0) hx hb dX12_may_37 (by decide) ?_
  refine W.widen (k := 0) (n := 0) (Nat.le_of_ble_eq_true rfl) (Nat.le_of_ble_eq_true rfl) ?_
  exact W.zret (v := 0) hx hb hr (by first | rfl | decide) (fun t ht hW => ⟨⟨0, ((fun k => ([] : List Nat).getD k 0), (fun k => ([] : List Int32).getD k 0), (fun k => ([] : List (Nat → Int32)).getD k (fun _ => 0))), rfl, (by first | (exact (by rfl))), by rw [ht]; exact hP.sub [0] rfl, hD.sub [0] (by decide) rfl⟩, hS.F ht⟩) hS.2.2 dX12_may_38
def vs_c_may0_3 : List Cond := .code yX12_may cX12_may 4 (some .boolean) :: (([.fieldLink RX12 1 "KerbSplashModel" "thrown" "I", .fieldLink RX12 7 "KerbSplashModel" "refused" "[I"] : List Cond) ++ ((wsX120) ++ ([])))
set_option maxHeartbeats 4000000 in
set_option maxRecDepth 100000 in
theorem c_may0_3 (l : Launch) (hl : l.stackTraces = false) (D : va_G) (cy : Nat → ClassId) (sa : Nat → Nat) (mo : Nat) (ma : Nat → Nat) (cd : Int32) (sz : Nat) (hc : ¬ (cd = 0)) : Met l yX12_may vs_c_may0_3 ({ frames := 0, cells := 0, slots := 0, locals := 0 }) (va_Pc [.ref mo, .int 0, .int cd, .int 3] (pcW D cy sa sz [(mo, .inr (12, [.int 0, .ref (ma 1), .int 0, .int 0, .int 0, .int 0, .int 0, .int 0, .int (-1), .ref (ma 9), .ref (ma 10), .ref (ma 11), .ref (ma 12), .ref (ma 13), .ref (ma 14), .ref (ma 15), .int 0, .int 0, .int 0, .ref (ma 19), .ref (ma 20), .ref (ma 21), .int 0, .ref (ma 23), .ref (ma 24), .ref (ma 25), .ref (ma 26), .ref (ma 27), .ref (ma 28), .int 0, .int 0, .int 0, .int 0, .ref (ma 33), .int (-1), .ref (ma 35), .int 0, .int 0])), ((ma 1), .inl (cy 0, 4, .inl (fun _ => 0)))])) (va_Qi (fun (r : Int32) (u : SU) => (r = 0)) (fun u t => atW D (va_A [(mo, .inr (12, [.int 0, .ref (ma 1), .int 0, .int 0, .int 0, .int 0, .int 0, .int 0, .int (-1), .ref (ma 9), .ref (ma 10), .ref (ma 11), .ref (ma 12), .ref (ma 13), .ref (ma 14), .ref (ma 15), .int 0, .int 0, .int 0, .ref (ma 19), .ref (ma 20), .ref (ma 21), .int 0, .ref (ma 23), .ref (ma 24), .ref (ma 25), .ref (ma 26), .ref (ma 27), .ref (ma 28), .int 0, .int 0, .int 0, .int 0, .ref (ma 33), .int (-1), .ref (ma 35), .int 0, .int 0])), ((ma 1), .inl (cy 0, 4, .inl (fun _ => 0)))] sz) [(mo, .inr (12, [.int cd, .ref (ma 1), .int 0, .int 0, .int 0, .int 0, .int 0, .int 0, .int (-1), .ref (ma 9), .ref (ma 10), .ref (ma 11), .ref (ma 12), .ref (ma 13), .ref (ma 14), .ref (ma 15), .int 0, .int 0, .int 0, .ref (ma 19), .ref (ma 20), .ref (ma 21), .int 0, .ref (ma 23), .ref (ma 24), .ref (ma 25), .ref (ma 26), .ref (ma 27), .ref (ma 28), .int 0, .int 0, .int 0, .int 0, .ref (ma 33), .int (-1), .ref (ma 35), .int 0, .int 0]))] t) (va_A [(mo, .inr (12, [.int 0, .ref (ma 1), .int 0, .int 0, .int 0, .int 0, .int 0, .int 0, .int (-1), .ref (ma 9), .ref (ma 10), .ref (ma 11), .ref (ma 12), .ref (ma 13), .ref (ma 14), .ref (ma 15), .int 0, .int 0, .int 0, .ref (ma 19), .ref (ma 20), .ref (ma 21), .int 0, .ref (ma 23), .ref (ma 24), .ref (ma 25), .ref (ma 26), .ref (ma 27), .ref (ma 28), .int 0, .int 0, .int 0, .int 0, .ref (ma 33), .int (-1), .ref (ma 35), .int 0, .int 0])), ((ma 1), .inl (cy 0, 4, .inl (fun _ => 0)))] sz)) 0 0 (va_A [(mo, .inr (12, [.int 0, .ref (ma 1), .int 0, .int 0, .int 0, .int 0, .int 0, .int 0, .int (-1), .ref (ma 9), .ref (ma 10), .ref (ma 11), .ref (ma 12), .ref (ma 13), .ref (ma 14), .ref (ma 15), .int 0, .int 0, .int 0, .ref (ma 19), .ref (ma 20), .ref (ma 21), .int 0, .ref (ma 23), .ref (ma 24), .ref (ma 25), .ref (ma 26), .ref (ma 27), .ref (ma 28), .int 0, .int 0, .int 0, .int 0, .ref (ma 33), .int (-1), .ref (ma 35), .int 0, .int 0])), ((ma 1), .inl (cy 0, 4, .inl (fun _ => 0)))] sz) := by
  refine Met.ofW (cc := cX12_may) (maxL := 4) (ret := (some .boolean)) (by decide) rfl ?_
  intro p e s m args below meth c s₁ B hml hv
  obtain ⟨rfl, hsz, hP, hG, hD0, hT⟩ := hv
  have hx := B.exec
  have hb := B.bytes
  have hr := B.returns
  have hts := atoms_spec (ws := vs_c_may0_3) B.pre
  have hown : s.vm.findClass RX12 = some m.cls := findClass_of_methodNamed B.named
  have hlocks := B.notSynchronized
  subst hsz
  have hD := hD0.self (sz := s.heap.size)
  generalize hAe : va_A [(mo, .inr (12, [.int 0, .ref (ma 1), .int 0, .int 0, .int 0, .int 0, .int 0, .int 0, .int (-1), .ref (ma 9), .ref (ma 10), .ref (ma 11), .ref (ma 12), .ref (ma 13), .ref (ma 14), .ref (ma 15), .int 0, .int 0, .int 0, .ref (ma 19), .ref (ma 20), .ref (ma 21), .int 0, .ref (ma 23), .ref (ma 24), .ref (ma 25), .ref (ma 26), .ref (ma 27), .ref (ma 28), .int 0, .int 0, .int 0, .int 0, .ref (ma 33), .int (-1), .ref (ma 35), .int 0, .int 0])), ((ma 1), .inl (cy 0, 4, .inl (fun _ => 0)))] s.heap.size = A at hD hT ⊢
  have hA : ∀ q : Nat, s.heap.size ≤ q → A q := fun q h => by rw [← hAe]; exact Or.inr h
  have hS : va_S A s.heap s.heap [] := va_S.rf
  have hl0 := lv_entry ([.ref mo, .int 0, .int cd, .int 3]) (n := 4) (Nat.le_of_ble_eq_true rfl)
  rw [lg_entry_eq]
  generalize (lg_sl ([.ref mo, .int 0, .int cd, .int 3]) ++ List.replicate (4 - (lg_sl ([.ref mo, .int 0, .int cd, .int 3])).length) Slot.unset).toArray = ls at hl0 ⊢
  have hlv : lv_has ls 4 [(0, .ref mo), (1, .int 0), (2, .int cd), (3, .int 3)] := hl0
  have lf1 := hts (.fieldLink RX12 1 "KerbSplashModel" "thrown" "I") (List.mem_of_getElem? (i := 1) rfl)
  have hi12 : ∀ w ∈ wsX120, w ∈ vs_c_may0_3 := fun w h => List.mem_cons_of_mem _ (List.mem_append_right _ (List.mem_append_left _ h))
  have lf7 := hts (.fieldLink RX12 7 "KerbSplashModel" "refused" "[I") (List.mem_of_getElem? (i := 2) rfl)
  refine lv_iload_n hx hb dX12_may_0 rfl (lv_at hlv 1 rfl) ?_
  refine lv_if_ne (tgt := 26) hx hb dX12_may_1 (by decide) (fun c => absurd (by decide) c) (fun _ => ?_)
  refine lv_aload_n hx hb dX12_may_4 rfl (lv_at hlv 0 rfl) ?_
  refine va_get (D := D) (ci := 12) (v := .int 0) (C := RX12) (T := TX12) (N := 38) hx hb hts hi12 hown hG.1 hP 0 rfl rfl 0 (by decide) lf1 (fun _ h9 => h9) rfl dX12_may_5 ?_
  refine lv_if_ne (tgt := 26) hx hb dX12_may_8 (by decide) (fun c => absurd (by decide) c) (fun _ => ?_)
  refine lv_aload_n hx hb dX12_may_11 rfl (lv_at hlv 0 rfl) ?_
  refine lv_iload_n hx hb dX12_may_12 rfl (lv_at hlv 2 rfl) ?_
  refine va_put (D := D) (ci := 12) (v := .int cd) (ty := .int) (C := RX12) (T := TX12) (N := 38) hx hb hts hi12 tyX12 tyX12_ok nmX12 hown hG.1 hP hD hS 0 rfl rfl 0 (by decide) lf1 (fun _ h9 => h9) rfl (by decide +kernel) rfl rfl (Nat.le_of_ble_eq_true rfl) dX12_may_13 (fun H locs hP hD hS => ?_)
  have hP : va_P D vwCl [(mo, .inr (12, [.int cd, .ref (ma 1), .int 0, .int 0, .int 0, .int 0, .int 0, .int 0, .int (-1), .ref (ma 9), .ref (ma 10), .ref (ma 11), .ref (ma 12), .ref (ma 13), .ref (ma 14), .ref (ma 15), .int 0, .int 0, .int 0, .ref (ma 19), .ref (ma 20), .ref (ma 21), .int 0, .ref (ma 23), .ref (ma 24), .ref (ma 25), .ref (ma 26), .ref (ma 27), .ref (ma 28), .int 0, .int 0, .int 0, .int 0, .ref (ma 33), .int (-1), .ref (ma 35), .int 0, .int 0])), ((ma 1), .inl (cy 0, 4, .inl (fun _ => 0)))] H := hP
  have hD : va_D A [(mo, .inr (12, [.int cd, .ref (ma 1), .int 0, .int 0, .int 0, .int 0, .int 0, .int 0, .int (-1), .ref (ma 9), .ref (ma 10), .ref (ma 11), .ref (ma 12), .ref (ma 13), .ref (ma 14), .ref (ma 15), .int 0, .int 0, .int 0, .ref (ma 19), .ref (ma 20), .ref (ma 21), .int 0, .ref (ma 23), .ref (ma 24), .ref (ma 25), .ref (ma 26), .ref (ma 27), .ref (ma 28), .int 0, .int 0, .int 0, .int 0, .ref (ma 33), .int (-1), .ref (ma 35), .int 0, .int 0])), ((ma 1), .inl (cy 0, 4, .inl (fun _ => 0)))] := hD
  refine lv_aload_n hx hb dX12_may_16 rfl (lv_at hlv 0 rfl) ?_
  refine va_get (D := D) (ci := 12) (v := .ref (ma 1)) (C := RX12) (T := TX12) (N := 38) hx hb hts hi12 hown hG.1 hP 0 rfl rfl 1 (by decide) lf7 (fun _ h9 => h9) rfl dX12_may_17 ?_
  refine lv_iload_n hx hb dX12_may_20 rfl (lv_at hlv 3 rfl) ?_
  refine lv_dup2_11 hx hb dX12_may_21 rfl rfl ?_
  refine va_iald hx hb hG.1 hP 1 0 rfl rfl (vpd (by decide)) dX12_may_22 ?_
  refine lt_i (y := 0) (by rfl) ?_
  refine lv_iconst (v := 1) hx hb dX12_may_23 (by decide) ?_
  refine lv_iadd hx hb dX12_may_24 ?_
  refine lt_i (y := 1) (by decide) ?_
  refine va_iast hx hb hG.1 hP hD hS 1 0 rfl rfl (vpd (by decide)) dX12_may_25 (fun H locs hP hD hS => ?_)
  have ⟨f_1, hP, hD⟩ : ∃ f_1 : Nat → Int32, va_P D vwCl [(mo, .inr (12, [.int cd, .ref (ma 1), .int 0, .int 0, .int 0, .int 0, .int 0, .int 0, .int (-1), .ref (ma 9), .ref (ma 10), .ref (ma 11), .ref (ma 12), .ref (ma 13), .ref (ma 14), .ref (ma 15), .int 0, .int 0, .int 0, .ref (ma 19), .ref (ma 20), .ref (ma 21), .int 0, .ref (ma 23), .ref (ma 24), .ref (ma 25), .ref (ma 26), .ref (ma 27), .ref (ma 28), .int 0, .int 0, .int 0, .int 0, .ref (ma 33), .int (-1), .ref (ma 35), .int 0, .int 0])), ((ma 1), .inl (cy 0, 4, .inl f_1))] H ∧ va_D A [(mo, .inr (12, [.int cd, .ref (ma 1), .int 0, .int 0, .int 0, .int 0, .int 0, .int 0, .int (-1), .ref (ma 9), .ref (ma 10), .ref (ma 11), .ref (ma 12), .ref (ma 13), .ref (ma 14), .ref (ma 15), .int 0, .int 0, .int 0, .ref (ma 19), .ref (ma 20), .ref (ma 21), .int 0, .ref (ma 23), .ref (ma 24), .ref (ma 25), .ref (ma 26), .ref (ma 27), .ref (ma 28), .int 0, .int 0, .int 0, .int 0, .ref (ma 33), .int (-1), .ref (ma 35), .int 0, .int 0])), ((ma 1), .inl (cy 0, 4, .inl f_1))] := ⟨_, hP, hD⟩
  refine lv_aload_n hx hb dX12_may_26 rfl (lv_at hlv 0 rfl) ?_
  refine va_get (D := D) (ci := 12) (v := .int cd) (C := RX12) (T := TX12) (N := 38) hx hb hts hi12 hown hG.1 hP 0 rfl rfl 0 (by decide) lf1 (fun _ h9 => h9) rfl dX12_may_27 ?_
  refine lv_if_ne (tgt := 37) hx hb dX12_may_30 (by decide) (fun _ => ?_) (fun c => absurd c hc)
  refine lv_iconst (v := 0) hx hb dX12_may_37 (by decide) ?_
  refine W.widen (k := 0) (n := 0) (Nat.le_of_ble_eq_true rfl) (Nat.le_of_ble_eq_true rfl) ?_
  exact W.zret (v := 0) hx hb hr (by first | rfl | decide) (fun t ht hW => ⟨⟨0, ((fun k => ([] : List Nat).getD k 0), (fun k => ([] : List Int32).getD k 0), (fun k => ([] : List (Nat → Int32)).getD k (fun _ => 0))), rfl, (by first | (exact (by rfl))), by rw [ht]; exact hP.sub [0] rfl, hD.sub [0] (by decide) rfl⟩, hS.F ht⟩) hS.2.2 dX12_may_38
def vs_c_isLaw : List Cond := .code yX12_isLaw cX12_isLaw 3 (some .boolean) :: (([.fieldLink RX12 209 "KerbSplashModel" "laws" "I"] : List Cond) ++ ((wsX120) ++ ((va_wsS RX12 279 yX12_within vs_c_within) ++ ((wsV RX12 175 RX12 yX12_may vs_c_may0_1) ++ ([])))))
set_option maxHeartbeats 4000000 in
set_option maxRecDepth 100000 in
theorem c_isLaw (l : Launch) (hl : l.stackTraces = false) (D : va_G) (cy : Nat → ClassId) (sa : Nat → Nat) (mo : Nat) (ma : Nat → Nat) (n cd : Int32) (sz : Nat) (hc : ¬ (cd = 0)) : Met l yX12_isLaw vs_c_isLaw ({ frames := 1, cells := 0, slots := 0, locals := 23 }) (va_Pc [.ref mo, .int n, .int cd] (pcW D cy sa sz [(mo, .inr (12, [.int 0, .ref (ma 1), .int 0, .int 0, .int 0, .int 0, .int 0, .int 0, .int (-1), .ref (ma 9), .ref (ma 10), .ref (ma 11), .ref (ma 12), .ref (ma 13), .ref (ma 14), .ref (ma 15), .int 0, .int 0, .int 0, .ref (ma 19), .ref (ma 20), .ref (ma 21), .int 0, .ref (ma 23), .ref (ma 24), .ref (ma 25), .ref (ma 26), .ref (ma 27), .ref (ma 28), .int 0, .int 0, .int 0, .int 0, .ref (ma 33), .int (-1), .ref (ma 35), .int 0, .int 0])), ((ma 1), .inl (cy 0, 4, .inl (fun _ => 0)))])) (va_Qi (fun (r : Int32) (u : SU) => (r = 0)) (fun u t => atW D (va_A [(mo, .inr (12, [.int 0, .ref (ma 1), .int 0, .int 0, .int 0, .int 0, .int 0, .int 0, .int (-1), .ref (ma 9), .ref (ma 10), .ref (ma 11), .ref (ma 12), .ref (ma 13), .ref (ma 14), .ref (ma 15), .int 0, .int 0, .int 0, .ref (ma 19), .ref (ma 20), .ref (ma 21), .int 0, .ref (ma 23), .ref (ma 24), .ref (ma 25), .ref (ma 26), .ref (ma 27), .ref (ma 28), .int 0, .int 0, .int 0, .int 0, .ref (ma 33), .int (-1), .ref (ma 35), .int 0, .int 0])), ((ma 1), .inl (cy 0, 4, .inl (fun _ => 0)))] sz) [(mo, .inr (12, [.int cd, .ref (ma 1), .int 0, .int 0, .int 0, .int 0, .int 0, .int 0, .int (-1), .ref (ma 9), .ref (ma 10), .ref (ma 11), .ref (ma 12), .ref (ma 13), .ref (ma 14), .ref (ma 15), .int 0, .int 0, .int 0, .ref (ma 19), .ref (ma 20), .ref (ma 21), .int 0, .ref (ma 23), .ref (ma 24), .ref (ma 25), .ref (ma 26), .ref (ma 27), .ref (ma 28), .int 0, .int 0, .int 0, .int 0, .ref (ma 33), .int (-1), .ref (ma 35), .int 0, .int 0]))] t) (va_A [(mo, .inr (12, [.int 0, .ref (ma 1), .int 0, .int 0, .int 0, .int 0, .int 0, .int 0, .int (-1), .ref (ma 9), .ref (ma 10), .ref (ma 11), .ref (ma 12), .ref (ma 13), .ref (ma 14), .ref (ma 15), .int 0, .int 0, .int 0, .ref (ma 19), .ref (ma 20), .ref (ma 21), .int 0, .ref (ma 23), .ref (ma 24), .ref (ma 25), .ref (ma 26), .ref (ma 27), .ref (ma 28), .int 0, .int 0, .int 0, .int 0, .ref (ma 33), .int (-1), .ref (ma 35), .int 0, .int 0])), ((ma 1), .inl (cy 0, 4, .inl (fun _ => 0)))] sz)) 0 0 (va_A [(mo, .inr (12, [.int 0, .ref (ma 1), .int 0, .int 0, .int 0, .int 0, .int 0, .int 0, .int (-1), .ref (ma 9), .ref (ma 10), .ref (ma 11), .ref (ma 12), .ref (ma 13), .ref (ma 14), .ref (ma 15), .int 0, .int 0, .int 0, .ref (ma 19), .ref (ma 20), .ref (ma 21), .int 0, .ref (ma 23), .ref (ma 24), .ref (ma 25), .ref (ma 26), .ref (ma 27), .ref (ma 28), .int 0, .int 0, .int 0, .int 0, .ref (ma 33), .int (-1), .ref (ma 35), .int 0, .int 0])), ((ma 1), .inl (cy 0, 4, .inl (fun _ => 0)))] sz) := by
  refine Met.ofW (cc := cX12_isLaw) (maxL := 3) (ret := (some .boolean)) (by decide) rfl ?_
  intro p e s m args below meth c s₁ B hml hv
  obtain ⟨rfl, hsz, hP, hG, hD0, hT⟩ := hv
  have hx := B.exec
  have hb := B.bytes
  have hr := B.returns
  have hts := atoms_spec (ws := vs_c_isLaw) B.pre
  have hown : s.vm.findClass RX12 = some m.cls := findClass_of_methodNamed B.named
  have hlocks := B.notSynchronized
  subst hsz
  have hD := hD0.self (sz := s.heap.size)
  generalize hAe : va_A [(mo, .inr (12, [.int 0, .ref (ma 1), .int 0, .int 0, .int 0, .int 0, .int 0, .int 0, .int (-1), .ref (ma 9), .ref (ma 10), .ref (ma 11), .ref (ma 12), .ref (ma 13), .ref (ma 14), .ref (ma 15), .int 0, .int 0, .int 0, .ref (ma 19), .ref (ma 20), .ref (ma 21), .int 0, .ref (ma 23), .ref (ma 24), .ref (ma 25), .ref (ma 26), .ref (ma 27), .ref (ma 28), .int 0, .int 0, .int 0, .int 0, .ref (ma 33), .int (-1), .ref (ma 35), .int 0, .int 0])), ((ma 1), .inl (cy 0, 4, .inl (fun _ => 0)))] s.heap.size = A at hD hT ⊢
  have hA : ∀ q : Nat, s.heap.size ≤ q → A q := fun q h => by rw [← hAe]; exact Or.inr h
  have hS : va_S A s.heap s.heap [] := va_S.rf
  have hl0 := lv_entry ([.ref mo, .int n, .int cd]) (n := 3) (Nat.le_of_ble_eq_true rfl)
  rw [lg_entry_eq]
  generalize (lg_sl ([.ref mo, .int n, .int cd]) ++ List.replicate (3 - (lg_sl ([.ref mo, .int n, .int cd])).length) Slot.unset).toArray = ls at hl0 ⊢
  have hlv : lv_has ls 3 [(0, .ref mo), (1, .int n), (2, .int cd)] := hl0
  have lf209 := hts (.fieldLink RX12 209 "KerbSplashModel" "laws" "I") (List.mem_of_getElem? (i := 1) rfl)
  have hi12 : ∀ w ∈ wsX120, w ∈ vs_c_isLaw := fun w h => List.mem_cons_of_mem _ (List.mem_append_right _ (List.mem_append_left _ h))
  have gg_1 : GoodIn vs_c_isLaw (va_wsS RX12 279 yX12_within vs_c_within) := goodIn_sub (fun w h => List.mem_cons_of_mem _ (List.mem_append_right _ (List.mem_append_right _ (List.mem_append_left _ h)))) (by decide +kernel)
  have gg_2 : GoodIn vs_c_isLaw (wsV RX12 175 RX12 yX12_may vs_c_may0_1) := goodIn_sub (fun w h => List.mem_cons_of_mem _ (List.mem_append_right _ (List.mem_append_right _ (List.mem_append_right _ (List.mem_append_left _ h))))) (by decide +kernel)
  refine lv_aload_n hx hb dX12_isLaw_0 rfl (lv_at hlv 0 rfl) ?_
  refine lv_iload_n hx hb dX12_isLaw_1 rfl (lv_at hlv 1 rfl) ?_
  refine lv_iconst (v := 0) hx hb dX12_isLaw_2 (by decide) ?_
  refine lv_aload_n hx hb dX12_isLaw_3 rfl (lv_at hlv 0 rfl) ?_
  refine va_get (D := D) (ci := 12) (v := .int 0) (C := RX12) (T := TX12) (N := 38) hx hb hts hi12 hown hG.1 hP 0 rfl rfl 18 (by decide) lf209 (fun _ h9 => h9) rfl dX12_isLaw_4 ?_
  refine lv_iconst (v := 1) hx hb dX12_isLaw_7 (by decide) ?_
  refine lv_isub hx hb dX12_isLaw_8 ?_
  refine lt_i (y := (-1)) (by decide) ?_
  refine cj_i (wr := [(mo, .inr (12, [.int 0, .ref (ma 1), .int 0, .int 0, .int 0, .int 0, .int 0, .int 0, .int (-1), .ref (ma 9), .ref (ma 10), .ref (ma 11), .ref (ma 12), .ref (ma 13), .ref (ma 14), .ref (ma 15), .int 0, .int 0, .int 0, .ref (ma 19), .ref (ma 20), .ref (ma 21), .int 0, .ref (ma 23), .ref (ma 24), .ref (ma 25), .ref (ma 26), .ref (ma 27), .ref (ma 28), .int 0, .int 0, .int 0, .int 0, .ref (ma 33), .int (-1), .ref (ma 35), .int 0, .int 0])), ((ma 1), .inl (cy 0, 4, .inl (fun _ => 0)))]) (va_runS (As := [.int n, .int 0, .int (-1)]) (rest := [.ref mo]) ⟨hx, hb, hml, hown, hts⟩ (c_within l hl D cy sa n 0 (-1) s.heap.size) (va_cwS 3 hts gg_1 rfl rfl rfl (by decide +kernel) ⟨Nat.le_of_ble_eq_true rfl, Nat.le_of_ble_eq_true rfl⟩) ⟨pcW.blind, (pcW.mk hP hD hS hA hG hT [] rfl (by decide))⟩ rfl rfl hlv.1 rfl (lv_room (Nat.le_of_ble_eq_true rfl)) dX12_isLaw_9 ⟨Nat.le_of_ble_eq_true rfl, Nat.le_of_ble_eq_true rfl⟩) hP hD hS hA [] [0, 1] rfl rfl (by decide) (by decide) (fun r1 u1 H locs hw1 hP hD hS => ?_)
  rcases hw1 with ⟨hg1, rfl⟩ | ⟨hg1, rfl⟩
  · exact absurd hg1 (fun q => absurd (Int32.le_trans q.1 q.2) (by decide))
  · have hP : va_P D vwCl [(mo, .inr (12, [.int 0, .ref (ma 1), .int 0, .int 0, .int 0, .int 0, .int 0, .int 0, .int (-1), .ref (ma 9), .ref (ma 10), .ref (ma 11), .ref (ma 12), .ref (ma 13), .ref (ma 14), .ref (ma 15), .int 0, .int 0, .int 0, .ref (ma 19), .ref (ma 20), .ref (ma 21), .int 0, .ref (ma 23), .ref (ma 24), .ref (ma 25), .ref (ma 26), .ref (ma 27), .ref (ma 28), .int 0, .int 0, .int 0, .int 0, .ref (ma 33), .int (-1), .ref (ma 35), .int 0, .int 0])), ((ma 1), .inl (cy 0, 4, .inl (fun _ => 0)))] H := hP
    have hD : va_D A [(mo, .inr (12, [.int 0, .ref (ma 1), .int 0, .int 0, .int 0, .int 0, .int 0, .int 0, .int (-1), .ref (ma 9), .ref (ma 10), .ref (ma 11), .ref (ma 12), .ref (ma 13), .ref (ma 14), .ref (ma 15), .int 0, .int 0, .int 0, .ref (ma 19), .ref (ma 20), .ref (ma 21), .int 0, .ref (ma 23), .ref (ma 24), .ref (ma 25), .ref (ma 26), .ref (ma 27), .ref (ma 28), .int 0, .int 0, .int 0, .int 0, .ref (ma 33), .int (-1), .ref (ma 35), .int 0, .int 0])), ((ma 1), .inl (cy 0, 4, .inl (fun _ => 0)))] := hD
    refine lv_iload_n hx hb dX12_isLaw_12 rfl (lv_at hlv 2 rfl) ?_
    refine lv_iconst (v := 1) hx hb dX12_isLaw_13 (by decide) ?_
    refine cj_i (wr := []) (va_runV (As := [.int 0, .int cd, .int 1]) (rest := []) ⟨hx, hb, hml, hown, hts⟩ (c_may0_1 l hl D cy sa mo ma cd H.size hc) (cwV 3 hts gg_2 rfl rfl rfl (by decide +kernel) ⟨Nat.le_of_ble_eq_true rfl, Nat.le_of_ble_eq_true rfl⟩) ⟨pcW.blind, (va_recv hG.1 hP (ci := 12) (q0 := 0) rfl rfl), (pcW.mk hP hD hS hA hG hT [0, 1] rfl (by decide))⟩ rfl rfl hlv.1 rfl (lv_room (Nat.le_of_ble_eq_true rfl)) dX12_isLaw_14 ⟨Nat.le_of_ble_eq_true rfl, Nat.le_of_ble_eq_true rfl⟩) hP hD hS hA [0, 1] [] rfl rfl (by decide) (by decide) (fun r2 u2 H locs hw2 hP hD hS => ?_)
    obtain rfl := hw2
    have hP : va_P D vwCl [(mo, .inr (12, [.int cd, .ref (ma 1), .int 0, .int 0, .int 0, .int 0, .int 0, .int 0, .int (-1), .ref (ma 9), .ref (ma 10), .ref (ma 11), .ref (ma 12), .ref (ma 13), .ref (ma 14), .ref (ma 15), .int 0, .int 0, .int 0, .ref (ma 19), .ref (ma 20), .ref (ma 21), .int 0, .ref (ma 23), .ref (ma 24), .ref (ma 25), .ref (ma 26), .ref (ma 27), .ref (ma 28), .int 0, .int 0, .int 0, .int 0, .ref (ma 33), .int (-1), .ref (ma 35), .int 0, .int 0]))] H := hP
    have hD : va_D A [(mo, .inr (12, [.int cd, .ref (ma 1), .int 0, .int 0, .int 0, .int 0, .int 0, .int 0, .int (-1), .ref (ma 9), .ref (ma 10), .ref (ma 11), .ref (ma 12), .ref (ma 13), .ref (ma 14), .ref (ma 15), .int 0, .int 0, .int 0, .ref (ma 19), .ref (ma 20), .ref (ma 21), .int 0, .ref (ma 23), .ref (ma 24), .ref (ma 25), .ref (ma 26), .ref (ma 27), .ref (ma 28), .int 0, .int 0, .int 0, .int 0, .ref (ma 33), .int (-1), .ref (ma 35), .int 0, .int 0]))] := hD
    refine W.widen (k := 0) (n := 0) (Nat.le_of_ble_eq_true rfl) (Nat.le_of_ble_eq_true rfl) ?_
    exact W.zret (v := 0) hx hb hr (by first | rfl | decide) (fun t ht hW => ⟨⟨0, ((fun k => ([] : List Nat).getD k 0), (fun k => ([] : List Int32).getD k 0), (fun k => ([] : List (Nat → Int32)).getD k (fun _ => 0))), rfl, (by first | (exact (by rfl))), by rw [ht]; exact hP.sub [0] rfl, hD.sub [0] (by decide) rfl⟩, hS.F ht⟩) hS.2.2 dX12_isLaw_17
def vs_c_isRain : List Cond := .code yX12_isRain cX12_isRain 3 (some .boolean) :: (([.fieldLink RX12 204 "KerbSplashModel" "rains" "I"] : List Cond) ++ ((wsX120) ++ ((va_wsS RX12 279 yX12_within vs_c_within) ++ ((wsV RX12 175 RX12 yX12_may vs_c_may0_1) ++ ([])))))
set_option maxHeartbeats 4000000 in
set_option maxRecDepth 100000 in
theorem c_isRain (l : Launch) (hl : l.stackTraces = false) (D : va_G) (cy : Nat → ClassId) (sa : Nat → Nat) (mo : Nat) (ma : Nat → Nat) (n cd : Int32) (sz : Nat) (hc : ¬ (cd = 0)) : Met l yX12_isRain vs_c_isRain ({ frames := 1, cells := 0, slots := 0, locals := 23 }) (va_Pc [.ref mo, .int n, .int cd] (pcW D cy sa sz [(mo, .inr (12, [.int 0, .ref (ma 1), .int 0, .int 0, .int 0, .int 0, .int 0, .int 0, .int (-1), .ref (ma 9), .ref (ma 10), .ref (ma 11), .ref (ma 12), .ref (ma 13), .ref (ma 14), .ref (ma 15), .int 0, .int 0, .int 0, .ref (ma 19), .ref (ma 20), .ref (ma 21), .int 0, .ref (ma 23), .ref (ma 24), .ref (ma 25), .ref (ma 26), .ref (ma 27), .ref (ma 28), .int 0, .int 0, .int 0, .int 0, .ref (ma 33), .int (-1), .ref (ma 35), .int 0, .int 0])), ((ma 1), .inl (cy 0, 4, .inl (fun _ => 0)))])) (va_Qi (fun (r : Int32) (u : SU) => (r = 0)) (fun u t => atW D (va_A [(mo, .inr (12, [.int 0, .ref (ma 1), .int 0, .int 0, .int 0, .int 0, .int 0, .int 0, .int (-1), .ref (ma 9), .ref (ma 10), .ref (ma 11), .ref (ma 12), .ref (ma 13), .ref (ma 14), .ref (ma 15), .int 0, .int 0, .int 0, .ref (ma 19), .ref (ma 20), .ref (ma 21), .int 0, .ref (ma 23), .ref (ma 24), .ref (ma 25), .ref (ma 26), .ref (ma 27), .ref (ma 28), .int 0, .int 0, .int 0, .int 0, .ref (ma 33), .int (-1), .ref (ma 35), .int 0, .int 0])), ((ma 1), .inl (cy 0, 4, .inl (fun _ => 0)))] sz) [(mo, .inr (12, [.int cd, .ref (ma 1), .int 0, .int 0, .int 0, .int 0, .int 0, .int 0, .int (-1), .ref (ma 9), .ref (ma 10), .ref (ma 11), .ref (ma 12), .ref (ma 13), .ref (ma 14), .ref (ma 15), .int 0, .int 0, .int 0, .ref (ma 19), .ref (ma 20), .ref (ma 21), .int 0, .ref (ma 23), .ref (ma 24), .ref (ma 25), .ref (ma 26), .ref (ma 27), .ref (ma 28), .int 0, .int 0, .int 0, .int 0, .ref (ma 33), .int (-1), .ref (ma 35), .int 0, .int 0]))] t) (va_A [(mo, .inr (12, [.int 0, .ref (ma 1), .int 0, .int 0, .int 0, .int 0, .int 0, .int 0, .int (-1), .ref (ma 9), .ref (ma 10), .ref (ma 11), .ref (ma 12), .ref (ma 13), .ref (ma 14), .ref (ma 15), .int 0, .int 0, .int 0, .ref (ma 19), .ref (ma 20), .ref (ma 21), .int 0, .ref (ma 23), .ref (ma 24), .ref (ma 25), .ref (ma 26), .ref (ma 27), .ref (ma 28), .int 0, .int 0, .int 0, .int 0, .ref (ma 33), .int (-1), .ref (ma 35), .int 0, .int 0])), ((ma 1), .inl (cy 0, 4, .inl (fun _ => 0)))] sz)) 0 0 (va_A [(mo, .inr (12, [.int 0, .ref (ma 1), .int 0, .int 0, .int 0, .int 0, .int 0, .int 0, .int (-1), .ref (ma 9), .ref (ma 10), .ref (ma 11), .ref (ma 12), .ref (ma 13), .ref (ma 14), .ref (ma 15), .int 0, .int 0, .int 0, .ref (ma 19), .ref (ma 20), .ref (ma 21), .int 0, .ref (ma 23), .ref (ma 24), .ref (ma 25), .ref (ma 26), .ref (ma 27), .ref (ma 28), .int 0, .int 0, .int 0, .int 0, .ref (ma 33), .int (-1), .ref (ma 35), .int 0, .int 0])), ((ma 1), .inl (cy 0, 4, .inl (fun _ => 0)))] sz) := by
  refine Met.ofW (cc := cX12_isRain) (maxL := 3) (ret := (some .boolean)) (by decide) rfl ?_
  intro p e s m args below meth c s₁ B hml hv
  obtain ⟨rfl, hsz, hP, hG, hD0, hT⟩ := hv
  have hx := B.exec
  have hb := B.bytes
  have hr := B.returns
  have hts := atoms_spec (ws := vs_c_isRain) B.pre
  have hown : s.vm.findClass RX12 = some m.cls := findClass_of_methodNamed B.named
  have hlocks := B.notSynchronized
  subst hsz
  have hD := hD0.self (sz := s.heap.size)
  generalize hAe : va_A [(mo, .inr (12, [.int 0, .ref (ma 1), .int 0, .int 0, .int 0, .int 0, .int 0, .int 0, .int (-1), .ref (ma 9), .ref (ma 10), .ref (ma 11), .ref (ma 12), .ref (ma 13), .ref (ma 14), .ref (ma 15), .int 0, .int 0, .int 0, .ref (ma 19), .ref (ma 20), .ref (ma 21), .int 0, .ref (ma 23), .ref (ma 24), .ref (ma 25), .ref (ma 26), .ref (ma 27), .ref (ma 28), .int 0, .int 0, .int 0, .int 0, .ref (ma 33), .int (-1), .ref (ma 35), .int 0, .int 0])), ((ma 1), .inl (cy 0, 4, .inl (fun _ => 0)))] s.heap.size = A at hD hT ⊢
  have hA : ∀ q : Nat, s.heap.size ≤ q → A q := fun q h => by rw [← hAe]; exact Or.inr h
  have hS : va_S A s.heap s.heap [] := va_S.rf
  have hl0 := lv_entry ([.ref mo, .int n, .int cd]) (n := 3) (Nat.le_of_ble_eq_true rfl)
  rw [lg_entry_eq]
  generalize (lg_sl ([.ref mo, .int n, .int cd]) ++ List.replicate (3 - (lg_sl ([.ref mo, .int n, .int cd])).length) Slot.unset).toArray = ls at hl0 ⊢
  have hlv : lv_has ls 3 [(0, .ref mo), (1, .int n), (2, .int cd)] := hl0
  have lf204 := hts (.fieldLink RX12 204 "KerbSplashModel" "rains" "I") (List.mem_of_getElem? (i := 1) rfl)
  have hi12 : ∀ w ∈ wsX120, w ∈ vs_c_isRain := fun w h => List.mem_cons_of_mem _ (List.mem_append_right _ (List.mem_append_left _ h))
  have gg_1 : GoodIn vs_c_isRain (va_wsS RX12 279 yX12_within vs_c_within) := goodIn_sub (fun w h => List.mem_cons_of_mem _ (List.mem_append_right _ (List.mem_append_right _ (List.mem_append_left _ h)))) (by decide +kernel)
  have gg_2 : GoodIn vs_c_isRain (wsV RX12 175 RX12 yX12_may vs_c_may0_1) := goodIn_sub (fun w h => List.mem_cons_of_mem _ (List.mem_append_right _ (List.mem_append_right _ (List.mem_append_right _ (List.mem_append_left _ h))))) (by decide +kernel)
  refine lv_aload_n hx hb dX12_isRain_0 rfl (lv_at hlv 0 rfl) ?_
  refine lv_iload_n hx hb dX12_isRain_1 rfl (lv_at hlv 1 rfl) ?_
  refine lv_iconst (v := 0) hx hb dX12_isRain_2 (by decide) ?_
  refine lv_aload_n hx hb dX12_isRain_3 rfl (lv_at hlv 0 rfl) ?_
  refine va_get (D := D) (ci := 12) (v := .int 0) (C := RX12) (T := TX12) (N := 38) hx hb hts hi12 hown hG.1 hP 0 rfl rfl 17 (by decide) lf204 (fun _ h9 => h9) rfl dX12_isRain_4 ?_
  refine lv_iconst (v := 1) hx hb dX12_isRain_7 (by decide) ?_
  refine lv_isub hx hb dX12_isRain_8 ?_
  refine lt_i (y := (-1)) (by decide) ?_
  refine cj_i (wr := [(mo, .inr (12, [.int 0, .ref (ma 1), .int 0, .int 0, .int 0, .int 0, .int 0, .int 0, .int (-1), .ref (ma 9), .ref (ma 10), .ref (ma 11), .ref (ma 12), .ref (ma 13), .ref (ma 14), .ref (ma 15), .int 0, .int 0, .int 0, .ref (ma 19), .ref (ma 20), .ref (ma 21), .int 0, .ref (ma 23), .ref (ma 24), .ref (ma 25), .ref (ma 26), .ref (ma 27), .ref (ma 28), .int 0, .int 0, .int 0, .int 0, .ref (ma 33), .int (-1), .ref (ma 35), .int 0, .int 0])), ((ma 1), .inl (cy 0, 4, .inl (fun _ => 0)))]) (va_runS (As := [.int n, .int 0, .int (-1)]) (rest := [.ref mo]) ⟨hx, hb, hml, hown, hts⟩ (c_within l hl D cy sa n 0 (-1) s.heap.size) (va_cwS 3 hts gg_1 rfl rfl rfl (by decide +kernel) ⟨Nat.le_of_ble_eq_true rfl, Nat.le_of_ble_eq_true rfl⟩) ⟨pcW.blind, (pcW.mk hP hD hS hA hG hT [] rfl (by decide))⟩ rfl rfl hlv.1 rfl (lv_room (Nat.le_of_ble_eq_true rfl)) dX12_isRain_9 ⟨Nat.le_of_ble_eq_true rfl, Nat.le_of_ble_eq_true rfl⟩) hP hD hS hA [] [0, 1] rfl rfl (by decide) (by decide) (fun r1 u1 H locs hw1 hP hD hS => ?_)
  rcases hw1 with ⟨hg1, rfl⟩ | ⟨hg1, rfl⟩
  · exact absurd hg1 (fun q => absurd (Int32.le_trans q.1 q.2) (by decide))
  · have hP : va_P D vwCl [(mo, .inr (12, [.int 0, .ref (ma 1), .int 0, .int 0, .int 0, .int 0, .int 0, .int 0, .int (-1), .ref (ma 9), .ref (ma 10), .ref (ma 11), .ref (ma 12), .ref (ma 13), .ref (ma 14), .ref (ma 15), .int 0, .int 0, .int 0, .ref (ma 19), .ref (ma 20), .ref (ma 21), .int 0, .ref (ma 23), .ref (ma 24), .ref (ma 25), .ref (ma 26), .ref (ma 27), .ref (ma 28), .int 0, .int 0, .int 0, .int 0, .ref (ma 33), .int (-1), .ref (ma 35), .int 0, .int 0])), ((ma 1), .inl (cy 0, 4, .inl (fun _ => 0)))] H := hP
    have hD : va_D A [(mo, .inr (12, [.int 0, .ref (ma 1), .int 0, .int 0, .int 0, .int 0, .int 0, .int 0, .int (-1), .ref (ma 9), .ref (ma 10), .ref (ma 11), .ref (ma 12), .ref (ma 13), .ref (ma 14), .ref (ma 15), .int 0, .int 0, .int 0, .ref (ma 19), .ref (ma 20), .ref (ma 21), .int 0, .ref (ma 23), .ref (ma 24), .ref (ma 25), .ref (ma 26), .ref (ma 27), .ref (ma 28), .int 0, .int 0, .int 0, .int 0, .ref (ma 33), .int (-1), .ref (ma 35), .int 0, .int 0])), ((ma 1), .inl (cy 0, 4, .inl (fun _ => 0)))] := hD
    refine lv_iload_n hx hb dX12_isRain_12 rfl (lv_at hlv 2 rfl) ?_
    refine lv_iconst (v := 1) hx hb dX12_isRain_13 (by decide) ?_
    refine cj_i (wr := []) (va_runV (As := [.int 0, .int cd, .int 1]) (rest := []) ⟨hx, hb, hml, hown, hts⟩ (c_may0_1 l hl D cy sa mo ma cd H.size hc) (cwV 3 hts gg_2 rfl rfl rfl (by decide +kernel) ⟨Nat.le_of_ble_eq_true rfl, Nat.le_of_ble_eq_true rfl⟩) ⟨pcW.blind, (va_recv hG.1 hP (ci := 12) (q0 := 0) rfl rfl), (pcW.mk hP hD hS hA hG hT [0, 1] rfl (by decide))⟩ rfl rfl hlv.1 rfl (lv_room (Nat.le_of_ble_eq_true rfl)) dX12_isRain_14 ⟨Nat.le_of_ble_eq_true rfl, Nat.le_of_ble_eq_true rfl⟩) hP hD hS hA [0, 1] [] rfl rfl (by decide) (by decide) (fun r2 u2 H locs hw2 hP hD hS => ?_)
    obtain rfl := hw2
    have hP : va_P D vwCl [(mo, .inr (12, [.int cd, .ref (ma 1), .int 0, .int 0, .int 0, .int 0, .int 0, .int 0, .int (-1), .ref (ma 9), .ref (ma 10), .ref (ma 11), .ref (ma 12), .ref (ma 13), .ref (ma 14), .ref (ma 15), .int 0, .int 0, .int 0, .ref (ma 19), .ref (ma 20), .ref (ma 21), .int 0, .ref (ma 23), .ref (ma 24), .ref (ma 25), .ref (ma 26), .ref (ma 27), .ref (ma 28), .int 0, .int 0, .int 0, .int 0, .ref (ma 33), .int (-1), .ref (ma 35), .int 0, .int 0]))] H := hP
    have hD : va_D A [(mo, .inr (12, [.int cd, .ref (ma 1), .int 0, .int 0, .int 0, .int 0, .int 0, .int 0, .int (-1), .ref (ma 9), .ref (ma 10), .ref (ma 11), .ref (ma 12), .ref (ma 13), .ref (ma 14), .ref (ma 15), .int 0, .int 0, .int 0, .ref (ma 19), .ref (ma 20), .ref (ma 21), .int 0, .ref (ma 23), .ref (ma 24), .ref (ma 25), .ref (ma 26), .ref (ma 27), .ref (ma 28), .int 0, .int 0, .int 0, .int 0, .ref (ma 33), .int (-1), .ref (ma 35), .int 0, .int 0]))] := hD
    refine W.widen (k := 0) (n := 0) (Nat.le_of_ble_eq_true rfl) (Nat.le_of_ble_eq_true rfl) ?_
    exact W.zret (v := 0) hx hb hr (by first | rfl | decide) (fun t ht hW => ⟨⟨0, ((fun k => ([] : List Nat).getD k 0), (fun k => ([] : List Int32).getD k 0), (fun k => ([] : List (Nat → Int32)).getD k (fun _ => 0))), rfl, (by first | (exact (by rfl))), by rw [ht]; exact hP.sub [0] rfl, hD.sub [0] (by decide) rfl⟩, hS.F ht⟩) hS.2.2 dX12_isRain_17
def vs_c_isCell : List Cond := .code yX12_isCell cX12_isCell 4 (some .boolean) :: (([.fieldLink RX12 23 "KerbSplashModel" "b" "[I"] : List Cond) ++ ((wsX120) ++ ((va_wsS RX12 279 yX12_within vs_c_within) ++ ((wsV RX12 175 RX12 yX12_may vs_c_may0_0) ++ ([])))))
set_option maxHeartbeats 4000000 in
set_option maxRecDepth 100000 in
theorem c_isCell (l : Launch) (hl : l.stackTraces = false) (D : va_G) (cy : Nat → ClassId) (sa : Nat → Nat) (mo : Nat) (ma : Nat → Nat) (x y cd : Int32) (sz : Nat) (hc : ¬ (cd = 0)) : Met l yX12_isCell vs_c_isCell ({ frames := 1, cells := 0, slots := 0, locals := 23 }) (va_Pc [.ref mo, .int x, .int y, .int cd] (pcW D cy sa sz [(mo, .inr (12, [.int 0, .ref (ma 1), .int 0, .int 0, .int 0, .int 0, .int 0, .int 0, .int (-1), .ref (ma 9), .ref (ma 10), .ref (ma 11), .ref (ma 12), .ref (ma 13), .ref (ma 14), .ref (ma 15), .int 0, .int 0, .int 0, .ref (ma 19), .ref (ma 20), .ref (ma 21), .int 0, .ref (ma 23), .ref (ma 24), .ref (ma 25), .ref (ma 26), .ref (ma 27), .ref (ma 28), .int 0, .int 0, .int 0, .int 0, .ref (ma 33), .int (-1), .ref (ma 35), .int 0, .int 0])), ((ma 1), .inl (cy 0, 4, .inl (fun _ => 0))), ((ma 10), .inl (cy 0, 68, .inl (fun _ => 0)))])) (va_Qi (fun (r : Int32) (u : SU) => (r = 0)) (fun u t => atW D (va_A [(mo, .inr (12, [.int 0, .ref (ma 1), .int 0, .int 0, .int 0, .int 0, .int 0, .int 0, .int (-1), .ref (ma 9), .ref (ma 10), .ref (ma 11), .ref (ma 12), .ref (ma 13), .ref (ma 14), .ref (ma 15), .int 0, .int 0, .int 0, .ref (ma 19), .ref (ma 20), .ref (ma 21), .int 0, .ref (ma 23), .ref (ma 24), .ref (ma 25), .ref (ma 26), .ref (ma 27), .ref (ma 28), .int 0, .int 0, .int 0, .int 0, .ref (ma 33), .int (-1), .ref (ma 35), .int 0, .int 0])), ((ma 1), .inl (cy 0, 4, .inl (fun _ => 0))), ((ma 10), .inl (cy 0, 68, .inl (fun _ => 0)))] sz) [(mo, .inr (12, [.int cd, .ref (ma 1), .int 0, .int 0, .int 0, .int 0, .int 0, .int 0, .int (-1), .ref (ma 9), .ref (ma 10), .ref (ma 11), .ref (ma 12), .ref (ma 13), .ref (ma 14), .ref (ma 15), .int 0, .int 0, .int 0, .ref (ma 19), .ref (ma 20), .ref (ma 21), .int 0, .ref (ma 23), .ref (ma 24), .ref (ma 25), .ref (ma 26), .ref (ma 27), .ref (ma 28), .int 0, .int 0, .int 0, .int 0, .ref (ma 33), .int (-1), .ref (ma 35), .int 0, .int 0]))] t) (va_A [(mo, .inr (12, [.int 0, .ref (ma 1), .int 0, .int 0, .int 0, .int 0, .int 0, .int 0, .int (-1), .ref (ma 9), .ref (ma 10), .ref (ma 11), .ref (ma 12), .ref (ma 13), .ref (ma 14), .ref (ma 15), .int 0, .int 0, .int 0, .ref (ma 19), .ref (ma 20), .ref (ma 21), .int 0, .ref (ma 23), .ref (ma 24), .ref (ma 25), .ref (ma 26), .ref (ma 27), .ref (ma 28), .int 0, .int 0, .int 0, .int 0, .ref (ma 33), .int (-1), .ref (ma 35), .int 0, .int 0])), ((ma 1), .inl (cy 0, 4, .inl (fun _ => 0))), ((ma 10), .inl (cy 0, 68, .inl (fun _ => 0)))] sz)) 0 0 (va_A [(mo, .inr (12, [.int 0, .ref (ma 1), .int 0, .int 0, .int 0, .int 0, .int 0, .int 0, .int (-1), .ref (ma 9), .ref (ma 10), .ref (ma 11), .ref (ma 12), .ref (ma 13), .ref (ma 14), .ref (ma 15), .int 0, .int 0, .int 0, .ref (ma 19), .ref (ma 20), .ref (ma 21), .int 0, .ref (ma 23), .ref (ma 24), .ref (ma 25), .ref (ma 26), .ref (ma 27), .ref (ma 28), .int 0, .int 0, .int 0, .int 0, .ref (ma 33), .int (-1), .ref (ma 35), .int 0, .int 0])), ((ma 1), .inl (cy 0, 4, .inl (fun _ => 0))), ((ma 10), .inl (cy 0, 68, .inl (fun _ => 0)))] sz) := by
  refine Met.ofW (cc := cX12_isCell) (maxL := 4) (ret := (some .boolean)) (by decide) rfl ?_
  intro p e s m args below meth c s₁ B hml hv
  obtain ⟨rfl, hsz, hP, hG, hD0, hT⟩ := hv
  have hx := B.exec
  have hb := B.bytes
  have hr := B.returns
  have hts := atoms_spec (ws := vs_c_isCell) B.pre
  have hown : s.vm.findClass RX12 = some m.cls := findClass_of_methodNamed B.named
  have hlocks := B.notSynchronized
  subst hsz
  have hD := hD0.self (sz := s.heap.size)
  generalize hAe : va_A [(mo, .inr (12, [.int 0, .ref (ma 1), .int 0, .int 0, .int 0, .int 0, .int 0, .int 0, .int (-1), .ref (ma 9), .ref (ma 10), .ref (ma 11), .ref (ma 12), .ref (ma 13), .ref (ma 14), .ref (ma 15), .int 0, .int 0, .int 0, .ref (ma 19), .ref (ma 20), .ref (ma 21), .int 0, .ref (ma 23), .ref (ma 24), .ref (ma 25), .ref (ma 26), .ref (ma 27), .ref (ma 28), .int 0, .int 0, .int 0, .int 0, .ref (ma 33), .int (-1), .ref (ma 35), .int 0, .int 0])), ((ma 1), .inl (cy 0, 4, .inl (fun _ => 0))), ((ma 10), .inl (cy 0, 68, .inl (fun _ => 0)))] s.heap.size = A at hD hT ⊢
  have hA : ∀ q : Nat, s.heap.size ≤ q → A q := fun q h => by rw [← hAe]; exact Or.inr h
  have hS : va_S A s.heap s.heap [] := va_S.rf
  have hl0 := lv_entry ([.ref mo, .int x, .int y, .int cd]) (n := 4) (Nat.le_of_ble_eq_true rfl)
  rw [lg_entry_eq]
  generalize (lg_sl ([.ref mo, .int x, .int y, .int cd]) ++ List.replicate (4 - (lg_sl ([.ref mo, .int x, .int y, .int cd])).length) Slot.unset).toArray = ls at hl0 ⊢
  have hlv : lv_has ls 4 [(0, .ref mo), (1, .int x), (2, .int y), (3, .int cd)] := hl0
  have lf23 := hts (.fieldLink RX12 23 "KerbSplashModel" "b" "[I") (List.mem_of_getElem? (i := 1) rfl)
  have hi12 : ∀ w ∈ wsX120, w ∈ vs_c_isCell := fun w h => List.mem_cons_of_mem _ (List.mem_append_right _ (List.mem_append_left _ h))
  have gg_1 : GoodIn vs_c_isCell (va_wsS RX12 279 yX12_within vs_c_within) := goodIn_sub (fun w h => List.mem_cons_of_mem _ (List.mem_append_right _ (List.mem_append_right _ (List.mem_append_left _ h)))) (by decide +kernel)
  have gg_2 : GoodIn vs_c_isCell (wsV RX12 175 RX12 yX12_may vs_c_may0_0) := goodIn_sub (fun w h => List.mem_cons_of_mem _ (List.mem_append_right _ (List.mem_append_right _ (List.mem_append_right _ (List.mem_append_left _ h))))) (by decide +kernel)
  refine lv_aload_n hx hb dX12_isCell_0 rfl (lv_at hlv 0 rfl) ?_
  refine lv_iload_n hx hb dX12_isCell_1 rfl (lv_at hlv 1 rfl) ?_
  refine lv_iconst (v := 0) hx hb dX12_isCell_2 (by decide) ?_
  refine lv_aload_n hx hb dX12_isCell_3 rfl (lv_at hlv 0 rfl) ?_
  refine va_get (D := D) (ci := 12) (v := .ref (ma 10)) (C := RX12) (T := TX12) (N := 38) hx hb hts hi12 hown hG.1 hP 0 rfl rfl 10 (by decide) lf23 (fun _ h9 => h9) rfl dX12_isCell_4 ?_
  refine lv_iconst (v := 0) hx hb dX12_isCell_7 (by decide) ?_
  refine va_iald hx hb hG.1 hP 2 0 rfl rfl (vpd (by decide)) dX12_isCell_8 ?_
  refine lt_i (y := 0) (by rfl) ?_
  refine lv_iconst (v := 1) hx hb dX12_isCell_9 (by decide) ?_
  refine lv_isub hx hb dX12_isCell_10 ?_
  refine lt_i (y := (-1)) (by decide) ?_
  refine cj_i (wr := [(mo, .inr (12, [.int 0, .ref (ma 1), .int 0, .int 0, .int 0, .int 0, .int 0, .int 0, .int (-1), .ref (ma 9), .ref (ma 10), .ref (ma 11), .ref (ma 12), .ref (ma 13), .ref (ma 14), .ref (ma 15), .int 0, .int 0, .int 0, .ref (ma 19), .ref (ma 20), .ref (ma 21), .int 0, .ref (ma 23), .ref (ma 24), .ref (ma 25), .ref (ma 26), .ref (ma 27), .ref (ma 28), .int 0, .int 0, .int 0, .int 0, .ref (ma 33), .int (-1), .ref (ma 35), .int 0, .int 0])), ((ma 1), .inl (cy 0, 4, .inl (fun _ => 0))), ((ma 10), .inl (cy 0, 68, .inl (fun _ => 0)))]) (va_runS (As := [.int x, .int 0, .int (-1)]) (rest := [.ref mo]) ⟨hx, hb, hml, hown, hts⟩ (c_within l hl D cy sa x 0 (-1) s.heap.size) (va_cwS 3 hts gg_1 rfl rfl rfl (by decide +kernel) ⟨Nat.le_of_ble_eq_true rfl, Nat.le_of_ble_eq_true rfl⟩) ⟨pcW.blind, (pcW.mk hP hD hS hA hG hT [] rfl (by decide))⟩ rfl rfl hlv.1 rfl (lv_room (Nat.le_of_ble_eq_true rfl)) dX12_isCell_11 ⟨Nat.le_of_ble_eq_true rfl, Nat.le_of_ble_eq_true rfl⟩) hP hD hS hA [] [0, 1, 2] rfl rfl (by decide) (by decide) (fun r1 u1 H locs hw1 hP hD hS => ?_)
  rcases hw1 with ⟨hg1, rfl⟩ | ⟨hg1, rfl⟩
  · exact absurd hg1 (fun q => absurd (Int32.le_trans q.1 q.2) (by decide))
  · have hP : va_P D vwCl [(mo, .inr (12, [.int 0, .ref (ma 1), .int 0, .int 0, .int 0, .int 0, .int 0, .int 0, .int (-1), .ref (ma 9), .ref (ma 10), .ref (ma 11), .ref (ma 12), .ref (ma 13), .ref (ma 14), .ref (ma 15), .int 0, .int 0, .int 0, .ref (ma 19), .ref (ma 20), .ref (ma 21), .int 0, .ref (ma 23), .ref (ma 24), .ref (ma 25), .ref (ma 26), .ref (ma 27), .ref (ma 28), .int 0, .int 0, .int 0, .int 0, .ref (ma 33), .int (-1), .ref (ma 35), .int 0, .int 0])), ((ma 1), .inl (cy 0, 4, .inl (fun _ => 0))), ((ma 10), .inl (cy 0, 68, .inl (fun _ => 0)))] H := hP
    have hD : va_D A [(mo, .inr (12, [.int 0, .ref (ma 1), .int 0, .int 0, .int 0, .int 0, .int 0, .int 0, .int (-1), .ref (ma 9), .ref (ma 10), .ref (ma 11), .ref (ma 12), .ref (ma 13), .ref (ma 14), .ref (ma 15), .int 0, .int 0, .int 0, .ref (ma 19), .ref (ma 20), .ref (ma 21), .int 0, .ref (ma 23), .ref (ma 24), .ref (ma 25), .ref (ma 26), .ref (ma 27), .ref (ma 28), .int 0, .int 0, .int 0, .int 0, .ref (ma 33), .int (-1), .ref (ma 35), .int 0, .int 0])), ((ma 1), .inl (cy 0, 4, .inl (fun _ => 0))), ((ma 10), .inl (cy 0, 68, .inl (fun _ => 0)))] := hD
    refine lv_if_eq (tgt := 37) hx hb dX12_isCell_14 (by decide) (fun _ => ?_) (fun c => absurd (by decide) c)
    refine lv_iconst (v := 0) hx hb dX12_isCell_37 (by decide) ?_
    refine lv_iload_n hx hb dX12_isCell_38 rfl (lv_at hlv 3 rfl) ?_
    refine lv_iconst (v := 0) hx hb dX12_isCell_39 (by decide) ?_
    refine cj_i (wr := [((ma 10), .inl (cy 0, 68, .inl (fun _ => 0)))]) (va_runV (As := [.int 0, .int cd, .int 0]) (rest := []) ⟨hx, hb, hml, hown, hts⟩ (c_may0_0 l hl D cy sa mo ma cd H.size hc) (cwV 3 hts gg_2 rfl rfl rfl (by decide +kernel) ⟨Nat.le_of_ble_eq_true rfl, Nat.le_of_ble_eq_true rfl⟩) ⟨pcW.blind, (va_recv hG.1 hP (ci := 12) (q0 := 0) rfl rfl), (pcW.mk hP hD hS hA hG hT [0, 1] rfl (by decide))⟩ rfl rfl hlv.1 rfl (lv_room (Nat.le_of_ble_eq_true rfl)) dX12_isCell_40 ⟨Nat.le_of_ble_eq_true rfl, Nat.le_of_ble_eq_true rfl⟩) hP hD hS hA [0, 1] [2] rfl rfl (by decide) (by decide) (fun r2 u2 H locs hw2 hP hD hS => ?_)
    obtain rfl := hw2
    have hP : va_P D vwCl [((ma 10), .inl (cy 0, 68, .inl (fun _ => 0))), (mo, .inr (12, [.int cd, .ref (ma 1), .int 0, .int 0, .int 0, .int 0, .int 0, .int 0, .int (-1), .ref (ma 9), .ref (ma 10), .ref (ma 11), .ref (ma 12), .ref (ma 13), .ref (ma 14), .ref (ma 15), .int 0, .int 0, .int 0, .ref (ma 19), .ref (ma 20), .ref (ma 21), .int 0, .ref (ma 23), .ref (ma 24), .ref (ma 25), .ref (ma 26), .ref (ma 27), .ref (ma 28), .int 0, .int 0, .int 0, .int 0, .ref (ma 33), .int (-1), .ref (ma 35), .int 0, .int 0]))] H := hP
    have hD : va_D A [((ma 10), .inl (cy 0, 68, .inl (fun _ => 0))), (mo, .inr (12, [.int cd, .ref (ma 1), .int 0, .int 0, .int 0, .int 0, .int 0, .int 0, .int (-1), .ref (ma 9), .ref (ma 10), .ref (ma 11), .ref (ma 12), .ref (ma 13), .ref (ma 14), .ref (ma 15), .int 0, .int 0, .int 0, .ref (ma 19), .ref (ma 20), .ref (ma 21), .int 0, .ref (ma 23), .ref (ma 24), .ref (ma 25), .ref (ma 26), .ref (ma 27), .ref (ma 28), .int 0, .int 0, .int 0, .int 0, .ref (ma 33), .int (-1), .ref (ma 35), .int 0, .int 0]))] := hD
    refine W.widen (k := 0) (n := 0) (Nat.le_of_ble_eq_true rfl) (Nat.le_of_ble_eq_true rfl) ?_
    exact W.zret (v := 0) hx hb hr (by first | rfl | decide) (fun t ht hW => ⟨⟨0, ((fun k => ([] : List Nat).getD k 0), (fun k => ([] : List Int32).getD k 0), (fun k => ([] : List (Nat → Int32)).getD k (fun _ => 0))), rfl, (by first | (exact (by rfl))), by rw [ht]; exact hP.sub [1] rfl, hD.sub [1] (by decide) rfl⟩, hS.F ht⟩) hS.2.2 dX12_isCell_43
def vs_c_isWork : List Cond := .code yX12_isWork cX12_isWork 2 (some .boolean) :: (([.fieldLink RX12 23 "KerbSplashModel" "b" "[I"] : List Cond) ++ ((wsX120) ++ ((va_wsS RX12 279 yX12_within vs_c_within) ++ ((wsV RX12 175 RX12 yX12_may vs_c_may0_1) ++ ([])))))
set_option maxHeartbeats 4000000 in
set_option maxRecDepth 100000 in
theorem c_isWork (l : Launch) (hl : l.stackTraces = false) (D : va_G) (cy : Nat → ClassId) (sa : Nat → Nat) (mo : Nat) (ma : Nat → Nat) (n : Int32) (sz : Nat) : Met l yX12_isWork vs_c_isWork ({ frames := 1, cells := 0, slots := 0, locals := 23 }) (va_Pc [.ref mo, .int n] (pcW D cy sa sz [(mo, .inr (12, [.int 0, .ref (ma 1), .int 0, .int 0, .int 0, .int 0, .int 0, .int 0, .int (-1), .ref (ma 9), .ref (ma 10), .ref (ma 11), .ref (ma 12), .ref (ma 13), .ref (ma 14), .ref (ma 15), .int 0, .int 0, .int 0, .ref (ma 19), .ref (ma 20), .ref (ma 21), .int 0, .ref (ma 23), .ref (ma 24), .ref (ma 25), .ref (ma 26), .ref (ma 27), .ref (ma 28), .int 0, .int 0, .int 0, .int 0, .ref (ma 33), .int (-1), .ref (ma 35), .int 0, .int 0])), ((ma 1), .inl (cy 0, 4, .inl (fun _ => 0))), ((ma 10), .inl (cy 0, 68, .inl (fun _ => 0)))])) (va_Qi (fun (r : Int32) (u : SU) => (r = 0)) (fun u t => atW D (va_A [(mo, .inr (12, [.int 0, .ref (ma 1), .int 0, .int 0, .int 0, .int 0, .int 0, .int 0, .int (-1), .ref (ma 9), .ref (ma 10), .ref (ma 11), .ref (ma 12), .ref (ma 13), .ref (ma 14), .ref (ma 15), .int 0, .int 0, .int 0, .ref (ma 19), .ref (ma 20), .ref (ma 21), .int 0, .ref (ma 23), .ref (ma 24), .ref (ma 25), .ref (ma 26), .ref (ma 27), .ref (ma 28), .int 0, .int 0, .int 0, .int 0, .ref (ma 33), .int (-1), .ref (ma 35), .int 0, .int 0])), ((ma 1), .inl (cy 0, 4, .inl (fun _ => 0))), ((ma 10), .inl (cy 0, 68, .inl (fun _ => 0)))] sz) [(mo, .inr (12, [.int 1, .ref (ma 1), .int 0, .int 0, .int 0, .int 0, .int 0, .int 0, .int (-1), .ref (ma 9), .ref (ma 10), .ref (ma 11), .ref (ma 12), .ref (ma 13), .ref (ma 14), .ref (ma 15), .int 0, .int 0, .int 0, .ref (ma 19), .ref (ma 20), .ref (ma 21), .int 0, .ref (ma 23), .ref (ma 24), .ref (ma 25), .ref (ma 26), .ref (ma 27), .ref (ma 28), .int 0, .int 0, .int 0, .int 0, .ref (ma 33), .int (-1), .ref (ma 35), .int 0, .int 0]))] t) (va_A [(mo, .inr (12, [.int 0, .ref (ma 1), .int 0, .int 0, .int 0, .int 0, .int 0, .int 0, .int (-1), .ref (ma 9), .ref (ma 10), .ref (ma 11), .ref (ma 12), .ref (ma 13), .ref (ma 14), .ref (ma 15), .int 0, .int 0, .int 0, .ref (ma 19), .ref (ma 20), .ref (ma 21), .int 0, .ref (ma 23), .ref (ma 24), .ref (ma 25), .ref (ma 26), .ref (ma 27), .ref (ma 28), .int 0, .int 0, .int 0, .int 0, .ref (ma 33), .int (-1), .ref (ma 35), .int 0, .int 0])), ((ma 1), .inl (cy 0, 4, .inl (fun _ => 0))), ((ma 10), .inl (cy 0, 68, .inl (fun _ => 0)))] sz)) 0 0 (va_A [(mo, .inr (12, [.int 0, .ref (ma 1), .int 0, .int 0, .int 0, .int 0, .int 0, .int 0, .int (-1), .ref (ma 9), .ref (ma 10), .ref (ma 11), .ref (ma 12), .ref (ma 13), .ref (ma 14), .ref (ma 15), .int 0, .int 0, .int 0, .ref (ma 19), .ref (ma 20), .ref (ma 21), .int 0, .ref (ma 23), .ref (ma 24), .ref (ma 25), .ref (ma 26), .ref (ma 27), .ref (ma 28), .int 0, .int 0, .int 0, .int 0, .ref (ma 33), .int (-1), .ref (ma 35), .int 0, .int 0])), ((ma 1), .inl (cy 0, 4, .inl (fun _ => 0))), ((ma 10), .inl (cy 0, 68, .inl (fun _ => 0)))] sz) := by
  refine Met.ofW (cc := cX12_isWork) (maxL := 2) (ret := (some .boolean)) (by decide) rfl ?_
  intro p e s m args below meth c s₁ B hml hv
  obtain ⟨rfl, hsz, hP, hG, hD0, hT⟩ := hv
  have hx := B.exec
  have hb := B.bytes
  have hr := B.returns
  have hts := atoms_spec (ws := vs_c_isWork) B.pre
  have hown : s.vm.findClass RX12 = some m.cls := findClass_of_methodNamed B.named
  have hlocks := B.notSynchronized
  subst hsz
  have hD := hD0.self (sz := s.heap.size)
  generalize hAe : va_A [(mo, .inr (12, [.int 0, .ref (ma 1), .int 0, .int 0, .int 0, .int 0, .int 0, .int 0, .int (-1), .ref (ma 9), .ref (ma 10), .ref (ma 11), .ref (ma 12), .ref (ma 13), .ref (ma 14), .ref (ma 15), .int 0, .int 0, .int 0, .ref (ma 19), .ref (ma 20), .ref (ma 21), .int 0, .ref (ma 23), .ref (ma 24), .ref (ma 25), .ref (ma 26), .ref (ma 27), .ref (ma 28), .int 0, .int 0, .int 0, .int 0, .ref (ma 33), .int (-1), .ref (ma 35), .int 0, .int 0])), ((ma 1), .inl (cy 0, 4, .inl (fun _ => 0))), ((ma 10), .inl (cy 0, 68, .inl (fun _ => 0)))] s.heap.size = A at hD hT ⊢
  have hA : ∀ q : Nat, s.heap.size ≤ q → A q := fun q h => by rw [← hAe]; exact Or.inr h
  have hS : va_S A s.heap s.heap [] := va_S.rf
  have hl0 := lv_entry ([.ref mo, .int n]) (n := 2) (Nat.le_of_ble_eq_true rfl)
  rw [lg_entry_eq]
  generalize (lg_sl ([.ref mo, .int n]) ++ List.replicate (2 - (lg_sl ([.ref mo, .int n])).length) Slot.unset).toArray = ls at hl0 ⊢
  have hlv : lv_has ls 2 [(0, .ref mo), (1, .int n)] := hl0
  have lf23 := hts (.fieldLink RX12 23 "KerbSplashModel" "b" "[I") (List.mem_of_getElem? (i := 1) rfl)
  have hi12 : ∀ w ∈ wsX120, w ∈ vs_c_isWork := fun w h => List.mem_cons_of_mem _ (List.mem_append_right _ (List.mem_append_left _ h))
  have gg_1 : GoodIn vs_c_isWork (va_wsS RX12 279 yX12_within vs_c_within) := goodIn_sub (fun w h => List.mem_cons_of_mem _ (List.mem_append_right _ (List.mem_append_right _ (List.mem_append_left _ h)))) (by decide +kernel)
  have gg_2 : GoodIn vs_c_isWork (wsV RX12 175 RX12 yX12_may vs_c_may0_1) := goodIn_sub (fun w h => List.mem_cons_of_mem _ (List.mem_append_right _ (List.mem_append_right _ (List.mem_append_right _ (List.mem_append_left _ h))))) (by decide +kernel)
  refine lv_aload_n hx hb dX12_isWork_0 rfl (lv_at hlv 0 rfl) ?_
  refine lv_iload_n hx hb dX12_isWork_1 rfl (lv_at hlv 1 rfl) ?_
  refine lv_iconst (v := 0) hx hb dX12_isWork_2 (by decide) ?_
  refine lv_aload_n hx hb dX12_isWork_3 rfl (lv_at hlv 0 rfl) ?_
  refine va_get (D := D) (ci := 12) (v := .ref (ma 10)) (C := RX12) (T := TX12) (N := 38) hx hb hts hi12 hown hG.1 hP 0 rfl rfl 10 (by decide) lf23 (fun _ h9 => h9) rfl dX12_isWork_4 ?_
  refine lv_iconst (v := 5) hx hb dX12_isWork_7 (by decide) ?_
  refine va_iald hx hb hG.1 hP 2 0 rfl rfl (vpd (by decide)) dX12_isWork_8 ?_
  refine lt_i (y := 0) (by rfl) ?_
  refine lv_iconst (v := 1) hx hb dX12_isWork_9 (by decide) ?_
  refine lv_isub hx hb dX12_isWork_10 ?_
  refine lt_i (y := (-1)) (by decide) ?_
  refine cj_i (wr := [(mo, .inr (12, [.int 0, .ref (ma 1), .int 0, .int 0, .int 0, .int 0, .int 0, .int 0, .int (-1), .ref (ma 9), .ref (ma 10), .ref (ma 11), .ref (ma 12), .ref (ma 13), .ref (ma 14), .ref (ma 15), .int 0, .int 0, .int 0, .ref (ma 19), .ref (ma 20), .ref (ma 21), .int 0, .ref (ma 23), .ref (ma 24), .ref (ma 25), .ref (ma 26), .ref (ma 27), .ref (ma 28), .int 0, .int 0, .int 0, .int 0, .ref (ma 33), .int (-1), .ref (ma 35), .int 0, .int 0])), ((ma 1), .inl (cy 0, 4, .inl (fun _ => 0))), ((ma 10), .inl (cy 0, 68, .inl (fun _ => 0)))]) (va_runS (As := [.int n, .int 0, .int (-1)]) (rest := [.ref mo]) ⟨hx, hb, hml, hown, hts⟩ (c_within l hl D cy sa n 0 (-1) s.heap.size) (va_cwS 3 hts gg_1 rfl rfl rfl (by decide +kernel) ⟨Nat.le_of_ble_eq_true rfl, Nat.le_of_ble_eq_true rfl⟩) ⟨pcW.blind, (pcW.mk hP hD hS hA hG hT [] rfl (by decide))⟩ rfl rfl hlv.1 rfl (lv_room (Nat.le_of_ble_eq_true rfl)) dX12_isWork_11 ⟨Nat.le_of_ble_eq_true rfl, Nat.le_of_ble_eq_true rfl⟩) hP hD hS hA [] [0, 1, 2] rfl rfl (by decide) (by decide) (fun r1 u1 H locs hw1 hP hD hS => ?_)
  rcases hw1 with ⟨hg1, rfl⟩ | ⟨hg1, rfl⟩
  · exact absurd hg1 (fun q => absurd (Int32.le_trans q.1 q.2) (by decide))
  · have hP : va_P D vwCl [(mo, .inr (12, [.int 0, .ref (ma 1), .int 0, .int 0, .int 0, .int 0, .int 0, .int 0, .int (-1), .ref (ma 9), .ref (ma 10), .ref (ma 11), .ref (ma 12), .ref (ma 13), .ref (ma 14), .ref (ma 15), .int 0, .int 0, .int 0, .ref (ma 19), .ref (ma 20), .ref (ma 21), .int 0, .ref (ma 23), .ref (ma 24), .ref (ma 25), .ref (ma 26), .ref (ma 27), .ref (ma 28), .int 0, .int 0, .int 0, .int 0, .ref (ma 33), .int (-1), .ref (ma 35), .int 0, .int 0])), ((ma 1), .inl (cy 0, 4, .inl (fun _ => 0))), ((ma 10), .inl (cy 0, 68, .inl (fun _ => 0)))] H := hP
    have hD : va_D A [(mo, .inr (12, [.int 0, .ref (ma 1), .int 0, .int 0, .int 0, .int 0, .int 0, .int 0, .int (-1), .ref (ma 9), .ref (ma 10), .ref (ma 11), .ref (ma 12), .ref (ma 13), .ref (ma 14), .ref (ma 15), .int 0, .int 0, .int 0, .ref (ma 19), .ref (ma 20), .ref (ma 21), .int 0, .ref (ma 23), .ref (ma 24), .ref (ma 25), .ref (ma 26), .ref (ma 27), .ref (ma 28), .int 0, .int 0, .int 0, .int 0, .ref (ma 33), .int (-1), .ref (ma 35), .int 0, .int 0])), ((ma 1), .inl (cy 0, 4, .inl (fun _ => 0))), ((ma 10), .inl (cy 0, 68, .inl (fun _ => 0)))] := hD
    refine lv_iconst (v := 1) hx hb dX12_isWork_14 (by decide) ?_
    refine lv_iconst (v := 1) hx hb dX12_isWork_15 (by decide) ?_
    refine cj_i (wr := [((ma 10), .inl (cy 0, 68, .inl (fun _ => 0)))]) (va_runV (As := [.int 0, .int 1, .int 1]) (rest := []) ⟨hx, hb, hml, hown, hts⟩ (c_may0_1 l hl D cy sa mo ma 1 H.size (by decide)) (cwV 3 hts gg_2 rfl rfl rfl (by decide +kernel) ⟨Nat.le_of_ble_eq_true rfl, Nat.le_of_ble_eq_true rfl⟩) ⟨pcW.blind, (va_recv hG.1 hP (ci := 12) (q0 := 0) rfl rfl), (pcW.mk hP hD hS hA hG hT [0, 1] rfl (by decide))⟩ rfl rfl hlv.1 rfl (lv_room (Nat.le_of_ble_eq_true rfl)) dX12_isWork_16 ⟨Nat.le_of_ble_eq_true rfl, Nat.le_of_ble_eq_true rfl⟩) hP hD hS hA [0, 1] [2] rfl rfl (by decide) (by decide) (fun r2 u2 H locs hw2 hP hD hS => ?_)
    obtain rfl := hw2
    have hP : va_P D vwCl [((ma 10), .inl (cy 0, 68, .inl (fun _ => 0))), (mo, .inr (12, [.int 1, .ref (ma 1), .int 0, .int 0, .int 0, .int 0, .int 0, .int 0, .int (-1), .ref (ma 9), .ref (ma 10), .ref (ma 11), .ref (ma 12), .ref (ma 13), .ref (ma 14), .ref (ma 15), .int 0, .int 0, .int 0, .ref (ma 19), .ref (ma 20), .ref (ma 21), .int 0, .ref (ma 23), .ref (ma 24), .ref (ma 25), .ref (ma 26), .ref (ma 27), .ref (ma 28), .int 0, .int 0, .int 0, .int 0, .ref (ma 33), .int (-1), .ref (ma 35), .int 0, .int 0]))] H := hP
    have hD : va_D A [((ma 10), .inl (cy 0, 68, .inl (fun _ => 0))), (mo, .inr (12, [.int 1, .ref (ma 1), .int 0, .int 0, .int 0, .int 0, .int 0, .int 0, .int (-1), .ref (ma 9), .ref (ma 10), .ref (ma 11), .ref (ma 12), .ref (ma 13), .ref (ma 14), .ref (ma 15), .int 0, .int 0, .int 0, .ref (ma 19), .ref (ma 20), .ref (ma 21), .int 0, .ref (ma 23), .ref (ma 24), .ref (ma 25), .ref (ma 26), .ref (ma 27), .ref (ma 28), .int 0, .int 0, .int 0, .int 0, .ref (ma 33), .int (-1), .ref (ma 35), .int 0, .int 0]))] := hD
    refine W.widen (k := 0) (n := 0) (Nat.le_of_ble_eq_true rfl) (Nat.le_of_ble_eq_true rfl) ?_
    exact W.zret (v := 0) hx hb hr (by first | rfl | decide) (fun t ht hW => ⟨⟨0, ((fun k => ([] : List Nat).getD k 0), (fun k => ([] : List Int32).getD k 0), (fun k => ([] : List (Nat → Int32)).getD k (fun _ => 0))), rfl, (by first | (exact (by rfl))), by rw [ht]; exact hP.sub [1] rfl, hD.sub [1] (by decide) rfl⟩, hS.F ht⟩) hS.2.2 dX12_isWork_19
def vs_c_isNow : List Cond := .code yX12_isNow cX12_isNow 2 (some .boolean) :: (([.fieldLink RX12 23 "KerbSplashModel" "b" "[I"] : List Cond) ++ ((wsX120) ++ ((wsV RX12 175 RX12 yX12_may vs_c_may0_3) ++ ([]))))
set_option maxHeartbeats 4000000 in
set_option maxRecDepth 100000 in
theorem c_isNow (l : Launch) (hl : l.stackTraces = false) (D : va_G) (cy : Nat → ClassId) (sa : Nat → Nat) (mo : Nat) (ma : Nat → Nat) (cd : Int32) (sz : Nat) (hc : ¬ (cd = 0)) : Met l yX12_isNow vs_c_isNow ({ frames := 1, cells := 0, slots := 0, locals := 23 }) (va_Pc [.ref mo, .int cd] (pcW D cy sa sz [(mo, .inr (12, [.int 0, .ref (ma 1), .int 0, .int 0, .int 0, .int 0, .int 0, .int 0, .int (-1), .ref (ma 9), .ref (ma 10), .ref (ma 11), .ref (ma 12), .ref (ma 13), .ref (ma 14), .ref (ma 15), .int 0, .int 0, .int 0, .ref (ma 19), .ref (ma 20), .ref (ma 21), .int 0, .ref (ma 23), .ref (ma 24), .ref (ma 25), .ref (ma 26), .ref (ma 27), .ref (ma 28), .int 0, .int 0, .int 0, .int 0, .ref (ma 33), .int (-1), .ref (ma 35), .int 0, .int 0])), ((ma 1), .inl (cy 0, 4, .inl (fun _ => 0))), ((ma 10), .inl (cy 0, 68, .inl (fun _ => 0)))])) (va_Qi (fun (r : Int32) (u : SU) => (r = 0)) (fun u t => atW D (va_A [(mo, .inr (12, [.int 0, .ref (ma 1), .int 0, .int 0, .int 0, .int 0, .int 0, .int 0, .int (-1), .ref (ma 9), .ref (ma 10), .ref (ma 11), .ref (ma 12), .ref (ma 13), .ref (ma 14), .ref (ma 15), .int 0, .int 0, .int 0, .ref (ma 19), .ref (ma 20), .ref (ma 21), .int 0, .ref (ma 23), .ref (ma 24), .ref (ma 25), .ref (ma 26), .ref (ma 27), .ref (ma 28), .int 0, .int 0, .int 0, .int 0, .ref (ma 33), .int (-1), .ref (ma 35), .int 0, .int 0])), ((ma 1), .inl (cy 0, 4, .inl (fun _ => 0))), ((ma 10), .inl (cy 0, 68, .inl (fun _ => 0)))] sz) [(mo, .inr (12, [.int cd, .ref (ma 1), .int 0, .int 0, .int 0, .int 0, .int 0, .int 0, .int (-1), .ref (ma 9), .ref (ma 10), .ref (ma 11), .ref (ma 12), .ref (ma 13), .ref (ma 14), .ref (ma 15), .int 0, .int 0, .int 0, .ref (ma 19), .ref (ma 20), .ref (ma 21), .int 0, .ref (ma 23), .ref (ma 24), .ref (ma 25), .ref (ma 26), .ref (ma 27), .ref (ma 28), .int 0, .int 0, .int 0, .int 0, .ref (ma 33), .int (-1), .ref (ma 35), .int 0, .int 0]))] t) (va_A [(mo, .inr (12, [.int 0, .ref (ma 1), .int 0, .int 0, .int 0, .int 0, .int 0, .int 0, .int (-1), .ref (ma 9), .ref (ma 10), .ref (ma 11), .ref (ma 12), .ref (ma 13), .ref (ma 14), .ref (ma 15), .int 0, .int 0, .int 0, .ref (ma 19), .ref (ma 20), .ref (ma 21), .int 0, .ref (ma 23), .ref (ma 24), .ref (ma 25), .ref (ma 26), .ref (ma 27), .ref (ma 28), .int 0, .int 0, .int 0, .int 0, .ref (ma 33), .int (-1), .ref (ma 35), .int 0, .int 0])), ((ma 1), .inl (cy 0, 4, .inl (fun _ => 0))), ((ma 10), .inl (cy 0, 68, .inl (fun _ => 0)))] sz)) 0 0 (va_A [(mo, .inr (12, [.int 0, .ref (ma 1), .int 0, .int 0, .int 0, .int 0, .int 0, .int 0, .int (-1), .ref (ma 9), .ref (ma 10), .ref (ma 11), .ref (ma 12), .ref (ma 13), .ref (ma 14), .ref (ma 15), .int 0, .int 0, .int 0, .ref (ma 19), .ref (ma 20), .ref (ma 21), .int 0, .ref (ma 23), .ref (ma 24), .ref (ma 25), .ref (ma 26), .ref (ma 27), .ref (ma 28), .int 0, .int 0, .int 0, .int 0, .ref (ma 33), .int (-1), .ref (ma 35), .int 0, .int 0])), ((ma 1), .inl (cy 0, 4, .inl (fun _ => 0))), ((ma 10), .inl (cy 0, 68, .inl (fun _ => 0)))] sz) := by
  refine Met.ofW (cc := cX12_isNow) (maxL := 2) (ret := (some .boolean)) (by decide) rfl ?_
  intro p e s m args below meth c s₁ B hml hv
  obtain ⟨rfl, hsz, hP, hG, hD0, hT⟩ := hv
  have hx := B.exec
  have hb := B.bytes
  have hr := B.returns
  have hts := atoms_spec (ws := vs_c_isNow) B.pre
  have hown : s.vm.findClass RX12 = some m.cls := findClass_of_methodNamed B.named
  have hlocks := B.notSynchronized
  subst hsz
  have hD := hD0.self (sz := s.heap.size)
  generalize hAe : va_A [(mo, .inr (12, [.int 0, .ref (ma 1), .int 0, .int 0, .int 0, .int 0, .int 0, .int 0, .int (-1), .ref (ma 9), .ref (ma 10), .ref (ma 11), .ref (ma 12), .ref (ma 13), .ref (ma 14), .ref (ma 15), .int 0, .int 0, .int 0, .ref (ma 19), .ref (ma 20), .ref (ma 21), .int 0, .ref (ma 23), .ref (ma 24), .ref (ma 25), .ref (ma 26), .ref (ma 27), .ref (ma 28), .int 0, .int 0, .int 0, .int 0, .ref (ma 33), .int (-1), .ref (ma 35), .int 0, .int 0])), ((ma 1), .inl (cy 0, 4, .inl (fun _ => 0))), ((ma 10), .inl (cy 0, 68, .inl (fun _ => 0)))] s.heap.size = A at hD hT ⊢
  have hA : ∀ q : Nat, s.heap.size ≤ q → A q := fun q h => by rw [← hAe]; exact Or.inr h
  have hS : va_S A s.heap s.heap [] := va_S.rf
  have hl0 := lv_entry ([.ref mo, .int cd]) (n := 2) (Nat.le_of_ble_eq_true rfl)
  rw [lg_entry_eq]
  generalize (lg_sl ([.ref mo, .int cd]) ++ List.replicate (2 - (lg_sl ([.ref mo, .int cd])).length) Slot.unset).toArray = ls at hl0 ⊢
  have hlv : lv_has ls 2 [(0, .ref mo), (1, .int cd)] := hl0
  have lf23 := hts (.fieldLink RX12 23 "KerbSplashModel" "b" "[I") (List.mem_of_getElem? (i := 1) rfl)
  have hi12 : ∀ w ∈ wsX120, w ∈ vs_c_isNow := fun w h => List.mem_cons_of_mem _ (List.mem_append_right _ (List.mem_append_left _ h))
  have gg_1 : GoodIn vs_c_isNow (wsV RX12 175 RX12 yX12_may vs_c_may0_3) := goodIn_sub (fun w h => List.mem_cons_of_mem _ (List.mem_append_right _ (List.mem_append_right _ (List.mem_append_left _ h)))) (by decide +kernel)
  refine lv_aload_n hx hb dX12_isNow_0 rfl (lv_at hlv 0 rfl) ?_
  refine lv_aload_n hx hb dX12_isNow_1 rfl (lv_at hlv 0 rfl) ?_
  refine va_get (D := D) (ci := 12) (v := .ref (ma 10)) (C := RX12) (T := TX12) (N := 38) hx hb hts hi12 hown hG.1 hP 0 rfl rfl 10 (by decide) lf23 (fun _ h9 => h9) rfl dX12_isNow_2 ?_
  refine lv_iconst (v := 0) hx hb dX12_isNow_5 (by decide) ?_
  refine va_iald hx hb hG.1 hP 2 0 rfl rfl (vpd (by decide)) dX12_isNow_6 ?_
  refine lt_i (y := 0) (by rfl) ?_
  refine lv_if_le (tgt := 28) hx hb dX12_isNow_7 (by decide) (fun _ => ?_) (fun c => absurd (by decide) c)
  refine lv_iconst (v := 0) hx hb dX12_isNow_28 (by decide) ?_
  refine lv_iload_n hx hb dX12_isNow_29 rfl (lv_at hlv 1 rfl) ?_
  refine lv_iconst (v := 3) hx hb dX12_isNow_30 (by decide) ?_
  refine cj_i (wr := [((ma 10), .inl (cy 0, 68, .inl (fun _ => 0)))]) (va_runV (As := [.int 0, .int cd, .int 3]) (rest := []) ⟨hx, hb, hml, hown, hts⟩ (c_may0_3 l hl D cy sa mo ma cd s.heap.size hc) (cwV 3 hts gg_1 rfl rfl rfl (by decide +kernel) ⟨Nat.le_of_ble_eq_true rfl, Nat.le_of_ble_eq_true rfl⟩) ⟨pcW.blind, (va_recv hG.1 hP (ci := 12) (q0 := 0) rfl rfl), (pcW.mk hP hD hS hA hG hT [0, 1] rfl (by decide))⟩ rfl rfl hlv.1 rfl (lv_room (Nat.le_of_ble_eq_true rfl)) dX12_isNow_31 ⟨Nat.le_of_ble_eq_true rfl, Nat.le_of_ble_eq_true rfl⟩) hP hD hS hA [0, 1] [2] rfl rfl (by decide) (by decide) (fun r1 u1 H locs hw1 hP hD hS => ?_)
  obtain rfl := hw1
  have hP : va_P D vwCl [((ma 10), .inl (cy 0, 68, .inl (fun _ => 0))), (mo, .inr (12, [.int cd, .ref (ma 1), .int 0, .int 0, .int 0, .int 0, .int 0, .int 0, .int (-1), .ref (ma 9), .ref (ma 10), .ref (ma 11), .ref (ma 12), .ref (ma 13), .ref (ma 14), .ref (ma 15), .int 0, .int 0, .int 0, .ref (ma 19), .ref (ma 20), .ref (ma 21), .int 0, .ref (ma 23), .ref (ma 24), .ref (ma 25), .ref (ma 26), .ref (ma 27), .ref (ma 28), .int 0, .int 0, .int 0, .int 0, .ref (ma 33), .int (-1), .ref (ma 35), .int 0, .int 0]))] H := hP
  have hD : va_D A [((ma 10), .inl (cy 0, 68, .inl (fun _ => 0))), (mo, .inr (12, [.int cd, .ref (ma 1), .int 0, .int 0, .int 0, .int 0, .int 0, .int 0, .int (-1), .ref (ma 9), .ref (ma 10), .ref (ma 11), .ref (ma 12), .ref (ma 13), .ref (ma 14), .ref (ma 15), .int 0, .int 0, .int 0, .ref (ma 19), .ref (ma 20), .ref (ma 21), .int 0, .ref (ma 23), .ref (ma 24), .ref (ma 25), .ref (ma 26), .ref (ma 27), .ref (ma 28), .int 0, .int 0, .int 0, .int 0, .ref (ma 33), .int (-1), .ref (ma 35), .int 0, .int 0]))] := hD
  refine W.widen (k := 0) (n := 0) (Nat.le_of_ble_eq_true rfl) (Nat.le_of_ble_eq_true rfl) ?_
  exact W.zret (v := 0) hx hb hr (by first | rfl | decide) (fun t ht hW => ⟨⟨0, ((fun k => ([] : List Nat).getD k 0), (fun k => ([] : List Int32).getD k 0), (fun k => ([] : List (Nat → Int32)).getD k (fun _ => 0))), rfl, (by first | (exact (by rfl))), by rw [ht]; exact hP.sub [1] rfl, hD.sub [1] (by decide) rfl⟩, hS.F ht⟩) hS.2.2 dX12_isNow_34
def vs_c_drains : List Cond := .code yX12_drains cX12_drains 1 (some .int) :: (([.fieldLink RX12 23 "KerbSplashModel" "b" "[I", .fieldLink RX12 29 "KerbSplashModel" "s" "[I"] : List Cond) ++ ((wsX120) ++ ([])))
set_option maxHeartbeats 4000000 in
set_option maxRecDepth 100000 in
theorem c_drains (l : Launch) (hl : l.stackTraces = false) (D : va_G) (cy : Nat → ClassId) (sa : Nat → Nat) (mo : Nat) (ma : Nat → Nat) (sz : Nat) : Met l yX12_drains vs_c_drains ({ frames := 0, cells := 0, slots := 0, locals := 0 }) (va_Pc [.ref mo] (pcW D cy sa sz [(mo, .inr (12, [.int 0, .ref (ma 1), .int 0, .int 0, .int 0, .int 0, .int 0, .int 0, .int (-1), .ref (ma 9), .ref (ma 10), .ref (ma 11), .ref (ma 12), .ref (ma 13), .ref (ma 14), .ref (ma 15), .int 0, .int 0, .int 0, .ref (ma 19), .ref (ma 20), .ref (ma 21), .int 0, .ref (ma 23), .ref (ma 24), .ref (ma 25), .ref (ma 26), .ref (ma 27), .ref (ma 28), .int 0, .int 0, .int 0, .int 0, .ref (ma 33), .int (-1), .ref (ma 35), .int 0, .int 0])), ((ma 10), .inl (cy 0, 68, .inl (fun _ => 0))), ((ma 12), .inl (cy 0, 389, .inl sF))])) (va_Qi (fun (r : Int32) (u : SU) => (r = 0)) (fun u t => atW D (va_A [(mo, .inr (12, [.int 0, .ref (ma 1), .int 0, .int 0, .int 0, .int 0, .int 0, .int 0, .int (-1), .ref (ma 9), .ref (ma 10), .ref (ma 11), .ref (ma 12), .ref (ma 13), .ref (ma 14), .ref (ma 15), .int 0, .int 0, .int 0, .ref (ma 19), .ref (ma 20), .ref (ma 21), .int 0, .ref (ma 23), .ref (ma 24), .ref (ma 25), .ref (ma 26), .ref (ma 27), .ref (ma 28), .int 0, .int 0, .int 0, .int 0, .ref (ma 33), .int (-1), .ref (ma 35), .int 0, .int 0])), ((ma 10), .inl (cy 0, 68, .inl (fun _ => 0))), ((ma 12), .inl (cy 0, 389, .inl sF))] sz) [(mo, .inr (12, [.int 0, .ref (ma 1), .int 0, .int 0, .int 0, .int 0, .int 0, .int 0, .int (-1), .ref (ma 9), .ref (ma 10), .ref (ma 11), .ref (ma 12), .ref (ma 13), .ref (ma 14), .ref (ma 15), .int 0, .int 0, .int 0, .ref (ma 19), .ref (ma 20), .ref (ma 21), .int 0, .ref (ma 23), .ref (ma 24), .ref (ma 25), .ref (ma 26), .ref (ma 27), .ref (ma 28), .int 0, .int 0, .int 0, .int 0, .ref (ma 33), .int (-1), .ref (ma 35), .int 0, .int 0])), ((ma 10), .inl (cy 0, 68, .inl (fun _ => 0))), ((ma 12), .inl (cy 0, 389, .inl sF))] t) (va_A [(mo, .inr (12, [.int 0, .ref (ma 1), .int 0, .int 0, .int 0, .int 0, .int 0, .int 0, .int (-1), .ref (ma 9), .ref (ma 10), .ref (ma 11), .ref (ma 12), .ref (ma 13), .ref (ma 14), .ref (ma 15), .int 0, .int 0, .int 0, .ref (ma 19), .ref (ma 20), .ref (ma 21), .int 0, .ref (ma 23), .ref (ma 24), .ref (ma 25), .ref (ma 26), .ref (ma 27), .ref (ma 28), .int 0, .int 0, .int 0, .int 0, .ref (ma 33), .int (-1), .ref (ma 35), .int 0, .int 0])), ((ma 10), .inl (cy 0, 68, .inl (fun _ => 0))), ((ma 12), .inl (cy 0, 389, .inl sF))] sz)) 0 0 (va_A [(mo, .inr (12, [.int 0, .ref (ma 1), .int 0, .int 0, .int 0, .int 0, .int 0, .int 0, .int (-1), .ref (ma 9), .ref (ma 10), .ref (ma 11), .ref (ma 12), .ref (ma 13), .ref (ma 14), .ref (ma 15), .int 0, .int 0, .int 0, .ref (ma 19), .ref (ma 20), .ref (ma 21), .int 0, .ref (ma 23), .ref (ma 24), .ref (ma 25), .ref (ma 26), .ref (ma 27), .ref (ma 28), .int 0, .int 0, .int 0, .int 0, .ref (ma 33), .int (-1), .ref (ma 35), .int 0, .int 0])), ((ma 10), .inl (cy 0, 68, .inl (fun _ => 0))), ((ma 12), .inl (cy 0, 389, .inl sF))] sz) := by
  refine Met.ofW (cc := cX12_drains) (maxL := 1) (ret := (some .int)) (by decide) rfl ?_
  intro p e s m args below meth c s₁ B hml hv
  obtain ⟨rfl, hsz, hP, hG, hD0, hT⟩ := hv
  have hx := B.exec
  have hb := B.bytes
  have hr := B.returns
  have hts := atoms_spec (ws := vs_c_drains) B.pre
  have hown : s.vm.findClass RX12 = some m.cls := findClass_of_methodNamed B.named
  have hlocks := B.notSynchronized
  subst hsz
  have hD := hD0.self (sz := s.heap.size)
  generalize hAe : va_A [(mo, .inr (12, [.int 0, .ref (ma 1), .int 0, .int 0, .int 0, .int 0, .int 0, .int 0, .int (-1), .ref (ma 9), .ref (ma 10), .ref (ma 11), .ref (ma 12), .ref (ma 13), .ref (ma 14), .ref (ma 15), .int 0, .int 0, .int 0, .ref (ma 19), .ref (ma 20), .ref (ma 21), .int 0, .ref (ma 23), .ref (ma 24), .ref (ma 25), .ref (ma 26), .ref (ma 27), .ref (ma 28), .int 0, .int 0, .int 0, .int 0, .ref (ma 33), .int (-1), .ref (ma 35), .int 0, .int 0])), ((ma 10), .inl (cy 0, 68, .inl (fun _ => 0))), ((ma 12), .inl (cy 0, 389, .inl sF))] s.heap.size = A at hD hT ⊢
  have hA : ∀ q : Nat, s.heap.size ≤ q → A q := fun q h => by rw [← hAe]; exact Or.inr h
  have hS : va_S A s.heap s.heap [] := va_S.rf
  have hl0 := lv_entry ([.ref mo]) (n := 1) (Nat.le_of_ble_eq_true rfl)
  rw [lg_entry_eq]
  generalize (lg_sl ([.ref mo]) ++ List.replicate (1 - (lg_sl ([.ref mo])).length) Slot.unset).toArray = ls at hl0 ⊢
  have hlv : lv_has ls 1 [(0, .ref mo)] := hl0
  have lf23 := hts (.fieldLink RX12 23 "KerbSplashModel" "b" "[I") (List.mem_of_getElem? (i := 1) rfl)
  have hi12 : ∀ w ∈ wsX120, w ∈ vs_c_drains := fun w h => List.mem_cons_of_mem _ (List.mem_append_right _ (List.mem_append_left _ h))
  have lf29 := hts (.fieldLink RX12 29 "KerbSplashModel" "s" "[I") (List.mem_of_getElem? (i := 2) rfl)
  refine lv_aload_n hx hb dX12_drains_0 rfl (lv_at hlv 0 rfl) ?_
  refine va_get (D := D) (ci := 12) (v := .ref (ma 10)) (C := RX12) (T := TX12) (N := 38) hx hb hts hi12 hown hG.1 hP 0 rfl rfl 10 (by decide) lf23 (fun _ h9 => h9) rfl dX12_drains_1 ?_
  refine lv_iconst (v := 2) hx hb dX12_drains_4 (by decide) ?_
  refine va_iald hx hb hG.1 hP 1 0 rfl rfl (vpd (by decide)) dX12_drains_5 ?_
  refine lt_i (y := 0) (by rfl) ?_
  refine lv_aload_n hx hb dX12_drains_6 rfl (lv_at hlv 0 rfl) ?_
  refine va_get (D := D) (ci := 12) (v := .ref (ma 12)) (C := RX12) (T := TX12) (N := 38) hx hb hts hi12 hown hG.1 hP 0 rfl rfl 12 (by decide) lf29 (fun _ h9 => h9) rfl dX12_drains_7 ?_
  refine lv_sipush (v := 206) hx hb dX12_drains_10 (by decide) ?_
  refine va_iald hx hb hG.1 hP 2 0 rfl rfl (vpd (by decide)) dX12_drains_13 ?_
  refine lt_i (y := 0) (by first | rfl | decide +kernel) ?_
  refine lv_iadd hx hb dX12_drains_14 ?_
  refine lt_i (y := 0) (by decide) ?_
  refine W.widen (k := 0) (n := 0) (Nat.le_of_ble_eq_true rfl) (Nat.le_of_ble_eq_true rfl) ?_
  exact W.iret (v := 0) hx hb hr (fun t ht hW => ⟨⟨0, ((fun k => ([] : List Nat).getD k 0), (fun k => ([] : List Int32).getD k 0), (fun k => ([] : List (Nat → Int32)).getD k (fun _ => 0))), rfl, (by first | (exact (by rfl))), by rw [ht]; exact hP.sub [0, 1, 2] rfl, hD.sub [0, 1, 2] (by decide) rfl⟩, hS.F ht⟩) hS.2.2 dX12_drains_15
def vs_c_misCar : List Cond := .code yX12_isCar cX12_isCar 5 (some .boolean) :: (([.fieldLink RX12 23 "KerbSplashModel" "b" "[I"] : List Cond) ++ ((wsX120) ++ ((va_wsS RX12 279 yX12_within vs_c_within) ++ ([]))))
set_option maxHeartbeats 4000000 in
set_option maxRecDepth 100000 in
theorem c_misCar (l : Launch) (hl : l.stackTraces = false) (D : va_G) (cy : Nat → ClassId) (sa : Nat → Nat) (mo : Nat) (ma : Nat → Nat) (p1 p2 p3 p4 : Int32) (sz : Nat) : Met l yX12_isCar vs_c_misCar ({ frames := 1, cells := 0, slots := 0, locals := 22 }) (va_Pc [.ref mo, .int p1, .int p2, .int p3, .int p4] (pcW D cy sa sz [(mo, .inr (12, [.int 0, .ref (ma 1), .int 0, .int 0, .int 0, .int 0, .int 0, .int 0, .int (-1), .ref (ma 9), .ref (ma 10), .ref (ma 11), .ref (ma 12), .ref (ma 13), .ref (ma 14), .ref (ma 15), .int 0, .int 0, .int 0, .ref (ma 19), .ref (ma 20), .ref (ma 21), .int 0, .ref (ma 23), .ref (ma 24), .ref (ma 25), .ref (ma 26), .ref (ma 27), .ref (ma 28), .int 0, .int 0, .int 0, .int 0, .ref (ma 33), .int (-1), .ref (ma 35), .int 0, .int 0])), ((ma 10), .inl (cy 0, 68, .inl (fun _ => 0)))])) (va_Qi (fun (r : Int32) (u : SU) => (r = 0)) (fun u t => atW D (va_A [(mo, .inr (12, [.int 0, .ref (ma 1), .int 0, .int 0, .int 0, .int 0, .int 0, .int 0, .int (-1), .ref (ma 9), .ref (ma 10), .ref (ma 11), .ref (ma 12), .ref (ma 13), .ref (ma 14), .ref (ma 15), .int 0, .int 0, .int 0, .ref (ma 19), .ref (ma 20), .ref (ma 21), .int 0, .ref (ma 23), .ref (ma 24), .ref (ma 25), .ref (ma 26), .ref (ma 27), .ref (ma 28), .int 0, .int 0, .int 0, .int 0, .ref (ma 33), .int (-1), .ref (ma 35), .int 0, .int 0])), ((ma 10), .inl (cy 0, 68, .inl (fun _ => 0)))] sz) [(mo, .inr (12, [.int 0, .ref (ma 1), .int 0, .int 0, .int 0, .int 0, .int 0, .int 0, .int (-1), .ref (ma 9), .ref (ma 10), .ref (ma 11), .ref (ma 12), .ref (ma 13), .ref (ma 14), .ref (ma 15), .int 0, .int 0, .int 0, .ref (ma 19), .ref (ma 20), .ref (ma 21), .int 0, .ref (ma 23), .ref (ma 24), .ref (ma 25), .ref (ma 26), .ref (ma 27), .ref (ma 28), .int 0, .int 0, .int 0, .int 0, .ref (ma 33), .int (-1), .ref (ma 35), .int 0, .int 0])), ((ma 10), .inl (cy 0, 68, .inl (fun _ => 0)))] t) (va_A [(mo, .inr (12, [.int 0, .ref (ma 1), .int 0, .int 0, .int 0, .int 0, .int 0, .int 0, .int (-1), .ref (ma 9), .ref (ma 10), .ref (ma 11), .ref (ma 12), .ref (ma 13), .ref (ma 14), .ref (ma 15), .int 0, .int 0, .int 0, .ref (ma 19), .ref (ma 20), .ref (ma 21), .int 0, .ref (ma 23), .ref (ma 24), .ref (ma 25), .ref (ma 26), .ref (ma 27), .ref (ma 28), .int 0, .int 0, .int 0, .int 0, .ref (ma 33), .int (-1), .ref (ma 35), .int 0, .int 0])), ((ma 10), .inl (cy 0, 68, .inl (fun _ => 0)))] sz)) 0 0 (va_A [(mo, .inr (12, [.int 0, .ref (ma 1), .int 0, .int 0, .int 0, .int 0, .int 0, .int 0, .int (-1), .ref (ma 9), .ref (ma 10), .ref (ma 11), .ref (ma 12), .ref (ma 13), .ref (ma 14), .ref (ma 15), .int 0, .int 0, .int 0, .ref (ma 19), .ref (ma 20), .ref (ma 21), .int 0, .ref (ma 23), .ref (ma 24), .ref (ma 25), .ref (ma 26), .ref (ma 27), .ref (ma 28), .int 0, .int 0, .int 0, .int 0, .ref (ma 33), .int (-1), .ref (ma 35), .int 0, .int 0])), ((ma 10), .inl (cy 0, 68, .inl (fun _ => 0)))] sz) := by
  refine Met.ofW (cc := cX12_isCar) (maxL := 5) (ret := (some .boolean)) (by decide) rfl ?_
  intro p e s m args below meth c s₁ B hml hv
  obtain ⟨rfl, hsz, hP, hG, hD0, hT⟩ := hv
  have hx := B.exec
  have hb := B.bytes
  have hr := B.returns
  have hts := atoms_spec (ws := vs_c_misCar) B.pre
  have hown : s.vm.findClass RX12 = some m.cls := findClass_of_methodNamed B.named
  have hlocks := B.notSynchronized
  subst hsz
  have hD := hD0.self (sz := s.heap.size)
  generalize hAe : va_A [(mo, .inr (12, [.int 0, .ref (ma 1), .int 0, .int 0, .int 0, .int 0, .int 0, .int 0, .int (-1), .ref (ma 9), .ref (ma 10), .ref (ma 11), .ref (ma 12), .ref (ma 13), .ref (ma 14), .ref (ma 15), .int 0, .int 0, .int 0, .ref (ma 19), .ref (ma 20), .ref (ma 21), .int 0, .ref (ma 23), .ref (ma 24), .ref (ma 25), .ref (ma 26), .ref (ma 27), .ref (ma 28), .int 0, .int 0, .int 0, .int 0, .ref (ma 33), .int (-1), .ref (ma 35), .int 0, .int 0])), ((ma 10), .inl (cy 0, 68, .inl (fun _ => 0)))] s.heap.size = A at hD hT ⊢
  have hA : ∀ q : Nat, s.heap.size ≤ q → A q := fun q h => by rw [← hAe]; exact Or.inr h
  have hS : va_S A s.heap s.heap [] := va_S.rf
  have hl0 := lv_entry ([.ref mo, .int p1, .int p2, .int p3, .int p4]) (n := 5) (Nat.le_of_ble_eq_true rfl)
  rw [lg_entry_eq]
  generalize (lg_sl ([.ref mo, .int p1, .int p2, .int p3, .int p4]) ++ List.replicate (5 - (lg_sl ([.ref mo, .int p1, .int p2, .int p3, .int p4])).length) Slot.unset).toArray = ls at hl0 ⊢
  have hlv : lv_has ls 5 [(0, .ref mo), (1, .int p1), (2, .int p2), (3, .int p3), (4, .int p4)] := hl0
  have lf23 := hts (.fieldLink RX12 23 "KerbSplashModel" "b" "[I") (List.mem_of_getElem? (i := 1) rfl)
  have hi12 : ∀ w ∈ wsX120, w ∈ vs_c_misCar := fun w h => List.mem_cons_of_mem _ (List.mem_append_right _ (List.mem_append_left _ h))
  have gg_1 : GoodIn vs_c_misCar (va_wsS RX12 279 yX12_within vs_c_within) := goodIn_sub (fun w h => List.mem_cons_of_mem _ (List.mem_append_right _ (List.mem_append_right _ (List.mem_append_left _ h)))) (by decide +kernel)
  refine lv_iload_n hx hb dX12_isCar_0 rfl (lv_at hlv 1 rfl) ?_
  refine lv_iconst (v := 0) hx hb dX12_isCar_1 (by decide) ?_
  refine lv_aload_n hx hb dX12_isCar_2 rfl (lv_at hlv 0 rfl) ?_
  refine va_get (D := D) (ci := 12) (v := .ref (ma 10)) (C := RX12) (T := TX12) (N := 38) hx hb hts hi12 hown hG.1 hP 0 rfl rfl 10 (by decide) lf23 (fun _ h9 => h9) rfl dX12_isCar_3 ?_
  refine lv_iconst (v := 1) hx hb dX12_isCar_6 (by decide) ?_
  refine va_iald hx hb hG.1 hP 1 0 rfl rfl (vpd (by decide)) dX12_isCar_7 ?_
  refine lt_i (y := 0) (by rfl) ?_
  refine lv_iconst (v := 1) hx hb dX12_isCar_8 (by decide) ?_
  refine lv_isub hx hb dX12_isCar_9 ?_
  refine lt_i (y := (-1)) (by decide) ?_
  refine cj_i (wr := [(mo, .inr (12, [.int 0, .ref (ma 1), .int 0, .int 0, .int 0, .int 0, .int 0, .int 0, .int (-1), .ref (ma 9), .ref (ma 10), .ref (ma 11), .ref (ma 12), .ref (ma 13), .ref (ma 14), .ref (ma 15), .int 0, .int 0, .int 0, .ref (ma 19), .ref (ma 20), .ref (ma 21), .int 0, .ref (ma 23), .ref (ma 24), .ref (ma 25), .ref (ma 26), .ref (ma 27), .ref (ma 28), .int 0, .int 0, .int 0, .int 0, .ref (ma 33), .int (-1), .ref (ma 35), .int 0, .int 0])), ((ma 10), .inl (cy 0, 68, .inl (fun _ => 0)))]) (va_runS (As := [.int p1, .int 0, .int (-1)]) (rest := []) ⟨hx, hb, hml, hown, hts⟩ (c_within l hl D cy sa p1 0 (-1) s.heap.size) (va_cwS 3 hts gg_1 rfl rfl rfl (by decide +kernel) ⟨Nat.le_of_ble_eq_true rfl, Nat.le_of_ble_eq_true rfl⟩) ⟨pcW.blind, (pcW.mk hP hD hS hA hG hT [] rfl (by decide))⟩ rfl rfl hlv.1 rfl (lv_room (Nat.le_of_ble_eq_true rfl)) dX12_isCar_10 ⟨Nat.le_of_ble_eq_true rfl, Nat.le_of_ble_eq_true rfl⟩) hP hD hS hA [] [0, 1] rfl rfl (by decide) (by decide) (fun r1 u1 H locs hw1 hP hD hS => ?_)
  rcases hw1 with ⟨hg1, rfl⟩ | ⟨hg1, rfl⟩
  · exact absurd hg1 (fun q => absurd (Int32.le_trans q.1 q.2) (by decide))
  · have hP : va_P D vwCl [(mo, .inr (12, [.int 0, .ref (ma 1), .int 0, .int 0, .int 0, .int 0, .int 0, .int 0, .int (-1), .ref (ma 9), .ref (ma 10), .ref (ma 11), .ref (ma 12), .ref (ma 13), .ref (ma 14), .ref (ma 15), .int 0, .int 0, .int 0, .ref (ma 19), .ref (ma 20), .ref (ma 21), .int 0, .ref (ma 23), .ref (ma 24), .ref (ma 25), .ref (ma 26), .ref (ma 27), .ref (ma 28), .int 0, .int 0, .int 0, .int 0, .ref (ma 33), .int (-1), .ref (ma 35), .int 0, .int 0])), ((ma 10), .inl (cy 0, 68, .inl (fun _ => 0)))] H := hP
    have hD : va_D A [(mo, .inr (12, [.int 0, .ref (ma 1), .int 0, .int 0, .int 0, .int 0, .int 0, .int 0, .int (-1), .ref (ma 9), .ref (ma 10), .ref (ma 11), .ref (ma 12), .ref (ma 13), .ref (ma 14), .ref (ma 15), .int 0, .int 0, .int 0, .ref (ma 19), .ref (ma 20), .ref (ma 21), .int 0, .ref (ma 23), .ref (ma 24), .ref (ma 25), .ref (ma 26), .ref (ma 27), .ref (ma 28), .int 0, .int 0, .int 0, .int 0, .ref (ma 33), .int (-1), .ref (ma 35), .int 0, .int 0])), ((ma 10), .inl (cy 0, 68, .inl (fun _ => 0)))] := hD
    refine lv_if_eq (tgt := 50) hx hb dX12_isCar_13 (by decide) (fun _ => ?_) (fun c => absurd (by decide) c)
    refine lv_iconst (v := 0) hx hb dX12_isCar_50 (by decide) ?_
    refine W.widen (k := 0) (n := 0) (Nat.le_of_ble_eq_true rfl) (Nat.le_of_ble_eq_true rfl) ?_
    exact W.zret (v := 0) hx hb hr (by first | rfl | decide) (fun t ht hW => ⟨⟨0, ((fun k => ([] : List Nat).getD k 0), (fun k => ([] : List Int32).getD k 0), (fun k => ([] : List (Nat → Int32)).getD k (fun _ => 0))), rfl, (by first | (exact (by rfl))), by rw [ht]; exact hP.sub [0, 1] rfl, hD.sub [0, 1] (by decide) rfl⟩, hS.F ht⟩) hS.2.2 dX12_isCar_51
