section
theorem dX11_isWithin_0 : decode cX11_isWithin 0 = .ok (.iload_n 0, 1) := by decide +kernel
theorem dX11_isWithin_1 : decode cX11_isWithin 1 = .ok (.iload_n 1, 1) := by decide +kernel
theorem dX11_isWithin_10 : decode cX11_isWithin 10 = .ok (.iconst 1, 1) := by decide +kernel
theorem dX11_isWithin_11 : decode cX11_isWithin 11 = .ok (.goto 4, 3) := by decide +kernel
theorem dX11_isWithin_14 : decode cX11_isWithin 14 = .ok (.iconst 0, 1) := by decide +kernel
theorem dX11_isWithin_15 : decode cX11_isWithin 15 = .ok (.ireturn, 1) := by decide +kernel
theorem dX11_isWithin_2 : decode cX11_isWithin 2 = .ok (.if_icmp .lt 12, 3) := by decide +kernel
theorem dX11_isWithin_5 : decode cX11_isWithin 5 = .ok (.iload_n 0, 1) := by decide +kernel
theorem dX11_isWithin_6 : decode cX11_isWithin 6 = .ok (.iload_n 2, 1) := by decide +kernel
theorem dX11_isWithin_7 : decode cX11_isWithin 7 = .ok (.if_icmp .gt 7, 3) := by decide +kernel
theorem dX8_number_0 : decode cX8_number 0 = .ok (.aload_n 0, 1) := by decide +kernel
theorem dX8_number_1 : decode cX8_number 1 = .ok (.invokevirtual 34, 3) := by decide +kernel
theorem dX8_number_10 : decode cX8_number 10 = .ok (.aload_n 0, 1) := by decide +kernel
theorem dX8_number_11 : decode cX8_number 11 = .ok (.iconst 1, 1) := by decide +kernel
theorem dX8_number_12 : decode cX8_number 12 = .ok (.invokevirtual 38, 3) := by decide +kernel
theorem dX8_number_15 : decode cX8_number 15 = .ok (.iload_n 1, 1) := by decide +kernel
theorem dX8_number_16 : decode cX8_number 16 = .ok (.ireturn, 1) := by decide +kernel
theorem dX8_number_17 : decode cX8_number 17 = .ok (.aload_n 0, 1) := by decide +kernel
theorem dX8_number_18 : decode cX8_number 18 = .ok (.getfield 25, 3) := by decide +kernel
theorem dX8_number_21 : decode cX8_number 21 = .ok (.istore_n 3, 1) := by decide +kernel
theorem dX8_number_22 : decode cX8_number 22 = .ok (.iconst 0, 1) := by decide +kernel
theorem dX8_number_23 : decode cX8_number 23 = .ok (.istore 4, 2) := by decide +kernel
theorem dX8_number_25 : decode cX8_number 25 = .ok (.iload_n 3, 1) := by decide +kernel
theorem dX8_number_26 : decode cX8_number 26 = .ok (.aload_n 0, 1) := by decide +kernel
theorem dX8_number_27 : decode cX8_number 27 = .ok (.getfield 22, 3) := by decide +kernel
theorem dX8_number_30 : decode cX8_number 30 = .ok (.if_icmp .ge 44, 3) := by decide +kernel
theorem dX8_number_33 : decode cX8_number 33 = .ok (.aload_n 0, 1) := by decide +kernel
theorem dX8_number_34 : decode cX8_number 34 = .ok (.getfield 11, 3) := by decide +kernel
theorem dX8_number_37 : decode cX8_number 37 = .ok (.iload_n 3, 1) := by decide +kernel
theorem dX8_number_38 : decode cX8_number 38 = .ok (.baload, 1) := by decide +kernel
theorem dX8_number_39 : decode cX8_number 39 = .ok (.invokestatic 56, 3) := by decide +kernel
theorem dX8_number_4 : decode cX8_number 4 = .ok (.invokestatic 56, 3) := by decide +kernel
theorem dX8_number_42 : decode cX8_number 42 = .ok (.ifCond .eq 32, 3) := by decide +kernel
theorem dX8_number_45 : decode cX8_number 45 = .ok (.iload 4, 2) := by decide +kernel
theorem dX8_number_47 : decode cX8_number 47 = .ok (.bipush 10, 2) := by decide +kernel
theorem dX8_number_49 : decode cX8_number 49 = .ok (.imul, 1) := by decide +kernel
theorem dX8_number_50 : decode cX8_number 50 = .ok (.aload_n 0, 1) := by decide +kernel
theorem dX8_number_51 : decode cX8_number 51 = .ok (.getfield 11, 3) := by decide +kernel
theorem dX8_number_54 : decode cX8_number 54 = .ok (.iload_n 3, 1) := by decide +kernel
theorem dX8_number_55 : decode cX8_number 55 = .ok (.baload, 1) := by decide +kernel
theorem dX8_number_56 : decode cX8_number 56 = .ok (.iadd, 1) := by decide +kernel
theorem dX8_number_57 : decode cX8_number 57 = .ok (.bipush 48, 2) := by decide +kernel
theorem dX8_number_59 : decode cX8_number 59 = .ok (.isub, 1) := by decide +kernel
theorem dX8_number_60 : decode cX8_number 60 = .ok (.sipush 10000, 3) := by decide +kernel
theorem dX8_number_63 : decode cX8_number 63 = .ok (.invokestatic 60, 3) := by decide +kernel
theorem dX8_number_66 : decode cX8_number 66 = .ok (.istore 4, 2) := by decide +kernel
theorem dX8_number_68 : decode cX8_number 68 = .ok (.iinc 3 1, 3) := by decide +kernel
theorem dX8_number_7 : decode cX8_number 7 = .ok (.ifCond .ne 10, 3) := by decide +kernel
theorem dX8_number_71 : decode cX8_number 71 = .ok (.goto (-46), 3) := by decide +kernel
theorem dX8_number_74 : decode cX8_number 74 = .ok (.iload 4, 2) := by decide +kernel
theorem dX8_number_76 : decode cX8_number 76 = .ok (.iload_n 1, 1) := by decide +kernel
theorem dX8_number_77 : decode cX8_number 77 = .ok (.iload_n 2, 1) := by decide +kernel
theorem dX8_number_78 : decode cX8_number 78 = .ok (.invokestatic 66, 3) := by decide +kernel
theorem dX8_number_81 : decode cX8_number 81 = .ok (.ifCond .eq 11, 3) := by decide +kernel
theorem dX8_number_84 : decode cX8_number 84 = .ok (.aload_n 0, 1) := by decide +kernel
theorem dX8_number_85 : decode cX8_number 85 = .ok (.iload_n 3, 1) := by decide +kernel
theorem dX8_number_86 : decode cX8_number 86 = .ok (.putfield 25, 3) := by decide +kernel
theorem dX8_number_89 : decode cX8_number 89 = .ok (.goto 8, 3) := by decide +kernel
theorem dX8_number_92 : decode cX8_number 92 = .ok (.aload_n 0, 1) := by decide +kernel
theorem dX8_number_93 : decode cX8_number 93 = .ok (.iconst 2, 1) := by decide +kernel
theorem dX8_number_94 : decode cX8_number 94 = .ok (.invokevirtual 38, 3) := by decide +kernel
theorem dX8_number_97 : decode cX8_number 97 = .ok (.iload 4, 2) := by decide +kernel
theorem dX8_number_99 : decode cX8_number 99 = .ok (.ireturn, 1) := by decide +kernel
theorem dX8_take_0 : decode cX8_take 0 = .ok (.aload_n 0, 1) := by decide +kernel
theorem dX8_take_1 : decode cX8_take 1 = .ok (.invokevirtual 34, 3) := by decide +kernel
theorem dX8_take_10 : decode cX8_take 10 = .ok (.aload_n 0, 1) := by decide +kernel
theorem dX8_take_11 : decode cX8_take 11 = .ok (.dup, 1) := by decide +kernel
theorem dX8_take_12 : decode cX8_take 12 = .ok (.getfield 25, 3) := by decide +kernel
theorem dX8_take_15 : decode cX8_take 15 = .ok (.iconst 1, 1) := by decide +kernel
theorem dX8_take_16 : decode cX8_take 16 = .ok (.iadd, 1) := by decide +kernel
theorem dX8_take_17 : decode cX8_take 17 = .ok (.putfield 25, 3) := by decide +kernel
theorem dX8_take_20 : decode cX8_take 20 = .ok (.iconst 1, 1) := by decide +kernel
theorem dX8_take_21 : decode cX8_take 21 = .ok (.ireturn, 1) := by decide +kernel
theorem dX8_take_4 : decode cX8_take 4 = .ok (.iload_n 1, 1) := by decide +kernel
theorem dX8_take_5 : decode cX8_take 5 = .ok (.if_icmp .eq 5, 3) := by decide +kernel
theorem dX8_take_8 : decode cX8_take 8 = .ok (.iconst 0, 1) := by decide +kernel
theorem dX8_take_9 : decode cX8_take 9 = .ok (.ireturn, 1) := by decide +kernel
theorem dX8_want_0 : decode cX8_want 0 = .ok (.aload_n 0, 1) := by decide +kernel
theorem dX8_want_1 : decode cX8_want 1 = .ok (.invokevirtual 34, 3) := by decide +kernel
theorem dX8_want_10 : decode cX8_want 10 = .ok (.getfield 25, 3) := by decide +kernel
theorem dX8_want_13 : decode cX8_want 13 = .ok (.iconst 1, 1) := by decide +kernel
theorem dX8_want_14 : decode cX8_want 14 = .ok (.iadd, 1) := by decide +kernel
theorem dX8_want_15 : decode cX8_want 15 = .ok (.putfield 25, 3) := by decide +kernel
theorem dX8_want_18 : decode cX8_want 18 = .ok (.goto 8, 3) := by decide +kernel
theorem dX8_want_21 : decode cX8_want 21 = .ok (.aload_n 0, 1) := by decide +kernel
theorem dX8_want_22 : decode cX8_want 22 = .ok (.iconst 1, 1) := by decide +kernel
theorem dX8_want_23 : decode cX8_want 23 = .ok (.invokevirtual 38, 3) := by decide +kernel
theorem dX8_want_26 : decode cX8_want 26 = .ok (.return_, 1) := by decide +kernel
theorem dX8_want_4 : decode cX8_want 4 = .ok (.iload_n 1, 1) := by decide +kernel
theorem dX8_want_5 : decode cX8_want 5 = .ok (.if_icmp .ne 16, 3) := by decide +kernel
theorem dX8_want_8 : decode cX8_want 8 = .ok (.aload_n 0, 1) := by decide +kernel
theorem dX8_want_9 : decode cX8_want 9 = .ok (.dup, 1) := by decide +kernel
def vs_s_within : List Cond := .code yX11_isWithin cX11_isWithin 3 (some .boolean) :: (([] : List Cond) ++ ([]))
theorem gd_s_within : vs_s_within.all goodWord = true := gd_C (by decide +kernel) (gd_A (by decide +kernel) rfl)
set_option maxHeartbeats 4000000 in
set_option maxRecDepth 100000 in
theorem s_within (l : Launch) (hl : l.stackTraces = false) (D : va_G) (cy : Nat → ClassId) (sa : Nat → Nat) (n a b : Int) (sz : Nat) (hr_n : (-2147483648) ≤ n ∧ n ≤ 2147483647) (hr_a : (-2147483648) ≤ a ∧ a ≤ 2147483647) (hr_b : (-2147483648) ≤ b ∧ b ≤ 2147483647) : mI9 l yX11_isWithin vs_s_within ({ frames := 0, cells := 0, slots := 0, locals := 0 }) D cy sa sz [vI n, vI a, vI b] [] (fun (r : Int32) (u : SV) => r = iI (u.2.1 0) ∧ (0 ≤ u.2.1 0 ∧ u.2.1 0 ≤ 1) ∧ (u.2.1 0 = 1 → a ≤ n ∧ n ≤ b) ∧ (u.2.1 0 = 0 → n < a ∨ b < n)) (fun u : SV => []) 0 0 := by
  refine Met.ofW (cc := cX11_isWithin) (maxL := 3) (ret := (some .boolean)) (by decide) rfl ?_
  intro p e s m args below meth c s₁ B hml hv
  obtain ⟨rfl, hsz, hP, hG, hD0, hT⟩ := hv
  have hx := B.exec
  have hb := B.bytes
  have hr := B.returns
  have hts := atoms_spec (ws := vs_s_within) B.pre
  have hown : s.vm.findClass RX11 = some m.cls := findClass_of_methodNamed B.named
  have hlocks := B.notSynchronized
  subst hsz
  have hD := hD0.self (sz := s.heap.size)
  generalize hAe : va_A [] s.heap.size = A at hD hT ⊢
  have hA : ∀ q : Nat, s.heap.size ≤ q → A q := fun q h => by rw [← hAe]; exact Or.inr h
  have hS : va_S A s.heap s.heap [] := va_S.rf
  have hl0 := lv_entry ([vI n, vI a, vI b]) (n := 3) (Nat.le_of_ble_eq_true rfl)
  rw [lg_entry_eq]
  generalize (lg_sl ([vI n, vI a, vI b]) ++ List.replicate (3 - (lg_sl ([vI n, vI a, vI b])).length) Slot.unset).toArray = ls at hl0 ⊢
  have hlv : lv_has ls 3 [(0, vI n), (1, vI a), (2, vI b)] := hl0
  refine lv_iload_n hx hb dX11_isWithin_0 rfl (lv_at hlv 0 rfl) ?_
  refine lv_iload_n hx hb dX11_isWithin_1 rfl (lv_at hlv 1 rfl) ?_
  refine ir_lt (tgt := 14) hx hb dX11_isWithin_2 (by decide) (by first | exact hr_n | omega) (by first | exact hr_a | omega) (fun c_1 => ?_) (fun c_1 => ?_)
  · refine lv_iconst (v := iI 0) hx hb dX11_isWithin_14 (by decide) ?_
    refine W.widen (k := 0) (n := 0) (Nat.le_of_ble_eq_true rfl) (Nat.le_of_ble_eq_true rfl) ?_
    exact W.zret (v := iI 0) hx hb hr (by first | rfl | decide) (fun t ht hW => ⟨⟨iI 0, ((fun k => ([] : List Nat).getD k 0), (fun k => ([0] : List Int).getD k 0), (fun k => ([] : List (Nat → Int32)).getD k (fun _ => 0))), rfl, ⟨rfl, (by show (0 ≤ 0 ∧ 0 ≤ 1); show (0 : Int) ≤ 0 ∧ (0 : Int) ≤ 1; decide), (by show (0 = 1 → a ≤ n ∧ n ≤ b); omega), (by show (0 = 0 → n < a ∨ b < n); omega)⟩, at9 ht hP hD [] (by decide +kernel) rfl⟩, hS.F ht⟩) hS.2.2 dX11_isWithin_15
  · refine lv_iload_n hx hb dX11_isWithin_5 rfl (lv_at hlv 0 rfl) ?_
    refine lv_iload_n hx hb dX11_isWithin_6 rfl (lv_at hlv 2 rfl) ?_
    refine ir_gt (tgt := 14) hx hb dX11_isWithin_7 (by decide) (by first | exact hr_n | omega) (by first | exact hr_b | omega) (fun c_2 => ?_) (fun c_2 => ?_)
    · refine lv_iconst (v := iI 0) hx hb dX11_isWithin_14 (by decide) ?_
      refine W.widen (k := 0) (n := 0) (Nat.le_of_ble_eq_true rfl) (Nat.le_of_ble_eq_true rfl) ?_
      exact W.zret (v := iI 0) hx hb hr (by first | rfl | decide) (fun t ht hW => ⟨⟨iI 0, ((fun k => ([] : List Nat).getD k 0), (fun k => ([0] : List Int).getD k 0), (fun k => ([] : List (Nat → Int32)).getD k (fun _ => 0))), rfl, ⟨rfl, (by show (0 ≤ 0 ∧ 0 ≤ 1); show (0 : Int) ≤ 0 ∧ (0 : Int) ≤ 1; decide), (by show (0 = 1 → a ≤ n ∧ n ≤ b); omega), (by show (0 = 0 → n < a ∨ b < n); omega)⟩, at9 ht hP hD [] (by decide +kernel) rfl⟩, hS.F ht⟩) hS.2.2 dX11_isWithin_15
    · refine lv_iconst (v := iI 1) hx hb dX11_isWithin_10 (by decide) ?_
      refine lv_goto (tgt := 15) hx hb dX11_isWithin_11 (by decide) ?_
      refine W.widen (k := 0) (n := 0) (Nat.le_of_ble_eq_true rfl) (Nat.le_of_ble_eq_true rfl) ?_
      exact W.zret (v := iI 1) hx hb hr (by first | rfl | decide) (fun t ht hW => ⟨⟨iI 1, ((fun k => ([] : List Nat).getD k 0), (fun k => ([1] : List Int).getD k 0), (fun k => ([] : List (Nat → Int32)).getD k (fun _ => 0))), rfl, ⟨rfl, (by show (0 ≤ 1 ∧ 1 ≤ 1); show (0 : Int) ≤ 1 ∧ (1 : Int) ≤ 1; decide), (by show (1 = 1 → a ≤ n ∧ n ≤ b); omega), (by show (1 = 0 → n < a ∨ b < n); omega)⟩, at9 ht hP hD [] (by decide +kernel) rfl⟩, hS.F ht⟩) hS.2.2 dX11_isWithin_15
def vs_s_take : List Cond := .code yX8_take cX8_take 2 (some .boolean) :: (([.fieldLink RX8 25 "KerbSplash$Tape" "at" "I"] : List Cond) ++ ((wsV RX8 34 RX8 yX8_sign vs_s_sign) ++ ((wsX80) ++ ([]))))
theorem gd_s_take : vs_s_take.all goodWord = true := gd_C (by decide +kernel) (gd_A (by decide +kernel) (gd_A (gd_V gd_s_sign (by decide +kernel)) (gd_A (by decide +kernel) rfl)))
set_option maxHeartbeats 4000000 in
set_option maxRecDepth 100000 in
theorem s_take (l : Launch) (hl : l.stackTraces = false) (D : va_G) (cy : Nat → ClassId) (sa : Nat → Nat) (ta tb : Nat) (fed len at_ we fa fp : Int) (bf : Nat → Int32) (n : Int) (sz : Nat) (hr_fed : 0 ≤ fed ∧ fed ≤ 600) (hr_len : 0 ≤ len ∧ len ≤ 600) (hr_at_ : 0 ≤ at_ ∧ at_ ≤ 600) (hr_we : 0 ≤ we ∧ we ≤ 600) (hr_fa : 0 ≤ fa ∧ fa ≤ 4) (hr_fp : (-1) ≤ fp ∧ fp ≤ 600) (hr_n : 0 ≤ n ∧ n ≤ 65535) : mI9 l yX8_take vs_s_take ({ frames := 1, cells := 0, slots := 0, locals := 20 }) D cy sa sz [vR ta, vI n] [zO ta 8 [vR tb, vI fed, vI len, vI at_, vI we, vI fa, vI fp], zI tb (cy 1) 600 bf] (fun (r : Int32) (u : SV) => r = iI (u.2.1 0) ∧ (0 ≤ u.2.1 0 ∧ u.2.1 0 ≤ 1) ∧ (0 ≤ u.2.1 1 ∧ u.2.1 1 ≤ 600) ∧ (at_ ≤ u.2.1 1)) (fun u : SV => [zO ta 8 [vR tb, vI fed, vI len, vI (u.2.1 1), vI we, vI fa, vI fp], zI tb (cy 1) 600 bf]) 0 0 := by
  refine Met.ofW (cc := cX8_take) (maxL := 2) (ret := (some .boolean)) (by decide) rfl ?_
  intro p e s m args below meth c s₁ B hml hv
  obtain ⟨rfl, hsz, hP, hG, hD0, hT⟩ := hv
  have hx := B.exec
  have hb := B.bytes
  have hr := B.returns
  have hts := atoms_spec (ws := vs_s_take) B.pre
  have hown : s.vm.findClass RX8 = some m.cls := findClass_of_methodNamed B.named
  have hlocks := B.notSynchronized
  subst hsz
  have hD := hD0.self (sz := s.heap.size)
  generalize hAe : va_A [zO ta 8 [vR tb, vI fed, vI len, vI at_, vI we, vI fa, vI fp], zI tb (cy 1) 600 bf] s.heap.size = A at hD hT ⊢
  have hA : ∀ q : Nat, s.heap.size ≤ q → A q := fun q h => by rw [← hAe]; exact Or.inr h
  have hS : va_S A s.heap s.heap [] := va_S.rf
  have hl0 := lv_entry ([vR ta, vI n]) (n := 2) (Nat.le_of_ble_eq_true rfl)
  rw [lg_entry_eq]
  generalize (lg_sl ([vR ta, vI n]) ++ List.replicate (2 - (lg_sl ([vR ta, vI n])).length) Slot.unset).toArray = ls at hl0 ⊢
  have hlv : lv_has ls 2 [(0, vR ta), (1, vI n)] := hl0
  have gg_0 : GoodIn vs_s_take (wsV RX8 34 RX8 yX8_sign vs_s_sign) := goodIn_sub (fun w h => List.mem_cons_of_mem _ (List.mem_append_right _ (List.mem_append_left _ h))) (gd_V gd_s_sign (by decide +kernel))
  have lf25 := hts (.fieldLink RX8 25 "KerbSplash$Tape" "at" "I") (List.mem_of_getElem? (i := 1) rfl)
  have hi8 : ∀ w ∈ wsX80, w ∈ vs_s_take := fun w h => List.mem_cons_of_mem _ (List.mem_append_right _ (List.mem_append_right _ (List.mem_append_left _ h)))
  refine lv_aload_n hx hb dX8_take_0 rfl (lv_at hlv 0 rfl) ?_
  refine cjr_i [false, false] (fun pre9 => (va_runV (As := []) (rest := []) ⟨hx, hb, hml, hown, hts⟩ (s_sign l hl D cy sa ta tb fed len at_ we fa fp bf s.heap.size (by first | exact hr_fed | omega) (by first | exact hr_len | omega) (by first | exact hr_at_ | omega) (by first | exact hr_we | omega) (by first | exact hr_fa | omega) (by first | exact hr_fp | omega)) (cwV 0 hts gg_0 rfl rfl rfl (by decide +kernel) ⟨Nat.le_of_ble_eq_true rfl, Nat.le_of_ble_eq_true rfl⟩) ⟨pcW.blind, (va_recv hG.1 hP (ci := 8) (q0 := 0) rfl rfl), pre9⟩ rfl rfl hlv.1 rfl (lv_room (Nat.le_of_ble_eq_true rfl)) dX8_take_1 ⟨Nat.le_of_ble_eq_true rfl, Nat.le_of_ble_eq_true rfl⟩)) hP hD hS hA hG hT [0, 1] rfl (by decide +kernel) (fun r1 u1 H locs hw1 hq9 hS => ?_)
  obtain ⟨rfl, hq1_1, hq1_2, hq1_3, hq1_4, hq1_5⟩ := hw1
  obtain ⟨hP, hD⟩ := pd9 [zO ta 8 [vR tb, vI fed, vI len, vI (u1.2.1 1), vI we, vI fa, vI fp], zI tb (cy 1) 600 bf] hq9
  refine lv_iload_n hx hb dX8_take_4 rfl (lv_at hlv 1 rfl) ?_
  refine ir_eq (tgt := 10) hx hb dX8_take_5 (by decide) (by first | exact rgw hq1_1 (by decide) (by decide) | omega) (by first | exact rgw hr_n (by decide) (by decide) | omega) (fun c_1 => ?_) (fun c_1 => ?_)
  · refine lv_aload_n hx hb dX8_take_10 rfl (lv_at hlv 0 rfl) ?_
    refine lv_dup hx hb dX8_take_11 rfl ?_
    refine va_get (D := D) (ci := 8) (v := vI (u1.2.1 1)) (C := RX8) (T := TX8) (N := 7) hx hb hts hi8 hown hG.1 hP 0 rfl rfl 3 (by decide) lf25 (fun _ h9 => h9) rfl dX8_take_12 ?_
    refine lv_iconst (v := iI 1) hx hb dX8_take_15 (by decide) ?_
    refine lv_iadd hx hb dX8_take_16 ?_
    refine lt_e (e0 := (u1.2.1 1) + 1) (Int32.ofInt_add _ _).symm (fun z_2 hz_2 => ?_)
    refine va_put (D := D) (ci := 8) (v := vI z_2) (ty := .int) (C := RX8) (T := TX8) (N := 7) hx hb hts hi8 tyX8 tyX8_ok nmX8 hown hG.1 hP hD hS 0 rfl rfl 3 (by decide) lf25 (fun _ h9 => h9) rfl (by decide +kernel) rfl rfl (Nat.le_of_ble_eq_true rfl) dX8_take_17 (fun H locs hP hD hS => ?_)
    obtain ⟨hP, hD⟩ := pw9 [zO ta 8 [vR tb, vI fed, vI len, vI z_2, vI we, vI fa, vI fp], zI tb (cy 1) 600 bf] hP hD
    refine lv_iconst (v := iI 1) hx hb dX8_take_20 (by decide) ?_
    refine W.widen (k := 0) (n := 0) (Nat.le_of_ble_eq_true rfl) (Nat.le_of_ble_eq_true rfl) ?_
    exact W.zret (v := iI 1) hx hb hr (by first | rfl | decide) (fun t ht hW => ⟨⟨iI 1, ((fun k => ([] : List Nat).getD k 0), (fun k => ([1, z_2] : List Int).getD k 0), (fun k => ([] : List (Nat → Int32)).getD k (fun _ => 0))), rfl, ⟨rfl, (by show (0 ≤ 1 ∧ 1 ≤ 1); show (0 : Int) ≤ 1 ∧ (1 : Int) ≤ 1; decide), (by show (0 ≤ z_2 ∧ z_2 ≤ 600); omega), (by show (at_ ≤ z_2); omega)⟩, at9 ht hP hD [0, 1] (by decide +kernel) rfl⟩, hS.F ht⟩) hS.2.2 dX8_take_21
  · refine lv_iconst (v := iI 0) hx hb dX8_take_8 (by decide) ?_
    refine W.widen (k := 0) (n := 0) (Nat.le_of_ble_eq_true rfl) (Nat.le_of_ble_eq_true rfl) ?_
    exact W.zret (v := iI 0) hx hb hr (by first | rfl | decide) (fun t ht hW => ⟨⟨iI 0, ((fun k => ([] : List Nat).getD k 0), (fun k => ([0, (u1.2.1 1)] : List Int).getD k 0), (fun k => ([] : List (Nat → Int32)).getD k (fun _ => 0))), rfl, ⟨rfl, (by show (0 ≤ 0 ∧ 0 ≤ 1); show (0 : Int) ≤ 0 ∧ (0 : Int) ≤ 1; decide), (by show (0 ≤ (u1.2.1 1) ∧ (u1.2.1 1) ≤ 600); first | exact hq1_2 | omega), (by show (at_ ≤ (u1.2.1 1)); omega)⟩, at9 ht hP hD [0, 1] (by decide +kernel) rfl⟩, hS.F ht⟩) hS.2.2 dX8_take_9
def vs_s_want : List Cond := .code yX8_want cX8_want 2 none :: (([.fieldLink RX8 25 "KerbSplash$Tape" "at" "I"] : List Cond) ++ ((wsV RX8 34 RX8 yX8_sign vs_s_sign) ++ ((wsV RX8 38 RX8 yX8_refuse vs_s_refuse) ++ ((wsX80) ++ ([])))))
theorem gd_s_want : vs_s_want.all goodWord = true := gd_C (by decide +kernel) (gd_A (by decide +kernel) (gd_A (gd_V gd_s_sign (by decide +kernel)) (gd_A (gd_V gd_s_refuse (by decide +kernel)) (gd_A (by decide +kernel) rfl))))
set_option maxHeartbeats 4000000 in
set_option maxRecDepth 100000 in
theorem s_want (l : Launch) (hl : l.stackTraces = false) (D : va_G) (cy : Nat → ClassId) (sa : Nat → Nat) (ta tb : Nat) (fed len at_ we fa fp : Int) (bf : Nat → Int32) (n : Int) (sz : Nat) (hr_fed : 0 ≤ fed ∧ fed ≤ 600) (hr_len : 0 ≤ len ∧ len ≤ 600) (hr_at_ : 0 ≤ at_ ∧ at_ ≤ 600) (hr_we : 0 ≤ we ∧ we ≤ 600) (hr_fa : 0 ≤ fa ∧ fa ≤ 4) (hr_fp : (-1) ≤ fp ∧ fp ≤ 600) (hr_n : 0 ≤ n ∧ n ≤ 65535) : mV9 l yX8_want vs_s_want ({ frames := 1, cells := 0, slots := 0, locals := 21 }) D cy sa sz [vR ta, vI n] [zO ta 8 [vR tb, vI fed, vI len, vI at_, vI we, vI fa, vI fp], zI tb (cy 1) 600 bf] (fun u : SV => (0 ≤ u.2.1 0 ∧ u.2.1 0 ≤ 600) ∧ (0 ≤ u.2.1 1 ∧ u.2.1 1 ≤ 4) ∧ ((-1) ≤ u.2.1 2 ∧ u.2.1 2 ≤ 600) ∧ (at_ ≤ u.2.1 0) ∧ (fa ≠ 0 → u.2.1 1 ≠ 0)) (fun u : SV => [zO ta 8 [vR tb, vI fed, vI len, vI (u.2.1 0), vI we, vI (u.2.1 1), vI (u.2.1 2)], zI tb (cy 1) 600 bf]) 0 0 := by
  refine Met.ofW (cc := cX8_want) (maxL := 2) (ret := none) (by decide) rfl ?_
  intro p e s m args below meth c s₁ B hml hv
  obtain ⟨rfl, hsz, hP, hG, hD0, hT⟩ := hv
  have hx := B.exec
  have hb := B.bytes
  have hr := B.returns
  have hts := atoms_spec (ws := vs_s_want) B.pre
  have hown : s.vm.findClass RX8 = some m.cls := findClass_of_methodNamed B.named
  have hlocks := B.notSynchronized
  subst hsz
  have hD := hD0.self (sz := s.heap.size)
  generalize hAe : va_A [zO ta 8 [vR tb, vI fed, vI len, vI at_, vI we, vI fa, vI fp], zI tb (cy 1) 600 bf] s.heap.size = A at hD hT ⊢
  have hA : ∀ q : Nat, s.heap.size ≤ q → A q := fun q h => by rw [← hAe]; exact Or.inr h
  have hS : va_S A s.heap s.heap [] := va_S.rf
  have hl0 := lv_entry ([vR ta, vI n]) (n := 2) (Nat.le_of_ble_eq_true rfl)
  rw [lg_entry_eq]
  generalize (lg_sl ([vR ta, vI n]) ++ List.replicate (2 - (lg_sl ([vR ta, vI n])).length) Slot.unset).toArray = ls at hl0 ⊢
  have hlv : lv_has ls 2 [(0, vR ta), (1, vI n)] := hl0
  have gg_0 : GoodIn vs_s_want (wsV RX8 34 RX8 yX8_sign vs_s_sign) := goodIn_sub (fun w h => List.mem_cons_of_mem _ (List.mem_append_right _ (List.mem_append_left _ h))) (gd_V gd_s_sign (by decide +kernel))
  have gg_1 : GoodIn vs_s_want (wsV RX8 38 RX8 yX8_refuse vs_s_refuse) := goodIn_sub (fun w h => List.mem_cons_of_mem _ (List.mem_append_right _ (List.mem_append_right _ (List.mem_append_left _ h)))) (gd_V gd_s_refuse (by decide +kernel))
  have lf25 := hts (.fieldLink RX8 25 "KerbSplash$Tape" "at" "I") (List.mem_of_getElem? (i := 1) rfl)
  have hi8 : ∀ w ∈ wsX80, w ∈ vs_s_want := fun w h => List.mem_cons_of_mem _ (List.mem_append_right _ (List.mem_append_right _ (List.mem_append_right _ (List.mem_append_left _ h))))
  refine lv_aload_n hx hb dX8_want_0 rfl (lv_at hlv 0 rfl) ?_
  refine cjr_i [false, false] (fun pre9 => (va_runV (As := []) (rest := []) ⟨hx, hb, hml, hown, hts⟩ (s_sign l hl D cy sa ta tb fed len at_ we fa fp bf s.heap.size (by first | exact hr_fed | omega) (by first | exact hr_len | omega) (by first | exact hr_at_ | omega) (by first | exact hr_we | omega) (by first | exact hr_fa | omega) (by first | exact hr_fp | omega)) (cwV 0 hts gg_0 rfl rfl rfl (by decide +kernel) ⟨Nat.le_of_ble_eq_true rfl, Nat.le_of_ble_eq_true rfl⟩) ⟨pcW.blind, (va_recv hG.1 hP (ci := 8) (q0 := 0) rfl rfl), pre9⟩ rfl rfl hlv.1 rfl (lv_room (Nat.le_of_ble_eq_true rfl)) dX8_want_1 ⟨Nat.le_of_ble_eq_true rfl, Nat.le_of_ble_eq_true rfl⟩)) hP hD hS hA hG hT [0, 1] rfl (by decide +kernel) (fun r1 u1 H locs hw1 hq9 hS => ?_)
  obtain ⟨rfl, hq1_1, hq1_2, hq1_3, hq1_4, hq1_5⟩ := hw1
  obtain ⟨hP, hD⟩ := pd9 [zO ta 8 [vR tb, vI fed, vI len, vI (u1.2.1 1), vI we, vI fa, vI fp], zI tb (cy 1) 600 bf] hq9
  refine lv_iload_n hx hb dX8_want_4 rfl (lv_at hlv 1 rfl) ?_
  refine ir_ne (tgt := 21) hx hb dX8_want_5 (by decide) (by first | exact rgw hq1_1 (by decide) (by decide) | omega) (by first | exact rgw hr_n (by decide) (by decide) | omega) (fun c_1 => ?_) (fun c_1 => ?_)
  · refine lv_aload_n hx hb dX8_want_21 rfl (lv_at hlv 0 rfl) ?_
    refine lv_iconst (v := iI 1) hx hb dX8_want_22 (by decide) ?_
    refine cjr_v [false, true] (fun pre9 => (va_runV (As := [vI 1]) (rest := []) ⟨hx, hb, hml, hown, hts⟩ (s_refuse l hl D cy sa ta tb fed len (u1.2.1 1) we fa fp 1 H.size (by first | exact hr_fed | omega) (by first | exact hr_len | omega) (by first | exact hq1_2 | omega) (by first | exact hr_we | omega) (by first | exact hr_fa | omega) (by first | exact hr_fp | omega) (by show (1 : Int) ≤ 1 ∧ (1 : Int) ≤ 4; decide)) (cwV 1 hts gg_1 rfl rfl rfl (by decide +kernel) ⟨Nat.le_of_ble_eq_true rfl, Nat.le_of_ble_eq_true rfl⟩) ⟨pcW.blind, (va_recv hG.1 hP (ci := 8) (q0 := 0) rfl rfl), pre9⟩ rfl rfl hlv.1 rfl (lv_room (Nat.le_of_ble_eq_true rfl)) dX8_want_23 ⟨Nat.le_of_ble_eq_true rfl, Nat.le_of_ble_eq_true rfl⟩)) hP hD hS hA hG hT [0] rfl (by decide +kernel) (fun u2 H locs hw2 hq9 hS => ?_)
    obtain ⟨hq2_0, hq2_1⟩ := hw2
    obtain ⟨hP, hD⟩ := pd9 [zI tb (cy 1) 600 bf, zO ta 8 [vR tb, vI fed, vI len, vI (u1.2.1 1), vI we, vI (u2.2.1 0), vI (u2.2.1 1)]] hq9
    refine W.widen (k := 0) (n := 0) (Nat.le_of_ble_eq_true rfl) (Nat.le_of_ble_eq_true rfl) ?_
    exact W.vret hx hb hr (fun t ht hW => ⟨⟨((fun k => ([] : List Nat).getD k 0), (fun k => ([(u1.2.1 1), (u2.2.1 0), (u2.2.1 1)] : List Int).getD k 0), (fun k => ([] : List (Nat → Int32)).getD k (fun _ => 0))), rfl, ⟨(by show (0 ≤ (u1.2.1 1) ∧ (u1.2.1 1) ≤ 600); first | exact hq1_2 | omega), (by show (0 ≤ (u2.2.1 0) ∧ (u2.2.1 0) ≤ 4); first | exact rgw hq2_0 (by decide) (by decide) | omega), (by show ((-1) ≤ (u2.2.1 1) ∧ (u2.2.1 1) ≤ 600); first | exact hq2_1 | omega), (by show (at_ ≤ (u1.2.1 1)); omega), (by show (fa ≠ 0 → (u2.2.1 0) ≠ 0); omega)⟩, at9 ht hP hD [1, 0] (by decide +kernel) rfl⟩, hS.F ht⟩) hS.2.2 dX8_want_26
  · refine lv_aload_n hx hb dX8_want_8 rfl (lv_at hlv 0 rfl) ?_
    refine lv_dup hx hb dX8_want_9 rfl ?_
    refine va_get (D := D) (ci := 8) (v := vI (u1.2.1 1)) (C := RX8) (T := TX8) (N := 7) hx hb hts hi8 hown hG.1 hP 0 rfl rfl 3 (by decide) lf25 (fun _ h9 => h9) rfl dX8_want_10 ?_
    refine lv_iconst (v := iI 1) hx hb dX8_want_13 (by decide) ?_
    refine lv_iadd hx hb dX8_want_14 ?_
    refine lt_e (e0 := (u1.2.1 1) + 1) (Int32.ofInt_add _ _).symm (fun z_2 hz_2 => ?_)
    refine va_put (D := D) (ci := 8) (v := vI z_2) (ty := .int) (C := RX8) (T := TX8) (N := 7) hx hb hts hi8 tyX8 tyX8_ok nmX8 hown hG.1 hP hD hS 0 rfl rfl 3 (by decide) lf25 (fun _ h9 => h9) rfl (by decide +kernel) rfl rfl (Nat.le_of_ble_eq_true rfl) dX8_want_15 (fun H locs hP hD hS => ?_)
    obtain ⟨hP, hD⟩ := pw9 [zO ta 8 [vR tb, vI fed, vI len, vI z_2, vI we, vI fa, vI fp], zI tb (cy 1) 600 bf] hP hD
    refine lv_goto (tgt := 26) hx hb dX8_want_18 (by decide) ?_
    refine W.widen (k := 0) (n := 0) (Nat.le_of_ble_eq_true rfl) (Nat.le_of_ble_eq_true rfl) ?_
    exact W.vret hx hb hr (fun t ht hW => ⟨⟨((fun k => ([] : List Nat).getD k 0), (fun k => ([z_2, fa, fp] : List Int).getD k 0), (fun k => ([] : List (Nat → Int32)).getD k (fun _ => 0))), rfl, ⟨(by show (0 ≤ z_2 ∧ z_2 ≤ 600); omega), (by show (0 ≤ fa ∧ fa ≤ 4); first | exact hr_fa | omega), (by show ((-1) ≤ fp ∧ fp ≤ 600); first | exact hr_fp | omega), (by show (at_ ≤ z_2); omega), (by show (fa ≠ 0 → fa ≠ 0); omega)⟩, at9 ht hP hD [0, 1] (by decide +kernel) rfl⟩, hS.F ht⟩) hS.2.2 dX8_want_26
def vs_s_number : List Cond := .code yX8_number cX8_number 5 (some .int) :: (([.fieldLink RX8 25 "KerbSplash$Tape" "at" "I", .fieldLink RX8 22 "KerbSplash$Tape" "length" "I", .initialized RX11, .static yX11_isWithin, .fieldLink RX8 11 "KerbSplash$Tape" "bytes" "[B", .methodLink RX8 60 Lib.Math.min.name, .static Lib.Math.min.name, .initialized "java/lang/Math", .code Lib.Math.min.name Lib.Math.min.code 2 (some .int)] : List Cond) ++ ((wsV RX8 34 RX8 yX8_sign vs_s_sign) ++ ((va_wsS RX8 56 yX8_isDigit vs_s_isDigit) ++ ((wsX80) ++ ((vs_s_within) ++ ((wsV RX8 38 RX8 yX8_refuse vs_s_refuse) ++ ([])))))))
theorem gd_s_number : vs_s_number.all goodWord = true := gd_C (by decide +kernel) (gd_A (by decide +kernel) (gd_A (gd_V gd_s_sign (by decide +kernel)) (gd_A (gd_S gd_s_isDigit (by decide +kernel)) (gd_A (by decide +kernel) (gd_A gd_s_within (gd_A (gd_V gd_s_refuse (by decide +kernel)) rfl))))))
set_option maxHeartbeats 4000000 in
set_option maxRecDepth 100000 in
theorem s_number (l : Launch) (hl : l.stackTraces = false) (D : va_G) (cy : Nat → ClassId) (sa : Nat → Nat) (ta tb : Nat) (fed len at_ we fa fp : Int) (bf : Nat → Int32) (lo hi : Int) (sz : Nat) (hr_fed : 0 ≤ fed ∧ fed ≤ 600) (hr_len : 0 ≤ len ∧ len ≤ 600) (hr_at_ : 0 ≤ at_ ∧ at_ ≤ 600) (hr_we : 0 ≤ we ∧ we ≤ 600) (hr_fa : 0 ≤ fa ∧ fa ≤ 4) (hr_fp : (-1) ≤ fp ∧ fp ≤ 600) (hr_lo : (-1) ≤ lo ∧ lo ≤ 10000) (hr_hi : (-1) ≤ hi ∧ hi ≤ 9999) : mI9 l yX8_number vs_s_number ({ frames := 1, cells := 0, slots := 0, locals := 30 }) D cy sa sz [vR ta, vI lo, vI hi] [zO ta 8 [vR tb, vI fed, vI len, vI at_, vI we, vI fa, vI fp], zI tb (cy 1) 600 bf] (fun (r : Int32) (u : SV) => r = iI (u.2.1 0) ∧ ((-1) ≤ u.2.1 0 ∧ u.2.1 0 ≤ 10000) ∧ (0 ≤ u.2.1 1 ∧ u.2.1 1 ≤ 600) ∧ (0 ≤ u.2.1 2 ∧ u.2.1 2 ≤ 4) ∧ ((-1) ≤ u.2.1 3 ∧ u.2.1 3 ≤ 600) ∧ (at_ ≤ u.2.1 1) ∧ (u.2.1 2 = 0 → fa = 0 ∧ lo ≤ u.2.1 0 ∧ u.2.1 0 ≤ hi) ∧ (0 ≤ lo → 0 ≤ u.2.1 0)) (fun u : SV => [zO ta 8 [vR tb, vI fed, vI len, vI (u.2.1 1), vI we, vI (u.2.1 2), vI (u.2.1 3)], zI tb (cy 1) 600 bf]) 0 0 := by
  refine Met.ofW (cc := cX8_number) (maxL := 5) (ret := (some .int)) (by decide) rfl ?_
  intro p e s m args below meth c s₁ B hml hv
  obtain ⟨rfl, hsz, hP, hG, hD0, hT⟩ := hv
  have hx := B.exec
  have hb := B.bytes
  have hr := B.returns
  have hts := atoms_spec (ws := vs_s_number) B.pre
  have hown : s.vm.findClass RX8 = some m.cls := findClass_of_methodNamed B.named
  have hlocks := B.notSynchronized
  subst hsz
  have hD := hD0.self (sz := s.heap.size)
  generalize hAe : va_A [zO ta 8 [vR tb, vI fed, vI len, vI at_, vI we, vI fa, vI fp], zI tb (cy 1) 600 bf] s.heap.size = A at hD hT ⊢
  have hA : ∀ q : Nat, s.heap.size ≤ q → A q := fun q h => by rw [← hAe]; exact Or.inr h
  have hS : va_S A s.heap s.heap [] := va_S.rf
  have hl0 := lv_entry ([vR ta, vI lo, vI hi]) (n := 5) (Nat.le_of_ble_eq_true rfl)
  rw [lg_entry_eq]
  generalize (lg_sl ([vR ta, vI lo, vI hi]) ++ List.replicate (5 - (lg_sl ([vR ta, vI lo, vI hi])).length) Slot.unset).toArray = ls at hl0 ⊢
  have hlv : lv_has ls 5 [(0, vR ta), (1, vI lo), (2, vI hi)] := hl0
  have gg_0 : GoodIn vs_s_number (wsV RX8 34 RX8 yX8_sign vs_s_sign) := goodIn_sub (fun w h => List.mem_cons_of_mem _ (List.mem_append_right _ (List.mem_append_left _ h))) (gd_V gd_s_sign (by decide +kernel))
  have gg_1 : GoodIn vs_s_number (va_wsS RX8 56 yX8_isDigit vs_s_isDigit) := goodIn_sub (fun w h => List.mem_cons_of_mem _ (List.mem_append_right _ (List.mem_append_right _ (List.mem_append_left _ h)))) (gd_S gd_s_isDigit (by decide +kernel))
  have lf25 := hts (.fieldLink RX8 25 "KerbSplash$Tape" "at" "I") (List.mem_of_getElem? (i := 1) rfl)
  have hi8 : ∀ w ∈ wsX80, w ∈ vs_s_number := fun w h => List.mem_cons_of_mem _ (List.mem_append_right _ (List.mem_append_right _ (List.mem_append_right _ (List.mem_append_left _ h))))
  have lf22 := hts (.fieldLink RX8 22 "KerbSplash$Tape" "length" "I") (List.mem_of_getElem? (i := 2) rfl)
  have gg_3 : GoodIn vs_s_number (vs_s_within) := goodIn_sub (fun w h => List.mem_cons_of_mem _ (List.mem_append_right _ (List.mem_append_right _ (List.mem_append_right _ (List.mem_append_right _ (List.mem_append_left _ h)))))) gd_s_within
  have ini_RX11 := hts (.initialized RX11) (List.mem_of_getElem? (i := 3) rfl)
  have st_X11_isWithin := hts (.static yX11_isWithin) (List.mem_of_getElem? (i := 4) rfl)
  have gg_4 : GoodIn vs_s_number (wsV RX8 38 RX8 yX8_refuse vs_s_refuse) := goodIn_sub (fun w h => List.mem_cons_of_mem _ (List.mem_append_right _ (List.mem_append_right _ (List.mem_append_right _ (List.mem_append_right _ (List.mem_append_right _ (List.mem_append_left _ h))))))) (gd_V gd_s_refuse (by decide +kernel))
  have lf11 := hts (.fieldLink RX8 11 "KerbSplash$Tape" "bytes" "[B") (List.mem_of_getElem? (i := 5) rfl)
  have mk60 := hts (.methodLink RX8 60 Lib.Math.min.name) (List.mem_of_getElem? (i := 6) rfl)
  have ms_min := hts (.static Lib.Math.min.name) (List.mem_of_getElem? (i := 7) rfl)
  have mi_ := hts (.initialized "java/lang/Math") (List.mem_of_getElem? (i := 8) rfl)
  have mc_min := hts (.code Lib.Math.min.name Lib.Math.min.code 2 (some .int)) (List.mem_of_getElem? (i := 9) rfl)
  refine lv_aload_n hx hb dX8_number_0 rfl (lv_at hlv 0 rfl) ?_
  refine cjr_i [false, false] (fun pre9 => (va_runV (As := []) (rest := []) ⟨hx, hb, hml, hown, hts⟩ (s_sign l hl D cy sa ta tb fed len at_ we fa fp bf s.heap.size (by first | exact hr_fed | omega) (by first | exact hr_len | omega) (by first | exact hr_at_ | omega) (by first | exact hr_we | omega) (by first | exact hr_fa | omega) (by first | exact hr_fp | omega)) (cwV 0 hts gg_0 rfl rfl rfl (by decide +kernel) ⟨Nat.le_of_ble_eq_true rfl, Nat.le_of_ble_eq_true rfl⟩) ⟨pcW.blind, (va_recv hG.1 hP (ci := 8) (q0 := 0) rfl rfl), pre9⟩ rfl rfl hlv.1 rfl (lv_room (Nat.le_of_ble_eq_true rfl)) dX8_number_1 ⟨Nat.le_of_ble_eq_true rfl, Nat.le_of_ble_eq_true rfl⟩)) hP hD hS hA hG hT [0, 1] rfl (by decide +kernel) (fun r1 u1 H locs hw1 hq9 hS => ?_)
  obtain ⟨rfl, hq1_1, hq1_2, hq1_3, hq1_4, hq1_5⟩ := hw1
  obtain ⟨hP, hD⟩ := pd9 [zO ta 8 [vR tb, vI fed, vI len, vI (u1.2.1 1), vI we, vI fa, vI fp], zI tb (cy 1) 600 bf] hq9
  refine cjr_i [true, true] (fun pre9 => (va_runS (As := [vI (u1.2.1 0)]) (rest := []) ⟨hx, hb, hml, hown, hts⟩ (s_isDigit l hl D cy sa (u1.2.1 0) H.size (by first | exact rgw hq1_1 (by decide) (by decide) | omega)) (va_cwS 1 hts gg_1 rfl rfl rfl (by decide +kernel) ⟨Nat.le_of_ble_eq_true rfl, Nat.le_of_ble_eq_true rfl⟩) ⟨pcW.blind, pre9⟩ rfl rfl hlv.1 rfl (lv_room (Nat.le_of_ble_eq_true rfl)) dX8_number_4 ⟨Nat.le_of_ble_eq_true rfl, Nat.le_of_ble_eq_true rfl⟩)) hP hD hS hA hG hT [] rfl (by decide +kernel) (fun r2 u2 H locs hw2 hq9 hS => ?_)
  obtain ⟨rfl, hq2_1, hq2_2, hq2_3⟩ := hw2
  obtain ⟨hP, hD⟩ := pd9 [zO ta 8 [vR tb, vI fed, vI len, vI (u1.2.1 1), vI we, vI fa, vI fp], zI tb (cy 1) 600 bf] hq9
  refine iz_ne (tgt := 17) hx hb dX8_number_7 (by decide) (by first | exact rgw hq2_1 (by decide) (by decide) | omega) (fun c_1 => ?_) (fun c_1 => ?_)
  · refine lv_aload_n hx hb dX8_number_17 rfl (lv_at hlv 0 rfl) ?_
    refine va_get (D := D) (ci := 8) (v := vI (u1.2.1 1)) (C := RX8) (T := TX8) (N := 7) hx hb hts hi8 hown hG.1 hP 0 rfl rfl 3 (by decide) lf25 (fun _ h9 => h9) rfl dX8_number_18 ?_
    refine lv_istore_n (lv' := [(3, vI (u1.2.1 1)), (0, vR ta), (1, vI lo), (2, vI hi)]) hx hb dX8_number_21 rfl hlv (by decide) rfl (fun ls hlv => ?_)
    refine lv_iconst (v := iI 0) hx hb dX8_number_22 (by decide) ?_
    refine lv_istore (lv' := [(4, vI 0), (3, vI (u1.2.1 1)), (0, vR ta), (1, vI lo), (2, vI hi)]) hx hb dX8_number_23 hlv (by decide) rfl (fun ls hlv => ?_)
    refine (?_ : ∀ (fu : Nat) (x : Int) (v : Int) (H : Heap) (locs : List Loc) (ls : Array Slot), 600 - x < (fu : Int) → (0 ≤ x ∧ x ≤ 600) → (0 ≤ v ∧ v ≤ 10000) → (at_ ≤ x) → va_P D vwCl [zO ta 8 [vR tb, vI fed, vI len, vI (u1.2.1 1), vI we, vI fa, vI fp], zI tb (cy 1) 600 bf] H → va_D A [zO ta 8 [vR tb, vI fed, vI len, vI (u1.2.1 1), vI we, vI fa, vI fp], zI tb (cy 1) 600 bf] → va_S A s.heap H locs → lv_has ls 5 [(4, vI v), (3, vI x), (0, vR ta), (1, vI lo), (2, vI hi)] → W p l e _ s m _ below meth c H locs _ _ _ (F0 m 25 ls [])) (((600 - (u1.2.1 1)) + 1 : Int)).toNat (u1.2.1 1) 0 _ _ _ (by omega) (by first | exact hq1_2 | omega) (by show (0 : Int) ≤ 0 ∧ (0 : Int) ≤ 10000; decide) (by omega)  hP hD hS hlv
    clear hP hD hS hlv
    intro fu
    induction fu with
    | zero => intro x v H locs ls hm25 hl25_0 hl25_1 hl25_2  hP hD hS hlv; omega
    | succ fu ih25 =>
      intro x v H locs ls hm25 hl25_0 hl25_1 hl25_2  hP hD hS hlv
      refine lv_iload_n hx hb dX8_number_25 rfl (lv_at hlv 1 rfl) ?_
      refine lv_aload_n hx hb dX8_number_26 rfl (lv_at hlv 2 rfl) ?_
      refine va_get (D := D) (ci := 8) (v := vI len) (C := RX8) (T := TX8) (N := 7) hx hb hts hi8 hown hG.1 hP 0 rfl rfl 2 (by decide) lf22 (fun _ h9 => h9) rfl dX8_number_27 ?_
      refine ir_ge (tgt := 74) hx hb dX8_number_30 (by decide) (by first | exact rgw hl25_0 (by decide) (by decide) | omega) (by first | exact rgw hr_len (by decide) (by decide) | omega) (fun c_2 => ?_) (fun c_2 => ?_)
      · refine lv_iload hx hb dX8_number_74 (lv_at hlv 0 rfl) ?_
        refine lv_iload_n hx hb dX8_number_76 rfl (lv_at hlv 3 rfl) ?_
        refine lv_iload_n hx hb dX8_number_77 rfl (lv_at hlv 4 rfl) ?_
        refine cjr_i [true, true] (fun pre9 => (va_runSN (host := "KerbSplash") (As := [vI v, vI lo, vI hi]) (rest := []) ⟨hx, hb, hml, hown, hts⟩ (s_within l hl D cy sa v lo hi H.size (by first | exact rgw hl25_1 (by decide) (by decide) | omega) (by first | exact rgw hr_lo (by decide) (by decide) | omega) (by first | exact rgw hr_hi (by decide) (by decide) | omega)) ⟨va_cnB 3 hts gg_3 rfl rfl rfl (nM_Tape_66 hG.2.1) ini_RX11 (by decide +kernel) ⟨Nat.le_of_ble_eq_true rfl, Nat.le_of_ble_eq_true rfl⟩, st_X11_isWithin, trivial⟩ ⟨pcW.blind, pre9⟩ rfl rfl hlv.1 rfl (lv_room (Nat.le_of_ble_eq_true rfl)) dX8_number_78 ⟨Nat.le_of_ble_eq_true rfl, Nat.le_of_ble_eq_true rfl⟩)) hP hD hS hA hG hT [] rfl (by decide +kernel) (fun r3 u3 H locs hw3 hq9 hS => ?_)
        obtain ⟨rfl, hq3_1, hq3_2, hq3_3⟩ := hw3
        obtain ⟨hP, hD⟩ := pd9 [zO ta 8 [vR tb, vI fed, vI len, vI (u1.2.1 1), vI we, vI fa, vI fp], zI tb (cy 1) 600 bf] hq9
        refine iz_eq (tgt := 92) hx hb dX8_number_81 (by decide) (by first | exact rgw hq3_1 (by decide) (by decide) | omega) (fun c_3 => ?_) (fun c_3 => ?_)
        · refine lv_aload_n hx hb dX8_number_92 rfl (lv_at hlv 2 rfl) ?_
          refine lv_iconst (v := iI 2) hx hb dX8_number_93 (by decide) ?_
          refine cjr_v [false, true] (fun pre9 => (va_runV (As := [vI 2]) (rest := []) ⟨hx, hb, hml, hown, hts⟩ (s_refuse l hl D cy sa ta tb fed len (u1.2.1 1) we fa fp 2 H.size (by first | exact hr_fed | omega) (by first | exact hr_len | omega) (by first | exact hq1_2 | omega) (by first | exact hr_we | omega) (by first | exact hr_fa | omega) (by first | exact hr_fp | omega) (by show (1 : Int) ≤ 2 ∧ (2 : Int) ≤ 4; decide)) (cwV 1 hts gg_4 rfl rfl rfl (by decide +kernel) ⟨Nat.le_of_ble_eq_true rfl, Nat.le_of_ble_eq_true rfl⟩) ⟨pcW.blind, (va_recv hG.1 hP (ci := 8) (q0 := 0) rfl rfl), pre9⟩ rfl rfl hlv.1 rfl (lv_room (Nat.le_of_ble_eq_true rfl)) dX8_number_94 ⟨Nat.le_of_ble_eq_true rfl, Nat.le_of_ble_eq_true rfl⟩)) hP hD hS hA hG hT [0] rfl (by decide +kernel) (fun u4 H locs hw4 hq9 hS => ?_)
          obtain ⟨hq4_0, hq4_1⟩ := hw4
          obtain ⟨hP, hD⟩ := pd9 [zI tb (cy 1) 600 bf, zO ta 8 [vR tb, vI fed, vI len, vI (u1.2.1 1), vI we, vI (u4.2.1 0), vI (u4.2.1 1)]] hq9
          refine lv_iload hx hb dX8_number_97 (lv_at hlv 0 rfl) ?_
          refine W.widen (k := 0) (n := 0) (Nat.le_of_ble_eq_true rfl) (Nat.le_of_ble_eq_true rfl) ?_
          exact W.iret (v := iI v) hx hb hr (fun t ht hW => ⟨⟨iI v, ((fun k => ([] : List Nat).getD k 0), (fun k => ([v, (u1.2.1 1), (u4.2.1 0), (u4.2.1 1)] : List Int).getD k 0), (fun k => ([] : List (Nat → Int32)).getD k (fun _ => 0))), rfl, ⟨rfl, (by show ((-1) ≤ v ∧ v ≤ 10000); first | exact rgw hl25_1 (by decide) (by decide) | omega), (by show (0 ≤ (u1.2.1 1) ∧ (u1.2.1 1) ≤ 600); first | exact hq1_2 | omega), (by show (0 ≤ (u4.2.1 0) ∧ (u4.2.1 0) ≤ 4); first | exact rgw hq4_0 (by decide) (by decide) | omega), (by show ((-1) ≤ (u4.2.1 1) ∧ (u4.2.1 1) ≤ 600); first | exact hq4_1 | omega), (by show (at_ ≤ (u1.2.1 1)); omega), (by show ((u4.2.1 0) = 0 → fa = 0 ∧ lo ≤ v ∧ v ≤ hi); omega), (by show (0 ≤ lo → 0 ≤ v); omega)⟩, at9 ht hP hD [1, 0] (by decide +kernel) rfl⟩, hS.F ht⟩) hS.2.2 dX8_number_99
        · refine lv_aload_n hx hb dX8_number_84 rfl (lv_at hlv 2 rfl) ?_
          refine lv_iload_n hx hb dX8_number_85 rfl (lv_at hlv 1 rfl) ?_
          refine va_put (D := D) (ci := 8) (v := vI x) (ty := .int) (C := RX8) (T := TX8) (N := 7) hx hb hts hi8 tyX8 tyX8_ok nmX8 hown hG.1 hP hD hS 0 rfl rfl 3 (by decide) lf25 (fun _ h9 => h9) rfl (by decide +kernel) rfl rfl (Nat.le_of_ble_eq_true rfl) dX8_number_86 (fun H locs hP hD hS => ?_)
          obtain ⟨hP, hD⟩ := pw9 [zO ta 8 [vR tb, vI fed, vI len, vI x, vI we, vI fa, vI fp], zI tb (cy 1) 600 bf] hP hD
          refine lv_goto (tgt := 97) hx hb dX8_number_89 (by decide) ?_
          refine lv_iload hx hb dX8_number_97 (lv_at hlv 0 rfl) ?_
          refine W.widen (k := 0) (n := 0) (Nat.le_of_ble_eq_true rfl) (Nat.le_of_ble_eq_true rfl) ?_
          exact W.iret (v := iI v) hx hb hr (fun t ht hW => ⟨⟨iI v, ((fun k => ([] : List Nat).getD k 0), (fun k => ([v, x, fa, fp] : List Int).getD k 0), (fun k => ([] : List (Nat → Int32)).getD k (fun _ => 0))), rfl, ⟨rfl, (by show ((-1) ≤ v ∧ v ≤ 10000); first | exact rgw hl25_1 (by decide) (by decide) | omega), (by show (0 ≤ x ∧ x ≤ 600); first | exact hl25_0 | omega), (by show (0 ≤ fa ∧ fa ≤ 4); first | exact hr_fa | omega), (by show ((-1) ≤ fp ∧ fp ≤ 600); first | exact hr_fp | omega), (by show (at_ ≤ x); omega), (by show (fa = 0 → fa = 0 ∧ lo ≤ v ∧ v ≤ hi); omega), (by show (0 ≤ lo → 0 ≤ v); omega)⟩, at9 ht hP hD [0, 1] (by decide +kernel) rfl⟩, hS.F ht⟩) hS.2.2 dX8_number_99
      · refine lv_aload_n hx hb dX8_number_33 rfl (lv_at hlv 2 rfl) ?_
        refine va_get (D := D) (ci := 8) (v := vR tb) (C := RX8) (T := TX8) (N := 7) hx hb hts hi8 hown hG.1 hP 0 rfl rfl 0 (by decide) lf11 (fun _ h9 => h9) rfl dX8_number_34 ?_
        refine lv_iload_n hx hb dX8_number_37 rfl (lv_at hlv 1 rfl) ?_
        refine va_bald hx hb hG.1 hP 1 1 rfl rfl (iI_in (by omega) (by decide)) dX8_number_38 ?_
        refine lt_z (fun z_4 ez_4 lz_4 hz_4 => ?_)
        refine cjr_i [true, true] (fun pre9 => (va_runS (As := [vI z_4]) (rest := []) ⟨hx, hb, hml, hown, hts⟩ (s_isDigit l hl D cy sa z_4 H.size (by omega)) (va_cwS 1 hts gg_1 rfl rfl rfl (by decide +kernel) ⟨Nat.le_of_ble_eq_true rfl, Nat.le_of_ble_eq_true rfl⟩) ⟨pcW.blind, pre9⟩ rfl rfl hlv.1 rfl (lv_room (Nat.le_of_ble_eq_true rfl)) dX8_number_39 ⟨Nat.le_of_ble_eq_true rfl, Nat.le_of_ble_eq_true rfl⟩)) hP hD hS hA hG hT [] rfl (by decide +kernel) (fun r5 u5 H locs hw5 hq9 hS => ?_)
        obtain ⟨rfl, hq5_1, hq5_2, hq5_3⟩ := hw5
        obtain ⟨hP, hD⟩ := pd9 [zO ta 8 [vR tb, vI fed, vI len, vI (u1.2.1 1), vI we, vI fa, vI fp], zI tb (cy 1) 600 bf] hq9
        refine iz_eq (tgt := 74) hx hb dX8_number_42 (by decide) (by first | exact rgw hq5_1 (by decide) (by decide) | omega) (fun c_5 => ?_) (fun c_5 => ?_)
        · refine lv_iload hx hb dX8_number_74 (lv_at hlv 0 rfl) ?_
          refine lv_iload_n hx hb dX8_number_76 rfl (lv_at hlv 3 rfl) ?_
          refine lv_iload_n hx hb dX8_number_77 rfl (lv_at hlv 4 rfl) ?_
          refine cjr_i [true, true] (fun pre9 => (va_runSN (host := "KerbSplash") (As := [vI v, vI lo, vI hi]) (rest := []) ⟨hx, hb, hml, hown, hts⟩ (s_within l hl D cy sa v lo hi H.size (by first | exact rgw hl25_1 (by decide) (by decide) | omega) (by first | exact rgw hr_lo (by decide) (by decide) | omega) (by first | exact rgw hr_hi (by decide) (by decide) | omega)) ⟨va_cnB 3 hts gg_3 rfl rfl rfl (nM_Tape_66 hG.2.1) ini_RX11 (by decide +kernel) ⟨Nat.le_of_ble_eq_true rfl, Nat.le_of_ble_eq_true rfl⟩, st_X11_isWithin, trivial⟩ ⟨pcW.blind, pre9⟩ rfl rfl hlv.1 rfl (lv_room (Nat.le_of_ble_eq_true rfl)) dX8_number_78 ⟨Nat.le_of_ble_eq_true rfl, Nat.le_of_ble_eq_true rfl⟩)) hP hD hS hA hG hT [] rfl (by decide +kernel) (fun r6 u6 H locs hw6 hq9 hS => ?_)
          obtain ⟨rfl, hq6_1, hq6_2, hq6_3⟩ := hw6
          obtain ⟨hP, hD⟩ := pd9 [zO ta 8 [vR tb, vI fed, vI len, vI (u1.2.1 1), vI we, vI fa, vI fp], zI tb (cy 1) 600 bf] hq9
          refine iz_eq (tgt := 92) hx hb dX8_number_81 (by decide) (by first | exact rgw hq6_1 (by decide) (by decide) | omega) (fun c_6 => ?_) (fun c_6 => ?_)
          · refine lv_aload_n hx hb dX8_number_92 rfl (lv_at hlv 2 rfl) ?_
            refine lv_iconst (v := iI 2) hx hb dX8_number_93 (by decide) ?_
            refine cjr_v [false, true] (fun pre9 => (va_runV (As := [vI 2]) (rest := []) ⟨hx, hb, hml, hown, hts⟩ (s_refuse l hl D cy sa ta tb fed len (u1.2.1 1) we fa fp 2 H.size (by first | exact hr_fed | omega) (by first | exact hr_len | omega) (by first | exact hq1_2 | omega) (by first | exact hr_we | omega) (by first | exact hr_fa | omega) (by first | exact hr_fp | omega) (by show (1 : Int) ≤ 2 ∧ (2 : Int) ≤ 4; decide)) (cwV 1 hts gg_4 rfl rfl rfl (by decide +kernel) ⟨Nat.le_of_ble_eq_true rfl, Nat.le_of_ble_eq_true rfl⟩) ⟨pcW.blind, (va_recv hG.1 hP (ci := 8) (q0 := 0) rfl rfl), pre9⟩ rfl rfl hlv.1 rfl (lv_room (Nat.le_of_ble_eq_true rfl)) dX8_number_94 ⟨Nat.le_of_ble_eq_true rfl, Nat.le_of_ble_eq_true rfl⟩)) hP hD hS hA hG hT [0] rfl (by decide +kernel) (fun u7 H locs hw7 hq9 hS => ?_)
            obtain ⟨hq7_0, hq7_1⟩ := hw7
            obtain ⟨hP, hD⟩ := pd9 [zI tb (cy 1) 600 bf, zO ta 8 [vR tb, vI fed, vI len, vI (u1.2.1 1), vI we, vI (u7.2.1 0), vI (u7.2.1 1)]] hq9
            refine lv_iload hx hb dX8_number_97 (lv_at hlv 0 rfl) ?_
            refine W.widen (k := 0) (n := 0) (Nat.le_of_ble_eq_true rfl) (Nat.le_of_ble_eq_true rfl) ?_
            exact W.iret (v := iI v) hx hb hr (fun t ht hW => ⟨⟨iI v, ((fun k => ([] : List Nat).getD k 0), (fun k => ([v, (u1.2.1 1), (u7.2.1 0), (u7.2.1 1)] : List Int).getD k 0), (fun k => ([] : List (Nat → Int32)).getD k (fun _ => 0))), rfl, ⟨rfl, (by show ((-1) ≤ v ∧ v ≤ 10000); first | exact rgw hl25_1 (by decide) (by decide) | omega), (by show (0 ≤ (u1.2.1 1) ∧ (u1.2.1 1) ≤ 600); first | exact hq1_2 | omega), (by show (0 ≤ (u7.2.1 0) ∧ (u7.2.1 0) ≤ 4); first | exact rgw hq7_0 (by decide) (by decide) | omega), (by show ((-1) ≤ (u7.2.1 1) ∧ (u7.2.1 1) ≤ 600); first | exact hq7_1 | omega), (by show (at_ ≤ (u1.2.1 1)); omega), (by show ((u7.2.1 0) = 0 → fa = 0 ∧ lo ≤ v ∧ v ≤ hi); omega), (by show (0 ≤ lo → 0 ≤ v); omega)⟩, at9 ht hP hD [1, 0] (by decide +kernel) rfl⟩, hS.F ht⟩) hS.2.2 dX8_number_99
          · refine lv_aload_n hx hb dX8_number_84 rfl (lv_at hlv 2 rfl) ?_
            refine lv_iload_n hx hb dX8_number_85 rfl (lv_at hlv 1 rfl) ?_
            refine va_put (D := D) (ci := 8) (v := vI x) (ty := .int) (C := RX8) (T := TX8) (N := 7) hx hb hts hi8 tyX8 tyX8_ok nmX8 hown hG.1 hP hD hS 0 rfl rfl 3 (by decide) lf25 (fun _ h9 => h9) rfl (by decide +kernel) rfl rfl (Nat.le_of_ble_eq_true rfl) dX8_number_86 (fun H locs hP hD hS => ?_)
            obtain ⟨hP, hD⟩ := pw9 [zO ta 8 [vR tb, vI fed, vI len, vI x, vI we, vI fa, vI fp], zI tb (cy 1) 600 bf] hP hD
            refine lv_goto (tgt := 97) hx hb dX8_number_89 (by decide) ?_
            refine lv_iload hx hb dX8_number_97 (lv_at hlv 0 rfl) ?_
            refine W.widen (k := 0) (n := 0) (Nat.le_of_ble_eq_true rfl) (Nat.le_of_ble_eq_true rfl) ?_
            exact W.iret (v := iI v) hx hb hr (fun t ht hW => ⟨⟨iI v, ((fun k => ([] : List Nat).getD k 0), (fun k => ([v, x, fa, fp] : List Int).getD k 0), (fun k => ([] : List (Nat → Int32)).getD k (fun _ => 0))), rfl, ⟨rfl, (by show ((-1) ≤ v ∧ v ≤ 10000); first | exact rgw hl25_1 (by decide) (by decide) | omega), (by show (0 ≤ x ∧ x ≤ 600); first | exact hl25_0 | omega), (by show (0 ≤ fa ∧ fa ≤ 4); first | exact hr_fa | omega), (by show ((-1) ≤ fp ∧ fp ≤ 600); first | exact hr_fp | omega), (by show (at_ ≤ x); omega), (by show (fa = 0 → fa = 0 ∧ lo ≤ v ∧ v ≤ hi); omega), (by show (0 ≤ lo → 0 ≤ v); omega)⟩, at9 ht hP hD [0, 1] (by decide +kernel) rfl⟩, hS.F ht⟩) hS.2.2 dX8_number_99
        · refine lv_iload hx hb dX8_number_45 (lv_at hlv 0 rfl) ?_
          refine lv_bipush (v := iI 10) hx hb dX8_number_47 (by decide) ?_
          refine lv_imul hx hb dX8_number_49 ?_
          refine lt_e (e0 := v * 10) (Int32.ofInt_mul _ _).symm (fun z_7 hz_7 => ?_)
          refine lv_aload_n hx hb dX8_number_50 rfl (lv_at hlv 2 rfl) ?_
          refine va_get (D := D) (ci := 8) (v := vR tb) (C := RX8) (T := TX8) (N := 7) hx hb hts hi8 hown hG.1 hP 0 rfl rfl 0 (by decide) lf11 (fun _ h9 => h9) rfl dX8_number_51 ?_
          refine lv_iload_n hx hb dX8_number_54 rfl (lv_at hlv 1 rfl) ?_
          refine va_bald hx hb hG.1 hP 1 1 rfl rfl (iI_in (by omega) (by decide)) dX8_number_55 ?_
          refine lt_i (y := iI z_4) ez_4 ?_
          refine lv_iadd hx hb dX8_number_56 ?_
          refine lt_e (e0 := z_7 + z_4) (Int32.ofInt_add _ _).symm (fun z_8 hz_8 => ?_)
          refine lv_bipush (v := iI 48) hx hb dX8_number_57 (by decide) ?_
          refine lv_isub hx hb dX8_number_59 ?_
          refine lt_e (e0 := z_8 - 48) (Int32.ofInt_sub _ _).symm (fun z_9 hz_9 => ?_)
          refine lv_sipush (v := iI 10000) hx hb dX8_number_60 (by decide) ?_
          refine va_mmin hx hb (hml.trans hlv.1.symm) hown mk60 ms_min mi_ mc_min (Nat.le_of_ble_eq_true rfl) (Nat.le_of_ble_eq_true rfl) (Nat.le_of_ble_eq_true rfl) (Nat.le_of_ble_eq_true rfl) dX8_number_63 ?_
          refine lt_mn (by omega) (by omega) (fun z_10 hz_10 => ?_)
          refine lv_istore (lv' := [(4, vI z_10), (3, vI x), (0, vR ta), (1, vI lo), (2, vI hi)]) hx hb dX8_number_66 hlv (by decide) rfl (fun ls hlv => ?_)
          obtain ⟨z_11, hz_11⟩ : ∃ z : Int, z = x + 1 := ⟨_, rfl⟩
          refine lv_iinc (v := iI z_11) (lv' := [(3, vI z_11), (4, vI z_10), (0, vR ta), (1, vI lo), (2, vI hi)]) hx hb dX8_number_68 hlv (k := 1) rfl (by rw [hz_11]; exact (Int32.ofInt_add _ _).symm) (by decide) rfl (fun ls hlv => ?_)
          refine lv_goto (tgt := 25) hx hb dX8_number_71 (by decide) ?_
          exact ih25 z_11 z_10 H locs ls (by omega) (by omega) (by omega) (by omega)  (hP.sub [0, 1] rfl) (hD.sub [0, 1] (by decide) rfl) hS (lv_sub hlv [1, 0, 2, 3, 4] rfl)
  · refine lv_aload_n hx hb dX8_number_10 rfl (lv_at hlv 0 rfl) ?_
    refine lv_iconst (v := iI 1) hx hb dX8_number_11 (by decide) ?_
    refine cjr_v [false, true] (fun pre9 => (va_runV (As := [vI 1]) (rest := []) ⟨hx, hb, hml, hown, hts⟩ (s_refuse l hl D cy sa ta tb fed len (u1.2.1 1) we fa fp 1 H.size (by first | exact hr_fed | omega) (by first | exact hr_len | omega) (by first | exact hq1_2 | omega) (by first | exact hr_we | omega) (by first | exact hr_fa | omega) (by first | exact hr_fp | omega) (by show (1 : Int) ≤ 1 ∧ (1 : Int) ≤ 4; decide)) (cwV 1 hts gg_4 rfl rfl rfl (by decide +kernel) ⟨Nat.le_of_ble_eq_true rfl, Nat.le_of_ble_eq_true rfl⟩) ⟨pcW.blind, (va_recv hG.1 hP (ci := 8) (q0 := 0) rfl rfl), pre9⟩ rfl rfl hlv.1 rfl (lv_room (Nat.le_of_ble_eq_true rfl)) dX8_number_12 ⟨Nat.le_of_ble_eq_true rfl, Nat.le_of_ble_eq_true rfl⟩)) hP hD hS hA hG hT [0] rfl (by decide +kernel) (fun u8 H locs hw8 hq9 hS => ?_)
    obtain ⟨hq8_0, hq8_1⟩ := hw8
    obtain ⟨hP, hD⟩ := pd9 [zI tb (cy 1) 600 bf, zO ta 8 [vR tb, vI fed, vI len, vI (u1.2.1 1), vI we, vI (u8.2.1 0), vI (u8.2.1 1)]] hq9
    refine lv_iload_n hx hb dX8_number_15 rfl (lv_at hlv 1 rfl) ?_
    refine W.widen (k := 0) (n := 0) (Nat.le_of_ble_eq_true rfl) (Nat.le_of_ble_eq_true rfl) ?_
    exact W.iret (v := iI lo) hx hb hr (fun t ht hW => ⟨⟨iI lo, ((fun k => ([] : List Nat).getD k 0), (fun k => ([lo, (u1.2.1 1), (u8.2.1 0), (u8.2.1 1)] : List Int).getD k 0), (fun k => ([] : List (Nat → Int32)).getD k (fun _ => 0))), rfl, ⟨rfl, (by show ((-1) ≤ lo ∧ lo ≤ 10000); first | exact hr_lo | omega), (by show (0 ≤ (u1.2.1 1) ∧ (u1.2.1 1) ≤ 600); first | exact hq1_2 | omega), (by show (0 ≤ (u8.2.1 0) ∧ (u8.2.1 0) ≤ 4); first | exact rgw hq8_0 (by decide) (by decide) | omega), (by show ((-1) ≤ (u8.2.1 1) ∧ (u8.2.1 1) ≤ 600); first | exact hq8_1 | omega), (by show (at_ ≤ (u1.2.1 1)); omega), (by show ((u8.2.1 0) = 0 → fa = 0 ∧ lo ≤ lo ∧ lo ≤ hi); omega), (by show (0 ≤ lo → 0 ≤ lo); omega)⟩, at9 ht hP hD [1, 0] (by decide +kernel) rfl⟩, hS.F ht⟩) hS.2.2 dX8_number_16
end
section
theorem dX4_addCar_0 : decode cX4_addCar 0 = .ok (.aload_n 0, 1) := by decide +kernel
theorem dX4_addCar_1 : decode cX4_addCar 1 = .ok (.getfield 21, 3) := by decide +kernel
theorem dX4_addCar_10 : decode cX4_addCar 10 = .ok (.ireturn, 1) := by decide +kernel
theorem dX4_addCar_11 : decode cX4_addCar 11 = .ok (.iconst 5, 1) := by decide +kernel
theorem dX4_addCar_12 : decode cX4_addCar 12 = .ok (.aload_n 0, 1) := by decide +kernel
theorem dX4_addCar_13 : decode cX4_addCar 13 = .ok (.getfield 21, 3) := by decide +kernel
theorem dX4_addCar_16 : decode cX4_addCar 16 = .ok (.imul, 1) := by decide +kernel
theorem dX4_addCar_17 : decode cX4_addCar 17 = .ok (.istore 6, 2) := by decide +kernel
theorem dX4_addCar_19 : decode cX4_addCar 19 = .ok (.aload_n 0, 1) := by decide +kernel
theorem dX4_addCar_20 : decode cX4_addCar 20 = .ok (.getfield 11, 3) := by decide +kernel
theorem dX4_addCar_23 : decode cX4_addCar 23 = .ok (.iload 6, 2) := by decide +kernel
theorem dX4_addCar_25 : decode cX4_addCar 25 = .ok (.iload_n 1, 1) := by decide +kernel
theorem dX4_addCar_26 : decode cX4_addCar 26 = .ok (.iastore, 1) := by decide +kernel
theorem dX4_addCar_27 : decode cX4_addCar 27 = .ok (.aload_n 0, 1) := by decide +kernel
theorem dX4_addCar_28 : decode cX4_addCar 28 = .ok (.getfield 11, 3) := by decide +kernel
theorem dX4_addCar_31 : decode cX4_addCar 31 = .ok (.iload 6, 2) := by decide +kernel
theorem dX4_addCar_33 : decode cX4_addCar 33 = .ok (.iconst 1, 1) := by decide +kernel
theorem dX4_addCar_34 : decode cX4_addCar 34 = .ok (.iadd, 1) := by decide +kernel
theorem dX4_addCar_35 : decode cX4_addCar 35 = .ok (.iload_n 2, 1) := by decide +kernel
theorem dX4_addCar_36 : decode cX4_addCar 36 = .ok (.iastore, 1) := by decide +kernel
theorem dX4_addCar_37 : decode cX4_addCar 37 = .ok (.aload_n 0, 1) := by decide +kernel
theorem dX4_addCar_38 : decode cX4_addCar 38 = .ok (.getfield 11, 3) := by decide +kernel
theorem dX4_addCar_4 : decode cX4_addCar 4 = .ok (.bipush 20, 2) := by decide +kernel
theorem dX4_addCar_41 : decode cX4_addCar 41 = .ok (.iload 6, 2) := by decide +kernel
theorem dX4_addCar_43 : decode cX4_addCar 43 = .ok (.iconst 2, 1) := by decide +kernel
theorem dX4_addCar_44 : decode cX4_addCar 44 = .ok (.iadd, 1) := by decide +kernel
theorem dX4_addCar_45 : decode cX4_addCar 45 = .ok (.iload_n 3, 1) := by decide +kernel
theorem dX4_addCar_46 : decode cX4_addCar 46 = .ok (.iastore, 1) := by decide +kernel
theorem dX4_addCar_47 : decode cX4_addCar 47 = .ok (.aload_n 0, 1) := by decide +kernel
theorem dX4_addCar_48 : decode cX4_addCar 48 = .ok (.getfield 11, 3) := by decide +kernel
theorem dX4_addCar_51 : decode cX4_addCar 51 = .ok (.iload 6, 2) := by decide +kernel
theorem dX4_addCar_53 : decode cX4_addCar 53 = .ok (.iconst 3, 1) := by decide +kernel
theorem dX4_addCar_54 : decode cX4_addCar 54 = .ok (.iadd, 1) := by decide +kernel
theorem dX4_addCar_55 : decode cX4_addCar 55 = .ok (.iload 4, 2) := by decide +kernel
theorem dX4_addCar_57 : decode cX4_addCar 57 = .ok (.iastore, 1) := by decide +kernel
theorem dX4_addCar_58 : decode cX4_addCar 58 = .ok (.aload_n 0, 1) := by decide +kernel
theorem dX4_addCar_59 : decode cX4_addCar 59 = .ok (.getfield 11, 3) := by decide +kernel
theorem dX4_addCar_6 : decode cX4_addCar 6 = .ok (.if_icmp .ne 5, 3) := by decide +kernel
theorem dX4_addCar_62 : decode cX4_addCar 62 = .ok (.iload 6, 2) := by decide +kernel
theorem dX4_addCar_64 : decode cX4_addCar 64 = .ok (.iconst 4, 1) := by decide +kernel
theorem dX4_addCar_65 : decode cX4_addCar 65 = .ok (.iadd, 1) := by decide +kernel
theorem dX4_addCar_66 : decode cX4_addCar 66 = .ok (.iload 5, 2) := by decide +kernel
theorem dX4_addCar_68 : decode cX4_addCar 68 = .ok (.iastore, 1) := by decide +kernel
theorem dX4_addCar_69 : decode cX4_addCar 69 = .ok (.aload_n 0, 1) := by decide +kernel
theorem dX4_addCar_70 : decode cX4_addCar 70 = .ok (.dup, 1) := by decide +kernel
theorem dX4_addCar_71 : decode cX4_addCar 71 = .ok (.getfield 21, 3) := by decide +kernel
theorem dX4_addCar_74 : decode cX4_addCar 74 = .ok (.iconst 1, 1) := by decide +kernel
theorem dX4_addCar_75 : decode cX4_addCar 75 = .ok (.iadd, 1) := by decide +kernel
theorem dX4_addCar_76 : decode cX4_addCar 76 = .ok (.putfield 21, 3) := by decide +kernel
theorem dX4_addCar_79 : decode cX4_addCar 79 = .ok (.aload_n 0, 1) := by decide +kernel
theorem dX4_addCar_80 : decode cX4_addCar 80 = .ok (.getfield 21, 3) := by decide +kernel
theorem dX4_addCar_83 : decode cX4_addCar 83 = .ok (.ireturn, 1) := by decide +kernel
theorem dX4_addCar_9 : decode cX4_addCar 9 = .ok (.iconst (-1), 1) := by decide +kernel
theorem dX4_addDip_0 : decode cX4_addDip 0 = .ok (.aload_n 0, 1) := by decide +kernel
theorem dX4_addDip_1 : decode cX4_addDip 1 = .ok (.getfield 25, 3) := by decide +kernel
theorem dX4_addDip_10 : decode cX4_addDip 10 = .ok (.ireturn, 1) := by decide +kernel
theorem dX4_addDip_11 : decode cX4_addDip 11 = .ok (.iconst 3, 1) := by decide +kernel
theorem dX4_addDip_12 : decode cX4_addDip 12 = .ok (.aload_n 0, 1) := by decide +kernel
theorem dX4_addDip_13 : decode cX4_addDip 13 = .ok (.getfield 25, 3) := by decide +kernel
theorem dX4_addDip_16 : decode cX4_addDip 16 = .ok (.imul, 1) := by decide +kernel
theorem dX4_addDip_17 : decode cX4_addDip 17 = .ok (.istore 4, 2) := by decide +kernel
theorem dX4_addDip_19 : decode cX4_addDip 19 = .ok (.aload_n 0, 1) := by decide +kernel
theorem dX4_addDip_20 : decode cX4_addDip 20 = .ok (.getfield 15, 3) := by decide +kernel
theorem dX4_addDip_23 : decode cX4_addDip 23 = .ok (.iload 4, 2) := by decide +kernel
theorem dX4_addDip_25 : decode cX4_addDip 25 = .ok (.iload_n 1, 1) := by decide +kernel
theorem dX4_addDip_26 : decode cX4_addDip 26 = .ok (.iastore, 1) := by decide +kernel
theorem dX4_addDip_27 : decode cX4_addDip 27 = .ok (.aload_n 0, 1) := by decide +kernel
theorem dX4_addDip_28 : decode cX4_addDip 28 = .ok (.getfield 15, 3) := by decide +kernel
theorem dX4_addDip_31 : decode cX4_addDip 31 = .ok (.iload 4, 2) := by decide +kernel
theorem dX4_addDip_33 : decode cX4_addDip 33 = .ok (.iconst 1, 1) := by decide +kernel
theorem dX4_addDip_34 : decode cX4_addDip 34 = .ok (.iadd, 1) := by decide +kernel
theorem dX4_addDip_35 : decode cX4_addDip 35 = .ok (.iload_n 2, 1) := by decide +kernel
theorem dX4_addDip_36 : decode cX4_addDip 36 = .ok (.iastore, 1) := by decide +kernel
theorem dX4_addDip_37 : decode cX4_addDip 37 = .ok (.aload_n 0, 1) := by decide +kernel
theorem dX4_addDip_38 : decode cX4_addDip 38 = .ok (.getfield 15, 3) := by decide +kernel
theorem dX4_addDip_4 : decode cX4_addDip 4 = .ok (.bipush 9, 2) := by decide +kernel
theorem dX4_addDip_41 : decode cX4_addDip 41 = .ok (.iload 4, 2) := by decide +kernel
theorem dX4_addDip_43 : decode cX4_addDip 43 = .ok (.iconst 2, 1) := by decide +kernel
theorem dX4_addDip_44 : decode cX4_addDip 44 = .ok (.iadd, 1) := by decide +kernel
theorem dX4_addDip_45 : decode cX4_addDip 45 = .ok (.iload_n 3, 1) := by decide +kernel
theorem dX4_addDip_46 : decode cX4_addDip 46 = .ok (.iastore, 1) := by decide +kernel
theorem dX4_addDip_47 : decode cX4_addDip 47 = .ok (.aload_n 0, 1) := by decide +kernel
theorem dX4_addDip_48 : decode cX4_addDip 48 = .ok (.dup, 1) := by decide +kernel
theorem dX4_addDip_49 : decode cX4_addDip 49 = .ok (.getfield 25, 3) := by decide +kernel
theorem dX4_addDip_52 : decode cX4_addDip 52 = .ok (.iconst 1, 1) := by decide +kernel
theorem dX4_addDip_53 : decode cX4_addDip 53 = .ok (.iadd, 1) := by decide +kernel
theorem dX4_addDip_54 : decode cX4_addDip 54 = .ok (.putfield 25, 3) := by decide +kernel
theorem dX4_addDip_57 : decode cX4_addDip 57 = .ok (.aload_n 0, 1) := by decide +kernel
theorem dX4_addDip_58 : decode cX4_addDip 58 = .ok (.getfield 25, 3) := by decide +kernel
theorem dX4_addDip_6 : decode cX4_addDip 6 = .ok (.if_icmp .ne 5, 3) := by decide +kernel
theorem dX4_addDip_61 : decode cX4_addDip 61 = .ok (.ireturn, 1) := by decide +kernel
theorem dX4_addDip_9 : decode cX4_addDip 9 = .ok (.iconst (-1), 1) := by decide +kernel
theorem dX5_add_0 : decode cX5_add 0 = .ok (.iconst 0, 1) := by decide +kernel
theorem dX5_add_1 : decode cX5_add 1 = .ok (.istore_n 3, 1) := by decide +kernel
theorem dX5_add_11 : decode cX5_add 11 = .ok (.aload_n 0, 1) := by decide +kernel
theorem dX5_add_12 : decode cX5_add 12 = .ok (.getfield 9, 3) := by decide +kernel
theorem dX5_add_15 : decode cX5_add 15 = .ok (.arraylength, 1) := by decide +kernel
theorem dX5_add_16 : decode cX5_add 16 = .ok (.if_icmp .ge 29, 3) := by decide +kernel
theorem dX5_add_19 : decode cX5_add 19 = .ok (.aload_n 0, 1) := by decide +kernel
theorem dX5_add_2 : decode cX5_add 2 = .ok (.iload_n 3, 1) := by decide +kernel
theorem dX5_add_20 : decode cX5_add 20 = .ok (.getfield 9, 3) := by decide +kernel
theorem dX5_add_23 : decode cX5_add 23 = .ok (.aload_n 0, 1) := by decide +kernel
theorem dX5_add_24 : decode cX5_add 24 = .ok (.getfield 13, 3) := by decide +kernel
theorem dX5_add_27 : decode cX5_add 27 = .ok (.iload_n 1, 1) := by decide +kernel
theorem dX5_add_28 : decode cX5_add 28 = .ok (.iastore, 1) := by decide +kernel
theorem dX5_add_29 : decode cX5_add 29 = .ok (.aload_n 0, 1) := by decide +kernel
theorem dX5_add_3 : decode cX5_add 3 = .ok (.iload_n 2, 1) := by decide +kernel
theorem dX5_add_30 : decode cX5_add 30 = .ok (.dup, 1) := by decide +kernel
theorem dX5_add_31 : decode cX5_add 31 = .ok (.getfield 13, 3) := by decide +kernel
theorem dX5_add_34 : decode cX5_add 34 = .ok (.iconst 1, 1) := by decide +kernel
theorem dX5_add_35 : decode cX5_add 35 = .ok (.iadd, 1) := by decide +kernel
theorem dX5_add_36 : decode cX5_add 36 = .ok (.putfield 13, 3) := by decide +kernel
theorem dX5_add_39 : decode cX5_add 39 = .ok (.iinc 3 1, 3) := by decide +kernel
theorem dX5_add_4 : decode cX5_add 4 = .ok (.if_icmp .ge 41, 3) := by decide +kernel
theorem dX5_add_42 : decode cX5_add 42 = .ok (.goto (-40), 3) := by decide +kernel
theorem dX5_add_45 : decode cX5_add 45 = .ok (.return_, 1) := by decide +kernel
theorem dX5_add_7 : decode cX5_add 7 = .ok (.aload_n 0, 1) := by decide +kernel
theorem dX5_add_8 : decode cX5_add 8 = .ok (.getfield 13, 3) := by decide +kernel
def vs_s_radd : List Cond := .code yX5_add cX5_add 4 none :: (([.fieldLink RX5 13 "KerbSplash$Rain" "minutes" "I", .fieldLink RX5 9 "KerbSplash$Rain" "falls" "[I"] : List Cond) ++ ((wsX50) ++ ([])))
theorem gd_s_radd : vs_s_radd.all goodWord = true := gd_C (by decide +kernel) (gd_A (by decide +kernel) (gd_A (by decide +kernel) rfl))
set_option maxHeartbeats 4000000 in
set_option maxRecDepth 100000 in
theorem s_radd (l : Launch) (hl : l.stackTraces = false) (D : va_G) (cy : Nat → ClassId) (sa : Nat → Nat) (ra rf : Nat) (mi f t : Int) (ff : Nat → Int32) (sz : Nat) (hr_mi : 0 ≤ mi ∧ mi ≤ 240) (hr_f : 0 ≤ f ∧ f ≤ 20) (hr_t : (-2147483648) ≤ t ∧ t ≤ 2147483647) (hff : inv_ 240 0 20 ff) : mV9 l yX5_add vs_s_radd ({ frames := 0, cells := 0, slots := 0, locals := 0 }) D cy sa sz [vR ra, vI f, vI t] [zO ra 5 [vR rf, vI mi], zI rf (cy 0) 240 ff] (fun u : SV => (0 ≤ u.2.1 0 ∧ u.2.1 0 ≤ 240) ∧ inv_ 240 0 20 (u.2.2 0)) (fun u : SV => [zO ra 5 [vR rf, vI (u.2.1 0)], zI rf (cy 0) 240 (u.2.2 0)]) 0 0 := by
  refine Met.ofW (cc := cX5_add) (maxL := 4) (ret := none) (by decide) rfl ?_
  intro p e s m args below meth c s₁ B hml hv
  obtain ⟨rfl, hsz, hP, hG, hD0, hT⟩ := hv
  have hx := B.exec
  have hb := B.bytes
  have hr := B.returns
  have hts := atoms_spec (ws := vs_s_radd) B.pre
  have hown : s.vm.findClass RX5 = some m.cls := findClass_of_methodNamed B.named
  have hlocks := B.notSynchronized
  subst hsz
  have hD := hD0.self (sz := s.heap.size)
  generalize hAe : va_A [zO ra 5 [vR rf, vI mi], zI rf (cy 0) 240 ff] s.heap.size = A at hD hT ⊢
  have hA : ∀ q : Nat, s.heap.size ≤ q → A q := fun q h => by rw [← hAe]; exact Or.inr h
  have hS : va_S A s.heap s.heap [] := va_S.rf
  have hl0 := lv_entry ([vR ra, vI f, vI t]) (n := 4) (Nat.le_of_ble_eq_true rfl)
  rw [lg_entry_eq]
  generalize (lg_sl ([vR ra, vI f, vI t]) ++ List.replicate (4 - (lg_sl ([vR ra, vI f, vI t])).length) Slot.unset).toArray = ls at hl0 ⊢
  have hlv : lv_has ls 4 [(0, vR ra), (1, vI f), (2, vI t)] := hl0
  have lf13 := hts (.fieldLink RX5 13 "KerbSplash$Rain" "minutes" "I") (List.mem_of_getElem? (i := 1) rfl)
  have hi5 : ∀ w ∈ wsX50, w ∈ vs_s_radd := fun w h => List.mem_cons_of_mem _ (List.mem_append_right _ (List.mem_append_left _ h))
  have lf9 := hts (.fieldLink RX5 9 "KerbSplash$Rain" "falls" "[I") (List.mem_of_getElem? (i := 2) rfl)
  refine lv_iconst (v := iI 0) hx hb dX5_add_0 (by decide) ?_
  refine lv_istore_n (lv' := [(3, vI 0), (0, vR ra), (1, vI f), (2, vI t)]) hx hb dX5_add_1 rfl hlv (by decide) rfl (fun ls hlv => ?_)
  refine (?_ : ∀ (fu : Nat) (x : Int) (y : Int) (fg : Nat → Int32) (H : Heap) (locs : List Loc) (ls : Array Slot), 240 - y < (fu : Int) → (0 ≤ x ∧ x ≤ 240) → (0 ≤ y ∧ y ≤ 240) → (x ≤ y) → inv_ 240 0 20 fg → va_P D vwCl [zO ra 5 [vR rf, vI y], zI rf (cy 0) 240 fg] H → va_D A [zO ra 5 [vR rf, vI y], zI rf (cy 0) 240 fg] → va_S A s.heap H locs → lv_has ls 4 [(3, vI x), (0, vR ra), (1, vI f), (2, vI t)] → W p l e _ s m _ below meth c H locs _ _ _ (F0 m 2 ls [])) (((240 - mi) + 1 : Int)).toNat 0 mi ff _ _ _ (by omega) (by show (0 : Int) ≤ 0 ∧ (0 : Int) ≤ 240; decide) (by first | exact hr_mi | omega) (by omega) hff hP hD hS hlv
  clear hP hD hS hlv
  intro fu
  induction fu with
  | zero => intro x y fg H locs ls hm2 hl2_0 hl2_1 hl2_2 hifg hP hD hS hlv; omega
  | succ fu ih2 =>
    intro x y fg H locs ls hm2 hl2_0 hl2_1 hl2_2 hifg hP hD hS hlv
    refine lv_iload_n hx hb dX5_add_2 rfl (lv_at hlv 0 rfl) ?_
    refine lv_iload_n hx hb dX5_add_3 rfl (lv_at hlv 3 rfl) ?_
    refine ir_ge (tgt := 45) hx hb dX5_add_4 (by decide) (by first | exact rgw hl2_0 (by decide) (by decide) | omega) (by first | exact hr_t | omega) (fun c_1 => ?_) (fun c_1 => ?_)
    · refine W.widen (k := 0) (n := 0) (Nat.le_of_ble_eq_true rfl) (Nat.le_of_ble_eq_true rfl) ?_
      exact W.vret hx hb hr (fun t ht hW => ⟨⟨((fun k => ([] : List Nat).getD k 0), (fun k => ([y] : List Int).getD k 0), (fun k => ([fg] : List (Nat → Int32)).getD k (fun _ => 0))), rfl, ⟨(by show (0 ≤ y ∧ y ≤ 240); first | exact hl2_1 | omega), hifg⟩, at9 ht hP hD [0, 1] (by decide +kernel) rfl⟩, hS.F ht⟩) hS.2.2 dX5_add_45
    · refine lv_aload_n hx hb dX5_add_7 rfl (lv_at hlv 1 rfl) ?_
      refine va_get (D := D) (ci := 5) (v := vI y) (C := RX5) (T := TX5) (N := 2) hx hb hts hi5 hown hG.1 hP 0 rfl rfl 1 (by decide) lf13 (fun _ h9 => h9) rfl dX5_add_8 ?_
      refine lv_aload_n hx hb dX5_add_11 rfl (lv_at hlv 1 rfl) ?_
      refine va_get (D := D) (ci := 5) (v := vR rf) (C := RX5) (T := TX5) (N := 2) hx hb hts hi5 hown hG.1 hP 0 rfl rfl 0 (by decide) lf9 (fun _ h9 => h9) rfl dX5_add_12 ?_
      refine va_alen (v := iI 240) hx hb hG.1 hP 1 0 rfl rfl (iI_nI _) dX5_add_15 ?_
      refine ir_ge (tgt := 45) hx hb dX5_add_16 (by decide) (by first | exact rgw hl2_1 (by decide) (by decide) | omega) (by show ((-2147483648) : Int) ≤ 240 ∧ (240 : Int) ≤ 2147483647; decide) (fun c_2 => ?_) (fun c_2 => ?_)
      · refine W.widen (k := 0) (n := 0) (Nat.le_of_ble_eq_true rfl) (Nat.le_of_ble_eq_true rfl) ?_
        exact W.vret hx hb hr (fun t ht hW => ⟨⟨((fun k => ([] : List Nat).getD k 0), (fun k => ([y] : List Int).getD k 0), (fun k => ([fg] : List (Nat → Int32)).getD k (fun _ => 0))), rfl, ⟨(by show (0 ≤ y ∧ y ≤ 240); first | exact hl2_1 | omega), hifg⟩, at9 ht hP hD [0, 1] (by decide +kernel) rfl⟩, hS.F ht⟩) hS.2.2 dX5_add_45
      · refine lv_aload_n hx hb dX5_add_19 rfl (lv_at hlv 1 rfl) ?_
        refine va_get (D := D) (ci := 5) (v := vR rf) (C := RX5) (T := TX5) (N := 2) hx hb hts hi5 hown hG.1 hP 0 rfl rfl 0 (by decide) lf9 (fun _ h9 => h9) rfl dX5_add_20 ?_
        refine lv_aload_n hx hb dX5_add_23 rfl (lv_at hlv 1 rfl) ?_
        refine va_get (D := D) (ci := 5) (v := vI y) (C := RX5) (T := TX5) (N := 2) hx hb hts hi5 hown hG.1 hP 0 rfl rfl 1 (by decide) lf13 (fun _ h9 => h9) rfl dX5_add_24 ?_
        refine lv_iload_n hx hb dX5_add_27 rfl (lv_at hlv 2 rfl) ?_
        refine va_iast hx hb hG.1 hP hD hS 1 0 rfl rfl (iI_in (by omega) (by decide)) dX5_add_28 (fun H locs hP hD hS => ?_)
        obtain ⟨f_3, hf_3, hP, hD⟩ := pe9i (fun f_3 => inv_ 240 0 20 f_3) (fun f_3 => [zO ra 5 [vR rf, vI y], zI rf (cy 0) 240 f_3]) (inv_wr hifg (by omega)) hP hD
        refine lv_aload_n hx hb dX5_add_29 rfl (lv_at hlv 1 rfl) ?_
        refine lv_dup hx hb dX5_add_30 rfl ?_
        refine va_get (D := D) (ci := 5) (v := vI y) (C := RX5) (T := TX5) (N := 2) hx hb hts hi5 hown hG.1 hP 0 rfl rfl 1 (by decide) lf13 (fun _ h9 => h9) rfl dX5_add_31 ?_
        refine lv_iconst (v := iI 1) hx hb dX5_add_34 (by decide) ?_
        refine lv_iadd hx hb dX5_add_35 ?_
        refine lt_e (e0 := y + 1) (Int32.ofInt_add _ _).symm (fun z_4 hz_4 => ?_)
        refine va_put (D := D) (ci := 5) (v := vI z_4) (ty := .int) (C := RX5) (T := TX5) (N := 2) hx hb hts hi5 tyX5 tyX5_ok nmX5 hown hG.1 hP hD hS 0 rfl rfl 1 (by decide) lf13 (fun _ h9 => h9) rfl (by decide +kernel) rfl rfl (Nat.le_of_ble_eq_true rfl) dX5_add_36 (fun H locs hP hD hS => ?_)
        obtain ⟨hP, hD⟩ := pw9 [zO ra 5 [vR rf, vI z_4], zI rf (cy 0) 240 f_3] hP hD
        obtain ⟨z_5, hz_5⟩ : ∃ z : Int, z = x + 1 := ⟨_, rfl⟩
        refine lv_iinc (v := iI z_5) (lv' := [(3, vI z_5), (0, vR ra), (1, vI f), (2, vI t)]) hx hb dX5_add_39 hlv (k := 0) rfl (by rw [hz_5]; exact (Int32.ofInt_add _ _).symm) (by decide) rfl (fun ls hlv => ?_)
        refine lv_goto (tgt := 2) hx hb dX5_add_42 (by decide) ?_
        exact ih2 z_5 z_4 f_3 H locs ls (by omega) (by omega) (by omega) (by omega) hf_3 (hP.sub [0, 1] rfl) (hD.sub [0, 1] (by decide) rfl) hS (lv_sub hlv [0, 1, 2, 3] rfl)
end
section
theorem dX1_add_0 : decode cX1_add 0 = .ok (.aload_n 0, 1) := by decide +kernel
theorem dX1_add_1 : decode cX1_add 1 = .ok (.getfield 23, 3) := by decide +kernel
theorem dX1_add_12 : decode cX1_add 12 = .ok (.aload_n 0, 1) := by decide +kernel
theorem dX1_add_13 : decode cX1_add 13 = .ok (.getfield 11, 3) := by decide +kernel
theorem dX1_add_16 : decode cX1_add 16 = .ok (.aload_n 0, 1) := by decide +kernel
theorem dX1_add_17 : decode cX1_add 17 = .ok (.getfield 23, 3) := by decide +kernel
theorem dX1_add_20 : decode cX1_add 20 = .ok (.iload_n 2, 1) := by decide +kernel
theorem dX1_add_21 : decode cX1_add 21 = .ok (.iconst 4, 1) := by decide +kernel
theorem dX1_add_22 : decode cX1_add 22 = .ok (.ishl, 1) := by decide +kernel
theorem dX1_add_23 : decode cX1_add 23 = .ok (.iload_n 1, 1) := by decide +kernel
theorem dX1_add_24 : decode cX1_add 24 = .ok (.ior, 1) := by decide +kernel
theorem dX1_add_25 : decode cX1_add 25 = .ok (.iastore, 1) := by decide +kernel
theorem dX1_add_26 : decode cX1_add 26 = .ok (.aload_n 0, 1) := by decide +kernel
theorem dX1_add_27 : decode cX1_add 27 = .ok (.dup, 1) := by decide +kernel
theorem dX1_add_28 : decode cX1_add 28 = .ok (.getfield 23, 3) := by decide +kernel
theorem dX1_add_31 : decode cX1_add 31 = .ok (.iconst 1, 1) := by decide +kernel
theorem dX1_add_32 : decode cX1_add 32 = .ok (.iadd, 1) := by decide +kernel
theorem dX1_add_33 : decode cX1_add 33 = .ok (.putfield 23, 3) := by decide +kernel
theorem dX1_add_36 : decode cX1_add 36 = .ok (.aload_n 0, 1) := by decide +kernel
theorem dX1_add_37 : decode cX1_add 37 = .ok (.getfield 23, 3) := by decide +kernel
theorem dX1_add_4 : decode cX1_add 4 = .ok (.aload_n 0, 1) := by decide +kernel
theorem dX1_add_40 : decode cX1_add 40 = .ok (.iconst 1, 1) := by decide +kernel
theorem dX1_add_41 : decode cX1_add 41 = .ok (.isub, 1) := by decide +kernel
theorem dX1_add_42 : decode cX1_add 42 = .ok (.ireturn, 1) := by decide +kernel
theorem dX1_add_5 : decode cX1_add 5 = .ok (.getfield 11, 3) := by decide +kernel
theorem dX1_add_8 : decode cX1_add 8 = .ok (.arraylength, 1) := by decide +kernel
theorem dX1_add_9 : decode cX1_add 9 = .ok (.if_icmp .ge 27, 3) := by decide +kernel
theorem dX1_aim_0 : decode cX1_aim 0 = .ok (.iload_n 1, 1) := by decide +kernel
theorem dX1_aim_1 : decode cX1_aim 1 = .ok (.ifCond .lt 33, 3) := by decide +kernel
theorem dX1_aim_12 : decode cX1_aim 12 = .ok (.aload_n 0, 1) := by decide +kernel
theorem dX1_aim_13 : decode cX1_aim 13 = .ok (.getfield 11, 3) := by decide +kernel
theorem dX1_aim_16 : decode cX1_aim 16 = .ok (.iload_n 1, 1) := by decide +kernel
theorem dX1_aim_17 : decode cX1_aim 17 = .ok (.aload_n 0, 1) := by decide +kernel
theorem dX1_aim_18 : decode cX1_aim 18 = .ok (.getfield 23, 3) := by decide +kernel
theorem dX1_aim_21 : decode cX1_aim 21 = .ok (.iconst 4, 1) := by decide +kernel
theorem dX1_aim_22 : decode cX1_aim 22 = .ok (.ishl, 1) := by decide +kernel
theorem dX1_aim_23 : decode cX1_aim 23 = .ok (.aload_n 0, 1) := by decide +kernel
theorem dX1_aim_24 : decode cX1_aim 24 = .ok (.getfield 11, 3) := by decide +kernel
theorem dX1_aim_27 : decode cX1_aim 27 = .ok (.iload_n 1, 1) := by decide +kernel
theorem dX1_aim_28 : decode cX1_aim 28 = .ok (.iaload, 1) := by decide +kernel
theorem dX1_aim_29 : decode cX1_aim 29 = .ok (.bipush 15, 2) := by decide +kernel
theorem dX1_aim_31 : decode cX1_aim 31 = .ok (.iand, 1) := by decide +kernel
theorem dX1_aim_32 : decode cX1_aim 32 = .ok (.ior, 1) := by decide +kernel
theorem dX1_aim_33 : decode cX1_aim 33 = .ok (.iastore, 1) := by decide +kernel
theorem dX1_aim_34 : decode cX1_aim 34 = .ok (.return_, 1) := by decide +kernel
theorem dX1_aim_4 : decode cX1_aim 4 = .ok (.iload_n 1, 1) := by decide +kernel
theorem dX1_aim_5 : decode cX1_aim 5 = .ok (.aload_n 0, 1) := by decide +kernel
theorem dX1_aim_6 : decode cX1_aim 6 = .ok (.getfield 23, 3) := by decide +kernel
theorem dX1_aim_9 : decode cX1_aim 9 = .ok (.if_icmp .ge 25, 3) := by decide +kernel
theorem dX1_joined_0 : decode cX1_joined 0 = .ok (.iload_n 0, 1) := by decide +kernel
theorem dX1_joined_1 : decode cX1_joined 1 = .ok (.tableswitch 108 2 9 #[47, 51, 55, 59, 71, 82, 93, 104], 47) := by decide +kernel
theorem dX1_joined_100 : decode cX1_joined 100 = .ok (.goto 4, 3) := by decide +kernel
theorem dX1_joined_103 : decode cX1_joined 103 = .ok (.iconst 0, 1) := by decide +kernel
theorem dX1_joined_104 : decode cX1_joined 104 = .ok (.ireturn, 1) := by decide +kernel
theorem dX1_joined_105 : decode cX1_joined 105 = .ok (.iload_n 1, 1) := by decide +kernel
theorem dX1_joined_106 : decode cX1_joined 106 = .ok (.iload_n 2, 1) := by decide +kernel
theorem dX1_joined_107 : decode cX1_joined 107 = .ok (.iand, 1) := by decide +kernel
theorem dX1_joined_108 : decode cX1_joined 108 = .ok (.ireturn, 1) := by decide +kernel
theorem dX1_joined_109 : decode cX1_joined 109 = .ok (.iload_n 1, 1) := by decide +kernel
theorem dX1_joined_110 : decode cX1_joined 110 = .ok (.iload_n 2, 1) := by decide +kernel
theorem dX1_joined_111 : decode cX1_joined 111 = .ok (.ior, 1) := by decide +kernel
theorem dX1_joined_112 : decode cX1_joined 112 = .ok (.ireturn, 1) := by decide +kernel
theorem dX1_joined_48 : decode cX1_joined 48 = .ok (.iload_n 1, 1) := by decide +kernel
theorem dX1_joined_49 : decode cX1_joined 49 = .ok (.iload_n 2, 1) := by decide +kernel
theorem dX1_joined_50 : decode cX1_joined 50 = .ok (.iadd, 1) := by decide +kernel
theorem dX1_joined_51 : decode cX1_joined 51 = .ok (.ireturn, 1) := by decide +kernel
theorem dX1_joined_52 : decode cX1_joined 52 = .ok (.iload_n 1, 1) := by decide +kernel
theorem dX1_joined_53 : decode cX1_joined 53 = .ok (.iload_n 2, 1) := by decide +kernel
theorem dX1_joined_54 : decode cX1_joined 54 = .ok (.isub, 1) := by decide +kernel
theorem dX1_joined_55 : decode cX1_joined 55 = .ok (.ireturn, 1) := by decide +kernel
theorem dX1_joined_56 : decode cX1_joined 56 = .ok (.iload_n 1, 1) := by decide +kernel
theorem dX1_joined_57 : decode cX1_joined 57 = .ok (.iload_n 2, 1) := by decide +kernel
theorem dX1_joined_58 : decode cX1_joined 58 = .ok (.imul, 1) := by decide +kernel
theorem dX1_joined_59 : decode cX1_joined 59 = .ok (.ireturn, 1) := by decide +kernel
theorem dX1_joined_60 : decode cX1_joined 60 = .ok (.iload_n 2, 1) := by decide +kernel
theorem dX1_joined_61 : decode cX1_joined 61 = .ok (.ifCond .ne 7, 3) := by decide +kernel
theorem dX1_joined_64 : decode cX1_joined 64 = .ok (.iconst 0, 1) := by decide +kernel
theorem dX1_joined_65 : decode cX1_joined 65 = .ok (.goto 6, 3) := by decide +kernel
theorem dX1_joined_68 : decode cX1_joined 68 = .ok (.iload_n 1, 1) := by decide +kernel
theorem dX1_joined_69 : decode cX1_joined 69 = .ok (.iload_n 2, 1) := by decide +kernel
theorem dX1_joined_70 : decode cX1_joined 70 = .ok (.idiv, 1) := by decide +kernel
theorem dX1_joined_71 : decode cX1_joined 71 = .ok (.ireturn, 1) := by decide +kernel
theorem dX1_joined_72 : decode cX1_joined 72 = .ok (.iload_n 1, 1) := by decide +kernel
theorem dX1_joined_73 : decode cX1_joined 73 = .ok (.iload_n 2, 1) := by decide +kernel
theorem dX1_joined_74 : decode cX1_joined 74 = .ok (.if_icmp .ge 7, 3) := by decide +kernel
theorem dX1_joined_77 : decode cX1_joined 77 = .ok (.iconst 1, 1) := by decide +kernel
theorem dX1_joined_78 : decode cX1_joined 78 = .ok (.goto 4, 3) := by decide +kernel
theorem dX1_joined_81 : decode cX1_joined 81 = .ok (.iconst 0, 1) := by decide +kernel
theorem dX1_joined_82 : decode cX1_joined 82 = .ok (.ireturn, 1) := by decide +kernel
theorem dX1_joined_83 : decode cX1_joined 83 = .ok (.iload_n 1, 1) := by decide +kernel
theorem dX1_joined_84 : decode cX1_joined 84 = .ok (.iload_n 2, 1) := by decide +kernel
theorem dX1_joined_85 : decode cX1_joined 85 = .ok (.if_icmp .le 7, 3) := by decide +kernel
theorem dX1_joined_88 : decode cX1_joined 88 = .ok (.iconst 1, 1) := by decide +kernel
theorem dX1_joined_89 : decode cX1_joined 89 = .ok (.goto 4, 3) := by decide +kernel
theorem dX1_joined_92 : decode cX1_joined 92 = .ok (.iconst 0, 1) := by decide +kernel
theorem dX1_joined_93 : decode cX1_joined 93 = .ok (.ireturn, 1) := by decide +kernel
theorem dX1_joined_94 : decode cX1_joined 94 = .ok (.iload_n 1, 1) := by decide +kernel
theorem dX1_joined_95 : decode cX1_joined 95 = .ok (.iload_n 2, 1) := by decide +kernel
theorem dX1_joined_96 : decode cX1_joined 96 = .ok (.if_icmp .ne 7, 3) := by decide +kernel
theorem dX1_joined_99 : decode cX1_joined 99 = .ok (.iconst 1, 1) := by decide +kernel
def vs_s_ladd : List Cond := .code yX1_add cX1_add 3 (some .int) :: (([.fieldLink RX1 23 "KerbSplash$Law" "size" "I", .fieldLink RX1 11 "KerbSplash$Law" "steps" "[I"] : List Cond) ++ ((wsX10) ++ ([])))
theorem gd_s_ladd : vs_s_ladd.all goodWord = true := gd_C (by decide +kernel) (gd_A (by decide +kernel) (gd_A (by decide +kernel) rfl))
set_option maxHeartbeats 4000000 in
set_option maxRecDepth 100000 in
theorem s_ladd (l : Launch) (hl : l.stackTraces = false) (D : va_G) (cy : Nat → ClassId) (sa : Nat → Nat) (la l0 l2 l3 : Nat) (size : Int) (st : Nat → Int32) (k n : Int) (sz : Nat) (hr_size : 0 ≤ size ∧ size ≤ 600) (hr_k : 0 ≤ k ∧ k ≤ 15) (hr_n : 0 ≤ n ∧ n ≤ 10000) (hst : inv_ 600 0 2147483647 st) : mI9 l yX1_add vs_s_ladd ({ frames := 0, cells := 0, slots := 0, locals := 0 }) D cy sa sz [vR la, vI k, vI n] [zO la 1 [vR l0, vI size, vR l2, vR l3], zI l0 (cy 0) 600 st] (fun (r : Int32) (u : SV) => r = iI (u.2.1 0) ∧ ((-1) ≤ u.2.1 0 ∧ u.2.1 0 ≤ 599) ∧ (0 ≤ u.2.1 1 ∧ u.2.1 1 ≤ 600) ∧ (size ≤ u.2.1 1) ∧ inv_ 600 0 2147483647 (u.2.2 0)) (fun u : SV => [zO la 1 [vR l0, vI (u.2.1 1), vR l2, vR l3], zI l0 (cy 0) 600 (u.2.2 0)]) 0 0 := by
  refine Met.ofW (cc := cX1_add) (maxL := 3) (ret := (some .int)) (by decide) rfl ?_
  intro p e s m args below meth c s₁ B hml hv
  obtain ⟨rfl, hsz, hP, hG, hD0, hT⟩ := hv
  have hx := B.exec
  have hb := B.bytes
  have hr := B.returns
  have hts := atoms_spec (ws := vs_s_ladd) B.pre
  have hown : s.vm.findClass RX1 = some m.cls := findClass_of_methodNamed B.named
  have hlocks := B.notSynchronized
  subst hsz
  have hD := hD0.self (sz := s.heap.size)
  generalize hAe : va_A [zO la 1 [vR l0, vI size, vR l2, vR l3], zI l0 (cy 0) 600 st] s.heap.size = A at hD hT ⊢
  have hA : ∀ q : Nat, s.heap.size ≤ q → A q := fun q h => by rw [← hAe]; exact Or.inr h
  have hS : va_S A s.heap s.heap [] := va_S.rf
  have hl0 := lv_entry ([vR la, vI k, vI n]) (n := 3) (Nat.le_of_ble_eq_true rfl)
  rw [lg_entry_eq]
  generalize (lg_sl ([vR la, vI k, vI n]) ++ List.replicate (3 - (lg_sl ([vR la, vI k, vI n])).length) Slot.unset).toArray = ls at hl0 ⊢
  have hlv : lv_has ls 3 [(0, vR la), (1, vI k), (2, vI n)] := hl0
  have lf23 := hts (.fieldLink RX1 23 "KerbSplash$Law" "size" "I") (List.mem_of_getElem? (i := 1) rfl)
  have hi1 : ∀ w ∈ wsX10, w ∈ vs_s_ladd := fun w h => List.mem_cons_of_mem _ (List.mem_append_right _ (List.mem_append_left _ h))
  have lf11 := hts (.fieldLink RX1 11 "KerbSplash$Law" "steps" "[I") (List.mem_of_getElem? (i := 2) rfl)
  refine lv_aload_n hx hb dX1_add_0 rfl (lv_at hlv 0 rfl) ?_
  refine va_get (D := D) (ci := 1) (v := vI size) (C := RX1) (T := TX1) (N := 4) hx hb hts hi1 hown hG.1 hP 0 rfl rfl 1 (by decide) lf23 (fun _ h9 => h9) rfl dX1_add_1 ?_
  refine lv_aload_n hx hb dX1_add_4 rfl (lv_at hlv 0 rfl) ?_
  refine va_get (D := D) (ci := 1) (v := vR l0) (C := RX1) (T := TX1) (N := 4) hx hb hts hi1 hown hG.1 hP 0 rfl rfl 0 (by decide) lf11 (fun _ h9 => h9) rfl dX1_add_5 ?_
  refine va_alen (v := iI 600) hx hb hG.1 hP 1 0 rfl rfl (iI_nI _) dX1_add_8 ?_
  refine ir_ge (tgt := 36) hx hb dX1_add_9 (by decide) (by first | exact rgw hr_size (by decide) (by decide) | omega) (by show ((-2147483648) : Int) ≤ 600 ∧ (600 : Int) ≤ 2147483647; decide) (fun c_1 => ?_) (fun c_1 => ?_)
  · refine lv_aload_n hx hb dX1_add_36 rfl (lv_at hlv 0 rfl) ?_
    refine va_get (D := D) (ci := 1) (v := vI size) (C := RX1) (T := TX1) (N := 4) hx hb hts hi1 hown hG.1 hP 0 rfl rfl 1 (by decide) lf23 (fun _ h9 => h9) rfl dX1_add_37 ?_
    refine lv_iconst (v := iI 1) hx hb dX1_add_40 (by decide) ?_
    refine lv_isub hx hb dX1_add_41 ?_
    refine lt_e (e0 := size - 1) (Int32.ofInt_sub _ _).symm (fun z_2 hz_2 => ?_)
    refine W.widen (k := 0) (n := 0) (Nat.le_of_ble_eq_true rfl) (Nat.le_of_ble_eq_true rfl) ?_
    exact W.iret (v := iI z_2) hx hb hr (fun t ht hW => ⟨⟨iI z_2, ((fun k => ([] : List Nat).getD k 0), (fun k => ([z_2, size] : List Int).getD k 0), (fun k => ([st] : List (Nat → Int32)).getD k (fun _ => 0))), rfl, ⟨rfl, (by show ((-1) ≤ z_2 ∧ z_2 ≤ 599); omega), (by show (0 ≤ size ∧ size ≤ 600); first | exact hr_size | omega), (by show (size ≤ size); omega), hst⟩, at9 ht hP hD [0, 1] (by decide +kernel) rfl⟩, hS.F ht⟩) hS.2.2 dX1_add_42
  · refine lv_aload_n hx hb dX1_add_12 rfl (lv_at hlv 0 rfl) ?_
    refine va_get (D := D) (ci := 1) (v := vR l0) (C := RX1) (T := TX1) (N := 4) hx hb hts hi1 hown hG.1 hP 0 rfl rfl 0 (by decide) lf11 (fun _ h9 => h9) rfl dX1_add_13 ?_
    refine lv_aload_n hx hb dX1_add_16 rfl (lv_at hlv 0 rfl) ?_
    refine va_get (D := D) (ci := 1) (v := vI size) (C := RX1) (T := TX1) (N := 4) hx hb hts hi1 hown hG.1 hP 0 rfl rfl 1 (by decide) lf23 (fun _ h9 => h9) rfl dX1_add_17 ?_
    refine lv_iload_n hx hb dX1_add_20 rfl (lv_at hlv 2 rfl) ?_
    refine lv_iconst (v := iI 4) hx hb dX1_add_21 (by decide) ?_
    refine lv_ishl hx hb dX1_add_22 ?_
    refine lt_e (e0 := n * 16) (sl_eq 4 (by decide) (by omega)) (fun z_3 hz_3 => ?_)
    refine lv_iload_n hx hb dX1_add_23 rfl (lv_at hlv 1 rfl) ?_
    refine lv_ior hx hb dX1_add_24 ?_
    refine lt_o2 18 (M := 262143) (by decide) (by omega) (by omega) (fun z_4 lz_4 hz_4 => ?_)
    refine va_iast hx hb hG.1 hP hD hS 1 0 rfl rfl (iI_in (by omega) (by decide)) dX1_add_25 (fun H locs hP hD hS => ?_)
    obtain ⟨f_5, hf_5, hP, hD⟩ := pe9i (fun f_5 => inv_ 600 0 2147483647 f_5) (fun f_5 => [zO la 1 [vR l0, vI size, vR l2, vR l3], zI l0 (cy 0) 600 f_5]) (inv_wr hst (by omega)) hP hD
    refine lv_aload_n hx hb dX1_add_26 rfl (lv_at hlv 0 rfl) ?_
    refine lv_dup hx hb dX1_add_27 rfl ?_
    refine va_get (D := D) (ci := 1) (v := vI size) (C := RX1) (T := TX1) (N := 4) hx hb hts hi1 hown hG.1 hP 0 rfl rfl 1 (by decide) lf23 (fun _ h9 => h9) rfl dX1_add_28 ?_
    refine lv_iconst (v := iI 1) hx hb dX1_add_31 (by decide) ?_
    refine lv_iadd hx hb dX1_add_32 ?_
    refine lt_e (e0 := size + 1) (Int32.ofInt_add _ _).symm (fun z_6 hz_6 => ?_)
    refine va_put (D := D) (ci := 1) (v := vI z_6) (ty := .int) (C := RX1) (T := TX1) (N := 4) hx hb hts hi1 tyX1 tyX1_ok nmX1 hown hG.1 hP hD hS 0 rfl rfl 1 (by decide) lf23 (fun _ h9 => h9) rfl (by decide +kernel) rfl rfl (Nat.le_of_ble_eq_true rfl) dX1_add_33 (fun H locs hP hD hS => ?_)
    obtain ⟨hP, hD⟩ := pw9 [zO la 1 [vR l0, vI z_6, vR l2, vR l3], zI l0 (cy 0) 600 f_5] hP hD
    refine lv_aload_n hx hb dX1_add_36 rfl (lv_at hlv 0 rfl) ?_
    refine va_get (D := D) (ci := 1) (v := vI z_6) (C := RX1) (T := TX1) (N := 4) hx hb hts hi1 hown hG.1 hP 0 rfl rfl 1 (by decide) lf23 (fun _ h9 => h9) rfl dX1_add_37 ?_
    refine lv_iconst (v := iI 1) hx hb dX1_add_40 (by decide) ?_
    refine lv_isub hx hb dX1_add_41 ?_
    refine lt_e (e0 := z_6 - 1) (Int32.ofInt_sub _ _).symm (fun z_7 hz_7 => ?_)
    refine W.widen (k := 0) (n := 0) (Nat.le_of_ble_eq_true rfl) (Nat.le_of_ble_eq_true rfl) ?_
    exact W.iret (v := iI z_7) hx hb hr (fun t ht hW => ⟨⟨iI z_7, ((fun k => ([] : List Nat).getD k 0), (fun k => ([z_7, z_6] : List Int).getD k 0), (fun k => ([f_5] : List (Nat → Int32)).getD k (fun _ => 0))), rfl, ⟨rfl, (by show ((-1) ≤ z_7 ∧ z_7 ≤ 599); omega), (by show (0 ≤ z_6 ∧ z_6 ≤ 600); omega), (by show (size ≤ z_6); omega), hf_5⟩, at9 ht hP hD [0, 1] (by decide +kernel) rfl⟩, hS.F ht⟩) hS.2.2 dX1_add_42
def vs_s_aim : List Cond := .code yX1_aim cX1_aim 2 none :: (([.fieldLink RX1 23 "KerbSplash$Law" "size" "I", .fieldLink RX1 11 "KerbSplash$Law" "steps" "[I"] : List Cond) ++ ((wsX10) ++ ([])))
theorem gd_s_aim : vs_s_aim.all goodWord = true := gd_C (by decide +kernel) (gd_A (by decide +kernel) (gd_A (by decide +kernel) rfl))
set_option maxHeartbeats 4000000 in
set_option maxRecDepth 100000 in
theorem s_aim (l : Launch) (hl : l.stackTraces = false) (D : va_G) (cy : Nat → ClassId) (sa : Nat → Nat) (la l0 l2 l3 : Nat) (size : Int) (st : Nat → Int32) (n : Int) (sz : Nat) (hr_size : 0 ≤ size ∧ size ≤ 600) (hr_n : (-2147483648) ≤ n ∧ n ≤ 2147483647) (hst : inv_ 600 0 2147483647 st) : mV9 l yX1_aim vs_s_aim ({ frames := 0, cells := 0, slots := 0, locals := 0 }) D cy sa sz [vR la, vI n] [zO la 1 [vR l0, vI size, vR l2, vR l3], zI l0 (cy 0) 600 st] (fun u : SV => inv_ 600 0 2147483647 (u.2.2 0)) (fun u : SV => [zO la 1 [vR l0, vI size, vR l2, vR l3], zI l0 (cy 0) 600 (u.2.2 0)]) 0 0 := by
  refine Met.ofW (cc := cX1_aim) (maxL := 2) (ret := none) (by decide) rfl ?_
  intro p e s m args below meth c s₁ B hml hv
  obtain ⟨rfl, hsz, hP, hG, hD0, hT⟩ := hv
  have hx := B.exec
  have hb := B.bytes
  have hr := B.returns
  have hts := atoms_spec (ws := vs_s_aim) B.pre
  have hown : s.vm.findClass RX1 = some m.cls := findClass_of_methodNamed B.named
  have hlocks := B.notSynchronized
  subst hsz
  have hD := hD0.self (sz := s.heap.size)
  generalize hAe : va_A [zO la 1 [vR l0, vI size, vR l2, vR l3], zI l0 (cy 0) 600 st] s.heap.size = A at hD hT ⊢
  have hA : ∀ q : Nat, s.heap.size ≤ q → A q := fun q h => by rw [← hAe]; exact Or.inr h
  have hS : va_S A s.heap s.heap [] := va_S.rf
  have hl0 := lv_entry ([vR la, vI n]) (n := 2) (Nat.le_of_ble_eq_true rfl)
  rw [lg_entry_eq]
  generalize (lg_sl ([vR la, vI n]) ++ List.replicate (2 - (lg_sl ([vR la, vI n])).length) Slot.unset).toArray = ls at hl0 ⊢
  have hlv : lv_has ls 2 [(0, vR la), (1, vI n)] := hl0
  have lf23 := hts (.fieldLink RX1 23 "KerbSplash$Law" "size" "I") (List.mem_of_getElem? (i := 1) rfl)
  have hi1 : ∀ w ∈ wsX10, w ∈ vs_s_aim := fun w h => List.mem_cons_of_mem _ (List.mem_append_right _ (List.mem_append_left _ h))
  have lf11 := hts (.fieldLink RX1 11 "KerbSplash$Law" "steps" "[I") (List.mem_of_getElem? (i := 2) rfl)
  refine lv_iload_n hx hb dX1_aim_0 rfl (lv_at hlv 1 rfl) ?_
  refine iz_lt (tgt := 34) hx hb dX1_aim_1 (by decide) (by first | exact hr_n | omega) (fun c_1 => ?_) (fun c_1 => ?_)
  · refine W.widen (k := 0) (n := 0) (Nat.le_of_ble_eq_true rfl) (Nat.le_of_ble_eq_true rfl) ?_
    exact W.vret hx hb hr (fun t ht hW => ⟨⟨((fun k => ([] : List Nat).getD k 0), (fun k => ([] : List Int).getD k 0), (fun k => ([st] : List (Nat → Int32)).getD k (fun _ => 0))), rfl, hst, at9 ht hP hD [0, 1] (by decide +kernel) rfl⟩, hS.F ht⟩) hS.2.2 dX1_aim_34
  · refine lv_iload_n hx hb dX1_aim_4 rfl (lv_at hlv 1 rfl) ?_
    refine lv_aload_n hx hb dX1_aim_5 rfl (lv_at hlv 0 rfl) ?_
    refine va_get (D := D) (ci := 1) (v := vI size) (C := RX1) (T := TX1) (N := 4) hx hb hts hi1 hown hG.1 hP 0 rfl rfl 1 (by decide) lf23 (fun _ h9 => h9) rfl dX1_aim_6 ?_
    refine ir_ge (tgt := 34) hx hb dX1_aim_9 (by decide) (by first | exact hr_n | omega) (by first | exact rgw hr_size (by decide) (by decide) | omega) (fun c_2 => ?_) (fun c_2 => ?_)
    · refine W.widen (k := 0) (n := 0) (Nat.le_of_ble_eq_true rfl) (Nat.le_of_ble_eq_true rfl) ?_
      exact W.vret hx hb hr (fun t ht hW => ⟨⟨((fun k => ([] : List Nat).getD k 0), (fun k => ([] : List Int).getD k 0), (fun k => ([st] : List (Nat → Int32)).getD k (fun _ => 0))), rfl, hst, at9 ht hP hD [0, 1] (by decide +kernel) rfl⟩, hS.F ht⟩) hS.2.2 dX1_aim_34
    · refine lv_aload_n hx hb dX1_aim_12 rfl (lv_at hlv 0 rfl) ?_
      refine va_get (D := D) (ci := 1) (v := vR l0) (C := RX1) (T := TX1) (N := 4) hx hb hts hi1 hown hG.1 hP 0 rfl rfl 0 (by decide) lf11 (fun _ h9 => h9) rfl dX1_aim_13 ?_
      refine lv_iload_n hx hb dX1_aim_16 rfl (lv_at hlv 1 rfl) ?_
      refine lv_aload_n hx hb dX1_aim_17 rfl (lv_at hlv 0 rfl) ?_
      refine va_get (D := D) (ci := 1) (v := vI size) (C := RX1) (T := TX1) (N := 4) hx hb hts hi1 hown hG.1 hP 0 rfl rfl 1 (by decide) lf23 (fun _ h9 => h9) rfl dX1_aim_18 ?_
      refine lv_iconst (v := iI 4) hx hb dX1_aim_21 (by decide) ?_
      refine lv_ishl hx hb dX1_aim_22 ?_
      refine lt_e (e0 := size * 16) (sl_eq 4 (by decide) (by omega)) (fun z_3 hz_3 => ?_)
      refine lv_aload_n hx hb dX1_aim_23 rfl (lv_at hlv 0 rfl) ?_
      refine va_get (D := D) (ci := 1) (v := vR l0) (C := RX1) (T := TX1) (N := 4) hx hb hts hi1 hown hG.1 hP 0 rfl rfl 0 (by decide) lf11 (fun _ h9 => h9) rfl dX1_aim_24 ?_
      refine lv_iload_n hx hb dX1_aim_27 rfl (lv_at hlv 1 rfl) ?_
      refine va_iald hx hb hG.1 hP 1 0 rfl rfl (iI_in (by omega) (by decide)) dX1_aim_28 ?_
      obtain ⟨z_4, ez_4, hz_4, lz_4⟩ := inv_rd hst (e := n) (by omega) (by decide)
      refine lt_i (y := iI z_4) ez_4 ?_
      refine lv_bipush (v := iI 15) hx hb dX1_aim_29 (by decide) ?_
      refine lv_iand hx hb dX1_aim_31 ?_
      refine lt_aE 4 (by decide) (by decide) (hi := 15) (by decide) (fun z_5 ez_5 lz_5 hz_5 => ?_)
      refine lv_ior hx hb dX1_aim_32 ?_
      refine lt_o2 14 (M := 16383) (by decide) (by omega) (by omega) (fun z_6 lz_6 hz_6 => ?_)
      refine va_iast hx hb hG.1 hP hD hS 1 0 rfl rfl (iI_in (by omega) (by decide)) dX1_aim_33 (fun H locs hP hD hS => ?_)
      obtain ⟨f_7, hf_7, hP, hD⟩ := pe9i (fun f_7 => inv_ 600 0 2147483647 f_7) (fun f_7 => [zO la 1 [vR l0, vI size, vR l2, vR l3], zI l0 (cy 0) 600 f_7]) (inv_wr hst (by omega)) hP hD
      refine W.widen (k := 0) (n := 0) (Nat.le_of_ble_eq_true rfl) (Nat.le_of_ble_eq_true rfl) ?_
      exact W.vret hx hb hr (fun t ht hW => ⟨⟨((fun k => ([] : List Nat).getD k 0), (fun k => ([] : List Int).getD k 0), (fun k => ([f_7] : List (Nat → Int32)).getD k (fun _ => 0))), rfl, hf_7, at9 ht hP hD [0, 1] (by decide +kernel) rfl⟩, hS.F ht⟩) hS.2.2 dX1_aim_34
def vs_s_joined : List Cond := .code yX1_joined cX1_joined 3 (some .int) :: (([] : List Cond) ++ ([]))
theorem gd_s_joined : vs_s_joined.all goodWord = true := gd_C (by decide +kernel) (gd_A (by decide +kernel) rfl)
set_option maxHeartbeats 4000000 in
set_option maxRecDepth 100000 in
theorem s_joined (l : Launch) (hl : l.stackTraces = false) (D : va_G) (cy : Nat → ClassId) (sa : Nat → Nat) (k a b : Int) (sz : Nat) (hr_k : 0 ≤ k ∧ k ≤ 15) (hr_a : (-2147483648) ≤ a ∧ a ≤ 2147483647) (hr_b : (-2147483648) ≤ b ∧ b ≤ 2147483647) : mI9 l yX1_joined vs_s_joined ({ frames := 0, cells := 0, slots := 0, locals := 0 }) D cy sa sz [vI k, vI a, vI b] [] (fun (r : Int32) (u : SV) => r = iI (u.2.1 0) ∧ ((-2147483648) ≤ u.2.1 0 ∧ u.2.1 0 ≤ 2147483647)) (fun u : SV => []) 0 0 := by
  refine Met.ofW (cc := cX1_joined) (maxL := 3) (ret := (some .int)) (by decide) rfl ?_
  intro p e s m args below meth c s₁ B hml hv
  obtain ⟨rfl, hsz, hP, hG, hD0, hT⟩ := hv
  have hx := B.exec
  have hb := B.bytes
  have hr := B.returns
  have hts := atoms_spec (ws := vs_s_joined) B.pre
  have hown : s.vm.findClass RX1 = some m.cls := findClass_of_methodNamed B.named
  have hlocks := B.notSynchronized
  subst hsz
  have hD := hD0.self (sz := s.heap.size)
  generalize hAe : va_A [] s.heap.size = A at hD hT ⊢
  have hA : ∀ q : Nat, s.heap.size ≤ q → A q := fun q h => by rw [← hAe]; exact Or.inr h
  have hS : va_S A s.heap s.heap [] := va_S.rf
  have hl0 := lv_entry ([vI k, vI a, vI b]) (n := 3) (Nat.le_of_ble_eq_true rfl)
  rw [lg_entry_eq]
  generalize (lg_sl ([vI k, vI a, vI b]) ++ List.replicate (3 - (lg_sl ([vI k, vI a, vI b])).length) Slot.unset).toArray = ls at hl0 ⊢
  have hlv : lv_has ls 3 [(0, vI k), (1, vI a), (2, vI b)] := hl0
  refine lv_iload_n hx hb dX1_joined_0 rfl (lv_at hlv 0 rfl) ?_
  by_cases k_1 : k = 2
  · refine lt_i (y := iI 2) (by rw [k_1]) ?_
    refine lv_tableIn (tgt := 48) hx hb dX1_joined_1 (by decide) (by decide) rfl (by decide) ?_
    refine lv_iload_n hx hb dX1_joined_48 rfl (lv_at hlv 1 rfl) ?_
    refine lv_iload_n hx hb dX1_joined_49 rfl (lv_at hlv 2 rfl) ?_
    refine lv_iadd hx hb dX1_joined_50 ?_
    refine lt_z (fun z_2 ez_2 lz_2 hz_2 => ?_)
    refine W.widen (k := 0) (n := 0) (Nat.le_of_ble_eq_true rfl) (Nat.le_of_ble_eq_true rfl) ?_
    exact W.iret (v := iI z_2) hx hb hr (fun t ht hW => ⟨⟨iI z_2, ((fun k => ([] : List Nat).getD k 0), (fun k => ([z_2] : List Int).getD k 0), (fun k => ([] : List (Nat → Int32)).getD k (fun _ => 0))), rfl, ⟨rfl, (by show ((-2147483648) ≤ z_2 ∧ z_2 ≤ 2147483647); omega)⟩, at9 ht hP hD [] (by decide +kernel) rfl⟩, hS.F ht⟩) hS.2.2 dX1_joined_51
  by_cases k_3 : k = 3
  · refine lt_i (y := iI 3) (by rw [k_3]) ?_
    refine lv_tableIn (tgt := 52) hx hb dX1_joined_1 (by decide) (by decide) rfl (by decide) ?_
    refine lv_iload_n hx hb dX1_joined_52 rfl (lv_at hlv 1 rfl) ?_
    refine lv_iload_n hx hb dX1_joined_53 rfl (lv_at hlv 2 rfl) ?_
    refine lv_isub hx hb dX1_joined_54 ?_
    refine lt_z (fun z_4 ez_4 lz_4 hz_4 => ?_)
    refine W.widen (k := 0) (n := 0) (Nat.le_of_ble_eq_true rfl) (Nat.le_of_ble_eq_true rfl) ?_
    exact W.iret (v := iI z_4) hx hb hr (fun t ht hW => ⟨⟨iI z_4, ((fun k => ([] : List Nat).getD k 0), (fun k => ([z_4] : List Int).getD k 0), (fun k => ([] : List (Nat → Int32)).getD k (fun _ => 0))), rfl, ⟨rfl, (by show ((-2147483648) ≤ z_4 ∧ z_4 ≤ 2147483647); omega)⟩, at9 ht hP hD [] (by decide +kernel) rfl⟩, hS.F ht⟩) hS.2.2 dX1_joined_55
  by_cases k_5 : k = 4
  · refine lt_i (y := iI 4) (by rw [k_5]) ?_
    refine lv_tableIn (tgt := 56) hx hb dX1_joined_1 (by decide) (by decide) rfl (by decide) ?_
    refine lv_iload_n hx hb dX1_joined_56 rfl (lv_at hlv 1 rfl) ?_
    refine lv_iload_n hx hb dX1_joined_57 rfl (lv_at hlv 2 rfl) ?_
    refine lv_imul hx hb dX1_joined_58 ?_
    refine lt_z (fun z_6 ez_6 lz_6 hz_6 => ?_)
    refine W.widen (k := 0) (n := 0) (Nat.le_of_ble_eq_true rfl) (Nat.le_of_ble_eq_true rfl) ?_
    exact W.iret (v := iI z_6) hx hb hr (fun t ht hW => ⟨⟨iI z_6, ((fun k => ([] : List Nat).getD k 0), (fun k => ([z_6] : List Int).getD k 0), (fun k => ([] : List (Nat → Int32)).getD k (fun _ => 0))), rfl, ⟨rfl, (by show ((-2147483648) ≤ z_6 ∧ z_6 ≤ 2147483647); omega)⟩, at9 ht hP hD [] (by decide +kernel) rfl⟩, hS.F ht⟩) hS.2.2 dX1_joined_59
  by_cases k_7 : k = 5
  · refine lt_i (y := iI 5) (by rw [k_7]) ?_
    refine lv_tableIn (tgt := 60) hx hb dX1_joined_1 (by decide) (by decide) rfl (by decide) ?_
    refine lv_iload_n hx hb dX1_joined_60 rfl (lv_at hlv 2 rfl) ?_
    refine iz_ne (tgt := 68) hx hb dX1_joined_61 (by decide) (by first | exact hr_b | omega) (fun c_8 => ?_) (fun c_8 => ?_)
    · refine lv_iload_n hx hb dX1_joined_68 rfl (lv_at hlv 1 rfl) ?_
      refine lv_iload_n hx hb dX1_joined_69 rfl (lv_at hlv 2 rfl) ?_
      refine lv_idiv hx hb dX1_joined_70 (fun q => absurd ((iI_eq (a := b) (b := 0) (by omega) (by omega)).mp q) (by omega)) ?_
      refine lt_z (fun z_9 ez_9 lz_9 hz_9 => ?_)
      refine W.widen (k := 0) (n := 0) (Nat.le_of_ble_eq_true rfl) (Nat.le_of_ble_eq_true rfl) ?_
      exact W.iret (v := iI z_9) hx hb hr (fun t ht hW => ⟨⟨iI z_9, ((fun k => ([] : List Nat).getD k 0), (fun k => ([z_9] : List Int).getD k 0), (fun k => ([] : List (Nat → Int32)).getD k (fun _ => 0))), rfl, ⟨rfl, (by show ((-2147483648) ≤ z_9 ∧ z_9 ≤ 2147483647); omega)⟩, at9 ht hP hD [] (by decide +kernel) rfl⟩, hS.F ht⟩) hS.2.2 dX1_joined_71
    · refine lv_iconst (v := iI 0) hx hb dX1_joined_64 (by decide) ?_
      refine lv_goto (tgt := 71) hx hb dX1_joined_65 (by decide) ?_
      refine W.widen (k := 0) (n := 0) (Nat.le_of_ble_eq_true rfl) (Nat.le_of_ble_eq_true rfl) ?_
      exact W.iret (v := iI 0) hx hb hr (fun t ht hW => ⟨⟨iI 0, ((fun k => ([] : List Nat).getD k 0), (fun k => ([0] : List Int).getD k 0), (fun k => ([] : List (Nat → Int32)).getD k (fun _ => 0))), rfl, ⟨rfl, (by show ((-2147483648) ≤ 0 ∧ 0 ≤ 2147483647); show ((-2147483648) : Int) ≤ 0 ∧ (0 : Int) ≤ 2147483647; decide)⟩, at9 ht hP hD [] (by decide +kernel) rfl⟩, hS.F ht⟩) hS.2.2 dX1_joined_71
  by_cases k_10 : k = 6
  · refine lt_i (y := iI 6) (by rw [k_10]) ?_
    refine lv_tableIn (tgt := 72) hx hb dX1_joined_1 (by decide) (by decide) rfl (by decide) ?_
    refine lv_iload_n hx hb dX1_joined_72 rfl (lv_at hlv 1 rfl) ?_
    refine lv_iload_n hx hb dX1_joined_73 rfl (lv_at hlv 2 rfl) ?_
    refine ir_ge (tgt := 81) hx hb dX1_joined_74 (by decide) (by first | exact hr_a | omega) (by first | exact hr_b | omega) (fun c_11 => ?_) (fun c_11 => ?_)
    · refine lv_iconst (v := iI 0) hx hb dX1_joined_81 (by decide) ?_
      refine W.widen (k := 0) (n := 0) (Nat.le_of_ble_eq_true rfl) (Nat.le_of_ble_eq_true rfl) ?_
      exact W.iret (v := iI 0) hx hb hr (fun t ht hW => ⟨⟨iI 0, ((fun k => ([] : List Nat).getD k 0), (fun k => ([0] : List Int).getD k 0), (fun k => ([] : List (Nat → Int32)).getD k (fun _ => 0))), rfl, ⟨rfl, (by show ((-2147483648) ≤ 0 ∧ 0 ≤ 2147483647); show ((-2147483648) : Int) ≤ 0 ∧ (0 : Int) ≤ 2147483647; decide)⟩, at9 ht hP hD [] (by decide +kernel) rfl⟩, hS.F ht⟩) hS.2.2 dX1_joined_82
    · refine lv_iconst (v := iI 1) hx hb dX1_joined_77 (by decide) ?_
      refine lv_goto (tgt := 82) hx hb dX1_joined_78 (by decide) ?_
      refine W.widen (k := 0) (n := 0) (Nat.le_of_ble_eq_true rfl) (Nat.le_of_ble_eq_true rfl) ?_
      exact W.iret (v := iI 1) hx hb hr (fun t ht hW => ⟨⟨iI 1, ((fun k => ([] : List Nat).getD k 0), (fun k => ([1] : List Int).getD k 0), (fun k => ([] : List (Nat → Int32)).getD k (fun _ => 0))), rfl, ⟨rfl, (by show ((-2147483648) ≤ 1 ∧ 1 ≤ 2147483647); show ((-2147483648) : Int) ≤ 1 ∧ (1 : Int) ≤ 2147483647; decide)⟩, at9 ht hP hD [] (by decide +kernel) rfl⟩, hS.F ht⟩) hS.2.2 dX1_joined_82
  by_cases k_12 : k = 7
  · refine lt_i (y := iI 7) (by rw [k_12]) ?_
    refine lv_tableIn (tgt := 83) hx hb dX1_joined_1 (by decide) (by decide) rfl (by decide) ?_
    refine lv_iload_n hx hb dX1_joined_83 rfl (lv_at hlv 1 rfl) ?_
    refine lv_iload_n hx hb dX1_joined_84 rfl (lv_at hlv 2 rfl) ?_
    refine ir_le (tgt := 92) hx hb dX1_joined_85 (by decide) (by first | exact hr_a | omega) (by first | exact hr_b | omega) (fun c_13 => ?_) (fun c_13 => ?_)
    · refine lv_iconst (v := iI 0) hx hb dX1_joined_92 (by decide) ?_
      refine W.widen (k := 0) (n := 0) (Nat.le_of_ble_eq_true rfl) (Nat.le_of_ble_eq_true rfl) ?_
      exact W.iret (v := iI 0) hx hb hr (fun t ht hW => ⟨⟨iI 0, ((fun k => ([] : List Nat).getD k 0), (fun k => ([0] : List Int).getD k 0), (fun k => ([] : List (Nat → Int32)).getD k (fun _ => 0))), rfl, ⟨rfl, (by show ((-2147483648) ≤ 0 ∧ 0 ≤ 2147483647); show ((-2147483648) : Int) ≤ 0 ∧ (0 : Int) ≤ 2147483647; decide)⟩, at9 ht hP hD [] (by decide +kernel) rfl⟩, hS.F ht⟩) hS.2.2 dX1_joined_93
    · refine lv_iconst (v := iI 1) hx hb dX1_joined_88 (by decide) ?_
      refine lv_goto (tgt := 93) hx hb dX1_joined_89 (by decide) ?_
      refine W.widen (k := 0) (n := 0) (Nat.le_of_ble_eq_true rfl) (Nat.le_of_ble_eq_true rfl) ?_
      exact W.iret (v := iI 1) hx hb hr (fun t ht hW => ⟨⟨iI 1, ((fun k => ([] : List Nat).getD k 0), (fun k => ([1] : List Int).getD k 0), (fun k => ([] : List (Nat → Int32)).getD k (fun _ => 0))), rfl, ⟨rfl, (by show ((-2147483648) ≤ 1 ∧ 1 ≤ 2147483647); show ((-2147483648) : Int) ≤ 1 ∧ (1 : Int) ≤ 2147483647; decide)⟩, at9 ht hP hD [] (by decide +kernel) rfl⟩, hS.F ht⟩) hS.2.2 dX1_joined_93
  by_cases k_14 : k = 8
  · refine lt_i (y := iI 8) (by rw [k_14]) ?_
    refine lv_tableIn (tgt := 94) hx hb dX1_joined_1 (by decide) (by decide) rfl (by decide) ?_
    refine lv_iload_n hx hb dX1_joined_94 rfl (lv_at hlv 1 rfl) ?_
    refine lv_iload_n hx hb dX1_joined_95 rfl (lv_at hlv 2 rfl) ?_
    refine ir_ne (tgt := 103) hx hb dX1_joined_96 (by decide) (by first | exact hr_a | omega) (by first | exact hr_b | omega) (fun c_15 => ?_) (fun c_15 => ?_)
    · refine lv_iconst (v := iI 0) hx hb dX1_joined_103 (by decide) ?_
      refine W.widen (k := 0) (n := 0) (Nat.le_of_ble_eq_true rfl) (Nat.le_of_ble_eq_true rfl) ?_
      exact W.iret (v := iI 0) hx hb hr (fun t ht hW => ⟨⟨iI 0, ((fun k => ([] : List Nat).getD k 0), (fun k => ([0] : List Int).getD k 0), (fun k => ([] : List (Nat → Int32)).getD k (fun _ => 0))), rfl, ⟨rfl, (by show ((-2147483648) ≤ 0 ∧ 0 ≤ 2147483647); show ((-2147483648) : Int) ≤ 0 ∧ (0 : Int) ≤ 2147483647; decide)⟩, at9 ht hP hD [] (by decide +kernel) rfl⟩, hS.F ht⟩) hS.2.2 dX1_joined_104
    · refine lv_iconst (v := iI 1) hx hb dX1_joined_99 (by decide) ?_
      refine lv_goto (tgt := 104) hx hb dX1_joined_100 (by decide) ?_
      refine W.widen (k := 0) (n := 0) (Nat.le_of_ble_eq_true rfl) (Nat.le_of_ble_eq_true rfl) ?_
      exact W.iret (v := iI 1) hx hb hr (fun t ht hW => ⟨⟨iI 1, ((fun k => ([] : List Nat).getD k 0), (fun k => ([1] : List Int).getD k 0), (fun k => ([] : List (Nat → Int32)).getD k (fun _ => 0))), rfl, ⟨rfl, (by show ((-2147483648) ≤ 1 ∧ 1 ≤ 2147483647); show ((-2147483648) : Int) ≤ 1 ∧ (1 : Int) ≤ 2147483647; decide)⟩, at9 ht hP hD [] (by decide +kernel) rfl⟩, hS.F ht⟩) hS.2.2 dX1_joined_104
  by_cases k_16 : k = 9
  · refine lt_i (y := iI 9) (by rw [k_16]) ?_
    refine lv_tableIn (tgt := 105) hx hb dX1_joined_1 (by decide) (by decide) rfl (by decide) ?_
    refine lv_iload_n hx hb dX1_joined_105 rfl (lv_at hlv 1 rfl) ?_
    refine lv_iload_n hx hb dX1_joined_106 rfl (lv_at hlv 2 rfl) ?_
    refine lv_iand hx hb dX1_joined_107 ?_
    refine lt_z (fun z_17 ez_17 lz_17 hz_17 => ?_)
    refine W.widen (k := 0) (n := 0) (Nat.le_of_ble_eq_true rfl) (Nat.le_of_ble_eq_true rfl) ?_
    exact W.iret (v := iI z_17) hx hb hr (fun t ht hW => ⟨⟨iI z_17, ((fun k => ([] : List Nat).getD k 0), (fun k => ([z_17] : List Int).getD k 0), (fun k => ([] : List (Nat → Int32)).getD k (fun _ => 0))), rfl, ⟨rfl, (by show ((-2147483648) ≤ z_17 ∧ z_17 ≤ 2147483647); omega)⟩, at9 ht hP hD [] (by decide +kernel) rfl⟩, hS.F ht⟩) hS.2.2 dX1_joined_108
  refine lv_tableOut (tgt := 109) hx hb dX1_joined_1 (by rw [iI_to (by omega) (by omega)]; omega) (by decide) ?_
  refine lv_iload_n hx hb dX1_joined_109 rfl (lv_at hlv 1 rfl) ?_
  refine lv_iload_n hx hb dX1_joined_110 rfl (lv_at hlv 2 rfl) ?_
  refine lv_ior hx hb dX1_joined_111 ?_
  refine lt_z (fun z_18 ez_18 lz_18 hz_18 => ?_)
  refine W.widen (k := 0) (n := 0) (Nat.le_of_ble_eq_true rfl) (Nat.le_of_ble_eq_true rfl) ?_
  exact W.iret (v := iI z_18) hx hb hr (fun t ht hW => ⟨⟨iI z_18, ((fun k => ([] : List Nat).getD k 0), (fun k => ([z_18] : List Int).getD k 0), (fun k => ([] : List (Nat → Int32)).getD k (fun _ => 0))), rfl, ⟨rfl, (by show ((-2147483648) ≤ z_18 ∧ z_18 ≤ 2147483647); omega)⟩, at9 ht hP hD [] (by decide +kernel) rfl⟩, hS.F ht⟩) hS.2.2 dX1_joined_112
end
section
theorem dX6_cells_0 : decode cX6_cells 0 = .ok (.aload_n 0, 1) := by decide +kernel
theorem dX6_cells_1 : decode cX6_cells 1 = .ok (.getfield 28, 3) := by decide +kernel
theorem dX6_cells_4 : decode cX6_cells 4 = .ok (.aload_n 0, 1) := by decide +kernel
theorem dX6_cells_5 : decode cX6_cells 5 = .ok (.getfield 32, 3) := by decide +kernel
theorem dX6_cells_8 : decode cX6_cells 8 = .ok (.imul, 1) := by decide +kernel
theorem dX6_cells_9 : decode cX6_cells 9 = .ok (.ireturn, 1) := by decide +kernel
theorem dX6_hasTime_0 : decode cX6_hasTime 0 = .ok (.aload_n 0, 1) := by decide +kernel
theorem dX6_hasTime_1 : decode cX6_hasTime 1 = .ok (.getfield 62, 3) := by decide +kernel
theorem dX6_hasTime_10 : decode cX6_hasTime 10 = .ok (.iconst 1, 1) := by decide +kernel
theorem dX6_hasTime_11 : decode cX6_hasTime 11 = .ok (.goto 4, 3) := by decide +kernel
theorem dX6_hasTime_14 : decode cX6_hasTime 14 = .ok (.iconst 0, 1) := by decide +kernel
theorem dX6_hasTime_15 : decode cX6_hasTime 15 = .ok (.ireturn, 1) := by decide +kernel
theorem dX6_hasTime_4 : decode cX6_hasTime 4 = .ok (.sipush 600, 3) := by decide +kernel
theorem dX6_hasTime_7 : decode cX6_hasTime 7 = .ok (.if_icmp .ge 7, 3) := by decide +kernel
theorem dX6_has_0 : decode cX6_has 0 = .ok (.iload_n 1, 1) := by decide +kernel
theorem dX6_has_1 : decode cX6_has 1 = .ok (.ifCond .lt 27, 3) := by decide +kernel
theorem dX6_has_12 : decode cX6_has 12 = .ok (.iload_n 2, 1) := by decide +kernel
theorem dX6_has_13 : decode cX6_has 13 = .ok (.ifCond .lt 15, 3) := by decide +kernel
theorem dX6_has_16 : decode cX6_has 16 = .ok (.iload_n 2, 1) := by decide +kernel
theorem dX6_has_17 : decode cX6_has 17 = .ok (.aload_n 0, 1) := by decide +kernel
theorem dX6_has_18 : decode cX6_has 18 = .ok (.getfield 32, 3) := by decide +kernel
theorem dX6_has_21 : decode cX6_has 21 = .ok (.if_icmp .ge 7, 3) := by decide +kernel
theorem dX6_has_24 : decode cX6_has 24 = .ok (.iconst 1, 1) := by decide +kernel
theorem dX6_has_25 : decode cX6_has 25 = .ok (.goto 4, 3) := by decide +kernel
theorem dX6_has_28 : decode cX6_has 28 = .ok (.iconst 0, 1) := by decide +kernel
theorem dX6_has_29 : decode cX6_has 29 = .ok (.ireturn, 1) := by decide +kernel
theorem dX6_has_4 : decode cX6_has 4 = .ok (.iload_n 1, 1) := by decide +kernel
theorem dX6_has_5 : decode cX6_has 5 = .ok (.aload_n 0, 1) := by decide +kernel
theorem dX6_has_6 : decode cX6_has 6 = .ok (.getfield 28, 3) := by decide +kernel
theorem dX6_has_9 : decode cX6_has 9 = .ok (.if_icmp .ge 19, 3) := by decide +kernel
theorem dX6_iceCells_0 : decode cX6_iceCells 0 = .ok (.iconst 0, 1) := by decide +kernel
theorem dX6_iceCells_1 : decode cX6_iceCells 1 = .ok (.istore_n 2, 1) := by decide +kernel
theorem dX6_iceCells_12 : decode cX6_iceCells 12 = .ok (.aload_n 0, 1) := by decide +kernel
theorem dX6_iceCells_13 : decode cX6_iceCells 13 = .ok (.getfield 13, 3) := by decide +kernel
theorem dX6_iceCells_16 : decode cX6_iceCells 16 = .ok (.iload_n 3, 1) := by decide +kernel
theorem dX6_iceCells_17 : decode cX6_iceCells 17 = .ok (.iaload, 1) := by decide +kernel
theorem dX6_iceCells_18 : decode cX6_iceCells 18 = .ok (.iload_n 1, 1) := by decide +kernel
theorem dX6_iceCells_19 : decode cX6_iceCells 19 = .ok (.if_icmp .lt 6, 3) := by decide +kernel
theorem dX6_iceCells_2 : decode cX6_iceCells 2 = .ok (.iconst 0, 1) := by decide +kernel
theorem dX6_iceCells_22 : decode cX6_iceCells 22 = .ok (.iinc 2 1, 3) := by decide +kernel
theorem dX6_iceCells_25 : decode cX6_iceCells 25 = .ok (.iinc 3 1, 3) := by decide +kernel
theorem dX6_iceCells_28 : decode cX6_iceCells 28 = .ok (.goto (-24), 3) := by decide +kernel
theorem dX6_iceCells_3 : decode cX6_iceCells 3 = .ok (.istore_n 3, 1) := by decide +kernel
theorem dX6_iceCells_31 : decode cX6_iceCells 31 = .ok (.iload_n 2, 1) := by decide +kernel
theorem dX6_iceCells_32 : decode cX6_iceCells 32 = .ok (.ireturn, 1) := by decide +kernel
theorem dX6_iceCells_4 : decode cX6_iceCells 4 = .ok (.iload_n 3, 1) := by decide +kernel
theorem dX6_iceCells_5 : decode cX6_iceCells 5 = .ok (.aload_n 0, 1) := by decide +kernel
theorem dX6_iceCells_6 : decode cX6_iceCells 6 = .ok (.invokevirtual 80, 3) := by decide +kernel
theorem dX6_iceCells_9 : decode cX6_iceCells 9 = .ok (.if_icmp .ge 22, 3) := by decide +kernel
theorem dX6_index_0 : decode cX6_index 0 = .ok (.iload_n 2, 1) := by decide +kernel
theorem dX6_index_1 : decode cX6_index 1 = .ok (.aload_n 0, 1) := by decide +kernel
theorem dX6_index_2 : decode cX6_index 2 = .ok (.getfield 28, 3) := by decide +kernel
theorem dX6_index_5 : decode cX6_index 5 = .ok (.imul, 1) := by decide +kernel
theorem dX6_index_6 : decode cX6_index 6 = .ok (.iload_n 1, 1) := by decide +kernel
theorem dX6_index_7 : decode cX6_index 7 = .ok (.iadd, 1) := by decide +kernel
theorem dX6_index_8 : decode cX6_index 8 = .ok (.ireturn, 1) := by decide +kernel
theorem dX6_isTold_0 : decode cX6_isTold 0 = .ok (.aload_n 0, 1) := by decide +kernel
theorem dX6_isTold_1 : decode cX6_isTold 1 = .ok (.getfield 28, 3) := by decide +kernel
theorem dX6_isTold_11 : decode cX6_isTold 11 = .ok (.iconst 0, 1) := by decide +kernel
theorem dX6_isTold_12 : decode cX6_isTold 12 = .ok (.ireturn, 1) := by decide +kernel
theorem dX6_isTold_4 : decode cX6_isTold 4 = .ok (.ifCond .le 7, 3) := by decide +kernel
theorem dX6_isTold_7 : decode cX6_isTold 7 = .ok (.iconst 1, 1) := by decide +kernel
theorem dX6_isTold_8 : decode cX6_isTold 8 = .ok (.goto 4, 3) := by decide +kernel
theorem dX6_standing_0 : decode cX6_standing 0 = .ok (.iconst 0, 1) := by decide +kernel
theorem dX6_standing_1 : decode cX6_standing 1 = .ok (.istore_n 1, 1) := by decide +kernel
theorem dX6_standing_12 : decode cX6_standing 12 = .ok (.iload_n 1, 1) := by decide +kernel
theorem dX6_standing_13 : decode cX6_standing 13 = .ok (.aload_n 0, 1) := by decide +kernel
theorem dX6_standing_14 : decode cX6_standing 14 = .ok (.getfield 13, 3) := by decide +kernel
theorem dX6_standing_17 : decode cX6_standing 17 = .ok (.iload_n 2, 1) := by decide +kernel
theorem dX6_standing_18 : decode cX6_standing 18 = .ok (.iaload, 1) := by decide +kernel
theorem dX6_standing_19 : decode cX6_standing 19 = .ok (.iadd, 1) := by decide +kernel
theorem dX6_standing_2 : decode cX6_standing 2 = .ok (.iconst 0, 1) := by decide +kernel
theorem dX6_standing_20 : decode cX6_standing 20 = .ok (.istore_n 1, 1) := by decide +kernel
theorem dX6_standing_21 : decode cX6_standing 21 = .ok (.iinc 2 1, 3) := by decide +kernel
theorem dX6_standing_24 : decode cX6_standing 24 = .ok (.goto (-20), 3) := by decide +kernel
theorem dX6_standing_27 : decode cX6_standing 27 = .ok (.iload_n 1, 1) := by decide +kernel
theorem dX6_standing_28 : decode cX6_standing 28 = .ok (.ireturn, 1) := by decide +kernel
theorem dX6_standing_3 : decode cX6_standing 3 = .ok (.istore_n 2, 1) := by decide +kernel
theorem dX6_standing_4 : decode cX6_standing 4 = .ok (.iload_n 2, 1) := by decide +kernel
theorem dX6_standing_5 : decode cX6_standing 5 = .ok (.aload_n 0, 1) := by decide +kernel
theorem dX6_standing_6 : decode cX6_standing 6 = .ok (.invokevirtual 80, 3) := by decide +kernel
theorem dX6_standing_9 : decode cX6_standing 9 = .ok (.if_icmp .ge 18, 3) := by decide +kernel
theorem dX6_surface_0 : decode cX6_surface 0 = .ok (.aload_n 0, 1) := by decide +kernel
theorem dX6_surface_1 : decode cX6_surface 1 = .ok (.getfield 9, 3) := by decide +kernel
theorem dX6_surface_10 : decode cX6_surface 10 = .ok (.iload_n 1, 1) := by decide +kernel
theorem dX6_surface_11 : decode cX6_surface 11 = .ok (.iaload, 1) := by decide +kernel
theorem dX6_surface_12 : decode cX6_surface 12 = .ok (.iadd, 1) := by decide +kernel
theorem dX6_surface_13 : decode cX6_surface 13 = .ok (.ireturn, 1) := by decide +kernel
theorem dX6_surface_4 : decode cX6_surface 4 = .ok (.iload_n 1, 1) := by decide +kernel
theorem dX6_surface_5 : decode cX6_surface 5 = .ok (.iaload, 1) := by decide +kernel
theorem dX6_surface_6 : decode cX6_surface 6 = .ok (.aload_n 0, 1) := by decide +kernel
theorem dX6_surface_7 : decode cX6_surface 7 = .ok (.getfield 13, 3) := by decide +kernel
def vs_s_cells : List Cond := .code yX6_cells cX6_cells 1 (some .int) :: (([.fieldLink RX6 28 "KerbSplash$Street" "wide" "I", .fieldLink RX6 32 "KerbSplash$Street" "rows" "I"] : List Cond) ++ ((wsX60) ++ ([])))
theorem gd_s_cells : vs_s_cells.all goodWord = true := gd_C (by decide +kernel) (gd_A (by decide +kernel) (gd_A (by decide +kernel) rfl))
set_option maxHeartbeats 4000000 in
set_option maxRecDepth 100000 in
theorem s_cells (l : Launch) (hl : l.stackTraces = false) (D : va_G) (cy : Nat → ClassId) (sa : Nat → Nat) (sA s2 s3 s6 s8 s11 s13 : Nat) (wi ro dr dt pe gu sh wo dn mi fl tk go : Int) (sz : Nat) (hr_wi : 0 ≤ wi ∧ wi ≤ 16) (hr_ro : 0 ≤ ro ∧ ro ≤ 6) (hr_dr : 0 ≤ dr ∧ dr ≤ 14) (hr_dt : 0 ≤ dt ∧ dt ≤ 6) (hr_pe : 0 ≤ pe ∧ pe ≤ 8) (hr_gu : 0 ≤ gu ∧ gu ≤ 20) (hr_sh : 0 ≤ sh ∧ sh ≤ 2) (hr_wo : 0 ≤ wo ∧ wo ≤ 8) (hr_dn : (-2147483648) ≤ dn ∧ dn ≤ 2147483647) (hr_mi : 0 ≤ mi ∧ mi ≤ 600) (hr_fl : (-2147483648) ≤ fl ∧ fl ≤ 2147483647) (hr_tk : (-2147483648) ≤ tk ∧ tk ≤ 2147483647) (hr_go : (-2147483648) ≤ go ∧ go ≤ 2147483647) : mI9 l yX6_cells vs_s_cells ({ frames := 0, cells := 0, slots := 0, locals := 0 }) D cy sa sz [vR sA] [zO sA 6 [vI wi, vI ro, vR s2, vR s3, vI dr, vI dt, vR s6, vI pe, vR s8, vI gu, vI sh, vR s11, vI wo, vR s13, vI dn, vI mi, vI fl, vI tk, vI go]] (fun (r : Int32) (u : SV) => r = iI (u.2.1 0) ∧ (0 ≤ u.2.1 0 ∧ u.2.1 0 ≤ 96)) (fun u : SV => [zO sA 6 [vI wi, vI ro, vR s2, vR s3, vI dr, vI dt, vR s6, vI pe, vR s8, vI gu, vI sh, vR s11, vI wo, vR s13, vI dn, vI mi, vI fl, vI tk, vI go]]) 0 0 := by
  refine Met.ofW (cc := cX6_cells) (maxL := 1) (ret := (some .int)) (by decide) rfl ?_
  intro p e s m args below meth c s₁ B hml hv
  obtain ⟨rfl, hsz, hP, hG, hD0, hT⟩ := hv
  have hx := B.exec
  have hb := B.bytes
  have hr := B.returns
  have hts := atoms_spec (ws := vs_s_cells) B.pre
  have hown : s.vm.findClass RX6 = some m.cls := findClass_of_methodNamed B.named
  have hlocks := B.notSynchronized
  subst hsz
  have hD := hD0.self (sz := s.heap.size)
  generalize hAe : va_A [zO sA 6 [vI wi, vI ro, vR s2, vR s3, vI dr, vI dt, vR s6, vI pe, vR s8, vI gu, vI sh, vR s11, vI wo, vR s13, vI dn, vI mi, vI fl, vI tk, vI go]] s.heap.size = A at hD hT ⊢
  have hA : ∀ q : Nat, s.heap.size ≤ q → A q := fun q h => by rw [← hAe]; exact Or.inr h
  have hS : va_S A s.heap s.heap [] := va_S.rf
  have hl0 := lv_entry ([vR sA]) (n := 1) (Nat.le_of_ble_eq_true rfl)
  rw [lg_entry_eq]
  generalize (lg_sl ([vR sA]) ++ List.replicate (1 - (lg_sl ([vR sA])).length) Slot.unset).toArray = ls at hl0 ⊢
  have hlv : lv_has ls 1 [(0, vR sA)] := hl0
  have lf28 := hts (.fieldLink RX6 28 "KerbSplash$Street" "wide" "I") (List.mem_of_getElem? (i := 1) rfl)
  have hi6 : ∀ w ∈ wsX60, w ∈ vs_s_cells := fun w h => List.mem_cons_of_mem _ (List.mem_append_right _ (List.mem_append_left _ h))
  have lf32 := hts (.fieldLink RX6 32 "KerbSplash$Street" "rows" "I") (List.mem_of_getElem? (i := 2) rfl)
  refine lv_aload_n hx hb dX6_cells_0 rfl (lv_at hlv 0 rfl) ?_
  refine va_get (D := D) (ci := 6) (v := vI wi) (C := RX6) (T := TX6) (N := 19) hx hb hts hi6 hown hG.1 hP 0 rfl rfl 0 (by decide) lf28 (fun _ h9 => h9) rfl dX6_cells_1 ?_
  refine lv_aload_n hx hb dX6_cells_4 rfl (lv_at hlv 0 rfl) ?_
  refine va_get (D := D) (ci := 6) (v := vI ro) (C := RX6) (T := TX6) (N := 19) hx hb hts hi6 hown hG.1 hP 0 rfl rfl 1 (by decide) lf32 (fun _ h9 => h9) rfl dX6_cells_5 ?_
  refine lv_imul hx hb dX6_cells_8 ?_
  refine lt_e (e0 := wi * ro) (Int32.ofInt_mul _ _).symm (fun z_1 hz_1 => ?_)
  have bz_1 : 0 ≤ z_1 ∧ z_1 ≤ 96 := by rw [hz_1]; exact mul_bd (x := 16) (y := 6) (by omega) (by omega) (by decide)
  refine W.widen (k := 0) (n := 0) (Nat.le_of_ble_eq_true rfl) (Nat.le_of_ble_eq_true rfl) ?_
  exact W.iret (v := iI z_1) hx hb hr (fun t ht hW => ⟨⟨iI z_1, ((fun k => ([] : List Nat).getD k 0), (fun k => ([z_1] : List Int).getD k 0), (fun k => ([] : List (Nat → Int32)).getD k (fun _ => 0))), rfl, ⟨rfl, (by show (0 ≤ z_1 ∧ z_1 ≤ 96); omega)⟩, at9 ht hP hD [0] (by decide +kernel) rfl⟩, hS.F ht⟩) hS.2.2 dX6_cells_9
def vs_s_has : List Cond := .code yX6_has cX6_has 3 (some .boolean) :: (([.fieldLink RX6 28 "KerbSplash$Street" "wide" "I", .fieldLink RX6 32 "KerbSplash$Street" "rows" "I"] : List Cond) ++ ((wsX60) ++ ([])))
theorem gd_s_has : vs_s_has.all goodWord = true := gd_C (by decide +kernel) (gd_A (by decide +kernel) (gd_A (by decide +kernel) rfl))
set_option maxHeartbeats 4000000 in
set_option maxRecDepth 100000 in
theorem s_has (l : Launch) (hl : l.stackTraces = false) (D : va_G) (cy : Nat → ClassId) (sa : Nat → Nat) (sA s2 s3 s6 s8 s11 s13 : Nat) (wi ro dr dt pe gu sh wo dn mi fl tk go : Int) (x y : Int) (sz : Nat) (hr_wi : 0 ≤ wi ∧ wi ≤ 16) (hr_ro : 0 ≤ ro ∧ ro ≤ 6) (hr_dr : 0 ≤ dr ∧ dr ≤ 14) (hr_dt : 0 ≤ dt ∧ dt ≤ 6) (hr_pe : 0 ≤ pe ∧ pe ≤ 8) (hr_gu : 0 ≤ gu ∧ gu ≤ 20) (hr_sh : 0 ≤ sh ∧ sh ≤ 2) (hr_wo : 0 ≤ wo ∧ wo ≤ 8) (hr_dn : (-2147483648) ≤ dn ∧ dn ≤ 2147483647) (hr_mi : 0 ≤ mi ∧ mi ≤ 600) (hr_fl : (-2147483648) ≤ fl ∧ fl ≤ 2147483647) (hr_tk : (-2147483648) ≤ tk ∧ tk ≤ 2147483647) (hr_go : (-2147483648) ≤ go ∧ go ≤ 2147483647) (hr_x : (-2147483648) ≤ x ∧ x ≤ 2147483647) (hr_y : (-2147483648) ≤ y ∧ y ≤ 2147483647) : mI9 l yX6_has vs_s_has ({ frames := 0, cells := 0, slots := 0, locals := 0 }) D cy sa sz [vR sA, vI x, vI y] [zO sA 6 [vI wi, vI ro, vR s2, vR s3, vI dr, vI dt, vR s6, vI pe, vR s8, vI gu, vI sh, vR s11, vI wo, vR s13, vI dn, vI mi, vI fl, vI tk, vI go]] (fun (r : Int32) (u : SV) => r = iI (u.2.1 0) ∧ (0 ≤ u.2.1 0 ∧ u.2.1 0 ≤ 1) ∧ (u.2.1 0 = 1 → 0 ≤ x ∧ x < wi ∧ 0 ≤ y ∧ y < ro)) (fun u : SV => [zO sA 6 [vI wi, vI ro, vR s2, vR s3, vI dr, vI dt, vR s6, vI pe, vR s8, vI gu, vI sh, vR s11, vI wo, vR s13, vI dn, vI mi, vI fl, vI tk, vI go]]) 0 0 := by
  refine Met.ofW (cc := cX6_has) (maxL := 3) (ret := (some .boolean)) (by decide) rfl ?_
  intro p e s m args below meth c s₁ B hml hv
  obtain ⟨rfl, hsz, hP, hG, hD0, hT⟩ := hv
  have hx := B.exec
  have hb := B.bytes
  have hr := B.returns
  have hts := atoms_spec (ws := vs_s_has) B.pre
  have hown : s.vm.findClass RX6 = some m.cls := findClass_of_methodNamed B.named
  have hlocks := B.notSynchronized
  subst hsz
  have hD := hD0.self (sz := s.heap.size)
  generalize hAe : va_A [zO sA 6 [vI wi, vI ro, vR s2, vR s3, vI dr, vI dt, vR s6, vI pe, vR s8, vI gu, vI sh, vR s11, vI wo, vR s13, vI dn, vI mi, vI fl, vI tk, vI go]] s.heap.size = A at hD hT ⊢
  have hA : ∀ q : Nat, s.heap.size ≤ q → A q := fun q h => by rw [← hAe]; exact Or.inr h
  have hS : va_S A s.heap s.heap [] := va_S.rf
  have hl0 := lv_entry ([vR sA, vI x, vI y]) (n := 3) (Nat.le_of_ble_eq_true rfl)
  rw [lg_entry_eq]
  generalize (lg_sl ([vR sA, vI x, vI y]) ++ List.replicate (3 - (lg_sl ([vR sA, vI x, vI y])).length) Slot.unset).toArray = ls at hl0 ⊢
  have hlv : lv_has ls 3 [(0, vR sA), (1, vI x), (2, vI y)] := hl0
  have lf28 := hts (.fieldLink RX6 28 "KerbSplash$Street" "wide" "I") (List.mem_of_getElem? (i := 1) rfl)
  have hi6 : ∀ w ∈ wsX60, w ∈ vs_s_has := fun w h => List.mem_cons_of_mem _ (List.mem_append_right _ (List.mem_append_left _ h))
  have lf32 := hts (.fieldLink RX6 32 "KerbSplash$Street" "rows" "I") (List.mem_of_getElem? (i := 2) rfl)
  refine lv_iload_n hx hb dX6_has_0 rfl (lv_at hlv 1 rfl) ?_
  refine iz_lt (tgt := 28) hx hb dX6_has_1 (by decide) (by first | exact hr_x | omega) (fun c_1 => ?_) (fun c_1 => ?_)
  · refine lv_iconst (v := iI 0) hx hb dX6_has_28 (by decide) ?_
    refine W.widen (k := 0) (n := 0) (Nat.le_of_ble_eq_true rfl) (Nat.le_of_ble_eq_true rfl) ?_
    exact W.zret (v := iI 0) hx hb hr (by first | rfl | decide) (fun t ht hW => ⟨⟨iI 0, ((fun k => ([] : List Nat).getD k 0), (fun k => ([0] : List Int).getD k 0), (fun k => ([] : List (Nat → Int32)).getD k (fun _ => 0))), rfl, ⟨rfl, (by show (0 ≤ 0 ∧ 0 ≤ 1); show (0 : Int) ≤ 0 ∧ (0 : Int) ≤ 1; decide), (by show (0 = 1 → 0 ≤ x ∧ x < wi ∧ 0 ≤ y ∧ y < ro); omega)⟩, at9 ht hP hD [0] (by decide +kernel) rfl⟩, hS.F ht⟩) hS.2.2 dX6_has_29
  · refine lv_iload_n hx hb dX6_has_4 rfl (lv_at hlv 1 rfl) ?_
    refine lv_aload_n hx hb dX6_has_5 rfl (lv_at hlv 0 rfl) ?_
    refine va_get (D := D) (ci := 6) (v := vI wi) (C := RX6) (T := TX6) (N := 19) hx hb hts hi6 hown hG.1 hP 0 rfl rfl 0 (by decide) lf28 (fun _ h9 => h9) rfl dX6_has_6 ?_
    refine ir_ge (tgt := 28) hx hb dX6_has_9 (by decide) (by first | exact hr_x | omega) (by first | exact rgw hr_wi (by decide) (by decide) | omega) (fun c_2 => ?_) (fun c_2 => ?_)
    · refine lv_iconst (v := iI 0) hx hb dX6_has_28 (by decide) ?_
      refine W.widen (k := 0) (n := 0) (Nat.le_of_ble_eq_true rfl) (Nat.le_of_ble_eq_true rfl) ?_
      exact W.zret (v := iI 0) hx hb hr (by first | rfl | decide) (fun t ht hW => ⟨⟨iI 0, ((fun k => ([] : List Nat).getD k 0), (fun k => ([0] : List Int).getD k 0), (fun k => ([] : List (Nat → Int32)).getD k (fun _ => 0))), rfl, ⟨rfl, (by show (0 ≤ 0 ∧ 0 ≤ 1); show (0 : Int) ≤ 0 ∧ (0 : Int) ≤ 1; decide), (by show (0 = 1 → 0 ≤ x ∧ x < wi ∧ 0 ≤ y ∧ y < ro); omega)⟩, at9 ht hP hD [0] (by decide +kernel) rfl⟩, hS.F ht⟩) hS.2.2 dX6_has_29
    · refine lv_iload_n hx hb dX6_has_12 rfl (lv_at hlv 2 rfl) ?_
      refine iz_lt (tgt := 28) hx hb dX6_has_13 (by decide) (by first | exact hr_y | omega) (fun c_3 => ?_) (fun c_3 => ?_)
      · refine lv_iconst (v := iI 0) hx hb dX6_has_28 (by decide) ?_
        refine W.widen (k := 0) (n := 0) (Nat.le_of_ble_eq_true rfl) (Nat.le_of_ble_eq_true rfl) ?_
        exact W.zret (v := iI 0) hx hb hr (by first | rfl | decide) (fun t ht hW => ⟨⟨iI 0, ((fun k => ([] : List Nat).getD k 0), (fun k => ([0] : List Int).getD k 0), (fun k => ([] : List (Nat → Int32)).getD k (fun _ => 0))), rfl, ⟨rfl, (by show (0 ≤ 0 ∧ 0 ≤ 1); show (0 : Int) ≤ 0 ∧ (0 : Int) ≤ 1; decide), (by show (0 = 1 → 0 ≤ x ∧ x < wi ∧ 0 ≤ y ∧ y < ro); omega)⟩, at9 ht hP hD [0] (by decide +kernel) rfl⟩, hS.F ht⟩) hS.2.2 dX6_has_29
      · refine lv_iload_n hx hb dX6_has_16 rfl (lv_at hlv 2 rfl) ?_
        refine lv_aload_n hx hb dX6_has_17 rfl (lv_at hlv 0 rfl) ?_
        refine va_get (D := D) (ci := 6) (v := vI ro) (C := RX6) (T := TX6) (N := 19) hx hb hts hi6 hown hG.1 hP 0 rfl rfl 1 (by decide) lf32 (fun _ h9 => h9) rfl dX6_has_18 ?_
        refine ir_ge (tgt := 28) hx hb dX6_has_21 (by decide) (by first | exact hr_y | omega) (by first | exact rgw hr_ro (by decide) (by decide) | omega) (fun c_4 => ?_) (fun c_4 => ?_)
        · refine lv_iconst (v := iI 0) hx hb dX6_has_28 (by decide) ?_
          refine W.widen (k := 0) (n := 0) (Nat.le_of_ble_eq_true rfl) (Nat.le_of_ble_eq_true rfl) ?_
          exact W.zret (v := iI 0) hx hb hr (by first | rfl | decide) (fun t ht hW => ⟨⟨iI 0, ((fun k => ([] : List Nat).getD k 0), (fun k => ([0] : List Int).getD k 0), (fun k => ([] : List (Nat → Int32)).getD k (fun _ => 0))), rfl, ⟨rfl, (by show (0 ≤ 0 ∧ 0 ≤ 1); show (0 : Int) ≤ 0 ∧ (0 : Int) ≤ 1; decide), (by show (0 = 1 → 0 ≤ x ∧ x < wi ∧ 0 ≤ y ∧ y < ro); omega)⟩, at9 ht hP hD [0] (by decide +kernel) rfl⟩, hS.F ht⟩) hS.2.2 dX6_has_29
        · refine lv_iconst (v := iI 1) hx hb dX6_has_24 (by decide) ?_
          refine lv_goto (tgt := 29) hx hb dX6_has_25 (by decide) ?_
          refine W.widen (k := 0) (n := 0) (Nat.le_of_ble_eq_true rfl) (Nat.le_of_ble_eq_true rfl) ?_
          exact W.zret (v := iI 1) hx hb hr (by first | rfl | decide) (fun t ht hW => ⟨⟨iI 1, ((fun k => ([] : List Nat).getD k 0), (fun k => ([1] : List Int).getD k 0), (fun k => ([] : List (Nat → Int32)).getD k (fun _ => 0))), rfl, ⟨rfl, (by show (0 ≤ 1 ∧ 1 ≤ 1); show (0 : Int) ≤ 1 ∧ (1 : Int) ≤ 1; decide), (by show (1 = 1 → 0 ≤ x ∧ x < wi ∧ 0 ≤ y ∧ y < ro); omega)⟩, at9 ht hP hD [0] (by decide +kernel) rfl⟩, hS.F ht⟩) hS.2.2 dX6_has_29
def vs_s_index : List Cond := .code yX6_index cX6_index 3 (some .int) :: (([.fieldLink RX6 28 "KerbSplash$Street" "wide" "I"] : List Cond) ++ ((wsX60) ++ ([])))
theorem gd_s_index : vs_s_index.all goodWord = true := gd_C (by decide +kernel) (gd_A (by decide +kernel) (gd_A (by decide +kernel) rfl))
set_option maxHeartbeats 4000000 in
set_option maxRecDepth 100000 in
theorem s_index (l : Launch) (hl : l.stackTraces = false) (D : va_G) (cy : Nat → ClassId) (sa : Nat → Nat) (sA s2 s3 s6 s8 s11 s13 : Nat) (wi ro dr dt pe gu sh wo dn mi fl tk go : Int) (x y : Int) (sz : Nat) (hr_wi : 0 ≤ wi ∧ wi ≤ 16) (hr_ro : 0 ≤ ro ∧ ro ≤ 6) (hr_dr : 0 ≤ dr ∧ dr ≤ 14) (hr_dt : 0 ≤ dt ∧ dt ≤ 6) (hr_pe : 0 ≤ pe ∧ pe ≤ 8) (hr_gu : 0 ≤ gu ∧ gu ≤ 20) (hr_sh : 0 ≤ sh ∧ sh ≤ 2) (hr_wo : 0 ≤ wo ∧ wo ≤ 8) (hr_dn : (-2147483648) ≤ dn ∧ dn ≤ 2147483647) (hr_mi : 0 ≤ mi ∧ mi ≤ 600) (hr_fl : (-2147483648) ≤ fl ∧ fl ≤ 2147483647) (hr_tk : (-2147483648) ≤ tk ∧ tk ≤ 2147483647) (hr_go : (-2147483648) ≤ go ∧ go ≤ 2147483647) (hr_x : 0 ≤ x ∧ x ≤ 15) (hr_y : 0 ≤ y ∧ y ≤ 5) : mI9 l yX6_index vs_s_index ({ frames := 0, cells := 0, slots := 0, locals := 0 }) D cy sa sz [vR sA, vI x, vI y] [zO sA 6 [vI wi, vI ro, vR s2, vR s3, vI dr, vI dt, vR s6, vI pe, vR s8, vI gu, vI sh, vR s11, vI wo, vR s13, vI dn, vI mi, vI fl, vI tk, vI go]] (fun (r : Int32) (u : SV) => r = iI (u.2.1 0) ∧ (0 ≤ u.2.1 0 ∧ u.2.1 0 ≤ 95)) (fun u : SV => [zO sA 6 [vI wi, vI ro, vR s2, vR s3, vI dr, vI dt, vR s6, vI pe, vR s8, vI gu, vI sh, vR s11, vI wo, vR s13, vI dn, vI mi, vI fl, vI tk, vI go]]) 0 0 := by
  refine Met.ofW (cc := cX6_index) (maxL := 3) (ret := (some .int)) (by decide) rfl ?_
  intro p e s m args below meth c s₁ B hml hv
  obtain ⟨rfl, hsz, hP, hG, hD0, hT⟩ := hv
  have hx := B.exec
  have hb := B.bytes
  have hr := B.returns
  have hts := atoms_spec (ws := vs_s_index) B.pre
  have hown : s.vm.findClass RX6 = some m.cls := findClass_of_methodNamed B.named
  have hlocks := B.notSynchronized
  subst hsz
  have hD := hD0.self (sz := s.heap.size)
  generalize hAe : va_A [zO sA 6 [vI wi, vI ro, vR s2, vR s3, vI dr, vI dt, vR s6, vI pe, vR s8, vI gu, vI sh, vR s11, vI wo, vR s13, vI dn, vI mi, vI fl, vI tk, vI go]] s.heap.size = A at hD hT ⊢
  have hA : ∀ q : Nat, s.heap.size ≤ q → A q := fun q h => by rw [← hAe]; exact Or.inr h
  have hS : va_S A s.heap s.heap [] := va_S.rf
  have hl0 := lv_entry ([vR sA, vI x, vI y]) (n := 3) (Nat.le_of_ble_eq_true rfl)
  rw [lg_entry_eq]
  generalize (lg_sl ([vR sA, vI x, vI y]) ++ List.replicate (3 - (lg_sl ([vR sA, vI x, vI y])).length) Slot.unset).toArray = ls at hl0 ⊢
  have hlv : lv_has ls 3 [(0, vR sA), (1, vI x), (2, vI y)] := hl0
  have lf28 := hts (.fieldLink RX6 28 "KerbSplash$Street" "wide" "I") (List.mem_of_getElem? (i := 1) rfl)
  have hi6 : ∀ w ∈ wsX60, w ∈ vs_s_index := fun w h => List.mem_cons_of_mem _ (List.mem_append_right _ (List.mem_append_left _ h))
  refine lv_iload_n hx hb dX6_index_0 rfl (lv_at hlv 2 rfl) ?_
  refine lv_aload_n hx hb dX6_index_1 rfl (lv_at hlv 0 rfl) ?_
  refine va_get (D := D) (ci := 6) (v := vI wi) (C := RX6) (T := TX6) (N := 19) hx hb hts hi6 hown hG.1 hP 0 rfl rfl 0 (by decide) lf28 (fun _ h9 => h9) rfl dX6_index_2 ?_
  refine lv_imul hx hb dX6_index_5 ?_
  refine lt_e (e0 := y * wi) (Int32.ofInt_mul _ _).symm (fun z_1 hz_1 => ?_)
  have bz_1 : 0 ≤ z_1 ∧ z_1 ≤ 80 := by rw [hz_1]; exact mul_bd (x := 5) (y := 16) (by omega) (by omega) (by decide)
  refine lv_iload_n hx hb dX6_index_6 rfl (lv_at hlv 1 rfl) ?_
  refine lv_iadd hx hb dX6_index_7 ?_
  refine lt_e (e0 := z_1 + x) (Int32.ofInt_add _ _).symm (fun z_2 hz_2 => ?_)
  refine W.widen (k := 0) (n := 0) (Nat.le_of_ble_eq_true rfl) (Nat.le_of_ble_eq_true rfl) ?_
  exact W.iret (v := iI z_2) hx hb hr (fun t ht hW => ⟨⟨iI z_2, ((fun k => ([] : List Nat).getD k 0), (fun k => ([z_2] : List Int).getD k 0), (fun k => ([] : List (Nat → Int32)).getD k (fun _ => 0))), rfl, ⟨rfl, (by show (0 ≤ z_2 ∧ z_2 ≤ 95); omega)⟩, at9 ht hP hD [0] (by decide +kernel) rfl⟩, hS.F ht⟩) hS.2.2 dX6_index_8
def vs_s_isTold : List Cond := .code yX6_isTold cX6_isTold 1 (some .boolean) :: (([.fieldLink RX6 28 "KerbSplash$Street" "wide" "I"] : List Cond) ++ ((wsX60) ++ ([])))
theorem gd_s_isTold : vs_s_isTold.all goodWord = true := gd_C (by decide +kernel) (gd_A (by decide +kernel) (gd_A (by decide +kernel) rfl))
set_option maxHeartbeats 4000000 in
set_option maxRecDepth 100000 in
theorem s_isTold (l : Launch) (hl : l.stackTraces = false) (D : va_G) (cy : Nat → ClassId) (sa : Nat → Nat) (sA s2 s3 s6 s8 s11 s13 : Nat) (wi ro dr dt pe gu sh wo dn mi fl tk go : Int) (sz : Nat) (hr_wi : 0 ≤ wi ∧ wi ≤ 16) (hr_ro : 0 ≤ ro ∧ ro ≤ 6) (hr_dr : 0 ≤ dr ∧ dr ≤ 14) (hr_dt : 0 ≤ dt ∧ dt ≤ 6) (hr_pe : 0 ≤ pe ∧ pe ≤ 8) (hr_gu : 0 ≤ gu ∧ gu ≤ 20) (hr_sh : 0 ≤ sh ∧ sh ≤ 2) (hr_wo : 0 ≤ wo ∧ wo ≤ 8) (hr_dn : (-2147483648) ≤ dn ∧ dn ≤ 2147483647) (hr_mi : 0 ≤ mi ∧ mi ≤ 600) (hr_fl : (-2147483648) ≤ fl ∧ fl ≤ 2147483647) (hr_tk : (-2147483648) ≤ tk ∧ tk ≤ 2147483647) (hr_go : (-2147483648) ≤ go ∧ go ≤ 2147483647) : mI9 l yX6_isTold vs_s_isTold ({ frames := 0, cells := 0, slots := 0, locals := 0 }) D cy sa sz [vR sA] [zO sA 6 [vI wi, vI ro, vR s2, vR s3, vI dr, vI dt, vR s6, vI pe, vR s8, vI gu, vI sh, vR s11, vI wo, vR s13, vI dn, vI mi, vI fl, vI tk, vI go]] (fun (r : Int32) (u : SV) => r = iI (u.2.1 0) ∧ (0 ≤ u.2.1 0 ∧ u.2.1 0 ≤ 1) ∧ (u.2.1 0 = 1 → 0 < wi)) (fun u : SV => [zO sA 6 [vI wi, vI ro, vR s2, vR s3, vI dr, vI dt, vR s6, vI pe, vR s8, vI gu, vI sh, vR s11, vI wo, vR s13, vI dn, vI mi, vI fl, vI tk, vI go]]) 0 0 := by
  refine Met.ofW (cc := cX6_isTold) (maxL := 1) (ret := (some .boolean)) (by decide) rfl ?_
  intro p e s m args below meth c s₁ B hml hv
  obtain ⟨rfl, hsz, hP, hG, hD0, hT⟩ := hv
  have hx := B.exec
  have hb := B.bytes
  have hr := B.returns
  have hts := atoms_spec (ws := vs_s_isTold) B.pre
  have hown : s.vm.findClass RX6 = some m.cls := findClass_of_methodNamed B.named
  have hlocks := B.notSynchronized
  subst hsz
  have hD := hD0.self (sz := s.heap.size)
  generalize hAe : va_A [zO sA 6 [vI wi, vI ro, vR s2, vR s3, vI dr, vI dt, vR s6, vI pe, vR s8, vI gu, vI sh, vR s11, vI wo, vR s13, vI dn, vI mi, vI fl, vI tk, vI go]] s.heap.size = A at hD hT ⊢
  have hA : ∀ q : Nat, s.heap.size ≤ q → A q := fun q h => by rw [← hAe]; exact Or.inr h
  have hS : va_S A s.heap s.heap [] := va_S.rf
  have hl0 := lv_entry ([vR sA]) (n := 1) (Nat.le_of_ble_eq_true rfl)
  rw [lg_entry_eq]
  generalize (lg_sl ([vR sA]) ++ List.replicate (1 - (lg_sl ([vR sA])).length) Slot.unset).toArray = ls at hl0 ⊢
  have hlv : lv_has ls 1 [(0, vR sA)] := hl0
  have lf28 := hts (.fieldLink RX6 28 "KerbSplash$Street" "wide" "I") (List.mem_of_getElem? (i := 1) rfl)
  have hi6 : ∀ w ∈ wsX60, w ∈ vs_s_isTold := fun w h => List.mem_cons_of_mem _ (List.mem_append_right _ (List.mem_append_left _ h))
  refine lv_aload_n hx hb dX6_isTold_0 rfl (lv_at hlv 0 rfl) ?_
  refine va_get (D := D) (ci := 6) (v := vI wi) (C := RX6) (T := TX6) (N := 19) hx hb hts hi6 hown hG.1 hP 0 rfl rfl 0 (by decide) lf28 (fun _ h9 => h9) rfl dX6_isTold_1 ?_
  refine iz_le (tgt := 11) hx hb dX6_isTold_4 (by decide) (by first | exact rgw hr_wi (by decide) (by decide) | omega) (fun c_1 => ?_) (fun c_1 => ?_)
  · refine lv_iconst (v := iI 0) hx hb dX6_isTold_11 (by decide) ?_
    refine W.widen (k := 0) (n := 0) (Nat.le_of_ble_eq_true rfl) (Nat.le_of_ble_eq_true rfl) ?_
    exact W.zret (v := iI 0) hx hb hr (by first | rfl | decide) (fun t ht hW => ⟨⟨iI 0, ((fun k => ([] : List Nat).getD k 0), (fun k => ([0] : List Int).getD k 0), (fun k => ([] : List (Nat → Int32)).getD k (fun _ => 0))), rfl, ⟨rfl, (by show (0 ≤ 0 ∧ 0 ≤ 1); show (0 : Int) ≤ 0 ∧ (0 : Int) ≤ 1; decide), (by show (0 = 1 → 0 < wi); omega)⟩, at9 ht hP hD [0] (by decide +kernel) rfl⟩, hS.F ht⟩) hS.2.2 dX6_isTold_12
  · refine lv_iconst (v := iI 1) hx hb dX6_isTold_7 (by decide) ?_
    refine lv_goto (tgt := 12) hx hb dX6_isTold_8 (by decide) ?_
    refine W.widen (k := 0) (n := 0) (Nat.le_of_ble_eq_true rfl) (Nat.le_of_ble_eq_true rfl) ?_
    exact W.zret (v := iI 1) hx hb hr (by first | rfl | decide) (fun t ht hW => ⟨⟨iI 1, ((fun k => ([] : List Nat).getD k 0), (fun k => ([1] : List Int).getD k 0), (fun k => ([] : List (Nat → Int32)).getD k (fun _ => 0))), rfl, ⟨rfl, (by show (0 ≤ 1 ∧ 1 ≤ 1); show (0 : Int) ≤ 1 ∧ (1 : Int) ≤ 1; decide), (by show (1 = 1 → 0 < wi); omega)⟩, at9 ht hP hD [0] (by decide +kernel) rfl⟩, hS.F ht⟩) hS.2.2 dX6_isTold_12
def vs_s_hasTime : List Cond := .code yX6_hasTime cX6_hasTime 1 (some .boolean) :: (([.fieldLink RX6 62 "KerbSplash$Street" "minutes" "I"] : List Cond) ++ ((wsX60) ++ ([])))
theorem gd_s_hasTime : vs_s_hasTime.all goodWord = true := gd_C (by decide +kernel) (gd_A (by decide +kernel) (gd_A (by decide +kernel) rfl))
set_option maxHeartbeats 4000000 in
set_option maxRecDepth 100000 in
theorem s_hasTime (l : Launch) (hl : l.stackTraces = false) (D : va_G) (cy : Nat → ClassId) (sa : Nat → Nat) (sA s2 s3 s6 s8 s11 s13 : Nat) (wi ro dr dt pe gu sh wo dn mi fl tk go : Int) (sz : Nat) (hr_wi : 0 ≤ wi ∧ wi ≤ 16) (hr_ro : 0 ≤ ro ∧ ro ≤ 6) (hr_dr : 0 ≤ dr ∧ dr ≤ 14) (hr_dt : 0 ≤ dt ∧ dt ≤ 6) (hr_pe : 0 ≤ pe ∧ pe ≤ 8) (hr_gu : 0 ≤ gu ∧ gu ≤ 20) (hr_sh : 0 ≤ sh ∧ sh ≤ 2) (hr_wo : 0 ≤ wo ∧ wo ≤ 8) (hr_dn : (-2147483648) ≤ dn ∧ dn ≤ 2147483647) (hr_mi : 0 ≤ mi ∧ mi ≤ 600) (hr_fl : (-2147483648) ≤ fl ∧ fl ≤ 2147483647) (hr_tk : (-2147483648) ≤ tk ∧ tk ≤ 2147483647) (hr_go : (-2147483648) ≤ go ∧ go ≤ 2147483647) : mI9 l yX6_hasTime vs_s_hasTime ({ frames := 0, cells := 0, slots := 0, locals := 0 }) D cy sa sz [vR sA] [zO sA 6 [vI wi, vI ro, vR s2, vR s3, vI dr, vI dt, vR s6, vI pe, vR s8, vI gu, vI sh, vR s11, vI wo, vR s13, vI dn, vI mi, vI fl, vI tk, vI go]] (fun (r : Int32) (u : SV) => r = iI (u.2.1 0) ∧ (0 ≤ u.2.1 0 ∧ u.2.1 0 ≤ 1) ∧ (u.2.1 0 = 1 → mi < 600)) (fun u : SV => [zO sA 6 [vI wi, vI ro, vR s2, vR s3, vI dr, vI dt, vR s6, vI pe, vR s8, vI gu, vI sh, vR s11, vI wo, vR s13, vI dn, vI mi, vI fl, vI tk, vI go]]) 0 0 := by
  refine Met.ofW (cc := cX6_hasTime) (maxL := 1) (ret := (some .boolean)) (by decide) rfl ?_
  intro p e s m args below meth c s₁ B hml hv
  obtain ⟨rfl, hsz, hP, hG, hD0, hT⟩ := hv
  have hx := B.exec
  have hb := B.bytes
  have hr := B.returns
  have hts := atoms_spec (ws := vs_s_hasTime) B.pre
  have hown : s.vm.findClass RX6 = some m.cls := findClass_of_methodNamed B.named
  have hlocks := B.notSynchronized
  subst hsz
  have hD := hD0.self (sz := s.heap.size)
  generalize hAe : va_A [zO sA 6 [vI wi, vI ro, vR s2, vR s3, vI dr, vI dt, vR s6, vI pe, vR s8, vI gu, vI sh, vR s11, vI wo, vR s13, vI dn, vI mi, vI fl, vI tk, vI go]] s.heap.size = A at hD hT ⊢
  have hA : ∀ q : Nat, s.heap.size ≤ q → A q := fun q h => by rw [← hAe]; exact Or.inr h
  have hS : va_S A s.heap s.heap [] := va_S.rf
  have hl0 := lv_entry ([vR sA]) (n := 1) (Nat.le_of_ble_eq_true rfl)
  rw [lg_entry_eq]
  generalize (lg_sl ([vR sA]) ++ List.replicate (1 - (lg_sl ([vR sA])).length) Slot.unset).toArray = ls at hl0 ⊢
  have hlv : lv_has ls 1 [(0, vR sA)] := hl0
  have lf62 := hts (.fieldLink RX6 62 "KerbSplash$Street" "minutes" "I") (List.mem_of_getElem? (i := 1) rfl)
  have hi6 : ∀ w ∈ wsX60, w ∈ vs_s_hasTime := fun w h => List.mem_cons_of_mem _ (List.mem_append_right _ (List.mem_append_left _ h))
  refine lv_aload_n hx hb dX6_hasTime_0 rfl (lv_at hlv 0 rfl) ?_
  refine va_get (D := D) (ci := 6) (v := vI mi) (C := RX6) (T := TX6) (N := 19) hx hb hts hi6 hown hG.1 hP 0 rfl rfl 15 (by decide) lf62 (fun _ h9 => h9) rfl dX6_hasTime_1 ?_
  refine lv_sipush (v := iI 600) hx hb dX6_hasTime_4 (by decide) ?_
  refine ir_ge (tgt := 14) hx hb dX6_hasTime_7 (by decide) (by first | exact rgw hr_mi (by decide) (by decide) | omega) (by show ((-2147483648) : Int) ≤ 600 ∧ (600 : Int) ≤ 2147483647; decide) (fun c_1 => ?_) (fun c_1 => ?_)
  · refine lv_iconst (v := iI 0) hx hb dX6_hasTime_14 (by decide) ?_
    refine W.widen (k := 0) (n := 0) (Nat.le_of_ble_eq_true rfl) (Nat.le_of_ble_eq_true rfl) ?_
    exact W.zret (v := iI 0) hx hb hr (by first | rfl | decide) (fun t ht hW => ⟨⟨iI 0, ((fun k => ([] : List Nat).getD k 0), (fun k => ([0] : List Int).getD k 0), (fun k => ([] : List (Nat → Int32)).getD k (fun _ => 0))), rfl, ⟨rfl, (by show (0 ≤ 0 ∧ 0 ≤ 1); show (0 : Int) ≤ 0 ∧ (0 : Int) ≤ 1; decide), (by show (0 = 1 → mi < 600); omega)⟩, at9 ht hP hD [0] (by decide +kernel) rfl⟩, hS.F ht⟩) hS.2.2 dX6_hasTime_15
  · refine lv_iconst (v := iI 1) hx hb dX6_hasTime_10 (by decide) ?_
    refine lv_goto (tgt := 15) hx hb dX6_hasTime_11 (by decide) ?_
    refine W.widen (k := 0) (n := 0) (Nat.le_of_ble_eq_true rfl) (Nat.le_of_ble_eq_true rfl) ?_
    exact W.zret (v := iI 1) hx hb hr (by first | rfl | decide) (fun t ht hW => ⟨⟨iI 1, ((fun k => ([] : List Nat).getD k 0), (fun k => ([1] : List Int).getD k 0), (fun k => ([] : List (Nat → Int32)).getD k (fun _ => 0))), rfl, ⟨rfl, (by show (0 ≤ 1 ∧ 1 ≤ 1); show (0 : Int) ≤ 1 ∧ (1 : Int) ≤ 1; decide), (by show (1 = 1 → mi < 600); omega)⟩, at9 ht hP hD [0] (by decide +kernel) rfl⟩, hS.F ht⟩) hS.2.2 dX6_hasTime_15
def vs_s_surface : List Cond := .code yX6_surface cX6_surface 2 (some .int) :: (([.fieldLink RX6 9 "KerbSplash$Street" "height" "[I", .fieldLink RX6 13 "KerbSplash$Street" "water" "[I"] : List Cond) ++ ((wsX60) ++ ([])))
theorem gd_s_surface : vs_s_surface.all goodWord = true := gd_C (by decide +kernel) (gd_A (by decide +kernel) (gd_A (by decide +kernel) rfl))
set_option maxHeartbeats 4000000 in
set_option maxRecDepth 100000 in
theorem s_surface (l : Launch) (hl : l.stackTraces = false) (D : va_G) (cy : Nat → ClassId) (sa : Nat → Nat) (sA s2 s3 s6 s8 s11 s13 : Nat) (wi ro dr dt pe gu sh wo dn mi fl tk go : Int) (hf wf : Nat → Int32) (n : Int) (sz : Nat) (hr_wi : 0 ≤ wi ∧ wi ≤ 16) (hr_ro : 0 ≤ ro ∧ ro ≤ 6) (hr_dr : 0 ≤ dr ∧ dr ≤ 14) (hr_dt : 0 ≤ dt ∧ dt ≤ 6) (hr_pe : 0 ≤ pe ∧ pe ≤ 8) (hr_gu : 0 ≤ gu ∧ gu ≤ 20) (hr_sh : 0 ≤ sh ∧ sh ≤ 2) (hr_wo : 0 ≤ wo ∧ wo ≤ 8) (hr_dn : (-2147483648) ≤ dn ∧ dn ≤ 2147483647) (hr_mi : 0 ≤ mi ∧ mi ≤ 600) (hr_fl : (-2147483648) ≤ fl ∧ fl ≤ 2147483647) (hr_tk : (-2147483648) ≤ tk ∧ tk ≤ 2147483647) (hr_go : (-2147483648) ≤ go ∧ go ≤ 2147483647) (hr_n : 0 ≤ n ∧ n ≤ 95) (hhf : inv_ 96 0 99 hf) : mI9 l yX6_surface vs_s_surface ({ frames := 0, cells := 0, slots := 0, locals := 0 }) D cy sa sz [vR sA, vI n] [zO sA 6 [vI wi, vI ro, vR s2, vR s3, vI dr, vI dt, vR s6, vI pe, vR s8, vI gu, vI sh, vR s11, vI wo, vR s13, vI dn, vI mi, vI fl, vI tk, vI go], zI s2 (cy 0) 96 hf, zI s3 (cy 0) 96 wf] (fun (r : Int32) (u : SV) => r = iI (u.2.1 0) ∧ ((-2147483648) ≤ u.2.1 0 ∧ u.2.1 0 ≤ 2147483647) ∧ inv_ 96 0 99 hf) (fun u : SV => [zO sA 6 [vI wi, vI ro, vR s2, vR s3, vI dr, vI dt, vR s6, vI pe, vR s8, vI gu, vI sh, vR s11, vI wo, vR s13, vI dn, vI mi, vI fl, vI tk, vI go], zI s2 (cy 0) 96 hf, zI s3 (cy 0) 96 wf]) 0 0 := by
  refine Met.ofW (cc := cX6_surface) (maxL := 2) (ret := (some .int)) (by decide) rfl ?_
  intro p e s m args below meth c s₁ B hml hv
  obtain ⟨rfl, hsz, hP, hG, hD0, hT⟩ := hv
  have hx := B.exec
  have hb := B.bytes
  have hr := B.returns
  have hts := atoms_spec (ws := vs_s_surface) B.pre
  have hown : s.vm.findClass RX6 = some m.cls := findClass_of_methodNamed B.named
  have hlocks := B.notSynchronized
  subst hsz
  have hD := hD0.self (sz := s.heap.size)
  generalize hAe : va_A [zO sA 6 [vI wi, vI ro, vR s2, vR s3, vI dr, vI dt, vR s6, vI pe, vR s8, vI gu, vI sh, vR s11, vI wo, vR s13, vI dn, vI mi, vI fl, vI tk, vI go], zI s2 (cy 0) 96 hf, zI s3 (cy 0) 96 wf] s.heap.size = A at hD hT ⊢
  have hA : ∀ q : Nat, s.heap.size ≤ q → A q := fun q h => by rw [← hAe]; exact Or.inr h
  have hS : va_S A s.heap s.heap [] := va_S.rf
  have hl0 := lv_entry ([vR sA, vI n]) (n := 2) (Nat.le_of_ble_eq_true rfl)
  rw [lg_entry_eq]
  generalize (lg_sl ([vR sA, vI n]) ++ List.replicate (2 - (lg_sl ([vR sA, vI n])).length) Slot.unset).toArray = ls at hl0 ⊢
  have hlv : lv_has ls 2 [(0, vR sA), (1, vI n)] := hl0
  have lf9 := hts (.fieldLink RX6 9 "KerbSplash$Street" "height" "[I") (List.mem_of_getElem? (i := 1) rfl)
  have hi6 : ∀ w ∈ wsX60, w ∈ vs_s_surface := fun w h => List.mem_cons_of_mem _ (List.mem_append_right _ (List.mem_append_left _ h))
  have lf13 := hts (.fieldLink RX6 13 "KerbSplash$Street" "water" "[I") (List.mem_of_getElem? (i := 2) rfl)
  refine lv_aload_n hx hb dX6_surface_0 rfl (lv_at hlv 0 rfl) ?_
  refine va_get (D := D) (ci := 6) (v := vR s2) (C := RX6) (T := TX6) (N := 19) hx hb hts hi6 hown hG.1 hP 0 rfl rfl 2 (by decide) lf9 (fun _ h9 => h9) rfl dX6_surface_1 ?_
  refine lv_iload_n hx hb dX6_surface_4 rfl (lv_at hlv 1 rfl) ?_
  refine va_iald hx hb hG.1 hP 1 0 rfl rfl (iI_in (by omega) (by decide)) dX6_surface_5 ?_
  obtain ⟨z_1, ez_1, hz_1, lz_1⟩ := inv_rd hhf (e := n) (by omega) (by decide)
  refine lt_i (y := iI z_1) ez_1 ?_
  refine lv_aload_n hx hb dX6_surface_6 rfl (lv_at hlv 0 rfl) ?_
  refine va_get (D := D) (ci := 6) (v := vR s3) (C := RX6) (T := TX6) (N := 19) hx hb hts hi6 hown hG.1 hP 0 rfl rfl 3 (by decide) lf13 (fun _ h9 => h9) rfl dX6_surface_7 ?_
  refine lv_iload_n hx hb dX6_surface_10 rfl (lv_at hlv 1 rfl) ?_
  refine va_iald hx hb hG.1 hP 2 0 rfl rfl (iI_in (by omega) (by decide)) dX6_surface_11 ?_
  refine lt_z (fun z_2 ez_2 lz_2 hz_2 => ?_)
  refine lv_iadd hx hb dX6_surface_12 ?_
  refine lt_z (fun z_3 ez_3 lz_3 hz_3 => ?_)
  refine W.widen (k := 0) (n := 0) (Nat.le_of_ble_eq_true rfl) (Nat.le_of_ble_eq_true rfl) ?_
  exact W.iret (v := iI z_3) hx hb hr (fun t ht hW => ⟨⟨iI z_3, ((fun k => ([] : List Nat).getD k 0), (fun k => ([z_3] : List Int).getD k 0), (fun k => ([] : List (Nat → Int32)).getD k (fun _ => 0))), rfl, ⟨rfl, (by show ((-2147483648) ≤ z_3 ∧ z_3 ≤ 2147483647); omega), hhf⟩, at9 ht hP hD [0, 1, 2] (by decide +kernel) rfl⟩, hS.F ht⟩) hS.2.2 dX6_surface_13
def vs_s_standing : List Cond := .code yX6_standing cX6_standing 3 (some .int) :: (([.fieldLink RX6 13 "KerbSplash$Street" "water" "[I"] : List Cond) ++ ((wsV RX6 80 RX6 yX6_cells vs_s_cells) ++ ((wsX60) ++ ([]))))
theorem gd_s_standing : vs_s_standing.all goodWord = true := gd_C (by decide +kernel) (gd_A (by decide +kernel) (gd_A (gd_V gd_s_cells (by decide +kernel)) (gd_A (by decide +kernel) rfl)))
set_option maxHeartbeats 4000000 in
set_option maxRecDepth 100000 in
theorem s_standing (l : Launch) (hl : l.stackTraces = false) (D : va_G) (cy : Nat → ClassId) (sa : Nat → Nat) (sA s2 s3 s6 s8 s11 s13 : Nat) (wi ro dr dt pe gu sh wo dn mi fl tk go : Int) (wf : Nat → Int32) (sz : Nat) (hr_wi : 0 ≤ wi ∧ wi ≤ 16) (hr_ro : 0 ≤ ro ∧ ro ≤ 6) (hr_dr : 0 ≤ dr ∧ dr ≤ 14) (hr_dt : 0 ≤ dt ∧ dt ≤ 6) (hr_pe : 0 ≤ pe ∧ pe ≤ 8) (hr_gu : 0 ≤ gu ∧ gu ≤ 20) (hr_sh : 0 ≤ sh ∧ sh ≤ 2) (hr_wo : 0 ≤ wo ∧ wo ≤ 8) (hr_dn : (-2147483648) ≤ dn ∧ dn ≤ 2147483647) (hr_mi : 0 ≤ mi ∧ mi ≤ 600) (hr_fl : (-2147483648) ≤ fl ∧ fl ≤ 2147483647) (hr_tk : (-2147483648) ≤ tk ∧ tk ≤ 2147483647) (hr_go : (-2147483648) ≤ go ∧ go ≤ 2147483647) : mI9 l yX6_standing vs_s_standing ({ frames := 1, cells := 0, slots := 0, locals := 20 }) D cy sa sz [vR sA] [zO sA 6 [vI wi, vI ro, vR s2, vR s3, vI dr, vI dt, vR s6, vI pe, vR s8, vI gu, vI sh, vR s11, vI wo, vR s13, vI dn, vI mi, vI fl, vI tk, vI go], zI s3 (cy 0) 96 wf] (fun (r : Int32) (u : SV) => r = iI (u.2.1 0) ∧ ((-2147483648) ≤ u.2.1 0 ∧ u.2.1 0 ≤ 2147483647)) (fun u : SV => [zO sA 6 [vI wi, vI ro, vR s2, vR s3, vI dr, vI dt, vR s6, vI pe, vR s8, vI gu, vI sh, vR s11, vI wo, vR s13, vI dn, vI mi, vI fl, vI tk, vI go], zI s3 (cy 0) 96 wf]) 0 0 := by
  refine Met.ofW (cc := cX6_standing) (maxL := 3) (ret := (some .int)) (by decide) rfl ?_
  intro p e s m args below meth c s₁ B hml hv
  obtain ⟨rfl, hsz, hP, hG, hD0, hT⟩ := hv
  have hx := B.exec
  have hb := B.bytes
  have hr := B.returns
  have hts := atoms_spec (ws := vs_s_standing) B.pre
  have hown : s.vm.findClass RX6 = some m.cls := findClass_of_methodNamed B.named
  have hlocks := B.notSynchronized
  subst hsz
  have hD := hD0.self (sz := s.heap.size)
  generalize hAe : va_A [zO sA 6 [vI wi, vI ro, vR s2, vR s3, vI dr, vI dt, vR s6, vI pe, vR s8, vI gu, vI sh, vR s11, vI wo, vR s13, vI dn, vI mi, vI fl, vI tk, vI go], zI s3 (cy 0) 96 wf] s.heap.size = A at hD hT ⊢
  have hA : ∀ q : Nat, s.heap.size ≤ q → A q := fun q h => by rw [← hAe]; exact Or.inr h
  have hS : va_S A s.heap s.heap [] := va_S.rf
  have hl0 := lv_entry ([vR sA]) (n := 3) (Nat.le_of_ble_eq_true rfl)
  rw [lg_entry_eq]
  generalize (lg_sl ([vR sA]) ++ List.replicate (3 - (lg_sl ([vR sA])).length) Slot.unset).toArray = ls at hl0 ⊢
  have hlv : lv_has ls 3 [(0, vR sA)] := hl0
  have gg_0 : GoodIn vs_s_standing (wsV RX6 80 RX6 yX6_cells vs_s_cells) := goodIn_sub (fun w h => List.mem_cons_of_mem _ (List.mem_append_right _ (List.mem_append_left _ h))) (gd_V gd_s_cells (by decide +kernel))
  have lf13 := hts (.fieldLink RX6 13 "KerbSplash$Street" "water" "[I") (List.mem_of_getElem? (i := 1) rfl)
  have hi6 : ∀ w ∈ wsX60, w ∈ vs_s_standing := fun w h => List.mem_cons_of_mem _ (List.mem_append_right _ (List.mem_append_right _ (List.mem_append_left _ h)))
  refine lv_iconst (v := iI 0) hx hb dX6_standing_0 (by decide) ?_
  refine lv_istore_n (lv' := [(1, vI 0), (0, vR sA)]) hx hb dX6_standing_1 rfl hlv (by decide) rfl (fun ls hlv => ?_)
  refine lv_iconst (v := iI 0) hx hb dX6_standing_2 (by decide) ?_
  refine lv_istore_n (lv' := [(2, vI 0), (1, vI 0), (0, vR sA)]) hx hb dX6_standing_3 rfl hlv (by decide) rfl (fun ls hlv => ?_)
  refine (?_ : ∀ (fu : Nat) (x : Int) (v : Int) (H : Heap) (locs : List Loc) (ls : Array Slot), 96 - x < (fu : Int) → (0 ≤ x ∧ x ≤ 96) → ((-2147483648) ≤ v ∧ v ≤ 2147483647) → va_P D vwCl [zO sA 6 [vI wi, vI ro, vR s2, vR s3, vI dr, vI dt, vR s6, vI pe, vR s8, vI gu, vI sh, vR s11, vI wo, vR s13, vI dn, vI mi, vI fl, vI tk, vI go], zI s3 (cy 0) 96 wf] H → va_D A [zO sA 6 [vI wi, vI ro, vR s2, vR s3, vI dr, vI dt, vR s6, vI pe, vR s8, vI gu, vI sh, vR s11, vI wo, vR s13, vI dn, vI mi, vI fl, vI tk, vI go], zI s3 (cy 0) 96 wf] → va_S A s.heap H locs → lv_has ls 3 [(2, vI x), (1, vI v), (0, vR sA)] → W p l e _ s m _ below meth c H locs _ _ _ (F0 m 4 ls [])) (((96 - 0) + 1 : Int)).toNat 0 0 _ _ _ (by omega) (by show (0 : Int) ≤ 0 ∧ (0 : Int) ≤ 96; decide) (by show ((-2147483648) : Int) ≤ 0 ∧ (0 : Int) ≤ 2147483647; decide)  hP hD hS hlv
  clear hP hD hS hlv
  intro fu
  induction fu with
  | zero => intro x v H locs ls hm4 hl4_0 hl4_1  hP hD hS hlv; omega
  | succ fu ih4 =>
    intro x v H locs ls hm4 hl4_0 hl4_1  hP hD hS hlv
    refine lv_iload_n hx hb dX6_standing_4 rfl (lv_at hlv 0 rfl) ?_
    refine lv_aload_n hx hb dX6_standing_5 rfl (lv_at hlv 2 rfl) ?_
    refine cjr_i [false, true] (fun pre9 => (va_runV (As := []) (rest := [vI x]) ⟨hx, hb, hml, hown, hts⟩ (s_cells l hl D cy sa sA s2 s3 s6 s8 s11 s13 wi ro dr dt pe gu sh wo dn mi fl tk go H.size (by first | exact hr_wi | omega) (by first | exact hr_ro | omega) (by first | exact hr_dr | omega) (by first | exact hr_dt | omega) (by first | exact hr_pe | omega) (by first | exact hr_gu | omega) (by first | exact hr_sh | omega) (by first | exact hr_wo | omega) (by first | exact hr_dn | omega) (by first | exact hr_mi | omega) (by first | exact hr_fl | omega) (by first | exact hr_tk | omega) (by first | exact hr_go | omega)) (cwV 0 hts gg_0 rfl rfl rfl (by decide +kernel) ⟨Nat.le_of_ble_eq_true rfl, Nat.le_of_ble_eq_true rfl⟩) ⟨pcW.blind, (va_recv hG.1 hP (ci := 6) (q0 := 0) rfl rfl), pre9⟩ rfl rfl hlv.1 rfl (lv_room (Nat.le_of_ble_eq_true rfl)) dX6_standing_6 ⟨Nat.le_of_ble_eq_true rfl, Nat.le_of_ble_eq_true rfl⟩)) hP hD hS hA hG hT [0] rfl (by decide +kernel) (fun r1 u1 H locs hw1 hq9 hS => ?_)
    obtain ⟨rfl, hq1_1⟩ := hw1
    obtain ⟨hP, hD⟩ := pd9 [zI s3 (cy 0) 96 wf, zO sA 6 [vI wi, vI ro, vR s2, vR s3, vI dr, vI dt, vR s6, vI pe, vR s8, vI gu, vI sh, vR s11, vI wo, vR s13, vI dn, vI mi, vI fl, vI tk, vI go]] hq9
    refine ir_ge (tgt := 27) hx hb dX6_standing_9 (by decide) (by first | exact rgw hl4_0 (by decide) (by decide) | omega) (by first | exact rgw hq1_1 (by decide) (by decide) | omega) (fun c_1 => ?_) (fun c_1 => ?_)
    · refine lv_iload_n hx hb dX6_standing_27 rfl (lv_at hlv 1 rfl) ?_
      refine W.widen (k := 0) (n := 0) (Nat.le_of_ble_eq_true rfl) (Nat.le_of_ble_eq_true rfl) ?_
      exact W.iret (v := iI v) hx hb hr (fun t ht hW => ⟨⟨iI v, ((fun k => ([] : List Nat).getD k 0), (fun k => ([v] : List Int).getD k 0), (fun k => ([] : List (Nat → Int32)).getD k (fun _ => 0))), rfl, ⟨rfl, (by show ((-2147483648) ≤ v ∧ v ≤ 2147483647); first | exact hl4_1 | omega)⟩, at9 ht hP hD [1, 0] (by decide +kernel) rfl⟩, hS.F ht⟩) hS.2.2 dX6_standing_28
    · refine lv_iload_n hx hb dX6_standing_12 rfl (lv_at hlv 1 rfl) ?_
      refine lv_aload_n hx hb dX6_standing_13 rfl (lv_at hlv 2 rfl) ?_
      refine va_get (D := D) (ci := 6) (v := vR s3) (C := RX6) (T := TX6) (N := 19) hx hb hts hi6 hown hG.1 hP 1 rfl rfl 3 (by decide) lf13 (fun _ h9 => h9) rfl dX6_standing_14 ?_
      refine lv_iload_n hx hb dX6_standing_17 rfl (lv_at hlv 0 rfl) ?_
      refine va_iald hx hb hG.1 hP 0 0 rfl rfl (iI_in (by omega) (by decide)) dX6_standing_18 ?_
      refine lt_z (fun z_2 ez_2 lz_2 hz_2 => ?_)
      refine lv_iadd hx hb dX6_standing_19 ?_
      refine lt_z (fun z_3 ez_3 lz_3 hz_3 => ?_)
      refine lv_istore_n (lv' := [(1, vI z_3), (2, vI x), (0, vR sA)]) hx hb dX6_standing_20 rfl hlv (by decide) rfl (fun ls hlv => ?_)
      obtain ⟨z_4, hz_4⟩ : ∃ z : Int, z = x + 1 := ⟨_, rfl⟩
      refine lv_iinc (v := iI z_4) (lv' := [(2, vI z_4), (1, vI z_3), (0, vR sA)]) hx hb dX6_standing_21 hlv (k := 1) rfl (by rw [hz_4]; exact (Int32.ofInt_add _ _).symm) (by decide) rfl (fun ls hlv => ?_)
      refine lv_goto (tgt := 4) hx hb dX6_standing_24 (by decide) ?_
      exact ih4 z_4 z_3 H locs ls (by omega) (by omega) (by omega)  (hP.sub [1, 0] rfl) (hD.sub [1, 0] (by decide) rfl) hS (lv_sub hlv [0, 1, 2] rfl)
def vs_s_iceCells : List Cond := .code yX6_iceCells cX6_iceCells 4 (some .int) :: (([.fieldLink RX6 13 "KerbSplash$Street" "water" "[I"] : List Cond) ++ ((wsV RX6 80 RX6 yX6_cells vs_s_cells) ++ ((wsX60) ++ ([]))))
theorem gd_s_iceCells : vs_s_iceCells.all goodWord = true := gd_C (by decide +kernel) (gd_A (by decide +kernel) (gd_A (gd_V gd_s_cells (by decide +kernel)) (gd_A (by decide +kernel) rfl)))
set_option maxHeartbeats 4000000 in
set_option maxRecDepth 100000 in
theorem s_iceCells (l : Launch) (hl : l.stackTraces = false) (D : va_G) (cy : Nat → ClassId) (sa : Nat → Nat) (sA s2 s3 s6 s8 s11 s13 : Nat) (wi ro dr dt pe gu sh wo dn mi fl tk go : Int) (wf : Nat → Int32) (n : Int) (sz : Nat) (hr_wi : 0 ≤ wi ∧ wi ≤ 16) (hr_ro : 0 ≤ ro ∧ ro ≤ 6) (hr_dr : 0 ≤ dr ∧ dr ≤ 14) (hr_dt : 0 ≤ dt ∧ dt ≤ 6) (hr_pe : 0 ≤ pe ∧ pe ≤ 8) (hr_gu : 0 ≤ gu ∧ gu ≤ 20) (hr_sh : 0 ≤ sh ∧ sh ≤ 2) (hr_wo : 0 ≤ wo ∧ wo ≤ 8) (hr_dn : (-2147483648) ≤ dn ∧ dn ≤ 2147483647) (hr_mi : 0 ≤ mi ∧ mi ≤ 600) (hr_fl : (-2147483648) ≤ fl ∧ fl ≤ 2147483647) (hr_tk : (-2147483648) ≤ tk ∧ tk ≤ 2147483647) (hr_go : (-2147483648) ≤ go ∧ go ≤ 2147483647) (hr_n : (-2147483648) ≤ n ∧ n ≤ 2147483647) : mI9 l yX6_iceCells vs_s_iceCells ({ frames := 1, cells := 0, slots := 0, locals := 20 }) D cy sa sz [vR sA, vI n] [zO sA 6 [vI wi, vI ro, vR s2, vR s3, vI dr, vI dt, vR s6, vI pe, vR s8, vI gu, vI sh, vR s11, vI wo, vR s13, vI dn, vI mi, vI fl, vI tk, vI go], zI s3 (cy 0) 96 wf] (fun (r : Int32) (u : SV) => r = iI (u.2.1 0) ∧ (0 ≤ u.2.1 0 ∧ u.2.1 0 ≤ 96)) (fun u : SV => [zO sA 6 [vI wi, vI ro, vR s2, vR s3, vI dr, vI dt, vR s6, vI pe, vR s8, vI gu, vI sh, vR s11, vI wo, vR s13, vI dn, vI mi, vI fl, vI tk, vI go], zI s3 (cy 0) 96 wf]) 0 0 := by
  refine Met.ofW (cc := cX6_iceCells) (maxL := 4) (ret := (some .int)) (by decide) rfl ?_
  intro p e s m args below meth c s₁ B hml hv
  obtain ⟨rfl, hsz, hP, hG, hD0, hT⟩ := hv
  have hx := B.exec
  have hb := B.bytes
  have hr := B.returns
  have hts := atoms_spec (ws := vs_s_iceCells) B.pre
  have hown : s.vm.findClass RX6 = some m.cls := findClass_of_methodNamed B.named
  have hlocks := B.notSynchronized
  subst hsz
  have hD := hD0.self (sz := s.heap.size)
  generalize hAe : va_A [zO sA 6 [vI wi, vI ro, vR s2, vR s3, vI dr, vI dt, vR s6, vI pe, vR s8, vI gu, vI sh, vR s11, vI wo, vR s13, vI dn, vI mi, vI fl, vI tk, vI go], zI s3 (cy 0) 96 wf] s.heap.size = A at hD hT ⊢
  have hA : ∀ q : Nat, s.heap.size ≤ q → A q := fun q h => by rw [← hAe]; exact Or.inr h
  have hS : va_S A s.heap s.heap [] := va_S.rf
  have hl0 := lv_entry ([vR sA, vI n]) (n := 4) (Nat.le_of_ble_eq_true rfl)
  rw [lg_entry_eq]
  generalize (lg_sl ([vR sA, vI n]) ++ List.replicate (4 - (lg_sl ([vR sA, vI n])).length) Slot.unset).toArray = ls at hl0 ⊢
  have hlv : lv_has ls 4 [(0, vR sA), (1, vI n)] := hl0
  have gg_0 : GoodIn vs_s_iceCells (wsV RX6 80 RX6 yX6_cells vs_s_cells) := goodIn_sub (fun w h => List.mem_cons_of_mem _ (List.mem_append_right _ (List.mem_append_left _ h))) (gd_V gd_s_cells (by decide +kernel))
  have lf13 := hts (.fieldLink RX6 13 "KerbSplash$Street" "water" "[I") (List.mem_of_getElem? (i := 1) rfl)
  have hi6 : ∀ w ∈ wsX60, w ∈ vs_s_iceCells := fun w h => List.mem_cons_of_mem _ (List.mem_append_right _ (List.mem_append_right _ (List.mem_append_left _ h)))
  refine lv_iconst (v := iI 0) hx hb dX6_iceCells_0 (by decide) ?_
  refine lv_istore_n (lv' := [(2, vI 0), (0, vR sA), (1, vI n)]) hx hb dX6_iceCells_1 rfl hlv (by decide) rfl (fun ls hlv => ?_)
  refine lv_iconst (v := iI 0) hx hb dX6_iceCells_2 (by decide) ?_
  refine lv_istore_n (lv' := [(3, vI 0), (2, vI 0), (0, vR sA), (1, vI n)]) hx hb dX6_iceCells_3 rfl hlv (by decide) rfl (fun ls hlv => ?_)
  refine (?_ : ∀ (fu : Nat) (x : Int) (v : Int) (H : Heap) (locs : List Loc) (ls : Array Slot), 96 - x < (fu : Int) → (0 ≤ x ∧ x ≤ 96) → (0 ≤ v ∧ v ≤ 96) → (v ≤ x) → va_P D vwCl [zO sA 6 [vI wi, vI ro, vR s2, vR s3, vI dr, vI dt, vR s6, vI pe, vR s8, vI gu, vI sh, vR s11, vI wo, vR s13, vI dn, vI mi, vI fl, vI tk, vI go], zI s3 (cy 0) 96 wf] H → va_D A [zO sA 6 [vI wi, vI ro, vR s2, vR s3, vI dr, vI dt, vR s6, vI pe, vR s8, vI gu, vI sh, vR s11, vI wo, vR s13, vI dn, vI mi, vI fl, vI tk, vI go], zI s3 (cy 0) 96 wf] → va_S A s.heap H locs → lv_has ls 4 [(3, vI x), (2, vI v), (0, vR sA), (1, vI n)] → W p l e _ s m _ below meth c H locs _ _ _ (F0 m 4 ls [])) (((96 - 0) + 1 : Int)).toNat 0 0 _ _ _ (by omega) (by show (0 : Int) ≤ 0 ∧ (0 : Int) ≤ 96; decide) (by show (0 : Int) ≤ 0 ∧ (0 : Int) ≤ 96; decide) (by omega)  hP hD hS hlv
  clear hP hD hS hlv
  intro fu
  induction fu with
  | zero => intro x v H locs ls hm4 hl4_0 hl4_1 hl4_2  hP hD hS hlv; omega
  | succ fu ih4 =>
    intro x v H locs ls hm4 hl4_0 hl4_1 hl4_2  hP hD hS hlv
    refine lv_iload_n hx hb dX6_iceCells_4 rfl (lv_at hlv 0 rfl) ?_
    refine lv_aload_n hx hb dX6_iceCells_5 rfl (lv_at hlv 2 rfl) ?_
    refine cjr_i [false, true] (fun pre9 => (va_runV (As := []) (rest := [vI x]) ⟨hx, hb, hml, hown, hts⟩ (s_cells l hl D cy sa sA s2 s3 s6 s8 s11 s13 wi ro dr dt pe gu sh wo dn mi fl tk go H.size (by first | exact hr_wi | omega) (by first | exact hr_ro | omega) (by first | exact hr_dr | omega) (by first | exact hr_dt | omega) (by first | exact hr_pe | omega) (by first | exact hr_gu | omega) (by first | exact hr_sh | omega) (by first | exact hr_wo | omega) (by first | exact hr_dn | omega) (by first | exact hr_mi | omega) (by first | exact hr_fl | omega) (by first | exact hr_tk | omega) (by first | exact hr_go | omega)) (cwV 0 hts gg_0 rfl rfl rfl (by decide +kernel) ⟨Nat.le_of_ble_eq_true rfl, Nat.le_of_ble_eq_true rfl⟩) ⟨pcW.blind, (va_recv hG.1 hP (ci := 6) (q0 := 0) rfl rfl), pre9⟩ rfl rfl hlv.1 rfl (lv_room (Nat.le_of_ble_eq_true rfl)) dX6_iceCells_6 ⟨Nat.le_of_ble_eq_true rfl, Nat.le_of_ble_eq_true rfl⟩)) hP hD hS hA hG hT [0] rfl (by decide +kernel) (fun r1 u1 H locs hw1 hq9 hS => ?_)
    obtain ⟨rfl, hq1_1⟩ := hw1
    obtain ⟨hP, hD⟩ := pd9 [zI s3 (cy 0) 96 wf, zO sA 6 [vI wi, vI ro, vR s2, vR s3, vI dr, vI dt, vR s6, vI pe, vR s8, vI gu, vI sh, vR s11, vI wo, vR s13, vI dn, vI mi, vI fl, vI tk, vI go]] hq9
    refine ir_ge (tgt := 31) hx hb dX6_iceCells_9 (by decide) (by first | exact rgw hl4_0 (by decide) (by decide) | omega) (by first | exact rgw hq1_1 (by decide) (by decide) | omega) (fun c_1 => ?_) (fun c_1 => ?_)
    · refine lv_iload_n hx hb dX6_iceCells_31 rfl (lv_at hlv 1 rfl) ?_
      refine W.widen (k := 0) (n := 0) (Nat.le_of_ble_eq_true rfl) (Nat.le_of_ble_eq_true rfl) ?_
      exact W.iret (v := iI v) hx hb hr (fun t ht hW => ⟨⟨iI v, ((fun k => ([] : List Nat).getD k 0), (fun k => ([v] : List Int).getD k 0), (fun k => ([] : List (Nat → Int32)).getD k (fun _ => 0))), rfl, ⟨rfl, (by show (0 ≤ v ∧ v ≤ 96); first | exact hl4_1 | omega)⟩, at9 ht hP hD [1, 0] (by decide +kernel) rfl⟩, hS.F ht⟩) hS.2.2 dX6_iceCells_32
    · refine lv_aload_n hx hb dX6_iceCells_12 rfl (lv_at hlv 2 rfl) ?_
      refine va_get (D := D) (ci := 6) (v := vR s3) (C := RX6) (T := TX6) (N := 19) hx hb hts hi6 hown hG.1 hP 1 rfl rfl 3 (by decide) lf13 (fun _ h9 => h9) rfl dX6_iceCells_13 ?_
      refine lv_iload_n hx hb dX6_iceCells_16 rfl (lv_at hlv 0 rfl) ?_
      refine va_iald hx hb hG.1 hP 0 0 rfl rfl (iI_in (by omega) (by decide)) dX6_iceCells_17 ?_
      refine lt_z (fun z_2 ez_2 lz_2 hz_2 => ?_)
      refine lv_iload_n hx hb dX6_iceCells_18 rfl (lv_at hlv 3 rfl) ?_
      refine ir_lt (tgt := 25) hx hb dX6_iceCells_19 (by decide) (by omega) (by first | exact hr_n | omega) (fun c_3 => ?_) (fun c_3 => ?_)
      · obtain ⟨z_4, hz_4⟩ : ∃ z : Int, z = x + 1 := ⟨_, rfl⟩
        refine lv_iinc (v := iI z_4) (lv' := [(3, vI z_4), (2, vI v), (0, vR sA), (1, vI n)]) hx hb dX6_iceCells_25 hlv (k := 0) rfl (by rw [hz_4]; exact (Int32.ofInt_add _ _).symm) (by decide) rfl (fun ls hlv => ?_)
        refine lv_goto (tgt := 4) hx hb dX6_iceCells_28 (by decide) ?_
        exact ih4 z_4 v H locs ls (by omega) (by omega) (by first | exact hl4_1 | omega) (by omega)  (hP.sub [1, 0] rfl) (hD.sub [1, 0] (by decide) rfl) hS (lv_sub hlv [0, 1, 2, 3] rfl)
      · obtain ⟨z_5, hz_5⟩ : ∃ z : Int, z = v + 1 := ⟨_, rfl⟩
        refine lv_iinc (v := iI z_5) (lv' := [(2, vI z_5), (3, vI x), (0, vR sA), (1, vI n)]) hx hb dX6_iceCells_22 hlv (k := 1) rfl (by rw [hz_5]; exact (Int32.ofInt_add _ _).symm) (by decide) rfl (fun ls hlv => ?_)
        obtain ⟨z_6, hz_6⟩ : ∃ z : Int, z = x + 1 := ⟨_, rfl⟩
        refine lv_iinc (v := iI z_6) (lv' := [(3, vI z_6), (2, vI z_5), (0, vR sA), (1, vI n)]) hx hb dX6_iceCells_25 hlv (k := 1) rfl (by rw [hz_6]; exact (Int32.ofInt_add _ _).symm) (by decide) rfl (fun ls hlv => ?_)
        refine lv_goto (tgt := 4) hx hb dX6_iceCells_28 (by decide) ?_
        exact ih4 z_6 z_5 H locs ls (by omega) (by omega) (by omega) (by omega)  (hP.sub [1, 0] rfl) (hD.sub [1, 0] (by decide) rfl) hS (lv_sub hlv [0, 1, 2, 3] rfl)
end
