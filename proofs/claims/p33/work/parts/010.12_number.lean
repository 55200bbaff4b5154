theorem dX11_isWithin_0 : decode cX11_isWithin 0 = .ok (.iload_n 0, 1) := by decide +kernel
theorem dX11_isWithin_1 : decode cX11_isWithin 1 = .ok (.iload_n 1, 1) := by decide +kernel
theorem dX11_isWithin_10 : decode cX11_isWithin 10 = .ok (.iconst 1, 1) := by decide +kernel
theorem dX11_isWithin_11 : decode cX11_isWithin 11 = .ok (.goto 4, 3) := by decide +kernel
theorem dX11_isWithin_14 : decode cX11_isWithin 14 = .ok (.iconst 0, 1) := by decide +kernel
theorem dX11_isWithin_15 : decode cX11_isWithin 15 = .ok (.ireturn, 1) := by decide +kernel
theorem dX11_isWithin_2 : decode cX11_isWithin 2 = .ok (.if_icmp .lt 12, 3) := by decide +kernel
theorem dX11_isWithin_5 : decode cX11_isWithin 5 = .ok (.iload_n 0, 1) := by decide +kernel
theorem dX11_isWithin_6 : decode cX11_isWithin 6 = .ok (.iload_n 2, 1) := by decide +kernel
theorem dX11_isWithin_7 : decode cX11_isWithin 7 = .ok (.if_icmp .gt 7, 3) := by decide +kernel
theorem dX8_number_0 : decode cX8_number 0 = .ok (.aload_n 0, 1) := by decide +kernel
theorem dX8_number_1 : decode cX8_number 1 = .ok (.invokevirtual 34, 3) := by decide +kernel
theorem dX8_number_10 : decode cX8_number 10 = .ok (.aload_n 0, 1) := by decide +kernel
theorem dX8_number_11 : decode cX8_number 11 = .ok (.iconst 1, 1) := by decide +kernel
theorem dX8_number_12 : decode cX8_number 12 = .ok (.invokevirtual 38, 3) := by decide +kernel
theorem dX8_number_15 : decode cX8_number 15 = .ok (.iload_n 1, 1) := by decide +kernel
theorem dX8_number_16 : decode cX8_number 16 = .ok (.ireturn, 1) := by decide +kernel
theorem dX8_number_17 : decode cX8_number 17 = .ok (.aload_n 0, 1) := by decide +kernel
theorem dX8_number_18 : decode cX8_number 18 = .ok (.getfield 25, 3) := by decide +kernel
theorem dX8_number_21 : decode cX8_number 21 = .ok (.istore_n 3, 1) := by decide +kernel
theorem dX8_number_22 : decode cX8_number 22 = .ok (.iconst 0, 1) := by decide +kernel
theorem dX8_number_23 : decode cX8_number 23 = .ok (.istore 4, 2) := by decide +kernel
theorem dX8_number_25 : decode cX8_number 25 = .ok (.iload_n 3, 1) := by decide +kernel
theorem dX8_number_26 : decode cX8_number 26 = .ok (.aload_n 0, 1) := by decide +kernel
theorem dX8_number_27 : decode cX8_number 27 = .ok (.getfield 22, 3) := by decide +kernel
theorem dX8_number_30 : decode cX8_number 30 = .ok (.if_icmp .ge 44, 3) := by decide +kernel
theorem dX8_number_33 : decode cX8_number 33 = .ok (.aload_n 0, 1) := by decide +kernel
theorem dX8_number_34 : decode cX8_number 34 = .ok (.getfield 11, 3) := by decide +kernel
theorem dX8_number_37 : decode cX8_number 37 = .ok (.iload_n 3, 1) := by decide +kernel
theorem dX8_number_38 : decode cX8_number 38 = .ok (.baload, 1) := by decide +kernel
theorem dX8_number_39 : decode cX8_number 39 = .ok (.invokestatic 56, 3) := by decide +kernel
theorem dX8_number_4 : decode cX8_number 4 = .ok (.invokestatic 56, 3) := by decide +kernel
theorem dX8_number_42 : decode cX8_number 42 = .ok (.ifCond .eq 32, 3) := by decide +kernel
theorem dX8_number_45 : decode cX8_number 45 = .ok (.iload 4, 2) := by decide +kernel
theorem dX8_number_47 : decode cX8_number 47 = .ok (.bipush 10, 2) := by decide +kernel
theorem dX8_number_49 : decode cX8_number 49 = .ok (.imul, 1) := by decide +kernel
theorem dX8_number_50 : decode cX8_number 50 = .ok (.aload_n 0, 1) := by decide +kernel
theorem dX8_number_51 : decode cX8_number 51 = .ok (.getfield 11, 3) := by decide +kernel
theorem dX8_number_54 : decode cX8_number 54 = .ok (.iload_n 3, 1) := by decide +kernel
theorem dX8_number_55 : decode cX8_number 55 = .ok (.baload, 1) := by decide +kernel
theorem dX8_number_56 : decode cX8_number 56 = .ok (.iadd, 1) := by decide +kernel
theorem dX8_number_57 : decode cX8_number 57 = .ok (.bipush 48, 2) := by decide +kernel
theorem dX8_number_59 : decode cX8_number 59 = .ok (.isub, 1) := by decide +kernel
theorem dX8_number_60 : decode cX8_number 60 = .ok (.sipush 10000, 3) := by decide +kernel
theorem dX8_number_63 : decode cX8_number 63 = .ok (.invokestatic 60, 3) := by decide +kernel
theorem dX8_number_66 : decode cX8_number 66 = .ok (.istore 4, 2) := by decide +kernel
theorem dX8_number_68 : decode cX8_number 68 = .ok (.iinc 3 1, 3) := by decide +kernel
theorem dX8_number_7 : decode cX8_number 7 = .ok (.ifCond .ne 10, 3) := by decide +kernel
theorem dX8_number_71 : decode cX8_number 71 = .ok (.goto (-46), 3) := by decide +kernel
theorem dX8_number_74 : decode cX8_number 74 = .ok (.iload 4, 2) := by decide +kernel
theorem dX8_number_76 : decode cX8_number 76 = .ok (.iload_n 1, 1) := by decide +kernel
theorem dX8_number_77 : decode cX8_number 77 = .ok (.iload_n 2, 1) := by decide +kernel
theorem dX8_number_78 : decode cX8_number 78 = .ok (.invokestatic 66, 3) := by decide +kernel
theorem dX8_number_81 : decode cX8_number 81 = .ok (.ifCond .eq 11, 3) := by decide +kernel
theorem dX8_number_84 : decode cX8_number 84 = .ok (.aload_n 0, 1) := by decide +kernel
theorem dX8_number_85 : decode cX8_number 85 = .ok (.iload_n 3, 1) := by decide +kernel
theorem dX8_number_86 : decode cX8_number 86 = .ok (.putfield 25, 3) := by decide +kernel
theorem dX8_number_89 : decode cX8_number 89 = .ok (.goto 8, 3) := by decide +kernel
theorem dX8_number_92 : decode cX8_number 92 = .ok (.aload_n 0, 1) := by decide +kernel
theorem dX8_number_93 : decode cX8_number 93 = .ok (.iconst 2, 1) := by decide +kernel
theorem dX8_number_94 : decode cX8_number 94 = .ok (.invokevirtual 38, 3) := by decide +kernel
theorem dX8_number_97 : decode cX8_number 97 = .ok (.iload 4, 2) := by decide +kernel
theorem dX8_number_99 : decode cX8_number 99 = .ok (.ireturn, 1) := by decide +kernel
theorem dX8_take_0 : decode cX8_take 0 = .ok (.aload_n 0, 1) := by decide +kernel
theorem dX8_take_1 : decode cX8_take 1 = .ok (.invokevirtual 34, 3) := by decide +kernel
theorem dX8_take_10 : decode cX8_take 10 = .ok (.aload_n 0, 1) := by decide +kernel
theorem dX8_take_11 : decode cX8_take 11 = .ok (.dup, 1) := by decide +kernel
theorem dX8_take_12 : decode cX8_take 12 = .ok (.getfield 25, 3) := by decide +kernel
theorem dX8_take_15 : decode cX8_take 15 = .ok (.iconst 1, 1) := by decide +kernel
theorem dX8_take_16 : decode cX8_take 16 = .ok (.iadd, 1) := by decide +kernel
theorem dX8_take_17 : decode cX8_take 17 = .ok (.putfield 25, 3) := by decide +kernel
theorem dX8_take_20 : decode cX8_take 20 = .ok (.iconst 1, 1) := by decide +kernel
theorem dX8_take_21 : decode cX8_take 21 = .ok (.ireturn, 1) := by decide +kernel
theorem dX8_take_4 : decode cX8_take 4 = .ok (.iload_n 1, 1) := by decide +kernel
theorem dX8_take_5 : decode cX8_take 5 = .ok (.if_icmp .eq 5, 3) := by decide +kernel
theorem dX8_take_8 : decode cX8_take 8 = .ok (.iconst 0, 1) := by decide +kernel
theorem dX8_take_9 : decode cX8_take 9 = .ok (.ireturn, 1) := by decide +kernel
theorem dX8_want_0 : decode cX8_want 0 = .ok (.aload_n 0, 1) := by decide +kernel
theorem dX8_want_1 : decode cX8_want 1 = .ok (.invokevirtual 34, 3) := by decide +kernel
theorem dX8_want_10 : decode cX8_want 10 = .ok (.getfield 25, 3) := by decide +kernel
theorem dX8_want_13 : decode cX8_want 13 = .ok (.iconst 1, 1) := by decide +kernel
theorem dX8_want_14 : decode cX8_want 14 = .ok (.iadd, 1) := by decide +kernel
theorem dX8_want_15 : decode cX8_want 15 = .ok (.putfield 25, 3) := by decide +kernel
theorem dX8_want_18 : decode cX8_want 18 = .ok (.goto 8, 3) := by decide +kernel
theorem dX8_want_21 : decode cX8_want 21 = .ok (.aload_n 0, 1) := by decide +kernel
theorem dX8_want_22 : decode cX8_want 22 = .ok (.iconst 1, 1) := by decide +kernel
theorem dX8_want_23 : decode cX8_want 23 = .ok (.invokevirtual 38, 3) := by decide +kernel
theorem dX8_want_26 : decode cX8_want 26 = .ok (.return_, 1) := by decide +kernel
theorem dX8_want_4 : decode cX8_want 4 = .ok (.iload_n 1, 1) := by decide +kernel
theorem dX8_want_5 : decode cX8_want 5 = .ok (.if_icmp .ne 16, 3) := by decide +kernel
theorem dX8_want_8 : decode cX8_want 8 = .ok (.aload_n 0, 1) := by decide +kernel
theorem dX8_want_9 : decode cX8_want 9 = .ok (.dup, 1) := by decide +kernel
def vs_s_within : List Cond := .code yX11_isWithin cX11_isWithin 3 (some .boolean) :: (([] : List Cond) ++ ([]))
theorem gd_s_within : vs_s_within.all goodWord = true := gd_C (by decide +kernel) (gd_A (by decide +kernel) rfl)
set_option maxHeartbeats 4000000 in
set_option maxRecDepth 100000 in
theorem s_within (l : Launch) (hl : l.stackTraces = false) (D : va_G) (cy : Nat → ClassId) (sa : Nat → Nat) (n a b : Int) (sz : Nat) (hr_n : (-2147483648) ≤ n ∧ n ≤ 2147483647) (hr_a : (-2147483648) ≤ a ∧ a ≤ 2147483647) (hr_b : (-2147483648) ≤ b ∧ b ≤ 2147483647) : Met l yX11_isWithin vs_s_within ({ frames := 0, cells := 0, slots := 0, locals := 0 }) (va_Pc [vI n, vI a, vI b] (pcW D cy sa sz [])) (va_Qi (fun (r : Int32) (u : SV) => r = iI (u.2.1 0) ∧ (0 ≤ u.2.1 0 ∧ u.2.1 0 ≤ 1) ∧ (u.2.1 0 = 1 → a ≤ n ∧ n ≤ b) ∧ (u.2.1 0 = 0 → n < a ∨ b < n)) (fun u t => atW D (va_A [] sz) [] t) (va_A [] sz)) 0 0 (va_A [] sz) := by
  refine Met.ofW (cc := cX11_isWithin) (maxL := 3) (ret := (some .boolean)) (by decide) rfl ?_
  intro p e s m args below meth c s₁ B hml hv
  obtain ⟨rfl, hsz, hP, hG, hD0, hT⟩ := hv
  have hx := B.exec
  have hb := B.bytes
  have hr := B.returns
  have hts := atoms_spec (ws := vs_s_within) B.pre
  have hown : s.vm.findClass RX11 = some m.cls := findClass_of_methodNamed B.named
  have hlocks := B.notSynchronized
  subst hsz
  have hD := hD0.self (sz := s.heap.size)
  generalize hAe : va_A [] s.heap.size = A at hD hT ⊢
  have hA : ∀ q : Nat, s.heap.size ≤ q → A q := fun q h => by rw [← hAe]; exact Or.inr h
  have hS : va_S A s.heap s.heap [] := va_S.rf
  have hl0 := lv_entry ([vI n, vI a, vI b]) (n := 3) (Nat.le_of_ble_eq_true rfl)
  rw [lg_entry_eq]
  generalize (lg_sl ([vI n, vI a, vI b]) ++ List.replicate (3 - (lg_sl ([vI n, vI a, vI b])).length) Slot.unset).toArray = ls at hl0 ⊢
  have hlv : lv_has ls 3 [(0, vI n), (1, vI a), (2, vI b)] := hl0
  refine lv_iload_n hx hb dX11_isWithin_0 rfl (lv_at hlv 0 rfl) ?_
  refine lv_iload_n hx hb dX11_isWithin_1 rfl (lv_at hlv 1 rfl) ?_
  refine ir_lt (tgt := 14) hx hb dX11_isWithin_2 (by decide) (by first | exact hr_n | omega) (by first | exact hr_a | omega) (fun c_1 => ?_) (fun c_1 => ?_)
  · refine lv_iconst (v := iI 0) hx hb dX11_isWithin_14 (by decide) ?_
    refine W.widen (k := 0) (n := 0) (Nat.le_of_ble_eq_true rfl) (Nat.le_of_ble_eq_true rfl) ?_
    exact W.zret (v := iI 0) hx hb hr (by first | rfl | decide) (fun t ht hW => ⟨⟨iI 0, ((fun k => ([] : List Nat).getD k 0), (fun k => ([0] : List Int).getD k 0), (fun k => ([] : List (Nat → Int32)).getD k (fun _ => 0))), rfl, ⟨rfl, (by show (0 ≤ 0 ∧ 0 ≤ 1); show (0 : Int) ≤ 0 ∧ (0 : Int) ≤ 1; decide), (by show (0 = 1 → a ≤ n ∧ n ≤ b); omega), (by show (0 = 0 → n < a ∨ b < n); omega)⟩, by rw [ht]; exact hP.sub [] rfl, hD.sub [] (by decide) rfl⟩, hS.F ht⟩) hS.2.2 dX11_isWithin_15
  · refine lv_iload_n hx hb dX11_isWithin_5 rfl (lv_at hlv 0 rfl) ?_
    refine lv_iload_n hx hb dX11_isWithin_6 rfl (lv_at hlv 2 rfl) ?_
    refine ir_gt (tgt := 14) hx hb dX11_isWithin_7 (by decide) (by first | exact hr_n | omega) (by first | exact hr_b | omega) (fun c_2 => ?_) (fun c_2 => ?_)
    · refine lv_iconst (v := iI 0) hx hb dX11_isWithin_14 (by decide) ?_
      refine W.widen (k := 0) (n := 0) (Nat.le_of_ble_eq_true rfl) (Nat.le_of_ble_eq_true rfl) ?_
      exact W.zret (v := iI 0) hx hb hr (by first | rfl | decide) (fun t ht hW => ⟨⟨iI 0, ((fun k => ([] : List Nat).getD k 0), (fun k => ([0] : List Int).getD k 0), (fun k => ([] : List (Nat → Int32)).getD k (fun _ => 0))), rfl, ⟨rfl, (by show (0 ≤ 0 ∧ 0 ≤ 1); show (0 : Int) ≤ 0 ∧ (0 : Int) ≤ 1; decide), (by show (0 = 1 → a ≤ n ∧ n ≤ b); omega), (by show (0 = 0 → n < a ∨ b < n); omega)⟩, by rw [ht]; exact hP.sub [] rfl, hD.sub [] (by decide) rfl⟩, hS.F ht⟩) hS.2.2 dX11_isWithin_15
    · refine lv_iconst (v := iI 1) hx hb dX11_isWithin_10 (by decide) ?_
      refine lv_goto (tgt := 15) hx hb dX11_isWithin_11 (by decide) ?_
      refine W.widen (k := 0) (n := 0) (Nat.le_of_ble_eq_true rfl) (Nat.le_of_ble_eq_true rfl) ?_
      exact W.zret (v := iI 1) hx hb hr (by first | rfl | decide) (fun t ht hW => ⟨⟨iI 1, ((fun k => ([] : List Nat).getD k 0), (fun k => ([1] : List Int).getD k 0), (fun k => ([] : List (Nat → Int32)).getD k (fun _ => 0))), rfl, ⟨rfl, (by show (0 ≤ 1 ∧ 1 ≤ 1); show (0 : Int) ≤ 1 ∧ (1 : Int) ≤ 1; decide), (by show (1 = 1 → a ≤ n ∧ n ≤ b); omega), (by show (1 = 0 → n < a ∨ b < n); omega)⟩, by rw [ht]; exact hP.sub [] rfl, hD.sub [] (by decide) rfl⟩, hS.F ht⟩) hS.2.2 dX11_isWithin_15
def vs_s_take : List Cond := .code yX8_take cX8_take 2 (some .boolean) :: (([.fieldLink RX8 25 "KerbSplash$Tape" "at" "I"] : List Cond) ++ ((wsV RX8 34 RX8 yX8_sign vs_s_sign) ++ ((wsX80) ++ ([]))))
theorem gd_s_take : vs_s_take.all goodWord = true := gd_C (by decide +kernel) (gd_A (by decide +kernel) (gd_A (gd_V gd_s_sign (by decide +kernel)) (gd_A (by decide +kernel) rfl)))
set_option maxHeartbeats 4000000 in
set_option maxRecDepth 100000 in
theorem s_take (l : Launch) (hl : l.stackTraces = false) (D : va_G) (cy : Nat → ClassId) (sa : Nat → Nat) (ta tb : Nat) (fed len at_ we fa fp : Int) (bf : Nat → Int32) (n : Int) (sz : Nat) (hr_fed : 0 ≤ fed ∧ fed ≤ 600) (hr_len : 0 ≤ len ∧ len ≤ 600) (hr_at_ : 0 ≤ at_ ∧ at_ ≤ 600) (hr_we : 0 ≤ we ∧ we ≤ 600) (hr_fa : 0 ≤ fa ∧ fa ≤ 4) (hr_fp : (-1) ≤ fp ∧ fp ≤ 600) (hr_n : 0 ≤ n ∧ n ≤ 65535) : Met l yX8_take vs_s_take ({ frames := 1, cells := 0, slots := 0, locals := 20 }) (va_Pc [vR ta, vI n] (pcW D cy sa sz [zO ta 8 [vR tb, vI fed, vI len, vI at_, vI we, vI fa, vI fp], zI tb (cy 1) 600 bf])) (va_Qi (fun (r : Int32) (u : SV) => r = iI (u.2.1 0) ∧ (0 ≤ u.2.1 0 ∧ u.2.1 0 ≤ 1) ∧ (0 ≤ u.2.1 1 ∧ u.2.1 1 ≤ 600) ∧ (at_ ≤ u.2.1 1)) (fun u t => atW D (va_A [zO ta 8 [vR tb, vI fed, vI len, vI at_, vI we, vI fa, vI fp], zI tb (cy 1) 600 bf] sz) [zO ta 8 [vR tb, vI fed, vI len, vI (u.2.1 1), vI we, vI fa, vI fp], zI tb (cy 1) 600 bf] t) (va_A [zO ta 8 [vR tb, vI fed, vI len, vI at_, vI we, vI fa, vI fp], zI tb (cy 1) 600 bf] sz)) 0 0 (va_A [zO ta 8 [vR tb, vI fed, vI len, vI at_, vI we, vI fa, vI fp], zI tb (cy 1) 600 bf] sz) := by
  refine Met.ofW (cc := cX8_take) (maxL := 2) (ret := (some .boolean)) (by decide) rfl ?_
  intro p e s m args below meth c s₁ B hml hv
  obtain ⟨rfl, hsz, hP, hG, hD0, hT⟩ := hv
  have hx := B.exec
  have hb := B.bytes
  have hr := B.returns
  have hts := atoms_spec (ws := vs_s_take) B.pre
  have hown : s.vm.findClass RX8 = some m.cls := findClass_of_methodNamed B.named
  have hlocks := B.notSynchronized
  subst hsz
  have hD := hD0.self (sz := s.heap.size)
  generalize hAe : va_A [zO ta 8 [vR tb, vI fed, vI len, vI at_, vI we, vI fa, vI fp], zI tb (cy 1) 600 bf] s.heap.size = A at hD hT ⊢
  have hA : ∀ q : Nat, s.heap.size ≤ q → A q := fun q h => by rw [← hAe]; exact Or.inr h
  have hS : va_S A s.heap s.heap [] := va_S.rf
  have hl0 := lv_entry ([vR ta, vI n]) (n := 2) (Nat.le_of_ble_eq_true rfl)
  rw [lg_entry_eq]
  generalize (lg_sl ([vR ta, vI n]) ++ List.replicate (2 - (lg_sl ([vR ta, vI n])).length) Slot.unset).toArray = ls at hl0 ⊢
  have hlv : lv_has ls 2 [(0, vR ta), (1, vI n)] := hl0
  have gg_0 : GoodIn vs_s_take (wsV RX8 34 RX8 yX8_sign vs_s_sign) := goodIn_sub (fun w h => List.mem_cons_of_mem _ (List.mem_append_right _ (List.mem_append_left _ h))) (gd_V gd_s_sign (by decide +kernel))
  have lf25 := hts (.fieldLink RX8 25 "KerbSplash$Tape" "at" "I") (List.mem_of_getElem? (i := 1) rfl)
  have hi8 : ∀ w ∈ wsX80, w ∈ vs_s_take := fun w h => List.mem_cons_of_mem _ (List.mem_append_right _ (List.mem_append_right _ (List.mem_append_left _ h)))
  refine lv_aload_n hx hb dX8_take_0 rfl (lv_at hlv 0 rfl) ?_
  refine cj_i (wr := []) (va_runV (As := []) (rest := []) ⟨hx, hb, hml, hown, hts⟩ (s_sign l hl D cy sa ta tb fed len at_ we fa fp bf s.heap.size (by first | exact hr_fed | omega) (by first | exact hr_len | omega) (by first | exact hr_at_ | omega) (by first | exact hr_we | omega) (by first | exact hr_fa | omega) (by first | exact hr_fp | omega)) (cwV 0 hts gg_0 rfl rfl rfl (by decide +kernel) ⟨Nat.le_of_ble_eq_true rfl, Nat.le_of_ble_eq_true rfl⟩) ⟨pcW.blind, (va_recv hG.1 hP (ci := 8) (q0 := 0) rfl rfl), (pcW.mk hP hD hS hA hG hT [0, 1] rfl (by decide))⟩ rfl rfl hlv.1 rfl (lv_room (Nat.le_of_ble_eq_true rfl)) dX8_take_1 ⟨Nat.le_of_ble_eq_true rfl, Nat.le_of_ble_eq_true rfl⟩) hP hD hS hA [0, 1] [] rfl rfl (by decide) (by decide) (fun r1 u1 H locs hw1 hP hD hS => ?_)
  obtain ⟨rfl, hq1_1, hq1_2, hq1_3, hq1_4, hq1_5⟩ := hw1
  have hP : va_P D vwCl [zO ta 8 [vR tb, vI fed, vI len, vI (u1.2.1 1), vI we, vI fa, vI fp], zI tb (cy 1) 600 bf] H := hP
  have hD : va_D A [zO ta 8 [vR tb, vI fed, vI len, vI (u1.2.1 1), vI we, vI fa, vI fp], zI tb (cy 1) 600 bf] := hD
  refine lv_iload_n hx hb dX8_take_4 rfl (lv_at hlv 1 rfl) ?_
  refine ir_eq (tgt := 10) hx hb dX8_take_5 (by decide) (by first | exact rgw hq1_1 (by decide) (by decide) | omega) (by first | exact rgw hr_n (by decide) (by decide) | omega) (fun c_1 => ?_) (fun c_1 => ?_)
  · refine lv_aload_n hx hb dX8_take_10 rfl (lv_at hlv 0 rfl) ?_
    refine lv_dup hx hb dX8_take_11 rfl ?_
    refine va_get (D := D) (ci := 8) (v := vI (u1.2.1 1)) (C := RX8) (T := TX8) (N := 7) hx hb hts hi8 hown hG.1 hP 0 rfl rfl 3 (by decide) lf25 (fun _ h9 => h9) rfl dX8_take_12 ?_
    refine lv_iconst (v := iI 1) hx hb dX8_take_15 (by decide) ?_
    refine lv_iadd hx hb dX8_take_16 ?_
    refine lt_e (e0 := (u1.2.1 1) + 1) (Int32.ofInt_add _ _).symm (fun z_2 hz_2 => ?_)
    refine va_put (D := D) (ci := 8) (v := vI z_2) (ty := .int) (C := RX8) (T := TX8) (N := 7) hx hb hts hi8 tyX8 tyX8_ok nmX8 hown hG.1 hP hD hS 0 rfl rfl 3 (by decide) lf25 (fun _ h9 => h9) rfl (by decide +kernel) rfl rfl (Nat.le_of_ble_eq_true rfl) dX8_take_17 (fun H locs hP hD hS => ?_)
    have hP : va_P D vwCl [zO ta 8 [vR tb, vI fed, vI len, vI z_2, vI we, vI fa, vI fp], zI tb (cy 1) 600 bf] H := hP
    have hD : va_D A [zO ta 8 [vR tb, vI fed, vI len, vI z_2, vI we, vI fa, vI fp], zI tb (cy 1) 600 bf] := hD
    refine lv_iconst (v := iI 1) hx hb dX8_take_20 (by decide) ?_
    refine W.widen (k := 0) (n := 0) (Nat.le_of_ble_eq_true rfl) (Nat.le_of_ble_eq_true rfl) ?_
    exact W.zret (v := iI 1) hx hb hr (by first | rfl | decide) (fun t ht hW => ⟨⟨iI 1, ((fun k => ([] : List Nat).getD k 0), (fun k => ([1, z_2] : List Int).getD k 0), (fun k => ([] : List (Nat → Int32)).getD k (fun _ => 0))), rfl, ⟨rfl, (by show (0 ≤ 1 ∧ 1 ≤ 1); show (0 : Int) ≤ 1 ∧ (1 : Int) ≤ 1; decide), (by show (0 ≤ z_2 ∧ z_2 ≤ 600); omega), (by show (at_ ≤ z_2); omega)⟩, by rw [ht]; exact hP.sub [0, 1] rfl, hD.sub [0, 1] (by decide) rfl⟩, hS.F ht⟩) hS.2.2 dX8_take_21
  · refine lv_iconst (v := iI 0) hx hb dX8_take_8 (by decide) ?_
    refine W.widen (k := 0) (n := 0) (Nat.le_of_ble_eq_true rfl) (Nat.le_of_ble_eq_true rfl) ?_
    exact W.zret (v := iI 0) hx hb hr (by first | rfl | decide) (fun t ht hW => ⟨⟨iI 0, ((fun k => ([] : List Nat).getD k 0), (fun k => ([0, (u1.2.1 1)] : List Int).getD k 0), (fun k => ([] : List (Nat → Int32)).getD k (fun _ => 0))), rfl, ⟨rfl, (by show (0 ≤ 0 ∧ 0 ≤ 1); show (0 : Int) ≤ 0 ∧ (0 : Int) ≤ 1; decide), (by show (0 ≤ (u1.2.1 1) ∧ (u1.2.1 1) ≤ 600); first | exact hq1_2 | omega), (by show (at_ ≤ (u1.2.1 1)); omega)⟩, by rw [ht]; exact hP.sub [0, 1] rfl, hD.sub [0, 1] (by decide) rfl⟩, hS.F ht⟩) hS.2.2 dX8_take_9
def vs_s_want : List Cond := .code yX8_want cX8_want 2 none :: (([.fieldLink RX8 25 "KerbSplash$Tape" "at" "I"] : List Cond) ++ ((wsV RX8 34 RX8 yX8_sign vs_s_sign) ++ ((wsV RX8 38 RX8 yX8_refuse vs_s_refuse) ++ ((wsX80) ++ ([])))))
theorem gd_s_want : vs_s_want.all goodWord = true := gd_C (by decide +kernel) (gd_A (by decide +kernel) (gd_A (gd_V gd_s_sign (by decide +kernel)) (gd_A (gd_V gd_s_refuse (by decide +kernel)) (gd_A (by decide +kernel) rfl))))
set_option maxHeartbeats 4000000 in
set_option maxRecDepth 100000 in
theorem s_want (l : Launch) (hl : l.stackTraces = false) (D : va_G) (cy : Nat → ClassId) (sa : Nat → Nat) (ta tb : Nat) (fed len at_ we fa fp : Int) (bf : Nat → Int32) (n : Int) (sz : Nat) (hr_fed : 0 ≤ fed ∧ fed ≤ 600) (hr_len : 0 ≤ len ∧ len ≤ 600) (hr_at_ : 0 ≤ at_ ∧ at_ ≤ 600) (hr_we : 0 ≤ we ∧ we ≤ 600) (hr_fa : 0 ≤ fa ∧ fa ≤ 4) (hr_fp : (-1) ≤ fp ∧ fp ≤ 600) (hr_n : 0 ≤ n ∧ n ≤ 65535) : Met l yX8_want vs_s_want ({ frames := 1, cells := 0, slots := 0, locals := 21 }) (va_Pc [vR ta, vI n] (pcW D cy sa sz [zO ta 8 [vR tb, vI fed, vI len, vI at_, vI we, vI fa, vI fp], zI tb (cy 1) 600 bf])) (va_Qv (fun u : SV => (0 ≤ u.2.1 0 ∧ u.2.1 0 ≤ 600) ∧ (0 ≤ u.2.1 1 ∧ u.2.1 1 ≤ 4) ∧ ((-1) ≤ u.2.1 2 ∧ u.2.1 2 ≤ 600) ∧ (at_ ≤ u.2.1 0) ∧ (fa ≠ 0 → u.2.1 1 ≠ 0)) (fun u t => atW D (va_A [zO ta 8 [vR tb, vI fed, vI len, vI at_, vI we, vI fa, vI fp], zI tb (cy 1) 600 bf] sz) [zO ta 8 [vR tb, vI fed, vI len, vI (u.2.1 0), vI we, vI (u.2.1 1), vI (u.2.1 2)], zI tb (cy 1) 600 bf] t) (va_A [zO ta 8 [vR tb, vI fed, vI len, vI at_, vI we, vI fa, vI fp], zI tb (cy 1) 600 bf] sz)) 0 0 (va_A [zO ta 8 [vR tb, vI fed, vI len, vI at_, vI we, vI fa, vI fp], zI tb (cy 1) 600 bf] sz) := by
  refine Met.ofW (cc := cX8_want) (maxL := 2) (ret := none) (by decide) rfl ?_
  intro p e s m args below meth c s₁ B hml hv
  obtain ⟨rfl, hsz, hP, hG, hD0, hT⟩ := hv
  have hx := B.exec
  have hb := B.bytes
  have hr := B.returns
  have hts := atoms_spec (ws := vs_s_want) B.pre
  have hown : s.vm.findClass RX8 = some m.cls := findClass_of_methodNamed B.named
  have hlocks := B.notSynchronized
  subst hsz
  have hD := hD0.self (sz := s.heap.size)
  generalize hAe : va_A [zO ta 8 [vR tb, vI fed, vI len, vI at_, vI we, vI fa, vI fp], zI tb (cy 1) 600 bf] s.heap.size = A at hD hT ⊢
  have hA : ∀ q : Nat, s.heap.size ≤ q → A q := fun q h => by rw [← hAe]; exact Or.inr h
  have hS : va_S A s.heap s.heap [] := va_S.rf
  have hl0 := lv_entry ([vR ta, vI n]) (n := 2) (Nat.le_of_ble_eq_true rfl)
  rw [lg_entry_eq]
  generalize (lg_sl ([vR ta, vI n]) ++ List.replicate (2 - (lg_sl ([vR ta, vI n])).length) Slot.unset).toArray = ls at hl0 ⊢
  have hlv : lv_has ls 2 [(0, vR ta), (1, vI n)] := hl0
  have gg_0 : GoodIn vs_s_want (wsV RX8 34 RX8 yX8_sign vs_s_sign) := goodIn_sub (fun w h => List.mem_cons_of_mem _ (List.mem_append_right _ (List.mem_append_left _ h))) (gd_V gd_s_sign (by decide +kernel))
  have gg_1 : GoodIn vs_s_want (wsV RX8 38 RX8 yX8_refuse vs_s_refuse) := goodIn_sub (fun w h => List.mem_cons_of_mem _ (List.mem_append_right _ (List.mem_append_right _ (List.mem_append_left _ h)))) (gd_V gd_s_refuse (by decide +kernel))
  have lf25 := hts (.fieldLink RX8 25 "KerbSplash$Tape" "at" "I") (List.mem_of_getElem? (i := 1) rfl)
  have hi8 : ∀ w ∈ wsX80, w ∈ vs_s_want := fun w h => List.mem_cons_of_mem _ (List.mem_append_right _ (List.mem_append_right _ (List.mem_append_right _ (List.mem_append_left _ h))))
  refine lv_aload_n hx hb dX8_want_0 rfl (lv_at hlv 0 rfl) ?_
  refine cj_i (wr := []) (va_runV (As := []) (rest := []) ⟨hx, hb, hml, hown, hts⟩ (s_sign l hl D cy sa ta tb fed len at_ we fa fp bf s.heap.size (by first | exact hr_fed | omega) (by first | exact hr_len | omega) (by first | exact hr_at_ | omega) (by first | exact hr_we | omega) (by first | exact hr_fa | omega) (by first | exact hr_fp | omega)) (cwV 0 hts gg_0 rfl rfl rfl (by decide +kernel) ⟨Nat.le_of_ble_eq_true rfl, Nat.le_of_ble_eq_true rfl⟩) ⟨pcW.blind, (va_recv hG.1 hP (ci := 8) (q0 := 0) rfl rfl), (pcW.mk hP hD hS hA hG hT [0, 1] rfl (by decide))⟩ rfl rfl hlv.1 rfl (lv_room (Nat.le_of_ble_eq_true rfl)) dX8_want_1 ⟨Nat.le_of_ble_eq_true rfl, Nat.le_of_ble_eq_true rfl⟩) hP hD hS hA [0, 1] [] rfl rfl (by decide) (by decide) (fun r1 u1 H locs hw1 hP hD hS => ?_)
  obtain ⟨rfl, hq1_1, hq1_2, hq1_3, hq1_4, hq1_5⟩ := hw1
  have hP : va_P D vwCl [zO ta 8 [vR tb, vI fed, vI len, vI (u1.2.1 1), vI we, vI fa, vI fp], zI tb (cy 1) 600 bf] H := hP
  have hD : va_D A [zO ta 8 [vR tb, vI fed, vI len, vI (u1.2.1 1), vI we, vI fa, vI fp], zI tb (cy 1) 600 bf] := hD
  refine lv_iload_n hx hb dX8_want_4 rfl (lv_at hlv 1 rfl) ?_
  refine ir_ne (tgt := 21) hx hb dX8_want_5 (by decide) (by first | exact rgw hq1_1 (by decide) (by decide) | omega) (by first | exact rgw hr_n (by decide) (by decide) | omega) (fun c_1 => ?_) (fun c_1 => ?_)
  · refine lv_aload_n hx hb dX8_want_21 rfl (lv_at hlv 0 rfl) ?_
    refine lv_iconst (v := iI 1) hx hb dX8_want_22 (by decide) ?_
    refine cj_v (wr := [zI tb (cy 1) 600 bf]) (va_runV (As := [vI 1]) (rest := []) ⟨hx, hb, hml, hown, hts⟩ (s_refuse l hl D cy sa ta tb fed len (u1.2.1 1) we fa fp 1 H.size (by first | exact hr_fed | omega) (by first | exact hr_len | omega) (by first | exact hq1_2 | omega) (by first | exact hr_we | omega) (by first | exact hr_fa | omega) (by first | exact hr_fp | omega) (by show (1 : Int) ≤ 1 ∧ (1 : Int) ≤ 4; decide)) (cwV 1 hts gg_1 rfl rfl rfl (by decide +kernel) ⟨Nat.le_of_ble_eq_true rfl, Nat.le_of_ble_eq_true rfl⟩) ⟨pcW.blind, (va_recv hG.1 hP (ci := 8) (q0 := 0) rfl rfl), (pcW.mk hP hD hS hA hG hT [0] rfl (by decide))⟩ rfl rfl hlv.1 rfl (lv_room (Nat.le_of_ble_eq_true rfl)) dX8_want_23 ⟨Nat.le_of_ble_eq_true rfl, Nat.le_of_ble_eq_true rfl⟩) hP hD hS hA [0] [1] rfl rfl (by decide) (by decide) (fun u2 H locs hw2 hP hD hS => ?_)
    obtain ⟨hq2_0, hq2_1⟩ := hw2
    have hP : va_P D vwCl [zI tb (cy 1) 600 bf, zO ta 8 [vR tb, vI fed, vI len, vI (u1.2.1 1), vI we, vI (u2.2.1 0), vI (u2.2.1 1)]] H := hP
    have hD : va_D A [zI tb (cy 1) 600 bf, zO ta 8 [vR tb, vI fed, vI len, vI (u1.2.1 1), vI we, vI (u2.2.1 0), vI (u2.2.1 1)]] := hD
    refine W.widen (k := 0) (n := 0) (Nat.le_of_ble_eq_true rfl) (Nat.le_of_ble_eq_true rfl) ?_
    exact W.vret hx hb hr (fun t ht hW => ⟨⟨((fun k => ([] : List Nat).getD k 0), (fun k => ([(u1.2.1 1), (u2.2.1 0), (u2.2.1 1)] : List Int).getD k 0), (fun k => ([] : List (Nat → Int32)).getD k (fun _ => 0))), rfl, ⟨(by show (0 ≤ (u1.2.1 1) ∧ (u1.2.1 1) ≤ 600); first | exact hq1_2 | omega), (by show (0 ≤ (u2.2.1 0) ∧ (u2.2.1 0) ≤ 4); first | exact rgw hq2_0 (by decide) (by decide) | omega), (by show ((-1) ≤ (u2.2.1 1) ∧ (u2.2.1 1) ≤ 600); first | exact hq2_1 | omega), (by show (at_ ≤ (u1.2.1 1)); omega), (by show (fa ≠ 0 → (u2.2.1 0) ≠ 0); omega)⟩, by rw [ht]; exact hP.sub [1, 0] rfl, hD.sub [1, 0] (by decide) rfl⟩, hS.F ht⟩) hS.2.2 dX8_want_26
  · refine lv_aload_n hx hb dX8_want_8 rfl (lv_at hlv 0 rfl) ?_
    refine lv_dup hx hb dX8_want_9 rfl ?_
    refine va_get (D := D) (ci := 8) (v := vI (u1.2.1 1)) (C := RX8) (T := TX8) (N := 7) hx hb hts hi8 hown hG.1 hP 0 rfl rfl 3 (by decide) lf25 (fun _ h9 => h9) rfl dX8_want_10 ?_
    refine lv_iconst (v := iI 1) hx hb dX8_want_13 (by decide) ?_
    refine lv_iadd hx hb dX8_want_14 ?_
    refine lt_e (e0 := (u1.2.1 1) + 1) (Int32.ofInt_add _ _).symm (fun z_2 hz_2 => ?_)
    refine va_put (D := D) (ci := 8) (v := vI z_2) (ty := .int) (C := RX8) (T := TX8) (N := 7) hx hb hts hi8 tyX8 tyX8_ok nmX8 hown hG.1 hP hD hS 0 rfl rfl 3 (by decide) lf25 (fun _ h9 => h9) rfl (by decide +kernel) rfl rfl (Nat.le_of_ble_eq_true rfl) dX8_want_15 (fun H locs hP hD hS => ?_)
    have hP : va_P D vwCl [zO ta 8 [vR tb, vI fed, vI len, vI z_2, vI we, vI fa, vI fp], zI tb (cy 1) 600 bf] H := hP
    have hD : va_D A [zO ta 8 [vR tb, vI fed, vI len, vI z_2, vI we, vI fa, vI fp], zI tb (cy 1) 600 bf] := hD
    refine lv_goto (tgt := 26) hx hb dX8_want_18 (by decide) ?_
    refine W.widen (k := 0) (n := 0) (Nat.le_of_ble_eq_true rfl) (Nat.le_of_ble_eq_true rfl) ?_
    exact W.vret hx hb hr (fun t ht hW => ⟨⟨((fun k => ([] : List Nat).getD k 0), (fun k => ([z_2, fa, fp] : List Int).getD k 0), (fun k => ([] : List (Nat → Int32)).getD k (fun _ => 0))), rfl, ⟨(by show (0 ≤ z_2 ∧ z_2 ≤ 600); omega), (by show (0 ≤ fa ∧ fa ≤ 4); first | exact hr_fa | omega), (by show ((-1) ≤ fp ∧ fp ≤ 600); first | exact hr_fp | omega), (by show (at_ ≤ z_2); omega), (by show (fa ≠ 0 → fa ≠ 0); omega)⟩, by rw [ht]; exact hP.sub [0, 1] rfl, hD.sub [0, 1] (by decide) rfl⟩, hS.F ht⟩) hS.2.2 dX8_want_26
def vs_s_number : List Cond := .code yX8_number cX8_number 5 (some .int) :: (([.fieldLink RX8 25 "KerbSplash$Tape" "at" "I", .fieldLink RX8 22 "KerbSplash$Tape" "length" "I", .initialized RX11, .static yX11_isWithin, .fieldLink RX8 11 "KerbSplash$Tape" "bytes" "[B", .methodLink RX8 60 Lib.Math.min.name, .static Lib.Math.min.name, .initialized "java/lang/Math", .code Lib.Math.min.name Lib.Math.min.code 2 (some .int)] : List Cond) ++ ((wsV RX8 34 RX8 yX8_sign vs_s_sign) ++ ((va_wsS RX8 56 yX8_isDigit vs_s_isDigit) ++ ((wsX80) ++ ((vs_s_within) ++ ((wsV RX8 38 RX8 yX8_refuse vs_s_refuse) ++ ([])))))))
theorem gd_s_number : vs_s_number.all goodWord = true := gd_C (by decide +kernel) (gd_A (by decide +kernel) (gd_A (gd_V gd_s_sign (by decide +kernel)) (gd_A (gd_S gd_s_isDigit (by decide +kernel)) (gd_A (by decide +kernel) (gd_A gd_s_within (gd_A (gd_V gd_s_refuse (by decide +kernel)) rfl))))))
set_option maxHeartbeats 4000000 in
set_option maxRecDepth 100000 in
theorem s_number (l : Launch) (hl : l.stackTraces = false) (D : va_G) (cy : Nat → ClassId) (sa : Nat → Nat) (ta tb : Nat) (fed len at_ we fa fp : Int) (bf : Nat → Int32) (lo hi : Int) (sz : Nat) (hr_fed : 0 ≤ fed ∧ fed ≤ 600) (hr_len : 0 ≤ len ∧ len ≤ 600) (hr_at_ : 0 ≤ at_ ∧ at_ ≤ 600) (hr_we : 0 ≤ we ∧ we ≤ 600) (hr_fa : 0 ≤ fa ∧ fa ≤ 4) (hr_fp : (-1) ≤ fp ∧ fp ≤ 600) (hr_lo : (-1) ≤ lo ∧ lo ≤ 10000) (hr_hi : (-1) ≤ hi ∧ hi ≤ 9999) : Met l yX8_number vs_s_number ({ frames := 1, cells := 0, slots := 0, locals := 30 }) (va_Pc [vR ta, vI lo, vI hi] (pcW D cy sa sz [zO ta 8 [vR tb, vI fed, vI len, vI at_, vI we, vI fa, vI fp], zI tb (cy 1) 600 bf])) (va_Qi (fun (r : Int32) (u : SV) => r = iI (u.2.1 0) ∧ ((-1) ≤ u.2.1 0 ∧ u.2.1 0 ≤ 10000) ∧ (0 ≤ u.2.1 1 ∧ u.2.1 1 ≤ 600) ∧ (0 ≤ u.2.1 2 ∧ u.2.1 2 ≤ 4) ∧ ((-1) ≤ u.2.1 3 ∧ u.2.1 3 ≤ 600) ∧ (at_ ≤ u.2.1 1) ∧ (u.2.1 2 = 0 → fa = 0 ∧ lo ≤ u.2.1 0 ∧ u.2.1 0 ≤ hi) ∧ (0 ≤ lo → 0 ≤ u.2.1 0)) (fun u t => atW D (va_A [zO ta 8 [vR tb, vI fed, vI len, vI at_, vI we, vI fa, vI fp], zI tb (cy 1) 600 bf] sz) [zO ta 8 [vR tb, vI fed, vI len, vI (u.2.1 1), vI we, vI (u.2.1 2), vI (u.2.1 3)], zI tb (cy 1) 600 bf] t) (va_A [zO ta 8 [vR tb, vI fed, vI len, vI at_, vI we, vI fa, vI fp], zI tb (cy 1) 600 bf] sz)) 0 0 (va_A [zO ta 8 [vR tb, vI fed, vI len, vI at_, vI we, vI fa, vI fp], zI tb (cy 1) 600 bf] sz) := by
  refine Met.ofW (cc := cX8_number) (maxL := 5) (ret := (some .int)) (by decide) rfl ?_
  intro p e s m args below meth c s₁ B hml hv
  obtain ⟨rfl, hsz, hP, hG, hD0, hT⟩ := hv
  have hx := B.exec
  have hb := B.bytes
  have hr := B.returns
  have hts := atoms_spec (ws := vs_s_number) B.pre
  have hown : s.vm.findClass RX8 = some m.cls := findClass_of_methodNamed B.named
  have hlocks := B.notSynchronized
  subst hsz
  have hD := hD0.self (sz := s.heap.size)
  generalize hAe : va_A [zO ta 8 [vR tb, vI fed, vI len, vI at_, vI we, vI fa, vI fp], zI tb (cy 1) 600 bf] s.heap.size = A at hD hT ⊢
  have hA : ∀ q : Nat, s.heap.size ≤ q → A q := fun q h => by rw [← hAe]; exact Or.inr h
  have hS : va_S A s.heap s.heap [] := va_S.rf
  have hl0 := lv_entry ([vR ta, vI lo, vI hi]) (n := 5) (Nat.le_of_ble_eq_true rfl)
  rw [lg_entry_eq]
  generalize (lg_sl ([vR ta, vI lo, vI hi]) ++ List.replicate (5 - (lg_sl ([vR ta, vI lo, vI hi])).length) Slot.unset).toArray = ls at hl0 ⊢
  have hlv : lv_has ls 5 [(0, vR ta), (1, vI lo), (2, vI hi)] := hl0
  have gg_0 : GoodIn vs_s_number (wsV RX8 34 RX8 yX8_sign vs_s_sign) := goodIn_sub (fun w h => List.mem_cons_of_mem _ (List.mem_append_right _ (List.mem_append_left _ h))) (gd_V gd_s_sign (by decide +kernel))
  have gg_1 : GoodIn vs_s_number (va_wsS RX8 56 yX8_isDigit vs_s_isDigit) := goodIn_sub (fun w h => List.mem_cons_of_mem _ (List.mem_append_right _ (List.mem_append_right _ (List.mem_append_left _ h)))) (gd_S gd_s_isDigit (by decide +kernel))
  have lf25 := hts (.fieldLink RX8 25 "KerbSplash$Tape" "at" "I") (List.mem_of_getElem? (i := 1) rfl)
  have hi8 : ∀ w ∈ wsX80, w ∈ vs_s_number := fun w h => List.mem_cons_of_mem _ (List.mem_append_right _ (List.mem_append_right _ (List.mem_append_right _ (List.mem_append_left _ h))))
  have lf22 := hts (.fieldLink RX8 22 "KerbSplash$Tape" "length" "I") (List.mem_of_getElem? (i := 2) rfl)
  have gg_3 : GoodIn vs_s_number (vs_s_within) := goodIn_sub (fun w h => List.mem_cons_of_mem _ (List.mem_append_right _ (List.mem_append_right _ (List.mem_append_right _ (List.mem_append_right _ (List.mem_append_left _ h)))))) gd_s_within
  have ini_RX11 := hts (.initialized RX11) (List.mem_of_getElem? (i := 3) rfl)
  have st_X11_isWithin := hts (.static yX11_isWithin) (List.mem_of_getElem? (i := 4) rfl)
  have gg_4 : GoodIn vs_s_number (wsV RX8 38 RX8 yX8_refuse vs_s_refuse) := goodIn_sub (fun w h => List.mem_cons_of_mem _ (List.mem_append_right _ (List.mem_append_right _ (List.mem_append_right _ (List.mem_append_right _ (List.mem_append_right _ (List.mem_append_left _ h))))))) (gd_V gd_s_refuse (by decide +kernel))
  have lf11 := hts (.fieldLink RX8 11 "KerbSplash$Tape" "bytes" "[B") (List.mem_of_getElem? (i := 5) rfl)
  have mk60 := hts (.methodLink RX8 60 Lib.Math.min.name) (List.mem_of_getElem? (i := 6) rfl)
  have ms_min := hts (.static Lib.Math.min.name) (List.mem_of_getElem? (i := 7) rfl)
  have mi_ := hts (.initialized "java/lang/Math") (List.mem_of_getElem? (i := 8) rfl)
  have mc_min := hts (.code Lib.Math.min.name Lib.Math.min.code 2 (some .int)) (List.mem_of_getElem? (i := 9) rfl)
  refine lv_aload_n hx hb dX8_number_0 rfl (lv_at hlv 0 rfl) ?_
  refine cj_i (wr := []) (va_runV (As := []) (rest := []) ⟨hx, hb, hml, hown, hts⟩ (s_sign l hl D cy sa ta tb fed len at_ we fa fp bf s.heap.size (by first | exact hr_fed | omega) (by first | exact hr_len | omega) (by first | exact hr_at_ | omega) (by first | exact hr_we | omega) (by first | exact hr_fa | omega) (by first | exact hr_fp | omega)) (cwV 0 hts gg_0 rfl rfl rfl (by decide +kernel) ⟨Nat.le_of_ble_eq_true rfl, Nat.le_of_ble_eq_true rfl⟩) ⟨pcW.blind, (va_recv hG.1 hP (ci := 8) (q0 := 0) rfl rfl), (pcW.mk hP hD hS hA hG hT [0, 1] rfl (by decide))⟩ rfl rfl hlv.1 rfl (lv_room (Nat.le_of_ble_eq_true rfl)) dX8_number_1 ⟨Nat.le_of_ble_eq_true rfl, Nat.le_of_ble_eq_true rfl⟩) hP hD hS hA [0, 1] [] rfl rfl (by decide) (by decide) (fun r1 u1 H locs hw1 hP hD hS => ?_)
  obtain ⟨rfl, hq1_1, hq1_2, hq1_3, hq1_4, hq1_5⟩ := hw1
  have hP : va_P D vwCl [zO ta 8 [vR tb, vI fed, vI len, vI (u1.2.1 1), vI we, vI fa, vI fp], zI tb (cy 1) 600 bf] H := hP
  have hD : va_D A [zO ta 8 [vR tb, vI fed, vI len, vI (u1.2.1 1), vI we, vI fa, vI fp], zI tb (cy 1) 600 bf] := hD
  refine cj_i (wr := [zO ta 8 [vR tb, vI fed, vI len, vI (u1.2.1 1), vI we, vI fa, vI fp], zI tb (cy 1) 600 bf]) (va_runS (As := [vI (u1.2.1 0)]) (rest := []) ⟨hx, hb, hml, hown, hts⟩ (s_isDigit l hl D cy sa (u1.2.1 0) H.size (by first | exact rgw hq1_1 (by decide) (by decide) | omega)) (va_cwS 1 hts gg_1 rfl rfl rfl (by decide +kernel) ⟨Nat.le_of_ble_eq_true rfl, Nat.le_of_ble_eq_true rfl⟩) ⟨pcW.blind, (pcW.mk hP hD hS hA hG hT [] rfl (by decide))⟩ rfl rfl hlv.1 rfl (lv_room (Nat.le_of_ble_eq_true rfl)) dX8_number_4 ⟨Nat.le_of_ble_eq_true rfl, Nat.le_of_ble_eq_true rfl⟩) hP hD hS hA [] [0, 1] rfl rfl (by decide) (by decide) (fun r2 u2 H locs hw2 hP hD hS => ?_)
  obtain ⟨rfl, hq2_1, hq2_2, hq2_3⟩ := hw2
  have hP : va_P D vwCl [zO ta 8 [vR tb, vI fed, vI len, vI (u1.2.1 1), vI we, vI fa, vI fp], zI tb (cy 1) 600 bf] H := hP
  have hD : va_D A [zO ta 8 [vR tb, vI fed, vI len, vI (u1.2.1 1), vI we, vI fa, vI fp], zI tb (cy 1) 600 bf] := hD
  refine iz_ne (tgt := 17) hx hb dX8_number_7 (by decide) (by first | exact rgw hq2_1 (by decide) (by decide) | omega) (fun c_1 => ?_) (fun c_1 => ?_)
  · refine lv_aload_n hx hb dX8_number_17 rfl (lv_at hlv 0 rfl) ?_
    refine va_get (D := D) (ci := 8) (v := vI (u1.2.1 1)) (C := RX8) (T := TX8) (N := 7) hx hb hts hi8 hown hG.1 hP 0 rfl rfl 3 (by decide) lf25 (fun _ h9 => h9) rfl dX8_number_18 ?_
    refine lv_istore_n (lv' := [(3, vI (u1.2.1 1)), (0, vR ta), (1, vI lo), (2, vI hi)]) hx hb dX8_number_21 rfl hlv (by decide) rfl (fun ls hlv => ?_)
    refine lv_iconst (v := iI 0) hx hb dX8_number_22 (by decide) ?_
    refine lv_istore (lv' := [(4, vI 0), (3, vI (u1.2.1 1)), (0, vR ta), (1, vI lo), (2, vI hi)]) hx hb dX8_number_23 hlv (by decide) rfl (fun ls hlv => ?_)
    refine (?_ : ∀ (fu : Nat) (x : Int) (v : Int) (H : Heap) (locs : List Loc) (ls : Array Slot), 600 - x < (fu : Int) → (0 ≤ x ∧ x ≤ 600) → (0 ≤ v ∧ v ≤ 10000) → (at_ ≤ x) → va_P D vwCl [zO ta 8 [vR tb, vI fed, vI len, vI (u1.2.1 1), vI we, vI fa, vI fp], zI tb (cy 1) 600 bf] H → va_D A [zO ta 8 [vR tb, vI fed, vI len, vI (u1.2.1 1), vI we, vI fa, vI fp], zI tb (cy 1) 600 bf] → va_S A s.heap H locs → lv_has ls 5 [(4, vI v), (3, vI x), (0, vR ta), (1, vI lo), (2, vI hi)] → W p l e _ s m _ below meth c H locs _ _ _ (F0 m 25 ls [])) (((600 - (u1.2.1 1)) + 1 : Int)).toNat (u1.2.1 1) 0 _ _ _ (by omega) (by first | exact hq1_2 | omega) (by show (0 : Int) ≤ 0 ∧ (0 : Int) ≤ 10000; decide) (by omega)  hP hD hS hlv
    clear hP hD hS hlv
    intro fu
    induction fu with
    | zero => intro x v H locs ls hm25 hl25_0 hl25_1 hl25_2  hP hD hS hlv; omega
    | succ fu ih25 =>
      intro x v H locs ls hm25 hl25_0 hl25_1 hl25_2  hP hD hS hlv
      refine lv_iload_n hx hb dX8_number_25 rfl (lv_at hlv 1 rfl) ?_
      refine lv_aload_n hx hb dX8_number_26 rfl (lv_at hlv 2 rfl) ?_
      refine va_get (D := D) (ci := 8) (v := vI len) (C := RX8) (T := TX8) (N := 7) hx hb hts hi8 hown hG.1 hP 0 rfl rfl 2 (by decide) lf22 (fun _ h9 => h9) rfl dX8_number_27 ?_
      refine ir_ge (tgt := 74) hx hb dX8_number_30 (by decide) (by first | exact rgw hl25_0 (by decide) (by decide) | omega) (by first | exact rgw hr_len (by decide) (by decide) | omega) (fun c_2 => ?_) (fun c_2 => ?_)
      · refine lv_iload hx hb dX8_number_74 (lv_at hlv 0 rfl) ?_
        refine lv_iload_n hx hb dX8_number_76 rfl (lv_at hlv 3 rfl) ?_
        refine lv_iload_n hx hb dX8_number_77 rfl (lv_at hlv 4 rfl) ?_
        refine cj_i (wr := [zO ta 8 [vR tb, vI fed, vI len, vI (u1.2.1 1), vI we, vI fa, vI fp], zI tb (cy 1) 600 bf]) (va_runSN (host := "KerbSplash") (As := [vI v, vI lo, vI hi]) (rest := []) ⟨hx, hb, hml, hown, hts⟩ (s_within l hl D cy sa v lo hi H.size (by first | exact rgw hl25_1 (by decide) (by decide) | omega) (by first | exact rgw hr_lo (by decide) (by decide) | omega) (by first | exact rgw hr_hi (by decide) (by decide) | omega)) ⟨va_cnB 3 hts gg_3 rfl rfl rfl (nM_Tape_66 hG.2.1) ini_RX11 (by decide +kernel) ⟨Nat.le_of_ble_eq_true rfl, Nat.le_of_ble_eq_true rfl⟩, st_X11_isWithin, trivial⟩ ⟨pcW.blind, (pcW.mk hP hD hS hA hG hT [] rfl (by decide))⟩ rfl rfl hlv.1 rfl (lv_room (Nat.le_of_ble_eq_true rfl)) dX8_number_78 ⟨Nat.le_of_ble_eq_true rfl, Nat.le_of_ble_eq_true rfl⟩) hP hD hS hA [] [0, 1] rfl rfl (by decide) (by decide) (fun r3 u3 H locs hw3 hP hD hS => ?_)
        obtain ⟨rfl, hq3_1, hq3_2, hq3_3⟩ := hw3
        have hP : va_P D vwCl [zO ta 8 [vR tb, vI fed, vI len, vI (u1.2.1 1), vI we, vI fa, vI fp], zI tb (cy 1) 600 bf] H := hP
        have hD : va_D A [zO ta 8 [vR tb, vI fed, vI len, vI (u1.2.1 1), vI we, vI fa, vI fp], zI tb (cy 1) 600 bf] := hD
        refine iz_eq (tgt := 92) hx hb dX8_number_81 (by decide) (by first | exact rgw hq3_1 (by decide) (by decide) | omega) (fun c_3 => ?_) (fun c_3 => ?_)
        · refine lv_aload_n hx hb dX8_number_92 rfl (lv_at hlv 2 rfl) ?_
          refine lv_iconst (v := iI 2) hx hb dX8_number_93 (by decide) ?_
          refine cj_v (wr := [zI tb (cy 1) 600 bf]) (va_runV (As := [vI 2]) (rest := []) ⟨hx, hb, hml, hown, hts⟩ (s_refuse l hl D cy sa ta tb fed len (u1.2.1 1) we fa fp 2 H.size (by first | exact hr_fed | omega) (by first | exact hr_len | omega) (by first | exact hq1_2 | omega) (by first | exact hr_we | omega) (by first | exact hr_fa | omega) (by first | exact hr_fp | omega) (by show (1 : Int) ≤ 2 ∧ (2 : Int) ≤ 4; decide)) (cwV 1 hts gg_4 rfl rfl rfl (by decide +kernel) ⟨Nat.le_of_ble_eq_true rfl, Nat.le_of_ble_eq_true rfl⟩) ⟨pcW.blind, (va_recv hG.1 hP (ci := 8) (q0 := 0) rfl rfl), (pcW.mk hP hD hS hA hG hT [0] rfl (by decide))⟩ rfl rfl hlv.1 rfl (lv_room (Nat.le_of_ble_eq_true rfl)) dX8_number_94 ⟨Nat.le_of_ble_eq_true rfl, Nat.le_of_ble_eq_true rfl⟩) hP hD hS hA [0] [1] rfl rfl (by decide) (by decide) (fun u4 H locs hw4 hP hD hS => ?_)
          obtain ⟨hq4_0, hq4_1⟩ := hw4
          have hP : va_P D vwCl [zI tb (cy 1) 600 bf, zO ta 8 [vR tb, vI fed, vI len, vI (u1.2.1 1), vI we, vI (u4.2.1 0), vI (u4.2.1 1)]] H := hP
          have hD : va_D A [zI tb (cy 1) 600 bf, zO ta 8 [vR tb, vI fed, vI len, vI (u1.2.1 1), vI we, vI (u4.2.1 0), vI (u4.2.1 1)]] := hD
          refine lv_iload hx hb dX8_number_97 (lv_at hlv 0 rfl) ?_
          refine W.widen (k := 0) (n := 0) (Nat.le_of_ble_eq_true rfl) (Nat.le_of_ble_eq_true rfl) ?_
          exact W.iret (v := iI v) hx hb hr (fun t ht hW => ⟨⟨iI v, ((fun k => ([] : List Nat).getD k 0), (fun k => ([v, (u1.2.1 1), (u4.2.1 0), (u4.2.1 1)] : List Int).getD k 0), (fun k => ([] : List (Nat → Int32)).getD k (fun _ => 0))), rfl, ⟨rfl, (by show ((-1) ≤ v ∧ v ≤ 10000); first | exact rgw hl25_1 (by decide) (by decide) | omega), (by show (0 ≤ (u1.2.1 1) ∧ (u1.2.1 1) ≤ 600); first | exact hq1_2 | omega), (by show (0 ≤ (u4.2.1 0) ∧ (u4.2.1 0) ≤ 4); first | exact rgw hq4_0 (by decide) (by decide) | omega), (by show ((-1) ≤ (u4.2.1 1) ∧ (u4.2.1 1) ≤ 600); first | exact hq4_1 | omega), (by show (at_ ≤ (u1.2.1 1)); omega), (by show ((u4.2.1 0) = 0 → fa = 0 ∧ lo ≤ v ∧ v ≤ hi); omega), (by show (0 ≤ lo → 0 ≤ v); omega)⟩, by rw [ht]; exact hP.sub [1, 0] rfl, hD.sub [1, 0] (by decide) rfl⟩, hS.F ht⟩) hS.2.2 dX8_number_99
        · refine lv_aload_n hx hb dX8_number_84 rfl (lv_at hlv 2 rfl) ?_
          refine lv_iload_n hx hb dX8_number_85 rfl (lv_at hlv 1 rfl) ?_
          refine va_put (D := D) (ci := 8) (v := vI x) (ty := .int) (C := RX8) (T := TX8) (N := 7) hx hb hts hi8 tyX8 tyX8_ok nmX8 hown hG.1 hP hD hS 0 rfl rfl 3 (by decide) lf25 (fun _ h9 => h9) rfl (by decide +kernel) rfl rfl (Nat.le_of_ble_eq_true rfl) dX8_number_86 (fun H locs hP hD hS => ?_)
          have hP : va_P D vwCl [zO ta 8 [vR tb, vI fed, vI len, vI x, vI we, vI fa, vI fp], zI tb (cy 1) 600 bf] H := hP
          have hD : va_D A [zO ta 8 [vR tb, vI fed, vI len, vI x, vI we, vI fa, vI fp], zI tb (cy 1) 600 bf] := hD
          refine lv_goto (tgt := 97) hx hb dX8_number_89 (by decide) ?_
          refine lv_iload hx hb dX8_number_97 (lv_at hlv 0 rfl) ?_
          refine W.widen (k := 0) (n := 0) (Nat.le_of_ble_eq_true rfl) (Nat.le_of_ble_eq_true rfl) ?_
          exact W.iret (v := iI v) hx hb hr (fun t ht hW => ⟨⟨iI v, ((fun k => ([] : List Nat).getD k 0), (fun k => ([v, x, fa, fp] : List Int).getD k 0), (fun k => ([] : List (Nat → Int32)).getD k (fun _ => 0))), rfl, ⟨rfl, (by show ((-1) ≤ v ∧ v ≤ 10000); first | exact rgw hl25_1 (by decide) (by decide) | omega), (by show (0 ≤ x ∧ x ≤ 600); first | exact hl25_0 | omega), (by show (0 ≤ fa ∧ fa ≤ 4); first | exact hr_fa | omega), (by show ((-1) ≤ fp ∧ fp ≤ 600); first | exact hr_fp | omega), (by show (at_ ≤ x); omega), (by show (fa = 0 → fa = 0 ∧ lo ≤ v ∧ v ≤ hi); omega), (by show (0 ≤ lo → 0 ≤ v); omega)⟩, by rw [ht]; exact hP.sub [0, 1] rfl, hD.sub [0, 1] (by decide) rfl⟩, hS.F ht⟩) hS.2.2 dX8_number_99
      · refine lv_aload_n hx hb dX8_number_33 rfl (lv_at hlv 2 rfl) ?_
        refine va_get (D := D) (ci := 8) (v := vR tb) (C := RX8) (T := TX8) (N := 7) hx hb hts hi8 hown hG.1 hP 0 rfl rfl 0 (by decide) lf11 (fun _ h9 => h9) rfl dX8_number_34 ?_
        refine lv_iload_n hx hb dX8_number_37 rfl (lv_at hlv 1 rfl) ?_
        refine va_bald hx hb hG.1 hP 1 1 rfl rfl (iI_in (by omega) (by decide)) dX8_number_38 ?_
        refine lt_z (fun z_4 ez_4 lz_4 hz_4 => ?_)
        refine cj_i (wr := [zO ta 8 [vR tb, vI fed, vI len, vI (u1.2.1 1), vI we, vI fa, vI fp], zI tb (cy 1) 600 bf]) (va_runS (As := [vI z_4]) (rest := []) ⟨hx, hb, hml, hown, hts⟩ (s_isDigit l hl D cy sa z_4 H.size (by omega)) (va_cwS 1 hts gg_1 rfl rfl rfl (by decide +kernel) ⟨Nat.le_of_ble_eq_true rfl, Nat.le_of_ble_eq_true rfl⟩) ⟨pcW.blind, (pcW.mk hP hD hS hA hG hT [] rfl (by decide))⟩ rfl rfl hlv.1 rfl (lv_room (Nat.le_of_ble_eq_true rfl)) dX8_number_39 ⟨Nat.le_of_ble_eq_true rfl, Nat.le_of_ble_eq_true rfl⟩) hP hD hS hA [] [0, 1] rfl rfl (by decide) (by decide) (fun r5 u5 H locs hw5 hP hD hS => ?_)
        obtain ⟨rfl, hq5_1, hq5_2, hq5_3⟩ := hw5
        have hP : va_P D vwCl [zO ta 8 [vR tb, vI fed, vI len, vI (u1.2.1 1), vI we, vI fa, vI fp], zI tb (cy 1) 600 bf] H := hP
        have hD : va_D A [zO ta 8 [vR tb, vI fed, vI len, vI (u1.2.1 1), vI we, vI fa, vI fp], zI tb (cy 1) 600 bf] := hD
        refine iz_eq (tgt := 74) hx hb dX8_number_42 (by decide) (by first | exact rgw hq5_1 (by decide) (by decide) | omega) (fun c_5 => ?_) (fun c_5 => ?_)
        · refine lv_iload hx hb dX8_number_74 (lv_at hlv 0 rfl) ?_
          refine lv_iload_n hx hb dX8_number_76 rfl (lv_at hlv 3 rfl) ?_
          refine lv_iload_n hx hb dX8_number_77 rfl (lv_at hlv 4 rfl) ?_
          refine cj_i (wr := [zO ta 8 [vR tb, vI fed, vI len, vI (u1.2.1 1), vI we, vI fa, vI fp], zI tb (cy 1) 600 bf]) (va_runSN (host := "KerbSplash") (As := [vI v, vI lo, vI hi]) (rest := []) ⟨hx, hb, hml, hown, hts⟩ (s_within l hl D cy sa v lo hi H.size (by first | exact rgw hl25_1 (by decide) (by decide) | omega) (by first | exact rgw hr_lo (by decide) (by decide) | omega) (by first | exact rgw hr_hi (by decide) (by decide) | omega)) ⟨va_cnB 3 hts gg_3 rfl rfl rfl (nM_Tape_66 hG.2.1) ini_RX11 (by decide +kernel) ⟨Nat.le_of_ble_eq_true rfl, Nat.le_of_ble_eq_true rfl⟩, st_X11_isWithin, trivial⟩ ⟨pcW.blind, (pcW.mk hP hD hS hA hG hT [] rfl (by decide))⟩ rfl rfl hlv.1 rfl (lv_room (Nat.le_of_ble_eq_true rfl)) dX8_number_78 ⟨Nat.le_of_ble_eq_true rfl, Nat.le_of_ble_eq_true rfl⟩) hP hD hS hA [] [0, 1] rfl rfl (by decide) (by decide) (fun r6 u6 H locs hw6 hP hD hS => ?_)
          obtain ⟨rfl, hq6_1, hq6_2, hq6_3⟩ := hw6
          have hP : va_P D vwCl [zO ta 8 [vR tb, vI fed, vI len, vI (u1.2.1 1), vI we, vI fa, vI fp], zI tb (cy 1) 600 bf] H := hP
          have hD : va_D A [zO ta 8 [vR tb, vI fed, vI len, vI (u1.2.1 1), vI we, vI fa, vI fp], zI tb (cy 1) 600 bf] := hD
          refine iz_eq (tgt := 92) hx hb dX8_number_81 (by decide) (by first | exact rgw hq6_1 (by decide) (by decide) | omega) (fun c_6 => ?_) (fun c_6 => ?_)
          · refine lv_aload_n hx hb dX8_number_92 rfl (lv_at hlv 2 rfl) ?_
            refine lv_iconst (v := iI 2) hx hb dX8_number_93 (by decide) ?_
            refine cj_v (wr := [zI tb (cy 1) 600 bf]) (va_runV (As := [vI 2]) (rest := []) ⟨hx, hb, hml, hown, hts⟩ (s_refuse l hl D cy sa ta tb fed len (u1.2.1 1) we fa fp 2 H.size (by first | exact hr_fed | omega) (by first | exact hr_len | omega) (by first | exact hq1_2 | omega) (by first | exact hr_we | omega) (by first | exact hr_fa | omega) (by first | exact hr_fp | omega) (by show (1 : Int) ≤ 2 ∧ (2 : Int) ≤ 4; decide)) (cwV 1 hts gg_4 rfl rfl rfl (by decide +kernel) ⟨Nat.le_of_ble_eq_true rfl, Nat.le_of_ble_eq_true rfl⟩) ⟨pcW.blind, (va_recv hG.1 hP (ci := 8) (q0 := 0) rfl rfl), (pcW.mk hP hD hS hA hG hT [0] rfl (by decide))⟩ rfl rfl hlv.1 rfl (lv_room (Nat.le_of_ble_eq_true rfl)) dX8_number_94 ⟨Nat.le_of_ble_eq_true rfl, Nat.le_of_ble_eq_true rfl⟩) hP hD hS hA [0] [1] rfl rfl (by decide) (by decide) (fun u7 H locs hw7 hP hD hS => ?_)
            obtain ⟨hq7_0, hq7_1⟩ := hw7
            have hP : va_P D vwCl [zI tb (cy 1) 600 bf, zO ta 8 [vR tb, vI fed, vI len, vI (u1.2.1 1), vI we, vI (u7.2.1 0), vI (u7.2.1 1)]] H := hP
            have hD : va_D A [zI tb (cy 1) 600 bf, zO ta 8 [vR tb, vI fed, vI len, vI (u1.2.1 1), vI we, vI (u7.2.1 0), vI (u7.2.1 1)]] := hD
            refine lv_iload hx hb dX8_number_97 (lv_at hlv 0 rfl) ?_
            refine W.widen (k := 0) (n := 0) (Nat.le_of_ble_eq_true rfl) (Nat.le_of_ble_eq_true rfl) ?_
            exact W.iret (v := iI v) hx hb hr (fun t ht hW => ⟨⟨iI v, ((fun k => ([] : List Nat).getD k 0), (fun k => ([v, (u1.2.1 1), (u7.2.1 0), (u7.2.1 1)] : List Int).getD k 0), (fun k => ([] : List (Nat → Int32)).getD k (fun _ => 0))), rfl, ⟨rfl, (by show ((-1) ≤ v ∧ v ≤ 10000); first | exact rgw hl25_1 (by decide) (by decide) | omega), (by show (0 ≤ (u1.2.1 1) ∧ (u1.2.1 1) ≤ 600); first | exact hq1_2 | omega), (by show (0 ≤ (u7.2.1 0) ∧ (u7.2.1 0) ≤ 4); first | exact rgw hq7_0 (by decide) (by decide) | omega), (by show ((-1) ≤ (u7.2.1 1) ∧ (u7.2.1 1) ≤ 600); first | exact hq7_1 | omega), (by show (at_ ≤ (u1.2.1 1)); omega), (by show ((u7.2.1 0) = 0 → fa = 0 ∧ lo ≤ v ∧ v ≤ hi); omega), (by show (0 ≤ lo → 0 ≤ v); omega)⟩, by rw [ht]; exact hP.sub [1, 0] rfl, hD.sub [1, 0] (by decide) rfl⟩, hS.F ht⟩) hS.2.2 dX8_number_99
          · refine lv_aload_n hx hb dX8_number_84 rfl (lv_at hlv 2 rfl) ?_
            refine lv_iload_n hx hb dX8_number_85 rfl (lv_at hlv 1 rfl) ?_
            refine va_put (D := D) (ci := 8) (v := vI x) (ty := .int) (C := RX8) (T := TX8) (N := 7) hx hb hts hi8 tyX8 tyX8_ok nmX8 hown hG.1 hP hD hS 0 rfl rfl 3 (by decide) lf25 (fun _ h9 => h9) rfl (by decide +kernel) rfl rfl (Nat.le_of_ble_eq_true rfl) dX8_number_86 (fun H locs hP hD hS => ?_)
            have hP : va_P D vwCl [zO ta 8 [vR tb, vI fed, vI len, vI x, vI we, vI fa, vI fp], zI tb (cy 1) 600 bf] H := hP
            have hD : va_D A [zO ta 8 [vR tb, vI fed, vI len, vI x, vI we, vI fa, vI fp], zI tb (cy 1) 600 bf] := hD
            refine lv_goto (tgt := 97) hx hb dX8_number_89 (by decide) ?_
            refine lv_iload hx hb dX8_number_97 (lv_at hlv 0 rfl) ?_
            refine W.widen (k := 0) (n := 0) (Nat.le_of_ble_eq_true rfl) (Nat.le_of_ble_eq_true rfl) ?_
            exact W.iret (v := iI v) hx hb hr (fun t ht hW => ⟨⟨iI v, ((fun k => ([] : List Nat).getD k 0), (fun k => ([v, x, fa, fp] : List Int).getD k 0), (fun k => ([] : List (Nat → Int32)).getD k (fun _ => 0))), rfl, ⟨rfl, (by show ((-1) ≤ v ∧ v ≤ 10000); first | exact rgw hl25_1 (by decide) (by decide) | omega), (by show (0 ≤ x ∧ x ≤ 600); first | exact hl25_0 | omega), (by show (0 ≤ fa ∧ fa ≤ 4); first | exact hr_fa | omega), (by show ((-1) ≤ fp ∧ fp ≤ 600); first | exact hr_fp | omega), (by show (at_ ≤ x); omega), (by show (fa = 0 → fa = 0 ∧ lo ≤ v ∧ v ≤ hi); omega), (by show (0 ≤ lo → 0 ≤ v); omega)⟩, by rw [ht]; exact hP.sub [0, 1] rfl, hD.sub [0, 1] (by decide) rfl⟩, hS.F ht⟩) hS.2.2 dX8_number_99
        · refine lv_iload hx hb dX8_number_45 (lv_at hlv 0 rfl) ?_
          refine lv_bipush (v := iI 10) hx hb dX8_number_47 (by decide) ?_
          refine lv_imul hx hb dX8_number_49 ?_
          refine lt_e (e0 := v * 10) (Int32.ofInt_mul _ _).symm (fun z_7 hz_7 => ?_)
          refine lv_aload_n hx hb dX8_number_50 rfl (lv_at hlv 2 rfl) ?_
          refine va_get (D := D) (ci := 8) (v := vR tb) (C := RX8) (T := TX8) (N := 7) hx hb hts hi8 hown hG.1 hP 0 rfl rfl 0 (by decide) lf11 (fun _ h9 => h9) rfl dX8_number_51 ?_
          refine lv_iload_n hx hb dX8_number_54 rfl (lv_at hlv 1 rfl) ?_
          refine va_bald hx hb hG.1 hP 1 1 rfl rfl (iI_in (by omega) (by decide)) dX8_number_55 ?_
          refine lt_i (y := iI z_4) ez_4 ?_
          refine lv_iadd hx hb dX8_number_56 ?_
          refine lt_e (e0 := z_7 + z_4) (Int32.ofInt_add _ _).symm (fun z_8 hz_8 => ?_)
          refine lv_bipush (v := iI 48) hx hb dX8_number_57 (by decide) ?_
          refine lv_isub hx hb dX8_number_59 ?_
          refine lt_e (e0 := z_8 - 48) (Int32.ofInt_sub _ _).symm (fun z_9 hz_9 => ?_)
          refine lv_sipush (v := iI 10000) hx hb dX8_number_60 (by decide) ?_
          refine va_mmin hx hb (hml.trans hlv.1.symm) hown mk60 ms_min mi_ mc_min (Nat.le_of_ble_eq_true rfl) (Nat.le_of_ble_eq_true rfl) (Nat.le_of_ble_eq_true rfl) (Nat.le_of_ble_eq_true rfl) dX8_number_63 ?_
          refine lt_mn (by omega) (by omega) (fun z_10 hz_10 => ?_)
          refine lv_istore (lv' := [(4, vI z_10), (3, vI x), (0, vR ta), (1, vI lo), (2, vI hi)]) hx hb dX8_number_66 hlv (by decide) rfl (fun ls hlv => ?_)
          obtain ⟨z_11, hz_11⟩ : ∃ z : Int, z = x + 1 := ⟨_, rfl⟩
          refine lv_iinc (v := iI z_11) (lv' := [(3, vI z_11), (4, vI z_10), (0, vR ta), (1, vI lo), (2, vI hi)]) hx hb dX8_number_68 hlv (k := 1) rfl (by rw [hz_11]; exact (Int32.ofInt_add _ _).symm) (by decide) rfl (fun ls hlv => ?_)
          refine lv_goto (tgt := 25) hx hb dX8_number_71 (by decide) ?_
          exact ih25 z_11 z_10 H locs ls (by omega) (by omega) (by omega) (by omega)  (hP.sub [0, 1] rfl) (hD.sub [0, 1] (by decide) rfl) hS (lv_sub hlv [1, 0, 2, 3, 4] rfl)
  · refine lv_aload_n hx hb dX8_number_10 rfl (lv_at hlv 0 rfl) ?_
    refine lv_iconst (v := iI 1) hx hb dX8_number_11 (by decide) ?_
    refine cj_v (wr := [zI tb (cy 1) 600 bf]) (va_runV (As := [vI 1]) (rest := []) ⟨hx, hb, hml, hown, hts⟩ (s_refuse l hl D cy sa ta tb fed len (u1.2.1 1) we fa fp 1 H.size (by first | exact hr_fed | omega) (by first | exact hr_len | omega) (by first | exact hq1_2 | omega) (by first | exact hr_we | omega) (by first | exact hr_fa | omega) (by first | exact hr_fp | omega) (by show (1 : Int) ≤ 1 ∧ (1 : Int) ≤ 4; decide)) (cwV 1 hts gg_4 rfl rfl rfl (by decide +kernel) ⟨Nat.le_of_ble_eq_true rfl, Nat.le_of_ble_eq_true rfl⟩) ⟨pcW.blind, (va_recv hG.1 hP (ci := 8) (q0 := 0) rfl rfl), (pcW.mk hP hD hS hA hG hT [0] rfl (by decide))⟩ rfl rfl hlv.1 rfl (lv_room (Nat.le_of_ble_eq_true rfl)) dX8_number_12 ⟨Nat.le_of_ble_eq_true rfl, Nat.le_of_ble_eq_true rfl⟩) hP hD hS hA [0] [1] rfl rfl (by decide) (by decide) (fun u8 H locs hw8 hP hD hS => ?_)
    obtain ⟨hq8_0, hq8_1⟩ := hw8
    have hP : va_P D vwCl [zI tb (cy 1) 600 bf, zO ta 8 [vR tb, vI fed, vI len, vI (u1.2.1 1), vI we, vI (u8.2.1 0), vI (u8.2.1 1)]] H := hP
    have hD : va_D A [zI tb (cy 1) 600 bf, zO ta 8 [vR tb, vI fed, vI len, vI (u1.2.1 1), vI we, vI (u8.2.1 0), vI (u8.2.1 1)]] := hD
    refine lv_iload_n hx hb dX8_number_15 rfl (lv_at hlv 1 rfl) ?_
    refine W.widen (k := 0) (n := 0) (Nat.le_of_ble_eq_true rfl) (Nat.le_of_ble_eq_true rfl) ?_
    exact W.iret (v := iI lo) hx hb hr (fun t ht hW => ⟨⟨iI lo, ((fun k => ([] : List Nat).getD k 0), (fun k => ([lo, (u1.2.1 1), (u8.2.1 0), (u8.2.1 1)] : List Int).getD k 0), (fun k => ([] : List (Nat → Int32)).getD k (fun _ => 0))), rfl, ⟨rfl, (by show ((-1) ≤ lo ∧ lo ≤ 10000); first | exact hr_lo | omega), (by show (0 ≤ (u1.2.1 1) ∧ (u1.2.1 1) ≤ 600); first | exact hq1_2 | omega), (by show (0 ≤ (u8.2.1 0) ∧ (u8.2.1 0) ≤ 4); first | exact rgw hq8_0 (by decide) (by decide) | omega), (by show ((-1) ≤ (u8.2.1 1) ∧ (u8.2.1 1) ≤ 600); first | exact hq8_1 | omega), (by show (at_ ≤ (u1.2.1 1)); omega), (by show ((u8.2.1 0) = 0 → fa = 0 ∧ lo ≤ lo ∧ lo ≤ hi); omega), (by show (0 ≤ lo → 0 ≤ lo); omega)⟩, by rw [ht]; exact hP.sub [1, 0] rfl, hD.sub [1, 0] (by decide) rfl⟩, hS.F ht⟩) hS.2.2 dX8_number_16
