section
theorem dX12_fine_0 : decode cX12_fine 0 = .ok (.aload_n 0, 1) := by decide +kernel
theorem dX12_fine_1 : decode cX12_fine 1 = .ok (.getfield 80, 3) := by decide +kernel
theorem dX12_fine_12 : decode cX12_fine 12 = .ok (.iconst 0, 1) := by decide +kernel
theorem dX12_fine_13 : decode cX12_fine 13 = .ok (.ireturn, 1) := by decide +kernel
theorem dX12_fine_4 : decode cX12_fine 4 = .ok (.iconst (-1), 1) := by decide +kernel
theorem dX12_fine_5 : decode cX12_fine 5 = .ok (.if_icmp .ne 7, 3) := by decide +kernel
theorem dX12_fine_8 : decode cX12_fine 8 = .ok (.iconst 1, 1) := by decide +kernel
theorem dX12_fine_9 : decode cX12_fine 9 = .ok (.goto 4, 3) := by decide +kernel
theorem dX12_isDigit_0 : decode cX12_isDigit 0 = .ok (.iload_n 0, 1) := by decide +kernel
theorem dX12_isDigit_1 : decode cX12_isDigit 1 = .ok (.bipush 48, 2) := by decide +kernel
theorem dX12_isDigit_12 : decode cX12_isDigit 12 = .ok (.iconst 1, 1) := by decide +kernel
theorem dX12_isDigit_13 : decode cX12_isDigit 13 = .ok (.goto 4, 3) := by decide +kernel
theorem dX12_isDigit_16 : decode cX12_isDigit 16 = .ok (.iconst 0, 1) := by decide +kernel
theorem dX12_isDigit_17 : decode cX12_isDigit 17 = .ok (.ireturn, 1) := by decide +kernel
theorem dX12_isDigit_3 : decode cX12_isDigit 3 = .ok (.if_icmp .lt 13, 3) := by decide +kernel
theorem dX12_isDigit_6 : decode cX12_isDigit 6 = .ok (.iload_n 0, 1) := by decide +kernel
theorem dX12_isDigit_7 : decode cX12_isDigit 7 = .ok (.bipush 57, 2) := by decide +kernel
theorem dX12_isDigit_9 : decode cX12_isDigit 9 = .ok (.if_icmp .gt 7, 3) := by decide +kernel
theorem dX12_isSmall_0 : decode cX12_isSmall 0 = .ok (.iload_n 0, 1) := by decide +kernel
theorem dX12_isSmall_1 : decode cX12_isSmall 1 = .ok (.bipush 97, 2) := by decide +kernel
theorem dX12_isSmall_12 : decode cX12_isSmall 12 = .ok (.iconst 1, 1) := by decide +kernel
theorem dX12_isSmall_13 : decode cX12_isSmall 13 = .ok (.goto 4, 3) := by decide +kernel
theorem dX12_isSmall_16 : decode cX12_isSmall 16 = .ok (.iconst 0, 1) := by decide +kernel
theorem dX12_isSmall_17 : decode cX12_isSmall 17 = .ok (.ireturn, 1) := by decide +kernel
theorem dX12_isSmall_3 : decode cX12_isSmall 3 = .ok (.if_icmp .lt 13, 3) := by decide +kernel
theorem dX12_isSmall_6 : decode cX12_isSmall 6 = .ok (.iload_n 0, 1) := by decide +kernel
theorem dX12_isSmall_7 : decode cX12_isSmall 7 = .ok (.bipush 122, 2) := by decide +kernel
theorem dX12_isSmall_9 : decode cX12_isSmall 9 = .ok (.if_icmp .gt 7, 3) := by decide +kernel
theorem dX12_may_0 : decode cX12_may 0 = .ok (.iload_n 1, 1) := by decide +kernel
theorem dX12_may_1 : decode cX12_may 1 = .ok (.ifCond .ne 25, 3) := by decide +kernel
theorem dX12_may_11 : decode cX12_may 11 = .ok (.aload_n 0, 1) := by decide +kernel
theorem dX12_may_12 : decode cX12_may 12 = .ok (.iload_n 2, 1) := by decide +kernel
theorem dX12_may_13 : decode cX12_may 13 = .ok (.putfield 1, 3) := by decide +kernel
theorem dX12_may_16 : decode cX12_may 16 = .ok (.aload_n 0, 1) := by decide +kernel
theorem dX12_may_17 : decode cX12_may 17 = .ok (.getfield 7, 3) := by decide +kernel
theorem dX12_may_20 : decode cX12_may 20 = .ok (.iload_n 3, 1) := by decide +kernel
theorem dX12_may_21 : decode cX12_may 21 = .ok (.dup2, 1) := by decide +kernel
theorem dX12_may_22 : decode cX12_may 22 = .ok (.iaload, 1) := by decide +kernel
theorem dX12_may_23 : decode cX12_may 23 = .ok (.iconst 1, 1) := by decide +kernel
theorem dX12_may_24 : decode cX12_may 24 = .ok (.iadd, 1) := by decide +kernel
theorem dX12_may_25 : decode cX12_may 25 = .ok (.iastore, 1) := by decide +kernel
theorem dX12_may_26 : decode cX12_may 26 = .ok (.aload_n 0, 1) := by decide +kernel
theorem dX12_may_27 : decode cX12_may 27 = .ok (.getfield 1, 3) := by decide +kernel
theorem dX12_may_30 : decode cX12_may 30 = .ok (.ifCond .ne 7, 3) := by decide +kernel
theorem dX12_may_33 : decode cX12_may 33 = .ok (.iconst 1, 1) := by decide +kernel
theorem dX12_may_34 : decode cX12_may 34 = .ok (.goto 4, 3) := by decide +kernel
theorem dX12_may_37 : decode cX12_may 37 = .ok (.iconst 0, 1) := by decide +kernel
theorem dX12_may_38 : decode cX12_may 38 = .ok (.ireturn, 1) := by decide +kernel
theorem dX12_may_4 : decode cX12_may 4 = .ok (.aload_n 0, 1) := by decide +kernel
theorem dX12_may_5 : decode cX12_may 5 = .ok (.getfield 1, 3) := by decide +kernel
theorem dX12_may_8 : decode cX12_may 8 = .ok (.ifCond .ne 18, 3) := by decide +kernel
theorem dX12_within_0 : decode cX12_within 0 = .ok (.iload_n 0, 1) := by decide +kernel
theorem dX12_within_1 : decode cX12_within 1 = .ok (.iload_n 1, 1) := by decide +kernel
theorem dX12_within_10 : decode cX12_within 10 = .ok (.iconst 1, 1) := by decide +kernel
theorem dX12_within_11 : decode cX12_within 11 = .ok (.goto 4, 3) := by decide +kernel
theorem dX12_within_14 : decode cX12_within 14 = .ok (.iconst 0, 1) := by decide +kernel
theorem dX12_within_15 : decode cX12_within 15 = .ok (.ireturn, 1) := by decide +kernel
theorem dX12_within_2 : decode cX12_within 2 = .ok (.if_icmp .lt 12, 3) := by decide +kernel
theorem dX12_within_5 : decode cX12_within 5 = .ok (.iload_n 0, 1) := by decide +kernel
theorem dX12_within_6 : decode cX12_within 6 = .ok (.iload_n 2, 1) := by decide +kernel
theorem dX12_within_7 : decode cX12_within 7 = .ok (.if_icmp .gt 7, 3) := by decide +kernel
theorem dX12_wrong_0 : decode cX12_wrong 0 = .ok (.aload_n 0, 1) := by decide +kernel
theorem dX12_wrong_1 : decode cX12_wrong 1 = .ok (.getfield 80, 3) := by decide +kernel
theorem dX12_wrong_10 : decode cX12_wrong 10 = .ok (.iload_n 2, 1) := by decide +kernel
theorem dX12_wrong_11 : decode cX12_wrong 11 = .ok (.putfield 80, 3) := by decide +kernel
theorem dX12_wrong_14 : decode cX12_wrong 14 = .ok (.aload_n 0, 1) := by decide +kernel
theorem dX12_wrong_15 : decode cX12_wrong 15 = .ok (.iload_n 1, 1) := by decide +kernel
theorem dX12_wrong_16 : decode cX12_wrong 16 = .ok (.putfield 83, 3) := by decide +kernel
theorem dX12_wrong_19 : decode cX12_wrong 19 = .ok (.return_, 1) := by decide +kernel
theorem dX12_wrong_4 : decode cX12_wrong 4 = .ok (.iconst (-1), 1) := by decide +kernel
theorem dX12_wrong_5 : decode cX12_wrong 5 = .ok (.if_icmp .eq 4, 3) := by decide +kernel
theorem dX12_wrong_8 : decode cX12_wrong 8 = .ok (.return_, 1) := by decide +kernel
theorem dX12_wrong_9 : decode cX12_wrong 9 = .ok (.aload_n 0, 1) := by decide +kernel
def vs_m_within : List Cond := .code yX12_within cX12_within 3 (some .boolean) :: (([] : List Cond) ++ ([]))
theorem gd_m_within : vs_m_within.all goodWord = true := gd_C (by decide +kernel) (gd_A (by decide +kernel) rfl)
set_option maxHeartbeats 4000000 in
set_option maxRecDepth 100000 in
theorem m_within (l : Launch) (hl : l.stackTraces = false) (D : va_G) (cy : Nat → ClassId) (sa : Nat → Nat) (n a b : Int) (sz : Nat) (hr_n : (-2147483648) ≤ n ∧ n ≤ 2147483647) (hr_a : (-2147483648) ≤ a ∧ a ≤ 2147483647) (hr_b : (-2147483648) ≤ b ∧ b ≤ 2147483647) : mI9 l yX12_within vs_m_within ({ frames := 0, cells := 0, slots := 0, locals := 0 }) D cy sa sz [vI n, vI a, vI b] [] (fun (r : Int32) (u : SV) => r = iI (u.2.1 0) ∧ (0 ≤ u.2.1 0 ∧ u.2.1 0 ≤ 1) ∧ (u.2.1 0 = 1 → a ≤ n ∧ n ≤ b) ∧ (u.2.1 0 = 0 → n < a ∨ b < n)) (fun u : SV => []) 0 0 := by
  refine Met.ofW (cc := cX12_within) (maxL := 3) (ret := (some .boolean)) (by decide) rfl ?_
  intro p e s m args below meth c s₁ B hml hv
  obtain ⟨rfl, hsz, hP, hG, hD0, hT⟩ := hv
  have hx := B.exec
  have hb := B.bytes
  have hr := B.returns
  have hts := atoms_spec (ws := vs_m_within) B.pre
  have hown : s.vm.findClass RX12 = some m.cls := findClass_of_methodNamed B.named
  have hlocks := B.notSynchronized
  subst hsz
  have hD := hD0.self (sz := s.heap.size)
  generalize hAe : va_A [] s.heap.size = A at hD hT ⊢
  have hA : ∀ q : Nat, s.heap.size ≤ q → A q := fun q h => by rw [← hAe]; exact Or.inr h
  have hS : va_S A s.heap s.heap [] := va_S.rf
  have hl0 := lv_entry ([vI n, vI a, vI b]) (n := 3) (Nat.le_of_ble_eq_true rfl)
  rw [lg_entry_eq]
  generalize (lg_sl ([vI n, vI a, vI b]) ++ List.replicate (3 - (lg_sl ([vI n, vI a, vI b])).length) Slot.unset).toArray = ls at hl0 ⊢
  have hlv : lv_has ls 3 [(0, vI n), (1, vI a), (2, vI b)] := hl0
  refine lv_iload_n hx hb dX12_within_0 rfl (lv_at hlv 0 rfl) ?_
  refine lv_iload_n hx hb dX12_within_1 rfl (lv_at hlv 1 rfl) ?_
  refine ir_lt (tgt := 14) hx hb dX12_within_2 (by decide) (by first | exact hr_n | omega) (by first | exact hr_a | omega) (fun c_1 => ?_) (fun c_1 => ?_)
  · refine lv_iconst (v := iI 0) hx hb dX12_within_14 (by decide) ?_
    refine W.widen (k := 0) (n := 0) (Nat.le_of_ble_eq_true rfl) (Nat.le_of_ble_eq_true rfl) ?_
    exact W.zret (v := iI 0) hx hb hr (by first | rfl | decide) (fun t ht hW => ⟨⟨iI 0, ((fun k => ([] : List Nat).getD k 0), (fun k => ([0] : List Int).getD k 0), (fun k => ([] : List (Nat → Int32)).getD k (fun _ => 0))), rfl, ⟨rfl, (by show (0 ≤ 0 ∧ 0 ≤ 1); show (0 : Int) ≤ 0 ∧ (0 : Int) ≤ 1; decide), (by show (0 = 1 → a ≤ n ∧ n ≤ b); omega), (by show (0 = 0 → n < a ∨ b < n); omega)⟩, at9 ht hP hD [] (by decide +kernel) rfl⟩, hS.F ht⟩) hS.2.2 dX12_within_15
  · refine lv_iload_n hx hb dX12_within_5 rfl (lv_at hlv 0 rfl) ?_
    refine lv_iload_n hx hb dX12_within_6 rfl (lv_at hlv 2 rfl) ?_
    refine ir_gt (tgt := 14) hx hb dX12_within_7 (by decide) (by first | exact hr_n | omega) (by first | exact hr_b | omega) (fun c_2 => ?_) (fun c_2 => ?_)
    · refine lv_iconst (v := iI 0) hx hb dX12_within_14 (by decide) ?_
      refine W.widen (k := 0) (n := 0) (Nat.le_of_ble_eq_true rfl) (Nat.le_of_ble_eq_true rfl) ?_
      exact W.zret (v := iI 0) hx hb hr (by first | rfl | decide) (fun t ht hW => ⟨⟨iI 0, ((fun k => ([] : List Nat).getD k 0), (fun k => ([0] : List Int).getD k 0), (fun k => ([] : List (Nat → Int32)).getD k (fun _ => 0))), rfl, ⟨rfl, (by show (0 ≤ 0 ∧ 0 ≤ 1); show (0 : Int) ≤ 0 ∧ (0 : Int) ≤ 1; decide), (by show (0 = 1 → a ≤ n ∧ n ≤ b); omega), (by show (0 = 0 → n < a ∨ b < n); omega)⟩, at9 ht hP hD [] (by decide +kernel) rfl⟩, hS.F ht⟩) hS.2.2 dX12_within_15
    · refine lv_iconst (v := iI 1) hx hb dX12_within_10 (by decide) ?_
      refine lv_goto (tgt := 15) hx hb dX12_within_11 (by decide) ?_
      refine W.widen (k := 0) (n := 0) (Nat.le_of_ble_eq_true rfl) (Nat.le_of_ble_eq_true rfl) ?_
      exact W.zret (v := iI 1) hx hb hr (by first | rfl | decide) (fun t ht hW => ⟨⟨iI 1, ((fun k => ([] : List Nat).getD k 0), (fun k => ([1] : List Int).getD k 0), (fun k => ([] : List (Nat → Int32)).getD k (fun _ => 0))), rfl, ⟨rfl, (by show (0 ≤ 1 ∧ 1 ≤ 1); show (0 : Int) ≤ 1 ∧ (1 : Int) ≤ 1; decide), (by show (1 = 1 → a ≤ n ∧ n ≤ b); omega), (by show (1 = 0 → n < a ∨ b < n); omega)⟩, at9 ht hP hD [] (by decide +kernel) rfl⟩, hS.F ht⟩) hS.2.2 dX12_within_15
def vs_m_may : List Cond := .code yX12_may cX12_may 4 (some .boolean) :: (([.fieldLink RX12 1 "KerbSplashModel" "thrown" "I", .fieldLink RX12 7 "KerbSplashModel" "refused" "[I"] : List Cond) ++ ((wsX120) ++ ([])))
theorem gd_m_may : vs_m_may.all goodWord = true := gd_C (by decide +kernel) (gd_A (by decide +kernel) (gd_A (by decide +kernel) rfl))
set_option maxHeartbeats 4000000 in
set_option maxRecDepth 100000 in
theorem m_may (l : Launch) (hl : l.stackTraces = false) (D : va_G) (cy : Nat → ClassId) (sa : Nat → Nat) (mm m1 m9 m10 m11 m12 m13 m14 m15 m19 m20 m21 m23 m24 m25 m26 m27 m28 m33 m35 : Nat) (th tp sz_ ap bad bk opn fp im nr nl sp_ wtc wcl ir ip shu sfa swr : Int) (f1 : Nat → Int32) (b k n : Int) (sz : Nat) (hr_th : (-2147483648) ≤ th ∧ th ≤ 2147483647) (hr_tp : 0 ≤ tp ∧ tp ≤ 600) (hr_sz_ : 0 ≤ sz_ ∧ sz_ ≤ 600) (hr_ap : 0 ≤ ap ∧ ap ≤ 602) (hr_bad : (-1) ≤ bad ∧ bad ≤ 602) (hr_bk : 0 ≤ bk ∧ bk ≤ 4) (hr_opn : 0 ≤ opn ∧ opn ≤ 7) (hr_fp : (-2147483648) ≤ fp ∧ fp ≤ 2147483647) (hr_im : 0 ≤ im ∧ im ≤ 3) (hr_nr : 0 ≤ nr ∧ nr ≤ 4) (hr_nl : 0 ≤ nl ∧ nl ≤ 4) (hr_sp_ : 0 ≤ sp_ ∧ sp_ ≤ 602) (hr_wtc : (-2147483648) ≤ wtc ∧ wtc ≤ 2147483647) (hr_wcl : 0 ≤ wcl ∧ wcl ≤ 95) (hr_ir : 0 ≤ ir ∧ ir ≤ 5) (hr_ip : (-2147483648) ≤ ip ∧ ip ≤ 2147483647) (hr_shu : (-2147483648) ≤ shu ∧ shu ≤ 2147483647) (hr_sfa : (-2147483648) ≤ sfa ∧ sfa ≤ 2147483647) (hr_swr : (-2147483648) ≤ swr ∧ swr ≤ 2147483647) (hr_b : 0 ≤ b ∧ b ≤ 1) (hr_k : 1 ≤ k ∧ k ≤ 4) (hr_n : 0 ≤ n ∧ n ≤ 3) : mI9 l yX12_may vs_m_may ({ frames := 0, cells := 0, slots := 0, locals := 0 }) D cy sa sz [vR mm, vI b, vI k, vI n] [zO mm 12 [vI th, vR m1, vI tp, vI sz_, vI ap, vI bad, vI bk, vI opn, vI fp, vR m9, vR m10, vR m11, vR m12, vR m13, vR m14, vR m15, vI im, vI nr, vI nl, vR m19, vR m20, vR m21, vI sp_, vR m23, vR m24, vR m25, vR m26, vR m27, vR m28, vI wtc, vI wcl, vI ir, vI ip, vR m33, vI shu, vR m35, vI sfa, vI swr], zI m1 (cy 0) 4 f1] (fun (r : Int32) (u : SV) => r = iI (u.2.1 0) ∧ ((-2147483648) ≤ u.2.1 1 ∧ u.2.1 1 ≤ 2147483647) ∧ (0 ≤ u.2.1 0 ∧ u.2.1 0 ≤ 1) ∧ (u.2.1 0 = 1 → b = 1 ∧ u.2.1 1 = 0) ∧ (th = 0 → b = 1 → u.2.1 0 = 1)) (fun u : SV => [zO mm 12 [vI (u.2.1 1), vR m1, vI tp, vI sz_, vI ap, vI bad, vI bk, vI opn, vI fp, vR m9, vR m10, vR m11, vR m12, vR m13, vR m14, vR m15, vI im, vI nr, vI nl, vR m19, vR m20, vR m21, vI sp_, vR m23, vR m24, vR m25, vR m26, vR m27, vR m28, vI wtc, vI wcl, vI ir, vI ip, vR m33, vI shu, vR m35, vI sfa, vI swr], zI m1 (cy 0) 4 (u.2.2 0)]) 0 0 := by
  refine Met.ofW (cc := cX12_may) (maxL := 4) (ret := (some .boolean)) (by decide) rfl ?_
  intro p e s m args below meth c s₁ B hml hv
  obtain ⟨rfl, hsz, hP, hG, hD0, hT⟩ := hv
  have hx := B.exec
  have hb := B.bytes
  have hr := B.returns
  have hts := atoms_spec (ws := vs_m_may) B.pre
  have hown : s.vm.findClass RX12 = some m.cls := findClass_of_methodNamed B.named
  have hlocks := B.notSynchronized
  subst hsz
  have hD := hD0.self (sz := s.heap.size)
  generalize hAe : va_A [zO mm 12 [vI th, vR m1, vI tp, vI sz_, vI ap, vI bad, vI bk, vI opn, vI fp, vR m9, vR m10, vR m11, vR m12, vR m13, vR m14, vR m15, vI im, vI nr, vI nl, vR m19, vR m20, vR m21, vI sp_, vR m23, vR m24, vR m25, vR m26, vR m27, vR m28, vI wtc, vI wcl, vI ir, vI ip, vR m33, vI shu, vR m35, vI sfa, vI swr], zI m1 (cy 0) 4 f1] s.heap.size = A at hD hT ⊢
  have hA : ∀ q : Nat, s.heap.size ≤ q → A q := fun q h => by rw [← hAe]; exact Or.inr h
  have hS : va_S A s.heap s.heap [] := va_S.rf
  have hl0 := lv_entry ([vR mm, vI b, vI k, vI n]) (n := 4) (Nat.le_of_ble_eq_true rfl)
  rw [lg_entry_eq]
  generalize (lg_sl ([vR mm, vI b, vI k, vI n]) ++ List.replicate (4 - (lg_sl ([vR mm, vI b, vI k, vI n])).length) Slot.unset).toArray = ls at hl0 ⊢
  have hlv : lv_has ls 4 [(0, vR mm), (1, vI b), (2, vI k), (3, vI n)] := hl0
  have lf1 := hts (.fieldLink RX12 1 "KerbSplashModel" "thrown" "I") (List.mem_of_getElem? (i := 1) rfl)
  have hi12 : ∀ w ∈ wsX120, w ∈ vs_m_may := fun w h => List.mem_cons_of_mem _ (List.mem_append_right _ (List.mem_append_left _ h))
  have lf7 := hts (.fieldLink RX12 7 "KerbSplashModel" "refused" "[I") (List.mem_of_getElem? (i := 2) rfl)
  refine lv_iload_n hx hb dX12_may_0 rfl (lv_at hlv 1 rfl) ?_
  refine iz_ne (tgt := 26) hx hb dX12_may_1 (by decide) (by first | exact rgw hr_b (by decide) (by decide) | omega) (fun c_1 => ?_) (fun c_1 => ?_)
  · refine lv_aload_n hx hb dX12_may_26 rfl (lv_at hlv 0 rfl) ?_
    refine va_get (D := D) (ci := 12) (v := vI th) (C := RX12) (T := TX12) (N := 38) hx hb hts hi12 hown hG.1 hP 0 rfl rfl 0 (by decide) lf1 (fun _ h9 => h9) rfl dX12_may_27 ?_
    refine iz_ne (tgt := 37) hx hb dX12_may_30 (by decide) (by first | exact hr_th | omega) (fun c_2 => ?_) (fun c_2 => ?_)
    · refine lv_iconst (v := iI 0) hx hb dX12_may_37 (by decide) ?_
      refine W.widen (k := 0) (n := 0) (Nat.le_of_ble_eq_true rfl) (Nat.le_of_ble_eq_true rfl) ?_
      exact W.zret (v := iI 0) hx hb hr (by first | rfl | decide) (fun t ht hW => ⟨⟨iI 0, ((fun k => ([] : List Nat).getD k 0), (fun k => ([0, th] : List Int).getD k 0), (fun k => ([f1] : List (Nat → Int32)).getD k (fun _ => 0))), rfl, ⟨rfl, (by show ((-2147483648) ≤ th ∧ th ≤ 2147483647); first | exact hr_th | omega), (by show (0 ≤ 0 ∧ 0 ≤ 1); show (0 : Int) ≤ 0 ∧ (0 : Int) ≤ 1; decide), (by show (0 = 1 → b = 1 ∧ th = 0); omega), (by show (th = 0 → b = 1 → 0 = 1); omega)⟩, at9 ht hP hD [0, 1] (by decide +kernel) rfl⟩, hS.F ht⟩) hS.2.2 dX12_may_38
    · refine lv_iconst (v := iI 1) hx hb dX12_may_33 (by decide) ?_
      refine lv_goto (tgt := 38) hx hb dX12_may_34 (by decide) ?_
      refine W.widen (k := 0) (n := 0) (Nat.le_of_ble_eq_true rfl) (Nat.le_of_ble_eq_true rfl) ?_
      exact W.zret (v := iI 1) hx hb hr (by first | rfl | decide) (fun t ht hW => ⟨⟨iI 1, ((fun k => ([] : List Nat).getD k 0), (fun k => ([1, th] : List Int).getD k 0), (fun k => ([f1] : List (Nat → Int32)).getD k (fun _ => 0))), rfl, ⟨rfl, (by show ((-2147483648) ≤ th ∧ th ≤ 2147483647); first | exact hr_th | omega), (by show (0 ≤ 1 ∧ 1 ≤ 1); show (0 : Int) ≤ 1 ∧ (1 : Int) ≤ 1; decide), (by show (1 = 1 → b = 1 ∧ th = 0); omega), (by show (th = 0 → b = 1 → 1 = 1); omega)⟩, at9 ht hP hD [0, 1] (by decide +kernel) rfl⟩, hS.F ht⟩) hS.2.2 dX12_may_38
  · refine lv_aload_n hx hb dX12_may_4 rfl (lv_at hlv 0 rfl) ?_
    refine va_get (D := D) (ci := 12) (v := vI th) (C := RX12) (T := TX12) (N := 38) hx hb hts hi12 hown hG.1 hP 0 rfl rfl 0 (by decide) lf1 (fun _ h9 => h9) rfl dX12_may_5 ?_
    refine iz_ne (tgt := 26) hx hb dX12_may_8 (by decide) (by first | exact hr_th | omega) (fun c_3 => ?_) (fun c_3 => ?_)
    · refine lv_aload_n hx hb dX12_may_26 rfl (lv_at hlv 0 rfl) ?_
      refine va_get (D := D) (ci := 12) (v := vI th) (C := RX12) (T := TX12) (N := 38) hx hb hts hi12 hown hG.1 hP 0 rfl rfl 0 (by decide) lf1 (fun _ h9 => h9) rfl dX12_may_27 ?_
      refine iz_ne (tgt := 37) hx hb dX12_may_30 (by decide) (by first | exact hr_th | omega) (fun c_4 => ?_) (fun c_4 => ?_)
      · refine lv_iconst (v := iI 0) hx hb dX12_may_37 (by decide) ?_
        refine W.widen (k := 0) (n := 0) (Nat.le_of_ble_eq_true rfl) (Nat.le_of_ble_eq_true rfl) ?_
        exact W.zret (v := iI 0) hx hb hr (by first | rfl | decide) (fun t ht hW => ⟨⟨iI 0, ((fun k => ([] : List Nat).getD k 0), (fun k => ([0, th] : List Int).getD k 0), (fun k => ([f1] : List (Nat → Int32)).getD k (fun _ => 0))), rfl, ⟨rfl, (by show ((-2147483648) ≤ th ∧ th ≤ 2147483647); first | exact hr_th | omega), (by show (0 ≤ 0 ∧ 0 ≤ 1); show (0 : Int) ≤ 0 ∧ (0 : Int) ≤ 1; decide), (by show (0 = 1 → b = 1 ∧ th = 0); omega), (by show (th = 0 → b = 1 → 0 = 1); omega)⟩, at9 ht hP hD [0, 1] (by decide +kernel) rfl⟩, hS.F ht⟩) hS.2.2 dX12_may_38
      · refine lv_iconst (v := iI 1) hx hb dX12_may_33 (by decide) ?_
        refine lv_goto (tgt := 38) hx hb dX12_may_34 (by decide) ?_
        refine W.widen (k := 0) (n := 0) (Nat.le_of_ble_eq_true rfl) (Nat.le_of_ble_eq_true rfl) ?_
        exact W.zret (v := iI 1) hx hb hr (by first | rfl | decide) (fun t ht hW => ⟨⟨iI 1, ((fun k => ([] : List Nat).getD k 0), (fun k => ([1, th] : List Int).getD k 0), (fun k => ([f1] : List (Nat → Int32)).getD k (fun _ => 0))), rfl, ⟨rfl, (by show ((-2147483648) ≤ th ∧ th ≤ 2147483647); first | exact hr_th | omega), (by show (0 ≤ 1 ∧ 1 ≤ 1); show (0 : Int) ≤ 1 ∧ (1 : Int) ≤ 1; decide), (by show (1 = 1 → b = 1 ∧ th = 0); omega), (by show (th = 0 → b = 1 → 1 = 1); omega)⟩, at9 ht hP hD [0, 1] (by decide +kernel) rfl⟩, hS.F ht⟩) hS.2.2 dX12_may_38
    · refine lv_aload_n hx hb dX12_may_11 rfl (lv_at hlv 0 rfl) ?_
      refine lv_iload_n hx hb dX12_may_12 rfl (lv_at hlv 2 rfl) ?_
      refine va_put (D := D) (ci := 12) (v := vI k) (ty := .int) (C := RX12) (T := TX12) (N := 38) hx hb hts hi12 tyX12 tyX12_ok nmX12 hown hG.1 hP hD hS 0 rfl rfl 0 (by decide) lf1 (fun _ h9 => h9) rfl (by decide +kernel) rfl rfl (Nat.le_of_ble_eq_true rfl) dX12_may_13 (fun H locs hP hD hS => ?_)
      obtain ⟨hP, hD⟩ := pw9 [zO mm 12 [vI k, vR m1, vI tp, vI sz_, vI ap, vI bad, vI bk, vI opn, vI fp, vR m9, vR m10, vR m11, vR m12, vR m13, vR m14, vR m15, vI im, vI nr, vI nl, vR m19, vR m20, vR m21, vI sp_, vR m23, vR m24, vR m25, vR m26, vR m27, vR m28, vI wtc, vI wcl, vI ir, vI ip, vR m33, vI shu, vR m35, vI sfa, vI swr], zI m1 (cy 0) 4 f1] hP hD
      refine lv_aload_n hx hb dX12_may_16 rfl (lv_at hlv 0 rfl) ?_
      refine va_get (D := D) (ci := 12) (v := vR m1) (C := RX12) (T := TX12) (N := 38) hx hb hts hi12 hown hG.1 hP 0 rfl rfl 1 (by decide) lf7 (fun _ h9 => h9) rfl dX12_may_17 ?_
      refine lv_iload_n hx hb dX12_may_20 rfl (lv_at hlv 3 rfl) ?_
      refine lv_dup2_11 hx hb dX12_may_21 rfl rfl ?_
      refine va_iald hx hb hG.1 hP 1 0 rfl rfl (iI_in (by omega) (by decide)) dX12_may_22 ?_
      refine lt_z (fun z_5 ez_5 lz_5 hz_5 => ?_)
      refine lv_iconst (v := iI 1) hx hb dX12_may_23 (by decide) ?_
      refine lv_iadd hx hb dX12_may_24 ?_
      refine lt_z (fun z_6 ez_6 lz_6 hz_6 => ?_)
      refine va_iast hx hb hG.1 hP hD hS 1 0 rfl rfl (iI_in (by omega) (by decide)) dX12_may_25 (fun H locs hP hD hS => ?_)
      obtain ⟨f_7, hP, hD⟩ := pe9 (fun f_7 => [zO mm 12 [vI k, vR m1, vI tp, vI sz_, vI ap, vI bad, vI bk, vI opn, vI fp, vR m9, vR m10, vR m11, vR m12, vR m13, vR m14, vR m15, vI im, vI nr, vI nl, vR m19, vR m20, vR m21, vI sp_, vR m23, vR m24, vR m25, vR m26, vR m27, vR m28, vI wtc, vI wcl, vI ir, vI ip, vR m33, vI shu, vR m35, vI sfa, vI swr], zI m1 (cy 0) 4 f_7]) _ hP hD
      refine lv_aload_n hx hb dX12_may_26 rfl (lv_at hlv 0 rfl) ?_
      refine va_get (D := D) (ci := 12) (v := vI k) (C := RX12) (T := TX12) (N := 38) hx hb hts hi12 hown hG.1 hP 0 rfl rfl 0 (by decide) lf1 (fun _ h9 => h9) rfl dX12_may_27 ?_
      refine iz_ne (tgt := 37) hx hb dX12_may_30 (by decide) (by first | exact rgw hr_k (by decide) (by decide) | omega) (fun c_8 => ?_) (fun c_8 => by exfalso; omega)
      refine lv_iconst (v := iI 0) hx hb dX12_may_37 (by decide) ?_
      refine W.widen (k := 0) (n := 0) (Nat.le_of_ble_eq_true rfl) (Nat.le_of_ble_eq_true rfl) ?_
      exact W.zret (v := iI 0) hx hb hr (by first | rfl | decide) (fun t ht hW => ⟨⟨iI 0, ((fun k9 => ([] : List Nat).getD k9 0), (fun k9 => ([0, k] : List Int).getD k9 0), (fun k9 => ([f_7] : List (Nat → Int32)).getD k9 (fun _ => 0))), rfl, ⟨rfl, (by show ((-2147483648) ≤ k ∧ k ≤ 2147483647); first | exact rgw hr_k (by decide) (by decide) | omega), (by show (0 ≤ 0 ∧ 0 ≤ 1); show (0 : Int) ≤ 0 ∧ (0 : Int) ≤ 1; decide), (by show (0 = 1 → b = 1 ∧ k = 0); omega), (by show (th = 0 → b = 1 → 0 = 1); omega)⟩, at9 ht hP hD [0, 1] (by decide +kernel) rfl⟩, hS.F ht⟩) hS.2.2 dX12_may_38
def vs_m_fine : List Cond := .code yX12_fine cX12_fine 1 (some .boolean) :: (([.fieldLink RX12 80 "KerbSplashModel" "bad" "I"] : List Cond) ++ ((wsX120) ++ ([])))
theorem gd_m_fine : vs_m_fine.all goodWord = true := gd_C (by decide +kernel) (gd_A (by decide +kernel) (gd_A (by decide +kernel) rfl))
set_option maxHeartbeats 4000000 in
set_option maxRecDepth 100000 in
theorem m_fine (l : Launch) (hl : l.stackTraces = false) (D : va_G) (cy : Nat → ClassId) (sa : Nat → Nat) (mm m1 m9 m10 m11 m12 m13 m14 m15 m19 m20 m21 m23 m24 m25 m26 m27 m28 m33 m35 : Nat) (th tp sz_ ap bad bk opn fp im nr nl sp_ wtc wcl ir ip shu sfa swr : Int) (sz : Nat) (hr_th : (-2147483648) ≤ th ∧ th ≤ 2147483647) (hr_tp : 0 ≤ tp ∧ tp ≤ 600) (hr_sz_ : 0 ≤ sz_ ∧ sz_ ≤ 600) (hr_ap : 0 ≤ ap ∧ ap ≤ 602) (hr_bad : (-1) ≤ bad ∧ bad ≤ 602) (hr_bk : 0 ≤ bk ∧ bk ≤ 4) (hr_opn : 0 ≤ opn ∧ opn ≤ 7) (hr_fp : (-2147483648) ≤ fp ∧ fp ≤ 2147483647) (hr_im : 0 ≤ im ∧ im ≤ 3) (hr_nr : 0 ≤ nr ∧ nr ≤ 4) (hr_nl : 0 ≤ nl ∧ nl ≤ 4) (hr_sp_ : 0 ≤ sp_ ∧ sp_ ≤ 602) (hr_wtc : (-2147483648) ≤ wtc ∧ wtc ≤ 2147483647) (hr_wcl : 0 ≤ wcl ∧ wcl ≤ 95) (hr_ir : 0 ≤ ir ∧ ir ≤ 5) (hr_ip : (-2147483648) ≤ ip ∧ ip ≤ 2147483647) (hr_shu : (-2147483648) ≤ shu ∧ shu ≤ 2147483647) (hr_sfa : (-2147483648) ≤ sfa ∧ sfa ≤ 2147483647) (hr_swr : (-2147483648) ≤ swr ∧ swr ≤ 2147483647) : mI9 l yX12_fine vs_m_fine ({ frames := 0, cells := 0, slots := 0, locals := 0 }) D cy sa sz [vR mm] [zO mm 12 [vI th, vR m1, vI tp, vI sz_, vI ap, vI bad, vI bk, vI opn, vI fp, vR m9, vR m10, vR m11, vR m12, vR m13, vR m14, vR m15, vI im, vI nr, vI nl, vR m19, vR m20, vR m21, vI sp_, vR m23, vR m24, vR m25, vR m26, vR m27, vR m28, vI wtc, vI wcl, vI ir, vI ip, vR m33, vI shu, vR m35, vI sfa, vI swr]] (fun (r : Int32) (u : SV) => r = iI (u.2.1 0) ∧ (0 ≤ u.2.1 0 ∧ u.2.1 0 ≤ 1) ∧ (u.2.1 0 = 1 → bad = -1) ∧ (u.2.1 0 = 0 → bad ≠ -1)) (fun u : SV => [zO mm 12 [vI th, vR m1, vI tp, vI sz_, vI ap, vI bad, vI bk, vI opn, vI fp, vR m9, vR m10, vR m11, vR m12, vR m13, vR m14, vR m15, vI im, vI nr, vI nl, vR m19, vR m20, vR m21, vI sp_, vR m23, vR m24, vR m25, vR m26, vR m27, vR m28, vI wtc, vI wcl, vI ir, vI ip, vR m33, vI shu, vR m35, vI sfa, vI swr]]) 0 0 := by
  refine Met.ofW (cc := cX12_fine) (maxL := 1) (ret := (some .boolean)) (by decide) rfl ?_
  intro p e s m args below meth c s₁ B hml hv
  obtain ⟨rfl, hsz, hP, hG, hD0, hT⟩ := hv
  have hx := B.exec
  have hb := B.bytes
  have hr := B.returns
  have hts := atoms_spec (ws := vs_m_fine) B.pre
  have hown : s.vm.findClass RX12 = some m.cls := findClass_of_methodNamed B.named
  have hlocks := B.notSynchronized
  subst hsz
  have hD := hD0.self (sz := s.heap.size)
  generalize hAe : va_A [zO mm 12 [vI th, vR m1, vI tp, vI sz_, vI ap, vI bad, vI bk, vI opn, vI fp, vR m9, vR m10, vR m11, vR m12, vR m13, vR m14, vR m15, vI im, vI nr, vI nl, vR m19, vR m20, vR m21, vI sp_, vR m23, vR m24, vR m25, vR m26, vR m27, vR m28, vI wtc, vI wcl, vI ir, vI ip, vR m33, vI shu, vR m35, vI sfa, vI swr]] s.heap.size = A at hD hT ⊢
  have hA : ∀ q : Nat, s.heap.size ≤ q → A q := fun q h => by rw [← hAe]; exact Or.inr h
  have hS : va_S A s.heap s.heap [] := va_S.rf
  have hl0 := lv_entry ([vR mm]) (n := 1) (Nat.le_of_ble_eq_true rfl)
  rw [lg_entry_eq]
  generalize (lg_sl ([vR mm]) ++ List.replicate (1 - (lg_sl ([vR mm])).length) Slot.unset).toArray = ls at hl0 ⊢
  have hlv : lv_has ls 1 [(0, vR mm)] := hl0
  have lf80 := hts (.fieldLink RX12 80 "KerbSplashModel" "bad" "I") (List.mem_of_getElem? (i := 1) rfl)
  have hi12 : ∀ w ∈ wsX120, w ∈ vs_m_fine := fun w h => List.mem_cons_of_mem _ (List.mem_append_right _ (List.mem_append_left _ h))
  refine lv_aload_n hx hb dX12_fine_0 rfl (lv_at hlv 0 rfl) ?_
  refine va_get (D := D) (ci := 12) (v := vI bad) (C := RX12) (T := TX12) (N := 38) hx hb hts hi12 hown hG.1 hP 0 rfl rfl 5 (by decide) lf80 (fun _ h9 => h9) rfl dX12_fine_1 ?_
  refine lv_iconst (v := iI (-1)) hx hb dX12_fine_4 (by decide) ?_
  refine ir_ne (tgt := 12) hx hb dX12_fine_5 (by decide) (by first | exact rgw hr_bad (by decide) (by decide) | omega) (by show ((-2147483648) : Int) ≤ (-1) ∧ ((-1) : Int) ≤ 2147483647; decide) (fun c_1 => ?_) (fun c_1 => ?_)
  · refine lv_iconst (v := iI 0) hx hb dX12_fine_12 (by decide) ?_
    refine W.widen (k := 0) (n := 0) (Nat.le_of_ble_eq_true rfl) (Nat.le_of_ble_eq_true rfl) ?_
    exact W.zret (v := iI 0) hx hb hr (by first | rfl | decide) (fun t ht hW => ⟨⟨iI 0, ((fun k => ([] : List Nat).getD k 0), (fun k => ([0] : List Int).getD k 0), (fun k => ([] : List (Nat → Int32)).getD k (fun _ => 0))), rfl, ⟨rfl, (by show (0 ≤ 0 ∧ 0 ≤ 1); show (0 : Int) ≤ 0 ∧ (0 : Int) ≤ 1; decide), (by show (0 = 1 → bad = -1); omega), (by show (0 = 0 → bad ≠ -1); omega)⟩, at9 ht hP hD [0] (by decide +kernel) rfl⟩, hS.F ht⟩) hS.2.2 dX12_fine_13
  · refine lv_iconst (v := iI 1) hx hb dX12_fine_8 (by decide) ?_
    refine lv_goto (tgt := 13) hx hb dX12_fine_9 (by decide) ?_
    refine W.widen (k := 0) (n := 0) (Nat.le_of_ble_eq_true rfl) (Nat.le_of_ble_eq_true rfl) ?_
    exact W.zret (v := iI 1) hx hb hr (by first | rfl | decide) (fun t ht hW => ⟨⟨iI 1, ((fun k => ([] : List Nat).getD k 0), (fun k => ([1] : List Int).getD k 0), (fun k => ([] : List (Nat → Int32)).getD k (fun _ => 0))), rfl, ⟨rfl, (by show (0 ≤ 1 ∧ 1 ≤ 1); show (0 : Int) ≤ 1 ∧ (1 : Int) ≤ 1; decide), (by show (1 = 1 → bad = -1); omega), (by show (1 = 0 → bad ≠ -1); omega)⟩, at9 ht hP hD [0] (by decide +kernel) rfl⟩, hS.F ht⟩) hS.2.2 dX12_fine_13
def vs_m_wrong : List Cond := .code yX12_wrong cX12_wrong 3 none :: (([.fieldLink RX12 80 "KerbSplashModel" "bad" "I", .fieldLink RX12 83 "KerbSplashModel" "badKind" "I"] : List Cond) ++ ((wsX120) ++ ([])))
theorem gd_m_wrong : vs_m_wrong.all goodWord = true := gd_C (by decide +kernel) (gd_A (by decide +kernel) (gd_A (by decide +kernel) rfl))
set_option maxHeartbeats 4000000 in
set_option maxRecDepth 100000 in
theorem m_wrong (l : Launch) (hl : l.stackTraces = false) (D : va_G) (cy : Nat → ClassId) (sa : Nat → Nat) (mm m1 m9 m10 m11 m12 m13 m14 m15 m19 m20 m21 m23 m24 m25 m26 m27 m28 m33 m35 : Nat) (th tp sz_ ap bad bk opn fp im nr nl sp_ wtc wcl ir ip shu sfa swr : Int) (k n : Int) (sz : Nat) (hr_th : (-2147483648) ≤ th ∧ th ≤ 2147483647) (hr_tp : 0 ≤ tp ∧ tp ≤ 600) (hr_sz_ : 0 ≤ sz_ ∧ sz_ ≤ 600) (hr_ap : 0 ≤ ap ∧ ap ≤ 602) (hr_bad : (-1) ≤ bad ∧ bad ≤ 602) (hr_bk : 0 ≤ bk ∧ bk ≤ 4) (hr_opn : 0 ≤ opn ∧ opn ≤ 7) (hr_fp : (-2147483648) ≤ fp ∧ fp ≤ 2147483647) (hr_im : 0 ≤ im ∧ im ≤ 3) (hr_nr : 0 ≤ nr ∧ nr ≤ 4) (hr_nl : 0 ≤ nl ∧ nl ≤ 4) (hr_sp_ : 0 ≤ sp_ ∧ sp_ ≤ 602) (hr_wtc : (-2147483648) ≤ wtc ∧ wtc ≤ 2147483647) (hr_wcl : 0 ≤ wcl ∧ wcl ≤ 95) (hr_ir : 0 ≤ ir ∧ ir ≤ 5) (hr_ip : (-2147483648) ≤ ip ∧ ip ≤ 2147483647) (hr_shu : (-2147483648) ≤ shu ∧ shu ≤ 2147483647) (hr_sfa : (-2147483648) ≤ sfa ∧ sfa ≤ 2147483647) (hr_swr : (-2147483648) ≤ swr ∧ swr ≤ 2147483647) (hr_k : 1 ≤ k ∧ k ≤ 4) (hr_n : 0 ≤ n ∧ n ≤ 602) : mV9 l yX12_wrong vs_m_wrong ({ frames := 0, cells := 0, slots := 0, locals := 0 }) D cy sa sz [vR mm, vI k, vI n] [zO mm 12 [vI th, vR m1, vI tp, vI sz_, vI ap, vI bad, vI bk, vI opn, vI fp, vR m9, vR m10, vR m11, vR m12, vR m13, vR m14, vR m15, vI im, vI nr, vI nl, vR m19, vR m20, vR m21, vI sp_, vR m23, vR m24, vR m25, vR m26, vR m27, vR m28, vI wtc, vI wcl, vI ir, vI ip, vR m33, vI shu, vR m35, vI sfa, vI swr]] (fun u : SV => (0 ≤ u.2.1 0 ∧ u.2.1 0 ≤ 602) ∧ (0 ≤ u.2.1 1 ∧ u.2.1 1 ≤ 4) ∧ (u.2.1 0 ≠ -1) ∧ (bad ≠ -1 → u.2.1 0 = bad)) (fun u : SV => [zO mm 12 [vI th, vR m1, vI tp, vI sz_, vI ap, vI (u.2.1 0), vI (u.2.1 1), vI opn, vI fp, vR m9, vR m10, vR m11, vR m12, vR m13, vR m14, vR m15, vI im, vI nr, vI nl, vR m19, vR m20, vR m21, vI sp_, vR m23, vR m24, vR m25, vR m26, vR m27, vR m28, vI wtc, vI wcl, vI ir, vI ip, vR m33, vI shu, vR m35, vI sfa, vI swr]]) 0 0 := by
  refine Met.ofW (cc := cX12_wrong) (maxL := 3) (ret := none) (by decide) rfl ?_
  intro p e s m args below meth c s₁ B hml hv
  obtain ⟨rfl, hsz, hP, hG, hD0, hT⟩ := hv
  have hx := B.exec
  have hb := B.bytes
  have hr := B.returns
  have hts := atoms_spec (ws := vs_m_wrong) B.pre
  have hown : s.vm.findClass RX12 = some m.cls := findClass_of_methodNamed B.named
  have hlocks := B.notSynchronized
  subst hsz
  have hD := hD0.self (sz := s.heap.size)
  generalize hAe : va_A [zO mm 12 [vI th, vR m1, vI tp, vI sz_, vI ap, vI bad, vI bk, vI opn, vI fp, vR m9, vR m10, vR m11, vR m12, vR m13, vR m14, vR m15, vI im, vI nr, vI nl, vR m19, vR m20, vR m21, vI sp_, vR m23, vR m24, vR m25, vR m26, vR m27, vR m28, vI wtc, vI wcl, vI ir, vI ip, vR m33, vI shu, vR m35, vI sfa, vI swr]] s.heap.size = A at hD hT ⊢
  have hA : ∀ q : Nat, s.heap.size ≤ q → A q := fun q h => by rw [← hAe]; exact Or.inr h
  have hS : va_S A s.heap s.heap [] := va_S.rf
  have hl0 := lv_entry ([vR mm, vI k, vI n]) (n := 3) (Nat.le_of_ble_eq_true rfl)
  rw [lg_entry_eq]
  generalize (lg_sl ([vR mm, vI k, vI n]) ++ List.replicate (3 - (lg_sl ([vR mm, vI k, vI n])).length) Slot.unset).toArray = ls at hl0 ⊢
  have hlv : lv_has ls 3 [(0, vR mm), (1, vI k), (2, vI n)] := hl0
  have lf80 := hts (.fieldLink RX12 80 "KerbSplashModel" "bad" "I") (List.mem_of_getElem? (i := 1) rfl)
  have hi12 : ∀ w ∈ wsX120, w ∈ vs_m_wrong := fun w h => List.mem_cons_of_mem _ (List.mem_append_right _ (List.mem_append_left _ h))
  have lf83 := hts (.fieldLink RX12 83 "KerbSplashModel" "badKind" "I") (List.mem_of_getElem? (i := 2) rfl)
  refine lv_aload_n hx hb dX12_wrong_0 rfl (lv_at hlv 0 rfl) ?_
  refine va_get (D := D) (ci := 12) (v := vI bad) (C := RX12) (T := TX12) (N := 38) hx hb hts hi12 hown hG.1 hP 0 rfl rfl 5 (by decide) lf80 (fun _ h9 => h9) rfl dX12_wrong_1 ?_
  refine lv_iconst (v := iI (-1)) hx hb dX12_wrong_4 (by decide) ?_
  refine ir_eq (tgt := 9) hx hb dX12_wrong_5 (by decide) (by first | exact rgw hr_bad (by decide) (by decide) | omega) (by show ((-2147483648) : Int) ≤ (-1) ∧ ((-1) : Int) ≤ 2147483647; decide) (fun c_1 => ?_) (fun c_1 => ?_)
  · refine lv_aload_n hx hb dX12_wrong_9 rfl (lv_at hlv 0 rfl) ?_
    refine lv_iload_n hx hb dX12_wrong_10 rfl (lv_at hlv 2 rfl) ?_
    refine va_put (D := D) (ci := 12) (v := vI n) (ty := .int) (C := RX12) (T := TX12) (N := 38) hx hb hts hi12 tyX12 tyX12_ok nmX12 hown hG.1 hP hD hS 0 rfl rfl 5 (by decide) lf80 (fun _ h9 => h9) rfl (by decide +kernel) rfl rfl (Nat.le_of_ble_eq_true rfl) dX12_wrong_11 (fun H locs hP hD hS => ?_)
    obtain ⟨hP, hD⟩ := pw9 [zO mm 12 [vI th, vR m1, vI tp, vI sz_, vI ap, vI n, vI bk, vI opn, vI fp, vR m9, vR m10, vR m11, vR m12, vR m13, vR m14, vR m15, vI im, vI nr, vI nl, vR m19, vR m20, vR m21, vI sp_, vR m23, vR m24, vR m25, vR m26, vR m27, vR m28, vI wtc, vI wcl, vI ir, vI ip, vR m33, vI shu, vR m35, vI sfa, vI swr]] hP hD
    refine lv_aload_n hx hb dX12_wrong_14 rfl (lv_at hlv 0 rfl) ?_
    refine lv_iload_n hx hb dX12_wrong_15 rfl (lv_at hlv 1 rfl) ?_
    refine va_put (D := D) (ci := 12) (v := vI k) (ty := .int) (C := RX12) (T := TX12) (N := 38) hx hb hts hi12 tyX12 tyX12_ok nmX12 hown hG.1 hP hD hS 0 rfl rfl 6 (by decide) lf83 (fun _ h9 => h9) rfl (by decide +kernel) rfl rfl (Nat.le_of_ble_eq_true rfl) dX12_wrong_16 (fun H locs hP hD hS => ?_)
    obtain ⟨hP, hD⟩ := pw9 [zO mm 12 [vI th, vR m1, vI tp, vI sz_, vI ap, vI n, vI k, vI opn, vI fp, vR m9, vR m10, vR m11, vR m12, vR m13, vR m14, vR m15, vI im, vI nr, vI nl, vR m19, vR m20, vR m21, vI sp_, vR m23, vR m24, vR m25, vR m26, vR m27, vR m28, vI wtc, vI wcl, vI ir, vI ip, vR m33, vI shu, vR m35, vI sfa, vI swr]] hP hD
    refine W.widen (k := 0) (n := 0) (Nat.le_of_ble_eq_true rfl) (Nat.le_of_ble_eq_true rfl) ?_
    exact W.vret hx hb hr (fun t ht hW => ⟨⟨((fun k9 => ([] : List Nat).getD k9 0), (fun k9 => ([n, k] : List Int).getD k9 0), (fun k9 => ([] : List (Nat → Int32)).getD k9 (fun _ => 0))), rfl, ⟨(by show (0 ≤ n ∧ n ≤ 602); first | exact hr_n | omega), (by show (0 ≤ k ∧ k ≤ 4); first | exact rgw hr_k (by decide) (by decide) | omega), (by show (n ≠ -1); omega), (by show (bad ≠ -1 → n = bad); omega)⟩, at9 ht hP hD [0] (by decide +kernel) rfl⟩, hS.F ht⟩) hS.2.2 dX12_wrong_19
  · refine W.widen (k := 0) (n := 0) (Nat.le_of_ble_eq_true rfl) (Nat.le_of_ble_eq_true rfl) ?_
    exact W.vret hx hb hr (fun t ht hW => ⟨⟨((fun k => ([] : List Nat).getD k 0), (fun k => ([bad, bk] : List Int).getD k 0), (fun k => ([] : List (Nat → Int32)).getD k (fun _ => 0))), rfl, ⟨(by show (0 ≤ bad ∧ bad ≤ 602); omega), (by show (0 ≤ bk ∧ bk ≤ 4); first | exact hr_bk | omega), (by show (bad ≠ -1); omega), (by show (bad ≠ -1 → bad = bad); omega)⟩, at9 ht hP hD [0] (by decide +kernel) rfl⟩, hS.F ht⟩) hS.2.2 dX12_wrong_8
def vs_m_isSmall : List Cond := .code yX12_isSmall cX12_isSmall 1 (some .boolean) :: (([] : List Cond) ++ ([]))
theorem gd_m_isSmall : vs_m_isSmall.all goodWord = true := gd_C (by decide +kernel) (gd_A (by decide +kernel) rfl)
set_option maxHeartbeats 4000000 in
set_option maxRecDepth 100000 in
theorem m_isSmall (l : Launch) (hl : l.stackTraces = false) (D : va_G) (cy : Nat → ClassId) (sa : Nat → Nat) (n : Int) (sz : Nat) (hr_n : (-2147483648) ≤ n ∧ n ≤ 2147483647) : mI9 l yX12_isSmall vs_m_isSmall ({ frames := 0, cells := 0, slots := 0, locals := 0 }) D cy sa sz [vI n] [] (fun (r : Int32) (u : SV) => r = iI (u.2.1 0) ∧ (0 ≤ u.2.1 0 ∧ u.2.1 0 ≤ 1) ∧ (u.2.1 0 = 1 → 97 ≤ n ∧ n ≤ 122) ∧ (u.2.1 0 = 0 → n < 97 ∨ 122 < n)) (fun u : SV => []) 0 0 := by
  refine Met.ofW (cc := cX12_isSmall) (maxL := 1) (ret := (some .boolean)) (by decide) rfl ?_
  intro p e s m args below meth c s₁ B hml hv
  obtain ⟨rfl, hsz, hP, hG, hD0, hT⟩ := hv
  have hx := B.exec
  have hb := B.bytes
  have hr := B.returns
  have hts := atoms_spec (ws := vs_m_isSmall) B.pre
  have hown : s.vm.findClass RX12 = some m.cls := findClass_of_methodNamed B.named
  have hlocks := B.notSynchronized
  subst hsz
  have hD := hD0.self (sz := s.heap.size)
  generalize hAe : va_A [] s.heap.size = A at hD hT ⊢
  have hA : ∀ q : Nat, s.heap.size ≤ q → A q := fun q h => by rw [← hAe]; exact Or.inr h
  have hS : va_S A s.heap s.heap [] := va_S.rf
  have hl0 := lv_entry ([vI n]) (n := 1) (Nat.le_of_ble_eq_true rfl)
  rw [lg_entry_eq]
  generalize (lg_sl ([vI n]) ++ List.replicate (1 - (lg_sl ([vI n])).length) Slot.unset).toArray = ls at hl0 ⊢
  have hlv : lv_has ls 1 [(0, vI n)] := hl0
  refine lv_iload_n hx hb dX12_isSmall_0 rfl (lv_at hlv 0 rfl) ?_
  refine lv_bipush (v := iI 97) hx hb dX12_isSmall_1 (by decide) ?_
  refine ir_lt (tgt := 16) hx hb dX12_isSmall_3 (by decide) (by first | exact hr_n | omega) (by show ((-2147483648) : Int) ≤ 97 ∧ (97 : Int) ≤ 2147483647; decide) (fun c_1 => ?_) (fun c_1 => ?_)
  · refine lv_iconst (v := iI 0) hx hb dX12_isSmall_16 (by decide) ?_
    refine W.widen (k := 0) (n := 0) (Nat.le_of_ble_eq_true rfl) (Nat.le_of_ble_eq_true rfl) ?_
    exact W.zret (v := iI 0) hx hb hr (by first | rfl | decide) (fun t ht hW => ⟨⟨iI 0, ((fun k => ([] : List Nat).getD k 0), (fun k => ([0] : List Int).getD k 0), (fun k => ([] : List (Nat → Int32)).getD k (fun _ => 0))), rfl, ⟨rfl, (by show (0 ≤ 0 ∧ 0 ≤ 1); show (0 : Int) ≤ 0 ∧ (0 : Int) ≤ 1; decide), (by show (0 = 1 → 97 ≤ n ∧ n ≤ 122); omega), (by show (0 = 0 → n < 97 ∨ 122 < n); omega)⟩, at9 ht hP hD [] (by decide +kernel) rfl⟩, hS.F ht⟩) hS.2.2 dX12_isSmall_17
  · refine lv_iload_n hx hb dX12_isSmall_6 rfl (lv_at hlv 0 rfl) ?_
    refine lv_bipush (v := iI 122) hx hb dX12_isSmall_7 (by decide) ?_
    refine ir_gt (tgt := 16) hx hb dX12_isSmall_9 (by decide) (by first | exact hr_n | omega) (by show ((-2147483648) : Int) ≤ 122 ∧ (122 : Int) ≤ 2147483647; decide) (fun c_2 => ?_) (fun c_2 => ?_)
    · refine lv_iconst (v := iI 0) hx hb dX12_isSmall_16 (by decide) ?_
      refine W.widen (k := 0) (n := 0) (Nat.le_of_ble_eq_true rfl) (Nat.le_of_ble_eq_true rfl) ?_
      exact W.zret (v := iI 0) hx hb hr (by first | rfl | decide) (fun t ht hW => ⟨⟨iI 0, ((fun k => ([] : List Nat).getD k 0), (fun k => ([0] : List Int).getD k 0), (fun k => ([] : List (Nat → Int32)).getD k (fun _ => 0))), rfl, ⟨rfl, (by show (0 ≤ 0 ∧ 0 ≤ 1); show (0 : Int) ≤ 0 ∧ (0 : Int) ≤ 1; decide), (by show (0 = 1 → 97 ≤ n ∧ n ≤ 122); omega), (by show (0 = 0 → n < 97 ∨ 122 < n); omega)⟩, at9 ht hP hD [] (by decide +kernel) rfl⟩, hS.F ht⟩) hS.2.2 dX12_isSmall_17
    · refine lv_iconst (v := iI 1) hx hb dX12_isSmall_12 (by decide) ?_
      refine lv_goto (tgt := 17) hx hb dX12_isSmall_13 (by decide) ?_
      refine W.widen (k := 0) (n := 0) (Nat.le_of_ble_eq_true rfl) (Nat.le_of_ble_eq_true rfl) ?_
      exact W.zret (v := iI 1) hx hb hr (by first | rfl | decide) (fun t ht hW => ⟨⟨iI 1, ((fun k => ([] : List Nat).getD k 0), (fun k => ([1] : List Int).getD k 0), (fun k => ([] : List (Nat → Int32)).getD k (fun _ => 0))), rfl, ⟨rfl, (by show (0 ≤ 1 ∧ 1 ≤ 1); show (0 : Int) ≤ 1 ∧ (1 : Int) ≤ 1; decide), (by show (1 = 1 → 97 ≤ n ∧ n ≤ 122); omega), (by show (1 = 0 → n < 97 ∨ 122 < n); omega)⟩, at9 ht hP hD [] (by decide +kernel) rfl⟩, hS.F ht⟩) hS.2.2 dX12_isSmall_17
def vs_m_isDigit : List Cond := .code yX12_isDigit cX12_isDigit 1 (some .boolean) :: (([] : List Cond) ++ ([]))
theorem gd_m_isDigit : vs_m_isDigit.all goodWord = true := gd_C (by decide +kernel) (gd_A (by decide +kernel) rfl)
set_option maxHeartbeats 4000000 in
set_option maxRecDepth 100000 in
theorem m_isDigit (l : Launch) (hl : l.stackTraces = false) (D : va_G) (cy : Nat → ClassId) (sa : Nat → Nat) (n : Int) (sz : Nat) (hr_n : (-2147483648) ≤ n ∧ n ≤ 2147483647) : mI9 l yX12_isDigit vs_m_isDigit ({ frames := 0, cells := 0, slots := 0, locals := 0 }) D cy sa sz [vI n] [] (fun (r : Int32) (u : SV) => r = iI (u.2.1 0) ∧ (0 ≤ u.2.1 0 ∧ u.2.1 0 ≤ 1) ∧ (u.2.1 0 = 1 → 48 ≤ n ∧ n ≤ 57) ∧ (u.2.1 0 = 0 → n < 48 ∨ 57 < n)) (fun u : SV => []) 0 0 := by
  refine Met.ofW (cc := cX12_isDigit) (maxL := 1) (ret := (some .boolean)) (by decide) rfl ?_
  intro p e s m args below meth c s₁ B hml hv
  obtain ⟨rfl, hsz, hP, hG, hD0, hT⟩ := hv
  have hx := B.exec
  have hb := B.bytes
  have hr := B.returns
  have hts := atoms_spec (ws := vs_m_isDigit) B.pre
  have hown : s.vm.findClass RX12 = some m.cls := findClass_of_methodNamed B.named
  have hlocks := B.notSynchronized
  subst hsz
  have hD := hD0.self (sz := s.heap.size)
  generalize hAe : va_A [] s.heap.size = A at hD hT ⊢
  have hA : ∀ q : Nat, s.heap.size ≤ q → A q := fun q h => by rw [← hAe]; exact Or.inr h
  have hS : va_S A s.heap s.heap [] := va_S.rf
  have hl0 := lv_entry ([vI n]) (n := 1) (Nat.le_of_ble_eq_true rfl)
  rw [lg_entry_eq]
  generalize (lg_sl ([vI n]) ++ List.replicate (1 - (lg_sl ([vI n])).length) Slot.unset).toArray = ls at hl0 ⊢
  have hlv : lv_has ls 1 [(0, vI n)] := hl0
  refine lv_iload_n hx hb dX12_isDigit_0 rfl (lv_at hlv 0 rfl) ?_
  refine lv_bipush (v := iI 48) hx hb dX12_isDigit_1 (by decide) ?_
  refine ir_lt (tgt := 16) hx hb dX12_isDigit_3 (by decide) (by first | exact hr_n | omega) (by show ((-2147483648) : Int) ≤ 48 ∧ (48 : Int) ≤ 2147483647; decide) (fun c_1 => ?_) (fun c_1 => ?_)
  · refine lv_iconst (v := iI 0) hx hb dX12_isDigit_16 (by decide) ?_
    refine W.widen (k := 0) (n := 0) (Nat.le_of_ble_eq_true rfl) (Nat.le_of_ble_eq_true rfl) ?_
    exact W.zret (v := iI 0) hx hb hr (by first | rfl | decide) (fun t ht hW => ⟨⟨iI 0, ((fun k => ([] : List Nat).getD k 0), (fun k => ([0] : List Int).getD k 0), (fun k => ([] : List (Nat → Int32)).getD k (fun _ => 0))), rfl, ⟨rfl, (by show (0 ≤ 0 ∧ 0 ≤ 1); show (0 : Int) ≤ 0 ∧ (0 : Int) ≤ 1; decide), (by show (0 = 1 → 48 ≤ n ∧ n ≤ 57); omega), (by show (0 = 0 → n < 48 ∨ 57 < n); omega)⟩, at9 ht hP hD [] (by decide +kernel) rfl⟩, hS.F ht⟩) hS.2.2 dX12_isDigit_17
  · refine lv_iload_n hx hb dX12_isDigit_6 rfl (lv_at hlv 0 rfl) ?_
    refine lv_bipush (v := iI 57) hx hb dX12_isDigit_7 (by decide) ?_
    refine ir_gt (tgt := 16) hx hb dX12_isDigit_9 (by decide) (by first | exact hr_n | omega) (by show ((-2147483648) : Int) ≤ 57 ∧ (57 : Int) ≤ 2147483647; decide) (fun c_2 => ?_) (fun c_2 => ?_)
    · refine lv_iconst (v := iI 0) hx hb dX12_isDigit_16 (by decide) ?_
      refine W.widen (k := 0) (n := 0) (Nat.le_of_ble_eq_true rfl) (Nat.le_of_ble_eq_true rfl) ?_
      exact W.zret (v := iI 0) hx hb hr (by first | rfl | decide) (fun t ht hW => ⟨⟨iI 0, ((fun k => ([] : List Nat).getD k 0), (fun k => ([0] : List Int).getD k 0), (fun k => ([] : List (Nat → Int32)).getD k (fun _ => 0))), rfl, ⟨rfl, (by show (0 ≤ 0 ∧ 0 ≤ 1); show (0 : Int) ≤ 0 ∧ (0 : Int) ≤ 1; decide), (by show (0 = 1 → 48 ≤ n ∧ n ≤ 57); omega), (by show (0 = 0 → n < 48 ∨ 57 < n); omega)⟩, at9 ht hP hD [] (by decide +kernel) rfl⟩, hS.F ht⟩) hS.2.2 dX12_isDigit_17
    · refine lv_iconst (v := iI 1) hx hb dX12_isDigit_12 (by decide) ?_
      refine lv_goto (tgt := 17) hx hb dX12_isDigit_13 (by decide) ?_
      refine W.widen (k := 0) (n := 0) (Nat.le_of_ble_eq_true rfl) (Nat.le_of_ble_eq_true rfl) ?_
      exact W.zret (v := iI 1) hx hb hr (by first | rfl | decide) (fun t ht hW => ⟨⟨iI 1, ((fun k => ([] : List Nat).getD k 0), (fun k => ([1] : List Int).getD k 0), (fun k => ([] : List (Nat → Int32)).getD k (fun _ => 0))), rfl, ⟨rfl, (by show (0 ≤ 1 ∧ 1 ≤ 1); show (0 : Int) ≤ 1 ∧ (1 : Int) ≤ 1; decide), (by show (1 = 1 → 48 ≤ n ∧ n ≤ 57); omega), (by show (1 = 0 → n < 48 ∨ 57 < n); omega)⟩, at9 ht hP hD [] (by decide +kernel) rfl⟩, hS.F ht⟩) hS.2.2 dX12_isDigit_17
end
section
theorem dX12_here_0 : decode cX12_here 0 = .ok (.aload_n 0, 1) := by decide +kernel
theorem dX12_here_1 : decode cX12_here 1 = .ok (.getfield 86, 3) := by decide +kernel
theorem dX12_here_11 : decode cX12_here 11 = .ok (.aload_n 0, 1) := by decide +kernel
theorem dX12_here_12 : decode cX12_here 12 = .ok (.getfield 20, 3) := by decide +kernel
theorem dX12_here_15 : decode cX12_here 15 = .ok (.aload_n 0, 1) := by decide +kernel
theorem dX12_here_16 : decode cX12_here 16 = .ok (.getfield 86, 3) := by decide +kernel
theorem dX12_here_19 : decode cX12_here 19 = .ok (.iaload, 1) := by decide +kernel
theorem dX12_here_20 : decode cX12_here 20 = .ok (.bipush 32, 2) := by decide +kernel
theorem dX12_here_22 : decode cX12_here 22 = .ok (.if_icmp .ne 16, 3) := by decide +kernel
theorem dX12_here_25 : decode cX12_here 25 = .ok (.aload_n 0, 1) := by decide +kernel
theorem dX12_here_26 : decode cX12_here 26 = .ok (.dup, 1) := by decide +kernel
theorem dX12_here_27 : decode cX12_here 27 = .ok (.getfield 86, 3) := by decide +kernel
theorem dX12_here_30 : decode cX12_here 30 = .ok (.iconst 1, 1) := by decide +kernel
theorem dX12_here_31 : decode cX12_here 31 = .ok (.iadd, 1) := by decide +kernel
theorem dX12_here_32 : decode cX12_here 32 = .ok (.putfield 86, 3) := by decide +kernel
theorem dX12_here_35 : decode cX12_here 35 = .ok (.goto (-35), 3) := by decide +kernel
theorem dX12_here_38 : decode cX12_here 38 = .ok (.aload_n 0, 1) := by decide +kernel
theorem dX12_here_39 : decode cX12_here 39 = .ok (.getfield 86, 3) := by decide +kernel
theorem dX12_here_4 : decode cX12_here 4 = .ok (.aload_n 0, 1) := by decide +kernel
theorem dX12_here_42 : decode cX12_here 42 = .ok (.aload_n 0, 1) := by decide +kernel
theorem dX12_here_43 : decode cX12_here 43 = .ok (.getfield 89, 3) := by decide +kernel
theorem dX12_here_46 : decode cX12_here 46 = .ok (.if_icmp .ge 15, 3) := by decide +kernel
theorem dX12_here_49 : decode cX12_here 49 = .ok (.aload_n 0, 1) := by decide +kernel
theorem dX12_here_5 : decode cX12_here 5 = .ok (.getfield 89, 3) := by decide +kernel
theorem dX12_here_50 : decode cX12_here 50 = .ok (.getfield 20, 3) := by decide +kernel
theorem dX12_here_53 : decode cX12_here 53 = .ok (.aload_n 0, 1) := by decide +kernel
theorem dX12_here_54 : decode cX12_here 54 = .ok (.getfield 86, 3) := by decide +kernel
theorem dX12_here_57 : decode cX12_here 57 = .ok (.iaload, 1) := by decide +kernel
theorem dX12_here_58 : decode cX12_here 58 = .ok (.goto 4, 3) := by decide +kernel
theorem dX12_here_61 : decode cX12_here 61 = .ok (.iconst 0, 1) := by decide +kernel
theorem dX12_here_62 : decode cX12_here 62 = .ok (.ireturn, 1) := by decide +kernel
theorem dX12_here_8 : decode cX12_here 8 = .ok (.if_icmp .ge 30, 3) := by decide +kernel
def vs_m_here : List Cond := .code yX12_here cX12_here 1 (some .int) :: (([.fieldLink RX12 86 "KerbSplashModel" "at" "I", .fieldLink RX12 89 "KerbSplashModel" "size" "I", .fieldLink RX12 20 "KerbSplashModel" "tape" "[I"] : List Cond) ++ ((wsX120) ++ ([])))
theorem gd_m_here : vs_m_here.all goodWord = true := gd_C (by decide +kernel) (gd_A (by decide +kernel) (gd_A (by decide +kernel) rfl))
set_option maxHeartbeats 4000000 in
set_option maxRecDepth 100000 in
theorem m_here (l : Launch) (hl : l.stackTraces = false) (D : va_G) (cy : Nat → ClassId) (sa : Nat → Nat) (mm m1 m9 m10 m11 m12 m13 m14 m15 m19 m20 m21 m23 m24 m25 m26 m27 m28 m33 m35 : Nat) (th tp sz_ ap bad bk opn fp im nr nl sp_ wtc wcl ir ip shu sfa swr : Int) (f9 : Nat → Int32) (sz : Nat) (hr_th : (-2147483648) ≤ th ∧ th ≤ 2147483647) (hr_tp : 0 ≤ tp ∧ tp ≤ 600) (hr_sz_ : 0 ≤ sz_ ∧ sz_ ≤ 600) (hr_ap : 0 ≤ ap ∧ ap ≤ 602) (hr_bad : (-1) ≤ bad ∧ bad ≤ 602) (hr_bk : 0 ≤ bk ∧ bk ≤ 4) (hr_opn : 0 ≤ opn ∧ opn ≤ 7) (hr_fp : (-2147483648) ≤ fp ∧ fp ≤ 2147483647) (hr_im : 0 ≤ im ∧ im ≤ 3) (hr_nr : 0 ≤ nr ∧ nr ≤ 4) (hr_nl : 0 ≤ nl ∧ nl ≤ 4) (hr_sp_ : 0 ≤ sp_ ∧ sp_ ≤ 602) (hr_wtc : (-2147483648) ≤ wtc ∧ wtc ≤ 2147483647) (hr_wcl : 0 ≤ wcl ∧ wcl ≤ 95) (hr_ir : 0 ≤ ir ∧ ir ≤ 5) (hr_ip : (-2147483648) ≤ ip ∧ ip ≤ 2147483647) (hr_shu : (-2147483648) ≤ shu ∧ shu ≤ 2147483647) (hr_sfa : (-2147483648) ≤ sfa ∧ sfa ≤ 2147483647) (hr_swr : (-2147483648) ≤ swr ∧ swr ≤ 2147483647) (hf9 : inv_ 600 0 255 f9) : mI9 l yX12_here vs_m_here ({ frames := 0, cells := 0, slots := 0, locals := 0 }) D cy sa sz [vR mm] [zO mm 12 [vI th, vR m1, vI tp, vI sz_, vI ap, vI bad, vI bk, vI opn, vI fp, vR m9, vR m10, vR m11, vR m12, vR m13, vR m14, vR m15, vI im, vI nr, vI nl, vR m19, vR m20, vR m21, vI sp_, vR m23, vR m24, vR m25, vR m26, vR m27, vR m28, vI wtc, vI wcl, vI ir, vI ip, vR m33, vI shu, vR m35, vI sfa, vI swr], zI m9 (cy 0) 600 f9] (fun (r : Int32) (u : SV) => r = iI (u.2.1 0) ∧ (0 ≤ u.2.1 1 ∧ u.2.1 1 ≤ 602) ∧ (0 ≤ u.2.1 0 ∧ u.2.1 0 ≤ 255) ∧ (u.2.1 1 < sz_ → u.2.1 0 = nz f9 (u.2.1 1).toNat) ∧ (ap ≤ u.2.1 1) ∧ (u.2.1 0 ≠ 0 → u.2.1 1 < sz_) ∧ (u.2.1 1 < sz_ → nz f9 (u.2.1 1).toNat ≠ 32) ∧ ((ap < sz_ → nz f9 ap.toNat ≠ 32) → u.2.1 1 = ap) ∧ (ap ≤ sz_ → u.2.1 1 ≤ sz_) ∧ inv_ 600 0 255 f9) (fun u : SV => [zO mm 12 [vI th, vR m1, vI tp, vI sz_, vI (u.2.1 1), vI bad, vI bk, vI opn, vI fp, vR m9, vR m10, vR m11, vR m12, vR m13, vR m14, vR m15, vI im, vI nr, vI nl, vR m19, vR m20, vR m21, vI sp_, vR m23, vR m24, vR m25, vR m26, vR m27, vR m28, vI wtc, vI wcl, vI ir, vI ip, vR m33, vI shu, vR m35, vI sfa, vI swr], zI m9 (cy 0) 600 f9]) 0 0 := by
  refine Met.ofW (cc := cX12_here) (maxL := 1) (ret := (some .int)) (by decide) rfl ?_
  intro p e s m args below meth c s₁ B hml hv
  obtain ⟨rfl, hsz, hP, hG, hD0, hT⟩ := hv
  have hx := B.exec
  have hb := B.bytes
  have hr := B.returns
  have hts := atoms_spec (ws := vs_m_here) B.pre
  have hown : s.vm.findClass RX12 = some m.cls := findClass_of_methodNamed B.named
  have hlocks := B.notSynchronized
  subst hsz
  have hD := hD0.self (sz := s.heap.size)
  generalize hAe : va_A [zO mm 12 [vI th, vR m1, vI tp, vI sz_, vI ap, vI bad, vI bk, vI opn, vI fp, vR m9, vR m10, vR m11, vR m12, vR m13, vR m14, vR m15, vI im, vI nr, vI nl, vR m19, vR m20, vR m21, vI sp_, vR m23, vR m24, vR m25, vR m26, vR m27, vR m28, vI wtc, vI wcl, vI ir, vI ip, vR m33, vI shu, vR m35, vI sfa, vI swr], zI m9 (cy 0) 600 f9] s.heap.size = A at hD hT ⊢
  have hA : ∀ q : Nat, s.heap.size ≤ q → A q := fun q h => by rw [← hAe]; exact Or.inr h
  have hS : va_S A s.heap s.heap [] := va_S.rf
  have hl0 := lv_entry ([vR mm]) (n := 1) (Nat.le_of_ble_eq_true rfl)
  rw [lg_entry_eq]
  generalize (lg_sl ([vR mm]) ++ List.replicate (1 - (lg_sl ([vR mm])).length) Slot.unset).toArray = ls at hl0 ⊢
  have hlv : lv_has ls 1 [(0, vR mm)] := hl0
  have lf86 := hts (.fieldLink RX12 86 "KerbSplashModel" "at" "I") (List.mem_of_getElem? (i := 1) rfl)
  have hi12 : ∀ w ∈ wsX120, w ∈ vs_m_here := fun w h => List.mem_cons_of_mem _ (List.mem_append_right _ (List.mem_append_left _ h))
  have lf89 := hts (.fieldLink RX12 89 "KerbSplashModel" "size" "I") (List.mem_of_getElem? (i := 2) rfl)
  have lf20 := hts (.fieldLink RX12 20 "KerbSplashModel" "tape" "[I") (List.mem_of_getElem? (i := 3) rfl)
  refine (?_ : ∀ (fu : Nat) (x : Int) (H : Heap) (locs : List Loc) (ls : Array Slot), 602 - x < (fu : Int) → (0 ≤ x ∧ x ≤ 602) → (ap ≤ x) → ((ap < sz_ → nz f9 ap.toNat ≠ 32) → x = ap) → (ap ≤ sz_ → x ≤ sz_) → va_P D vwCl [zO mm 12 [vI th, vR m1, vI tp, vI sz_, vI x, vI bad, vI bk, vI opn, vI fp, vR m9, vR m10, vR m11, vR m12, vR m13, vR m14, vR m15, vI im, vI nr, vI nl, vR m19, vR m20, vR m21, vI sp_, vR m23, vR m24, vR m25, vR m26, vR m27, vR m28, vI wtc, vI wcl, vI ir, vI ip, vR m33, vI shu, vR m35, vI sfa, vI swr], zI m9 (cy 0) 600 f9] H → va_D A [zO mm 12 [vI th, vR m1, vI tp, vI sz_, vI x, vI bad, vI bk, vI opn, vI fp, vR m9, vR m10, vR m11, vR m12, vR m13, vR m14, vR m15, vI im, vI nr, vI nl, vR m19, vR m20, vR m21, vI sp_, vR m23, vR m24, vR m25, vR m26, vR m27, vR m28, vI wtc, vI wcl, vI ir, vI ip, vR m33, vI shu, vR m35, vI sfa, vI swr], zI m9 (cy 0) 600 f9] → va_S A s.heap H locs → lv_has ls 1 [(0, vR mm)] → W p l e _ s m _ below meth c H locs _ _ _ (F0 m 0 ls [])) (((602 - ap) + 1 : Int)).toNat ap _ _ _ (by omega) (by first | exact hr_ap | omega) (by omega) (fun _ => rfl) (by omega)  hP hD hS hlv
  clear hP hD hS hlv
  intro fu
  induction fu with
  | zero => intro x H locs ls hm0 hl0_0 hl0_1 hl0_2 hl0_3  hP hD hS hlv; omega
  | succ fu ih0 =>
    intro x H locs ls hm0 hl0_0 hl0_1 hl0_2 hl0_3  hP hD hS hlv
    refine lv_aload_n hx hb dX12_here_0 rfl (lv_at hlv 0 rfl) ?_
    refine va_get (D := D) (ci := 12) (v := vI x) (C := RX12) (T := TX12) (N := 38) hx hb hts hi12 hown hG.1 hP 0 rfl rfl 4 (by decide) lf86 (fun _ h9 => h9) rfl dX12_here_1 ?_
    refine lv_aload_n hx hb dX12_here_4 rfl (lv_at hlv 0 rfl) ?_
    refine va_get (D := D) (ci := 12) (v := vI sz_) (C := RX12) (T := TX12) (N := 38) hx hb hts hi12 hown hG.1 hP 0 rfl rfl 3 (by decide) lf89 (fun _ h9 => h9) rfl dX12_here_5 ?_
    refine ir_ge (tgt := 38) hx hb dX12_here_8 (by decide) (by first | exact rgw hl0_0 (by decide) (by decide) | omega) (by first | exact rgw hr_sz_ (by decide) (by decide) | omega) (fun c_1 => ?_) (fun c_1 => ?_)
    · refine lv_aload_n hx hb dX12_here_38 rfl (lv_at hlv 0 rfl) ?_
      refine va_get (D := D) (ci := 12) (v := vI x) (C := RX12) (T := TX12) (N := 38) hx hb hts hi12 hown hG.1 hP 0 rfl rfl 4 (by decide) lf86 (fun _ h9 => h9) rfl dX12_here_39 ?_
      refine lv_aload_n hx hb dX12_here_42 rfl (lv_at hlv 0 rfl) ?_
      refine va_get (D := D) (ci := 12) (v := vI sz_) (C := RX12) (T := TX12) (N := 38) hx hb hts hi12 hown hG.1 hP 0 rfl rfl 3 (by decide) lf89 (fun _ h9 => h9) rfl dX12_here_43 ?_
      refine ir_ge (tgt := 61) hx hb dX12_here_46 (by decide) (by first | exact rgw hl0_0 (by decide) (by decide) | omega) (by first | exact rgw hr_sz_ (by decide) (by decide) | omega) (fun c_2 => ?_) (fun c_2 => ?_)
      · refine lv_iconst (v := iI 0) hx hb dX12_here_61 (by decide) ?_
        refine W.widen (k := 0) (n := 0) (Nat.le_of_ble_eq_true rfl) (Nat.le_of_ble_eq_true rfl) ?_
        exact W.iret (v := iI 0) hx hb hr (fun t ht hW => ⟨⟨iI 0, ((fun k => ([] : List Nat).getD k 0), (fun k => ([0, x] : List Int).getD k 0), (fun k => ([] : List (Nat → Int32)).getD k (fun _ => 0))), rfl, ⟨rfl, (by show (0 ≤ x ∧ x ≤ 602); first | exact hl0_0 | omega), (by show (0 ≤ 0 ∧ 0 ≤ 255); show (0 : Int) ≤ 0 ∧ (0 : Int) ≤ 255; decide), (by show (x < sz_ → 0 = nz f9 (x).toNat); omega), (by show (ap ≤ x); omega), (by show (0 ≠ 0 → x < sz_); omega), (by show (x < sz_ → nz f9 (x).toNat ≠ 32); omega), (by show ((ap < sz_ → nz f9 ap.toNat ≠ 32) → x = ap); first | omega | assumption), (by show (ap ≤ sz_ → x ≤ sz_); omega), hf9⟩, at9 ht hP hD [0, 1] (by decide +kernel) rfl⟩, hS.F ht⟩) hS.2.2 dX12_here_62
      · refine lv_aload_n hx hb dX12_here_49 rfl (lv_at hlv 0 rfl) ?_
        refine va_get (D := D) (ci := 12) (v := vR m9) (C := RX12) (T := TX12) (N := 38) hx hb hts hi12 hown hG.1 hP 0 rfl rfl 9 (by decide) lf20 (fun _ h9 => h9) rfl dX12_here_50 ?_
        refine lv_aload_n hx hb dX12_here_53 rfl (lv_at hlv 0 rfl) ?_
        refine va_get (D := D) (ci := 12) (v := vI x) (C := RX12) (T := TX12) (N := 38) hx hb hts hi12 hown hG.1 hP 0 rfl rfl 4 (by decide) lf86 (fun _ h9 => h9) rfl dX12_here_54 ?_
        refine va_iald hx hb hG.1 hP 1 0 rfl rfl (iI_in (by omega) (by decide)) dX12_here_57 ?_
        refine lt_nz (i := x) (by omega) (fun z_3 hz_3 lz_3 uz_3 => ?_)
        have hbz_3_6 := inv_nz hf9 (k := x.toNat) (by omega)
        refine lv_goto (tgt := 62) hx hb dX12_here_58 (by decide) ?_
        refine W.widen (k := 0) (n := 0) (Nat.le_of_ble_eq_true rfl) (Nat.le_of_ble_eq_true rfl) ?_
        exact W.iret (v := iI z_3) hx hb hr (fun t ht hW => ⟨⟨iI z_3, ((fun k => ([] : List Nat).getD k 0), (fun k => ([z_3, x] : List Int).getD k 0), (fun k => ([] : List (Nat → Int32)).getD k (fun _ => 0))), rfl, ⟨rfl, (by show (0 ≤ x ∧ x ≤ 602); first | exact hl0_0 | omega), (by show (0 ≤ z_3 ∧ z_3 ≤ 255); omega), (by show (x < sz_ → z_3 = nz f9 (x).toNat); omega), (by show (ap ≤ x); omega), (by show (z_3 ≠ 0 → x < sz_); omega), (by show (x < sz_ → nz f9 (x).toNat ≠ 32); omega), (by show ((ap < sz_ → nz f9 ap.toNat ≠ 32) → x = ap); first | omega | assumption), (by show (ap ≤ sz_ → x ≤ sz_); omega), hf9⟩, at9 ht hP hD [0, 1] (by decide +kernel) rfl⟩, hS.F ht⟩) hS.2.2 dX12_here_62
    · refine lv_aload_n hx hb dX12_here_11 rfl (lv_at hlv 0 rfl) ?_
      refine va_get (D := D) (ci := 12) (v := vR m9) (C := RX12) (T := TX12) (N := 38) hx hb hts hi12 hown hG.1 hP 0 rfl rfl 9 (by decide) lf20 (fun _ h9 => h9) rfl dX12_here_12 ?_
      refine lv_aload_n hx hb dX12_here_15 rfl (lv_at hlv 0 rfl) ?_
      refine va_get (D := D) (ci := 12) (v := vI x) (C := RX12) (T := TX12) (N := 38) hx hb hts hi12 hown hG.1 hP 0 rfl rfl 4 (by decide) lf86 (fun _ h9 => h9) rfl dX12_here_16 ?_
      refine va_iald hx hb hG.1 hP 1 0 rfl rfl (iI_in (by omega) (by decide)) dX12_here_19 ?_
      refine lt_nz (i := x) (by omega) (fun z_4 hz_4 lz_4 uz_4 => ?_)
      have hbz_4_6 := inv_nz hf9 (k := x.toNat) (by omega)
      refine lv_bipush (v := iI 32) hx hb dX12_here_20 (by decide) ?_
      refine ir_ne (tgt := 38) hx hb dX12_here_22 (by decide) (by omega) (by show ((-2147483648) : Int) ≤ 32 ∧ (32 : Int) ≤ 2147483647; decide) (fun c_5 => ?_) (fun c_5 => ?_)
      · refine lv_aload_n hx hb dX12_here_38 rfl (lv_at hlv 0 rfl) ?_
        refine va_get (D := D) (ci := 12) (v := vI x) (C := RX12) (T := TX12) (N := 38) hx hb hts hi12 hown hG.1 hP 0 rfl rfl 4 (by decide) lf86 (fun _ h9 => h9) rfl dX12_here_39 ?_
        refine lv_aload_n hx hb dX12_here_42 rfl (lv_at hlv 0 rfl) ?_
        refine va_get (D := D) (ci := 12) (v := vI sz_) (C := RX12) (T := TX12) (N := 38) hx hb hts hi12 hown hG.1 hP 0 rfl rfl 3 (by decide) lf89 (fun _ h9 => h9) rfl dX12_here_43 ?_
        refine ir_ge (tgt := 61) hx hb dX12_here_46 (by decide) (by first | exact rgw hl0_0 (by decide) (by decide) | omega) (by first | exact rgw hr_sz_ (by decide) (by decide) | omega) (fun c_6 => ?_) (fun c_6 => ?_)
        · refine lv_iconst (v := iI 0) hx hb dX12_here_61 (by decide) ?_
          refine W.widen (k := 0) (n := 0) (Nat.le_of_ble_eq_true rfl) (Nat.le_of_ble_eq_true rfl) ?_
          exact W.iret (v := iI 0) hx hb hr (fun t ht hW => ⟨⟨iI 0, ((fun k => ([] : List Nat).getD k 0), (fun k => ([0, x] : List Int).getD k 0), (fun k => ([] : List (Nat → Int32)).getD k (fun _ => 0))), rfl, ⟨rfl, (by show (0 ≤ x ∧ x ≤ 602); first | exact hl0_0 | omega), (by show (0 ≤ 0 ∧ 0 ≤ 255); show (0 : Int) ≤ 0 ∧ (0 : Int) ≤ 255; decide), (by show (x < sz_ → 0 = nz f9 (x).toNat); omega), (by show (ap ≤ x); omega), (by show (0 ≠ 0 → x < sz_); omega), (by show (x < sz_ → nz f9 (x).toNat ≠ 32); omega), (by show ((ap < sz_ → nz f9 ap.toNat ≠ 32) → x = ap); first | omega | assumption), (by show (ap ≤ sz_ → x ≤ sz_); omega), hf9⟩, at9 ht hP hD [0, 1] (by decide +kernel) rfl⟩, hS.F ht⟩) hS.2.2 dX12_here_62
        · refine lv_aload_n hx hb dX12_here_49 rfl (lv_at hlv 0 rfl) ?_
          refine va_get (D := D) (ci := 12) (v := vR m9) (C := RX12) (T := TX12) (N := 38) hx hb hts hi12 hown hG.1 hP 0 rfl rfl 9 (by decide) lf20 (fun _ h9 => h9) rfl dX12_here_50 ?_
          refine lv_aload_n hx hb dX12_here_53 rfl (lv_at hlv 0 rfl) ?_
          refine va_get (D := D) (ci := 12) (v := vI x) (C := RX12) (T := TX12) (N := 38) hx hb hts hi12 hown hG.1 hP 0 rfl rfl 4 (by decide) lf86 (fun _ h9 => h9) rfl dX12_here_54 ?_
          refine va_iald hx hb hG.1 hP 1 0 rfl rfl (iI_in (by omega) (by decide)) dX12_here_57 ?_
          refine lt_nz (i := x) (by omega) (fun z_7 hz_7 lz_7 uz_7 => ?_)
          have hbz_7_6 := inv_nz hf9 (k := x.toNat) (by omega)
          refine lv_goto (tgt := 62) hx hb dX12_here_58 (by decide) ?_
          refine W.widen (k := 0) (n := 0) (Nat.le_of_ble_eq_true rfl) (Nat.le_of_ble_eq_true rfl) ?_
          exact W.iret (v := iI z_7) hx hb hr (fun t ht hW => ⟨⟨iI z_7, ((fun k => ([] : List Nat).getD k 0), (fun k => ([z_7, x] : List Int).getD k 0), (fun k => ([] : List (Nat → Int32)).getD k (fun _ => 0))), rfl, ⟨rfl, (by show (0 ≤ x ∧ x ≤ 602); first | exact hl0_0 | omega), (by show (0 ≤ z_7 ∧ z_7 ≤ 255); omega), (by show (x < sz_ → z_7 = nz f9 (x).toNat); omega), (by show (ap ≤ x); omega), (by show (z_7 ≠ 0 → x < sz_); omega), (by show (x < sz_ → nz f9 (x).toNat ≠ 32); omega), (by show ((ap < sz_ → nz f9 ap.toNat ≠ 32) → x = ap); first | omega | assumption), (by show (ap ≤ sz_ → x ≤ sz_); omega), hf9⟩, at9 ht hP hD [0, 1] (by decide +kernel) rfl⟩, hS.F ht⟩) hS.2.2 dX12_here_62
      · refine lv_aload_n hx hb dX12_here_25 rfl (lv_at hlv 0 rfl) ?_
        refine lv_dup hx hb dX12_here_26 rfl ?_
        refine va_get (D := D) (ci := 12) (v := vI x) (C := RX12) (T := TX12) (N := 38) hx hb hts hi12 hown hG.1 hP 0 rfl rfl 4 (by decide) lf86 (fun _ h9 => h9) rfl dX12_here_27 ?_
        refine lv_iconst (v := iI 1) hx hb dX12_here_30 (by decide) ?_
        refine lv_iadd hx hb dX12_here_31 ?_
        refine lt_e (e0 := x + 1) (Int32.ofInt_add _ _).symm (fun z_8 hz_8 => ?_)
        refine va_put (D := D) (ci := 12) (v := vI z_8) (ty := .int) (C := RX12) (T := TX12) (N := 38) hx hb hts hi12 tyX12 tyX12_ok nmX12 hown hG.1 hP hD hS 0 rfl rfl 4 (by decide) lf86 (fun _ h9 => h9) rfl (by decide +kernel) rfl rfl (Nat.le_of_ble_eq_true rfl) dX12_here_32 (fun H locs hP hD hS => ?_)
        obtain ⟨hP, hD⟩ := pw9 [zO mm 12 [vI th, vR m1, vI tp, vI sz_, vI z_8, vI bad, vI bk, vI opn, vI fp, vR m9, vR m10, vR m11, vR m12, vR m13, vR m14, vR m15, vI im, vI nr, vI nl, vR m19, vR m20, vR m21, vI sp_, vR m23, vR m24, vR m25, vR m26, vR m27, vR m28, vI wtc, vI wcl, vI ir, vI ip, vR m33, vI shu, vR m35, vI sfa, vI swr], zI m9 (cy 0) 600 f9] hP hD
        refine lv_goto (tgt := 0) hx hb dX12_here_35 (by decide) ?_
        exact ih0 z_8 H locs ls (by omega) (by omega) (by omega) (fun q => absurd (show nz f9 ap.toNat = 32 by rw [← hl0_2 q]; omega) (q (by have := hl0_2 q; omega))) (by omega)  (hP.sub [0, 1] rfl) (hD.sub [0, 1] (by decide) rfl) hS (lv_sub hlv [0] rfl)
end
section
theorem dX12_word_0 : decode cX12_word 0 = .ok (.aload_n 0, 1) := by decide +kernel
theorem dX12_word_1 : decode cX12_word 1 = .ok (.invokevirtual 92, 3) := by decide +kernel
theorem dX12_word_10 : decode cX12_word 10 = .ok (.getfield 86, 3) := by decide +kernel
theorem dX12_word_13 : decode cX12_word 13 = .ok (.istore_n 3, 1) := by decide +kernel
theorem dX12_word_14 : decode cX12_word 14 = .ok (.iload_n 3, 1) := by decide +kernel
theorem dX12_word_15 : decode cX12_word 15 = .ok (.aload_n 0, 1) := by decide +kernel
theorem dX12_word_16 : decode cX12_word 16 = .ok (.getfield 89, 3) := by decide +kernel
theorem dX12_word_19 : decode cX12_word 19 = .ok (.if_icmp .ge 48, 3) := by decide +kernel
theorem dX12_word_22 : decode cX12_word 22 = .ok (.aload_n 0, 1) := by decide +kernel
theorem dX12_word_23 : decode cX12_word 23 = .ok (.getfield 20, 3) := by decide +kernel
theorem dX12_word_26 : decode cX12_word 26 = .ok (.iload_n 3, 1) := by decide +kernel
theorem dX12_word_27 : decode cX12_word 27 = .ok (.iaload, 1) := by decide +kernel
theorem dX12_word_28 : decode cX12_word 28 = .ok (.invokestatic 96, 3) := by decide +kernel
theorem dX12_word_31 : decode cX12_word 31 = .ok (.ifCond .eq 36, 3) := by decide +kernel
theorem dX12_word_34 : decode cX12_word 34 = .ok (.iload_n 2, 1) := by decide +kernel
theorem dX12_word_35 : decode cX12_word 35 = .ok (.bipush 6, 2) := by decide +kernel
theorem dX12_word_37 : decode cX12_word 37 = .ok (.if_icmp .ge 19, 3) := by decide +kernel
theorem dX12_word_4 : decode cX12_word 4 = .ok (.pop, 1) := by decide +kernel
theorem dX12_word_40 : decode cX12_word 40 = .ok (.iload_n 1, 1) := by decide +kernel
theorem dX12_word_41 : decode cX12_word 41 = .ok (.iconst 5, 1) := by decide +kernel
theorem dX12_word_42 : decode cX12_word 42 = .ok (.ishl, 1) := by decide +kernel
theorem dX12_word_43 : decode cX12_word 43 = .ok (.aload_n 0, 1) := by decide +kernel
theorem dX12_word_44 : decode cX12_word 44 = .ok (.getfield 20, 3) := by decide +kernel
theorem dX12_word_47 : decode cX12_word 47 = .ok (.iload_n 3, 1) := by decide +kernel
theorem dX12_word_48 : decode cX12_word 48 = .ok (.iaload, 1) := by decide +kernel
theorem dX12_word_49 : decode cX12_word 49 = .ok (.bipush 96, 2) := by decide +kernel
theorem dX12_word_5 : decode cX12_word 5 = .ok (.iconst 0, 1) := by decide +kernel
theorem dX12_word_51 : decode cX12_word 51 = .ok (.isub, 1) := by decide +kernel
theorem dX12_word_52 : decode cX12_word 52 = .ok (.ior, 1) := by decide +kernel
theorem dX12_word_53 : decode cX12_word 53 = .ok (.goto 4, 3) := by decide +kernel
theorem dX12_word_56 : decode cX12_word 56 = .ok (.iconst 0, 1) := by decide +kernel
theorem dX12_word_57 : decode cX12_word 57 = .ok (.istore_n 1, 1) := by decide +kernel
theorem dX12_word_58 : decode cX12_word 58 = .ok (.iinc 2 1, 3) := by decide +kernel
theorem dX12_word_6 : decode cX12_word 6 = .ok (.istore_n 1, 1) := by decide +kernel
theorem dX12_word_61 : decode cX12_word 61 = .ok (.iinc 3 1, 3) := by decide +kernel
theorem dX12_word_64 : decode cX12_word 64 = .ok (.goto (-50), 3) := by decide +kernel
theorem dX12_word_67 : decode cX12_word 67 = .ok (.iload_n 2, 1) := by decide +kernel
theorem dX12_word_68 : decode cX12_word 68 = .ok (.bipush 6, 2) := by decide +kernel
theorem dX12_word_7 : decode cX12_word 7 = .ok (.iconst 0, 1) := by decide +kernel
theorem dX12_word_70 : decode cX12_word 70 = .ok (.if_icmp .le 7, 3) := by decide +kernel
theorem dX12_word_73 : decode cX12_word 73 = .ok (.iconst 0, 1) := by decide +kernel
theorem dX12_word_74 : decode cX12_word 74 = .ok (.goto 4, 3) := by decide +kernel
theorem dX12_word_77 : decode cX12_word 77 = .ok (.iload_n 1, 1) := by decide +kernel
theorem dX12_word_78 : decode cX12_word 78 = .ok (.ireturn, 1) := by decide +kernel
theorem dX12_word_8 : decode cX12_word 8 = .ok (.istore_n 2, 1) := by decide +kernel
theorem dX12_word_9 : decode cX12_word 9 = .ok (.aload_n 0, 1) := by decide +kernel
def vs_m_word : List Cond := .code yX12_word cX12_word 4 (some .int) :: (([.fieldLink RX12 86 "KerbSplashModel" "at" "I", .fieldLink RX12 89 "KerbSplashModel" "size" "I", .fieldLink RX12 20 "KerbSplashModel" "tape" "[I"] : List Cond) ++ ((wsV RX12 92 RX12 yX12_here vs_m_here) ++ ((wsX120) ++ ((va_wsS RX12 96 yX12_isSmall vs_m_isSmall) ++ ([])))))
theorem gd_m_word : vs_m_word.all goodWord = true := gd_C (by decide +kernel) (gd_A (by decide +kernel) (gd_A (gd_V gd_m_here (by decide +kernel)) (gd_A (by decide +kernel) (gd_A (gd_S gd_m_isSmall (by decide +kernel)) rfl))))
set_option maxHeartbeats 4000000 in
set_option maxRecDepth 100000 in
theorem m_word (l : Launch) (hl : l.stackTraces = false) (D : va_G) (cy : Nat → ClassId) (sa : Nat → Nat) (mm m1 m9 m10 m11 m12 m13 m14 m15 m19 m20 m21 m23 m24 m25 m26 m27 m28 m33 m35 : Nat) (th tp sz_ ap bad bk opn fp im nr nl sp_ wtc wcl ir ip shu sfa swr : Int) (f9 : Nat → Int32) (sz : Nat) (hr_th : (-2147483648) ≤ th ∧ th ≤ 2147483647) (hr_tp : 0 ≤ tp ∧ tp ≤ 600) (hr_sz_ : 0 ≤ sz_ ∧ sz_ ≤ 600) (hr_ap : 0 ≤ ap ∧ ap ≤ 602) (hr_bad : (-1) ≤ bad ∧ bad ≤ 602) (hr_bk : 0 ≤ bk ∧ bk ≤ 4) (hr_opn : 0 ≤ opn ∧ opn ≤ 7) (hr_fp : (-2147483648) ≤ fp ∧ fp ≤ 2147483647) (hr_im : 0 ≤ im ∧ im ≤ 3) (hr_nr : 0 ≤ nr ∧ nr ≤ 4) (hr_nl : 0 ≤ nl ∧ nl ≤ 4) (hr_sp_ : 0 ≤ sp_ ∧ sp_ ≤ 602) (hr_wtc : (-2147483648) ≤ wtc ∧ wtc ≤ 2147483647) (hr_wcl : 0 ≤ wcl ∧ wcl ≤ 95) (hr_ir : 0 ≤ ir ∧ ir ≤ 5) (hr_ip : (-2147483648) ≤ ip ∧ ip ≤ 2147483647) (hr_shu : (-2147483648) ≤ shu ∧ shu ≤ 2147483647) (hr_sfa : (-2147483648) ≤ sfa ∧ sfa ≤ 2147483647) (hr_swr : (-2147483648) ≤ swr ∧ swr ≤ 2147483647) (hf9 : inv_ 600 0 255 f9) : mI9 l yX12_word vs_m_word ({ frames := 1, cells := 0, slots := 0, locals := 20 }) D cy sa sz [vR mm] [zO mm 12 [vI th, vR m1, vI tp, vI sz_, vI ap, vI bad, vI bk, vI opn, vI fp, vR m9, vR m10, vR m11, vR m12, vR m13, vR m14, vR m15, vI im, vI nr, vI nl, vR m19, vR m20, vR m21, vI sp_, vR m23, vR m24, vR m25, vR m26, vR m27, vR m28, vI wtc, vI wcl, vI ir, vI ip, vR m33, vI shu, vR m35, vI sfa, vI swr], zI m9 (cy 0) 600 f9] (fun (r : Int32) (u : SV) => r = iI (u.2.1 0) ∧ (0 ≤ u.2.1 1 ∧ u.2.1 1 ≤ 602) ∧ ((-2147483648) ≤ u.2.1 0 ∧ u.2.1 0 ≤ 2147483647) ∧ (ap ≤ u.2.1 1) ∧ (u.2.1 0 ≠ 0 → u.2.1 1 < sz_ ∧ 97 ≤ nz f9 (u.2.1 1).toNat ∧ nz f9 (u.2.1 1).toNat ≤ 122) ∧ (u.2.1 1 < sz_ → nz f9 (u.2.1 1).toNat ≠ 32) ∧ ((ap < sz_ → nz f9 ap.toNat ≠ 32) → u.2.1 1 = ap) ∧ (ap ≤ sz_ → u.2.1 1 ≤ sz_) ∧ (u.2.1 0 = wv f9 sz_ (u.2.1 1)) ∧ inv_ 600 0 255 f9) (fun u : SV => [zO mm 12 [vI th, vR m1, vI tp, vI sz_, vI (u.2.1 1), vI bad, vI bk, vI opn, vI fp, vR m9, vR m10, vR m11, vR m12, vR m13, vR m14, vR m15, vI im, vI nr, vI nl, vR m19, vR m20, vR m21, vI sp_, vR m23, vR m24, vR m25, vR m26, vR m27, vR m28, vI wtc, vI wcl, vI ir, vI ip, vR m33, vI shu, vR m35, vI sfa, vI swr], zI m9 (cy 0) 600 f9]) 0 0 := by
  refine Met.ofW (cc := cX12_word) (maxL := 4) (ret := (some .int)) (by decide) rfl ?_
  intro p e s m args below meth c s₁ B hml hv
  obtain ⟨rfl, hsz, hP, hG, hD0, hT⟩ := hv
  have hx := B.exec
  have hb := B.bytes
  have hr := B.returns
  have hts := atoms_spec (ws := vs_m_word) B.pre
  have hown : s.vm.findClass RX12 = some m.cls := findClass_of_methodNamed B.named
  have hlocks := B.notSynchronized
  subst hsz
  have hD := hD0.self (sz := s.heap.size)
  generalize hAe : va_A [zO mm 12 [vI th, vR m1, vI tp, vI sz_, vI ap, vI bad, vI bk, vI opn, vI fp, vR m9, vR m10, vR m11, vR m12, vR m13, vR m14, vR m15, vI im, vI nr, vI nl, vR m19, vR m20, vR m21, vI sp_, vR m23, vR m24, vR m25, vR m26, vR m27, vR m28, vI wtc, vI wcl, vI ir, vI ip, vR m33, vI shu, vR m35, vI sfa, vI swr], zI m9 (cy 0) 600 f9] s.heap.size = A at hD hT ⊢
  have hA : ∀ q : Nat, s.heap.size ≤ q → A q := fun q h => by rw [← hAe]; exact Or.inr h
  have hS : va_S A s.heap s.heap [] := va_S.rf
  have hl0 := lv_entry ([vR mm]) (n := 4) (Nat.le_of_ble_eq_true rfl)
  rw [lg_entry_eq]
  generalize (lg_sl ([vR mm]) ++ List.replicate (4 - (lg_sl ([vR mm])).length) Slot.unset).toArray = ls at hl0 ⊢
  have hlv : lv_has ls 4 [(0, vR mm)] := hl0
  have gg_0 : GoodIn vs_m_word (wsV RX12 92 RX12 yX12_here vs_m_here) := goodIn_sub (fun w h => List.mem_cons_of_mem _ (List.mem_append_right _ (List.mem_append_left _ h))) (gd_V gd_m_here (by decide +kernel))
  have lf86 := hts (.fieldLink RX12 86 "KerbSplashModel" "at" "I") (List.mem_of_getElem? (i := 1) rfl)
  have hi12 : ∀ w ∈ wsX120, w ∈ vs_m_word := fun w h => List.mem_cons_of_mem _ (List.mem_append_right _ (List.mem_append_right _ (List.mem_append_left _ h)))
  have lf89 := hts (.fieldLink RX12 89 "KerbSplashModel" "size" "I") (List.mem_of_getElem? (i := 2) rfl)
  have lf20 := hts (.fieldLink RX12 20 "KerbSplashModel" "tape" "[I") (List.mem_of_getElem? (i := 3) rfl)
  have gg_2 : GoodIn vs_m_word (va_wsS RX12 96 yX12_isSmall vs_m_isSmall) := goodIn_sub (fun w h => List.mem_cons_of_mem _ (List.mem_append_right _ (List.mem_append_right _ (List.mem_append_right _ (List.mem_append_left _ h))))) (gd_S gd_m_isSmall (by decide +kernel))
  refine lv_aload_n hx hb dX12_word_0 rfl (lv_at hlv 0 rfl) ?_
  refine cjr_i [false, false] (fun pre9 => (va_runV (As := []) (rest := []) ⟨hx, hb, hml, hown, hts⟩ (m_here l hl D cy sa mm m1 m9 m10 m11 m12 m13 m14 m15 m19 m20 m21 m23 m24 m25 m26 m27 m28 m33 m35 th tp sz_ ap bad bk opn fp im nr nl sp_ wtc wcl ir ip shu sfa swr f9 s.heap.size (by first | exact hr_th | omega) (by first | exact hr_tp | omega) (by first | exact hr_sz_ | omega) (by first | exact hr_ap | omega) (by first | exact hr_bad | omega) (by first | exact hr_bk | omega) (by first | exact hr_opn | omega) (by first | exact hr_fp | omega) (by first | exact hr_im | omega) (by first | exact hr_nr | omega) (by first | exact hr_nl | omega) (by first | exact hr_sp_ | omega) (by first | exact hr_wtc | omega) (by first | exact hr_wcl | omega) (by first | exact hr_ir | omega) (by first | exact hr_ip | omega) (by first | exact hr_shu | omega) (by first | exact hr_sfa | omega) (by first | exact hr_swr | omega) hf9) (cwV 0 hts gg_0 rfl rfl rfl (by decide +kernel) ⟨Nat.le_of_ble_eq_true rfl, Nat.le_of_ble_eq_true rfl⟩) ⟨pcW.blind, (va_recv hG.1 hP (ci := 12) (q0 := 0) rfl rfl), pre9⟩ rfl rfl hlv.1 rfl (lv_room (Nat.le_of_ble_eq_true rfl)) dX12_word_1 ⟨Nat.le_of_ble_eq_true rfl, Nat.le_of_ble_eq_true rfl⟩)) hP hD hS hA hG hT [0, 1] rfl (by decide +kernel) (fun r1 u1 H locs hw1 hq9 hS => ?_)
  obtain ⟨rfl, hq1_1, hq1_2, hq1_3, hq1_4, hq1_5, hq1_6, hq1_7, hq1_8, hq1_9⟩ := hw1
  obtain ⟨hP, hD⟩ := pd9 [zO mm 12 [vI th, vR m1, vI tp, vI sz_, vI (u1.2.1 1), vI bad, vI bk, vI opn, vI fp, vR m9, vR m10, vR m11, vR m12, vR m13, vR m14, vR m15, vI im, vI nr, vI nl, vR m19, vR m20, vR m21, vI sp_, vR m23, vR m24, vR m25, vR m26, vR m27, vR m28, vI wtc, vI wcl, vI ir, vI ip, vR m33, vI shu, vR m35, vI sfa, vI swr], zI m9 (cy 0) 600 f9] hq9
  refine lv_pop hx hb dX12_word_4 rfl ?_
  refine lv_iconst (v := iI 0) hx hb dX12_word_5 (by decide) ?_
  refine lv_istore_n (lv' := [(1, vI 0), (0, vR mm)]) hx hb dX12_word_6 rfl hlv (by decide) rfl (fun ls hlv => ?_)
  refine lv_iconst (v := iI 0) hx hb dX12_word_7 (by decide) ?_
  refine lv_istore_n (lv' := [(2, vI 0), (1, vI 0), (0, vR mm)]) hx hb dX12_word_8 rfl hlv (by decide) rfl (fun ls hlv => ?_)
  refine lv_aload_n hx hb dX12_word_9 rfl (lv_at hlv 2 rfl) ?_
  refine va_get (D := D) (ci := 12) (v := vI (u1.2.1 1)) (C := RX12) (T := TX12) (N := 38) hx hb hts hi12 hown hG.1 hP 0 rfl rfl 4 (by decide) lf86 (fun _ h9 => h9) rfl dX12_word_10 ?_
  refine lv_istore_n (lv' := [(3, vI (u1.2.1 1)), (2, vI 0), (1, vI 0), (0, vR mm)]) hx hb dX12_word_13 rfl hlv (by decide) rfl (fun ls hlv => ?_)
  refine (?_ : ∀ (fu : Nat) (qv : Int) (qn : Int) (qk : Int) (H : Heap) (locs : List Loc) (ls : Array Slot), 602 - qk < (fu : Int) → ((-2147483648) ≤ qv ∧ qv ≤ 2147483647) → (0 ≤ qn ∧ qn ≤ 602) → (0 ≤ qk ∧ qk ≤ 602) → (qn = qk - (u1.2.1 1)) → ((u1.2.1 1) ≤ qk) → (qn = 0 → qv = 0) → ((u1.2.1 1) < qk → (u1.2.1 1) < sz_ ∧ 97 ≤ nz f9 (u1.2.1 1).toNat ∧ nz f9 (u1.2.1 1).toNat ≤ 122) → (qk ≤ sz_ ∨ qk = (u1.2.1 1)) → (wvG f9 sz_ (602 - qk).toNat qk qv qn = wvG f9 sz_ (602 - (u1.2.1 1)).toNat (u1.2.1 1) 0 0) → va_P D vwCl [zO mm 12 [vI th, vR m1, vI tp, vI sz_, vI (u1.2.1 1), vI bad, vI bk, vI opn, vI fp, vR m9, vR m10, vR m11, vR m12, vR m13, vR m14, vR m15, vI im, vI nr, vI nl, vR m19, vR m20, vR m21, vI sp_, vR m23, vR m24, vR m25, vR m26, vR m27, vR m28, vI wtc, vI wcl, vI ir, vI ip, vR m33, vI shu, vR m35, vI sfa, vI swr], zI m9 (cy 0) 600 f9] H → va_D A [zO mm 12 [vI th, vR m1, vI tp, vI sz_, vI (u1.2.1 1), vI bad, vI bk, vI opn, vI fp, vR m9, vR m10, vR m11, vR m12, vR m13, vR m14, vR m15, vI im, vI nr, vI nl, vR m19, vR m20, vR m21, vI sp_, vR m23, vR m24, vR m25, vR m26, vR m27, vR m28, vI wtc, vI wcl, vI ir, vI ip, vR m33, vI shu, vR m35, vI sfa, vI swr], zI m9 (cy 0) 600 f9] → va_S A s.heap H locs → lv_has ls 4 [(3, vI qk), (2, vI qn), (1, vI qv), (0, vR mm)] → W p l e _ s m _ below meth c H locs _ _ _ (F0 m 14 ls [])) (((602 - (u1.2.1 1)) + 1 : Int)).toNat 0 0 (u1.2.1 1) _ _ _ (by omega) (by show ((-2147483648) : Int) ≤ 0 ∧ (0 : Int) ≤ 2147483647; decide) (by show (0 : Int) ≤ 0 ∧ (0 : Int) ≤ 602; decide) (by first | exact hq1_1 | omega) (by omega) (by omega) (by omega) (fun q => absurd q (by omega)) (by omega) rfl  hP hD hS hlv
  clear hP hD hS hlv
  intro fu
  induction fu with
  | zero => intro qv qn qk H locs ls hm14 hl14_0 hl14_1 hl14_2 hl14_3 hl14_4 hl14_5 hl14_6 hl14_7 hl14_8  hP hD hS hlv; omega
  | succ fu ih14 =>
    intro qv qn qk H locs ls hm14 hl14_0 hl14_1 hl14_2 hl14_3 hl14_4 hl14_5 hl14_6 hl14_7 hl14_8  hP hD hS hlv
    refine lv_iload_n hx hb dX12_word_14 rfl (lv_at hlv 0 rfl) ?_
    refine lv_aload_n hx hb dX12_word_15 rfl (lv_at hlv 3 rfl) ?_
    refine va_get (D := D) (ci := 12) (v := vI sz_) (C := RX12) (T := TX12) (N := 38) hx hb hts hi12 hown hG.1 hP 0 rfl rfl 3 (by decide) lf89 (fun _ h9 => h9) rfl dX12_word_16 ?_
    refine ir_ge (tgt := 67) hx hb dX12_word_19 (by decide) (by first | exact rgw hl14_2 (by decide) (by decide) | omega) (by first | exact rgw hr_sz_ (by decide) (by decide) | omega) (fun c_1 => ?_) (fun c_1 => ?_)
    · refine lv_iload_n hx hb dX12_word_67 rfl (lv_at hlv 1 rfl) ?_
      refine lv_bipush (v := iI 6) hx hb dX12_word_68 (by decide) ?_
      refine ir_le (tgt := 77) hx hb dX12_word_70 (by decide) (by first | exact rgw hl14_1 (by decide) (by decide) | omega) (by show ((-2147483648) : Int) ≤ 6 ∧ (6 : Int) ≤ 2147483647; decide) (fun c_2 => ?_) (fun c_2 => ?_)
      · refine lv_iload_n hx hb dX12_word_77 rfl (lv_at hlv 2 rfl) ?_
        refine W.widen (k := 0) (n := 0) (Nat.le_of_ble_eq_true rfl) (Nat.le_of_ble_eq_true rfl) ?_
        exact W.iret (v := iI qv) hx hb hr (fun t ht hW => ⟨⟨iI qv, ((fun k => ([] : List Nat).getD k 0), (fun k => ([qv, (u1.2.1 1)] : List Int).getD k 0), (fun k => ([] : List (Nat → Int32)).getD k (fun _ => 0))), rfl, ⟨rfl, (by show (0 ≤ (u1.2.1 1) ∧ (u1.2.1 1) ≤ 602); first | exact hq1_1 | omega), (by show ((-2147483648) ≤ qv ∧ qv ≤ 2147483647); first | exact hl14_0 | omega), (by show (ap ≤ (u1.2.1 1)); omega), (by show (qv ≠ 0 → (u1.2.1 1) < sz_ ∧ 97 ≤ nz f9 ((u1.2.1 1)).toNat ∧ nz f9 ((u1.2.1 1)).toNat ≤ 122); omega), (by show ((u1.2.1 1) < sz_ → nz f9 ((u1.2.1 1)).toNat ≠ 32); first | omega | assumption), (by show ((ap < sz_ → nz f9 ap.toNat ≠ 32) → (u1.2.1 1) = ap); first | omega | assumption), (by show (ap ≤ sz_ → (u1.2.1 1) ≤ sz_); first | exact hq1_8 | omega), (by show (qv = wv f9 sz_ ((u1.2.1 1))); exact (wv_fin (a := (u1.2.1 1)) hl14_8 (by omega) (by omega))), hq1_9⟩, at9 ht hP hD [0, 1] (by decide +kernel) rfl⟩, hS.F ht⟩) hS.2.2 dX12_word_78
      · refine lv_iconst (v := iI 0) hx hb dX12_word_73 (by decide) ?_
        refine lv_goto (tgt := 78) hx hb dX12_word_74 (by decide) ?_
        refine W.widen (k := 0) (n := 0) (Nat.le_of_ble_eq_true rfl) (Nat.le_of_ble_eq_true rfl) ?_
        exact W.iret (v := iI 0) hx hb hr (fun t ht hW => ⟨⟨iI 0, ((fun k => ([] : List Nat).getD k 0), (fun k => ([0, (u1.2.1 1)] : List Int).getD k 0), (fun k => ([] : List (Nat → Int32)).getD k (fun _ => 0))), rfl, ⟨rfl, (by show (0 ≤ (u1.2.1 1) ∧ (u1.2.1 1) ≤ 602); first | exact hq1_1 | omega), (by show ((-2147483648) ≤ 0 ∧ 0 ≤ 2147483647); show ((-2147483648) : Int) ≤ 0 ∧ (0 : Int) ≤ 2147483647; decide), (by show (ap ≤ (u1.2.1 1)); omega), (by show (0 ≠ 0 → (u1.2.1 1) < sz_ ∧ 97 ≤ nz f9 ((u1.2.1 1)).toNat ∧ nz f9 ((u1.2.1 1)).toNat ≤ 122); omega), (by show ((u1.2.1 1) < sz_ → nz f9 ((u1.2.1 1)).toNat ≠ 32); first | omega | assumption), (by show ((ap < sz_ → nz f9 ap.toNat ≠ 32) → (u1.2.1 1) = ap); first | omega | assumption), (by show (ap ≤ sz_ → (u1.2.1 1) ≤ sz_); first | exact hq1_8 | omega), (by show (0 = wv f9 sz_ ((u1.2.1 1))); exact (wv_fin (a := (u1.2.1 1)) hl14_8 (by omega) (by omega))), hq1_9⟩, at9 ht hP hD [0, 1] (by decide +kernel) rfl⟩, hS.F ht⟩) hS.2.2 dX12_word_78
    · refine lv_aload_n hx hb dX12_word_22 rfl (lv_at hlv 3 rfl) ?_
      refine va_get (D := D) (ci := 12) (v := vR m9) (C := RX12) (T := TX12) (N := 38) hx hb hts hi12 hown hG.1 hP 0 rfl rfl 9 (by decide) lf20 (fun _ h9 => h9) rfl dX12_word_23 ?_
      refine lv_iload_n hx hb dX12_word_26 rfl (lv_at hlv 0 rfl) ?_
      refine va_iald hx hb hG.1 hP 1 0 rfl rfl (iI_in (by omega) (by decide)) dX12_word_27 ?_
      refine lt_nz (i := qk) (by omega) (fun z_3 hz_3 lz_3 uz_3 => ?_)
      have hbz_3_5 := inv_nz hq1_9 (k := qk.toNat) (by omega)
      refine cjr_i [true, true] (fun pre9 => (va_runS (As := [vI z_3]) (rest := []) ⟨hx, hb, hml, hown, hts⟩ (m_isSmall l hl D cy sa z_3 H.size (by omega)) (va_cwS 1 hts gg_2 rfl rfl rfl (by decide +kernel) ⟨Nat.le_of_ble_eq_true rfl, Nat.le_of_ble_eq_true rfl⟩) ⟨pcW.blind, pre9⟩ rfl rfl hlv.1 rfl (lv_room (Nat.le_of_ble_eq_true rfl)) dX12_word_28 ⟨Nat.le_of_ble_eq_true rfl, Nat.le_of_ble_eq_true rfl⟩)) hP hD hS hA hG hT [] rfl (by decide +kernel) (fun r2 u2 H locs hw2 hq9 hS => ?_)
      obtain ⟨rfl, hq2_1, hq2_2, hq2_3⟩ := hw2
      obtain ⟨hP, hD⟩ := pd9 [zO mm 12 [vI th, vR m1, vI tp, vI sz_, vI (u1.2.1 1), vI bad, vI bk, vI opn, vI fp, vR m9, vR m10, vR m11, vR m12, vR m13, vR m14, vR m15, vI im, vI nr, vI nl, vR m19, vR m20, vR m21, vI sp_, vR m23, vR m24, vR m25, vR m26, vR m27, vR m28, vI wtc, vI wcl, vI ir, vI ip, vR m33, vI shu, vR m35, vI sfa, vI swr], zI m9 (cy 0) 600 f9] hq9
      refine iz_eq (tgt := 67) hx hb dX12_word_31 (by decide) (by first | exact rgw hq2_1 (by decide) (by decide) | omega) (fun c_4 => ?_) (fun c_4 => ?_)
      · refine lv_iload_n hx hb dX12_word_67 rfl (lv_at hlv 1 rfl) ?_
        refine lv_bipush (v := iI 6) hx hb dX12_word_68 (by decide) ?_
        refine ir_le (tgt := 77) hx hb dX12_word_70 (by decide) (by first | exact rgw hl14_1 (by decide) (by decide) | omega) (by show ((-2147483648) : Int) ≤ 6 ∧ (6 : Int) ≤ 2147483647; decide) (fun c_5 => ?_) (fun c_5 => ?_)
        · refine lv_iload_n hx hb dX12_word_77 rfl (lv_at hlv 2 rfl) ?_
          refine W.widen (k := 0) (n := 0) (Nat.le_of_ble_eq_true rfl) (Nat.le_of_ble_eq_true rfl) ?_
          exact W.iret (v := iI qv) hx hb hr (fun t ht hW => ⟨⟨iI qv, ((fun k => ([] : List Nat).getD k 0), (fun k => ([qv, (u1.2.1 1)] : List Int).getD k 0), (fun k => ([] : List (Nat → Int32)).getD k (fun _ => 0))), rfl, ⟨rfl, (by show (0 ≤ (u1.2.1 1) ∧ (u1.2.1 1) ≤ 602); first | exact hq1_1 | omega), (by show ((-2147483648) ≤ qv ∧ qv ≤ 2147483647); first | exact hl14_0 | omega), (by show (ap ≤ (u1.2.1 1)); omega), (by show (qv ≠ 0 → (u1.2.1 1) < sz_ ∧ 97 ≤ nz f9 ((u1.2.1 1)).toNat ∧ nz f9 ((u1.2.1 1)).toNat ≤ 122); omega), (by show ((u1.2.1 1) < sz_ → nz f9 ((u1.2.1 1)).toNat ≠ 32); first | omega | assumption), (by show ((ap < sz_ → nz f9 ap.toNat ≠ 32) → (u1.2.1 1) = ap); first | omega | assumption), (by show (ap ≤ sz_ → (u1.2.1 1) ≤ sz_); first | exact hq1_8 | omega), (by show (qv = wv f9 sz_ ((u1.2.1 1))); exact (wv_fin (a := (u1.2.1 1)) hl14_8 (by omega) (by omega))), hq1_9⟩, at9 ht hP hD [0, 1] (by decide +kernel) rfl⟩, hS.F ht⟩) hS.2.2 dX12_word_78
        · refine lv_iconst (v := iI 0) hx hb dX12_word_73 (by decide) ?_
          refine lv_goto (tgt := 78) hx hb dX12_word_74 (by decide) ?_
          refine W.widen (k := 0) (n := 0) (Nat.le_of_ble_eq_true rfl) (Nat.le_of_ble_eq_true rfl) ?_
          exact W.iret (v := iI 0) hx hb hr (fun t ht hW => ⟨⟨iI 0, ((fun k => ([] : List Nat).getD k 0), (fun k => ([0, (u1.2.1 1)] : List Int).getD k 0), (fun k => ([] : List (Nat → Int32)).getD k (fun _ => 0))), rfl, ⟨rfl, (by show (0 ≤ (u1.2.1 1) ∧ (u1.2.1 1) ≤ 602); first | exact hq1_1 | omega), (by show ((-2147483648) ≤ 0 ∧ 0 ≤ 2147483647); show ((-2147483648) : Int) ≤ 0 ∧ (0 : Int) ≤ 2147483647; decide), (by show (ap ≤ (u1.2.1 1)); omega), (by show (0 ≠ 0 → (u1.2.1 1) < sz_ ∧ 97 ≤ nz f9 ((u1.2.1 1)).toNat ∧ nz f9 ((u1.2.1 1)).toNat ≤ 122); omega), (by show ((u1.2.1 1) < sz_ → nz f9 ((u1.2.1 1)).toNat ≠ 32); first | omega | assumption), (by show ((ap < sz_ → nz f9 ap.toNat ≠ 32) → (u1.2.1 1) = ap); first | omega | assumption), (by show (ap ≤ sz_ → (u1.2.1 1) ≤ sz_); first | exact hq1_8 | omega), (by show (0 = wv f9 sz_ ((u1.2.1 1))); exact (wv_fin (a := (u1.2.1 1)) hl14_8 (by omega) (by omega))), hq1_9⟩, at9 ht hP hD [0, 1] (by decide +kernel) rfl⟩, hS.F ht⟩) hS.2.2 dX12_word_78
      · refine lv_iload_n hx hb dX12_word_34 rfl (lv_at hlv 1 rfl) ?_
        refine lv_bipush (v := iI 6) hx hb dX12_word_35 (by decide) ?_
        refine ir_ge (tgt := 56) hx hb dX12_word_37 (by decide) (by first | exact rgw hl14_1 (by decide) (by decide) | omega) (by show ((-2147483648) : Int) ≤ 6 ∧ (6 : Int) ≤ 2147483647; decide) (fun c_6 => ?_) (fun c_6 => ?_)
        · refine lv_iconst (v := iI 0) hx hb dX12_word_56 (by decide) ?_
          refine lv_istore_n (lv' := [(1, vI 0), (3, vI qk), (2, vI qn), (0, vR mm)]) hx hb dX12_word_57 rfl hlv (by decide) rfl (fun ls hlv => ?_)
          obtain ⟨z_7, hz_7⟩ : ∃ z : Int, z = qn + 1 := ⟨_, rfl⟩
          refine lv_iinc (v := iI z_7) (lv' := [(2, vI z_7), (1, vI 0), (3, vI qk), (0, vR mm)]) hx hb dX12_word_58 hlv (k := 2) rfl (by rw [hz_7]; exact (Int32.ofInt_add _ _).symm) (by decide) rfl (fun ls hlv => ?_)
          obtain ⟨z_8, hz_8⟩ : ∃ z : Int, z = qk + 1 := ⟨_, rfl⟩
          refine lv_iinc (v := iI z_8) (lv' := [(3, vI z_8), (2, vI z_7), (1, vI 0), (0, vR mm)]) hx hb dX12_word_61 hlv (k := 2) rfl (by rw [hz_8]; exact (Int32.ofInt_add _ _).symm) (by decide) rfl (fun ls hlv => ?_)
          refine lv_goto (tgt := 14) hx hb dX12_word_64 (by decide) ?_
          exact ih14 0 z_7 z_8 H locs ls (by omega) (by show ((-2147483648) : Int) ≤ 0 ∧ (0 : Int) ≤ 2147483647; decide) (by omega) (by omega) (by omega) (by omega) (by omega) (by by_cases q9 : qk = (u1.2.1 1); (subst q9; omega); omega) (by omega) (wvG_step hl14_8 (by omega) (by omega) (by omega) (Or.inr ⟨by omega, rfl⟩) (by omega))  (hP.sub [0, 1] rfl) (hD.sub [0, 1] (by decide) rfl) hS (lv_sub hlv [0, 1, 2, 3] rfl)
        · refine lv_iload_n hx hb dX12_word_40 rfl (lv_at hlv 2 rfl) ?_
          refine lv_iconst (v := iI 5) hx hb dX12_word_41 (by decide) ?_
          refine lv_ishl hx hb dX12_word_42 ?_
          refine lt_z (fun z_9 ez_9 lz_9 hz_9 => ?_)
          refine lv_aload_n hx hb dX12_word_43 rfl (lv_at hlv 3 rfl) ?_
          refine va_get (D := D) (ci := 12) (v := vR m9) (C := RX12) (T := TX12) (N := 38) hx hb hts hi12 hown hG.1 hP 0 rfl rfl 9 (by decide) lf20 (fun _ h9 => h9) rfl dX12_word_44 ?_
          refine lv_iload_n hx hb dX12_word_47 rfl (lv_at hlv 0 rfl) ?_
          refine va_iald hx hb hG.1 hP 1 0 rfl rfl (iI_in (by omega) (by decide)) dX12_word_48 ?_
          refine lt_nz (i := qk) (by omega) (fun z_10 hz_10 lz_10 uz_10 => ?_)
          have hbz_10_9 := inv_nz hq1_9 (k := qk.toNat) (by omega)
          refine lv_bipush (v := iI 96) hx hb dX12_word_49 (by decide) ?_
          refine lv_isub hx hb dX12_word_51 ?_
          refine lt_e (e0 := z_10 - 96) (Int32.ofInt_sub _ _).symm (fun z_11 hz_11 => ?_)
          refine lv_ior hx hb dX12_word_52 ?_
          refine lt_z (fun z_12 ez_12 lz_12 hz_12 => ?_)
          refine lv_goto (tgt := 57) hx hb dX12_word_53 (by decide) ?_
          refine lv_istore_n (lv' := [(1, vI z_12), (3, vI qk), (2, vI qn), (0, vR mm)]) hx hb dX12_word_57 rfl hlv (by decide) rfl (fun ls hlv => ?_)
          obtain ⟨z_13, hz_13⟩ : ∃ z : Int, z = qn + 1 := ⟨_, rfl⟩
          refine lv_iinc (v := iI z_13) (lv' := [(2, vI z_13), (1, vI z_12), (3, vI qk), (0, vR mm)]) hx hb dX12_word_58 hlv (k := 2) rfl (by rw [hz_13]; exact (Int32.ofInt_add _ _).symm) (by decide) rfl (fun ls hlv => ?_)
          obtain ⟨z_14, hz_14⟩ : ∃ z : Int, z = qk + 1 := ⟨_, rfl⟩
          refine lv_iinc (v := iI z_14) (lv' := [(3, vI z_14), (2, vI z_13), (1, vI z_12), (0, vR mm)]) hx hb dX12_word_61 hlv (k := 2) rfl (by rw [hz_14]; exact (Int32.ofInt_add _ _).symm) (by decide) rfl (fun ls hlv => ?_)
          refine lv_goto (tgt := 14) hx hb dX12_word_64 (by decide) ?_
          exact ih14 z_12 z_13 z_14 H locs ls (by omega) (by omega) (by omega) (by omega) (by omega) (by omega) (by omega) (by by_cases q9 : qk = (u1.2.1 1); (subst q9; omega); omega) (by omega) (wvG_step hl14_8 (by omega) (by omega) (by omega) (Or.inl ⟨by omega, nx_eq ez_9 (by omega) ez_12 (by omega)⟩) (by omega))  (hP.sub [0, 1] rfl) (hD.sub [0, 1] (by decide) rfl) hS (lv_sub hlv [0, 1, 2, 3] rfl)
end
