
def vs_x_wrong : List Cond := .code yX12_wrong cX12_wrong 3 none :: (([.fieldLink RX12 80 "KerbSplashModel" "bad" "I", .fieldLink RX12 83 "KerbSplashModel" "badKind" "I"] : List Cond) ++ ((wsX120) ++ ([])))
theorem gd_x_wrong : vs_x_wrong.all goodWord = true := gd_C (by decide +kernel) (gd_A (by decide +kernel) (gd_A (by decide +kernel) rfl))
set_option maxHeartbeats 4000000 in
set_option maxRecDepth 100000 in
theorem x_wrong (l : Launch) (hl : l.stackTraces = false) (D : va_G) (cy : Nat → ClassId) (sa : Nat → Nat) (mm m1 m9 m10 m11 m12 m13 m14 m15 m19 m20 m21 m23 m24 m25 m26 m27 m28 m33 m35 : Nat) (th tp sz_ ap bad bk opn fp im nr nl sp_ wtc wcl ir ip shu sfa swr : Int) (k n : Int) (sz : Nat) (hr_th : (-2147483648) ≤ th ∧ th ≤ 2147483647) (hr_tp : 0 ≤ tp ∧ tp ≤ 600) (hr_sz_ : 0 ≤ sz_ ∧ sz_ ≤ 600) (hr_ap : 0 ≤ ap ∧ ap ≤ 602) (hr_bad : (-1) ≤ bad ∧ bad ≤ 602) (hr_bk : 0 ≤ bk ∧ bk ≤ 4) (hr_opn : 0 ≤ opn ∧ opn ≤ 7) (hr_fp : (-2147483648) ≤ fp ∧ fp ≤ 2147483647) (hr_im : 0 ≤ im ∧ im ≤ 3) (hr_nr : 0 ≤ nr ∧ nr ≤ 4) (hr_nl : 0 ≤ nl ∧ nl ≤ 4) (hr_sp_ : 0 ≤ sp_ ∧ sp_ ≤ 602) (hr_wtc : (-2147483648) ≤ wtc ∧ wtc ≤ 2147483647) (hr_wcl : 0 ≤ wcl ∧ wcl ≤ 95) (hr_ir : 0 ≤ ir ∧ ir ≤ 5) (hr_ip : (-2147483648) ≤ ip ∧ ip ≤ 2147483647) (hr_shu : (-2147483648) ≤ shu ∧ shu ≤ 2147483647) (hr_sfa : (-2147483648) ≤ sfa ∧ sfa ≤ 2147483647) (hr_swr : (-2147483648) ≤ swr ∧ swr ≤ 2147483647) (hr_k : 1 ≤ k ∧ k ≤ 4) (hr_n : 0 ≤ n ∧ n ≤ 602) : Met l yX12_wrong vs_x_wrong ({ frames := 0, cells := 0, slots := 0, locals := 0 }) (va_Pc [vR mm, vI k, vI n] (pcW D cy sa sz [zO mm 12 [vI th, vR m1, vI tp, vI sz_, vI ap, vI bad, vI bk, vI opn, vI fp, vR m9, vR m10, vR m11, vR m12, vR m13, vR m14, vR m15, vI im, vI nr, vI nl, vR m19, vR m20, vR m21, vI sp_, vR m23, vR m24, vR m25, vR m26, vR m27, vR m28, vI wtc, vI wcl, vI ir, vI ip, vR m33, vI shu, vR m35, vI sfa, vI swr]])) (va_Qv (fun u : SV => (0 ≤ u.2.1 0 ∧ u.2.1 0 ≤ 602) ∧ (0 ≤ u.2.1 1 ∧ u.2.1 1 ≤ 4) ∧ (u.2.1 0 ≠ -1) ∧ (bad ≠ -1 → u.2.1 0 = bad ∧ u.2.1 1 = bk) ∧ (bad = -1 → u.2.1 0 = n ∧ u.2.1 1 = k)) (fun u t => atW D (va_A [zO mm 12 [vI th, vR m1, vI tp, vI sz_, vI ap, vI bad, vI bk, vI opn, vI fp, vR m9, vR m10, vR m11, vR m12, vR m13, vR m14, vR m15, vI im, vI nr, vI nl, vR m19, vR m20, vR m21, vI sp_, vR m23, vR m24, vR m25, vR m26, vR m27, vR m28, vI wtc, vI wcl, vI ir, vI ip, vR m33, vI shu, vR m35, vI sfa, vI swr]] sz) [zO mm 12 [vI th, vR m1, vI tp, vI sz_, vI ap, vI (u.2.1 0), vI (u.2.1 1), vI opn, vI fp, vR m9, vR m10, vR m11, vR m12, vR m13, vR m14, vR m15, vI im, vI nr, vI nl, vR m19, vR m20, vR m21, vI sp_, vR m23, vR m24, vR m25, vR m26, vR m27, vR m28, vI wtc, vI wcl, vI ir, vI ip, vR m33, vI shu, vR m35, vI sfa, vI swr]] t) (va_A [zO mm 12 [vI th, vR m1, vI tp, vI sz_, vI ap, vI bad, vI bk, vI opn, vI fp, vR m9, vR m10, vR m11, vR m12, vR m13, vR m14, vR m15, vI im, vI nr, vI nl, vR m19, vR m20, vR m21, vI sp_, vR m23, vR m24, vR m25, vR m26, vR m27, vR m28, vI wtc, vI wcl, vI ir, vI ip, vR m33, vI shu, vR m35, vI sfa, vI swr]] sz)) 0 0 (va_A [zO mm 12 [vI th, vR m1, vI tp, vI sz_, vI ap, vI bad, vI bk, vI opn, vI fp, vR m9, vR m10, vR m11, vR m12, vR m13, vR m14, vR m15, vI im, vI nr, vI nl, vR m19, vR m20, vR m21, vI sp_, vR m23, vR m24, vR m25, vR m26, vR m27, vR m28, vI wtc, vI wcl, vI ir, vI ip, vR m33, vI shu, vR m35, vI sfa, vI swr]] sz) := by
  refine Met.ofW (cc := cX12_wrong) (maxL := 3) (ret := none) (by decide) rfl ?_
  intro p e s m args below meth c s₁ B hml hv
  obtain ⟨rfl, hsz, hP, hG, hD0, hT⟩ := hv
  have hx := B.exec
  have hb := B.bytes
  have hr := B.returns
  have hts := atoms_spec (ws := vs_x_wrong) B.pre
  have hown : s.vm.findClass RX12 = some m.cls := findClass_of_methodNamed B.named
  have hlocks := B.notSynchronized
  subst hsz
  have hD := hD0.self (sz := s.heap.size)
  generalize hAe : va_A [zO mm 12 [vI th, vR m1, vI tp, vI sz_, vI ap, vI bad, vI bk, vI opn, vI fp, vR m9, vR m10, vR m11, vR m12, vR m13, vR m14, vR m15, vI im, vI nr, vI nl, vR m19, vR m20, vR m21, vI sp_, vR m23, vR m24, vR m25, vR m26, vR m27, vR m28, vI wtc, vI wcl, vI ir, vI ip, vR m33, vI shu, vR m35, vI sfa, vI swr]] s.heap.size = A at hD hT ⊢
  have hA : ∀ q : Nat, s.heap.size ≤ q → A q := fun q h => by rw [← hAe]; exact Or.inr h
  have hS : va_S A s.heap s.heap [] := va_S.rf
  have hl0 := lv_entry ([vR mm, vI k, vI n]) (n := 3) (Nat.le_of_ble_eq_true rfl)
  rw [lg_entry_eq]
  generalize (lg_sl ([vR mm, vI k, vI n]) ++ List.replicate (3 - (lg_sl ([vR mm, vI k, vI n])).length) Slot.unset).toArray = ls at hl0 ⊢
  have hlv : lv_has ls 3 [(0, vR mm), (1, vI k), (2, vI n)] := hl0
  have lf80 := hts (.fieldLink RX12 80 "KerbSplashModel" "bad" "I") (List.mem_of_getElem? (i := 1) rfl)
  have hi12 : ∀ w ∈ wsX120, w ∈ vs_x_wrong := fun w h => List.mem_cons_of_mem _ (List.mem_append_right _ (List.mem_append_left _ h))
  have lf83 := hts (.fieldLink RX12 83 "KerbSplashModel" "badKind" "I") (List.mem_of_getElem? (i := 2) rfl)
  refine lv_aload_n hx hb dX12_wrong_0 rfl (lv_at hlv 0 rfl) ?_
  refine va_get (D := D) (ci := 12) (v := vI bad) (C := RX12) (T := TX12) (N := 38) hx hb hts hi12 hown hG.1 hP 0 rfl rfl 5 (by decide) lf80 (fun _ h9 => h9) rfl dX12_wrong_1 ?_
  refine lv_iconst (v := iI (-1)) hx hb dX12_wrong_4 (by decide) ?_
  refine ir_eq (tgt := 9) hx hb dX12_wrong_5 (by decide) (by first | exact rgw hr_bad (by decide) (by decide) | omega) (by show ((-2147483648) : Int) ≤ (-1) ∧ ((-1) : Int) ≤ 2147483647; decide) (fun c_1 => ?_) (fun c_1 => ?_)
  · refine lv_aload_n hx hb dX12_wrong_9 rfl (lv_at hlv 0 rfl) ?_
    refine lv_iload_n hx hb dX12_wrong_10 rfl (lv_at hlv 2 rfl) ?_
    refine va_put (D := D) (ci := 12) (v := vI n) (ty := .int) (C := RX12) (T := TX12) (N := 38) hx hb hts hi12 tyX12 tyX12_ok nmX12 hown hG.1 hP hD hS 0 rfl rfl 5 (by decide) lf80 (fun _ h9 => h9) rfl (by decide +kernel) rfl rfl (Nat.le_of_ble_eq_true rfl) dX12_wrong_11 (fun H locs hP hD hS => ?_)
    have hP : va_P D vwCl [zO mm 12 [vI th, vR m1, vI tp, vI sz_, vI ap, vI n, vI bk, vI opn, vI fp, vR m9, vR m10, vR m11, vR m12, vR m13, vR m14, vR m15, vI im, vI nr, vI nl, vR m19, vR m20, vR m21, vI sp_, vR m23, vR m24, vR m25, vR m26, vR m27, vR m28, vI wtc, vI wcl, vI ir, vI ip, vR m33, vI shu, vR m35, vI sfa, vI swr]] H := hP
    have hD : va_D A [zO mm 12 [vI th, vR m1, vI tp, vI sz_, vI ap, vI n, vI bk, vI opn, vI fp, vR m9, vR m10, vR m11, vR m12, vR m13, vR m14, vR m15, vI im, vI nr, vI nl, vR m19, vR m20, vR m21, vI sp_, vR m23, vR m24, vR m25, vR m26, vR m27, vR m28, vI wtc, vI wcl, vI ir, vI ip, vR m33, vI shu, vR m35, vI sfa, vI swr]] := hD
    refine lv_aload_n hx hb dX12_wrong_14 rfl (lv_at hlv 0 rfl) ?_
    refine lv_iload_n hx hb dX12_wrong_15 rfl (lv_at hlv 1 rfl) ?_
    refine va_put (D := D) (ci := 12) (v := vI k) (ty := .int) (C := RX12) (T := TX12) (N := 38) hx hb hts hi12 tyX12 tyX12_ok nmX12 hown hG.1 hP hD hS 0 rfl rfl 6 (by decide) lf83 (fun _ h9 => h9) rfl (by decide +kernel) rfl rfl (Nat.le_of_ble_eq_true rfl) dX12_wrong_16 (fun H locs hP hD hS => ?_)
    have hP : va_P D vwCl [zO mm 12 [vI th, vR m1, vI tp, vI sz_, vI ap, vI n, vI k, vI opn, vI fp, vR m9, vR m10, vR m11, vR m12, vR m13, vR m14, vR m15, vI im, vI nr, vI nl, vR m19, vR m20, vR m21, vI sp_, vR m23, vR m24, vR m25, vR m26, vR m27, vR m28, vI wtc, vI wcl, vI ir, vI ip, vR m33, vI shu, vR m35, vI sfa, vI swr]] H := hP
    have hD : va_D A [zO mm 12 [vI th, vR m1, vI tp, vI sz_, vI ap, vI n, vI k, vI opn, vI fp, vR m9, vR m10, vR m11, vR m12, vR m13, vR m14, vR m15, vI im, vI nr, vI nl, vR m19, vR m20, vR m21, vI sp_, vR m23, vR m24, vR m25, vR m26, vR m27, vR m28, vI wtc, vI wcl, vI ir, vI ip, vR m33, vI shu, vR m35, vI sfa, vI swr]] := hD
    refine W.widen (k := 0) (n := 0) (Nat.le_of_ble_eq_true rfl) (Nat.le_of_ble_eq_true rfl) ?_
    exact W.vret hx hb hr (fun t ht hW => ⟨⟨((fun k9 => ([] : List Nat).getD k9 0), (fun k9 => ([n, k] : List Int).getD k9 0), (fun k9 => ([] : List (Nat → Int32)).getD k9 (fun _ => 0))), rfl, ⟨(by show (0 ≤ n ∧ n ≤ 602); first | exact hr_n | omega), (by show (0 ≤ k ∧ k ≤ 4); first | exact rgw hr_k (by decide) (by decide) | omega), (by show (n ≠ -1); omega), (by show (bad ≠ -1 → n = bad ∧ k = bk); omega), (by show (bad = -1 → n = n ∧ k = k); omega)⟩, by rw [ht]; exact hP.sub [0] rfl, hD.sub [0] (by decide) rfl⟩, hS.F ht⟩) hS.2.2 dX12_wrong_19
  · refine W.widen (k := 0) (n := 0) (Nat.le_of_ble_eq_true rfl) (Nat.le_of_ble_eq_true rfl) ?_
    exact W.vret hx hb hr (fun t ht hW => ⟨⟨((fun k => ([] : List Nat).getD k 0), (fun k => ([bad, bk] : List Int).getD k 0), (fun k => ([] : List (Nat → Int32)).getD k (fun _ => 0))), rfl, ⟨(by show (0 ≤ bad ∧ bad ≤ 602); omega), (by show (0 ≤ bk ∧ bk ≤ 4); first | exact hr_bk | omega), (by show (bad ≠ -1); omega), (by show (bad ≠ -1 → bad = bad ∧ bk = bk); omega), (by show (bad = -1 → bad = n ∧ bk = k); omega)⟩, by rw [ht]; exact hP.sub [0] rfl, hD.sub [0] (by decide) rfl⟩, hS.F ht⟩) hS.2.2 dX12_wrong_8
def vs_x_may : List Cond := .code yX12_may cX12_may 4 (some .boolean) :: (([.fieldLink RX12 1 "KerbSplashModel" "thrown" "I", .fieldLink RX12 7 "KerbSplashModel" "refused" "[I"] : List Cond) ++ ((wsX120) ++ ([])))
theorem gd_x_may : vs_x_may.all goodWord = true := gd_C (by decide +kernel) (gd_A (by decide +kernel) (gd_A (by decide +kernel) rfl))
set_option maxHeartbeats 4000000 in
set_option maxRecDepth 100000 in
theorem x_may (l : Launch) (hl : l.stackTraces = false) (D : va_G) (cy : Nat → ClassId) (sa : Nat → Nat) (mm m1 m9 m10 m11 m12 m13 m14 m15 m19 m20 m21 m23 m24 m25 m26 m27 m28 m33 m35 : Nat) (th tp sz_ ap bad bk opn fp im nr nl sp_ wtc wcl ir ip shu sfa swr : Int) (f1 : Nat → Int32) (b k n : Int) (sz : Nat) (hr_th : (-2147483648) ≤ th ∧ th ≤ 2147483647) (hr_tp : 0 ≤ tp ∧ tp ≤ 600) (hr_sz_ : 0 ≤ sz_ ∧ sz_ ≤ 600) (hr_ap : 0 ≤ ap ∧ ap ≤ 602) (hr_bad : (-1) ≤ bad ∧ bad ≤ 602) (hr_bk : 0 ≤ bk ∧ bk ≤ 4) (hr_opn : 0 ≤ opn ∧ opn ≤ 7) (hr_fp : (-2147483648) ≤ fp ∧ fp ≤ 2147483647) (hr_im : 0 ≤ im ∧ im ≤ 3) (hr_nr : 0 ≤ nr ∧ nr ≤ 4) (hr_nl : 0 ≤ nl ∧ nl ≤ 4) (hr_sp_ : 0 ≤ sp_ ∧ sp_ ≤ 602) (hr_wtc : (-2147483648) ≤ wtc ∧ wtc ≤ 2147483647) (hr_wcl : 0 ≤ wcl ∧ wcl ≤ 95) (hr_ir : 0 ≤ ir ∧ ir ≤ 5) (hr_ip : (-2147483648) ≤ ip ∧ ip ≤ 2147483647) (hr_shu : (-2147483648) ≤ shu ∧ shu ≤ 2147483647) (hr_sfa : (-2147483648) ≤ sfa ∧ sfa ≤ 2147483647) (hr_swr : (-2147483648) ≤ swr ∧ swr ≤ 2147483647) (hr_b : 0 ≤ b ∧ b ≤ 1) (hr_k : 1 ≤ k ∧ k ≤ 4) (hr_n : 0 ≤ n ∧ n ≤ 3) : Met l yX12_may vs_x_may ({ frames := 0, cells := 0, slots := 0, locals := 0 }) (va_Pc [vR mm, vI b, vI k, vI n] (pcW D cy sa sz [zO mm 12 [vI th, vR m1, vI tp, vI sz_, vI ap, vI bad, vI bk, vI opn, vI fp, vR m9, vR m10, vR m11, vR m12, vR m13, vR m14, vR m15, vI im, vI nr, vI nl, vR m19, vR m20, vR m21, vI sp_, vR m23, vR m24, vR m25, vR m26, vR m27, vR m28, vI wtc, vI wcl, vI ir, vI ip, vR m33, vI shu, vR m35, vI sfa, vI swr], zI m1 (cy 0) 4 f1])) (va_Qi (fun (r : Int32) (u : SV) => r = iI (u.2.1 0) ∧ ((-2147483648) ≤ u.2.1 1 ∧ u.2.1 1 ≤ 2147483647) ∧ (0 ≤ u.2.1 0 ∧ u.2.1 0 ≤ 1) ∧ (u.2.1 0 = 1 → b = 1 ∧ u.2.1 1 = 0) ∧ (th = 0 → b = 1 → u.2.1 0 = 1) ∧ (th = 0 → b = 0 → u.2.1 1 = k)) (fun u t => atW D (va_A [zO mm 12 [vI th, vR m1, vI tp, vI sz_, vI ap, vI bad, vI bk, vI opn, vI fp, vR m9, vR m10, vR m11, vR m12, vR m13, vR m14, vR m15, vI im, vI nr, vI nl, vR m19, vR m20, vR m21, vI sp_, vR m23, vR m24, vR m25, vR m26, vR m27, vR m28, vI wtc, vI wcl, vI ir, vI ip, vR m33, vI shu, vR m35, vI sfa, vI swr], zI m1 (cy 0) 4 f1] sz) [zO mm 12 [vI (u.2.1 1), vR m1, vI tp, vI sz_, vI ap, vI bad, vI bk, vI opn, vI fp, vR m9, vR m10, vR m11, vR m12, vR m13, vR m14, vR m15, vI im, vI nr, vI nl, vR m19, vR m20, vR m21, vI sp_, vR m23, vR m24, vR m25, vR m26, vR m27, vR m28, vI wtc, vI wcl, vI ir, vI ip, vR m33, vI shu, vR m35, vI sfa, vI swr], zI m1 (cy 0) 4 (u.2.2 0)] t) (va_A [zO mm 12 [vI th, vR m1, vI tp, vI sz_, vI ap, vI bad, vI bk, vI opn, vI fp, vR m9, vR m10, vR m11, vR m12, vR m13, vR m14, vR m15, vI im, vI nr, vI nl, vR m19, vR m20, vR m21, vI sp_, vR m23, vR m24, vR m25, vR m26, vR m27, vR m28, vI wtc, vI wcl, vI ir, vI ip, vR m33, vI shu, vR m35, vI sfa, vI swr], zI m1 (cy 0) 4 f1] sz)) 0 0 (va_A [zO mm 12 [vI th, vR m1, vI tp, vI sz_, vI ap, vI bad, vI bk, vI opn, vI fp, vR m9, vR m10, vR m11, vR m12, vR m13, vR m14, vR m15, vI im, vI nr, vI nl, vR m19, vR m20, vR m21, vI sp_, vR m23, vR m24, vR m25, vR m26, vR m27, vR m28, vI wtc, vI wcl, vI ir, vI ip, vR m33, vI shu, vR m35, vI sfa, vI swr], zI m1 (cy 0) 4 f1] sz) := by
  refine Met.ofW (cc := cX12_may) (maxL := 4) (ret := (some .boolean)) (by decide) rfl ?_
  intro p e s m args below meth c s₁ B hml hv
  obtain ⟨rfl, hsz, hP, hG, hD0, hT⟩ := hv
  have hx := B.exec
  have hb := B.bytes
  have hr := B.returns
  have hts := atoms_spec (ws := vs_x_may) B.pre
  have hown : s.vm.findClass RX12 = some m.cls := findClass_of_methodNamed B.named
  have hlocks := B.notSynchronized
  subst hsz
  have hD := hD0.self (sz := s.heap.size)
  generalize hAe : va_A [zO mm 12 [vI th, vR m1, vI tp, vI sz_, vI ap, vI bad, vI bk, vI opn, vI fp, vR m9, vR m10, vR m11, vR m12, vR m13, vR m14, vR m15, vI im, vI nr, vI nl, vR m19, vR m20, vR m21, vI sp_, vR m23, vR m24, vR m25, vR m26, vR m27, vR m28, vI wtc, vI wcl, vI ir, vI ip, vR m33, vI shu, vR m35, vI sfa, vI swr], zI m1 (cy 0) 4 f1] s.heap.size = A at hD hT ⊢
  have hA : ∀ q : Nat, s.heap.size ≤ q → A q := fun q h => by rw [← hAe]; exact Or.inr h
  have hS : va_S A s.heap s.heap [] := va_S.rf
  have hl0 := lv_entry ([vR mm, vI b, vI k, vI n]) (n := 4) (Nat.le_of_ble_eq_true rfl)
  rw [lg_entry_eq]
  generalize (lg_sl ([vR mm, vI b, vI k, vI n]) ++ List.replicate (4 - (lg_sl ([vR mm, vI b, vI k, vI n])).length) Slot.unset).toArray = ls at hl0 ⊢
  have hlv : lv_has ls 4 [(0, vR mm), (1, vI b), (2, vI k), (3, vI n)] := hl0
  have lf1 := hts (.fieldLink RX12 1 "KerbSplashModel" "thrown" "I") (List.mem_of_getElem? (i := 1) rfl)
  have hi12 : ∀ w ∈ wsX120, w ∈ vs_x_may := fun w h => List.mem_cons_of_mem _ (List.mem_append_right _ (List.mem_append_left _ h))
  have lf7 := hts (.fieldLink RX12 7 "KerbSplashModel" "refused" "[I") (List.mem_of_getElem? (i := 2) rfl)
  refine lv_iload_n hx hb dX12_may_0 rfl (lv_at hlv 1 rfl) ?_
  refine iz_ne (tgt := 26) hx hb dX12_may_1 (by decide) (by first | exact rgw hr_b (by decide) (by decide) | omega) (fun c_1 => ?_) (fun c_1 => ?_)
  · refine lv_aload_n hx hb dX12_may_26 rfl (lv_at hlv 0 rfl) ?_
    refine va_get (D := D) (ci := 12) (v := vI th) (C := RX12) (T := TX12) (N := 38) hx hb hts hi12 hown hG.1 hP 0 rfl rfl 0 (by decide) lf1 (fun _ h9 => h9) rfl dX12_may_27 ?_
    refine iz_ne (tgt := 37) hx hb dX12_may_30 (by decide) (by first | exact hr_th | omega) (fun c_2 => ?_) (fun c_2 => ?_)
    · refine lv_iconst (v := iI 0) hx hb dX12_may_37 (by decide) ?_
      refine W.widen (k := 0) (n := 0) (Nat.le_of_ble_eq_true rfl) (Nat.le_of_ble_eq_true rfl) ?_
      exact W.zret (v := iI 0) hx hb hr (by first | rfl | decide) (fun t ht hW => ⟨⟨iI 0, ((fun k => ([] : List Nat).getD k 0), (fun k => ([0, th] : List Int).getD k 0), (fun k => ([f1] : List (Nat → Int32)).getD k (fun _ => 0))), rfl, ⟨rfl, (by show ((-2147483648) ≤ th ∧ th ≤ 2147483647); first | exact hr_th | omega), (by show (0 ≤ 0 ∧ 0 ≤ 1); show (0 : Int) ≤ 0 ∧ (0 : Int) ≤ 1; decide), (by show (0 = 1 → b = 1 ∧ th = 0); omega), (by show (th = 0 → b = 1 → 0 = 1); omega), (by show (th = 0 → b = 0 → th = k); omega)⟩, by rw [ht]; exact hP.sub [0, 1] rfl, hD.sub [0, 1] (by decide) rfl⟩, hS.F ht⟩) hS.2.2 dX12_may_38
    · refine lv_iconst (v := iI 1) hx hb dX12_may_33 (by decide) ?_
      refine lv_goto (tgt := 38) hx hb dX12_may_34 (by decide) ?_
      refine W.widen (k := 0) (n := 0) (Nat.le_of_ble_eq_true rfl) (Nat.le_of_ble_eq_true rfl) ?_
      exact W.zret (v := iI 1) hx hb hr (by first | rfl | decide) (fun t ht hW => ⟨⟨iI 1, ((fun k => ([] : List Nat).getD k 0), (fun k => ([1, th] : List Int).getD k 0), (fun k => ([f1] : List (Nat → Int32)).getD k (fun _ => 0))), rfl, ⟨rfl, (by show ((-2147483648) ≤ th ∧ th ≤ 2147483647); first | exact hr_th | omega), (by show (0 ≤ 1 ∧ 1 ≤ 1); show (0 : Int) ≤ 1 ∧ (1 : Int) ≤ 1; decide), (by show (1 = 1 → b = 1 ∧ th = 0); omega), (by show (th = 0 → b = 1 → 1 = 1); omega), (by show (th = 0 → b = 0 → th = k); omega)⟩, by rw [ht]; exact hP.sub [0, 1] rfl, hD.sub [0, 1] (by decide) rfl⟩, hS.F ht⟩) hS.2.2 dX12_may_38
  · refine lv_aload_n hx hb dX12_may_4 rfl (lv_at hlv 0 rfl) ?_
    refine va_get (D := D) (ci := 12) (v := vI th) (C := RX12) (T := TX12) (N := 38) hx hb hts hi12 hown hG.1 hP 0 rfl rfl 0 (by decide) lf1 (fun _ h9 => h9) rfl dX12_may_5 ?_
    refine iz_ne (tgt := 26) hx hb dX12_may_8 (by decide) (by first | exact hr_th | omega) (fun c_3 => ?_) (fun c_3 => ?_)
    · refine lv_aload_n hx hb dX12_may_26 rfl (lv_at hlv 0 rfl) ?_
      refine va_get (D := D) (ci := 12) (v := vI th) (C := RX12) (T := TX12) (N := 38) hx hb hts hi12 hown hG.1 hP 0 rfl rfl 0 (by decide) lf1 (fun _ h9 => h9) rfl dX12_may_27 ?_
      refine iz_ne (tgt := 37) hx hb dX12_may_30 (by decide) (by first | exact hr_th | omega) (fun c_4 => ?_) (fun c_4 => ?_)
      · refine lv_iconst (v := iI 0) hx hb dX12_may_37 (by decide) ?_
        refine W.widen (k := 0) (n := 0) (Nat.le_of_ble_eq_true rfl) (Nat.le_of_ble_eq_true rfl) ?_
        exact W.zret (v := iI 0) hx hb hr (by first | rfl | decide) (fun t ht hW => ⟨⟨iI 0, ((fun k => ([] : List Nat).getD k 0), (fun k => ([0, th] : List Int).getD k 0), (fun k => ([f1] : List (Nat → Int32)).getD k (fun _ => 0))), rfl, ⟨rfl, (by show ((-2147483648) ≤ th ∧ th ≤ 2147483647); first | exact hr_th | omega), (by show (0 ≤ 0 ∧ 0 ≤ 1); show (0 : Int) ≤ 0 ∧ (0 : Int) ≤ 1; decide), (by show (0 = 1 → b = 1 ∧ th = 0); omega), (by show (th = 0 → b = 1 → 0 = 1); omega), (by show (th = 0 → b = 0 → th = k); omega)⟩, by rw [ht]; exact hP.sub [0, 1] rfl, hD.sub [0, 1] (by decide) rfl⟩, hS.F ht⟩) hS.2.2 dX12_may_38
      · refine lv_iconst (v := iI 1) hx hb dX12_may_33 (by decide) ?_
        refine lv_goto (tgt := 38) hx hb dX12_may_34 (by decide) ?_
        refine W.widen (k := 0) (n := 0) (Nat.le_of_ble_eq_true rfl) (Nat.le_of_ble_eq_true rfl) ?_
        exact W.zret (v := iI 1) hx hb hr (by first | rfl | decide) (fun t ht hW => ⟨⟨iI 1, ((fun k => ([] : List Nat).getD k 0), (fun k => ([1, th] : List Int).getD k 0), (fun k => ([f1] : List (Nat → Int32)).getD k (fun _ => 0))), rfl, ⟨rfl, (by show ((-2147483648) ≤ th ∧ th ≤ 2147483647); first | exact hr_th | omega), (by show (0 ≤ 1 ∧ 1 ≤ 1); show (0 : Int) ≤ 1 ∧ (1 : Int) ≤ 1; decide), (by show (1 = 1 → b = 1 ∧ th = 0); omega), (by show (th = 0 → b = 1 → 1 = 1); omega), (by show (th = 0 → b = 0 → th = k); omega)⟩, by rw [ht]; exact hP.sub [0, 1] rfl, hD.sub [0, 1] (by decide) rfl⟩, hS.F ht⟩) hS.2.2 dX12_may_38
    · refine lv_aload_n hx hb dX12_may_11 rfl (lv_at hlv 0 rfl) ?_
      refine lv_iload_n hx hb dX12_may_12 rfl (lv_at hlv 2 rfl) ?_
      refine va_put (D := D) (ci := 12) (v := vI k) (ty := .int) (C := RX12) (T := TX12) (N := 38) hx hb hts hi12 tyX12 tyX12_ok nmX12 hown hG.1 hP hD hS 0 rfl rfl 0 (by decide) lf1 (fun _ h9 => h9) rfl (by decide +kernel) rfl rfl (Nat.le_of_ble_eq_true rfl) dX12_may_13 (fun H locs hP hD hS => ?_)
      have hP : va_P D vwCl [zO mm 12 [vI k, vR m1, vI tp, vI sz_, vI ap, vI bad, vI bk, vI opn, vI fp, vR m9, vR m10, vR m11, vR m12, vR m13, vR m14, vR m15, vI im, vI nr, vI nl, vR m19, vR m20, vR m21, vI sp_, vR m23, vR m24, vR m25, vR m26, vR m27, vR m28, vI wtc, vI wcl, vI ir, vI ip, vR m33, vI shu, vR m35, vI sfa, vI swr], zI m1 (cy 0) 4 f1] H := hP
      have hD : va_D A [zO mm 12 [vI k, vR m1, vI tp, vI sz_, vI ap, vI bad, vI bk, vI opn, vI fp, vR m9, vR m10, vR m11, vR m12, vR m13, vR m14, vR m15, vI im, vI nr, vI nl, vR m19, vR m20, vR m21, vI sp_, vR m23, vR m24, vR m25, vR m26, vR m27, vR m28, vI wtc, vI wcl, vI ir, vI ip, vR m33, vI shu, vR m35, vI sfa, vI swr], zI m1 (cy 0) 4 f1] := hD
      refine lv_aload_n hx hb dX12_may_16 rfl (lv_at hlv 0 rfl) ?_
      refine va_get (D := D) (ci := 12) (v := vR m1) (C := RX12) (T := TX12) (N := 38) hx hb hts hi12 hown hG.1 hP 0 rfl rfl 1 (by decide) lf7 (fun _ h9 => h9) rfl dX12_may_17 ?_
      refine lv_iload_n hx hb dX12_may_20 rfl (lv_at hlv 3 rfl) ?_
      refine lv_dup2_11 hx hb dX12_may_21 rfl rfl ?_
      refine va_iald hx hb hG.1 hP 1 0 rfl rfl (iI_in (by omega) (by decide)) dX12_may_22 ?_
      refine lt_z (fun z_5 ez_5 lz_5 hz_5 => ?_)
      refine lv_iconst (v := iI 1) hx hb dX12_may_23 (by decide) ?_
      refine lv_iadd hx hb dX12_may_24 ?_
      refine lt_z (fun z_6 ez_6 lz_6 hz_6 => ?_)
      refine va_iast hx hb hG.1 hP hD hS 1 0 rfl rfl (iI_in (by omega) (by decide)) dX12_may_25 (fun H locs hP hD hS => ?_)
      have ⟨f_7, hP, hD⟩ : ∃ f_7 : Nat → Int32, va_P D vwCl [zO mm 12 [vI k, vR m1, vI tp, vI sz_, vI ap, vI bad, vI bk, vI opn, vI fp, vR m9, vR m10, vR m11, vR m12, vR m13, vR m14, vR m15, vI im, vI nr, vI nl, vR m19, vR m20, vR m21, vI sp_, vR m23, vR m24, vR m25, vR m26, vR m27, vR m28, vI wtc, vI wcl, vI ir, vI ip, vR m33, vI shu, vR m35, vI sfa, vI swr], zI m1 (cy 0) 4 f_7] H ∧ va_D A [zO mm 12 [vI k, vR m1, vI tp, vI sz_, vI ap, vI bad, vI bk, vI opn, vI fp, vR m9, vR m10, vR m11, vR m12, vR m13, vR m14, vR m15, vI im, vI nr, vI nl, vR m19, vR m20, vR m21, vI sp_, vR m23, vR m24, vR m25, vR m26, vR m27, vR m28, vI wtc, vI wcl, vI ir, vI ip, vR m33, vI shu, vR m35, vI sfa, vI swr], zI m1 (cy 0) 4 f_7] := ⟨_, hP, hD⟩
      refine lv_aload_n hx hb dX12_may_26 rfl (lv_at hlv 0 rfl) ?_
      refine va_get (D := D) (ci := 12) (v := vI k) (C := RX12) (T := TX12) (N := 38) hx hb hts hi12 hown hG.1 hP 0 rfl rfl 0 (by decide) lf1 (fun _ h9 => h9) rfl dX12_may_27 ?_
      refine iz_ne (tgt := 37) hx hb dX12_may_30 (by decide) (by first | exact rgw hr_k (by decide) (by decide) | omega) (fun c_8 => ?_) (fun c_8 => by exfalso; omega)
      refine lv_iconst (v := iI 0) hx hb dX12_may_37 (by decide) ?_
      refine W.widen (k := 0) (n := 0) (Nat.le_of_ble_eq_true rfl) (Nat.le_of_ble_eq_true rfl) ?_
      exact W.zret (v := iI 0) hx hb hr (by first | rfl | decide) (fun t ht hW => ⟨⟨iI 0, ((fun k9 => ([] : List Nat).getD k9 0), (fun k9 => ([0, k] : List Int).getD k9 0), (fun k9 => ([f_7] : List (Nat → Int32)).getD k9 (fun _ => 0))), rfl, ⟨rfl, (by show ((-2147483648) ≤ k ∧ k ≤ 2147483647); first | exact rgw hr_k (by decide) (by decide) | omega), (by show (0 ≤ 0 ∧ 0 ≤ 1); show (0 : Int) ≤ 0 ∧ (0 : Int) ≤ 1; decide), (by show (0 = 1 → b = 1 ∧ k = 0); omega), (by show (th = 0 → b = 1 → 0 = 1); omega), (by show (th = 0 → b = 0 → k = k); omega)⟩, by rw [ht]; exact hP.sub [0, 1] rfl, hD.sub [0, 1] (by decide) rfl⟩, hS.F ht⟩) hS.2.2 dX12_may_38
def vs_x_here : List Cond := .code yX12_here cX12_here 1 (some .int) :: (([.fieldLink RX12 86 "KerbSplashModel" "at" "I", .fieldLink RX12 89 "KerbSplashModel" "size" "I", .fieldLink RX12 20 "KerbSplashModel" "tape" "[I"] : List Cond) ++ ((wsX120) ++ ([])))
theorem gd_x_here : vs_x_here.all goodWord = true := gd_C (by decide +kernel) (gd_A (by decide +kernel) (gd_A (by decide +kernel) rfl))
set_option maxHeartbeats 4000000 in
set_option maxRecDepth 100000 in
theorem x_here (l : Launch) (hl : l.stackTraces = false) (D : va_G) (cy : Nat → ClassId) (sa : Nat → Nat) (mm m1 m9 m10 m11 m12 m13 m14 m15 m19 m20 m21 m23 m24 m25 m26 m27 m28 m33 m35 : Nat) (th tp sz_ ap bad bk opn fp im nr nl sp_ wtc wcl ir ip shu sfa swr : Int) (f9 : Nat → Int32) (sz : Nat) (hr_th : (-2147483648) ≤ th ∧ th ≤ 2147483647) (hr_tp : 0 ≤ tp ∧ tp ≤ 600) (hr_sz_ : 0 ≤ sz_ ∧ sz_ ≤ 600) (hr_ap : 0 ≤ ap ∧ ap ≤ 602) (hr_bad : (-1) ≤ bad ∧ bad ≤ 602) (hr_bk : 0 ≤ bk ∧ bk ≤ 4) (hr_opn : 0 ≤ opn ∧ opn ≤ 7) (hr_fp : (-2147483648) ≤ fp ∧ fp ≤ 2147483647) (hr_im : 0 ≤ im ∧ im ≤ 3) (hr_nr : 0 ≤ nr ∧ nr ≤ 4) (hr_nl : 0 ≤ nl ∧ nl ≤ 4) (hr_sp_ : 0 ≤ sp_ ∧ sp_ ≤ 602) (hr_wtc : (-2147483648) ≤ wtc ∧ wtc ≤ 2147483647) (hr_wcl : 0 ≤ wcl ∧ wcl ≤ 95) (hr_ir : 0 ≤ ir ∧ ir ≤ 5) (hr_ip : (-2147483648) ≤ ip ∧ ip ≤ 2147483647) (hr_shu : (-2147483648) ≤ shu ∧ shu ≤ 2147483647) (hr_sfa : (-2147483648) ≤ sfa ∧ sfa ≤ 2147483647) (hr_swr : (-2147483648) ≤ swr ∧ swr ≤ 2147483647) (hf9 : inv_ 600 0 255 f9) : Met l yX12_here vs_x_here ({ frames := 0, cells := 0, slots := 0, locals := 0 }) (va_Pc [vR mm] (pcW D cy sa sz [zO mm 12 [vI th, vR m1, vI tp, vI sz_, vI ap, vI bad, vI bk, vI opn, vI fp, vR m9, vR m10, vR m11, vR m12, vR m13, vR m14, vR m15, vI im, vI nr, vI nl, vR m19, vR m20, vR m21, vI sp_, vR m23, vR m24, vR m25, vR m26, vR m27, vR m28, vI wtc, vI wcl, vI ir, vI ip, vR m33, vI shu, vR m35, vI sfa, vI swr], zI m9 (cy 0) 600 f9])) (va_Qi (fun (r : Int32) (u : SV) => r = iI (u.2.1 0) ∧ (0 ≤ u.2.1 1 ∧ u.2.1 1 ≤ 602) ∧ (0 ≤ u.2.1 0 ∧ u.2.1 0 ≤ 255) ∧ (u.2.1 1 < sz_ → u.2.1 0 = nz f9 (u.2.1 1).toNat) ∧ (ap ≤ u.2.1 1) ∧ (u.2.1 0 ≠ 0 → u.2.1 1 < sz_) ∧ (u.2.1 1 < sz_ → nz f9 (u.2.1 1).toNat ≠ 32) ∧ ((ap < sz_ → nz f9 ap.toNat ≠ 32) → u.2.1 1 = ap) ∧ (ap ≤ sz_ → u.2.1 1 ≤ sz_) ∧ (HeS (nz f9) sz_ ap (u.2.1 0) (u.2.1 1)) ∧ inv_ 600 0 255 f9) (fun u t => atW D (va_A [zO mm 12 [vI th, vR m1, vI tp, vI sz_, vI ap, vI bad, vI bk, vI opn, vI fp, vR m9, vR m10, vR m11, vR m12, vR m13, vR m14, vR m15, vI im, vI nr, vI nl, vR m19, vR m20, vR m21, vI sp_, vR m23, vR m24, vR m25, vR m26, vR m27, vR m28, vI wtc, vI wcl, vI ir, vI ip, vR m33, vI shu, vR m35, vI sfa, vI swr], zI m9 (cy 0) 600 f9] sz) [zO mm 12 [vI th, vR m1, vI tp, vI sz_, vI (u.2.1 1), vI bad, vI bk, vI opn, vI fp, vR m9, vR m10, vR m11, vR m12, vR m13, vR m14, vR m15, vI im, vI nr, vI nl, vR m19, vR m20, vR m21, vI sp_, vR m23, vR m24, vR m25, vR m26, vR m27, vR m28, vI wtc, vI wcl, vI ir, vI ip, vR m33, vI shu, vR m35, vI sfa, vI swr], zI m9 (cy 0) 600 f9] t) (va_A [zO mm 12 [vI th, vR m1, vI tp, vI sz_, vI ap, vI bad, vI bk, vI opn, vI fp, vR m9, vR m10, vR m11, vR m12, vR m13, vR m14, vR m15, vI im, vI nr, vI nl, vR m19, vR m20, vR m21, vI sp_, vR m23, vR m24, vR m25, vR m26, vR m27, vR m28, vI wtc, vI wcl, vI ir, vI ip, vR m33, vI shu, vR m35, vI sfa, vI swr], zI m9 (cy 0) 600 f9] sz)) 0 0 (va_A [zO mm 12 [vI th, vR m1, vI tp, vI sz_, vI ap, vI bad, vI bk, vI opn, vI fp, vR m9, vR m10, vR m11, vR m12, vR m13, vR m14, vR m15, vI im, vI nr, vI nl, vR m19, vR m20, vR m21, vI sp_, vR m23, vR m24, vR m25, vR m26, vR m27, vR m28, vI wtc, vI wcl, vI ir, vI ip, vR m33, vI shu, vR m35, vI sfa, vI swr], zI m9 (cy 0) 600 f9] sz) := by
  refine Met.ofW (cc := cX12_here) (maxL := 1) (ret := (some .int)) (by decide) rfl ?_
  intro p e s m args below meth c s₁ B hml hv
  obtain ⟨rfl, hsz, hP, hG, hD0, hT⟩ := hv
  have hx := B.exec
  have hb := B.bytes
  have hr := B.returns
  have hts := atoms_spec (ws := vs_x_here) B.pre
  have hown : s.vm.findClass RX12 = some m.cls := findClass_of_methodNamed B.named
  have hlocks := B.notSynchronized
  subst hsz
  have hD := hD0.self (sz := s.heap.size)
  generalize hAe : va_A [zO mm 12 [vI th, vR m1, vI tp, vI sz_, vI ap, vI bad, vI bk, vI opn, vI fp, vR m9, vR m10, vR m11, vR m12, vR m13, vR m14, vR m15, vI im, vI nr, vI nl, vR m19, vR m20, vR m21, vI sp_, vR m23, vR m24, vR m25, vR m26, vR m27, vR m28, vI wtc, vI wcl, vI ir, vI ip, vR m33, vI shu, vR m35, vI sfa, vI swr], zI m9 (cy 0) 600 f9] s.heap.size = A at hD hT ⊢
  have hA : ∀ q : Nat, s.heap.size ≤ q → A q := fun q h => by rw [← hAe]; exact Or.inr h
  have hS : va_S A s.heap s.heap [] := va_S.rf
  have hl0 := lv_entry ([vR mm]) (n := 1) (Nat.le_of_ble_eq_true rfl)
  rw [lg_entry_eq]
  generalize (lg_sl ([vR mm]) ++ List.replicate (1 - (lg_sl ([vR mm])).length) Slot.unset).toArray = ls at hl0 ⊢
  have hlv : lv_has ls 1 [(0, vR mm)] := hl0
  have lf86 := hts (.fieldLink RX12 86 "KerbSplashModel" "at" "I") (List.mem_of_getElem? (i := 1) rfl)
  have hi12 : ∀ w ∈ wsX120, w ∈ vs_x_here := fun w h => List.mem_cons_of_mem _ (List.mem_append_right _ (List.mem_append_left _ h))
  have lf89 := hts (.fieldLink RX12 89 "KerbSplashModel" "size" "I") (List.mem_of_getElem? (i := 2) rfl)
  have lf20 := hts (.fieldLink RX12 20 "KerbSplashModel" "tape" "[I") (List.mem_of_getElem? (i := 3) rfl)
  refine (?_ : ∀ (fu : Nat) (x : Int) (H : Heap) (locs : List Loc) (ls : Array Slot), 602 - x < (fu : Int) → (0 ≤ x ∧ x ≤ 602) → (ap ≤ x) → ((ap < sz_ → nz f9 ap.toNat ≠ 32) → x = ap) → (ap ≤ sz_ → x ≤ sz_) → (rnI pSp (nz f9) sz_ x = rnI pSp (nz f9) sz_ ap) → va_P D vwCl [zO mm 12 [vI th, vR m1, vI tp, vI sz_, vI x, vI bad, vI bk, vI opn, vI fp, vR m9, vR m10, vR m11, vR m12, vR m13, vR m14, vR m15, vI im, vI nr, vI nl, vR m19, vR m20, vR m21, vI sp_, vR m23, vR m24, vR m25, vR m26, vR m27, vR m28, vI wtc, vI wcl, vI ir, vI ip, vR m33, vI shu, vR m35, vI sfa, vI swr], zI m9 (cy 0) 600 f9] H → va_D A [zO mm 12 [vI th, vR m1, vI tp, vI sz_, vI x, vI bad, vI bk, vI opn, vI fp, vR m9, vR m10, vR m11, vR m12, vR m13, vR m14, vR m15, vI im, vI nr, vI nl, vR m19, vR m20, vR m21, vI sp_, vR m23, vR m24, vR m25, vR m26, vR m27, vR m28, vI wtc, vI wcl, vI ir, vI ip, vR m33, vI shu, vR m35, vI sfa, vI swr], zI m9 (cy 0) 600 f9] → va_S A s.heap H locs → lv_has ls 1 [(0, vR mm)] → W p l e _ s m _ below meth c H locs _ _ _ (F0 m 0 ls [])) (((602 - ap) + 1 : Int)).toNat ap _ _ _ (by omega) (by first | exact hr_ap | omega) (by omega) (fun _ => rfl) (by omega) rfl  hP hD hS hlv
  clear hP hD hS hlv
  intro fu
  induction fu with
  | zero => intro x H locs ls hm0 hl0_0 hl0_1 hl0_2 hl0_3 hl0_4  hP hD hS hlv; omega
  | succ fu ih0 =>
    intro x H locs ls hm0 hl0_0 hl0_1 hl0_2 hl0_3 hl0_4  hP hD hS hlv
    refine lv_aload_n hx hb dX12_here_0 rfl (lv_at hlv 0 rfl) ?_
    refine va_get (D := D) (ci := 12) (v := vI x) (C := RX12) (T := TX12) (N := 38) hx hb hts hi12 hown hG.1 hP 0 rfl rfl 4 (by decide) lf86 (fun _ h9 => h9) rfl dX12_here_1 ?_
    refine lv_aload_n hx hb dX12_here_4 rfl (lv_at hlv 0 rfl) ?_
    refine va_get (D := D) (ci := 12) (v := vI sz_) (C := RX12) (T := TX12) (N := 38) hx hb hts hi12 hown hG.1 hP 0 rfl rfl 3 (by decide) lf89 (fun _ h9 => h9) rfl dX12_here_5 ?_
    refine ir_ge (tgt := 38) hx hb dX12_here_8 (by decide) (by first | exact rgw hl0_0 (by decide) (by decide) | omega) (by first | exact rgw hr_sz_ (by decide) (by decide) | omega) (fun c_1 => ?_) (fun c_1 => ?_)
    · refine lv_aload_n hx hb dX12_here_38 rfl (lv_at hlv 0 rfl) ?_
      refine va_get (D := D) (ci := 12) (v := vI x) (C := RX12) (T := TX12) (N := 38) hx hb hts hi12 hown hG.1 hP 0 rfl rfl 4 (by decide) lf86 (fun _ h9 => h9) rfl dX12_here_39 ?_
      refine lv_aload_n hx hb dX12_here_42 rfl (lv_at hlv 0 rfl) ?_
      refine va_get (D := D) (ci := 12) (v := vI sz_) (C := RX12) (T := TX12) (N := 38) hx hb hts hi12 hown hG.1 hP 0 rfl rfl 3 (by decide) lf89 (fun _ h9 => h9) rfl dX12_here_43 ?_
      refine ir_ge (tgt := 61) hx hb dX12_here_46 (by decide) (by first | exact rgw hl0_0 (by decide) (by decide) | omega) (by first | exact rgw hr_sz_ (by decide) (by decide) | omega) (fun c_2 => ?_) (fun c_2 => ?_)
      · refine lv_iconst (v := iI 0) hx hb dX12_here_61 (by decide) ?_
        refine W.widen (k := 0) (n := 0) (Nat.le_of_ble_eq_true rfl) (Nat.le_of_ble_eq_true rfl) ?_
        exact W.iret (v := iI 0) hx hb hr (fun t ht hW => ⟨⟨iI 0, ((fun k => ([] : List Nat).getD k 0), (fun k => ([0, x] : List Int).getD k 0), (fun k => ([] : List (Nat → Int32)).getD k (fun _ => 0))), rfl, ⟨rfl, (by show (0 ≤ x ∧ x ≤ 602); first | exact hl0_0 | omega), (by show (0 ≤ 0 ∧ 0 ≤ 255); show (0 : Int) ≤ 0 ∧ (0 : Int) ≤ 255; decide), (by show (x < sz_ → 0 = nz f9 (x).toNat); omega), (by show (ap ≤ x); omega), (by show (0 ≠ 0 → x < sz_); omega), (by show (x < sz_ → nz f9 (x).toNat ≠ 32); omega), (by show ((ap < sz_ → nz f9 ap.toNat ≠ 32) → x = ap); first | omega | assumption), (by show (ap ≤ sz_ → x ≤ sz_); omega), (by show (HeS (nz f9) sz_ ap (0) (x)); exact (by first | exact HeS_1 hl0_4 (by omega) (by omega) | (exfalso; omega))), hf9⟩, by rw [ht]; exact hP.sub [0, 1] rfl, hD.sub [0, 1] (by decide) rfl⟩, hS.F ht⟩) hS.2.2 dX12_here_62
      · refine lv_aload_n hx hb dX12_here_49 rfl (lv_at hlv 0 rfl) ?_
        refine va_get (D := D) (ci := 12) (v := vR m9) (C := RX12) (T := TX12) (N := 38) hx hb hts hi12 hown hG.1 hP 0 rfl rfl 9 (by decide) lf20 (fun _ h9 => h9) rfl dX12_here_50 ?_
        refine lv_aload_n hx hb dX12_here_53 rfl (lv_at hlv 0 rfl) ?_
        refine va_get (D := D) (ci := 12) (v := vI x) (C := RX12) (T := TX12) (N := 38) hx hb hts hi12 hown hG.1 hP 0 rfl rfl 4 (by decide) lf86 (fun _ h9 => h9) rfl dX12_here_54 ?_
        refine va_iald hx hb hG.1 hP 1 0 rfl rfl (iI_in (by omega) (by decide)) dX12_here_57 ?_
        refine lt_nz (i := x) (by omega) (fun z_3 hz_3 lz_3 uz_3 => ?_)
        have hbz_3_6 := inv_nz hf9 (k := x.toNat) (by omega)
        refine lv_goto (tgt := 62) hx hb dX12_here_58 (by decide) ?_
        refine W.widen (k := 0) (n := 0) (Nat.le_of_ble_eq_true rfl) (Nat.le_of_ble_eq_true rfl) ?_
        exact W.iret (v := iI z_3) hx hb hr (fun t ht hW => ⟨⟨iI z_3, ((fun k => ([] : List Nat).getD k 0), (fun k => ([z_3, x] : List Int).getD k 0), (fun k => ([] : List (Nat → Int32)).getD k (fun _ => 0))), rfl, ⟨rfl, (by show (0 ≤ x ∧ x ≤ 602); first | exact hl0_0 | omega), (by show (0 ≤ z_3 ∧ z_3 ≤ 255); omega), (by show (x < sz_ → z_3 = nz f9 (x).toNat); omega), (by show (ap ≤ x); omega), (by show (z_3 ≠ 0 → x < sz_); omega), (by show (x < sz_ → nz f9 (x).toNat ≠ 32); omega), (by show ((ap < sz_ → nz f9 ap.toNat ≠ 32) → x = ap); first | omega | assumption), (by show (ap ≤ sz_ → x ≤ sz_); omega), (by show (HeS (nz f9) sz_ ap (z_3) (x)); exact (by first | exact HeS_2 hl0_4 (by omega) (by omega) (by omega) (by omega) | (exfalso; omega))), hf9⟩, by rw [ht]; exact hP.sub [0, 1] rfl, hD.sub [0, 1] (by decide) rfl⟩, hS.F ht⟩) hS.2.2 dX12_here_62
    · refine lv_aload_n hx hb dX12_here_11 rfl (lv_at hlv 0 rfl) ?_
      refine va_get (D := D) (ci := 12) (v := vR m9) (C := RX12) (T := TX12) (N := 38) hx hb hts hi12 hown hG.1 hP 0 rfl rfl 9 (by decide) lf20 (fun _ h9 => h9) rfl dX12_here_12 ?_
      refine lv_aload_n hx hb dX12_here_15 rfl (lv_at hlv 0 rfl) ?_
      refine va_get (D := D) (ci := 12) (v := vI x) (C := RX12) (T := TX12) (N := 38) hx hb hts hi12 hown hG.1 hP 0 rfl rfl 4 (by decide) lf86 (fun _ h9 => h9) rfl dX12_here_16 ?_
      refine va_iald hx hb hG.1 hP 1 0 rfl rfl (iI_in (by omega) (by decide)) dX12_here_19 ?_
      refine lt_nz (i := x) (by omega) (fun z_4 hz_4 lz_4 uz_4 => ?_)
      have hbz_4_6 := inv_nz hf9 (k := x.toNat) (by omega)
      refine lv_bipush (v := iI 32) hx hb dX12_here_20 (by decide) ?_
      refine ir_ne (tgt := 38) hx hb dX12_here_22 (by decide) (by omega) (by show ((-2147483648) : Int) ≤ 32 ∧ (32 : Int) ≤ 2147483647; decide) (fun c_5 => ?_) (fun c_5 => ?_)
      · refine lv_aload_n hx hb dX12_here_38 rfl (lv_at hlv 0 rfl) ?_
        refine va_get (D := D) (ci := 12) (v := vI x) (C := RX12) (T := TX12) (N := 38) hx hb hts hi12 hown hG.1 hP 0 rfl rfl 4 (by decide) lf86 (fun _ h9 => h9) rfl dX12_here_39 ?_
        refine lv_aload_n hx hb dX12_here_42 rfl (lv_at hlv 0 rfl) ?_
        refine va_get (D := D) (ci := 12) (v := vI sz_) (C := RX12) (T := TX12) (N := 38) hx hb hts hi12 hown hG.1 hP 0 rfl rfl 3 (by decide) lf89 (fun _ h9 => h9) rfl dX12_here_43 ?_
        refine ir_ge (tgt := 61) hx hb dX12_here_46 (by decide) (by first | exact rgw hl0_0 (by decide) (by decide) | omega) (by first | exact rgw hr_sz_ (by decide) (by decide) | omega) (fun c_6 => ?_) (fun c_6 => ?_)
        · refine lv_iconst (v := iI 0) hx hb dX12_here_61 (by decide) ?_
          refine W.widen (k := 0) (n := 0) (Nat.le_of_ble_eq_true rfl) (Nat.le_of_ble_eq_true rfl) ?_
          exact W.iret (v := iI 0) hx hb hr (fun t ht hW => ⟨⟨iI 0, ((fun k => ([] : List Nat).getD k 0), (fun k => ([0, x] : List Int).getD k 0), (fun k => ([] : List (Nat → Int32)).getD k (fun _ => 0))), rfl, ⟨rfl, (by show (0 ≤ x ∧ x ≤ 602); first | exact hl0_0 | omega), (by show (0 ≤ 0 ∧ 0 ≤ 255); show (0 : Int) ≤ 0 ∧ (0 : Int) ≤ 255; decide), (by show (x < sz_ → 0 = nz f9 (x).toNat); omega), (by show (ap ≤ x); omega), (by show (0 ≠ 0 → x < sz_); omega), (by show (x < sz_ → nz f9 (x).toNat ≠ 32); omega), (by show ((ap < sz_ → nz f9 ap.toNat ≠ 32) → x = ap); first | omega | assumption), (by show (ap ≤ sz_ → x ≤ sz_); omega), (by show (HeS (nz f9) sz_ ap (0) (x)); exact (by first | exact HeS_1 hl0_4 (by omega) (by omega) | (exfalso; omega))), hf9⟩, by rw [ht]; exact hP.sub [0, 1] rfl, hD.sub [0, 1] (by decide) rfl⟩, hS.F ht⟩) hS.2.2 dX12_here_62
        · refine lv_aload_n hx hb dX12_here_49 rfl (lv_at hlv 0 rfl) ?_
          refine va_get (D := D) (ci := 12) (v := vR m9) (C := RX12) (T := TX12) (N := 38) hx hb hts hi12 hown hG.1 hP 0 rfl rfl 9 (by decide) lf20 (fun _ h9 => h9) rfl dX12_here_50 ?_
          refine lv_aload_n hx hb dX12_here_53 rfl (lv_at hlv 0 rfl) ?_
          refine va_get (D := D) (ci := 12) (v := vI x) (C := RX12) (T := TX12) (N := 38) hx hb hts hi12 hown hG.1 hP 0 rfl rfl 4 (by decide) lf86 (fun _ h9 => h9) rfl dX12_here_54 ?_
          refine va_iald hx hb hG.1 hP 1 0 rfl rfl (iI_in (by omega) (by decide)) dX12_here_57 ?_
          refine lt_nz (i := x) (by omega) (fun z_7 hz_7 lz_7 uz_7 => ?_)
          have hbz_7_6 := inv_nz hf9 (k := x.toNat) (by omega)
          refine lv_goto (tgt := 62) hx hb dX12_here_58 (by decide) ?_
          refine W.widen (k := 0) (n := 0) (Nat.le_of_ble_eq_true rfl) (Nat.le_of_ble_eq_true rfl) ?_
          exact W.iret (v := iI z_7) hx hb hr (fun t ht hW => ⟨⟨iI z_7, ((fun k => ([] : List Nat).getD k 0), (fun k => ([z_7, x] : List Int).getD k 0), (fun k => ([] : List (Nat → Int32)).getD k (fun _ => 0))), rfl, ⟨rfl, (by show (0 ≤ x ∧ x ≤ 602); first | exact hl0_0 | omega), (by show (0 ≤ z_7 ∧ z_7 ≤ 255); omega), (by show (x < sz_ → z_7 = nz f9 (x).toNat); omega), (by show (ap ≤ x); omega), (by show (z_7 ≠ 0 → x < sz_); omega), (by show (x < sz_ → nz f9 (x).toNat ≠ 32); omega), (by show ((ap < sz_ → nz f9 ap.toNat ≠ 32) → x = ap); first | omega | assumption), (by show (ap ≤ sz_ → x ≤ sz_); omega), (by show (HeS (nz f9) sz_ ap (z_7) (x)); exact (by first | exact HeS_2 hl0_4 (by omega) (by omega) (by omega) (by omega) | (exfalso; omega))), hf9⟩, by rw [ht]; exact hP.sub [0, 1] rfl, hD.sub [0, 1] (by decide) rfl⟩, hS.F ht⟩) hS.2.2 dX12_here_62
      · refine lv_aload_n hx hb dX12_here_25 rfl (lv_at hlv 0 rfl) ?_
        refine lv_dup hx hb dX12_here_26 rfl ?_
        refine va_get (D := D) (ci := 12) (v := vI x) (C := RX12) (T := TX12) (N := 38) hx hb hts hi12 hown hG.1 hP 0 rfl rfl 4 (by decide) lf86 (fun _ h9 => h9) rfl dX12_here_27 ?_
        refine lv_iconst (v := iI 1) hx hb dX12_here_30 (by decide) ?_
        refine lv_iadd hx hb dX12_here_31 ?_
        refine lt_e (e0 := x + 1) (Int32.ofInt_add _ _).symm (fun z_8 hz_8 => ?_)
        refine va_put (D := D) (ci := 12) (v := vI z_8) (ty := .int) (C := RX12) (T := TX12) (N := 38) hx hb hts hi12 tyX12 tyX12_ok nmX12 hown hG.1 hP hD hS 0 rfl rfl 4 (by decide) lf86 (fun _ h9 => h9) rfl (by decide +kernel) rfl rfl (Nat.le_of_ble_eq_true rfl) dX12_here_32 (fun H locs hP hD hS => ?_)
        have hP : va_P D vwCl [zO mm 12 [vI th, vR m1, vI tp, vI sz_, vI z_8, vI bad, vI bk, vI opn, vI fp, vR m9, vR m10, vR m11, vR m12, vR m13, vR m14, vR m15, vI im, vI nr, vI nl, vR m19, vR m20, vR m21, vI sp_, vR m23, vR m24, vR m25, vR m26, vR m27, vR m28, vI wtc, vI wcl, vI ir, vI ip, vR m33, vI shu, vR m35, vI sfa, vI swr], zI m9 (cy 0) 600 f9] H := hP
        have hD : va_D A [zO mm 12 [vI th, vR m1, vI tp, vI sz_, vI z_8, vI bad, vI bk, vI opn, vI fp, vR m9, vR m10, vR m11, vR m12, vR m13, vR m14, vR m15, vI im, vI nr, vI nl, vR m19, vR m20, vR m21, vI sp_, vR m23, vR m24, vR m25, vR m26, vR m27, vR m28, vI wtc, vI wcl, vI ir, vI ip, vR m33, vI shu, vR m35, vI sfa, vI swr], zI m9 (cy 0) 600 f9] := hD
        refine lv_goto (tgt := 0) hx hb dX12_here_35 (by decide) ?_
        exact ih0 z_8 H locs ls (by omega) (by omega) (by omega) (fun q => absurd (show nz f9 ap.toNat = 32 by rw [← hl0_2 q]; omega) (q (by have := hl0_2 q; omega))) (by omega) ((rnI_go (a := x) (by omega) (by omega) (pSp_t (by omega)) (by omega)).trans hl0_4)  (hP.sub [0, 1] rfl) (hD.sub [0, 1] (by decide) rfl) hS (lv_sub hlv [0] rfl)
def vs_x_word : List Cond := .code yX12_word cX12_word 4 (some .int) :: (([.fieldLink RX12 86 "KerbSplashModel" "at" "I", .fieldLink RX12 89 "KerbSplashModel" "size" "I", .fieldLink RX12 20 "KerbSplashModel" "tape" "[I"] : List Cond) ++ ((wsV RX12 92 RX12 yX12_here vs_x_here) ++ ((wsX120) ++ ((va_wsS RX12 96 yX12_isSmall vs_m_isSmall) ++ ([])))))
theorem gd_x_word : vs_x_word.all goodWord = true := gd_C (by decide +kernel) (gd_A (by decide +kernel) (gd_A (gd_V gd_x_here (by decide +kernel)) (gd_A (by decide +kernel) (gd_A (gd_S gd_m_isSmall (by decide +kernel)) rfl))))
set_option maxHeartbeats 4000000 in
set_option maxRecDepth 100000 in
theorem x_word (l : Launch) (hl : l.stackTraces = false) (D : va_G) (cy : Nat → ClassId) (sa : Nat → Nat) (mm m1 m9 m10 m11 m12 m13 m14 m15 m19 m20 m21 m23 m24 m25 m26 m27 m28 m33 m35 : Nat) (th tp sz_ ap bad bk opn fp im nr nl sp_ wtc wcl ir ip shu sfa swr : Int) (f9 : Nat → Int32) (sz : Nat) (hr_th : (-2147483648) ≤ th ∧ th ≤ 2147483647) (hr_tp : 0 ≤ tp ∧ tp ≤ 600) (hr_sz_ : 0 ≤ sz_ ∧ sz_ ≤ 600) (hr_ap : 0 ≤ ap ∧ ap ≤ 602) (hr_bad : (-1) ≤ bad ∧ bad ≤ 602) (hr_bk : 0 ≤ bk ∧ bk ≤ 4) (hr_opn : 0 ≤ opn ∧ opn ≤ 7) (hr_fp : (-2147483648) ≤ fp ∧ fp ≤ 2147483647) (hr_im : 0 ≤ im ∧ im ≤ 3) (hr_nr : 0 ≤ nr ∧ nr ≤ 4) (hr_nl : 0 ≤ nl ∧ nl ≤ 4) (hr_sp_ : 0 ≤ sp_ ∧ sp_ ≤ 602) (hr_wtc : (-2147483648) ≤ wtc ∧ wtc ≤ 2147483647) (hr_wcl : 0 ≤ wcl ∧ wcl ≤ 95) (hr_ir : 0 ≤ ir ∧ ir ≤ 5) (hr_ip : (-2147483648) ≤ ip ∧ ip ≤ 2147483647) (hr_shu : (-2147483648) ≤ shu ∧ shu ≤ 2147483647) (hr_sfa : (-2147483648) ≤ sfa ∧ sfa ≤ 2147483647) (hr_swr : (-2147483648) ≤ swr ∧ swr ≤ 2147483647) (hf9 : inv_ 600 0 255 f9) : Met l yX12_word vs_x_word ({ frames := 1, cells := 0, slots := 0, locals := 20 }) (va_Pc [vR mm] (pcW D cy sa sz [zO mm 12 [vI th, vR m1, vI tp, vI sz_, vI ap, vI bad, vI bk, vI opn, vI fp, vR m9, vR m10, vR m11, vR m12, vR m13, vR m14, vR m15, vI im, vI nr, vI nl, vR m19, vR m20, vR m21, vI sp_, vR m23, vR m24, vR m25, vR m26, vR m27, vR m28, vI wtc, vI wcl, vI ir, vI ip, vR m33, vI shu, vR m35, vI sfa, vI swr], zI m9 (cy 0) 600 f9])) (va_Qi (fun (r : Int32) (u : SV) => r = iI (u.2.1 0) ∧ (0 ≤ u.2.1 1 ∧ u.2.1 1 ≤ 602) ∧ ((-2147483648) ≤ u.2.1 0 ∧ u.2.1 0 ≤ 2147483647) ∧ (ap ≤ u.2.1 1) ∧ (ap ≤ sz_ → u.2.1 1 ≤ sz_) ∧ (u.2.1 0 = wv f9 sz_ (u.2.1 1)) ∧ ((u.2.1 1) = rnI pSp (nz f9) sz_ ap) ∧ inv_ 600 0 255 f9) (fun u t => atW D (va_A [zO mm 12 [vI th, vR m1, vI tp, vI sz_, vI ap, vI bad, vI bk, vI opn, vI fp, vR m9, vR m10, vR m11, vR m12, vR m13, vR m14, vR m15, vI im, vI nr, vI nl, vR m19, vR m20, vR m21, vI sp_, vR m23, vR m24, vR m25, vR m26, vR m27, vR m28, vI wtc, vI wcl, vI ir, vI ip, vR m33, vI shu, vR m35, vI sfa, vI swr], zI m9 (cy 0) 600 f9] sz) [zO mm 12 [vI th, vR m1, vI tp, vI sz_, vI (u.2.1 1), vI bad, vI bk, vI opn, vI fp, vR m9, vR m10, vR m11, vR m12, vR m13, vR m14, vR m15, vI im, vI nr, vI nl, vR m19, vR m20, vR m21, vI sp_, vR m23, vR m24, vR m25, vR m26, vR m27, vR m28, vI wtc, vI wcl, vI ir, vI ip, vR m33, vI shu, vR m35, vI sfa, vI swr], zI m9 (cy 0) 600 f9] t) (va_A [zO mm 12 [vI th, vR m1, vI tp, vI sz_, vI ap, vI bad, vI bk, vI opn, vI fp, vR m9, vR m10, vR m11, vR m12, vR m13, vR m14, vR m15, vI im, vI nr, vI nl, vR m19, vR m20, vR m21, vI sp_, vR m23, vR m24, vR m25, vR m26, vR m27, vR m28, vI wtc, vI wcl, vI ir, vI ip, vR m33, vI shu, vR m35, vI sfa, vI swr], zI m9 (cy 0) 600 f9] sz)) 0 0 (va_A [zO mm 12 [vI th, vR m1, vI tp, vI sz_, vI ap, vI bad, vI bk, vI opn, vI fp, vR m9, vR m10, vR m11, vR m12, vR m13, vR m14, vR m15, vI im, vI nr, vI nl, vR m19, vR m20, vR m21, vI sp_, vR m23, vR m24, vR m25, vR m26, vR m27, vR m28, vI wtc, vI wcl, vI ir, vI ip, vR m33, vI shu, vR m35, vI sfa, vI swr], zI m9 (cy 0) 600 f9] sz) := by
  refine Met.ofW (cc := cX12_word) (maxL := 4) (ret := (some .int)) (by decide) rfl ?_
  intro p e s m args below meth c s₁ B hml hv
  obtain ⟨rfl, hsz, hP, hG, hD0, hT⟩ := hv
  have hx := B.exec
  have hb := B.bytes
  have hr := B.returns
  have hts := atoms_spec (ws := vs_x_word) B.pre
  have hown : s.vm.findClass RX12 = some m.cls := findClass_of_methodNamed B.named
  have hlocks := B.notSynchronized
  subst hsz
  have hD := hD0.self (sz := s.heap.size)
  generalize hAe : va_A [zO mm 12 [vI th, vR m1, vI tp, vI sz_, vI ap, vI bad, vI bk, vI opn, vI fp, vR m9, vR m10, vR m11, vR m12, vR m13, vR m14, vR m15, vI im, vI nr, vI nl, vR m19, vR m20, vR m21, vI sp_, vR m23, vR m24, vR m25, vR m26, vR m27, vR m28, vI wtc, vI wcl, vI ir, vI ip, vR m33, vI shu, vR m35, vI sfa, vI swr], zI m9 (cy 0) 600 f9] s.heap.size = A at hD hT ⊢
  have hA : ∀ q : Nat, s.heap.size ≤ q → A q := fun q h => by rw [← hAe]; exact Or.inr h
  have hS : va_S A s.heap s.heap [] := va_S.rf
  have hl0 := lv_entry ([vR mm]) (n := 4) (Nat.le_of_ble_eq_true rfl)
  rw [lg_entry_eq]
  generalize (lg_sl ([vR mm]) ++ List.replicate (4 - (lg_sl ([vR mm])).length) Slot.unset).toArray = ls at hl0 ⊢
  have hlv : lv_has ls 4 [(0, vR mm)] := hl0
  have gg_0 : GoodIn vs_x_word (wsV RX12 92 RX12 yX12_here vs_x_here) := goodIn_sub (fun w h => List.mem_cons_of_mem _ (List.mem_append_right _ (List.mem_append_left _ h))) (gd_V gd_x_here (by decide +kernel))
  have lf86 := hts (.fieldLink RX12 86 "KerbSplashModel" "at" "I") (List.mem_of_getElem? (i := 1) rfl)
  have hi12 : ∀ w ∈ wsX120, w ∈ vs_x_word := fun w h => List.mem_cons_of_mem _ (List.mem_append_right _ (List.mem_append_right _ (List.mem_append_left _ h)))
  have lf89 := hts (.fieldLink RX12 89 "KerbSplashModel" "size" "I") (List.mem_of_getElem? (i := 2) rfl)
  have lf20 := hts (.fieldLink RX12 20 "KerbSplashModel" "tape" "[I") (List.mem_of_getElem? (i := 3) rfl)
  have gg_2 : GoodIn vs_x_word (va_wsS RX12 96 yX12_isSmall vs_m_isSmall) := goodIn_sub (fun w h => List.mem_cons_of_mem _ (List.mem_append_right _ (List.mem_append_right _ (List.mem_append_right _ (List.mem_append_left _ h))))) (gd_S gd_m_isSmall (by decide +kernel))
  refine lv_aload_n hx hb dX12_word_0 rfl (lv_at hlv 0 rfl) ?_
  refine cj_i (wr := []) (va_runV (As := []) (rest := []) ⟨hx, hb, hml, hown, hts⟩ (x_here l hl D cy sa mm m1 m9 m10 m11 m12 m13 m14 m15 m19 m20 m21 m23 m24 m25 m26 m27 m28 m33 m35 th tp sz_ ap bad bk opn fp im nr nl sp_ wtc wcl ir ip shu sfa swr f9 s.heap.size (by first | exact hr_th | omega) (by first | exact hr_tp | omega) (by first | exact hr_sz_ | omega) (by first | exact hr_ap | omega) (by first | exact hr_bad | omega) (by first | exact hr_bk | omega) (by first | exact hr_opn | omega) (by first | exact hr_fp | omega) (by first | exact hr_im | omega) (by first | exact hr_nr | omega) (by first | exact hr_nl | omega) (by first | exact hr_sp_ | omega) (by first | exact hr_wtc | omega) (by first | exact hr_wcl | omega) (by first | exact hr_ir | omega) (by first | exact hr_ip | omega) (by first | exact hr_shu | omega) (by first | exact hr_sfa | omega) (by first | exact hr_swr | omega) hf9) (cwV 0 hts gg_0 rfl rfl rfl (by decide +kernel) ⟨Nat.le_of_ble_eq_true rfl, Nat.le_of_ble_eq_true rfl⟩) ⟨pcW.blind, (va_recv hG.1 hP (ci := 12) (q0 := 0) rfl rfl), (pcW.mk hP hD hS hA hG hT [0, 1] rfl (by decide))⟩ rfl rfl hlv.1 rfl (lv_room (Nat.le_of_ble_eq_true rfl)) dX12_word_1 ⟨Nat.le_of_ble_eq_true rfl, Nat.le_of_ble_eq_true rfl⟩) hP hD hS hA [0, 1] [] rfl rfl (by decide) (by decide) (fun r1 u1 H locs hw1 hP hD hS => ?_)
  obtain ⟨rfl, hq1_1, hq1_2, hq1_3, hq1_4, hq1_5, hq1_6, hq1_7, hq1_8, hq1_9, hq1_10⟩ := hw1
  have hP : va_P D vwCl [zO mm 12 [vI th, vR m1, vI tp, vI sz_, vI (u1.2.1 1), vI bad, vI bk, vI opn, vI fp, vR m9, vR m10, vR m11, vR m12, vR m13, vR m14, vR m15, vI im, vI nr, vI nl, vR m19, vR m20, vR m21, vI sp_, vR m23, vR m24, vR m25, vR m26, vR m27, vR m28, vI wtc, vI wcl, vI ir, vI ip, vR m33, vI shu, vR m35, vI sfa, vI swr], zI m9 (cy 0) 600 f9] H := hP
  have hD : va_D A [zO mm 12 [vI th, vR m1, vI tp, vI sz_, vI (u1.2.1 1), vI bad, vI bk, vI opn, vI fp, vR m9, vR m10, vR m11, vR m12, vR m13, vR m14, vR m15, vI im, vI nr, vI nl, vR m19, vR m20, vR m21, vI sp_, vR m23, vR m24, vR m25, vR m26, vR m27, vR m28, vI wtc, vI wcl, vI ir, vI ip, vR m33, vI shu, vR m35, vI sfa, vI swr], zI m9 (cy 0) 600 f9] := hD
  refine lv_pop hx hb dX12_word_4 rfl ?_
  refine lv_iconst (v := iI 0) hx hb dX12_word_5 (by decide) ?_
  refine lv_istore_n (lv' := [(1, vI 0), (0, vR mm)]) hx hb dX12_word_6 rfl hlv (by decide) rfl (fun ls hlv => ?_)
  refine lv_iconst (v := iI 0) hx hb dX12_word_7 (by decide) ?_
  refine lv_istore_n (lv' := [(2, vI 0), (1, vI 0), (0, vR mm)]) hx hb dX12_word_8 rfl hlv (by decide) rfl (fun ls hlv => ?_)
  refine lv_aload_n hx hb dX12_word_9 rfl (lv_at hlv 2 rfl) ?_
  refine va_get (D := D) (ci := 12) (v := vI (u1.2.1 1)) (C := RX12) (T := TX12) (N := 38) hx hb hts hi12 hown hG.1 hP 0 rfl rfl 4 (by decide) lf86 (fun _ h9 => h9) rfl dX12_word_10 ?_
  refine lv_istore_n (lv' := [(3, vI (u1.2.1 1)), (2, vI 0), (1, vI 0), (0, vR mm)]) hx hb dX12_word_13 rfl hlv (by decide) rfl (fun ls hlv => ?_)
  refine (?_ : ∀ (fu : Nat) (qv : Int) (qn : Int) (qk : Int) (H : Heap) (locs : List Loc) (ls : Array Slot), 602 - qk < (fu : Int) → ((-2147483648) ≤ qv ∧ qv ≤ 2147483647) → (0 ≤ qn ∧ qn ≤ 602) → (0 ≤ qk ∧ qk ≤ 602) → (qn = qk - (u1.2.1 1)) → ((u1.2.1 1) ≤ qk) → (qn = 0 → qv = 0) → ((u1.2.1 1) < qk → (u1.2.1 1) < sz_ ∧ 97 ≤ nz f9 (u1.2.1 1).toNat ∧ nz f9 (u1.2.1 1).toNat ≤ 122) → (qk ≤ sz_ ∨ qk = (u1.2.1 1)) → (wvG f9 sz_ (602 - qk).toNat qk qv qn = wvG f9 sz_ (602 - (u1.2.1 1)).toNat (u1.2.1 1) 0 0) → va_P D vwCl [zO mm 12 [vI th, vR m1, vI tp, vI sz_, vI (u1.2.1 1), vI bad, vI bk, vI opn, vI fp, vR m9, vR m10, vR m11, vR m12, vR m13, vR m14, vR m15, vI im, vI nr, vI nl, vR m19, vR m20, vR m21, vI sp_, vR m23, vR m24, vR m25, vR m26, vR m27, vR m28, vI wtc, vI wcl, vI ir, vI ip, vR m33, vI shu, vR m35, vI sfa, vI swr], zI m9 (cy 0) 600 f9] H → va_D A [zO mm 12 [vI th, vR m1, vI tp, vI sz_, vI (u1.2.1 1), vI bad, vI bk, vI opn, vI fp, vR m9, vR m10, vR m11, vR m12, vR m13, vR m14, vR m15, vI im, vI nr, vI nl, vR m19, vR m20, vR m21, vI sp_, vR m23, vR m24, vR m25, vR m26, vR m27, vR m28, vI wtc, vI wcl, vI ir, vI ip, vR m33, vI shu, vR m35, vI sfa, vI swr], zI m9 (cy 0) 600 f9] → va_S A s.heap H locs → lv_has ls 4 [(3, vI qk), (2, vI qn), (1, vI qv), (0, vR mm)] → W p l e _ s m _ below meth c H locs _ _ _ (F0 m 14 ls [])) (((602 - (u1.2.1 1)) + 1 : Int)).toNat 0 0 (u1.2.1 1) _ _ _ (by omega) (by show ((-2147483648) : Int) ≤ 0 ∧ (0 : Int) ≤ 2147483647; decide) (by show (0 : Int) ≤ 0 ∧ (0 : Int) ≤ 602; decide) (by first | exact hq1_1 | omega) (by omega) (by omega) (by omega) (fun q => absurd q (by omega)) (by omega) rfl  hP hD hS hlv
  clear hP hD hS hlv
  intro fu
  induction fu with
  | zero => intro qv qn qk H locs ls hm14 hl14_0 hl14_1 hl14_2 hl14_3 hl14_4 hl14_5 hl14_6 hl14_7 hl14_8  hP hD hS hlv; omega
  | succ fu ih14 =>
    intro qv qn qk H locs ls hm14 hl14_0 hl14_1 hl14_2 hl14_3 hl14_4 hl14_5 hl14_6 hl14_7 hl14_8  hP hD hS hlv
    refine lv_iload_n hx hb dX12_word_14 rfl (lv_at hlv 0 rfl) ?_
    refine lv_aload_n hx hb dX12_word_15 rfl (lv_at hlv 3 rfl) ?_
    refine va_get (D := D) (ci := 12) (v := vI sz_) (C := RX12) (T := TX12) (N := 38) hx hb hts hi12 hown hG.1 hP 0 rfl rfl 3 (by decide) lf89 (fun _ h9 => h9) rfl dX12_word_16 ?_
    refine ir_ge (tgt := 67) hx hb dX12_word_19 (by decide) (by first | exact rgw hl14_2 (by decide) (by decide) | omega) (by first | exact rgw hr_sz_ (by decide) (by decide) | omega) (fun c_1 => ?_) (fun c_1 => ?_)
    · refine lv_iload_n hx hb dX12_word_67 rfl (lv_at hlv 1 rfl) ?_
      refine lv_bipush (v := iI 6) hx hb dX12_word_68 (by decide) ?_
      refine ir_le (tgt := 77) hx hb dX12_word_70 (by decide) (by first | exact rgw hl14_1 (by decide) (by decide) | omega) (by show ((-2147483648) : Int) ≤ 6 ∧ (6 : Int) ≤ 2147483647; decide) (fun c_2 => ?_) (fun c_2 => ?_)
      · refine lv_iload_n hx hb dX12_word_77 rfl (lv_at hlv 2 rfl) ?_
        refine W.widen (k := 0) (n := 0) (Nat.le_of_ble_eq_true rfl) (Nat.le_of_ble_eq_true rfl) ?_
        exact W.iret (v := iI qv) hx hb hr (fun t ht hW => ⟨⟨iI qv, ((fun k => ([] : List Nat).getD k 0), (fun k => ([qv, (u1.2.1 1)] : List Int).getD k 0), (fun k => ([] : List (Nat → Int32)).getD k (fun _ => 0))), rfl, ⟨rfl, (by show (0 ≤ (u1.2.1 1) ∧ (u1.2.1 1) ≤ 602); first | exact hq1_1 | omega), (by show ((-2147483648) ≤ qv ∧ qv ≤ 2147483647); first | exact hl14_0 | omega), (by show (ap ≤ (u1.2.1 1)); omega), (by show (ap ≤ sz_ → (u1.2.1 1) ≤ sz_); first | exact hq1_8 | omega), (by show (qv = wv f9 sz_ ((u1.2.1 1))); exact (wv_fin (a := (u1.2.1 1)) hl14_8 (by omega) (by omega))), (by show (((u1.2.1 1)) = rnI pSp (nz f9) sz_ ap); exact hq1_9.1), hq1_10⟩, by rw [ht]; exact hP.sub [0, 1] rfl, hD.sub [0, 1] (by decide) rfl⟩, hS.F ht⟩) hS.2.2 dX12_word_78
      · refine lv_iconst (v := iI 0) hx hb dX12_word_73 (by decide) ?_
        refine lv_goto (tgt := 78) hx hb dX12_word_74 (by decide) ?_
        refine W.widen (k := 0) (n := 0) (Nat.le_of_ble_eq_true rfl) (Nat.le_of_ble_eq_true rfl) ?_
        exact W.iret (v := iI 0) hx hb hr (fun t ht hW => ⟨⟨iI 0, ((fun k => ([] : List Nat).getD k 0), (fun k => ([0, (u1.2.1 1)] : List Int).getD k 0), (fun k => ([] : List (Nat → Int32)).getD k (fun _ => 0))), rfl, ⟨rfl, (by show (0 ≤ (u1.2.1 1) ∧ (u1.2.1 1) ≤ 602); first | exact hq1_1 | omega), (by show ((-2147483648) ≤ 0 ∧ 0 ≤ 2147483647); show ((-2147483648) : Int) ≤ 0 ∧ (0 : Int) ≤ 2147483647; decide), (by show (ap ≤ (u1.2.1 1)); omega), (by show (ap ≤ sz_ → (u1.2.1 1) ≤ sz_); first | exact hq1_8 | omega), (by show (0 = wv f9 sz_ ((u1.2.1 1))); exact (wv_fin (a := (u1.2.1 1)) hl14_8 (by omega) (by omega))), (by show (((u1.2.1 1)) = rnI pSp (nz f9) sz_ ap); exact hq1_9.1), hq1_10⟩, by rw [ht]; exact hP.sub [0, 1] rfl, hD.sub [0, 1] (by decide) rfl⟩, hS.F ht⟩) hS.2.2 dX12_word_78
    · refine lv_aload_n hx hb dX12_word_22 rfl (lv_at hlv 3 rfl) ?_
      refine va_get (D := D) (ci := 12) (v := vR m9) (C := RX12) (T := TX12) (N := 38) hx hb hts hi12 hown hG.1 hP 0 rfl rfl 9 (by decide) lf20 (fun _ h9 => h9) rfl dX12_word_23 ?_
      refine lv_iload_n hx hb dX12_word_26 rfl (lv_at hlv 0 rfl) ?_
      refine va_iald hx hb hG.1 hP 1 0 rfl rfl (iI_in (by omega) (by decide)) dX12_word_27 ?_
      refine lt_nz (i := qk) (by omega) (fun z_3 hz_3 lz_3 uz_3 => ?_)
      have hbz_3_5 := inv_nz hq1_10 (k := qk.toNat) (by omega)
      refine cj_i (wr := [zO mm 12 [vI th, vR m1, vI tp, vI sz_, vI (u1.2.1 1), vI bad, vI bk, vI opn, vI fp, vR m9, vR m10, vR m11, vR m12, vR m13, vR m14, vR m15, vI im, vI nr, vI nl, vR m19, vR m20, vR m21, vI sp_, vR m23, vR m24, vR m25, vR m26, vR m27, vR m28, vI wtc, vI wcl, vI ir, vI ip, vR m33, vI shu, vR m35, vI sfa, vI swr], zI m9 (cy 0) 600 f9]) (va_runS (As := [vI z_3]) (rest := []) ⟨hx, hb, hml, hown, hts⟩ (m_isSmall l hl D cy sa z_3 H.size (by omega)) (va_cwS 1 hts gg_2 rfl rfl rfl (by decide +kernel) ⟨Nat.le_of_ble_eq_true rfl, Nat.le_of_ble_eq_true rfl⟩) ⟨pcW.blind, (pcW.mk hP hD hS hA hG hT [] rfl (by decide))⟩ rfl rfl hlv.1 rfl (lv_room (Nat.le_of_ble_eq_true rfl)) dX12_word_28 ⟨Nat.le_of_ble_eq_true rfl, Nat.le_of_ble_eq_true rfl⟩) hP hD hS hA [] [0, 1] rfl rfl (by decide) (by decide) (fun r2 u2 H locs hw2 hP hD hS => ?_)
      obtain ⟨rfl, hq2_1, hq2_2, hq2_3⟩ := hw2
      have hP : va_P D vwCl [zO mm 12 [vI th, vR m1, vI tp, vI sz_, vI (u1.2.1 1), vI bad, vI bk, vI opn, vI fp, vR m9, vR m10, vR m11, vR m12, vR m13, vR m14, vR m15, vI im, vI nr, vI nl, vR m19, vR m20, vR m21, vI sp_, vR m23, vR m24, vR m25, vR m26, vR m27, vR m28, vI wtc, vI wcl, vI ir, vI ip, vR m33, vI shu, vR m35, vI sfa, vI swr], zI m9 (cy 0) 600 f9] H := hP
      have hD : va_D A [zO mm 12 [vI th, vR m1, vI tp, vI sz_, vI (u1.2.1 1), vI bad, vI bk, vI opn, vI fp, vR m9, vR m10, vR m11, vR m12, vR m13, vR m14, vR m15, vI im, vI nr, vI nl, vR m19, vR m20, vR m21, vI sp_, vR m23, vR m24, vR m25, vR m26, vR m27, vR m28, vI wtc, vI wcl, vI ir, vI ip, vR m33, vI shu, vR m35, vI sfa, vI swr], zI m9 (cy 0) 600 f9] := hD
      refine iz_eq (tgt := 67) hx hb dX12_word_31 (by decide) (by first | exact rgw hq2_1 (by decide) (by decide) | omega) (fun c_4 => ?_) (fun c_4 => ?_)
      · refine lv_iload_n hx hb dX12_word_67 rfl (lv_at hlv 1 rfl) ?_
        refine lv_bipush (v := iI 6) hx hb dX12_word_68 (by decide) ?_
        refine ir_le (tgt := 77) hx hb dX12_word_70 (by decide) (by first | exact rgw hl14_1 (by decide) (by decide) | omega) (by show ((-2147483648) : Int) ≤ 6 ∧ (6 : Int) ≤ 2147483647; decide) (fun c_5 => ?_) (fun c_5 => ?_)
        · refine lv_iload_n hx hb dX12_word_77 rfl (lv_at hlv 2 rfl) ?_
          refine W.widen (k := 0) (n := 0) (Nat.le_of_ble_eq_true rfl) (Nat.le_of_ble_eq_true rfl) ?_
          exact W.iret (v := iI qv) hx hb hr (fun t ht hW => ⟨⟨iI qv, ((fun k => ([] : List Nat).getD k 0), (fun k => ([qv, (u1.2.1 1)] : List Int).getD k 0), (fun k => ([] : List (Nat → Int32)).getD k (fun _ => 0))), rfl, ⟨rfl, (by show (0 ≤ (u1.2.1 1) ∧ (u1.2.1 1) ≤ 602); first | exact hq1_1 | omega), (by show ((-2147483648) ≤ qv ∧ qv ≤ 2147483647); first | exact hl14_0 | omega), (by show (ap ≤ (u1.2.1 1)); omega), (by show (ap ≤ sz_ → (u1.2.1 1) ≤ sz_); first | exact hq1_8 | omega), (by show (qv = wv f9 sz_ ((u1.2.1 1))); exact (wv_fin (a := (u1.2.1 1)) hl14_8 (by omega) (by omega))), (by show (((u1.2.1 1)) = rnI pSp (nz f9) sz_ ap); exact hq1_9.1), hq1_10⟩, by rw [ht]; exact hP.sub [0, 1] rfl, hD.sub [0, 1] (by decide) rfl⟩, hS.F ht⟩) hS.2.2 dX12_word_78
        · refine lv_iconst (v := iI 0) hx hb dX12_word_73 (by decide) ?_
          refine lv_goto (tgt := 78) hx hb dX12_word_74 (by decide) ?_
          refine W.widen (k := 0) (n := 0) (Nat.le_of_ble_eq_true rfl) (Nat.le_of_ble_eq_true rfl) ?_
          exact W.iret (v := iI 0) hx hb hr (fun t ht hW => ⟨⟨iI 0, ((fun k => ([] : List Nat).getD k 0), (fun k => ([0, (u1.2.1 1)] : List Int).getD k 0), (fun k => ([] : List (Nat → Int32)).getD k (fun _ => 0))), rfl, ⟨rfl, (by show (0 ≤ (u1.2.1 1) ∧ (u1.2.1 1) ≤ 602); first | exact hq1_1 | omega), (by show ((-2147483648) ≤ 0 ∧ 0 ≤ 2147483647); show ((-2147483648) : Int) ≤ 0 ∧ (0 : Int) ≤ 2147483647; decide), (by show (ap ≤ (u1.2.1 1)); omega), (by show (ap ≤ sz_ → (u1.2.1 1) ≤ sz_); first | exact hq1_8 | omega), (by show (0 = wv f9 sz_ ((u1.2.1 1))); exact (wv_fin (a := (u1.2.1 1)) hl14_8 (by omega) (by omega))), (by show (((u1.2.1 1)) = rnI pSp (nz f9) sz_ ap); exact hq1_9.1), hq1_10⟩, by rw [ht]; exact hP.sub [0, 1] rfl, hD.sub [0, 1] (by decide) rfl⟩, hS.F ht⟩) hS.2.2 dX12_word_78
      · refine lv_iload_n hx hb dX12_word_34 rfl (lv_at hlv 1 rfl) ?_
        refine lv_bipush (v := iI 6) hx hb dX12_word_35 (by decide) ?_
        refine ir_ge (tgt := 56) hx hb dX12_word_37 (by decide) (by first | exact rgw hl14_1 (by decide) (by decide) | omega) (by show ((-2147483648) : Int) ≤ 6 ∧ (6 : Int) ≤ 2147483647; decide) (fun c_6 => ?_) (fun c_6 => ?_)
        · refine lv_iconst (v := iI 0) hx hb dX12_word_56 (by decide) ?_
          refine lv_istore_n (lv' := [(1, vI 0), (3, vI qk), (2, vI qn), (0, vR mm)]) hx hb dX12_word_57 rfl hlv (by decide) rfl (fun ls hlv => ?_)
          obtain ⟨z_7, hz_7⟩ : ∃ z : Int, z = qn + 1 := ⟨_, rfl⟩
          refine lv_iinc (v := iI z_7) (lv' := [(2, vI z_7), (1, vI 0), (3, vI qk), (0, vR mm)]) hx hb dX12_word_58 hlv (k := 2) rfl (by rw [hz_7]; exact (Int32.ofInt_add _ _).symm) (by decide) rfl (fun ls hlv => ?_)
          obtain ⟨z_8, hz_8⟩ : ∃ z : Int, z = qk + 1 := ⟨_, rfl⟩
          refine lv_iinc (v := iI z_8) (lv' := [(3, vI z_8), (2, vI z_7), (1, vI 0), (0, vR mm)]) hx hb dX12_word_61 hlv (k := 2) rfl (by rw [hz_8]; exact (Int32.ofInt_add _ _).symm) (by decide) rfl (fun ls hlv => ?_)
          refine lv_goto (tgt := 14) hx hb dX12_word_64 (by decide) ?_
          exact ih14 0 z_7 z_8 H locs ls (by omega) (by show ((-2147483648) : Int) ≤ 0 ∧ (0 : Int) ≤ 2147483647; decide) (by omega) (by omega) (by omega) (by omega) (by omega) (by by_cases q9 : qk = (u1.2.1 1); (subst q9; omega); omega) (by omega) (wvG_step hl14_8 (by omega) (by omega) (by omega) (Or.inr ⟨by omega, rfl⟩) (by omega))  (hP.sub [0, 1] rfl) (hD.sub [0, 1] (by decide) rfl) hS (lv_sub hlv [0, 1, 2, 3] rfl)
        · refine lv_iload_n hx hb dX12_word_40 rfl (lv_at hlv 2 rfl) ?_
          refine lv_iconst (v := iI 5) hx hb dX12_word_41 (by decide) ?_
          refine lv_ishl hx hb dX12_word_42 ?_
          refine lt_z (fun z_9 ez_9 lz_9 hz_9 => ?_)
          refine lv_aload_n hx hb dX12_word_43 rfl (lv_at hlv 3 rfl) ?_
          refine va_get (D := D) (ci := 12) (v := vR m9) (C := RX12) (T := TX12) (N := 38) hx hb hts hi12 hown hG.1 hP 0 rfl rfl 9 (by decide) lf20 (fun _ h9 => h9) rfl dX12_word_44 ?_
          refine lv_iload_n hx hb dX12_word_47 rfl (lv_at hlv 0 rfl) ?_
          refine va_iald hx hb hG.1 hP 1 0 rfl rfl (iI_in (by omega) (by decide)) dX12_word_48 ?_
          refine lt_nz (i := qk) (by omega) (fun z_10 hz_10 lz_10 uz_10 => ?_)
          have hbz_10_9 := inv_nz hq1_10 (k := qk.toNat) (by omega)
          refine lv_bipush (v := iI 96) hx hb dX12_word_49 (by decide) ?_
          refine lv_isub hx hb dX12_word_51 ?_
          refine lt_e (e0 := z_10 - 96) (Int32.ofInt_sub _ _).symm (fun z_11 hz_11 => ?_)
          refine lv_ior hx hb dX12_word_52 ?_
          refine lt_z (fun z_12 ez_12 lz_12 hz_12 => ?_)
          refine lv_goto (tgt := 57) hx hb dX12_word_53 (by decide) ?_
          refine lv_istore_n (lv' := [(1, vI z_12), (3, vI qk), (2, vI qn), (0, vR mm)]) hx hb dX12_word_57 rfl hlv (by decide) rfl (fun ls hlv => ?_)
          obtain ⟨z_13, hz_13⟩ : ∃ z : Int, z = qn + 1 := ⟨_, rfl⟩
          refine lv_iinc (v := iI z_13) (lv' := [(2, vI z_13), (1, vI z_12), (3, vI qk), (0, vR mm)]) hx hb dX12_word_58 hlv (k := 2) rfl (by rw [hz_13]; exact (Int32.ofInt_add _ _).symm) (by decide) rfl (fun ls hlv => ?_)
          obtain ⟨z_14, hz_14⟩ : ∃ z : Int, z = qk + 1 := ⟨_, rfl⟩
          refine lv_iinc (v := iI z_14) (lv' := [(3, vI z_14), (2, vI z_13), (1, vI z_12), (0, vR mm)]) hx hb dX12_word_61 hlv (k := 2) rfl (by rw [hz_14]; exact (Int32.ofInt_add _ _).symm) (by decide) rfl (fun ls hlv => ?_)
          refine lv_goto (tgt := 14) hx hb dX12_word_64 (by decide) ?_
          exact ih14 z_12 z_13 z_14 H locs ls (by omega) (by omega) (by omega) (by omega) (by omega) (by omega) (by omega) (by by_cases q9 : qk = (u1.2.1 1); (subst q9; omega); omega) (by omega) (wvG_step hl14_8 (by omega) (by omega) (by omega) (Or.inl ⟨by omega, nx_eq ez_9 (by omega) ez_12 (by omega)⟩) (by omega))  (hP.sub [0, 1] rfl) (hD.sub [0, 1] (by decide) rfl) hS (lv_sub hlv [0, 1, 2, 3] rfl)
