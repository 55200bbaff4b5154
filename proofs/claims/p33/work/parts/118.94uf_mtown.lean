
def vs_x_town : List Cond := .code yX12_town cX12_town 6 (some .int) :: (([.fieldLink RX12 1 "KerbSplashModel" "thrown" "I", .fieldLink RX12 29 "KerbSplashModel" "s" "[I", .fieldLink RX12 74 "KerbSplashModel" "rest" "[I", .constant RX12 399 (iI 1000000)] : List Cond) ++ ((wsX120) ++ ((va_wsS RX12 279 yX12_within vs_m_within) ++ ((wsV RX12 175 RX12 yX12_may vs_x_may) ++ ((wsV RX12 400 RX12 yX12_doing vs_x_doing) ++ ([]))))))
set_option maxHeartbeats 4000000 in
set_option maxRecDepth 100000 in
theorem x_town (l : Launch) (hl : l.stackTraces = false) (D : va_G) (cy : Nat → ClassId) (sa : Nat → Nat) (mm m1 m9 m10 m11 m12 m13 m14 m15 m19 m20 m21 m23 m24 m25 m26 m27 m28 m33 m35 : Nat) (th tp sz_ ap bad bk opn fp im nr nl sp_ wtc wcl ir ip shu sfa swr : Int) (f1 f12 f35 : Nat → Int32) (n : Int) (sz : Nat) (hr_th : (-2147483648) ≤ th ∧ th ≤ 2147483647) (hr_tp : 0 ≤ tp ∧ tp ≤ 600) (hr_sz_ : 0 ≤ sz_ ∧ sz_ ≤ 600) (hr_ap : 0 ≤ ap ∧ ap ≤ 602) (hr_bad : (-1) ≤ bad ∧ bad ≤ 602) (hr_bk : 0 ≤ bk ∧ bk ≤ 4) (hr_opn : 0 ≤ opn ∧ opn ≤ 7) (hr_fp : (-2147483648) ≤ fp ∧ fp ≤ 2147483647) (hr_im : 0 ≤ im ∧ im ≤ 3) (hr_nr : 0 ≤ nr ∧ nr ≤ 4) (hr_nl : 0 ≤ nl ∧ nl ≤ 4) (hr_sp_ : 0 ≤ sp_ ∧ sp_ ≤ 602) (hr_wtc : (-2147483648) ≤ wtc ∧ wtc ≤ 2147483647) (hr_wcl : 0 ≤ wcl ∧ wcl ≤ 95) (hr_ir : 0 ≤ ir ∧ ir ≤ 5) (hr_ip : (-2147483648) ≤ ip ∧ ip ≤ 2147483647) (hr_shu : (-2147483648) ≤ shu ∧ shu ≤ 2147483647) (hr_sfa : (-2147483648) ≤ sfa ∧ sfa ≤ 2147483647) (hr_swr : (-2147483648) ≤ swr ∧ swr ≤ 2147483647) (hr_n : (-2147483648) ≤ n ∧ n ≤ 2147483647) (hn_dpm : DPR (DQ f12) (nz f12 357).toNat) (hf12 : SI 8 f12) : Met l yX12_town vs_x_town ({ frames := 2, cells := 0, slots := 0, locals := 46 }) (va_Pc [vR mm, vI n] (pcW D cy sa sz [zO mm 12 [vI th, vR m1, vI tp, vI sz_, vI ap, vI bad, vI bk, vI opn, vI fp, vR m9, vR m10, vR m11, vR m12, vR m13, vR m14, vR m15, vI im, vI nr, vI nl, vR m19, vR m20, vR m21, vI sp_, vR m23, vR m24, vR m25, vR m26, vR m27, vR m28, vI wtc, vI wcl, vI ir, vI ip, vR m33, vI shu, vR m35, vI sfa, vI swr], zI m1 (cy 0) 4 f1, zI m12 (cy 0) 389 f12, zI m35 (cy 0) 512 f35])) (va_Qi (fun (r : Int32) (u : SV) => r = iI (u.2.1 0) ∧ ((-2147483648) ≤ u.2.1 1 ∧ u.2.1 1 ≤ 2147483647) ∧ ((-2147483648) ≤ u.2.1 0 ∧ u.2.1 0 ≤ 2147483647) ∧ (0 ≤ n ∧ n ≤ 2 → u.2.1 1 = 0) ∧ (¬ (0 ≤ n ∧ n ≤ 2) → u.2.1 1 = 1) ∧ (0 ≤ n ∧ n ≤ 2 → (u.2.1 0) = TWV (DQ f12) (nz f12 357) n) ∧ SI 8 f12) (fun u t => atW D (va_A [zO mm 12 [vI th, vR m1, vI tp, vI sz_, vI ap, vI bad, vI bk, vI opn, vI fp, vR m9, vR m10, vR m11, vR m12, vR m13, vR m14, vR m15, vI im, vI nr, vI nl, vR m19, vR m20, vR m21, vI sp_, vR m23, vR m24, vR m25, vR m26, vR m27, vR m28, vI wtc, vI wcl, vI ir, vI ip, vR m33, vI shu, vR m35, vI sfa, vI swr], zI m1 (cy 0) 4 f1, zI m12 (cy 0) 389 f12, zI m35 (cy 0) 512 f35] sz) [zO mm 12 [vI (u.2.1 1), vR m1, vI tp, vI sz_, vI ap, vI bad, vI bk, vI opn, vI fp, vR m9, vR m10, vR m11, vR m12, vR m13, vR m14, vR m15, vI im, vI nr, vI nl, vR m19, vR m20, vR m21, vI sp_, vR m23, vR m24, vR m25, vR m26, vR m27, vR m28, vI wtc, vI wcl, vI ir, vI ip, vR m33, vI shu, vR m35, vI sfa, vI swr], zI m1 (cy 0) 4 (u.2.2 0), zI m12 (cy 0) 389 f12, zI m35 (cy 0) 512 (u.2.2 1)] t) (va_A [zO mm 12 [vI th, vR m1, vI tp, vI sz_, vI ap, vI bad, vI bk, vI opn, vI fp, vR m9, vR m10, vR m11, vR m12, vR m13, vR m14, vR m15, vI im, vI nr, vI nl, vR m19, vR m20, vR m21, vI sp_, vR m23, vR m24, vR m25, vR m26, vR m27, vR m28, vI wtc, vI wcl, vI ir, vI ip, vR m33, vI shu, vR m35, vI sfa, vI swr], zI m1 (cy 0) 4 f1, zI m12 (cy 0) 389 f12, zI m35 (cy 0) 512 f35] sz)) 0 0 (va_A [zO mm 12 [vI th, vR m1, vI tp, vI sz_, vI ap, vI bad, vI bk, vI opn, vI fp, vR m9, vR m10, vR m11, vR m12, vR m13, vR m14, vR m15, vI im, vI nr, vI nl, vR m19, vR m20, vR m21, vI sp_, vR m23, vR m24, vR m25, vR m26, vR m27, vR m28, vI wtc, vI wcl, vI ir, vI ip, vR m33, vI shu, vR m35, vI sfa, vI swr], zI m1 (cy 0) 4 f1, zI m12 (cy 0) 389 f12, zI m35 (cy 0) 512 f35] sz) := by
  refine Met.ofW (cc := cX12_town) (maxL := 6) (ret := (some .int)) (by decide) rfl ?_
  intro p e s m args below meth c s₁ B hml hv
  obtain ⟨rfl, hsz, hP, hG, hD0, hT⟩ := hv
  have hx := B.exec
  have hb := B.bytes
  have hr := B.returns
  have hts := atoms_spec (ws := vs_x_town) B.pre
  have hown : s.vm.findClass RX12 = some m.cls := findClass_of_methodNamed B.named
  have hlocks := B.notSynchronized
  subst hsz
  have hD := hD0.self (sz := s.heap.size)
  generalize hAe : va_A [zO mm 12 [vI th, vR m1, vI tp, vI sz_, vI ap, vI bad, vI bk, vI opn, vI fp, vR m9, vR m10, vR m11, vR m12, vR m13, vR m14, vR m15, vI im, vI nr, vI nl, vR m19, vR m20, vR m21, vI sp_, vR m23, vR m24, vR m25, vR m26, vR m27, vR m28, vI wtc, vI wcl, vI ir, vI ip, vR m33, vI shu, vR m35, vI sfa, vI swr], zI m1 (cy 0) 4 f1, zI m12 (cy 0) 389 f12, zI m35 (cy 0) 512 f35] s.heap.size = A at hD hT ⊢
  have hA : ∀ q : Nat, s.heap.size ≤ q → A q := fun q h => by rw [← hAe]; exact Or.inr h
  have hS : va_S A s.heap s.heap [] := va_S.rf
  have hl0 := lv_entry ([vR mm, vI n]) (n := 6) (Nat.le_of_ble_eq_true rfl)
  rw [lg_entry_eq]
  generalize (lg_sl ([vR mm, vI n]) ++ List.replicate (6 - (lg_sl ([vR mm, vI n])).length) Slot.unset).toArray = ls at hl0 ⊢
  have hlv : lv_has ls 6 [(0, vR mm), (1, vI n)] := hl0
  have lf1 := hts (.fieldLink RX12 1 "KerbSplashModel" "thrown" "I") (List.mem_of_getElem? (i := 1) rfl)
  have hi12 : ∀ w ∈ wsX120, w ∈ vs_x_town := fun w h => List.mem_cons_of_mem _ (List.mem_append_right _ (List.mem_append_left _ h))
  have gg_1 : GoodIn vs_x_town (va_wsS RX12 279 yX12_within vs_m_within) := goodIn_sub (fun w h => List.mem_cons_of_mem _ (List.mem_append_right _ (List.mem_append_right _ (List.mem_append_left _ h)))) (gd_S gd_m_within (by decide +kernel))
  have gg_2 : GoodIn vs_x_town (wsV RX12 175 RX12 yX12_may vs_x_may) := goodIn_sub (fun w h => List.mem_cons_of_mem _ (List.mem_append_right _ (List.mem_append_right _ (List.mem_append_right _ (List.mem_append_left _ h))))) (gd_V gd_x_may (by decide +kernel))
  have lf29 := hts (.fieldLink RX12 29 "KerbSplashModel" "s" "[I") (List.mem_of_getElem? (i := 2) rfl)
  have lf74 := hts (.fieldLink RX12 74 "KerbSplashModel" "rest" "[I") (List.mem_of_getElem? (i := 3) rfl)
  have gg_3 : GoodIn vs_x_town (wsV RX12 400 RX12 yX12_doing vs_x_doing) := goodIn_sub (fun w h => List.mem_cons_of_mem _ (List.mem_append_right _ (List.mem_append_right _ (List.mem_append_right _ (List.mem_append_right _ (List.mem_append_left _ h)))))) (gd_V gd_x_doing (by decide +kernel))
  have ld399 := hts (.constant RX12 399 (iI 1000000)) (List.mem_of_getElem? (i := 4) rfl)
  refine lv_aload_n hx hb dX12_town_0 rfl (lv_at hlv 0 rfl) ?_
  refine lv_iconst (v := iI 0) hx hb dX12_town_1 (by decide) ?_
  refine va_put (D := D) (ci := 12) (v := vI 0) (ty := .int) (C := RX12) (T := TX12) (N := 38) hx hb hts hi12 tyX12 tyX12_ok nmX12 hown hG.1 hP hD hS 0 rfl rfl 0 (by decide) lf1 (fun _ h9 => h9) rfl (by decide +kernel) rfl rfl (Nat.le_of_ble_eq_true rfl) dX12_town_2 (fun H locs hP hD hS => ?_)
  have hP : va_P D vwCl [zO mm 12 [vI 0, vR m1, vI tp, vI sz_, vI ap, vI bad, vI bk, vI opn, vI fp, vR m9, vR m10, vR m11, vR m12, vR m13, vR m14, vR m15, vI im, vI nr, vI nl, vR m19, vR m20, vR m21, vI sp_, vR m23, vR m24, vR m25, vR m26, vR m27, vR m28, vI wtc, vI wcl, vI ir, vI ip, vR m33, vI shu, vR m35, vI sfa, vI swr], zI m1 (cy 0) 4 f1, zI m12 (cy 0) 389 f12, zI m35 (cy 0) 512 f35] H := hP
  have hD : va_D A [zO mm 12 [vI 0, vR m1, vI tp, vI sz_, vI ap, vI bad, vI bk, vI opn, vI fp, vR m9, vR m10, vR m11, vR m12, vR m13, vR m14, vR m15, vI im, vI nr, vI nl, vR m19, vR m20, vR m21, vI sp_, vR m23, vR m24, vR m25, vR m26, vR m27, vR m28, vI wtc, vI wcl, vI ir, vI ip, vR m33, vI shu, vR m35, vI sfa, vI swr], zI m1 (cy 0) 4 f1, zI m12 (cy 0) 389 f12, zI m35 (cy 0) 512 f35] := hD
  refine lv_aload_n hx hb dX12_town_5 rfl (lv_at hlv 0 rfl) ?_
  refine lv_iload_n hx hb dX12_town_6 rfl (lv_at hlv 1 rfl) ?_
  refine lv_iconst (v := iI 0) hx hb dX12_town_7 (by decide) ?_
  refine lv_iconst (v := iI 2) hx hb dX12_town_8 (by decide) ?_
  refine cj_i (wr := [zO mm 12 [vI 0, vR m1, vI tp, vI sz_, vI ap, vI bad, vI bk, vI opn, vI fp, vR m9, vR m10, vR m11, vR m12, vR m13, vR m14, vR m15, vI im, vI nr, vI nl, vR m19, vR m20, vR m21, vI sp_, vR m23, vR m24, vR m25, vR m26, vR m27, vR m28, vI wtc, vI wcl, vI ir, vI ip, vR m33, vI shu, vR m35, vI sfa, vI swr], zI m1 (cy 0) 4 f1, zI m12 (cy 0) 389 f12, zI m35 (cy 0) 512 f35]) (va_runS (As := [vI n, vI 0, vI 2]) (rest := [vR mm]) ⟨hx, hb, hml, hown, hts⟩ (m_within l hl D cy sa n 0 2 H.size (by first | exact hr_n | omega) (by show ((-2147483648) : Int) ≤ 0 ∧ (0 : Int) ≤ 2147483647; decide) (by show ((-2147483648) : Int) ≤ 2 ∧ (2 : Int) ≤ 2147483647; decide)) (va_cwS 3 hts gg_1 rfl rfl rfl (by decide +kernel) ⟨Nat.le_of_ble_eq_true rfl, Nat.le_of_ble_eq_true rfl⟩) ⟨pcW.blind, (pcW.mk hP hD hS hA hG hT [] rfl (by decide))⟩ rfl rfl hlv.1 rfl (lv_room (Nat.le_of_ble_eq_true rfl)) dX12_town_9 ⟨Nat.le_of_ble_eq_true rfl, Nat.le_of_ble_eq_true rfl⟩) hP hD hS hA [] [0, 1, 2, 3] rfl rfl (by decide) (by decide) (fun r1 u1 H locs hw1 hP hD hS => ?_)
  obtain ⟨rfl, hq1_1, hq1_2, hq1_3⟩ := hw1
  have hP : va_P D vwCl [zO mm 12 [vI 0, vR m1, vI tp, vI sz_, vI ap, vI bad, vI bk, vI opn, vI fp, vR m9, vR m10, vR m11, vR m12, vR m13, vR m14, vR m15, vI im, vI nr, vI nl, vR m19, vR m20, vR m21, vI sp_, vR m23, vR m24, vR m25, vR m26, vR m27, vR m28, vI wtc, vI wcl, vI ir, vI ip, vR m33, vI shu, vR m35, vI sfa, vI swr], zI m1 (cy 0) 4 f1, zI m12 (cy 0) 389 f12, zI m35 (cy 0) 512 f35] H := hP
  have hD : va_D A [zO mm 12 [vI 0, vR m1, vI tp, vI sz_, vI ap, vI bad, vI bk, vI opn, vI fp, vR m9, vR m10, vR m11, vR m12, vR m13, vR m14, vR m15, vI im, vI nr, vI nl, vR m19, vR m20, vR m21, vI sp_, vR m23, vR m24, vR m25, vR m26, vR m27, vR m28, vI wtc, vI wcl, vI ir, vI ip, vR m33, vI shu, vR m35, vI sfa, vI swr], zI m1 (cy 0) 4 f1, zI m12 (cy 0) 389 f12, zI m35 (cy 0) 512 f35] := hD
  refine lv_iconst (v := iI 1) hx hb dX12_town_12 (by decide) ?_
  refine lv_iconst (v := iI 2) hx hb dX12_town_13 (by decide) ?_
  refine cj_i (wr := [zI m12 (cy 0) 389 f12, zI m35 (cy 0) 512 f35]) (va_runV (As := [vI (u1.2.1 0), vI 1, vI 2]) (rest := []) ⟨hx, hb, hml, hown, hts⟩ (x_may l hl D cy sa mm m1 m9 m10 m11 m12 m13 m14 m15 m19 m20 m21 m23 m24 m25 m26 m27 m28 m33 m35 0 tp sz_ ap bad bk opn fp im nr nl sp_ wtc wcl ir ip shu sfa swr f1 (u1.2.1 0) 1 2 H.size (by show ((-2147483648) : Int) ≤ 0 ∧ (0 : Int) ≤ 2147483647; decide) (by first | exact hr_tp | omega) (by first | exact hr_sz_ | omega) (by first | exact hr_ap | omega) (by first | exact hr_bad | omega) (by first | exact hr_bk | omega) (by first | exact hr_opn | omega) (by first | exact hr_fp | omega) (by first | exact hr_im | omega) (by first | exact hr_nr | omega) (by first | exact hr_nl | omega) (by first | exact hr_sp_ | omega) (by first | exact hr_wtc | omega) (by first | exact hr_wcl | omega) (by first | exact hr_ir | omega) (by first | exact hr_ip | omega) (by first | exact hr_shu | omega) (by first | exact hr_sfa | omega) (by first | exact hr_swr | omega) (by first | exact hq1_1 | omega) (by show (1 : Int) ≤ 1 ∧ (1 : Int) ≤ 4; decide) (by show (0 : Int) ≤ 2 ∧ (2 : Int) ≤ 3; decide)) (cwV 3 hts gg_2 rfl rfl rfl (by decide +kernel) ⟨Nat.le_of_ble_eq_true rfl, Nat.le_of_ble_eq_true rfl⟩) ⟨pcW.blind, (va_recv hG.1 hP (ci := 12) (q0 := 0) rfl rfl), (pcW.mk hP hD hS hA hG hT [0, 1] rfl (by decide))⟩ rfl rfl hlv.1 rfl (lv_room (Nat.le_of_ble_eq_true rfl)) dX12_town_14 ⟨Nat.le_of_ble_eq_true rfl, Nat.le_of_ble_eq_true rfl⟩) hP hD hS hA [0, 1] [2, 3] rfl rfl (by decide) (by decide) (fun r2 u2 H locs hw2 hP hD hS => ?_)
  obtain ⟨rfl, hq2_1, hq2_2, hq2_3, hq2_4, hq2_5⟩ := hw2
  have hP : va_P D vwCl [zI m12 (cy 0) 389 f12, zI m35 (cy 0) 512 f35, zO mm 12 [vI (u2.2.1 1), vR m1, vI tp, vI sz_, vI ap, vI bad, vI bk, vI opn, vI fp, vR m9, vR m10, vR m11, vR m12, vR m13, vR m14, vR m15, vI im, vI nr, vI nl, vR m19, vR m20, vR m21, vI sp_, vR m23, vR m24, vR m25, vR m26, vR m27, vR m28, vI wtc, vI wcl, vI ir, vI ip, vR m33, vI shu, vR m35, vI sfa, vI swr], zI m1 (cy 0) 4 (u2.2.2 0)] H := hP
  have hD : va_D A [zI m12 (cy 0) 389 f12, zI m35 (cy 0) 512 f35, zO mm 12 [vI (u2.2.1 1), vR m1, vI tp, vI sz_, vI ap, vI bad, vI bk, vI opn, vI fp, vR m9, vR m10, vR m11, vR m12, vR m13, vR m14, vR m15, vI im, vI nr, vI nl, vR m19, vR m20, vR m21, vI sp_, vR m23, vR m24, vR m25, vR m26, vR m27, vR m28, vI wtc, vI wcl, vI ir, vI ip, vR m33, vI shu, vR m35, vI sfa, vI swr], zI m1 (cy 0) 4 (u2.2.2 0)] := hD
  refine iz_ne (tgt := 22) hx hb dX12_town_17 (by decide) (by first | exact rgw hq2_2 (by decide) (by decide) | omega) (fun c_1 => ?_) (fun c_1 => ?_)
  · have hND := hf12.2.2.2.2.2.1
    refine lv_aload_n hx hb dX12_town_22 rfl (lv_at hlv 0 rfl) ?_
    refine va_get (D := D) (ci := 12) (v := vR m12) (C := RX12) (T := TX12) (N := 38) hx hb hts hi12 hown hG.1 hP 2 rfl rfl 12 (by decide) lf29 (fun _ h9 => h9) rfl dX12_town_23 ?_
    refine lv_sipush (v := iI 357) hx hb dX12_town_26 (by decide) ?_
    refine va_iald hx hb hG.1 hP 0 0 rfl rfl (iI_in (by omega) (by decide)) dX12_town_29 ?_
    refine lt_nz (i := 357) (by omega) (fun z_2 hz_2 lz_2 uz_2 => ?_)
    have hz_2 : z_2 = nz f12 357 := hz_2
    have hbz_2_7 := hf12.2.2.2.2.2.1
    refine iz_ne (tgt := 35) hx hb dX12_town_30 (by decide) (by omega) (fun c_3 => ?_) (fun c_3 => ?_)
    · refine lv_iconst (v := iI 1) hx hb dX12_town_35 (by decide) ?_
      refine lv_aload_n hx hb dX12_town_36 rfl (lv_at hlv 0 rfl) ?_
      refine va_get (D := D) (ci := 12) (v := vR m12) (C := RX12) (T := TX12) (N := 38) hx hb hts hi12 hown hG.1 hP 2 rfl rfl 12 (by decide) lf29 (fun _ h9 => h9) rfl dX12_town_37 ?_
      refine lv_sipush (v := iI 357) hx hb dX12_town_40 (by decide) ?_
      refine va_iald hx hb hG.1 hP 0 0 rfl rfl (iI_in (by omega) (by decide)) dX12_town_43 ?_
      refine lt_nz (i := 357) (by omega) (fun z_4 hz_4 lz_4 uz_4 => ?_)
      have hz_4 : z_4 = nz f12 357 := hz_4
      have hbz_4_7 := hf12.2.2.2.2.2.1
      refine lv_ishl hx hb dX12_town_44 ?_
      refine lt_sh2 (n := 9) (M := 512) (by decide) (by decide) (by omega) (fun z_5 ez_5 lz_5 hz_5 => ?_)
      have hzz : z_5 = ((2 ^ (nz f12 357).toNat : Nat) : Int) := by have q9 := so_p (N := z_4) (zz := z_5) (by omega) ez_5 (by omega); rw [show nz f12 357 = z_4 by omega]; exact q9
      refine lv_iconst (v := iI 1) hx hb dX12_town_45 (by decide) ?_
      refine lv_isub hx hb dX12_town_46 ?_
      refine lt_e (e0 := z_5 - 1) (Int32.ofInt_sub _ _).symm (fun z_6 hz_6 => ?_)
      refine lv_istore_n (lv' := [(2, vI z_6), (0, vR mm), (1, vI n)]) hx hb dX12_town_47 rfl hlv (by decide) rfl (fun ls hlv => ?_)
      refine lv_aload_n hx hb dX12_town_48 rfl (lv_at hlv 1 rfl) ?_
      refine va_get (D := D) (ci := 12) (v := vR m35) (C := RX12) (T := TX12) (N := 38) hx hb hts hi12 hown hG.1 hP 2 rfl rfl 35 (by decide) lf74 (fun _ h9 => h9) rfl dX12_town_49 ?_
      refine lv_iload_n hx hb dX12_town_52 rfl (lv_at hlv 0 rfl) ?_
      refine lv_iconst (v := iI 0) hx hb dX12_town_53 (by decide) ?_
      refine va_iast hx hb hG.1 hP hD hS 1 0 rfl rfl (iI_in (by omega) (by decide)) dX12_town_54 (fun H locs hP hD hS => ?_)
      have ⟨f_7, hdf_7, hP, hD⟩ : ∃ f_7 : Nat → Int32, f_7 = upd f35 (iI z_6).toNatClampNeg (iI 0) ∧ va_P D vwCl [zI m12 (cy 0) 389 f12, zI m35 (cy 0) 512 f_7, zO mm 12 [vI (u2.2.1 1), vR m1, vI tp, vI sz_, vI ap, vI bad, vI bk, vI opn, vI fp, vR m9, vR m10, vR m11, vR m12, vR m13, vR m14, vR m15, vI im, vI nr, vI nl, vR m19, vR m20, vR m21, vI sp_, vR m23, vR m24, vR m25, vR m26, vR m27, vR m28, vI wtc, vI wcl, vI ir, vI ip, vR m33, vI shu, vR m35, vI sfa, vI swr], zI m1 (cy 0) 4 (u2.2.2 0)] H ∧ va_D A [zI m12 (cy 0) 389 f12, zI m35 (cy 0) 512 f_7, zO mm 12 [vI (u2.2.1 1), vR m1, vI tp, vI sz_, vI ap, vI bad, vI bk, vI opn, vI fp, vR m9, vR m10, vR m11, vR m12, vR m13, vR m14, vR m15, vI im, vI nr, vI nl, vR m19, vR m20, vR m21, vI sp_, vR m23, vR m24, vR m25, vR m26, vR m27, vR m28, vI wtc, vI wcl, vI ir, vI ip, vR m33, vI shu, vR m35, vI sfa, vI swr], zI m1 (cy 0) 4 (u2.2.2 0)] := ⟨_, rfl, hP, hD⟩
      refine lv_iload_n hx hb dX12_town_55 rfl (lv_at hlv 0 rfl) ?_
      refine lv_iconst (v := iI 1) hx hb dX12_town_56 (by decide) ?_
      refine lv_isub hx hb dX12_town_57 ?_
      refine lt_e (e0 := z_6 - 1) (Int32.ofInt_sub _ _).symm (fun z_8 hz_8 => ?_)
      refine lv_istore_n (lv' := [(3, vI z_8), (2, vI z_6), (0, vR mm), (1, vI n)]) hx hb dX12_town_58 rfl hlv (by decide) rfl (fun ls hlv => ?_)
      refine (?_ : ∀ (fu : Nat) (q3 : Int) (rg : Nat → Int32) (H : Heap) (locs : List Loc) (ls : Array Slot), q3 + 1 < (fu : Int) → ((-1) ≤ q3 ∧ q3 ≤ 510) → (q3 + 2 ≤ z_5) → (TBS (Yc (DQ f12) (nz f12 357).toNat) (nz f12 357).toNat q3 rg) → va_P D vwCl [zI m12 (cy 0) 389 f12, zI m35 (cy 0) 512 rg, zO mm 12 [vI (u2.2.1 1), vR m1, vI tp, vI sz_, vI ap, vI bad, vI bk, vI opn, vI fp, vR m9, vR m10, vR m11, vR m12, vR m13, vR m14, vR m15, vI im, vI nr, vI nl, vR m19, vR m20, vR m21, vI sp_, vR m23, vR m24, vR m25, vR m26, vR m27, vR m28, vI wtc, vI wcl, vI ir, vI ip, vR m33, vI shu, vR m35, vI sfa, vI swr], zI m1 (cy 0) 4 (u2.2.2 0)] H → va_D A [zI m12 (cy 0) 389 f12, zI m35 (cy 0) 512 rg, zO mm 12 [vI (u2.2.1 1), vR m1, vI tp, vI sz_, vI ap, vI bad, vI bk, vI opn, vI fp, vR m9, vR m10, vR m11, vR m12, vR m13, vR m14, vR m15, vI im, vI nr, vI nl, vR m19, vR m20, vR m21, vI sp_, vR m23, vR m24, vR m25, vR m26, vR m27, vR m28, vI wtc, vI wcl, vI ir, vI ip, vR m33, vI shu, vR m35, vI sfa, vI swr], zI m1 (cy 0) 4 (u2.2.2 0)] → va_S A s.heap H locs → lv_has ls 6 [(3, vI q3), (2, vI z_6), (0, vR mm), (1, vI n)] → W p l e _ s m _ below meth c H locs _ _ _ (F0 m 59 ls [])) (((z_8 + 1) + 1 : Int)).toNat z_8 f_7 _ _ _ (by omega) (by omega) (by omega) (TBS_0 hdf_7 (by omega) (by omega) (by omega))  hP hD hS hlv
      clear hP hD hS hlv
      intro fu
      induction fu with
      | zero => intro q3 rg H locs ls hm59 hl59_0 hl59_1 hl59_2  hP hD hS hlv; omega
      | succ fu ih59 =>
        intro q3 rg H locs ls hm59 hl59_0 hl59_1 hl59_2  hP hD hS hlv
        refine lv_iload_n hx hb dX12_town_59 rfl (lv_at hlv 0 rfl) ?_
        refine iz_lt (tgt := 149) hx hb dX12_town_60 (by decide) (by first | exact rgw hl59_0 (by decide) (by decide) | omega) (fun c_9 => ?_) (fun c_9 => ?_)
        · have hTA : TBS (Yc (DQ f12) (nz f12 357).toNat) (nz f12 357).toNat (-1) rg := by have q9 : q3 = -1 := (by omega); rw [← q9]; exact hl59_2
          refine lv_iload_n hx hb dX12_town_149 rfl (lv_at hlv 3 rfl) ?_
          refine lv_iconst (v := iI 2) hx hb dX12_town_150 (by decide) ?_
          refine ir_ge (tgt := 182) hx hb dX12_town_151 (by decide) (by first | exact hr_n | omega) (by show ((-2147483648) : Int) ≤ 2 ∧ (2 : Int) ≤ 2147483647; decide) (fun c_10 => ?_) (fun c_10 => ?_)
          · refine lv_iconst (v := iI 0) hx hb dX12_town_182 (by decide) ?_
            refine lv_istore_n (lv' := [(3, vI 0), (2, vI z_6), (0, vR mm), (1, vI n)]) hx hb dX12_town_183 rfl hlv (by decide) rfl (fun ls hlv => ?_)
            refine lv_iconst (v := iI 0) hx hb dX12_town_184 (by decide) ?_
            refine lv_istore (lv' := [(4, vI 0), (3, vI 0), (2, vI z_6), (0, vR mm), (1, vI n)]) hx hb dX12_town_185 hlv (by decide) rfl (fun ls hlv => ?_)
            refine (?_ : ∀ (fu : Nat) (r3 : Int) (r4 : Int) (H : Heap) (locs : List Loc) (ls : Array Slot), 511 - r4 < (fu : Int) → ((-2147483648) ≤ r3 ∧ r3 ≤ 2147483647) → (0 ≤ r4 ∧ r4 ≤ 511) → (r4 + 1 ≤ z_5) → (PTs (Yc (DQ f12) (nz f12 357).toNat) (nz f12 357).toNat r4 r3) → va_P D vwCl [zI m12 (cy 0) 389 f12, zI m35 (cy 0) 512 rg, zO mm 12 [vI (u2.2.1 1), vR m1, vI tp, vI sz_, vI ap, vI bad, vI bk, vI opn, vI fp, vR m9, vR m10, vR m11, vR m12, vR m13, vR m14, vR m15, vI im, vI nr, vI nl, vR m19, vR m20, vR m21, vI sp_, vR m23, vR m24, vR m25, vR m26, vR m27, vR m28, vI wtc, vI wcl, vI ir, vI ip, vR m33, vI shu, vR m35, vI sfa, vI swr], zI m1 (cy 0) 4 (u2.2.2 0)] H → va_D A [zI m12 (cy 0) 389 f12, zI m35 (cy 0) 512 rg, zO mm 12 [vI (u2.2.1 1), vR m1, vI tp, vI sz_, vI ap, vI bad, vI bk, vI opn, vI fp, vR m9, vR m10, vR m11, vR m12, vR m13, vR m14, vR m15, vI im, vI nr, vI nl, vR m19, vR m20, vR m21, vI sp_, vR m23, vR m24, vR m25, vR m26, vR m27, vR m28, vI wtc, vI wcl, vI ir, vI ip, vR m33, vI shu, vR m35, vI sfa, vI swr], zI m1 (cy 0) 4 (u2.2.2 0)] → va_S A s.heap H locs → lv_has ls 6 [(4, vI r4), (3, vI r3), (2, vI z_6), (0, vR mm), (1, vI n)] → W p l e _ s m _ below meth c H locs _ _ _ (F0 m 187 ls [])) (((511 - 0) + 1 : Int)).toNat 0 0 _ _ _ (by omega) (by show ((-2147483648) : Int) ≤ 0 ∧ (0 : Int) ≤ 2147483647; decide) (by show (0 : Int) ≤ 0 ∧ (0 : Int) ≤ 511; decide) (by omega) PTs_0  hP hD hS hlv
            clear hP hD hS hlv
            intro fu
            induction fu with
            | zero => intro r3 r4 H locs ls hm187 hl187_0 hl187_1 hl187_2 hl187_3  hP hD hS hlv; omega
            | succ fu ih187 =>
              intro r3 r4 H locs ls hm187 hl187_0 hl187_1 hl187_2 hl187_3  hP hD hS hlv
              refine lv_iload hx hb dX12_town_187 (lv_at hlv 0 rfl) ?_
              refine lv_iload_n hx hb dX12_town_189 rfl (lv_at hlv 2 rfl) ?_
              refine ir_eq (tgt := 251) hx hb dX12_town_190 (by decide) (by first | exact rgw hl187_1 (by decide) (by decide) | omega) (by omega) (fun c_11 => ?_) (fun c_11 => ?_)
              · refine lv_iload_n hx hb dX12_town_251 rfl (lv_at hlv 1 rfl) ?_
                refine W.widen (k := 0) (n := 0) (Nat.le_of_ble_eq_true rfl) (Nat.le_of_ble_eq_true rfl) ?_
                exact W.iret (v := iI r3) hx hb hr (fun t ht hW => ⟨⟨iI r3, ((fun k => ([] : List Nat).getD k 0), (fun k => ([r3, (u2.2.1 1)] : List Int).getD k 0), (fun k => ([(u2.2.2 0), rg] : List (Nat → Int32)).getD k (fun _ => 0))), rfl, ⟨rfl, (by show ((-2147483648) ≤ (u2.2.1 1) ∧ (u2.2.1 1) ≤ 2147483647); first | exact hq2_1 | omega), (by show ((-2147483648) ≤ r3 ∧ r3 ≤ 2147483647); first | exact hl187_0 | omega), (by show (0 ≤ n ∧ n ≤ 2 → (u2.2.1 1) = 0); omega), (by show (¬ (0 ≤ n ∧ n ≤ 2) → (u2.2.1 1) = 1); omega), (by show (0 ≤ n ∧ n ≤ 2 → (r3) = TWV (DQ f12) (nz f12 357) n); exact (fun h9 => TWV_3 (by omega) (by omega) (PTs.all hl187_3 (by omega) (by omega)))), hf12⟩, by rw [ht]; exact hP.sub [2, 3, 0, 1] rfl, hD.sub [2, 3, 0, 1] (by decide) rfl⟩, hS.F ht⟩) hS.2.2 dX12_town_252
              · have hpb2 := PTs.b hl187_3 (by omega) (by omega)
                obtain ⟨nx, hnx⟩ : ∃ nx : Int, nx = (bnN (Yc (DQ f12) (nz f12 357).toNat) (nz rg) r4 (nz f12 357).toNat).1 := ⟨_, rfl⟩
                have hbi := bn_in (Y := (Yc (DQ f12) (nz f12 357).toNat)) (B := nz rg) (m := r4) (n := (nz f12 357).toNat) (by omega) (by omega) (by omega)
                have hrw := TBS.w hTA (by omega) (m := r4) (by omega) (by omega)
                rw [hbi.2.2.2, ← hnx] at hrw
                rw [← hnx] at hbi
                have hbi1 : 0 ≤ nx := hbi.1
                have hbi2 : nx < ((nz f12 357).toNat : Int) := hbi.2.1
                have hbi3 : ¬ bt r4 nx = iI 1 := hbi.2.2.1
                clear hbi
                refine lv_iconst (v := iI 0) hx hb dX12_town_193 (by decide) ?_
                refine lv_istore (lv' := [(5, vI 0), (4, vI r4), (3, vI r3), (2, vI z_6), (0, vR mm), (1, vI n)]) hx hb dX12_town_194 hlv (by decide) rfl (fun ls hlv => ?_)
                refine (?_ : ∀ (fu : Nat) (r5 : Int) (H : Heap) (locs : List Loc) (ls : Array Slot), 9 - r5 < (fu : Int) → (0 ≤ r5 ∧ r5 ≤ 9) → (r5 ≤ nx) → va_P D vwCl [zI m12 (cy 0) 389 f12, zI m35 (cy 0) 512 rg, zO mm 12 [vI (u2.2.1 1), vR m1, vI tp, vI sz_, vI ap, vI bad, vI bk, vI opn, vI fp, vR m9, vR m10, vR m11, vR m12, vR m13, vR m14, vR m15, vI im, vI nr, vI nl, vR m19, vR m20, vR m21, vI sp_, vR m23, vR m24, vR m25, vR m26, vR m27, vR m28, vI wtc, vI wcl, vI ir, vI ip, vR m33, vI shu, vR m35, vI sfa, vI swr], zI m1 (cy 0) 4 (u2.2.2 0)] H → va_D A [zI m12 (cy 0) 389 f12, zI m35 (cy 0) 512 rg, zO mm 12 [vI (u2.2.1 1), vR m1, vI tp, vI sz_, vI ap, vI bad, vI bk, vI opn, vI fp, vR m9, vR m10, vR m11, vR m12, vR m13, vR m14, vR m15, vI im, vI nr, vI nl, vR m19, vR m20, vR m21, vI sp_, vR m23, vR m24, vR m25, vR m26, vR m27, vR m28, vI wtc, vI wcl, vI ir, vI ip, vR m33, vI shu, vR m35, vI sfa, vI swr], zI m1 (cy 0) 4 (u2.2.2 0)] → va_S A s.heap H locs → lv_has ls 6 [(5, vI r5), (4, vI r4), (3, vI r3), (2, vI z_6), (0, vR mm), (1, vI n)] → W p l e _ s m _ below meth c H locs _ _ _ (F0 m 196 ls [])) (((9 - 0) + 1 : Int)).toNat 0 _ _ _ (by omega) (by show (0 : Int) ≤ 0 ∧ (0 : Int) ≤ 9; decide) (by omega)  hP hD hS hlv
                clear hP hD hS hlv
                intro fu
                induction fu with
                | zero => intro r5 H locs ls hm196 hl196_0 hl196_1  hP hD hS hlv; omega
                | succ fu ih196 =>
                  intro r5 H locs ls hm196 hl196_0 hl196_1  hP hD hS hlv
                  refine lv_iload hx hb dX12_town_196 (lv_at hlv 1 rfl) ?_
                  refine lv_iload hx hb dX12_town_198 (lv_at hlv 0 rfl) ?_
                  refine lv_ishr hx hb dX12_town_200 ?_
                  refine lt_z (fun z_12 ez_12 lz_12 hz_12 => ?_)
                  refine lv_iconst (v := iI 1) hx hb dX12_town_201 (by decide) ?_
                  refine lv_iand hx hb dX12_town_202 ?_
                  refine lt_aE 1 (by decide) (by decide) (hi := 1) (by decide) (fun z_13 ez_13 lz_13 hz_13 => ?_)
                  refine lv_iconst (v := iI 1) hx hb dX12_town_203 (by decide) ?_
                  refine ir_eq (tgt := 225) hx hb dX12_town_204 (by decide) (by omega) (by show ((-2147483648) : Int) ≤ 1 ∧ (1 : Int) ≤ 2147483647; decide) (fun c_14 => ?_) (fun c_14 => ?_)
                  · obtain ⟨z_15, hz_15⟩ : ∃ z : Int, z = r5 + 1 := ⟨_, rfl⟩
                    refine lv_iinc (v := iI z_15) (lv' := [(5, vI z_15), (4, vI r4), (3, vI r3), (2, vI z_6), (0, vR mm), (1, vI n)]) hx hb dX12_town_225 hlv (k := 0) rfl (by rw [hz_15]; exact (Int32.ofInt_add _ _).symm) (by decide) rfl (fun ls hlv => ?_)
                    refine lv_goto (tgt := 196) hx hb dX12_town_228 (by decide) ?_
                    exact ih196 z_15 H locs ls (by omega) (by omega) (by have q9 : r5 ≠ nx := (fun h9 => hbi3 (by rw [← h9, bt_e ez_12 ez_13]; rw [show z_13 = 1 by omega])); omega)  (hP.sub [0, 1, 2, 3] rfl) (hD.sub [0, 1, 2, 3] (by decide) rfl) hS (lv_sub hlv [0, 1, 2, 3, 4, 5] rfl)
                  · refine lv_aload_n hx hb dX12_town_207 rfl (lv_at hlv 4 rfl) ?_
                    refine lv_iload hx hb dX12_town_208 (lv_at hlv 1 rfl) ?_
                    refine lv_iload hx hb dX12_town_210 (lv_at hlv 0 rfl) ?_
                    refine cj_i (wr := [zI m1 (cy 0) 4 (u2.2.2 0)]) (va_runV (As := [vI r4, vI r5]) (rest := []) ⟨hx, hb, hml, hown, hts⟩ (x_doing l hl D cy sa mm m1 m9 m10 m11 m12 m13 m14 m15 m19 m20 m21 m23 m24 m25 m26 m27 m28 m33 m35 (u2.2.1 1) tp sz_ ap bad bk opn fp im nr nl sp_ wtc wcl ir ip shu sfa swr f12 rg r4 r5 H.size (by first | exact hq2_1 | omega) (by first | exact hr_tp | omega) (by first | exact hr_sz_ | omega) (by first | exact hr_ap | omega) (by first | exact hr_bad | omega) (by first | exact hr_bk | omega) (by first | exact hr_opn | omega) (by first | exact hr_fp | omega) (by first | exact hr_im | omega) (by first | exact hr_nr | omega) (by first | exact hr_nl | omega) (by first | exact hr_sp_ | omega) (by first | exact hr_wtc | omega) (by first | exact hr_wcl | omega) (by first | exact hr_ir | omega) (by first | exact hr_ip | omega) (by first | exact hr_shu | omega) (by first | exact hr_sfa | omega) (by first | exact hr_swr | omega) (by first | exact hl187_1 | omega) (by omega) (by omega) (by omega) hn_dpm (TBS.b hTA hn_dpm (by omega) (by omega) (by omega)) (nb_e ez_12 ez_13 (by omega)) hf12) (cwV 2 hts gg_3 rfl rfl rfl (by decide +kernel) ⟨Nat.le_of_ble_eq_true rfl, Nat.le_of_ble_eq_true rfl⟩) ⟨pcW.blind, (va_recv hG.1 hP (ci := 12) (q0 := 2) rfl rfl), (pcW.mk hP hD hS hA hG hT [2, 0, 1] rfl (by decide))⟩ rfl rfl hlv.1 rfl (lv_room (Nat.le_of_ble_eq_true rfl)) dX12_town_212 ⟨Nat.le_of_ble_eq_true rfl, Nat.le_of_ble_eq_true rfl⟩) hP hD hS hA [2, 0, 1] [3] rfl rfl (by decide) (by decide) (fun r3 u3 H locs hw3 hP hD hS => ?_)
                    obtain ⟨rfl, hq3_1, hq3_2, hq3_3⟩ := hw3
                    have hP : va_P D vwCl [zI m1 (cy 0) 4 (u2.2.2 0), zO mm 12 [vI (u2.2.1 1), vR m1, vI tp, vI sz_, vI ap, vI bad, vI bk, vI opn, vI fp, vR m9, vR m10, vR m11, vR m12, vR m13, vR m14, vR m15, vI im, vI nr, vI nl, vR m19, vR m20, vR m21, vI sp_, vR m23, vR m24, vR m25, vR m26, vR m27, vR m28, vI wtc, vI wcl, vI ir, vI ip, vR m33, vI shu, vR m35, vI sfa, vI swr], zI m12 (cy 0) 389 f12, zI m35 (cy 0) 512 rg] H := hP
                    have hD : va_D A [zI m1 (cy 0) 4 (u2.2.2 0), zO mm 12 [vI (u2.2.1 1), vR m1, vI tp, vI sz_, vI ap, vI bad, vI bk, vI opn, vI fp, vR m9, vR m10, vR m11, vR m12, vR m13, vR m14, vR m15, vI im, vI nr, vI nl, vR m19, vR m20, vR m21, vI sp_, vR m23, vR m24, vR m25, vR m26, vR m27, vR m28, vI wtc, vI wcl, vI ir, vI ip, vR m33, vI shu, vR m35, vI sfa, vI swr], zI m12 (cy 0) 389 f12, zI m35 (cy 0) 512 rg] := hD
                    refine lv_aload_n hx hb dX12_town_215 rfl (lv_at hlv 4 rfl) ?_
                    refine va_get (D := D) (ci := 12) (v := vR m35) (C := RX12) (T := TX12) (N := 38) hx hb hts hi12 hown hG.1 hP 1 rfl rfl 35 (by decide) lf74 (fun _ h9 => h9) rfl dX12_town_216 ?_
                    refine lv_iload hx hb dX12_town_219 (lv_at hlv 1 rfl) ?_
                    refine va_iald hx hb hG.1 hP 3 0 rfl rfl (iI_in (by omega) (by decide)) dX12_town_221 ?_
                    refine lt_nz (i := r4) (by omega) (fun z_16 hz_16 lz_16 uz_16 => ?_)
                    refine ir_eq (tgt := 231) hx hb dX12_town_222 (by decide) (by first | exact rgw hq3_1 (by decide) (by decide) | omega) (by omega) (fun c_17 => ?_) (fun c_17 => ?_)
                    · have hfx : r5 = nx := bn_first (Y := (Yc (DQ f12) (nz f12 357).toNat)) (B := nz rg) (m := r4) (n := (nz f12 357).toNat) hnx hbi1 ⟨by omega, by omega⟩ (nb_e ez_12 ez_13 (by omega)) (by rw [← hq3_2, ← TBS.w hTA (by omega) (m := r4) (by omega) (by omega)]; omega)
                      refine lv_bipush (v := iI 10) hx hb dX12_town_231 (by decide) ?_
                      refine lv_iload_n hx hb dX12_town_233 rfl (lv_at hlv 2 rfl) ?_
                      refine lv_imul hx hb dX12_town_234 ?_
                      refine lt_e (e0 := 10 * r3) (Int32.ofInt_mul _ _).symm (fun z_18 hz_18 => ?_)
                      refine lv_iload hx hb dX12_town_235 (lv_at hlv 0 rfl) ?_
                      refine lv_iadd hx hb dX12_town_237 ?_
                      refine lt_e (e0 := z_18 + r5) (Int32.ofInt_add _ _).symm (fun z_19 hz_19 => ?_)
                      refine lv_istore_n (lv' := [(3, vI z_19), (5, vI r5), (4, vI r4), (2, vI z_6), (0, vR mm), (1, vI n)]) hx hb dX12_town_238 rfl hlv (by decide) rfl (fun ls hlv => ?_)
                      refine lv_iload hx hb dX12_town_239 (lv_at hlv 2 rfl) ?_
                      refine lv_iconst (v := iI 1) hx hb dX12_town_241 (by decide) ?_
                      refine lv_iload hx hb dX12_town_242 (lv_at hlv 1 rfl) ?_
                      refine lv_ishl hx hb dX12_town_244 ?_
                      refine lt_sh2 (n := 9) (M := 512) (by decide) (by decide) (by omega) (fun z_20 ez_20 lz_20 hz_20 => ?_)
                      refine lv_ior hx hb dX12_town_245 ?_
                      obtain ⟨z_21, ez_21, wz_21, hz_21⟩ := so_ex (a := r4) (k := r5) (by omega) (by omega) ez_20
                      refine lt_i (y := iI z_21) ez_21 ?_
                      have hso := so_b (a := r4) (k := r5) (n := (nz f12 357).toNat) (by omega) (by omega) (by omega) (by omega) (nb_e ez_12 ez_13 (by omega))
                      rw [← wz_21] at hso
                      refine lv_istore (lv' := [(4, vI z_21), (3, vI z_19), (5, vI r5), (2, vI z_6), (0, vR mm), (1, vI n)]) hx hb dX12_town_246 hlv (by decide) rfl (fun ls hlv => ?_)
                      refine lv_goto (tgt := 187) hx hb dX12_town_248 (by decide) ?_
                      exact ih187 z_19 z_21 H locs ls (by omega) (by omega) (by omega) (by omega) (PTs.s hl187_3 hTA (by omega) (by omega) (by rw [hfx]; exact hnx) wz_21 (by omega))  (hP.sub [2, 3, 1, 0] rfl) (hD.sub [2, 3, 1, 0] (by decide) rfl) hS (lv_sub hlv [0, 1, 3, 4, 5] rfl)
                    · obtain ⟨z_22, hz_22⟩ : ∃ z : Int, z = r5 + 1 := ⟨_, rfl⟩
                      refine lv_iinc (v := iI z_22) (lv' := [(5, vI z_22), (4, vI r4), (3, vI r3), (2, vI z_6), (0, vR mm), (1, vI n)]) hx hb dX12_town_225 hlv (k := 0) rfl (by rw [hz_22]; exact (Int32.ofInt_add _ _).symm) (by decide) rfl (fun ls hlv => ?_)
                      refine lv_goto (tgt := 196) hx hb dX12_town_228 (by decide) ?_
                      exact ih196 z_22 H locs ls (by omega) (by omega) (by have q9 : r5 ≠ nx := (fun h9 => by have q8 := hq3_2; rw [h9, ← hrw] at q8; omega); omega)  (hP.sub [2, 3, 1, 0] rfl) (hD.sub [2, 3, 1, 0] (by decide) rfl) hS (lv_sub hlv [0, 1, 2, 3, 4, 5] rfl)
          · refine lv_iload_n hx hb dX12_town_154 rfl (lv_at hlv 3 rfl) ?_
            refine iz_ne (tgt := 171) hx hb dX12_town_155 (by decide) (by first | exact hr_n | omega) (fun c_23 => ?_) (fun c_23 => ?_)
            · refine lv_aload_n hx hb dX12_town_171 rfl (lv_at hlv 2 rfl) ?_
              refine va_get (D := D) (ci := 12) (v := vR m35) (C := RX12) (T := TX12) (N := 38) hx hb hts hi12 hown hG.1 hP 2 rfl rfl 35 (by decide) lf74 (fun _ h9 => h9) rfl dX12_town_172 ?_
              refine lv_iconst (v := iI 0) hx hb dX12_town_175 (by decide) ?_
              refine va_iald hx hb hG.1 hP 1 0 rfl rfl (iI_in (by omega) (by decide)) dX12_town_176 ?_
              refine lt_nz (i := 0) (by omega) (fun z_24 hz_24 lz_24 uz_24 => ?_)
              have hz_24 : z_24 = nz rg 0 := hz_24
              have hTz_24 : z_24 = TB (Yc (DQ f12) (nz f12 357).toNat) (nz f12 357).toNat 0 := hz_24.trans (TBS.all hTA (j := 0) (Nat.pow_pos (by decide)))
              have hTbz_24 : 0 ≤ z_24 ∧ z_24 ≤ 9240570 := by have q9 := TBS.b hTA hn_dpm (by omega) (m := -1) (by decide) (by decide) 0 (by decide) (by omega); omega
              refine lv_ldcw (v := iI 1000000) hx hb hown ld399 dX12_town_177 ?_
              refine lv_irem hx hb dX12_town_180 (fun q => absurd ((iI_eq (a := 1000000) (b := 0) (by omega) (by omega)).mp q) (by omega)) ?_
              refine lt_z (fun z_25 ez_25 lz_25 hz_25 => ?_)
              refine W.widen (k := 0) (n := 0) (Nat.le_of_ble_eq_true rfl) (Nat.le_of_ble_eq_true rfl) ?_
              exact W.iret (v := iI z_25) hx hb hr (fun t ht hW => ⟨⟨iI z_25, ((fun k => ([] : List Nat).getD k 0), (fun k => ([z_25, (u2.2.1 1)] : List Int).getD k 0), (fun k => ([(u2.2.2 0), rg] : List (Nat → Int32)).getD k (fun _ => 0))), rfl, ⟨rfl, (by show ((-2147483648) ≤ (u2.2.1 1) ∧ (u2.2.1 1) ≤ 2147483647); first | exact hq2_1 | omega), (by show ((-2147483648) ≤ z_25 ∧ z_25 ≤ 2147483647); omega), (by show (0 ≤ n ∧ n ≤ 2 → (u2.2.1 1) = 0); omega), (by show (¬ (0 ≤ n ∧ n ≤ 2) → (u2.2.1 1) = 1); omega), (by show (0 ≤ n ∧ n ≤ 2 → (z_25) = TWV (DQ f12) (nz f12 357) n); exact (fun h9 => by first | exact TWV_1 (by omega) (by omega) (hz_25.trans (by rw [hTz_24])) | exact TWV_2 (by omega) (by omega) ((rm_e (by omega) (by omega) ez_25).trans (by rw [hTz_24])))), hf12⟩, by rw [ht]; exact hP.sub [2, 3, 0, 1] rfl, hD.sub [2, 3, 0, 1] (by decide) rfl⟩, hS.F ht⟩) hS.2.2 dX12_town_181
            · refine lv_aload_n hx hb dX12_town_158 rfl (lv_at hlv 2 rfl) ?_
              refine va_get (D := D) (ci := 12) (v := vR m35) (C := RX12) (T := TX12) (N := 38) hx hb hts hi12 hown hG.1 hP 2 rfl rfl 35 (by decide) lf74 (fun _ h9 => h9) rfl dX12_town_159 ?_
              refine lv_iconst (v := iI 0) hx hb dX12_town_162 (by decide) ?_
              refine va_iald hx hb hG.1 hP 1 0 rfl rfl (iI_in (by omega) (by decide)) dX12_town_163 ?_
              refine lt_nz (i := 0) (by omega) (fun z_26 hz_26 lz_26 uz_26 => ?_)
              have hz_26 : z_26 = nz rg 0 := hz_26
              have hTz_26 : z_26 = TB (Yc (DQ f12) (nz f12 357).toNat) (nz f12 357).toNat 0 := hz_26.trans (TBS.all hTA (j := 0) (Nat.pow_pos (by decide)))
              have hTbz_26 : 0 ≤ z_26 ∧ z_26 ≤ 9240570 := by have q9 := TBS.b hTA hn_dpm (by omega) (m := -1) (by decide) (by decide) 0 (by decide) (by omega); omega
              refine lv_ldcw (v := iI 1000000) hx hb hown ld399 dX12_town_164 ?_
              refine lv_idiv hx hb dX12_town_167 (fun q => absurd ((iI_eq (a := 1000000) (b := 0) (by omega) (by omega)).mp q) (by omega)) ?_
              refine lt_e (e0 := z_26 / 1000000) (dv_eq (by omega) (by omega)) (fun z_27 hz_27 => ?_)
              refine lv_goto (tgt := 181) hx hb dX12_town_168 (by decide) ?_
              refine W.widen (k := 0) (n := 0) (Nat.le_of_ble_eq_true rfl) (Nat.le_of_ble_eq_true rfl) ?_
              exact W.iret (v := iI z_27) hx hb hr (fun t ht hW => ⟨⟨iI z_27, ((fun k => ([] : List Nat).getD k 0), (fun k => ([z_27, (u2.2.1 1)] : List Int).getD k 0), (fun k => ([(u2.2.2 0), rg] : List (Nat → Int32)).getD k (fun _ => 0))), rfl, ⟨rfl, (by show ((-2147483648) ≤ (u2.2.1 1) ∧ (u2.2.1 1) ≤ 2147483647); first | exact hq2_1 | omega), (by show ((-2147483648) ≤ z_27 ∧ z_27 ≤ 2147483647); omega), (by show (0 ≤ n ∧ n ≤ 2 → (u2.2.1 1) = 0); omega), (by show (¬ (0 ≤ n ∧ n ≤ 2) → (u2.2.1 1) = 1); omega), (by show (0 ≤ n ∧ n ≤ 2 → (z_27) = TWV (DQ f12) (nz f12 357) n); exact (fun h9 => by first | exact TWV_1 (by omega) (by omega) (hz_27.trans (by rw [hTz_26])) | exact TWV_2 (by omega) (by omega) ((rm_e (by omega) (by omega) ez_27).trans (by rw [hTz_26])))), hf12⟩, by rw [ht]; exact hP.sub [2, 3, 0, 1] rfl, hD.sub [2, 3, 0, 1] (by decide) rfl⟩, hS.F ht⟩) hS.2.2 dX12_town_181
        · refine lv_aload_n hx hb dX12_town_63 rfl (lv_at hlv 2 rfl) ?_
          refine va_get (D := D) (ci := 12) (v := vR m35) (C := RX12) (T := TX12) (N := 38) hx hb hts hi12 hown hG.1 hP 2 rfl rfl 35 (by decide) lf74 (fun _ h9 => h9) rfl dX12_town_64 ?_
          refine lv_iload_n hx hb dX12_town_67 rfl (lv_at hlv 0 rfl) ?_
          refine lv_iconst (v := iI (-1)) hx hb dX12_town_68 (by decide) ?_
          refine va_iast hx hb hG.1 hP hD hS 1 0 rfl rfl (iI_in (by omega) (by decide)) dX12_town_69 (fun H locs hP hD hS => ?_)
          have ⟨f_28, hdf_28, hP, hD⟩ : ∃ f_28 : Nat → Int32, f_28 = upd rg (iI q3).toNatClampNeg (iI (-1)) ∧ va_P D vwCl [zI m12 (cy 0) 389 f12, zI m35 (cy 0) 512 f_28, zO mm 12 [vI (u2.2.1 1), vR m1, vI tp, vI sz_, vI ap, vI bad, vI bk, vI opn, vI fp, vR m9, vR m10, vR m11, vR m12, vR m13, vR m14, vR m15, vI im, vI nr, vI nl, vR m19, vR m20, vR m21, vI sp_, vR m23, vR m24, vR m25, vR m26, vR m27, vR m28, vI wtc, vI wcl, vI ir, vI ip, vR m33, vI shu, vR m35, vI sfa, vI swr], zI m1 (cy 0) 4 (u2.2.2 0)] H ∧ va_D A [zI m12 (cy 0) 389 f12, zI m35 (cy 0) 512 f_28, zO mm 12 [vI (u2.2.1 1), vR m1, vI tp, vI sz_, vI ap, vI bad, vI bk, vI opn, vI fp, vR m9, vR m10, vR m11, vR m12, vR m13, vR m14, vR m15, vI im, vI nr, vI nl, vR m19, vR m20, vR m21, vI sp_, vR m23, vR m24, vR m25, vR m26, vR m27, vR m28, vI wtc, vI wcl, vI ir, vI ip, vR m33, vI shu, vR m35, vI sfa, vI swr], zI m1 (cy 0) 4 (u2.2.2 0)] := ⟨_, rfl, hP, hD⟩
          refine lv_iconst (v := iI 0) hx hb dX12_town_70 (by decide) ?_
          refine lv_istore (lv' := [(4, vI 0), (3, vI q3), (2, vI z_6), (0, vR mm), (1, vI n)]) hx hb dX12_town_71 hlv (by decide) rfl (fun ls hlv => ?_)
          refine (?_ : ∀ (fu : Nat) (q4 : Int) (ri : Nat → Int32) (H : Heap) (locs : List Loc) (ls : Array Slot), 9 - q4 < (fu : Int) → (0 ≤ q4 ∧ q4 ≤ 9) → (q4 ≤ nz f12 357) → (TBS (Yc (DQ f12) (nz f12 357).toNat) (nz f12 357).toNat q3 ri) → (INs (Yc (DQ f12) (nz f12 357).toNat) ri q3 q4) → va_P D vwCl [zI m12 (cy 0) 389 f12, zI m35 (cy 0) 512 ri, zO mm 12 [vI (u2.2.1 1), vR m1, vI tp, vI sz_, vI ap, vI bad, vI bk, vI opn, vI fp, vR m9, vR m10, vR m11, vR m12, vR m13, vR m14, vR m15, vI im, vI nr, vI nl, vR m19, vR m20, vR m21, vI sp_, vR m23, vR m24, vR m25, vR m26, vR m27, vR m28, vI wtc, vI wcl, vI ir, vI ip, vR m33, vI shu, vR m35, vI sfa, vI swr], zI m1 (cy 0) 4 (u2.2.2 0)] H → va_D A [zI m12 (cy 0) 389 f12, zI m35 (cy 0) 512 ri, zO mm 12 [vI (u2.2.1 1), vR m1, vI tp, vI sz_, vI ap, vI bad, vI bk, vI opn, vI fp, vR m9, vR m10, vR m11, vR m12, vR m13, vR m14, vR m15, vI im, vI nr, vI nl, vR m19, vR m20, vR m21, vI sp_, vR m23, vR m24, vR m25, vR m26, vR m27, vR m28, vI wtc, vI wcl, vI ir, vI ip, vR m33, vI shu, vR m35, vI sfa, vI swr], zI m1 (cy 0) 4 (u2.2.2 0)] → va_S A s.heap H locs → lv_has ls 6 [(4, vI q4), (3, vI q3), (2, vI z_6), (0, vR mm), (1, vI n)] → W p l e _ s m _ below meth c H locs _ _ _ (F0 m 73 ls [])) (((9 - 0) + 1 : Int)).toNat 0 f_28 _ _ _ (by omega) (by show (0 : Int) ≤ 0 ∧ (0 : Int) ≤ 9; decide) (by omega) (TBS.put hl59_2 hdf_28 ⟨by omega, by omega⟩) (IN_0 hdf_28 ⟨by omega, by omega⟩)  hP hD hS hlv
          clear hP hD hS hlv
          intro fu
          induction fu with
          | zero => intro q4 ri H locs ls hm73 hl73_0 hl73_1 hl73_2 hl73_3  hP hD hS hlv; omega
          | succ fu ih73 =>
            intro q4 ri H locs ls hm73 hl73_0 hl73_1 hl73_2 hl73_3  hP hD hS hlv
            refine lv_iload hx hb dX12_town_73 (lv_at hlv 0 rfl) ?_
            refine lv_aload_n hx hb dX12_town_75 rfl (lv_at hlv 3 rfl) ?_
            refine va_get (D := D) (ci := 12) (v := vR m12) (C := RX12) (T := TX12) (N := 38) hx hb hts hi12 hown hG.1 hP 2 rfl rfl 12 (by decide) lf29 (fun _ h9 => h9) rfl dX12_town_76 ?_
            refine lv_sipush (v := iI 357) hx hb dX12_town_79 (by decide) ?_
            refine va_iald hx hb hG.1 hP 0 0 rfl rfl (iI_in (by omega) (by decide)) dX12_town_82 ?_
            refine lt_nz (i := 357) (by omega) (fun z_29 hz_29 lz_29 uz_29 => ?_)
            have hz_29 : z_29 = nz f12 357 := hz_29
            have hbz_29_7 := hf12.2.2.2.2.2.1
            refine ir_ge (tgt := 143) hx hb dX12_town_83 (by decide) (by first | exact rgw hl73_0 (by decide) (by decide) | omega) (by omega) (fun c_30 => ?_) (fun c_30 => ?_)
            · obtain ⟨z_31, hz_31⟩ : ∃ z : Int, z = q3 + (-1) := ⟨_, rfl⟩
              refine lv_iinc (v := iI z_31) (lv' := [(3, vI z_31), (4, vI q4), (2, vI z_6), (0, vR mm), (1, vI n)]) hx hb dX12_town_143 hlv (k := 1) rfl (by rw [hz_31]; exact (Int32.ofInt_add _ _).symm) (by decide) rfl (fun ls hlv => ?_)
              refine lv_goto (tgt := 59) hx hb dX12_town_146 (by decide) ?_
              exact ih59 z_31 ri H locs ls (by omega) (by omega) (by omega) (TBS.rd hl73_2 (by omega) ⟨by omega, by omega⟩ (by have q9 : q4 = nz f12 357 := (by omega); rw [q9] at hl73_3; exact hl73_3) (by omega))  (hP.sub [0, 1, 2, 3] rfl) (hD.sub [0, 1, 2, 3] (by decide) rfl) hS (lv_sub hlv [0, 2, 3, 4] rfl)
            · refine lv_iload_n hx hb dX12_town_86 rfl (lv_at hlv 1 rfl) ?_
              refine lv_iload hx hb dX12_town_87 (lv_at hlv 0 rfl) ?_
              refine lv_ishr hx hb dX12_town_89 ?_
              refine lt_z (fun z_32 ez_32 lz_32 hz_32 => ?_)
              refine lv_iconst (v := iI 1) hx hb dX12_town_90 (by decide) ?_
              refine lv_iand hx hb dX12_town_91 ?_
              refine lt_aE 1 (by decide) (by decide) (hi := 1) (by decide) (fun z_33 ez_33 lz_33 hz_33 => ?_)
              refine lv_iconst (v := iI 1) hx hb dX12_town_92 (by decide) ?_
              refine ir_ne (tgt := 99) hx hb dX12_town_93 (by decide) (by omega) (by show ((-2147483648) : Int) ≤ 1 ∧ (1 : Int) ≤ 2147483647; decide) (fun c_34 => ?_) (fun c_34 => ?_)
              · refine lv_aload_n hx hb dX12_town_99 rfl (lv_at hlv 3 rfl) ?_
                refine lv_iload_n hx hb dX12_town_100 rfl (lv_at hlv 1 rfl) ?_
                refine lv_iload hx hb dX12_town_101 (lv_at hlv 0 rfl) ?_
                refine cj_i (wr := [zI m1 (cy 0) 4 (u2.2.2 0)]) (va_runV (As := [vI q3, vI q4]) (rest := []) ⟨hx, hb, hml, hown, hts⟩ (x_doing l hl D cy sa mm m1 m9 m10 m11 m12 m13 m14 m15 m19 m20 m21 m23 m24 m25 m26 m27 m28 m33 m35 (u2.2.1 1) tp sz_ ap bad bk opn fp im nr nl sp_ wtc wcl ir ip shu sfa swr f12 ri q3 q4 H.size (by first | exact hq2_1 | omega) (by first | exact hr_tp | omega) (by first | exact hr_sz_ | omega) (by first | exact hr_ap | omega) (by first | exact hr_bad | omega) (by first | exact hr_bk | omega) (by first | exact hr_opn | omega) (by first | exact hr_fp | omega) (by first | exact hr_im | omega) (by first | exact hr_nr | omega) (by first | exact hr_nl | omega) (by first | exact hr_sp_ | omega) (by first | exact hr_wtc | omega) (by first | exact hr_wcl | omega) (by first | exact hr_ir | omega) (by first | exact hr_ip | omega) (by first | exact hr_shu | omega) (by first | exact hr_sfa | omega) (by first | exact hr_swr | omega) (by omega) (by omega) (by omega) (by omega) hn_dpm (TBS.b hl73_2 hn_dpm (by omega) (by omega) (by omega)) (nb_e ez_32 ez_33 (by omega)) hf12) (cwV 2 hts gg_3 rfl rfl rfl (by decide +kernel) ⟨Nat.le_of_ble_eq_true rfl, Nat.le_of_ble_eq_true rfl⟩) ⟨pcW.blind, (va_recv hG.1 hP (ci := 12) (q0 := 2) rfl rfl), (pcW.mk hP hD hS hA hG hT [2, 0, 1] rfl (by decide))⟩ rfl rfl hlv.1 rfl (lv_room (Nat.le_of_ble_eq_true rfl)) dX12_town_103 ⟨Nat.le_of_ble_eq_true rfl, Nat.le_of_ble_eq_true rfl⟩) hP hD hS hA [2, 0, 1] [3] rfl rfl (by decide) (by decide) (fun r4 u4 H locs hw4 hP hD hS => ?_)
                obtain ⟨rfl, hq4_1, hq4_2, hq4_3⟩ := hw4
                have hP : va_P D vwCl [zI m1 (cy 0) 4 (u2.2.2 0), zO mm 12 [vI (u2.2.1 1), vR m1, vI tp, vI sz_, vI ap, vI bad, vI bk, vI opn, vI fp, vR m9, vR m10, vR m11, vR m12, vR m13, vR m14, vR m15, vI im, vI nr, vI nl, vR m19, vR m20, vR m21, vI sp_, vR m23, vR m24, vR m25, vR m26, vR m27, vR m28, vI wtc, vI wcl, vI ir, vI ip, vR m33, vI shu, vR m35, vI sfa, vI swr], zI m12 (cy 0) 389 f12, zI m35 (cy 0) 512 ri] H := hP
                have hD : va_D A [zI m1 (cy 0) 4 (u2.2.2 0), zO mm 12 [vI (u2.2.1 1), vR m1, vI tp, vI sz_, vI ap, vI bad, vI bk, vI opn, vI fp, vR m9, vR m10, vR m11, vR m12, vR m13, vR m14, vR m15, vI im, vI nr, vI nl, vR m19, vR m20, vR m21, vI sp_, vR m23, vR m24, vR m25, vR m26, vR m27, vR m28, vI wtc, vI wcl, vI ir, vI ip, vR m33, vI shu, vR m35, vI sfa, vI swr], zI m12 (cy 0) 389 f12, zI m35 (cy 0) 512 ri] := hD
                refine lv_istore (lv' := [(5, vI (u4.2.1 0)), (4, vI q4), (3, vI q3), (2, vI z_6), (0, vR mm), (1, vI n)]) hx hb dX12_town_106 hlv (by decide) rfl (fun ls hlv => ?_)
                refine lv_aload_n hx hb dX12_town_108 rfl (lv_at hlv 4 rfl) ?_
                refine va_get (D := D) (ci := 12) (v := vR m35) (C := RX12) (T := TX12) (N := 38) hx hb hts hi12 hown hG.1 hP 1 rfl rfl 35 (by decide) lf74 (fun _ h9 => h9) rfl dX12_town_109 ?_
                refine lv_iload_n hx hb dX12_town_112 rfl (lv_at hlv 2 rfl) ?_
                refine va_iald hx hb hG.1 hP 3 0 rfl rfl (iI_in (by omega) (by decide)) dX12_town_113 ?_
                refine lt_nz (i := q3) (by omega) (fun z_35 hz_35 lz_35 uz_35 => ?_)
                refine lv_iconst (v := iI (-1)) hx hb dX12_town_114 (by decide) ?_
                refine ir_eq (tgt := 129) hx hb dX12_town_115 (by decide) (by omega) (by show ((-2147483648) : Int) ≤ (-1) ∧ ((-1) : Int) ≤ 2147483647; decide) (fun c_36 => ?_) (fun c_36 => ?_)
                · refine lv_aload_n hx hb dX12_town_129 rfl (lv_at hlv 4 rfl) ?_
                  refine va_get (D := D) (ci := 12) (v := vR m35) (C := RX12) (T := TX12) (N := 38) hx hb hts hi12 hown hG.1 hP 1 rfl rfl 35 (by decide) lf74 (fun _ h9 => h9) rfl dX12_town_130 ?_
                  refine lv_iload_n hx hb dX12_town_133 rfl (lv_at hlv 2 rfl) ?_
                  refine lv_iload hx hb dX12_town_134 (lv_at hlv 0 rfl) ?_
                  refine va_iast hx hb hG.1 hP hD hS 3 0 rfl rfl (iI_in (by omega) (by decide)) dX12_town_136 (fun H locs hP hD hS => ?_)
                  have ⟨f_37, hdf_37, hP, hD⟩ : ∃ f_37 : Nat → Int32, f_37 = upd ri (iI q3).toNatClampNeg (iI (u4.2.1 0)) ∧ va_P D vwCl [zI m1 (cy 0) 4 (u2.2.2 0), zO mm 12 [vI (u2.2.1 1), vR m1, vI tp, vI sz_, vI ap, vI bad, vI bk, vI opn, vI fp, vR m9, vR m10, vR m11, vR m12, vR m13, vR m14, vR m15, vI im, vI nr, vI nl, vR m19, vR m20, vR m21, vI sp_, vR m23, vR m24, vR m25, vR m26, vR m27, vR m28, vI wtc, vI wcl, vI ir, vI ip, vR m33, vI shu, vR m35, vI sfa, vI swr], zI m12 (cy 0) 389 f12, zI m35 (cy 0) 512 f_37] H ∧ va_D A [zI m1 (cy 0) 4 (u2.2.2 0), zO mm 12 [vI (u2.2.1 1), vR m1, vI tp, vI sz_, vI ap, vI bad, vI bk, vI opn, vI fp, vR m9, vR m10, vR m11, vR m12, vR m13, vR m14, vR m15, vI im, vI nr, vI nl, vR m19, vR m20, vR m21, vI sp_, vR m23, vR m24, vR m25, vR m26, vR m27, vR m28, vI wtc, vI wcl, vI ir, vI ip, vR m33, vI shu, vR m35, vI sfa, vI swr], zI m12 (cy 0) 389 f12, zI m35 (cy 0) 512 f_37] := ⟨_, rfl, hP, hD⟩
                  obtain ⟨z_38, hz_38⟩ : ∃ z : Int, z = q4 + 1 := ⟨_, rfl⟩
                  refine lv_iinc (v := iI z_38) (lv' := [(4, vI z_38), (5, vI (u4.2.1 0)), (3, vI q3), (2, vI z_6), (0, vR mm), (1, vI n)]) hx hb dX12_town_137 hlv (k := 1) rfl (by rw [hz_38]; exact (Int32.ofInt_add _ _).symm) (by decide) rfl (fun ls hlv => ?_)
                  refine lv_goto (tgt := 73) hx hb dX12_town_140 (by decide) ?_
                  exact ih73 z_38 f_37 H locs ls (by omega) (by omega) (by omega) (TBS.put hl73_2 hdf_37 ⟨by omega, by omega⟩) (IN_pt hl73_3 hl73_2 hn_dpm (by omega) ⟨by omega, by omega⟩ (by omega) ⟨by omega, by omega⟩ (by omega) (nb_e ez_32 ez_33 (by omega)) hdf_37 (by omega) hq4_2 (by omega))  (hP.sub [2, 3, 1, 0] rfl) (hD.sub [2, 3, 1, 0] (by decide) rfl) hS (lv_sub hlv [0, 2, 3, 4, 5] rfl)
                · refine lv_iload hx hb dX12_town_118 (lv_at hlv 0 rfl) ?_
                  refine lv_aload_n hx hb dX12_town_120 rfl (lv_at hlv 4 rfl) ?_
                  refine va_get (D := D) (ci := 12) (v := vR m35) (C := RX12) (T := TX12) (N := 38) hx hb hts hi12 hown hG.1 hP 1 rfl rfl 35 (by decide) lf74 (fun _ h9 => h9) rfl dX12_town_121 ?_
                  refine lv_iload_n hx hb dX12_town_124 rfl (lv_at hlv 2 rfl) ?_
                  refine va_iald hx hb hG.1 hP 3 0 rfl rfl (iI_in (by omega) (by decide)) dX12_town_125 ?_
                  refine lt_nz (i := q3) (by omega) (fun z_39 hz_39 lz_39 uz_39 => ?_)
                  refine ir_ge (tgt := 137) hx hb dX12_town_126 (by decide) (by first | exact rgw hq4_1 (by decide) (by decide) | omega) (by omega) (fun c_40 => ?_) (fun c_40 => ?_)
                  · obtain ⟨z_41, hz_41⟩ : ∃ z : Int, z = q4 + 1 := ⟨_, rfl⟩
                    refine lv_iinc (v := iI z_41) (lv' := [(4, vI z_41), (5, vI (u4.2.1 0)), (3, vI q3), (2, vI z_6), (0, vR mm), (1, vI n)]) hx hb dX12_town_137 hlv (k := 1) rfl (by rw [hz_41]; exact (Int32.ofInt_add _ _).symm) (by decide) rfl (fun ls hlv => ?_)
                    refine lv_goto (tgt := 73) hx hb dX12_town_140 (by decide) ?_
                    exact ih73 z_41 ri H locs ls (by omega) (by omega) (by omega) hl73_2 (IN_kp hl73_3 (by omega) (by omega) (nb_e ez_32 ez_33 (by omega)) hq4_2 (by omega))  (hP.sub [2, 3, 1, 0] rfl) (hD.sub [2, 3, 1, 0] (by decide) rfl) hS (lv_sub hlv [0, 2, 3, 4, 5] rfl)
                  · refine lv_aload_n hx hb dX12_town_129 rfl (lv_at hlv 4 rfl) ?_
                    refine va_get (D := D) (ci := 12) (v := vR m35) (C := RX12) (T := TX12) (N := 38) hx hb hts hi12 hown hG.1 hP 1 rfl rfl 35 (by decide) lf74 (fun _ h9 => h9) rfl dX12_town_130 ?_
                    refine lv_iload_n hx hb dX12_town_133 rfl (lv_at hlv 2 rfl) ?_
                    refine lv_iload hx hb dX12_town_134 (lv_at hlv 0 rfl) ?_
                    refine va_iast hx hb hG.1 hP hD hS 3 0 rfl rfl (iI_in (by omega) (by decide)) dX12_town_136 (fun H locs hP hD hS => ?_)
                    have ⟨f_42, hdf_42, hP, hD⟩ : ∃ f_42 : Nat → Int32, f_42 = upd ri (iI q3).toNatClampNeg (iI (u4.2.1 0)) ∧ va_P D vwCl [zI m1 (cy 0) 4 (u2.2.2 0), zO mm 12 [vI (u2.2.1 1), vR m1, vI tp, vI sz_, vI ap, vI bad, vI bk, vI opn, vI fp, vR m9, vR m10, vR m11, vR m12, vR m13, vR m14, vR m15, vI im, vI nr, vI nl, vR m19, vR m20, vR m21, vI sp_, vR m23, vR m24, vR m25, vR m26, vR m27, vR m28, vI wtc, vI wcl, vI ir, vI ip, vR m33, vI shu, vR m35, vI sfa, vI swr], zI m12 (cy 0) 389 f12, zI m35 (cy 0) 512 f_42] H ∧ va_D A [zI m1 (cy 0) 4 (u2.2.2 0), zO mm 12 [vI (u2.2.1 1), vR m1, vI tp, vI sz_, vI ap, vI bad, vI bk, vI opn, vI fp, vR m9, vR m10, vR m11, vR m12, vR m13, vR m14, vR m15, vI im, vI nr, vI nl, vR m19, vR m20, vR m21, vI sp_, vR m23, vR m24, vR m25, vR m26, vR m27, vR m28, vI wtc, vI wcl, vI ir, vI ip, vR m33, vI shu, vR m35, vI sfa, vI swr], zI m12 (cy 0) 389 f12, zI m35 (cy 0) 512 f_42] := ⟨_, rfl, hP, hD⟩
                    obtain ⟨z_43, hz_43⟩ : ∃ z : Int, z = q4 + 1 := ⟨_, rfl⟩
                    refine lv_iinc (v := iI z_43) (lv' := [(4, vI z_43), (5, vI (u4.2.1 0)), (3, vI q3), (2, vI z_6), (0, vR mm), (1, vI n)]) hx hb dX12_town_137 hlv (k := 1) rfl (by rw [hz_43]; exact (Int32.ofInt_add _ _).symm) (by decide) rfl (fun ls hlv => ?_)
                    refine lv_goto (tgt := 73) hx hb dX12_town_140 (by decide) ?_
                    exact ih73 z_43 f_42 H locs ls (by omega) (by omega) (by omega) (TBS.put hl73_2 hdf_42 ⟨by omega, by omega⟩) (IN_pt hl73_3 hl73_2 hn_dpm (by omega) ⟨by omega, by omega⟩ (by omega) ⟨by omega, by omega⟩ (by omega) (nb_e ez_32 ez_33 (by omega)) hdf_42 (by omega) hq4_2 (by omega))  (hP.sub [2, 3, 1, 0] rfl) (hD.sub [2, 3, 1, 0] (by decide) rfl) hS (lv_sub hlv [0, 2, 3, 4, 5] rfl)
              · refine lv_goto (tgt := 137) hx hb dX12_town_96 (by decide) ?_
                obtain ⟨z_44, hz_44⟩ : ∃ z : Int, z = q4 + 1 := ⟨_, rfl⟩
                refine lv_iinc (v := iI z_44) (lv' := [(4, vI z_44), (3, vI q3), (2, vI z_6), (0, vR mm), (1, vI n)]) hx hb dX12_town_137 hlv (k := 0) rfl (by rw [hz_44]; exact (Int32.ofInt_add _ _).symm) (by decide) rfl (fun ls hlv => ?_)
                refine lv_goto (tgt := 73) hx hb dX12_town_140 (by decide) ?_
                exact ih73 z_44 ri H locs ls (by omega) (by omega) (by omega) hl73_2 (IN_sk hl73_3 (by omega) (by omega) (by rw [bt_e ez_32 ez_33]; rw [show z_33 = 1 by omega]))  (hP.sub [0, 1, 2, 3] rfl) (hD.sub [0, 1, 2, 3] (by decide) rfl) hS (lv_sub hlv [0, 1, 2, 3, 4] rfl)
    · refine lv_iconst (v := iI (-1)) hx hb dX12_town_33 (by decide) ?_
      refine W.widen (k := 0) (n := 0) (Nat.le_of_ble_eq_true rfl) (Nat.le_of_ble_eq_true rfl) ?_
      exact W.iret (v := iI (-1)) hx hb hr (fun t ht hW => ⟨⟨iI (-1), ((fun k => ([] : List Nat).getD k 0), (fun k => ([(-1), (u2.2.1 1)] : List Int).getD k 0), (fun k => ([(u2.2.2 0), f35] : List (Nat → Int32)).getD k (fun _ => 0))), rfl, ⟨rfl, (by show ((-2147483648) ≤ (u2.2.1 1) ∧ (u2.2.1 1) ≤ 2147483647); first | exact hq2_1 | omega), (by show ((-2147483648) ≤ (-1) ∧ (-1) ≤ 2147483647); show ((-2147483648) : Int) ≤ (-1) ∧ ((-1) : Int) ≤ 2147483647; decide), (by show (0 ≤ n ∧ n ≤ 2 → (u2.2.1 1) = 0); omega), (by show (¬ (0 ≤ n ∧ n ≤ 2) → (u2.2.1 1) = 1); omega), (by show (0 ≤ n ∧ n ≤ 2 → ((-1)) = TWV (DQ f12) (nz f12 357) n); exact (fun h9 => by first | exact TWV_0 (by omega) (by omega) | (exfalso; omega))), hf12⟩, by rw [ht]; exact hP.sub [2, 3, 0, 1] rfl, hD.sub [2, 3, 0, 1] (by decide) rfl⟩, hS.F ht⟩) hS.2.2 dX12_town_34
  · refine lv_iconst (v := iI 0) hx hb dX12_town_20 (by decide) ?_
    refine W.widen (k := 0) (n := 0) (Nat.le_of_ble_eq_true rfl) (Nat.le_of_ble_eq_true rfl) ?_
    exact W.iret (v := iI 0) hx hb hr (fun t ht hW => ⟨⟨iI 0, ((fun k => ([] : List Nat).getD k 0), (fun k => ([0, (u2.2.1 1)] : List Int).getD k 0), (fun k => ([(u2.2.2 0), f35] : List (Nat → Int32)).getD k (fun _ => 0))), rfl, ⟨rfl, (by show ((-2147483648) ≤ (u2.2.1 1) ∧ (u2.2.1 1) ≤ 2147483647); first | exact hq2_1 | omega), (by show ((-2147483648) ≤ 0 ∧ 0 ≤ 2147483647); show ((-2147483648) : Int) ≤ 0 ∧ (0 : Int) ≤ 2147483647; decide), (by show (0 ≤ n ∧ n ≤ 2 → (u2.2.1 1) = 0); omega), (by show (¬ (0 ≤ n ∧ n ≤ 2) → (u2.2.1 1) = 1); omega), (by show (0 ≤ n ∧ n ≤ 2 → (0) = TWV (DQ f12) (nz f12 357) n); exact (fun h9 => by first | exact TWV_0 (by omega) (by omega) | (exfalso; omega))), hf12⟩, by rw [ht]; exact hP.sub [2, 3, 0, 1] rfl, hD.sub [2, 3, 0, 1] (by decide) rfl⟩, hS.F ht⟩) hS.2.2 dX12_town_21
