
def vs_x_daysOf : List Cond := .code yX12_daysOf cX12_daysOf 4 (some .int) :: (([.fieldLink RX12 29 "KerbSplashModel" "s" "[I"] : List Cond) ++ ((wsX120) ++ ([])))
theorem gd_x_daysOf : vs_x_daysOf.all goodWord = true := gd_C (by decide +kernel) (gd_A (by decide +kernel) (gd_A (by decide +kernel) rfl))
set_option maxHeartbeats 4000000 in
set_option maxRecDepth 100000 in
theorem x_daysOf (l : Launch) (hl : l.stackTraces = false) (D : va_G) (cy : Nat → ClassId) (sa : Nat → Nat) (mm m1 m9 m10 m11 m12 m13 m14 m15 m19 m20 m21 m23 m24 m25 m26 m27 m28 m33 m35 : Nat) (th tp sz_ ap bad bk opn fp im nr nl sp_ wtc wcl ir ip shu sfa swr : Int) (f12 : Nat → Int32) (se : Int) (sz : Nat) (hr_th : (-2147483648) ≤ th ∧ th ≤ 2147483647) (hr_tp : 0 ≤ tp ∧ tp ≤ 600) (hr_sz_ : 0 ≤ sz_ ∧ sz_ ≤ 600) (hr_ap : 0 ≤ ap ∧ ap ≤ 602) (hr_bad : (-1) ≤ bad ∧ bad ≤ 602) (hr_bk : 0 ≤ bk ∧ bk ≤ 4) (hr_opn : 0 ≤ opn ∧ opn ≤ 7) (hr_fp : (-2147483648) ≤ fp ∧ fp ≤ 2147483647) (hr_im : 0 ≤ im ∧ im ≤ 3) (hr_nr : 0 ≤ nr ∧ nr ≤ 4) (hr_nl : 0 ≤ nl ∧ nl ≤ 4) (hr_sp_ : 0 ≤ sp_ ∧ sp_ ≤ 602) (hr_wtc : (-2147483648) ≤ wtc ∧ wtc ≤ 2147483647) (hr_wcl : 0 ≤ wcl ∧ wcl ≤ 95) (hr_ir : 0 ≤ ir ∧ ir ≤ 5) (hr_ip : (-2147483648) ≤ ip ∧ ip ≤ 2147483647) (hr_shu : (-2147483648) ≤ shu ∧ shu ≤ 2147483647) (hr_sfa : (-2147483648) ≤ sfa ∧ sfa ≤ 2147483647) (hr_swr : (-2147483648) ≤ swr ∧ swr ≤ 2147483647) (hr_se : 0 ≤ se ∧ se ≤ 511) (hn_dpm : DPR (DQ f12) (nz f12 357).toNat) (hf12 : SI 8 f12) : Met l yX12_daysOf vs_x_daysOf ({ frames := 0, cells := 0, slots := 0, locals := 0 }) (va_Pc [vR mm, vI se] (pcW D cy sa sz [zO mm 12 [vI th, vR m1, vI tp, vI sz_, vI ap, vI bad, vI bk, vI opn, vI fp, vR m9, vR m10, vR m11, vR m12, vR m13, vR m14, vR m15, vI im, vI nr, vI nl, vR m19, vR m20, vR m21, vI sp_, vR m23, vR m24, vR m25, vR m26, vR m27, vR m28, vI wtc, vI wcl, vI ir, vI ip, vR m33, vI shu, vR m35, vI sfa, vI swr], zI m12 (cy 0) 389 f12])) (va_Qi (fun (r : Int32) (u : SV) => r = iI (u.2.1 0) ∧ (0 ≤ u.2.1 0 ∧ u.2.1 0 ≤ 270) ∧ ((u.2.1 0) = dyS (DQ f12) se (nz f12 357).toNat) ∧ SI 8 f12) (fun u t => atW D (va_A [zO mm 12 [vI th, vR m1, vI tp, vI sz_, vI ap, vI bad, vI bk, vI opn, vI fp, vR m9, vR m10, vR m11, vR m12, vR m13, vR m14, vR m15, vI im, vI nr, vI nl, vR m19, vR m20, vR m21, vI sp_, vR m23, vR m24, vR m25, vR m26, vR m27, vR m28, vI wtc, vI wcl, vI ir, vI ip, vR m33, vI shu, vR m35, vI sfa, vI swr], zI m12 (cy 0) 389 f12] sz) [zO mm 12 [vI th, vR m1, vI tp, vI sz_, vI ap, vI bad, vI bk, vI opn, vI fp, vR m9, vR m10, vR m11, vR m12, vR m13, vR m14, vR m15, vI im, vI nr, vI nl, vR m19, vR m20, vR m21, vI sp_, vR m23, vR m24, vR m25, vR m26, vR m27, vR m28, vI wtc, vI wcl, vI ir, vI ip, vR m33, vI shu, vR m35, vI sfa, vI swr], zI m12 (cy 0) 389 f12] t) (va_A [zO mm 12 [vI th, vR m1, vI tp, vI sz_, vI ap, vI bad, vI bk, vI opn, vI fp, vR m9, vR m10, vR m11, vR m12, vR m13, vR m14, vR m15, vI im, vI nr, vI nl, vR m19, vR m20, vR m21, vI sp_, vR m23, vR m24, vR m25, vR m26, vR m27, vR m28, vI wtc, vI wcl, vI ir, vI ip, vR m33, vI shu, vR m35, vI sfa, vI swr], zI m12 (cy 0) 389 f12] sz)) 0 0 (va_A [zO mm 12 [vI th, vR m1, vI tp, vI sz_, vI ap, vI bad, vI bk, vI opn, vI fp, vR m9, vR m10, vR m11, vR m12, vR m13, vR m14, vR m15, vI im, vI nr, vI nl, vR m19, vR m20, vR m21, vI sp_, vR m23, vR m24, vR m25, vR m26, vR m27, vR m28, vI wtc, vI wcl, vI ir, vI ip, vR m33, vI shu, vR m35, vI sfa, vI swr], zI m12 (cy 0) 389 f12] sz) := by
  refine Met.ofW (cc := cX12_daysOf) (maxL := 4) (ret := (some .int)) (by decide) rfl ?_
  intro p e s m args below meth c s₁ B hml hv
  obtain ⟨rfl, hsz, hP, hG, hD0, hT⟩ := hv
  have hx := B.exec
  have hb := B.bytes
  have hr := B.returns
  have hts := atoms_spec (ws := vs_x_daysOf) B.pre
  have hown : s.vm.findClass RX12 = some m.cls := findClass_of_methodNamed B.named
  have hlocks := B.notSynchronized
  subst hsz
  have hD := hD0.self (sz := s.heap.size)
  generalize hAe : va_A [zO mm 12 [vI th, vR m1, vI tp, vI sz_, vI ap, vI bad, vI bk, vI opn, vI fp, vR m9, vR m10, vR m11, vR m12, vR m13, vR m14, vR m15, vI im, vI nr, vI nl, vR m19, vR m20, vR m21, vI sp_, vR m23, vR m24, vR m25, vR m26, vR m27, vR m28, vI wtc, vI wcl, vI ir, vI ip, vR m33, vI shu, vR m35, vI sfa, vI swr], zI m12 (cy 0) 389 f12] s.heap.size = A at hD hT ⊢
  have hA : ∀ q : Nat, s.heap.size ≤ q → A q := fun q h => by rw [← hAe]; exact Or.inr h
  have hS : va_S A s.heap s.heap [] := va_S.rf
  have hl0 := lv_entry ([vR mm, vI se]) (n := 4) (Nat.le_of_ble_eq_true rfl)
  rw [lg_entry_eq]
  generalize (lg_sl ([vR mm, vI se]) ++ List.replicate (4 - (lg_sl ([vR mm, vI se])).length) Slot.unset).toArray = ls at hl0 ⊢
  have hlv : lv_has ls 4 [(0, vR mm), (1, vI se)] := hl0
  have lf29 := hts (.fieldLink RX12 29 "KerbSplashModel" "s" "[I") (List.mem_of_getElem? (i := 1) rfl)
  have hi12 : ∀ w ∈ wsX120, w ∈ vs_x_daysOf := fun w h => List.mem_cons_of_mem _ (List.mem_append_right _ (List.mem_append_left _ h))
  refine lv_iconst (v := iI 0) hx hb dX12_daysOf_0 (by decide) ?_
  refine lv_istore_n (lv' := [(2, vI 0), (0, vR mm), (1, vI se)]) hx hb dX12_daysOf_1 rfl hlv (by decide) rfl (fun ls hlv => ?_)
  have h357 := hf12.2.2.2.2.2.1
  refine lv_iconst (v := iI 0) hx hb dX12_daysOf_2 (by decide) ?_
  refine lv_istore_n (lv' := [(3, vI 0), (2, vI 0), (0, vR mm), (1, vI se)]) hx hb dX12_daysOf_3 rfl hlv (by decide) rfl (fun ls hlv => ?_)
  refine (?_ : ∀ (fu : Nat) (q2 : Int) (q3 : Int) (H : Heap) (locs : List Loc) (ls : Array Slot), 9 - q3 < (fu : Int) → (0 ≤ q2 ∧ q2 ≤ 270) → (0 ≤ q3 ∧ q3 ≤ 9) → (q3 ≤ nz f12 357) → (q2 ≤ 30 * q3) → (q2 = dyS (DQ f12) se q3.toNat) → va_P D vwCl [zO mm 12 [vI th, vR m1, vI tp, vI sz_, vI ap, vI bad, vI bk, vI opn, vI fp, vR m9, vR m10, vR m11, vR m12, vR m13, vR m14, vR m15, vI im, vI nr, vI nl, vR m19, vR m20, vR m21, vI sp_, vR m23, vR m24, vR m25, vR m26, vR m27, vR m28, vI wtc, vI wcl, vI ir, vI ip, vR m33, vI shu, vR m35, vI sfa, vI swr], zI m12 (cy 0) 389 f12] H → va_D A [zO mm 12 [vI th, vR m1, vI tp, vI sz_, vI ap, vI bad, vI bk, vI opn, vI fp, vR m9, vR m10, vR m11, vR m12, vR m13, vR m14, vR m15, vI im, vI nr, vI nl, vR m19, vR m20, vR m21, vI sp_, vR m23, vR m24, vR m25, vR m26, vR m27, vR m28, vI wtc, vI wcl, vI ir, vI ip, vR m33, vI shu, vR m35, vI sfa, vI swr], zI m12 (cy 0) 389 f12] → va_S A s.heap H locs → lv_has ls 4 [(3, vI q3), (2, vI q2), (0, vR mm), (1, vI se)] → W p l e _ s m _ below meth c H locs _ _ _ (F0 m 4 ls [])) (((9 - 0) + 1 : Int)).toNat 0 0 _ _ _ (by omega) (by show (0 : Int) ≤ 0 ∧ (0 : Int) ≤ 270; decide) (by show (0 : Int) ≤ 0 ∧ (0 : Int) ≤ 9; decide) (by omega) (by omega) rfl  hP hD hS hlv
  clear hP hD hS hlv
  intro fu
  induction fu with
  | zero => intro q2 q3 H locs ls hm4 hl4_0 hl4_1 hl4_2 hl4_3 hl4_4  hP hD hS hlv; omega
  | succ fu ih4 =>
    intro q2 q3 H locs ls hm4 hl4_0 hl4_1 hl4_2 hl4_3 hl4_4  hP hD hS hlv
    refine lv_iload_n hx hb dX12_daysOf_4 rfl (lv_at hlv 0 rfl) ?_
    refine lv_aload_n hx hb dX12_daysOf_5 rfl (lv_at hlv 2 rfl) ?_
    refine va_get (D := D) (ci := 12) (v := vR m12) (C := RX12) (T := TX12) (N := 38) hx hb hts hi12 hown hG.1 hP 0 rfl rfl 12 (by decide) lf29 (fun _ h9 => h9) rfl dX12_daysOf_6 ?_
    refine lv_sipush (v := iI 357) hx hb dX12_daysOf_9 (by decide) ?_
    refine va_iald hx hb hG.1 hP 1 0 rfl rfl (iI_in (by omega) (by decide)) dX12_daysOf_12 ?_
    refine lt_nz (i := 357) (by omega) (fun z_1 hz_1 lz_1 uz_1 => ?_)
    have hz_1 : z_1 = nz f12 357 := hz_1
    have hbz_1_7 := hf12.2.2.2.2.2.1
    refine ir_ge (tgt := 52) hx hb dX12_daysOf_13 (by decide) (by first | exact rgw hl4_1 (by decide) (by decide) | omega) (by omega) (fun c_2 => ?_) (fun c_2 => ?_)
    · refine lv_iload_n hx hb dX12_daysOf_52 rfl (lv_at hlv 1 rfl) ?_
      refine W.widen (k := 0) (n := 0) (Nat.le_of_ble_eq_true rfl) (Nat.le_of_ble_eq_true rfl) ?_
      exact W.iret (v := iI q2) hx hb hr (fun t ht hW => ⟨⟨iI q2, ((fun k => ([] : List Nat).getD k 0), (fun k => ([q2] : List Int).getD k 0), (fun k => ([] : List (Nat → Int32)).getD k (fun _ => 0))), rfl, ⟨rfl, (by show (0 ≤ q2 ∧ q2 ≤ 270); first | exact hl4_0 | omega), (by show ((q2) = dyS (DQ f12) se (nz f12 357).toNat); exact (by rw [show (nz f12 357).toNat = q3.toNat by omega]; exact hl4_4)), hf12⟩, by rw [ht]; exact hP.sub [0, 1] rfl, hD.sub [0, 1] (by decide) rfl⟩, hS.F ht⟩) hS.2.2 dX12_daysOf_53
    · refine lv_iload_n hx hb dX12_daysOf_16 rfl (lv_at hlv 1 rfl) ?_
      refine lv_iload_n hx hb dX12_daysOf_17 rfl (lv_at hlv 3 rfl) ?_
      refine lv_iload_n hx hb dX12_daysOf_18 rfl (lv_at hlv 0 rfl) ?_
      refine lv_ishr hx hb dX12_daysOf_19 ?_
      refine lt_z (fun z_3 ez_3 lz_3 hz_3 => ?_)
      refine lv_iconst (v := iI 1) hx hb dX12_daysOf_20 (by decide) ?_
      refine lv_iand hx hb dX12_daysOf_21 ?_
      refine lt_aE 1 (by decide) (by decide) (hi := 1) (by decide) (fun z_4 ez_4 lz_4 hz_4 => ?_)
      refine lv_iconst (v := iI 1) hx hb dX12_daysOf_22 (by decide) ?_
      refine ir_ne (tgt := 43) hx hb dX12_daysOf_23 (by decide) (by omega) (by show ((-2147483648) : Int) ≤ 1 ∧ (1 : Int) ≤ 2147483647; decide) (fun c_5 => ?_) (fun c_5 => ?_)
      · refine lv_iconst (v := iI 0) hx hb dX12_daysOf_43 (by decide) ?_
        refine lv_iadd hx hb dX12_daysOf_44 ?_
        refine lt_i (y := iI q2) (by rw [show iI q2 + iI 0 = iI (q2 + 0) from (Int32.ofInt_add _ _).symm, Int.add_zero]) ?_
        refine lv_istore_n (lv' := [(2, vI q2), (3, vI q3), (0, vR mm), (1, vI se)]) hx hb dX12_daysOf_45 rfl hlv (by decide) rfl (fun ls hlv => ?_)
        obtain ⟨z_6, hz_6⟩ : ∃ z : Int, z = q3 + 1 := ⟨_, rfl⟩
        refine lv_iinc (v := iI z_6) (lv' := [(3, vI z_6), (2, vI q2), (0, vR mm), (1, vI se)]) hx hb dX12_daysOf_46 hlv (k := 1) rfl (by rw [hz_6]; exact (Int32.ofInt_add _ _).symm) (by decide) rfl (fun ls hlv => ?_)
        refine lv_goto (tgt := 4) hx hb dX12_daysOf_49 (by decide) ?_
        exact ih4 q2 z_6 H locs ls (by omega) (by first | exact hl4_0 | omega) (by omega) (by omega) (by omega) (dyS_0 hl4_4 (by omega) ez_3 ez_4 (by omega) (by omega))  (hP.sub [0, 1] rfl) (hD.sub [0, 1] (by decide) rfl) hS (lv_sub hlv [0, 1, 2, 3] rfl)
      · refine lv_aload_n hx hb dX12_daysOf_26 rfl (lv_at hlv 2 rfl) ?_
        refine va_get (D := D) (ci := 12) (v := vR m12) (C := RX12) (T := TX12) (N := 38) hx hb hts hi12 hown hG.1 hP 0 rfl rfl 12 (by decide) lf29 (fun _ h9 => h9) rfl dX12_daysOf_27 ?_
        refine lv_sipush (v := iI 358) hx hb dX12_daysOf_30 (by decide) ?_
        refine lv_iconst (v := iI 3) hx hb dX12_daysOf_33 (by decide) ?_
        refine lv_iload_n hx hb dX12_daysOf_34 rfl (lv_at hlv 0 rfl) ?_
        refine lv_imul hx hb dX12_daysOf_35 ?_
        refine lt_e (e0 := 3 * q3) (Int32.ofInt_mul _ _).symm (fun z_7 hz_7 => ?_)
        refine lv_iadd hx hb dX12_daysOf_36 ?_
        refine lt_e (e0 := 358 + z_7) (Int32.ofInt_add _ _).symm (fun z_8 hz_8 => ?_)
        refine lv_iconst (v := iI 1) hx hb dX12_daysOf_37 (by decide) ?_
        refine lv_iadd hx hb dX12_daysOf_38 ?_
        refine lt_e (e0 := z_8 + 1) (Int32.ofInt_add _ _).symm (fun z_9 hz_9 => ?_)
        refine va_iald hx hb hG.1 hP 1 0 rfl rfl (iI_in (by omega) (by decide)) dX12_daysOf_39 ?_
        refine lt_nz (i := z_9) (by omega) (fun z_10 hz_10 lz_10 uz_10 => ?_)
        have hxz_10_ : z_10 = DQ f12 (3 * q3 + 1).toNat := DQ_e hz_10 (by omega) (by omega)
        have hdz_10_ : 0 ≤ z_10 ∧ z_10 ≤ 30 := by have q9 := (hn_dpm q3.toNat (by omega)).2.1; rw [show 3 * q3.toNat + 1 = (3 * q3 + 1).toNat by omega] at q9; omega
        refine lv_goto (tgt := 44) hx hb dX12_daysOf_40 (by decide) ?_
        refine lv_iadd hx hb dX12_daysOf_44 ?_
        refine lt_e (e0 := q2 + z_10) (Int32.ofInt_add _ _).symm (fun z_11 hz_11 => ?_)
        refine lv_istore_n (lv' := [(2, vI z_11), (3, vI q3), (0, vR mm), (1, vI se)]) hx hb dX12_daysOf_45 rfl hlv (by decide) rfl (fun ls hlv => ?_)
        obtain ⟨z_12, hz_12⟩ : ∃ z : Int, z = q3 + 1 := ⟨_, rfl⟩
        refine lv_iinc (v := iI z_12) (lv' := [(3, vI z_12), (2, vI z_11), (0, vR mm), (1, vI se)]) hx hb dX12_daysOf_46 hlv (k := 1) rfl (by rw [hz_12]; exact (Int32.ofInt_add _ _).symm) (by decide) rfl (fun ls hlv => ?_)
        refine lv_goto (tgt := 4) hx hb dX12_daysOf_49 (by decide) ?_
        exact ih4 z_11 z_12 H locs ls (by omega) (by omega) (by omega) (by omega) (by omega) (dyS_1 (T := 3 * q3 + 1) hl4_4 (by omega) ez_3 ez_4 (by omega) hxz_10_ rfl (by omega) (by omega))  (hP.sub [0, 1] rfl) (hD.sub [0, 1] (by decide) rfl) hS (lv_sub hlv [0, 1, 2, 3] rfl)
def vs_x_doing : List Cond := .code yX12_doing cX12_doing 4 (some .int) :: (([.fieldLink RX12 29 "KerbSplashModel" "s" "[I", .fieldLink RX12 74 "KerbSplashModel" "rest" "[I", .constant RX12 399 (iI 1000000)] : List Cond) ++ ((wsV RX12 396 RX12 yX12_daysOf vs_x_daysOf) ++ ((wsX120) ++ ([]))))
theorem gd_x_doing : vs_x_doing.all goodWord = true := gd_C (by decide +kernel) (gd_A (by decide +kernel) (gd_A (gd_V gd_x_daysOf (by decide +kernel)) (gd_A (by decide +kernel) rfl)))
set_option maxHeartbeats 4000000 in
set_option maxRecDepth 100000 in
theorem x_doing (l : Launch) (hl : l.stackTraces = false) (D : va_G) (cy : Nat → ClassId) (sa : Nat → Nat) (mm m1 m9 m10 m11 m12 m13 m14 m15 m19 m20 m21 m23 m24 m25 m26 m27 m28 m33 m35 : Nat) (th tp sz_ ap bad bk opn fp im nr nl sp_ wtc wcl ir ip shu sfa swr : Int) (f12 f35 : Nat → Int32) (se kk : Int) (sz : Nat) (hr_th : (-2147483648) ≤ th ∧ th ≤ 2147483647) (hr_tp : 0 ≤ tp ∧ tp ≤ 600) (hr_sz_ : 0 ≤ sz_ ∧ sz_ ≤ 600) (hr_ap : 0 ≤ ap ∧ ap ≤ 602) (hr_bad : (-1) ≤ bad ∧ bad ≤ 602) (hr_bk : 0 ≤ bk ∧ bk ≤ 4) (hr_opn : 0 ≤ opn ∧ opn ≤ 7) (hr_fp : (-2147483648) ≤ fp ∧ fp ≤ 2147483647) (hr_im : 0 ≤ im ∧ im ≤ 3) (hr_nr : 0 ≤ nr ∧ nr ≤ 4) (hr_nl : 0 ≤ nl ∧ nl ≤ 4) (hr_sp_ : 0 ≤ sp_ ∧ sp_ ≤ 602) (hr_wtc : (-2147483648) ≤ wtc ∧ wtc ≤ 2147483647) (hr_wcl : 0 ≤ wcl ∧ wcl ≤ 95) (hr_ir : 0 ≤ ir ∧ ir ≤ 5) (hr_ip : (-2147483648) ≤ ip ∧ ip ≤ 2147483647) (hr_shu : (-2147483648) ≤ shu ∧ shu ≤ 2147483647) (hr_sfa : (-2147483648) ≤ sfa ∧ sfa ≤ 2147483647) (hr_swr : (-2147483648) ≤ swr ∧ swr ≤ 2147483647) (hr_se : 0 ≤ se ∧ se ≤ 511) (hr_kk : 0 ≤ kk ∧ kk ≤ 8) (hp0 : kk < nz f12 357) (hp1 : se < ((2 ^ (nz f12 357).toNat : Nat) : Int)) (hn_dpm : DPR (DQ f12) (nz f12 357).toNat) (hn_bbm : ∀ j : Nat, se < (j : Int) → (j : Int) < ((2 ^ (nz f12 357).toNat : Nat) : Int) → 0 ≤ nz f35 j ∧ nz f35 j ≤ 9240570) (hn_nbm : ¬ bt se kk = iI 1) (hf12 : SI 8 f12) : Met l yX12_doing vs_x_doing ({ frames := 1, cells := 0, slots := 0, locals := 23 }) (va_Pc [vR mm, vI se, vI kk] (pcW D cy sa sz [zO mm 12 [vI th, vR m1, vI tp, vI sz_, vI ap, vI bad, vI bk, vI opn, vI fp, vR m9, vR m10, vR m11, vR m12, vR m13, vR m14, vR m15, vI im, vI nr, vI nl, vR m19, vR m20, vR m21, vI sp_, vR m23, vR m24, vR m25, vR m26, vR m27, vR m28, vI wtc, vI wcl, vI ir, vI ip, vR m33, vI shu, vR m35, vI sfa, vI swr], zI m12 (cy 0) 389 f12, zI m35 (cy 0) 512 f35])) (va_Qi (fun (r : Int32) (u : SV) => r = iI (u.2.1 0) ∧ (0 ≤ u.2.1 0 ∧ u.2.1 0 ≤ 10267300) ∧ ((u.2.1 0) = Wt (Yc (DQ f12) (nz f12 357).toNat) (nz f35) se kk) ∧ SI 8 f12) (fun u t => atW D (va_A [zO mm 12 [vI th, vR m1, vI tp, vI sz_, vI ap, vI bad, vI bk, vI opn, vI fp, vR m9, vR m10, vR m11, vR m12, vR m13, vR m14, vR m15, vI im, vI nr, vI nl, vR m19, vR m20, vR m21, vI sp_, vR m23, vR m24, vR m25, vR m26, vR m27, vR m28, vI wtc, vI wcl, vI ir, vI ip, vR m33, vI shu, vR m35, vI sfa, vI swr], zI m12 (cy 0) 389 f12, zI m35 (cy 0) 512 f35] sz) [zO mm 12 [vI th, vR m1, vI tp, vI sz_, vI ap, vI bad, vI bk, vI opn, vI fp, vR m9, vR m10, vR m11, vR m12, vR m13, vR m14, vR m15, vI im, vI nr, vI nl, vR m19, vR m20, vR m21, vI sp_, vR m23, vR m24, vR m25, vR m26, vR m27, vR m28, vI wtc, vI wcl, vI ir, vI ip, vR m33, vI shu, vR m35, vI sfa, vI swr], zI m12 (cy 0) 389 f12, zI m35 (cy 0) 512 f35] t) (va_A [zO mm 12 [vI th, vR m1, vI tp, vI sz_, vI ap, vI bad, vI bk, vI opn, vI fp, vR m9, vR m10, vR m11, vR m12, vR m13, vR m14, vR m15, vI im, vI nr, vI nl, vR m19, vR m20, vR m21, vI sp_, vR m23, vR m24, vR m25, vR m26, vR m27, vR m28, vI wtc, vI wcl, vI ir, vI ip, vR m33, vI shu, vR m35, vI sfa, vI swr], zI m12 (cy 0) 389 f12, zI m35 (cy 0) 512 f35] sz)) 0 0 (va_A [zO mm 12 [vI th, vR m1, vI tp, vI sz_, vI ap, vI bad, vI bk, vI opn, vI fp, vR m9, vR m10, vR m11, vR m12, vR m13, vR m14, vR m15, vI im, vI nr, vI nl, vR m19, vR m20, vR m21, vI sp_, vR m23, vR m24, vR m25, vR m26, vR m27, vR m28, vI wtc, vI wcl, vI ir, vI ip, vR m33, vI shu, vR m35, vI sfa, vI swr], zI m12 (cy 0) 389 f12, zI m35 (cy 0) 512 f35] sz) := by
  refine Met.ofW (cc := cX12_doing) (maxL := 4) (ret := (some .int)) (by decide) rfl ?_
  intro p e s m args below meth c s₁ B hml hv
  obtain ⟨rfl, hsz, hP, hG, hD0, hT⟩ := hv
  have hx := B.exec
  have hb := B.bytes
  have hr := B.returns
  have hts := atoms_spec (ws := vs_x_doing) B.pre
  have hown : s.vm.findClass RX12 = some m.cls := findClass_of_methodNamed B.named
  have hlocks := B.notSynchronized
  subst hsz
  have hD := hD0.self (sz := s.heap.size)
  generalize hAe : va_A [zO mm 12 [vI th, vR m1, vI tp, vI sz_, vI ap, vI bad, vI bk, vI opn, vI fp, vR m9, vR m10, vR m11, vR m12, vR m13, vR m14, vR m15, vI im, vI nr, vI nl, vR m19, vR m20, vR m21, vI sp_, vR m23, vR m24, vR m25, vR m26, vR m27, vR m28, vI wtc, vI wcl, vI ir, vI ip, vR m33, vI shu, vR m35, vI sfa, vI swr], zI m12 (cy 0) 389 f12, zI m35 (cy 0) 512 f35] s.heap.size = A at hD hT ⊢
  have hA : ∀ q : Nat, s.heap.size ≤ q → A q := fun q h => by rw [← hAe]; exact Or.inr h
  have hS : va_S A s.heap s.heap [] := va_S.rf
  have hl0 := lv_entry ([vR mm, vI se, vI kk]) (n := 4) (Nat.le_of_ble_eq_true rfl)
  rw [lg_entry_eq]
  generalize (lg_sl ([vR mm, vI se, vI kk]) ++ List.replicate (4 - (lg_sl ([vR mm, vI se, vI kk])).length) Slot.unset).toArray = ls at hl0 ⊢
  have hlv : lv_has ls 4 [(0, vR mm), (1, vI se), (2, vI kk)] := hl0
  have gg_0 : GoodIn vs_x_doing (wsV RX12 396 RX12 yX12_daysOf vs_x_daysOf) := goodIn_sub (fun w h => List.mem_cons_of_mem _ (List.mem_append_right _ (List.mem_append_left _ h))) (gd_V gd_x_daysOf (by decide +kernel))
  have lf29 := hts (.fieldLink RX12 29 "KerbSplashModel" "s" "[I") (List.mem_of_getElem? (i := 1) rfl)
  have hi12 : ∀ w ∈ wsX120, w ∈ vs_x_doing := fun w h => List.mem_cons_of_mem _ (List.mem_append_right _ (List.mem_append_right _ (List.mem_append_left _ h)))
  have lf74 := hts (.fieldLink RX12 74 "KerbSplashModel" "rest" "[I") (List.mem_of_getElem? (i := 2) rfl)
  have ld399 := hts (.constant RX12 399 (iI 1000000)) (List.mem_of_getElem? (i := 3) rfl)
  have h357 := hf12.2.2.2.2.2.1
  refine lv_aload_n hx hb dX12_doing_0 rfl (lv_at hlv 0 rfl) ?_
  refine lv_iload_n hx hb dX12_doing_1 rfl (lv_at hlv 1 rfl) ?_
  refine lv_iconst (v := iI 1) hx hb dX12_doing_2 (by decide) ?_
  refine lv_iload_n hx hb dX12_doing_3 rfl (lv_at hlv 2 rfl) ?_
  refine lv_ishl hx hb dX12_doing_4 ?_
  refine lt_sh2 (n := 8) (M := 256) (by decide) (by decide) (by omega) (fun z_1 ez_1 lz_1 hz_1 => ?_)
  refine lv_ior hx hb dX12_doing_5 ?_
  obtain ⟨z_2, ez_2, wz_2, hz_2⟩ := so_ex (a := se) (k := kk) (by omega) (by omega) ez_1
  refine lt_i (y := iI z_2) ez_2 ?_
  have hso := so_b (a := se) (k := kk) (n := (nz f12 357).toNat) (by omega) (by omega) (by omega) (by omega) hn_nbm
  rw [← wz_2] at hso
  refine cj_i (wr := [zI m35 (cy 0) 512 f35]) (va_runV (As := [vI z_2]) (rest := []) ⟨hx, hb, hml, hown, hts⟩ (x_daysOf l hl D cy sa mm m1 m9 m10 m11 m12 m13 m14 m15 m19 m20 m21 m23 m24 m25 m26 m27 m28 m33 m35 th tp sz_ ap bad bk opn fp im nr nl sp_ wtc wcl ir ip shu sfa swr f12 z_2 s.heap.size (by first | exact hr_th | omega) (by first | exact hr_tp | omega) (by first | exact hr_sz_ | omega) (by first | exact hr_ap | omega) (by first | exact hr_bad | omega) (by first | exact hr_bk | omega) (by first | exact hr_opn | omega) (by first | exact hr_fp | omega) (by first | exact hr_im | omega) (by first | exact hr_nr | omega) (by first | exact hr_nl | omega) (by first | exact hr_sp_ | omega) (by first | exact hr_wtc | omega) (by first | exact hr_wcl | omega) (by first | exact hr_ir | omega) (by first | exact hr_ip | omega) (by first | exact hr_shu | omega) (by first | exact hr_sfa | omega) (by first | exact hr_swr | omega) (by omega) hn_dpm hf12) (cwV 1 hts gg_0 rfl rfl rfl (by decide +kernel) ⟨Nat.le_of_ble_eq_true rfl, Nat.le_of_ble_eq_true rfl⟩) ⟨pcW.blind, (va_recv hG.1 hP (ci := 12) (q0 := 0) rfl rfl), (pcW.mk hP hD hS hA hG hT [0, 1] rfl (by decide))⟩ rfl rfl hlv.1 rfl (lv_room (Nat.le_of_ble_eq_true rfl)) dX12_doing_6 ⟨Nat.le_of_ble_eq_true rfl, Nat.le_of_ble_eq_true rfl⟩) hP hD hS hA [0, 1] [2] rfl rfl (by decide) (by decide) (fun r1 u1 H locs hw1 hP hD hS => ?_)
  obtain ⟨rfl, hq1_1, hq1_2, hq1_3⟩ := hw1
  have hP : va_P D vwCl [zI m35 (cy 0) 512 f35, zO mm 12 [vI th, vR m1, vI tp, vI sz_, vI ap, vI bad, vI bk, vI opn, vI fp, vR m9, vR m10, vR m11, vR m12, vR m13, vR m14, vR m15, vI im, vI nr, vI nl, vR m19, vR m20, vR m21, vI sp_, vR m23, vR m24, vR m25, vR m26, vR m27, vR m28, vI wtc, vI wcl, vI ir, vI ip, vR m33, vI shu, vR m35, vI sfa, vI swr], zI m12 (cy 0) 389 f12] H := hP
  have hD : va_D A [zI m35 (cy 0) 512 f35, zO mm 12 [vI th, vR m1, vI tp, vI sz_, vI ap, vI bad, vI bk, vI opn, vI fp, vR m9, vR m10, vR m11, vR m12, vR m13, vR m14, vR m15, vI im, vI nr, vI nl, vR m19, vR m20, vR m21, vI sp_, vR m23, vR m24, vR m25, vR m26, vR m27, vR m28, vI wtc, vI wcl, vI ir, vI ip, vR m33, vI shu, vR m35, vI sfa, vI swr], zI m12 (cy 0) 389 f12] := hD
  refine lv_istore_n (lv' := [(3, vI (u1.2.1 0)), (0, vR mm), (1, vI se), (2, vI kk)]) hx hb dX12_doing_9 rfl hlv (by decide) rfl (fun ls hlv => ?_)
  refine lv_iload_n hx hb dX12_doing_10 rfl (lv_at hlv 0 rfl) ?_
  refine lv_aload_n hx hb dX12_doing_11 rfl (lv_at hlv 1 rfl) ?_
  refine va_get (D := D) (ci := 12) (v := vR m12) (C := RX12) (T := TX12) (N := 38) hx hb hts hi12 hown hG.1 hP 1 rfl rfl 12 (by decide) lf29 (fun _ h9 => h9) rfl dX12_doing_12 ?_
  refine lv_sipush (v := iI 358) hx hb dX12_doing_15 (by decide) ?_
  refine lv_iconst (v := iI 3) hx hb dX12_doing_18 (by decide) ?_
  refine lv_iload_n hx hb dX12_doing_19 rfl (lv_at hlv 3 rfl) ?_
  refine lv_imul hx hb dX12_doing_20 ?_
  refine lt_e (e0 := 3 * kk) (Int32.ofInt_mul _ _).symm (fun z_3 hz_3 => ?_)
  refine lv_iadd hx hb dX12_doing_21 ?_
  refine lt_e (e0 := 358 + z_3) (Int32.ofInt_add _ _).symm (fun z_4 hz_4 => ?_)
  refine lv_iconst (v := iI 2) hx hb dX12_doing_22 (by decide) ?_
  refine lv_iadd hx hb dX12_doing_23 ?_
  refine lt_e (e0 := z_4 + 2) (Int32.ofInt_add _ _).symm (fun z_5 hz_5 => ?_)
  refine va_iald hx hb hG.1 hP 2 0 rfl rfl (iI_in (by omega) (by decide)) dX12_doing_24 ?_
  refine lt_nz (i := z_5) (by omega) (fun z_6 hz_6 lz_6 uz_6 => ?_)
  have hxz_6_ : z_6 = DQ f12 (3 * kk + 2).toNat := DQ_e hz_6 (by omega) (by omega)
  have hdz_6_ : 0 ≤ z_6 ∧ z_6 ≤ 99 := by have q9 := (hn_dpm kk.toNat (by omega)).2.2; rw [show 3 * kk.toNat + 2 = (3 * kk + 2).toNat by omega] at q9; omega
  refine ir_le (tgt := 34) hx hb dX12_doing_25 (by decide) (by first | exact rgw hq1_1 (by decide) (by decide) | omega) (by omega) (fun c_7 => ?_) (fun c_7 => ?_)
  · refine lv_iconst (v := iI 0) hx hb dX12_doing_34 (by decide) ?_
    refine lv_aload_n hx hb dX12_doing_35 rfl (lv_at hlv 1 rfl) ?_
    refine va_get (D := D) (ci := 12) (v := vR m12) (C := RX12) (T := TX12) (N := 38) hx hb hts hi12 hown hG.1 hP 1 rfl rfl 12 (by decide) lf29 (fun _ h9 => h9) rfl dX12_doing_36 ?_
    refine lv_sipush (v := iI 358) hx hb dX12_doing_39 (by decide) ?_
    refine lv_iconst (v := iI 3) hx hb dX12_doing_42 (by decide) ?_
    refine lv_iload_n hx hb dX12_doing_43 rfl (lv_at hlv 3 rfl) ?_
    refine lv_imul hx hb dX12_doing_44 ?_
    refine lt_e (e0 := 3 * kk) (Int32.ofInt_mul _ _).symm (fun z_8 hz_8 => ?_)
    refine lv_iadd hx hb dX12_doing_45 ?_
    refine lt_e (e0 := 358 + z_8) (Int32.ofInt_add _ _).symm (fun z_9 hz_9 => ?_)
    refine va_iald hx hb hG.1 hP 2 0 rfl rfl (iI_in (by omega) (by decide)) dX12_doing_46 ?_
    refine lt_nz (i := z_9) (by omega) (fun z_10 hz_10 lz_10 uz_10 => ?_)
    have hxz_10_ : z_10 = DQ f12 (3 * kk).toNat := DQ_e hz_10 (by omega) (by omega)
    have hdz_10_ : 0 ≤ z_10 ∧ z_10 ≤ 99 := by have q9 := (hn_dpm kk.toNat (by omega)).1; rw [show 3 * kk.toNat = (3 * kk).toNat by omega] at q9; omega
    refine lv_iload_n hx hb dX12_doing_47 rfl (lv_at hlv 0 rfl) ?_
    refine lv_imul hx hb dX12_doing_48 ?_
    refine lt_e (e0 := z_10 * (u1.2.1 0)) (Int32.ofInt_mul _ _).symm (fun z_11 hz_11 => ?_)
    have bz_11 : 0 ≤ z_11 ∧ z_11 ≤ 9801 := by rw [hz_11]; exact mul_bd (x := 99) (y := 99) (by omega) (by omega) (by decide)
    have hpe := hz_11
    refine lv_iadd hx hb dX12_doing_49 ?_
    refine lt_e (e0 := 0 + z_11) (Int32.ofInt_add _ _).symm (fun z_12 hz_12 => ?_)
    refine lv_aload_n hx hb dX12_doing_50 rfl (lv_at hlv 1 rfl) ?_
    refine va_get (D := D) (ci := 12) (v := vR m35) (C := RX12) (T := TX12) (N := 38) hx hb hts hi12 hown hG.1 hP 1 rfl rfl 35 (by decide) lf74 (fun _ h9 => h9) rfl dX12_doing_51 ?_
    refine lv_iload_n hx hb dX12_doing_54 rfl (lv_at hlv 2 rfl) ?_
    refine lv_iconst (v := iI 1) hx hb dX12_doing_55 (by decide) ?_
    refine lv_iload_n hx hb dX12_doing_56 rfl (lv_at hlv 3 rfl) ?_
    refine lv_ishl hx hb dX12_doing_57 ?_
    refine lt_sh2 (n := 8) (M := 256) (by decide) (by decide) (by omega) (fun z_13 ez_13 lz_13 hz_13 => ?_)
    refine lv_ior hx hb dX12_doing_58 ?_
    obtain ⟨z_14, ez_14, wz_14, hz_14⟩ := so_ex (a := se) (k := kk) (by omega) (by omega) ez_13
    refine lt_i (y := iI z_14) ez_14 ?_
    refine va_iald hx hb hG.1 hP 0 0 rfl rfl (iI_in (by omega) (by decide)) dX12_doing_59 ?_
    refine lt_nz (i := z_14) (by omega) (fun z_15 hz_15 lz_15 uz_15 => ?_)
    have hbz_15_ : 0 ≤ z_15 ∧ z_15 ≤ 9240570 := by have q9 := hn_bbm z_14.toNat (by omega) (by omega); omega
    refine lv_iadd hx hb dX12_doing_60 ?_
    refine lt_e (e0 := z_12 + z_15) (Int32.ofInt_add _ _).symm (fun z_16 hz_16 => ?_)
    refine W.widen (k := 0) (n := 0) (Nat.le_of_ble_eq_true rfl) (Nat.le_of_ble_eq_true rfl) ?_
    exact W.iret (v := iI z_16) hx hb hr (fun t ht hW => ⟨⟨iI z_16, ((fun k => ([] : List Nat).getD k 0), (fun k => ([z_16] : List Int).getD k 0), (fun k => ([] : List (Nat → Int32)).getD k (fun _ => 0))), rfl, ⟨rfl, (by show (0 ≤ z_16 ∧ z_16 ≤ 10267300); omega), (by show ((z_16) = Wt (Yc (DQ f12) (nz f12 357).toNat) (nz f35) se kk); exact (wg_e (n := (nz f12 357).toNat) (k := kk) (z := z_2) (dd := (u1.2.1 0)) (w := z_10) (dl := z_6) (y := z_15) (p := z_11) (T1 := 3 * kk) (T2 := 3 * kk + 2) (T3 := z_14) ⟨by omega, by omega⟩ wz_2 hq1_2 hxz_10_ rfl hxz_6_ rfl hz_15 (by omega) hpe (by omega))), hq1_3⟩, by rw [ht]; exact hP.sub [1, 2, 0] rfl, hD.sub [1, 2, 0] (by decide) rfl⟩, hS.F ht⟩) hS.2.2 dX12_doing_61
  · refine lv_ldcw (v := iI 1000000) hx hb hown ld399 dX12_doing_28 ?_
    refine lv_goto (tgt := 35) hx hb dX12_doing_31 (by decide) ?_
    refine lv_aload_n hx hb dX12_doing_35 rfl (lv_at hlv 1 rfl) ?_
    refine va_get (D := D) (ci := 12) (v := vR m12) (C := RX12) (T := TX12) (N := 38) hx hb hts hi12 hown hG.1 hP 1 rfl rfl 12 (by decide) lf29 (fun _ h9 => h9) rfl dX12_doing_36 ?_
    refine lv_sipush (v := iI 358) hx hb dX12_doing_39 (by decide) ?_
    refine lv_iconst (v := iI 3) hx hb dX12_doing_42 (by decide) ?_
    refine lv_iload_n hx hb dX12_doing_43 rfl (lv_at hlv 3 rfl) ?_
    refine lv_imul hx hb dX12_doing_44 ?_
    refine lt_e (e0 := 3 * kk) (Int32.ofInt_mul _ _).symm (fun z_17 hz_17 => ?_)
    refine lv_iadd hx hb dX12_doing_45 ?_
    refine lt_e (e0 := 358 + z_17) (Int32.ofInt_add _ _).symm (fun z_18 hz_18 => ?_)
    refine va_iald hx hb hG.1 hP 2 0 rfl rfl (iI_in (by omega) (by decide)) dX12_doing_46 ?_
    refine lt_nz (i := z_18) (by omega) (fun z_19 hz_19 lz_19 uz_19 => ?_)
    have hxz_19_ : z_19 = DQ f12 (3 * kk).toNat := DQ_e hz_19 (by omega) (by omega)
    have hdz_19_ : 0 ≤ z_19 ∧ z_19 ≤ 99 := by have q9 := (hn_dpm kk.toNat (by omega)).1; rw [show 3 * kk.toNat = (3 * kk).toNat by omega] at q9; omega
    refine lv_iload_n hx hb dX12_doing_47 rfl (lv_at hlv 0 rfl) ?_
    refine lv_imul hx hb dX12_doing_48 ?_
    refine lt_e (e0 := z_19 * (u1.2.1 0)) (Int32.ofInt_mul _ _).symm (fun z_20 hz_20 => ?_)
    have bz_20 : 0 ≤ z_20 ∧ z_20 ≤ 26730 := by rw [hz_20]; exact mul_bd (x := 99) (y := 270) (by omega) (by omega) (by decide)
    have hpe := hz_20
    refine lv_iadd hx hb dX12_doing_49 ?_
    refine lt_e (e0 := 1000000 + z_20) (Int32.ofInt_add _ _).symm (fun z_21 hz_21 => ?_)
    refine lv_aload_n hx hb dX12_doing_50 rfl (lv_at hlv 1 rfl) ?_
    refine va_get (D := D) (ci := 12) (v := vR m35) (C := RX12) (T := TX12) (N := 38) hx hb hts hi12 hown hG.1 hP 1 rfl rfl 35 (by decide) lf74 (fun _ h9 => h9) rfl dX12_doing_51 ?_
    refine lv_iload_n hx hb dX12_doing_54 rfl (lv_at hlv 2 rfl) ?_
    refine lv_iconst (v := iI 1) hx hb dX12_doing_55 (by decide) ?_
    refine lv_iload_n hx hb dX12_doing_56 rfl (lv_at hlv 3 rfl) ?_
    refine lv_ishl hx hb dX12_doing_57 ?_
    refine lt_sh2 (n := 8) (M := 256) (by decide) (by decide) (by omega) (fun z_22 ez_22 lz_22 hz_22 => ?_)
    refine lv_ior hx hb dX12_doing_58 ?_
    obtain ⟨z_23, ez_23, wz_23, hz_23⟩ := so_ex (a := se) (k := kk) (by omega) (by omega) ez_22
    refine lt_i (y := iI z_23) ez_23 ?_
    refine va_iald hx hb hG.1 hP 0 0 rfl rfl (iI_in (by omega) (by decide)) dX12_doing_59 ?_
    refine lt_nz (i := z_23) (by omega) (fun z_24 hz_24 lz_24 uz_24 => ?_)
    have hbz_24_ : 0 ≤ z_24 ∧ z_24 ≤ 9240570 := by have q9 := hn_bbm z_23.toNat (by omega) (by omega); omega
    refine lv_iadd hx hb dX12_doing_60 ?_
    refine lt_e (e0 := z_21 + z_24) (Int32.ofInt_add _ _).symm (fun z_25 hz_25 => ?_)
    refine W.widen (k := 0) (n := 0) (Nat.le_of_ble_eq_true rfl) (Nat.le_of_ble_eq_true rfl) ?_
    exact W.iret (v := iI z_25) hx hb hr (fun t ht hW => ⟨⟨iI z_25, ((fun k => ([] : List Nat).getD k 0), (fun k => ([z_25] : List Int).getD k 0), (fun k => ([] : List (Nat → Int32)).getD k (fun _ => 0))), rfl, ⟨rfl, (by show (0 ≤ z_25 ∧ z_25 ≤ 10267300); omega), (by show ((z_25) = Wt (Yc (DQ f12) (nz f12 357).toNat) (nz f35) se kk); exact (wg_e (n := (nz f12 357).toNat) (k := kk) (z := z_2) (dd := (u1.2.1 0)) (w := z_19) (dl := z_6) (y := z_24) (p := z_20) (T1 := 3 * kk) (T2 := 3 * kk + 2) (T3 := z_23) ⟨by omega, by omega⟩ wz_2 hq1_2 hxz_19_ rfl hxz_6_ rfl hz_24 (by omega) hpe (by omega))), hq1_3⟩, by rw [ht]; exact hP.sub [1, 2, 0] rfl, hD.sub [1, 2, 0] (by decide) rfl⟩, hS.F ht⟩) hS.2.2 dX12_doing_61
