
def vs_x_feed : List Cond := .code yX12_feed cX12_feed 8 (some .int) :: (([.fieldLink RX12 1 "KerbSplashModel" "thrown" "I", .fieldLink RX12 77 "KerbSplashModel" "taped" "I", .fieldLink RX12 20 "KerbSplashModel" "tape" "[I"] : List Cond) ++ ((wsX120) ++ ([])))
set_option maxHeartbeats 4000000 in
set_option maxRecDepth 100000 in
theorem x_feed (l : Launch) (hl : l.stackTraces = false) (D : va_G) (cy : Nat → ClassId) (sa : Nat → Nat) (mm m1 m9 m10 m11 m12 m13 m14 m15 m19 m20 m21 m23 m24 m25 m26 m27 m28 m33 m35 : Nat) (th tp sz_ ap bad bk opn fp im nr nl sp_ wtc wcl ir ip shu sfa swr : Int) (f9 : Nat → Int32) (a_ b_ c_ d_ e_ : Int) (sz : Nat) (hr_th : (-2147483648) ≤ th ∧ th ≤ 2147483647) (hr_tp : 0 ≤ tp ∧ tp ≤ 600) (hr_sz_ : 0 ≤ sz_ ∧ sz_ ≤ 600) (hr_ap : 0 ≤ ap ∧ ap ≤ 602) (hr_bad : (-1) ≤ bad ∧ bad ≤ 602) (hr_bk : 0 ≤ bk ∧ bk ≤ 4) (hr_opn : 0 ≤ opn ∧ opn ≤ 7) (hr_fp : (-2147483648) ≤ fp ∧ fp ≤ 2147483647) (hr_im : 0 ≤ im ∧ im ≤ 3) (hr_nr : 0 ≤ nr ∧ nr ≤ 4) (hr_nl : 0 ≤ nl ∧ nl ≤ 4) (hr_sp_ : 0 ≤ sp_ ∧ sp_ ≤ 602) (hr_wtc : (-2147483648) ≤ wtc ∧ wtc ≤ 2147483647) (hr_wcl : 0 ≤ wcl ∧ wcl ≤ 95) (hr_ir : 0 ≤ ir ∧ ir ≤ 5) (hr_ip : (-2147483648) ≤ ip ∧ ip ≤ 2147483647) (hr_shu : (-2147483648) ≤ shu ∧ shu ≤ 2147483647) (hr_sfa : (-2147483648) ≤ sfa ∧ sfa ≤ 2147483647) (hr_swr : (-2147483648) ≤ swr ∧ swr ≤ 2147483647) (hr_a_ : (-2147483648) ≤ a_ ∧ a_ ≤ 2147483647) (hr_b_ : (-2147483648) ≤ b_ ∧ b_ ≤ 2147483647) (hr_c_ : (-2147483648) ≤ c_ ∧ c_ ≤ 2147483647) (hr_d_ : (-2147483648) ≤ d_ ∧ d_ ≤ 2147483647) (hr_e_ : (-2147483648) ≤ e_ ∧ e_ ≤ 2147483647) (hf9 : inv_ 600 0 255 f9) : Met l yX12_feed vs_x_feed ({ frames := 0, cells := 0, slots := 0, locals := 0 }) (va_Pc [vR mm, vI a_, vI b_, vI c_, vI d_, vI e_] (pcW D cy sa sz [zO mm 12 [vI th, vR m1, vI tp, vI sz_, vI ap, vI bad, vI bk, vI opn, vI fp, vR m9, vR m10, vR m11, vR m12, vR m13, vR m14, vR m15, vI im, vI nr, vI nl, vR m19, vR m20, vR m21, vI sp_, vR m23, vR m24, vR m25, vR m26, vR m27, vR m28, vI wtc, vI wcl, vI ir, vI ip, vR m33, vI shu, vR m35, vI sfa, vI swr], zI m9 (cy 0) 600 f9])) (va_Qi (fun (r : Int32) (u : SV) => r = iI (u.2.1 0) ∧ (0 ≤ u.2.1 1 ∧ u.2.1 1 ≤ 600) ∧ ((-1) ≤ u.2.1 0 ∧ u.2.1 0 ≤ 600) ∧ (tp ≤ 580 → u.2.1 0 = tp + 20 ∧ u.2.1 1 = tp + 20) ∧ (580 < tp → u.2.1 0 = -1 ∧ u.2.1 1 = tp) ∧ (FeM f9 (u.2.2 0) tp a_ b_ c_ d_ e_) ∧ inv_ 600 0 255 (u.2.2 0)) (fun u t => atW D (va_A [zO mm 12 [vI th, vR m1, vI tp, vI sz_, vI ap, vI bad, vI bk, vI opn, vI fp, vR m9, vR m10, vR m11, vR m12, vR m13, vR m14, vR m15, vI im, vI nr, vI nl, vR m19, vR m20, vR m21, vI sp_, vR m23, vR m24, vR m25, vR m26, vR m27, vR m28, vI wtc, vI wcl, vI ir, vI ip, vR m33, vI shu, vR m35, vI sfa, vI swr], zI m9 (cy 0) 600 f9] sz) [zO mm 12 [vI 0, vR m1, vI (u.2.1 1), vI sz_, vI ap, vI bad, vI bk, vI opn, vI fp, vR m9, vR m10, vR m11, vR m12, vR m13, vR m14, vR m15, vI im, vI nr, vI nl, vR m19, vR m20, vR m21, vI sp_, vR m23, vR m24, vR m25, vR m26, vR m27, vR m28, vI wtc, vI wcl, vI ir, vI ip, vR m33, vI shu, vR m35, vI sfa, vI swr], zI m9 (cy 0) 600 (u.2.2 0)] t) (va_A [zO mm 12 [vI th, vR m1, vI tp, vI sz_, vI ap, vI bad, vI bk, vI opn, vI fp, vR m9, vR m10, vR m11, vR m12, vR m13, vR m14, vR m15, vI im, vI nr, vI nl, vR m19, vR m20, vR m21, vI sp_, vR m23, vR m24, vR m25, vR m26, vR m27, vR m28, vI wtc, vI wcl, vI ir, vI ip, vR m33, vI shu, vR m35, vI sfa, vI swr], zI m9 (cy 0) 600 f9] sz)) 0 0 (va_A [zO mm 12 [vI th, vR m1, vI tp, vI sz_, vI ap, vI bad, vI bk, vI opn, vI fp, vR m9, vR m10, vR m11, vR m12, vR m13, vR m14, vR m15, vI im, vI nr, vI nl, vR m19, vR m20, vR m21, vI sp_, vR m23, vR m24, vR m25, vR m26, vR m27, vR m28, vI wtc, vI wcl, vI ir, vI ip, vR m33, vI shu, vR m35, vI sfa, vI swr], zI m9 (cy 0) 600 f9] sz) := by
  refine Met.ofW (cc := cX12_feed) (maxL := 8) (ret := (some .int)) (by decide) rfl ?_
  intro p e s m args below meth c s₁ B hml hv
  obtain ⟨rfl, hsz, hP, hG, hD0, hT⟩ := hv
  have hx := B.exec
  have hb := B.bytes
  have hr := B.returns
  have hts := atoms_spec (ws := vs_x_feed) B.pre
  have hown : s.vm.findClass RX12 = some m.cls := findClass_of_methodNamed B.named
  have hlocks := B.notSynchronized
  subst hsz
  have hD := hD0.self (sz := s.heap.size)
  generalize hAe : va_A [zO mm 12 [vI th, vR m1, vI tp, vI sz_, vI ap, vI bad, vI bk, vI opn, vI fp, vR m9, vR m10, vR m11, vR m12, vR m13, vR m14, vR m15, vI im, vI nr, vI nl, vR m19, vR m20, vR m21, vI sp_, vR m23, vR m24, vR m25, vR m26, vR m27, vR m28, vI wtc, vI wcl, vI ir, vI ip, vR m33, vI shu, vR m35, vI sfa, vI swr], zI m9 (cy 0) 600 f9] s.heap.size = A at hD hT ⊢
  have hA : ∀ q : Nat, s.heap.size ≤ q → A q := fun q h => by rw [← hAe]; exact Or.inr h
  have hS : va_S A s.heap s.heap [] := va_S.rf
  have hl0 := lv_entry ([vR mm, vI a_, vI b_, vI c_, vI d_, vI e_]) (n := 8) (Nat.le_of_ble_eq_true rfl)
  rw [lg_entry_eq]
  generalize (lg_sl ([vR mm, vI a_, vI b_, vI c_, vI d_, vI e_]) ++ List.replicate (8 - (lg_sl ([vR mm, vI a_, vI b_, vI c_, vI d_, vI e_])).length) Slot.unset).toArray = ls at hl0 ⊢
  have hlv : lv_has ls 8 [(0, vR mm), (1, vI a_), (2, vI b_), (3, vI c_), (4, vI d_), (5, vI e_)] := hl0
  have lf1 := hts (.fieldLink RX12 1 "KerbSplashModel" "thrown" "I") (List.mem_of_getElem? (i := 1) rfl)
  have hi12 : ∀ w ∈ wsX120, w ∈ vs_x_feed := fun w h => List.mem_cons_of_mem _ (List.mem_append_right _ (List.mem_append_left _ h))
  have lf77 := hts (.fieldLink RX12 77 "KerbSplashModel" "taped" "I") (List.mem_of_getElem? (i := 2) rfl)
  have lf20 := hts (.fieldLink RX12 20 "KerbSplashModel" "tape" "[I") (List.mem_of_getElem? (i := 3) rfl)
  refine lv_aload_n hx hb dX12_feed_0 rfl (lv_at hlv 0 rfl) ?_
  refine lv_iconst (v := iI 0) hx hb dX12_feed_1 (by decide) ?_
  refine va_put (D := D) (ci := 12) (v := vI 0) (ty := .int) (C := RX12) (T := TX12) (N := 38) hx hb hts hi12 tyX12 tyX12_ok nmX12 hown hG.1 hP hD hS 0 rfl rfl 0 (by decide) lf1 (fun _ h9 => h9) rfl (by decide +kernel) rfl rfl (Nat.le_of_ble_eq_true rfl) dX12_feed_2 (fun H locs hP hD hS => ?_)
  have hP : va_P D vwCl [zO mm 12 [vI 0, vR m1, vI tp, vI sz_, vI ap, vI bad, vI bk, vI opn, vI fp, vR m9, vR m10, vR m11, vR m12, vR m13, vR m14, vR m15, vI im, vI nr, vI nl, vR m19, vR m20, vR m21, vI sp_, vR m23, vR m24, vR m25, vR m26, vR m27, vR m28, vI wtc, vI wcl, vI ir, vI ip, vR m33, vI shu, vR m35, vI sfa, vI swr], zI m9 (cy 0) 600 f9] H := hP
  have hD : va_D A [zO mm 12 [vI 0, vR m1, vI tp, vI sz_, vI ap, vI bad, vI bk, vI opn, vI fp, vR m9, vR m10, vR m11, vR m12, vR m13, vR m14, vR m15, vI im, vI nr, vI nl, vR m19, vR m20, vR m21, vI sp_, vR m23, vR m24, vR m25, vR m26, vR m27, vR m28, vI wtc, vI wcl, vI ir, vI ip, vR m33, vI shu, vR m35, vI sfa, vI swr], zI m9 (cy 0) 600 f9] := hD
  refine lv_aload_n hx hb dX12_feed_5 rfl (lv_at hlv 0 rfl) ?_
  refine va_get (D := D) (ci := 12) (v := vI tp) (C := RX12) (T := TX12) (N := 38) hx hb hts hi12 hown hG.1 hP 0 rfl rfl 2 (by decide) lf77 (fun _ h9 => h9) rfl dX12_feed_6 ?_
  refine lv_bipush (v := iI 20) hx hb dX12_feed_9 (by decide) ?_
  refine lv_iadd hx hb dX12_feed_11 ?_
  refine lt_e (e0 := tp + 20) (Int32.ofInt_add _ _).symm (fun z_1 hz_1 => ?_)
  refine lv_sipush (v := iI 600) hx hb dX12_feed_12 (by decide) ?_
  refine ir_le (tgt := 20) hx hb dX12_feed_15 (by decide) (by omega) (by show ((-2147483648) : Int) ≤ 600 ∧ (600 : Int) ≤ 2147483647; decide) (fun c_2 => ?_) (fun c_2 => ?_)
  · refine lv_iconst (v := iI 0) hx hb dX12_feed_20 (by decide) ?_
    refine lv_istore (lv' := [(6, vI 0), (0, vR mm), (1, vI a_), (2, vI b_), (3, vI c_), (4, vI d_), (5, vI e_)]) hx hb dX12_feed_21 hlv (by decide) rfl (fun ls hlv => ?_)
    refine (?_ : ∀ (fu : Nat) (q6 : Int) (qt : Int) (tg : Nat → Int32) (H : Heap) (locs : List Loc) (ls : Array Slot), 20 - q6 < (fu : Int) → (0 ≤ q6 ∧ q6 ≤ 20) → (0 ≤ qt ∧ qt ≤ 600) → (qt = tp + q6) → (FmP f9 tg tp a_ b_ c_ d_ e_ q6) → inv_ 600 0 255 tg → va_P D vwCl [zO mm 12 [vI 0, vR m1, vI qt, vI sz_, vI ap, vI bad, vI bk, vI opn, vI fp, vR m9, vR m10, vR m11, vR m12, vR m13, vR m14, vR m15, vI im, vI nr, vI nl, vR m19, vR m20, vR m21, vI sp_, vR m23, vR m24, vR m25, vR m26, vR m27, vR m28, vI wtc, vI wcl, vI ir, vI ip, vR m33, vI shu, vR m35, vI sfa, vI swr], zI m9 (cy 0) 600 tg] H → va_D A [zO mm 12 [vI 0, vR m1, vI qt, vI sz_, vI ap, vI bad, vI bk, vI opn, vI fp, vR m9, vR m10, vR m11, vR m12, vR m13, vR m14, vR m15, vI im, vI nr, vI nl, vR m19, vR m20, vR m21, vI sp_, vR m23, vR m24, vR m25, vR m26, vR m27, vR m28, vI wtc, vI wcl, vI ir, vI ip, vR m33, vI shu, vR m35, vI sfa, vI swr], zI m9 (cy 0) 600 tg] → va_S A s.heap H locs → lv_has ls 8 [(6, vI q6), (0, vR mm), (1, vI a_), (2, vI b_), (3, vI c_), (4, vI d_), (5, vI e_)] → W p l e _ s m _ below meth c H locs _ _ _ (F0 m 23 ls [])) (((20 - 0) + 1 : Int)).toNat 0 tp f9 _ _ _ (by omega) (by show (0 : Int) ≤ 0 ∧ (0 : Int) ≤ 20; decide) (by first | exact hr_tp | omega) (by omega) FmP_0 hf9 hP hD hS hlv
    clear hP hD hS hlv
    intro fu
    induction fu with
    | zero => intro q6 qt tg H locs ls hm23 hl23_0 hl23_1 hl23_2 hl23_3 hitg hP hD hS hlv; omega
    | succ fu ih23 =>
      intro q6 qt tg H locs ls hm23 hl23_0 hl23_1 hl23_2 hl23_3 hitg hP hD hS hlv
      refine lv_iload hx hb dX12_feed_23 (lv_at hlv 0 rfl) ?_
      refine lv_bipush (v := iI 20) hx hb dX12_feed_25 (by decide) ?_
      refine ir_ge (tgt := 120) hx hb dX12_feed_27 (by decide) (by first | exact rgw hl23_0 (by decide) (by decide) | omega) (by show ((-2147483648) : Int) ≤ 20 ∧ (20 : Int) ≤ 2147483647; decide) (fun c_3 => ?_) (fun c_3 => ?_)
      · refine lv_aload_n hx hb dX12_feed_120 rfl (lv_at hlv 1 rfl) ?_
        refine va_get (D := D) (ci := 12) (v := vI qt) (C := RX12) (T := TX12) (N := 38) hx hb hts hi12 hown hG.1 hP 0 rfl rfl 2 (by decide) lf77 (fun _ h9 => h9) rfl dX12_feed_121 ?_
        refine W.widen (k := 0) (n := 0) (Nat.le_of_ble_eq_true rfl) (Nat.le_of_ble_eq_true rfl) ?_
        exact W.iret (v := iI qt) hx hb hr (fun t ht hW => ⟨⟨iI qt, ((fun k => ([] : List Nat).getD k 0), (fun k => ([qt, qt] : List Int).getD k 0), (fun k => ([tg] : List (Nat → Int32)).getD k (fun _ => 0))), rfl, ⟨rfl, (by show (0 ≤ qt ∧ qt ≤ 600); first | exact hl23_1 | omega), (by show ((-1) ≤ qt ∧ qt ≤ 600); first | exact rgw hl23_1 (by decide) (by decide) | omega), (by show (tp ≤ 580 → qt = tp + 20 ∧ qt = tp + 20); omega), (by show (580 < tp → qt = -1 ∧ qt = tp); omega), (by show (FeM f9 (tg) tp a_ b_ c_ d_ e_); exact (FeM_e hl23_3 (by omega) (by omega))), hitg⟩, by rw [ht]; exact hP.sub [0, 1] rfl, hD.sub [0, 1] (by decide) rfl⟩, hS.F ht⟩) hS.2.2 dX12_feed_124
      · refine lv_iload hx hb dX12_feed_30 (lv_at hlv 0 rfl) ?_
        refine lv_iconst (v := iI 4) hx hb dX12_feed_32 (by decide) ?_
        refine ir_ge (tgt := 40) hx hb dX12_feed_33 (by decide) (by first | exact rgw hl23_0 (by decide) (by decide) | omega) (by show ((-2147483648) : Int) ≤ 4 ∧ (4 : Int) ≤ 2147483647; decide) (fun c_4 => ?_) (fun c_4 => ?_)
        · refine lv_iload hx hb dX12_feed_40 (lv_at hlv 0 rfl) ?_
          refine lv_bipush (v := iI 8) hx hb dX12_feed_42 (by decide) ?_
          refine ir_ge (tgt := 51) hx hb dX12_feed_44 (by decide) (by first | exact rgw hl23_0 (by decide) (by decide) | omega) (by show ((-2147483648) : Int) ≤ 8 ∧ (8 : Int) ≤ 2147483647; decide) (fun c_5 => ?_) (fun c_5 => ?_)
          · refine lv_iload hx hb dX12_feed_51 (lv_at hlv 0 rfl) ?_
            refine lv_bipush (v := iI 12) hx hb dX12_feed_53 (by decide) ?_
            refine ir_ge (tgt := 62) hx hb dX12_feed_55 (by decide) (by first | exact rgw hl23_0 (by decide) (by decide) | omega) (by show ((-2147483648) : Int) ≤ 12 ∧ (12 : Int) ≤ 2147483647; decide) (fun c_6 => ?_) (fun c_6 => ?_)
            · refine lv_iload hx hb dX12_feed_62 (lv_at hlv 0 rfl) ?_
              refine lv_bipush (v := iI 16) hx hb dX12_feed_64 (by decide) ?_
              refine ir_ge (tgt := 74) hx hb dX12_feed_66 (by decide) (by first | exact rgw hl23_0 (by decide) (by decide) | omega) (by show ((-2147483648) : Int) ≤ 16 ∧ (16 : Int) ≤ 2147483647; decide) (fun c_7 => ?_) (fun c_7 => ?_)
              · refine lv_iload hx hb dX12_feed_74 (lv_at hlv 6 rfl) ?_
                refine lv_istore (lv' := [(7, vI e_), (6, vI q6), (0, vR mm), (1, vI a_), (2, vI b_), (3, vI c_), (4, vI d_), (5, vI e_)]) hx hb dX12_feed_76 hlv (by decide) rfl (fun ls hlv => ?_)
                refine lv_aload_n hx hb dX12_feed_78 rfl (lv_at hlv 2 rfl) ?_
                refine va_get (D := D) (ci := 12) (v := vR m9) (C := RX12) (T := TX12) (N := 38) hx hb hts hi12 hown hG.1 hP 0 rfl rfl 9 (by decide) lf20 (fun _ h9 => h9) rfl dX12_feed_79 ?_
                refine lv_aload_n hx hb dX12_feed_82 rfl (lv_at hlv 2 rfl) ?_
                refine va_get (D := D) (ci := 12) (v := vI qt) (C := RX12) (T := TX12) (N := 38) hx hb hts hi12 hown hG.1 hP 0 rfl rfl 2 (by decide) lf77 (fun _ h9 => h9) rfl dX12_feed_83 ?_
                refine lv_iload hx hb dX12_feed_86 (lv_at hlv 0 rfl) ?_
                refine lv_bipush (v := iI 24) hx hb dX12_feed_88 (by decide) ?_
                refine lv_bipush (v := iI 8) hx hb dX12_feed_90 (by decide) ?_
                refine lv_iload hx hb dX12_feed_92 (lv_at hlv 1 rfl) ?_
                refine lv_iconst (v := iI 4) hx hb dX12_feed_94 (by decide) ?_
                refine lv_irem hx hb dX12_feed_95 (fun q => absurd ((iI_eq (a := 4) (b := 0) (by omega) (by omega)).mp q) (by omega)) ?_
                refine lt_z (fun z_8 ez_8 lz_8 hz_8 => ?_)
                refine lv_imul hx hb dX12_feed_96 ?_
                refine lt_z (fun z_9 ez_9 lz_9 hz_9 => ?_)
                refine lv_isub hx hb dX12_feed_97 ?_
                refine lt_z (fun z_10 ez_10 lz_10 hz_10 => ?_)
                refine lv_ishr hx hb dX12_feed_98 ?_
                refine lt_z (fun z_11 ez_11 lz_11 hz_11 => ?_)
                refine lv_sipush (v := iI 255) hx hb dX12_feed_99 (by decide) ?_
                refine lv_iand hx hb dX12_feed_102 ?_
                refine lt_aE 8 (by decide) (by decide) (hi := 255) (by decide) (fun z_12 ez_12 lz_12 hz_12 => ?_)
                refine va_iast hx hb hG.1 hP hD hS 1 0 rfl rfl (iI_in (by omega) (by decide)) dX12_feed_103 (fun H locs hP hD hS => ?_)
                have ⟨f_13, hdf_13, hP, hD⟩ : ∃ f_13 : Nat → Int32, f_13 = upd tg (iI qt).toNatClampNeg (iI z_12) ∧ va_P D vwCl [zO mm 12 [vI 0, vR m1, vI qt, vI sz_, vI ap, vI bad, vI bk, vI opn, vI fp, vR m9, vR m10, vR m11, vR m12, vR m13, vR m14, vR m15, vI im, vI nr, vI nl, vR m19, vR m20, vR m21, vI sp_, vR m23, vR m24, vR m25, vR m26, vR m27, vR m28, vI wtc, vI wcl, vI ir, vI ip, vR m33, vI shu, vR m35, vI sfa, vI swr], zI m9 (cy 0) 600 f_13] H ∧ va_D A [zO mm 12 [vI 0, vR m1, vI qt, vI sz_, vI ap, vI bad, vI bk, vI opn, vI fp, vR m9, vR m10, vR m11, vR m12, vR m13, vR m14, vR m15, vI im, vI nr, vI nl, vR m19, vR m20, vR m21, vI sp_, vR m23, vR m24, vR m25, vR m26, vR m27, vR m28, vI wtc, vI wcl, vI ir, vI ip, vR m33, vI shu, vR m35, vI sfa, vI swr], zI m9 (cy 0) 600 f_13] := ⟨_, rfl, hP, hD⟩
                have hif_13 : inv_ 600 0 255 f_13 := by rw [hdf_13]; exact inv_wr hitg (by omega)
                refine lv_aload_n hx hb dX12_feed_104 rfl (lv_at hlv 2 rfl) ?_
                refine lv_dup hx hb dX12_feed_105 rfl ?_
                refine va_get (D := D) (ci := 12) (v := vI qt) (C := RX12) (T := TX12) (N := 38) hx hb hts hi12 hown hG.1 hP 0 rfl rfl 2 (by decide) lf77 (fun _ h9 => h9) rfl dX12_feed_106 ?_
                refine lv_iconst (v := iI 1) hx hb dX12_feed_109 (by decide) ?_
                refine lv_iadd hx hb dX12_feed_110 ?_
                refine lt_e (e0 := qt + 1) (Int32.ofInt_add _ _).symm (fun z_14 hz_14 => ?_)
                refine va_put (D := D) (ci := 12) (v := vI z_14) (ty := .int) (C := RX12) (T := TX12) (N := 38) hx hb hts hi12 tyX12 tyX12_ok nmX12 hown hG.1 hP hD hS 0 rfl rfl 2 (by decide) lf77 (fun _ h9 => h9) rfl (by decide +kernel) rfl rfl (Nat.le_of_ble_eq_true rfl) dX12_feed_111 (fun H locs hP hD hS => ?_)
                have hP : va_P D vwCl [zO mm 12 [vI 0, vR m1, vI z_14, vI sz_, vI ap, vI bad, vI bk, vI opn, vI fp, vR m9, vR m10, vR m11, vR m12, vR m13, vR m14, vR m15, vI im, vI nr, vI nl, vR m19, vR m20, vR m21, vI sp_, vR m23, vR m24, vR m25, vR m26, vR m27, vR m28, vI wtc, vI wcl, vI ir, vI ip, vR m33, vI shu, vR m35, vI sfa, vI swr], zI m9 (cy 0) 600 f_13] H := hP
                have hD : va_D A [zO mm 12 [vI 0, vR m1, vI z_14, vI sz_, vI ap, vI bad, vI bk, vI opn, vI fp, vR m9, vR m10, vR m11, vR m12, vR m13, vR m14, vR m15, vI im, vI nr, vI nl, vR m19, vR m20, vR m21, vI sp_, vR m23, vR m24, vR m25, vR m26, vR m27, vR m28, vI wtc, vI wcl, vI ir, vI ip, vR m33, vI shu, vR m35, vI sfa, vI swr], zI m9 (cy 0) 600 f_13] := hD
                obtain ⟨z_15, hz_15⟩ : ∃ z : Int, z = q6 + 1 := ⟨_, rfl⟩
                refine lv_iinc (v := iI z_15) (lv' := [(6, vI z_15), (7, vI e_), (0, vR mm), (1, vI a_), (2, vI b_), (3, vI c_), (4, vI d_), (5, vI e_)]) hx hb dX12_feed_114 hlv (k := 1) rfl (by rw [hz_15]; exact (Int32.ofInt_add _ _).symm) (by decide) rfl (fun ls hlv => ?_)
                refine lv_goto (tgt := 23) hx hb dX12_feed_117 (by decide) ?_
                exact ih23 z_15 z_14 f_13 H locs ls (by omega) (by omega) (by omega) (by omega) (FmP_s hl23_3 (by omega) (by omega) (x := qt) (z := z_12) (by omega) (by omega) (by omega) hdf_13 ((fdq (by omega) (v := e_) (by omega) (by omega) (by omega) (by omega) (by omega) (by omega) (by decide) ez_8 ez_9 ez_10 ez_11 ez_12).trans (FD_q (by omega) (by omega)).symm) (by omega)) hif_13 (hP.sub [0, 1] rfl) (hD.sub [0, 1] (by decide) rfl) hS (lv_sub hlv [0, 2, 3, 4, 5, 6, 7] rfl)
              · refine lv_iload hx hb dX12_feed_69 (lv_at hlv 5 rfl) ?_
                refine lv_goto (tgt := 76) hx hb dX12_feed_71 (by decide) ?_
                refine lv_istore (lv' := [(7, vI d_), (6, vI q6), (0, vR mm), (1, vI a_), (2, vI b_), (3, vI c_), (4, vI d_), (5, vI e_)]) hx hb dX12_feed_76 hlv (by decide) rfl (fun ls hlv => ?_)
                refine lv_aload_n hx hb dX12_feed_78 rfl (lv_at hlv 2 rfl) ?_
                refine va_get (D := D) (ci := 12) (v := vR m9) (C := RX12) (T := TX12) (N := 38) hx hb hts hi12 hown hG.1 hP 0 rfl rfl 9 (by decide) lf20 (fun _ h9 => h9) rfl dX12_feed_79 ?_
                refine lv_aload_n hx hb dX12_feed_82 rfl (lv_at hlv 2 rfl) ?_
                refine va_get (D := D) (ci := 12) (v := vI qt) (C := RX12) (T := TX12) (N := 38) hx hb hts hi12 hown hG.1 hP 0 rfl rfl 2 (by decide) lf77 (fun _ h9 => h9) rfl dX12_feed_83 ?_
                refine lv_iload hx hb dX12_feed_86 (lv_at hlv 0 rfl) ?_
                refine lv_bipush (v := iI 24) hx hb dX12_feed_88 (by decide) ?_
                refine lv_bipush (v := iI 8) hx hb dX12_feed_90 (by decide) ?_
                refine lv_iload hx hb dX12_feed_92 (lv_at hlv 1 rfl) ?_
                refine lv_iconst (v := iI 4) hx hb dX12_feed_94 (by decide) ?_
                refine lv_irem hx hb dX12_feed_95 (fun q => absurd ((iI_eq (a := 4) (b := 0) (by omega) (by omega)).mp q) (by omega)) ?_
                refine lt_z (fun z_16 ez_16 lz_16 hz_16 => ?_)
                refine lv_imul hx hb dX12_feed_96 ?_
                refine lt_z (fun z_17 ez_17 lz_17 hz_17 => ?_)
                refine lv_isub hx hb dX12_feed_97 ?_
                refine lt_z (fun z_18 ez_18 lz_18 hz_18 => ?_)
                refine lv_ishr hx hb dX12_feed_98 ?_
                refine lt_z (fun z_19 ez_19 lz_19 hz_19 => ?_)
                refine lv_sipush (v := iI 255) hx hb dX12_feed_99 (by decide) ?_
                refine lv_iand hx hb dX12_feed_102 ?_
                refine lt_aE 8 (by decide) (by decide) (hi := 255) (by decide) (fun z_20 ez_20 lz_20 hz_20 => ?_)
                refine va_iast hx hb hG.1 hP hD hS 1 0 rfl rfl (iI_in (by omega) (by decide)) dX12_feed_103 (fun H locs hP hD hS => ?_)
                have ⟨f_21, hdf_21, hP, hD⟩ : ∃ f_21 : Nat → Int32, f_21 = upd tg (iI qt).toNatClampNeg (iI z_20) ∧ va_P D vwCl [zO mm 12 [vI 0, vR m1, vI qt, vI sz_, vI ap, vI bad, vI bk, vI opn, vI fp, vR m9, vR m10, vR m11, vR m12, vR m13, vR m14, vR m15, vI im, vI nr, vI nl, vR m19, vR m20, vR m21, vI sp_, vR m23, vR m24, vR m25, vR m26, vR m27, vR m28, vI wtc, vI wcl, vI ir, vI ip, vR m33, vI shu, vR m35, vI sfa, vI swr], zI m9 (cy 0) 600 f_21] H ∧ va_D A [zO mm 12 [vI 0, vR m1, vI qt, vI sz_, vI ap, vI bad, vI bk, vI opn, vI fp, vR m9, vR m10, vR m11, vR m12, vR m13, vR m14, vR m15, vI im, vI nr, vI nl, vR m19, vR m20, vR m21, vI sp_, vR m23, vR m24, vR m25, vR m26, vR m27, vR m28, vI wtc, vI wcl, vI ir, vI ip, vR m33, vI shu, vR m35, vI sfa, vI swr], zI m9 (cy 0) 600 f_21] := ⟨_, rfl, hP, hD⟩
                have hif_21 : inv_ 600 0 255 f_21 := by rw [hdf_21]; exact inv_wr hitg (by omega)
                refine lv_aload_n hx hb dX12_feed_104 rfl (lv_at hlv 2 rfl) ?_
                refine lv_dup hx hb dX12_feed_105 rfl ?_
                refine va_get (D := D) (ci := 12) (v := vI qt) (C := RX12) (T := TX12) (N := 38) hx hb hts hi12 hown hG.1 hP 0 rfl rfl 2 (by decide) lf77 (fun _ h9 => h9) rfl dX12_feed_106 ?_
                refine lv_iconst (v := iI 1) hx hb dX12_feed_109 (by decide) ?_
                refine lv_iadd hx hb dX12_feed_110 ?_
                refine lt_e (e0 := qt + 1) (Int32.ofInt_add _ _).symm (fun z_22 hz_22 => ?_)
                refine va_put (D := D) (ci := 12) (v := vI z_22) (ty := .int) (C := RX12) (T := TX12) (N := 38) hx hb hts hi12 tyX12 tyX12_ok nmX12 hown hG.1 hP hD hS 0 rfl rfl 2 (by decide) lf77 (fun _ h9 => h9) rfl (by decide +kernel) rfl rfl (Nat.le_of_ble_eq_true rfl) dX12_feed_111 (fun H locs hP hD hS => ?_)
                have hP : va_P D vwCl [zO mm 12 [vI 0, vR m1, vI z_22, vI sz_, vI ap, vI bad, vI bk, vI opn, vI fp, vR m9, vR m10, vR m11, vR m12, vR m13, vR m14, vR m15, vI im, vI nr, vI nl, vR m19, vR m20, vR m21, vI sp_, vR m23, vR m24, vR m25, vR m26, vR m27, vR m28, vI wtc, vI wcl, vI ir, vI ip, vR m33, vI shu, vR m35, vI sfa, vI swr], zI m9 (cy 0) 600 f_21] H := hP
                have hD : va_D A [zO mm 12 [vI 0, vR m1, vI z_22, vI sz_, vI ap, vI bad, vI bk, vI opn, vI fp, vR m9, vR m10, vR m11, vR m12, vR m13, vR m14, vR m15, vI im, vI nr, vI nl, vR m19, vR m20, vR m21, vI sp_, vR m23, vR m24, vR m25, vR m26, vR m27, vR m28, vI wtc, vI wcl, vI ir, vI ip, vR m33, vI shu, vR m35, vI sfa, vI swr], zI m9 (cy 0) 600 f_21] := hD
                obtain ⟨z_23, hz_23⟩ : ∃ z : Int, z = q6 + 1 := ⟨_, rfl⟩
                refine lv_iinc (v := iI z_23) (lv' := [(6, vI z_23), (7, vI d_), (0, vR mm), (1, vI a_), (2, vI b_), (3, vI c_), (4, vI d_), (5, vI e_)]) hx hb dX12_feed_114 hlv (k := 1) rfl (by rw [hz_23]; exact (Int32.ofInt_add _ _).symm) (by decide) rfl (fun ls hlv => ?_)
                refine lv_goto (tgt := 23) hx hb dX12_feed_117 (by decide) ?_
                exact ih23 z_23 z_22 f_21 H locs ls (by omega) (by omega) (by omega) (by omega) (FmP_s hl23_3 (by omega) (by omega) (x := qt) (z := z_20) (by omega) (by omega) (by omega) hdf_21 ((fdq (by omega) (v := d_) (by omega) (by omega) (by omega) (by omega) (by omega) (by omega) (by decide) ez_16 ez_17 ez_18 ez_19 ez_20).trans (FD_q (by omega) (by omega)).symm) (by omega)) hif_21 (hP.sub [0, 1] rfl) (hD.sub [0, 1] (by decide) rfl) hS (lv_sub hlv [0, 2, 3, 4, 5, 6, 7] rfl)
            · refine lv_iload_n hx hb dX12_feed_58 rfl (lv_at hlv 4 rfl) ?_
              refine lv_goto (tgt := 76) hx hb dX12_feed_59 (by decide) ?_
              refine lv_istore (lv' := [(7, vI c_), (6, vI q6), (0, vR mm), (1, vI a_), (2, vI b_), (3, vI c_), (4, vI d_), (5, vI e_)]) hx hb dX12_feed_76 hlv (by decide) rfl (fun ls hlv => ?_)
              refine lv_aload_n hx hb dX12_feed_78 rfl (lv_at hlv 2 rfl) ?_
              refine va_get (D := D) (ci := 12) (v := vR m9) (C := RX12) (T := TX12) (N := 38) hx hb hts hi12 hown hG.1 hP 0 rfl rfl 9 (by decide) lf20 (fun _ h9 => h9) rfl dX12_feed_79 ?_
              refine lv_aload_n hx hb dX12_feed_82 rfl (lv_at hlv 2 rfl) ?_
              refine va_get (D := D) (ci := 12) (v := vI qt) (C := RX12) (T := TX12) (N := 38) hx hb hts hi12 hown hG.1 hP 0 rfl rfl 2 (by decide) lf77 (fun _ h9 => h9) rfl dX12_feed_83 ?_
              refine lv_iload hx hb dX12_feed_86 (lv_at hlv 0 rfl) ?_
              refine lv_bipush (v := iI 24) hx hb dX12_feed_88 (by decide) ?_
              refine lv_bipush (v := iI 8) hx hb dX12_feed_90 (by decide) ?_
              refine lv_iload hx hb dX12_feed_92 (lv_at hlv 1 rfl) ?_
              refine lv_iconst (v := iI 4) hx hb dX12_feed_94 (by decide) ?_
              refine lv_irem hx hb dX12_feed_95 (fun q => absurd ((iI_eq (a := 4) (b := 0) (by omega) (by omega)).mp q) (by omega)) ?_
              refine lt_z (fun z_24 ez_24 lz_24 hz_24 => ?_)
              refine lv_imul hx hb dX12_feed_96 ?_
              refine lt_z (fun z_25 ez_25 lz_25 hz_25 => ?_)
              refine lv_isub hx hb dX12_feed_97 ?_
              refine lt_z (fun z_26 ez_26 lz_26 hz_26 => ?_)
              refine lv_ishr hx hb dX12_feed_98 ?_
              refine lt_z (fun z_27 ez_27 lz_27 hz_27 => ?_)
              refine lv_sipush (v := iI 255) hx hb dX12_feed_99 (by decide) ?_
              refine lv_iand hx hb dX12_feed_102 ?_
              refine lt_aE 8 (by decide) (by decide) (hi := 255) (by decide) (fun z_28 ez_28 lz_28 hz_28 => ?_)
              refine va_iast hx hb hG.1 hP hD hS 1 0 rfl rfl (iI_in (by omega) (by decide)) dX12_feed_103 (fun H locs hP hD hS => ?_)
              have ⟨f_29, hdf_29, hP, hD⟩ : ∃ f_29 : Nat → Int32, f_29 = upd tg (iI qt).toNatClampNeg (iI z_28) ∧ va_P D vwCl [zO mm 12 [vI 0, vR m1, vI qt, vI sz_, vI ap, vI bad, vI bk, vI opn, vI fp, vR m9, vR m10, vR m11, vR m12, vR m13, vR m14, vR m15, vI im, vI nr, vI nl, vR m19, vR m20, vR m21, vI sp_, vR m23, vR m24, vR m25, vR m26, vR m27, vR m28, vI wtc, vI wcl, vI ir, vI ip, vR m33, vI shu, vR m35, vI sfa, vI swr], zI m9 (cy 0) 600 f_29] H ∧ va_D A [zO mm 12 [vI 0, vR m1, vI qt, vI sz_, vI ap, vI bad, vI bk, vI opn, vI fp, vR m9, vR m10, vR m11, vR m12, vR m13, vR m14, vR m15, vI im, vI nr, vI nl, vR m19, vR m20, vR m21, vI sp_, vR m23, vR m24, vR m25, vR m26, vR m27, vR m28, vI wtc, vI wcl, vI ir, vI ip, vR m33, vI shu, vR m35, vI sfa, vI swr], zI m9 (cy 0) 600 f_29] := ⟨_, rfl, hP, hD⟩
              have hif_29 : inv_ 600 0 255 f_29 := by rw [hdf_29]; exact inv_wr hitg (by omega)
              refine lv_aload_n hx hb dX12_feed_104 rfl (lv_at hlv 2 rfl) ?_
              refine lv_dup hx hb dX12_feed_105 rfl ?_
              refine va_get (D := D) (ci := 12) (v := vI qt) (C := RX12) (T := TX12) (N := 38) hx hb hts hi12 hown hG.1 hP 0 rfl rfl 2 (by decide) lf77 (fun _ h9 => h9) rfl dX12_feed_106 ?_
              refine lv_iconst (v := iI 1) hx hb dX12_feed_109 (by decide) ?_
              refine lv_iadd hx hb dX12_feed_110 ?_
              refine lt_e (e0 := qt + 1) (Int32.ofInt_add _ _).symm (fun z_30 hz_30 => ?_)
              refine va_put (D := D) (ci := 12) (v := vI z_30) (ty := .int) (C := RX12) (T := TX12) (N := 38) hx hb hts hi12 tyX12 tyX12_ok nmX12 hown hG.1 hP hD hS 0 rfl rfl 2 (by decide) lf77 (fun _ h9 => h9) rfl (by decide +kernel) rfl rfl (Nat.le_of_ble_eq_true rfl) dX12_feed_111 (fun H locs hP hD hS => ?_)
              have hP : va_P D vwCl [zO mm 12 [vI 0, vR m1, vI z_30, vI sz_, vI ap, vI bad, vI bk, vI opn, vI fp, vR m9, vR m10, vR m11, vR m12, vR m13, vR m14, vR m15, vI im, vI nr, vI nl, vR m19, vR m20, vR m21, vI sp_, vR m23, vR m24, vR m25, vR m26, vR m27, vR m28, vI wtc, vI wcl, vI ir, vI ip, vR m33, vI shu, vR m35, vI sfa, vI swr], zI m9 (cy 0) 600 f_29] H := hP
              have hD : va_D A [zO mm 12 [vI 0, vR m1, vI z_30, vI sz_, vI ap, vI bad, vI bk, vI opn, vI fp, vR m9, vR m10, vR m11, vR m12, vR m13, vR m14, vR m15, vI im, vI nr, vI nl, vR m19, vR m20, vR m21, vI sp_, vR m23, vR m24, vR m25, vR m26, vR m27, vR m28, vI wtc, vI wcl, vI ir, vI ip, vR m33, vI shu, vR m35, vI sfa, vI swr], zI m9 (cy 0) 600 f_29] := hD
              obtain ⟨z_31, hz_31⟩ : ∃ z : Int, z = q6 + 1 := ⟨_, rfl⟩
              refine lv_iinc (v := iI z_31) (lv' := [(6, vI z_31), (7, vI c_), (0, vR mm), (1, vI a_), (2, vI b_), (3, vI c_), (4, vI d_), (5, vI e_)]) hx hb dX12_feed_114 hlv (k := 1) rfl (by rw [hz_31]; exact (Int32.ofInt_add _ _).symm) (by decide) rfl (fun ls hlv => ?_)
              refine lv_goto (tgt := 23) hx hb dX12_feed_117 (by decide) ?_
              exact ih23 z_31 z_30 f_29 H locs ls (by omega) (by omega) (by omega) (by omega) (FmP_s hl23_3 (by omega) (by omega) (x := qt) (z := z_28) (by omega) (by omega) (by omega) hdf_29 ((fdq (by omega) (v := c_) (by omega) (by omega) (by omega) (by omega) (by omega) (by omega) (by decide) ez_24 ez_25 ez_26 ez_27 ez_28).trans (FD_q (by omega) (by omega)).symm) (by omega)) hif_29 (hP.sub [0, 1] rfl) (hD.sub [0, 1] (by decide) rfl) hS (lv_sub hlv [0, 2, 3, 4, 5, 6, 7] rfl)
          · refine lv_iload_n hx hb dX12_feed_47 rfl (lv_at hlv 3 rfl) ?_
            refine lv_goto (tgt := 76) hx hb dX12_feed_48 (by decide) ?_
            refine lv_istore (lv' := [(7, vI b_), (6, vI q6), (0, vR mm), (1, vI a_), (2, vI b_), (3, vI c_), (4, vI d_), (5, vI e_)]) hx hb dX12_feed_76 hlv (by decide) rfl (fun ls hlv => ?_)
            refine lv_aload_n hx hb dX12_feed_78 rfl (lv_at hlv 2 rfl) ?_
            refine va_get (D := D) (ci := 12) (v := vR m9) (C := RX12) (T := TX12) (N := 38) hx hb hts hi12 hown hG.1 hP 0 rfl rfl 9 (by decide) lf20 (fun _ h9 => h9) rfl dX12_feed_79 ?_
            refine lv_aload_n hx hb dX12_feed_82 rfl (lv_at hlv 2 rfl) ?_
            refine va_get (D := D) (ci := 12) (v := vI qt) (C := RX12) (T := TX12) (N := 38) hx hb hts hi12 hown hG.1 hP 0 rfl rfl 2 (by decide) lf77 (fun _ h9 => h9) rfl dX12_feed_83 ?_
            refine lv_iload hx hb dX12_feed_86 (lv_at hlv 0 rfl) ?_
            refine lv_bipush (v := iI 24) hx hb dX12_feed_88 (by decide) ?_
            refine lv_bipush (v := iI 8) hx hb dX12_feed_90 (by decide) ?_
            refine lv_iload hx hb dX12_feed_92 (lv_at hlv 1 rfl) ?_
            refine lv_iconst (v := iI 4) hx hb dX12_feed_94 (by decide) ?_
            refine lv_irem hx hb dX12_feed_95 (fun q => absurd ((iI_eq (a := 4) (b := 0) (by omega) (by omega)).mp q) (by omega)) ?_
            refine lt_z (fun z_32 ez_32 lz_32 hz_32 => ?_)
            refine lv_imul hx hb dX12_feed_96 ?_
            refine lt_z (fun z_33 ez_33 lz_33 hz_33 => ?_)
            refine lv_isub hx hb dX12_feed_97 ?_
            refine lt_z (fun z_34 ez_34 lz_34 hz_34 => ?_)
            refine lv_ishr hx hb dX12_feed_98 ?_
            refine lt_z (fun z_35 ez_35 lz_35 hz_35 => ?_)
            refine lv_sipush (v := iI 255) hx hb dX12_feed_99 (by decide) ?_
            refine lv_iand hx hb dX12_feed_102 ?_
            refine lt_aE 8 (by decide) (by decide) (hi := 255) (by decide) (fun z_36 ez_36 lz_36 hz_36 => ?_)
            refine va_iast hx hb hG.1 hP hD hS 1 0 rfl rfl (iI_in (by omega) (by decide)) dX12_feed_103 (fun H locs hP hD hS => ?_)
            have ⟨f_37, hdf_37, hP, hD⟩ : ∃ f_37 : Nat → Int32, f_37 = upd tg (iI qt).toNatClampNeg (iI z_36) ∧ va_P D vwCl [zO mm 12 [vI 0, vR m1, vI qt, vI sz_, vI ap, vI bad, vI bk, vI opn, vI fp, vR m9, vR m10, vR m11, vR m12, vR m13, vR m14, vR m15, vI im, vI nr, vI nl, vR m19, vR m20, vR m21, vI sp_, vR m23, vR m24, vR m25, vR m26, vR m27, vR m28, vI wtc, vI wcl, vI ir, vI ip, vR m33, vI shu, vR m35, vI sfa, vI swr], zI m9 (cy 0) 600 f_37] H ∧ va_D A [zO mm 12 [vI 0, vR m1, vI qt, vI sz_, vI ap, vI bad, vI bk, vI opn, vI fp, vR m9, vR m10, vR m11, vR m12, vR m13, vR m14, vR m15, vI im, vI nr, vI nl, vR m19, vR m20, vR m21, vI sp_, vR m23, vR m24, vR m25, vR m26, vR m27, vR m28, vI wtc, vI wcl, vI ir, vI ip, vR m33, vI shu, vR m35, vI sfa, vI swr], zI m9 (cy 0) 600 f_37] := ⟨_, rfl, hP, hD⟩
            have hif_37 : inv_ 600 0 255 f_37 := by rw [hdf_37]; exact inv_wr hitg (by omega)
            refine lv_aload_n hx hb dX12_feed_104 rfl (lv_at hlv 2 rfl) ?_
            refine lv_dup hx hb dX12_feed_105 rfl ?_
            refine va_get (D := D) (ci := 12) (v := vI qt) (C := RX12) (T := TX12) (N := 38) hx hb hts hi12 hown hG.1 hP 0 rfl rfl 2 (by decide) lf77 (fun _ h9 => h9) rfl dX12_feed_106 ?_
            refine lv_iconst (v := iI 1) hx hb dX12_feed_109 (by decide) ?_
            refine lv_iadd hx hb dX12_feed_110 ?_
            refine lt_e (e0 := qt + 1) (Int32.ofInt_add _ _).symm (fun z_38 hz_38 => ?_)
            refine va_put (D := D) (ci := 12) (v := vI z_38) (ty := .int) (C := RX12) (T := TX12) (N := 38) hx hb hts hi12 tyX12 tyX12_ok nmX12 hown hG.1 hP hD hS 0 rfl rfl 2 (by decide) lf77 (fun _ h9 => h9) rfl (by decide +kernel) rfl rfl (Nat.le_of_ble_eq_true rfl) dX12_feed_111 (fun H locs hP hD hS => ?_)
            have hP : va_P D vwCl [zO mm 12 [vI 0, vR m1, vI z_38, vI sz_, vI ap, vI bad, vI bk, vI opn, vI fp, vR m9, vR m10, vR m11, vR m12, vR m13, vR m14, vR m15, vI im, vI nr, vI nl, vR m19, vR m20, vR m21, vI sp_, vR m23, vR m24, vR m25, vR m26, vR m27, vR m28, vI wtc, vI wcl, vI ir, vI ip, vR m33, vI shu, vR m35, vI sfa, vI swr], zI m9 (cy 0) 600 f_37] H := hP
            have hD : va_D A [zO mm 12 [vI 0, vR m1, vI z_38, vI sz_, vI ap, vI bad, vI bk, vI opn, vI fp, vR m9, vR m10, vR m11, vR m12, vR m13, vR m14, vR m15, vI im, vI nr, vI nl, vR m19, vR m20, vR m21, vI sp_, vR m23, vR m24, vR m25, vR m26, vR m27, vR m28, vI wtc, vI wcl, vI ir, vI ip, vR m33, vI shu, vR m35, vI sfa, vI swr], zI m9 (cy 0) 600 f_37] := hD
            obtain ⟨z_39, hz_39⟩ : ∃ z : Int, z = q6 + 1 := ⟨_, rfl⟩
            refine lv_iinc (v := iI z_39) (lv' := [(6, vI z_39), (7, vI b_), (0, vR mm), (1, vI a_), (2, vI b_), (3, vI c_), (4, vI d_), (5, vI e_)]) hx hb dX12_feed_114 hlv (k := 1) rfl (by rw [hz_39]; exact (Int32.ofInt_add _ _).symm) (by decide) rfl (fun ls hlv => ?_)
            refine lv_goto (tgt := 23) hx hb dX12_feed_117 (by decide) ?_
            exact ih23 z_39 z_38 f_37 H locs ls (by omega) (by omega) (by omega) (by omega) (FmP_s hl23_3 (by omega) (by omega) (x := qt) (z := z_36) (by omega) (by omega) (by omega) hdf_37 ((fdq (by omega) (v := b_) (by omega) (by omega) (by omega) (by omega) (by omega) (by omega) (by decide) ez_32 ez_33 ez_34 ez_35 ez_36).trans (FD_q (by omega) (by omega)).symm) (by omega)) hif_37 (hP.sub [0, 1] rfl) (hD.sub [0, 1] (by decide) rfl) hS (lv_sub hlv [0, 2, 3, 4, 5, 6, 7] rfl)
        · refine lv_iload_n hx hb dX12_feed_36 rfl (lv_at hlv 2 rfl) ?_
          refine lv_goto (tgt := 76) hx hb dX12_feed_37 (by decide) ?_
          refine lv_istore (lv' := [(7, vI a_), (6, vI q6), (0, vR mm), (1, vI a_), (2, vI b_), (3, vI c_), (4, vI d_), (5, vI e_)]) hx hb dX12_feed_76 hlv (by decide) rfl (fun ls hlv => ?_)
          refine lv_aload_n hx hb dX12_feed_78 rfl (lv_at hlv 2 rfl) ?_
          refine va_get (D := D) (ci := 12) (v := vR m9) (C := RX12) (T := TX12) (N := 38) hx hb hts hi12 hown hG.1 hP 0 rfl rfl 9 (by decide) lf20 (fun _ h9 => h9) rfl dX12_feed_79 ?_
          refine lv_aload_n hx hb dX12_feed_82 rfl (lv_at hlv 2 rfl) ?_
          refine va_get (D := D) (ci := 12) (v := vI qt) (C := RX12) (T := TX12) (N := 38) hx hb hts hi12 hown hG.1 hP 0 rfl rfl 2 (by decide) lf77 (fun _ h9 => h9) rfl dX12_feed_83 ?_
          refine lv_iload hx hb dX12_feed_86 (lv_at hlv 0 rfl) ?_
          refine lv_bipush (v := iI 24) hx hb dX12_feed_88 (by decide) ?_
          refine lv_bipush (v := iI 8) hx hb dX12_feed_90 (by decide) ?_
          refine lv_iload hx hb dX12_feed_92 (lv_at hlv 1 rfl) ?_
          refine lv_iconst (v := iI 4) hx hb dX12_feed_94 (by decide) ?_
          refine lv_irem hx hb dX12_feed_95 (fun q => absurd ((iI_eq (a := 4) (b := 0) (by omega) (by omega)).mp q) (by omega)) ?_
          refine lt_z (fun z_40 ez_40 lz_40 hz_40 => ?_)
          refine lv_imul hx hb dX12_feed_96 ?_
          refine lt_z (fun z_41 ez_41 lz_41 hz_41 => ?_)
          refine lv_isub hx hb dX12_feed_97 ?_
          refine lt_z (fun z_42 ez_42 lz_42 hz_42 => ?_)
          refine lv_ishr hx hb dX12_feed_98 ?_
          refine lt_z (fun z_43 ez_43 lz_43 hz_43 => ?_)
          refine lv_sipush (v := iI 255) hx hb dX12_feed_99 (by decide) ?_
          refine lv_iand hx hb dX12_feed_102 ?_
          refine lt_aE 8 (by decide) (by decide) (hi := 255) (by decide) (fun z_44 ez_44 lz_44 hz_44 => ?_)
          refine va_iast hx hb hG.1 hP hD hS 1 0 rfl rfl (iI_in (by omega) (by decide)) dX12_feed_103 (fun H locs hP hD hS => ?_)
          have ⟨f_45, hdf_45, hP, hD⟩ : ∃ f_45 : Nat → Int32, f_45 = upd tg (iI qt).toNatClampNeg (iI z_44) ∧ va_P D vwCl [zO mm 12 [vI 0, vR m1, vI qt, vI sz_, vI ap, vI bad, vI bk, vI opn, vI fp, vR m9, vR m10, vR m11, vR m12, vR m13, vR m14, vR m15, vI im, vI nr, vI nl, vR m19, vR m20, vR m21, vI sp_, vR m23, vR m24, vR m25, vR m26, vR m27, vR m28, vI wtc, vI wcl, vI ir, vI ip, vR m33, vI shu, vR m35, vI sfa, vI swr], zI m9 (cy 0) 600 f_45] H ∧ va_D A [zO mm 12 [vI 0, vR m1, vI qt, vI sz_, vI ap, vI bad, vI bk, vI opn, vI fp, vR m9, vR m10, vR m11, vR m12, vR m13, vR m14, vR m15, vI im, vI nr, vI nl, vR m19, vR m20, vR m21, vI sp_, vR m23, vR m24, vR m25, vR m26, vR m27, vR m28, vI wtc, vI wcl, vI ir, vI ip, vR m33, vI shu, vR m35, vI sfa, vI swr], zI m9 (cy 0) 600 f_45] := ⟨_, rfl, hP, hD⟩
          have hif_45 : inv_ 600 0 255 f_45 := by rw [hdf_45]; exact inv_wr hitg (by omega)
          refine lv_aload_n hx hb dX12_feed_104 rfl (lv_at hlv 2 rfl) ?_
          refine lv_dup hx hb dX12_feed_105 rfl ?_
          refine va_get (D := D) (ci := 12) (v := vI qt) (C := RX12) (T := TX12) (N := 38) hx hb hts hi12 hown hG.1 hP 0 rfl rfl 2 (by decide) lf77 (fun _ h9 => h9) rfl dX12_feed_106 ?_
          refine lv_iconst (v := iI 1) hx hb dX12_feed_109 (by decide) ?_
          refine lv_iadd hx hb dX12_feed_110 ?_
          refine lt_e (e0 := qt + 1) (Int32.ofInt_add _ _).symm (fun z_46 hz_46 => ?_)
          refine va_put (D := D) (ci := 12) (v := vI z_46) (ty := .int) (C := RX12) (T := TX12) (N := 38) hx hb hts hi12 tyX12 tyX12_ok nmX12 hown hG.1 hP hD hS 0 rfl rfl 2 (by decide) lf77 (fun _ h9 => h9) rfl (by decide +kernel) rfl rfl (Nat.le_of_ble_eq_true rfl) dX12_feed_111 (fun H locs hP hD hS => ?_)
          have hP : va_P D vwCl [zO mm 12 [vI 0, vR m1, vI z_46, vI sz_, vI ap, vI bad, vI bk, vI opn, vI fp, vR m9, vR m10, vR m11, vR m12, vR m13, vR m14, vR m15, vI im, vI nr, vI nl, vR m19, vR m20, vR m21, vI sp_, vR m23, vR m24, vR m25, vR m26, vR m27, vR m28, vI wtc, vI wcl, vI ir, vI ip, vR m33, vI shu, vR m35, vI sfa, vI swr], zI m9 (cy 0) 600 f_45] H := hP
          have hD : va_D A [zO mm 12 [vI 0, vR m1, vI z_46, vI sz_, vI ap, vI bad, vI bk, vI opn, vI fp, vR m9, vR m10, vR m11, vR m12, vR m13, vR m14, vR m15, vI im, vI nr, vI nl, vR m19, vR m20, vR m21, vI sp_, vR m23, vR m24, vR m25, vR m26, vR m27, vR m28, vI wtc, vI wcl, vI ir, vI ip, vR m33, vI shu, vR m35, vI sfa, vI swr], zI m9 (cy 0) 600 f_45] := hD
          obtain ⟨z_47, hz_47⟩ : ∃ z : Int, z = q6 + 1 := ⟨_, rfl⟩
          refine lv_iinc (v := iI z_47) (lv' := [(6, vI z_47), (7, vI a_), (0, vR mm), (1, vI a_), (2, vI b_), (3, vI c_), (4, vI d_), (5, vI e_)]) hx hb dX12_feed_114 hlv (k := 1) rfl (by rw [hz_47]; exact (Int32.ofInt_add _ _).symm) (by decide) rfl (fun ls hlv => ?_)
          refine lv_goto (tgt := 23) hx hb dX12_feed_117 (by decide) ?_
          exact ih23 z_47 z_46 f_45 H locs ls (by omega) (by omega) (by omega) (by omega) (FmP_s hl23_3 (by omega) (by omega) (x := qt) (z := z_44) (by omega) (by omega) (by omega) hdf_45 ((fdq (by omega) (v := a_) (by omega) (by omega) (by omega) (by omega) (by omega) (by omega) (by decide) ez_40 ez_41 ez_42 ez_43 ez_44).trans (FD_q (by omega) (by omega)).symm) (by omega)) hif_45 (hP.sub [0, 1] rfl) (hD.sub [0, 1] (by decide) rfl) hS (lv_sub hlv [0, 2, 3, 4, 5, 6, 7] rfl)
  · refine lv_iconst (v := iI (-1)) hx hb dX12_feed_18 (by decide) ?_
    refine W.widen (k := 0) (n := 0) (Nat.le_of_ble_eq_true rfl) (Nat.le_of_ble_eq_true rfl) ?_
    exact W.iret (v := iI (-1)) hx hb hr (fun t ht hW => ⟨⟨iI (-1), ((fun k => ([] : List Nat).getD k 0), (fun k => ([(-1), tp] : List Int).getD k 0), (fun k => ([f9] : List (Nat → Int32)).getD k (fun _ => 0))), rfl, ⟨rfl, (by show (0 ≤ tp ∧ tp ≤ 600); first | exact hr_tp | omega), (by show ((-1) ≤ (-1) ∧ (-1) ≤ 600); show ((-1) : Int) ≤ (-1) ∧ ((-1) : Int) ≤ 600; decide), (by show (tp ≤ 580 → (-1) = tp + 20 ∧ tp = tp + 20); omega), (by show (580 < tp → (-1) = -1 ∧ tp = tp); omega), (by show (FeM f9 (f9) tp a_ b_ c_ d_ e_); exact (FeM_n (by omega))), hf9⟩, by rw [ht]; exact hP.sub [0, 1] rfl, hD.sub [0, 1] (by decide) rfl⟩, hS.F ht⟩) hS.2.2 dX12_feed_19
