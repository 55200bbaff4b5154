section
theorem dX12_isWord_0 : decode cX12_isWord 0 = .ok (.aload_n 0, 1) := by decide +kernel
theorem dX12_isWord_1 : decode cX12_isWord 1 = .ok (.invokevirtual 92, 3) := by decide +kernel
theorem dX12_isWord_12 : decode cX12_isWord 12 = .ok (.if_icmp .ge 43, 3) := by decide +kernel
theorem dX12_isWord_15 : decode cX12_isWord 15 = .ok (.aload_n 0, 1) := by decide +kernel
theorem dX12_isWord_16 : decode cX12_isWord 16 = .ok (.getfield 86, 3) := by decide +kernel
theorem dX12_isWord_19 : decode cX12_isWord 19 = .ok (.iload_n 2, 1) := by decide +kernel
theorem dX12_isWord_20 : decode cX12_isWord 20 = .ok (.iadd, 1) := by decide +kernel
theorem dX12_isWord_21 : decode cX12_isWord 21 = .ok (.aload_n 0, 1) := by decide +kernel
theorem dX12_isWord_22 : decode cX12_isWord 22 = .ok (.getfield 89, 3) := by decide +kernel
theorem dX12_isWord_25 : decode cX12_isWord 25 = .ok (.if_icmp .ge 22, 3) := by decide +kernel
theorem dX12_isWord_28 : decode cX12_isWord 28 = .ok (.aload_n 0, 1) := by decide +kernel
theorem dX12_isWord_29 : decode cX12_isWord 29 = .ok (.getfield 20, 3) := by decide +kernel
theorem dX12_isWord_32 : decode cX12_isWord 32 = .ok (.aload_n 0, 1) := by decide +kernel
theorem dX12_isWord_33 : decode cX12_isWord 33 = .ok (.getfield 86, 3) := by decide +kernel
theorem dX12_isWord_36 : decode cX12_isWord 36 = .ok (.iload_n 2, 1) := by decide +kernel
theorem dX12_isWord_37 : decode cX12_isWord 37 = .ok (.iadd, 1) := by decide +kernel
theorem dX12_isWord_38 : decode cX12_isWord 38 = .ok (.iaload, 1) := by decide +kernel
theorem dX12_isWord_39 : decode cX12_isWord 39 = .ok (.aload_n 1, 1) := by decide +kernel
theorem dX12_isWord_4 : decode cX12_isWord 4 = .ok (.pop, 1) := by decide +kernel
theorem dX12_isWord_40 : decode cX12_isWord 40 = .ok (.iload_n 2, 1) := by decide +kernel
theorem dX12_isWord_41 : decode cX12_isWord 41 = .ok (.invokevirtual 105, 3) := by decide +kernel
theorem dX12_isWord_44 : decode cX12_isWord 44 = .ok (.if_icmp .eq 5, 3) := by decide +kernel
theorem dX12_isWord_47 : decode cX12_isWord 47 = .ok (.iconst 0, 1) := by decide +kernel
theorem dX12_isWord_48 : decode cX12_isWord 48 = .ok (.ireturn, 1) := by decide +kernel
theorem dX12_isWord_49 : decode cX12_isWord 49 = .ok (.iinc 2 1, 3) := by decide +kernel
theorem dX12_isWord_5 : decode cX12_isWord 5 = .ok (.iconst 0, 1) := by decide +kernel
theorem dX12_isWord_52 : decode cX12_isWord 52 = .ok (.goto (-45), 3) := by decide +kernel
theorem dX12_isWord_55 : decode cX12_isWord 55 = .ok (.aload_n 0, 1) := by decide +kernel
theorem dX12_isWord_56 : decode cX12_isWord 56 = .ok (.getfield 86, 3) := by decide +kernel
theorem dX12_isWord_59 : decode cX12_isWord 59 = .ok (.aload_n 1, 1) := by decide +kernel
theorem dX12_isWord_6 : decode cX12_isWord 6 = .ok (.istore_n 2, 1) := by decide +kernel
theorem dX12_isWord_60 : decode cX12_isWord 60 = .ok (.invokevirtual 100, 3) := by decide +kernel
theorem dX12_isWord_63 : decode cX12_isWord 63 = .ok (.iadd, 1) := by decide +kernel
theorem dX12_isWord_64 : decode cX12_isWord 64 = .ok (.aload_n 0, 1) := by decide +kernel
theorem dX12_isWord_65 : decode cX12_isWord 65 = .ok (.getfield 89, 3) := by decide +kernel
theorem dX12_isWord_68 : decode cX12_isWord 68 = .ok (.if_icmp .ge 23, 3) := by decide +kernel
theorem dX12_isWord_7 : decode cX12_isWord 7 = .ok (.iload_n 2, 1) := by decide +kernel
theorem dX12_isWord_71 : decode cX12_isWord 71 = .ok (.aload_n 0, 1) := by decide +kernel
theorem dX12_isWord_72 : decode cX12_isWord 72 = .ok (.getfield 20, 3) := by decide +kernel
theorem dX12_isWord_75 : decode cX12_isWord 75 = .ok (.aload_n 0, 1) := by decide +kernel
theorem dX12_isWord_76 : decode cX12_isWord 76 = .ok (.getfield 86, 3) := by decide +kernel
theorem dX12_isWord_79 : decode cX12_isWord 79 = .ok (.aload_n 1, 1) := by decide +kernel
theorem dX12_isWord_8 : decode cX12_isWord 8 = .ok (.aload_n 1, 1) := by decide +kernel
theorem dX12_isWord_80 : decode cX12_isWord 80 = .ok (.invokevirtual 100, 3) := by decide +kernel
theorem dX12_isWord_83 : decode cX12_isWord 83 = .ok (.iadd, 1) := by decide +kernel
theorem dX12_isWord_84 : decode cX12_isWord 84 = .ok (.iaload, 1) := by decide +kernel
theorem dX12_isWord_85 : decode cX12_isWord 85 = .ok (.invokestatic 96, 3) := by decide +kernel
theorem dX12_isWord_88 : decode cX12_isWord 88 = .ok (.ifCond .ne 7, 3) := by decide +kernel
theorem dX12_isWord_9 : decode cX12_isWord 9 = .ok (.invokevirtual 100, 3) := by decide +kernel
theorem dX12_isWord_91 : decode cX12_isWord 91 = .ok (.iconst 1, 1) := by decide +kernel
theorem dX12_isWord_92 : decode cX12_isWord 92 = .ok (.goto 4, 3) := by decide +kernel
theorem dX12_isWord_95 : decode cX12_isWord 95 = .ok (.iconst 0, 1) := by decide +kernel
theorem dX12_isWord_96 : decode cX12_isWord 96 = .ok (.ireturn, 1) := by decide +kernel
def Hid (p : Prop) : Prop := p
def vs_m_isWord : List Cond := .code yX12_isWord cX12_isWord 3 (some .boolean) :: (([.fieldLink RX12 86 "KerbSplashModel" "at" "I", .fieldLink RX12 89 "KerbSplashModel" "size" "I", .fieldLink RX12 20 "KerbSplashModel" "tape" "[I"] : List Cond) ++ ((wsV RX12 92 RX12 yX12_here vs_m_here) ++ ((wsV RX12 100 RJ0 yJ0_length_8abf5 vs_s_length) ++ ((wsX120) ++ ((wsV RX12 105 RJ0 yJ0_charAt_5068e vs_s_charAt) ++ ((va_wsS RX12 96 yX12_isSmall vs_m_isSmall) ++ ([])))))))
theorem gd_m_isWord : vs_m_isWord.all goodWord = true := gd_C (by decide +kernel) (gd_A (by decide +kernel) (gd_A (gd_V gd_m_here (by decide +kernel)) (gd_A (gd_V gd_s_length (by decide +kernel)) (gd_A (by decide +kernel) (gd_A (gd_V gd_s_charAt (by decide +kernel)) (gd_A (gd_S gd_m_isSmall (by decide +kernel)) rfl))))))
set_option maxHeartbeats 4000000 in
set_option maxRecDepth 100000 in
theorem m_isWord (l : Launch) (hl : l.stackTraces = false) (D : va_G) (cy : Nat → ClassId) (sa : Nat → Nat) (mm m1 m9 m10 m11 m12 m13 m14 m15 m19 m20 m21 m23 m24 m25 m26 m27 m28 m33 m35 : Nat) (th tp sz_ ap bad bk opn fp im nr nl sp_ wtc wcl ir ip shu sfa swr : Int) (f9 : Nat → Int32) (sz : Nat) (hr_th : (-2147483648) ≤ th ∧ th ≤ 2147483647) (hr_tp : 0 ≤ tp ∧ tp ≤ 600) (hr_sz_ : 0 ≤ sz_ ∧ sz_ ≤ 600) (hr_ap : 0 ≤ ap ∧ ap ≤ 602) (hr_bad : (-1) ≤ bad ∧ bad ≤ 602) (hr_bk : 0 ≤ bk ∧ bk ≤ 4) (hr_opn : 0 ≤ opn ∧ opn ≤ 7) (hr_fp : (-2147483648) ≤ fp ∧ fp ≤ 2147483647) (hr_im : 0 ≤ im ∧ im ≤ 3) (hr_nr : 0 ≤ nr ∧ nr ≤ 4) (hr_nl : 0 ≤ nl ∧ nl ≤ 4) (hr_sp_ : 0 ≤ sp_ ∧ sp_ ≤ 602) (hr_wtc : (-2147483648) ≤ wtc ∧ wtc ≤ 2147483647) (hr_wcl : 0 ≤ wcl ∧ wcl ≤ 95) (hr_ir : 0 ≤ ir ∧ ir ≤ 5) (hr_ip : (-2147483648) ≤ ip ∧ ip ≤ 2147483647) (hr_shu : (-2147483648) ≤ shu ∧ shu ≤ 2147483647) (hr_sfa : (-2147483648) ≤ sfa ∧ sfa ≤ 2147483647) (hr_swr : (-2147483648) ≤ swr ∧ swr ≤ 2147483647) (hf9 : inv_ 600 0 255 f9) : mI9 l yX12_isWord vs_m_isWord ({ frames := 4, cells := 0, slots := 0, locals := 85 }) D cy sa sz [vR mm, .ref (sn sa 33)] [zO mm 12 [vI th, vR m1, vI tp, vI sz_, vI ap, vI bad, vI bk, vI opn, vI fp, vR m9, vR m10, vR m11, vR m12, vR m13, vR m14, vR m15, vI im, vI nr, vI nl, vR m19, vR m20, vR m21, vI sp_, vR m23, vR m24, vR m25, vR m26, vR m27, vR m28, vI wtc, vI wcl, vI ir, vI ip, vR m33, vI shu, vR m35, vI sfa, vI swr], zI m9 (cy 0) 600 f9] (fun (r : Int32) (u : SV) => r = iI (u.2.1 0) ∧ (0 ≤ u.2.1 1 ∧ u.2.1 1 ≤ 602) ∧ (0 ≤ u.2.1 0 ∧ u.2.1 0 ≤ 1) ∧ (ap ≤ u.2.1 1) ∧ (ap ≤ sz_ → u.2.1 1 ≤ sz_) ∧ (u.2.1 1 < sz_ → nz f9 (u.2.1 1).toNat ≠ 32) ∧ ((ap < sz_ → nz f9 ap.toNat ≠ 32) → u.2.1 1 = ap) ∧ (u.2.1 0 = 1 → u.2.1 1 < sz_ ∧ nz f9 (u.2.1 1).toNat = 115) ∧ inv_ 600 0 255 f9) (fun u : SV => [zO mm 12 [vI th, vR m1, vI tp, vI sz_, vI (u.2.1 1), vI bad, vI bk, vI opn, vI fp, vR m9, vR m10, vR m11, vR m12, vR m13, vR m14, vR m15, vI im, vI nr, vI nl, vR m19, vR m20, vR m21, vI sp_, vR m23, vR m24, vR m25, vR m26, vR m27, vR m28, vI wtc, vI wcl, vI ir, vI ip, vR m33, vI shu, vR m35, vI sfa, vI swr], zI m9 (cy 0) 600 f9]) 0 0 := by
  refine Met.ofW (cc := cX12_isWord) (maxL := 3) (ret := (some .boolean)) (by decide) rfl ?_
  intro p e s m args below meth c s₁ B hml hv
  obtain ⟨rfl, hsz, hP, hG, hD0, hT⟩ := hv
  have hx := B.exec
  have hb := B.bytes
  have hr := B.returns
  have hts := atoms_spec (ws := vs_m_isWord) B.pre
  have hown : s.vm.findClass RX12 = some m.cls := findClass_of_methodNamed B.named
  have hlocks := B.notSynchronized
  subst hsz
  have hD := hD0.self (sz := s.heap.size)
  generalize hAe : va_A [zO mm 12 [vI th, vR m1, vI tp, vI sz_, vI ap, vI bad, vI bk, vI opn, vI fp, vR m9, vR m10, vR m11, vR m12, vR m13, vR m14, vR m15, vI im, vI nr, vI nl, vR m19, vR m20, vR m21, vI sp_, vR m23, vR m24, vR m25, vR m26, vR m27, vR m28, vI wtc, vI wcl, vI ir, vI ip, vR m33, vI shu, vR m35, vI sfa, vI swr], zI m9 (cy 0) 600 f9] s.heap.size = A at hD hT ⊢
  have hA : ∀ q : Nat, s.heap.size ≤ q → A q := fun q h => by rw [← hAe]; exact Or.inr h
  have hS : va_S A s.heap s.heap [] := va_S.rf
  have hl0 := lv_entry ([vR mm, .ref (sn sa 33)]) (n := 3) (Nat.le_of_ble_eq_true rfl)
  rw [lg_entry_eq]
  generalize (lg_sl ([vR mm, .ref (sn sa 33)]) ++ List.replicate (3 - (lg_sl ([vR mm, .ref (sn sa 33)])).length) Slot.unset).toArray = ls at hl0 ⊢
  have hlv : lv_has ls 3 [(0, vR mm), (1, .ref (sn sa 33))] := hl0
  have gg_0 : GoodIn vs_m_isWord (wsV RX12 92 RX12 yX12_here vs_m_here) := goodIn_sub (fun w h => List.mem_cons_of_mem _ (List.mem_append_right _ (List.mem_append_left _ h))) (gd_V gd_m_here (by decide +kernel))
  have gg_1 : GoodIn vs_m_isWord (wsV RX12 100 RJ0 yJ0_length_8abf5 vs_s_length) := goodIn_sub (fun w h => List.mem_cons_of_mem _ (List.mem_append_right _ (List.mem_append_right _ (List.mem_append_left _ h)))) (gd_V gd_s_length (by decide +kernel))
  have lf86 := hts (.fieldLink RX12 86 "KerbSplashModel" "at" "I") (List.mem_of_getElem? (i := 1) rfl)
  have hi12 : ∀ w ∈ wsX120, w ∈ vs_m_isWord := fun w h => List.mem_cons_of_mem _ (List.mem_append_right _ (List.mem_append_right _ (List.mem_append_right _ (List.mem_append_left _ h))))
  have lf89 := hts (.fieldLink RX12 89 "KerbSplashModel" "size" "I") (List.mem_of_getElem? (i := 2) rfl)
  have lf20 := hts (.fieldLink RX12 20 "KerbSplashModel" "tape" "[I") (List.mem_of_getElem? (i := 3) rfl)
  have gg_3 : GoodIn vs_m_isWord (wsV RX12 105 RJ0 yJ0_charAt_5068e vs_s_charAt) := goodIn_sub (fun w h => List.mem_cons_of_mem _ (List.mem_append_right _ (List.mem_append_right _ (List.mem_append_right _ (List.mem_append_right _ (List.mem_append_left _ h)))))) (gd_V gd_s_charAt (by decide +kernel))
  have gg_4 : GoodIn vs_m_isWord (va_wsS RX12 96 yX12_isSmall vs_m_isSmall) := goodIn_sub (fun w h => List.mem_cons_of_mem _ (List.mem_append_right _ (List.mem_append_right _ (List.mem_append_right _ (List.mem_append_right _ (List.mem_append_right _ (List.mem_append_left _ h))))))) (gd_S gd_m_isSmall (by decide +kernel))
  refine lv_aload_n hx hb dX12_isWord_0 rfl (lv_at hlv 0 rfl) ?_
  refine cjr_i [false, false] (fun pre9 => (va_runV (As := []) (rest := []) ⟨hx, hb, hml, hown, hts⟩ (m_here l hl D cy sa mm m1 m9 m10 m11 m12 m13 m14 m15 m19 m20 m21 m23 m24 m25 m26 m27 m28 m33 m35 th tp sz_ ap bad bk opn fp im nr nl sp_ wtc wcl ir ip shu sfa swr f9 s.heap.size (by first | exact hr_th | omega) (by first | exact hr_tp | omega) (by first | exact hr_sz_ | omega) (by first | exact hr_ap | omega) (by first | exact hr_bad | omega) (by first | exact hr_bk | omega) (by first | exact hr_opn | omega) (by first | exact hr_fp | omega) (by first | exact hr_im | omega) (by first | exact hr_nr | omega) (by first | exact hr_nl | omega) (by first | exact hr_sp_ | omega) (by first | exact hr_wtc | omega) (by first | exact hr_wcl | omega) (by first | exact hr_ir | omega) (by first | exact hr_ip | omega) (by first | exact hr_shu | omega) (by first | exact hr_sfa | omega) (by first | exact hr_swr | omega) hf9) (cwV 0 hts gg_0 rfl rfl rfl (by decide +kernel) ⟨Nat.le_of_ble_eq_true rfl, Nat.le_of_ble_eq_true rfl⟩) ⟨pcW.blind, (va_recv hG.1 hP (ci := 12) (q0 := 0) rfl rfl), pre9⟩ rfl rfl hlv.1 rfl (lv_room (Nat.le_of_ble_eq_true rfl)) dX12_isWord_1 ⟨Nat.le_of_ble_eq_true rfl, Nat.le_of_ble_eq_true rfl⟩)) hP hD hS hA hG hT [0, 1] rfl (by decide +kernel) (fun r1 u1 H locs hw1 hq9 hS => ?_)
  obtain ⟨rfl, hq1_1, hq1_2, hq1_3, hq1_4, hq1_5, hq1_6, hq1_7, hq1_8, hq1_9⟩ := hw1
  obtain ⟨hP, hD⟩ := pd9 [zO mm 12 [vI th, vR m1, vI tp, vI sz_, vI (u1.2.1 1), vI bad, vI bk, vI opn, vI fp, vR m9, vR m10, vR m11, vR m12, vR m13, vR m14, vR m15, vI im, vI nr, vI nl, vR m19, vR m20, vR m21, vI sp_, vR m23, vR m24, vR m25, vR m26, vR m27, vR m28, vI wtc, vI wcl, vI ir, vI ip, vR m33, vI shu, vR m35, vI sfa, vI swr], zI m9 (cy 0) 600 f9] hq9
  refine lv_pop hx hb dX12_isWord_4 rfl ?_
  have hk4 := (show Hid _ from hq1_4)
  have hk6 := (show Hid _ from hq1_6)
  have hk7 := (show Hid _ from hq1_7)
  have hk8 := (show Hid _ from hq1_8)
  clear hq1_3 hq1_5 hq1_6 hq1_7 hq1_8
  refine lv_iconst (v := iI 0) hx hb dX12_isWord_5 (by decide) ?_
  refine lv_istore_n (lv' := [(2, vI 0), (0, vR mm), (1, .ref (sn sa 33))]) hx hb dX12_isWord_6 rfl hlv (by decide) rfl (fun ls hlv => ?_)
  refine lv_iload_n hx hb dX12_isWord_7 rfl (lv_at hlv 0 rfl) ?_
  refine lv_aload_n hx hb dX12_isWord_8 rfl (lv_at hlv 2 rfl) ?_
  refine cjr_i [true, true] (fun pre9 => (va_runV (As := []) (rest := [vI 0]) ⟨hx, hb, hml, hown, hts⟩ (s_length l hl D cy sa 33 H.size (by show (0 : Int) ≤ 33 ∧ (33 : Int) ≤ 55; decide)) (cwV 0 hts gg_1 rfl rfl rfl (by decide +kernel) ⟨Nat.le_of_ble_eq_true rfl, Nat.le_of_ble_eq_true rfl⟩) ⟨pcW.blind, (wo_recv (WD.tx hT.2.2 (33 : Int).toNat (by omega)).1 hS), pre9⟩ rfl rfl hlv.1 rfl (lv_room (Nat.le_of_ble_eq_true rfl)) dX12_isWord_9 ⟨Nat.le_of_ble_eq_true rfl, Nat.le_of_ble_eq_true rfl⟩)) hP hD hS hA hG hT [] rfl (by decide +kernel) (fun r2 u2 H locs hw2 hq9 hS => ?_)
  obtain ⟨rfl, hq2_1, hq2_2⟩ := hw2
  obtain ⟨hP, hD⟩ := pd9 [zO mm 12 [vI th, vR m1, vI tp, vI sz_, vI (u1.2.1 1), vI bad, vI bk, vI opn, vI fp, vR m9, vR m10, vR m11, vR m12, vR m13, vR m14, vR m15, vI im, vI nr, vI nl, vR m19, vR m20, vR m21, vI sp_, vR m23, vR m24, vR m25, vR m26, vR m27, vR m28, vI wtc, vI wcl, vI ir, vI ip, vR m33, vI shu, vR m35, vI sfa, vI swr], zI m9 (cy 0) 600 f9] hq9
  have hev2 : (u2.2.1 0) = 7 := by first | (rw [hq2_2]; rfl) | omega
  refine lt_i (y := iI 7) (by rw [show (u2.2.1 0) = 7 by omega]) ?_
  refine ir_ge (tgt := 55) hx hb dX12_isWord_12 (by decide) (by show ((-2147483648) : Int) ≤ 0 ∧ (0 : Int) ≤ 2147483647; decide) (by show ((-2147483648) : Int) ≤ 7 ∧ (7 : Int) ≤ 2147483647; decide) (fun c_1 => by exfalso; omega) (fun c_1 => ?_)
  refine lv_aload_n hx hb dX12_isWord_15 rfl (lv_at hlv 1 rfl) ?_
  refine va_get (D := D) (ci := 12) (v := vI (u1.2.1 1)) (C := RX12) (T := TX12) (N := 38) hx hb hts hi12 hown hG.1 hP 0 rfl rfl 4 (by decide) lf86 (fun _ h9 => h9) rfl dX12_isWord_16 ?_
  refine lv_iload_n hx hb dX12_isWord_19 rfl (lv_at hlv 0 rfl) ?_
  refine lv_iadd hx hb dX12_isWord_20 ?_
  refine lt_i (y := iI (u1.2.1 1)) (by rw [show iI (u1.2.1 1) + iI 0 = iI ((u1.2.1 1) + 0) from (Int32.ofInt_add _ _).symm, Int.add_zero]) ?_
  refine lv_aload_n hx hb dX12_isWord_21 rfl (lv_at hlv 1 rfl) ?_
  refine va_get (D := D) (ci := 12) (v := vI sz_) (C := RX12) (T := TX12) (N := 38) hx hb hts hi12 hown hG.1 hP 0 rfl rfl 3 (by decide) lf89 (fun _ h9 => h9) rfl dX12_isWord_22 ?_
  refine ir_ge (tgt := 47) hx hb dX12_isWord_25 (by decide) (by first | exact rgw hq1_1 (by decide) (by decide) | omega) (by first | exact rgw hr_sz_ (by decide) (by decide) | omega) (fun c_2 => ?_) (fun c_2 => ?_)
  · refine lv_iconst (v := iI 0) hx hb dX12_isWord_47 (by decide) ?_
    refine W.widen (k := 0) (n := 0) (Nat.le_of_ble_eq_true rfl) (Nat.le_of_ble_eq_true rfl) ?_
    exact W.zret (v := iI 0) hx hb hr (by first | rfl | decide) (fun t ht hW => ⟨⟨iI 0, ((fun k => ([] : List Nat).getD k 0), (fun k => ([0, (u1.2.1 1)] : List Int).getD k 0), (fun k => ([] : List (Nat → Int32)).getD k (fun _ => 0))), rfl, ⟨rfl, (by show (0 ≤ (u1.2.1 1) ∧ (u1.2.1 1) ≤ 602); first | exact hq1_1 | omega), (by show (0 ≤ 0 ∧ 0 ≤ 1); show (0 : Int) ≤ 0 ∧ (0 : Int) ≤ 1; decide), (by show (ap ≤ (u1.2.1 1)); first | exact hk4 | exact hk6 | exact hk7 | exact hk8), (by show (ap ≤ sz_ → (u1.2.1 1) ≤ sz_); first | exact hk4 | exact hk6 | exact hk7 | exact hk8), (by show ((u1.2.1 1) < sz_ → nz f9 ((u1.2.1 1)).toNat ≠ 32); first | exact hk4 | exact hk6 | exact hk7 | exact hk8), (by show ((ap < sz_ → nz f9 ap.toNat ≠ 32) → (u1.2.1 1) = ap); first | exact hk4 | exact hk6 | exact hk7 | exact hk8), (by show (0 = 1 → (u1.2.1 1) < sz_ ∧ nz f9 ((u1.2.1 1)).toNat = 115); omega), hq1_9⟩, at9 ht hP hD [0, 1] (by decide +kernel) rfl⟩, hS.F ht⟩) hS.2.2 dX12_isWord_48
  · refine lv_aload_n hx hb dX12_isWord_28 rfl (lv_at hlv 1 rfl) ?_
    refine va_get (D := D) (ci := 12) (v := vR m9) (C := RX12) (T := TX12) (N := 38) hx hb hts hi12 hown hG.1 hP 0 rfl rfl 9 (by decide) lf20 (fun _ h9 => h9) rfl dX12_isWord_29 ?_
    refine lv_aload_n hx hb dX12_isWord_32 rfl (lv_at hlv 1 rfl) ?_
    refine va_get (D := D) (ci := 12) (v := vI (u1.2.1 1)) (C := RX12) (T := TX12) (N := 38) hx hb hts hi12 hown hG.1 hP 0 rfl rfl 4 (by decide) lf86 (fun _ h9 => h9) rfl dX12_isWord_33 ?_
    refine lv_iload_n hx hb dX12_isWord_36 rfl (lv_at hlv 0 rfl) ?_
    refine lv_iadd hx hb dX12_isWord_37 ?_
    refine lt_i (y := iI (u1.2.1 1)) (by rw [show iI (u1.2.1 1) + iI 0 = iI ((u1.2.1 1) + 0) from (Int32.ofInt_add _ _).symm, Int.add_zero]) ?_
    refine va_iald hx hb hG.1 hP 1 0 rfl rfl (iI_in (by omega) (by decide)) dX12_isWord_38 ?_
    refine lt_nz (i := (u1.2.1 1)) (by omega) (fun z_3 hz_3 lz_3 uz_3 => ?_)
    have hbz_3_9 := inv_nz hq1_9 (k := (u1.2.1 1).toNat) (by omega)
    refine lv_aload_n hx hb dX12_isWord_39 rfl (lv_at hlv 2 rfl) ?_
    refine lv_iload_n hx hb dX12_isWord_40 rfl (lv_at hlv 0 rfl) ?_
    refine cjr_i [true, true] (fun pre9 => (va_runV (As := [vI 0]) (rest := [vI z_3]) ⟨hx, hb, hml, hown, hts⟩ (s_charAt l hl D cy sa 33 0 H.size (by show (0 : Int) ≤ 33 ∧ (33 : Int) ≤ 55; decide) (by show (0 : Int) ≤ 0 ∧ (0 : Int) ≤ 6; decide) (by omega)) (cwV 1 hts gg_3 rfl rfl rfl (by decide +kernel) ⟨Nat.le_of_ble_eq_true rfl, Nat.le_of_ble_eq_true rfl⟩) ⟨pcW.blind, (wo_recv (WD.tx hT.2.2 (33 : Int).toNat (by omega)).1 hS), pre9⟩ rfl rfl hlv.1 rfl (lv_room (Nat.le_of_ble_eq_true rfl)) dX12_isWord_41 ⟨Nat.le_of_ble_eq_true rfl, Nat.le_of_ble_eq_true rfl⟩)) hP hD hS hA hG hT [] rfl (by decide +kernel) (fun r3 u3 H locs hw3 hq9 hS => ?_)
    obtain ⟨rfl, hq3_1, hq3_2⟩ := hw3
    obtain ⟨hP, hD⟩ := pd9 [zO mm 12 [vI th, vR m1, vI tp, vI sz_, vI (u1.2.1 1), vI bad, vI bk, vI opn, vI fp, vR m9, vR m10, vR m11, vR m12, vR m13, vR m14, vR m15, vI im, vI nr, vI nl, vR m19, vR m20, vR m21, vI sp_, vR m23, vR m24, vR m25, vR m26, vR m27, vR m28, vI wtc, vI wcl, vI ir, vI ip, vR m33, vI shu, vR m35, vI sfa, vI swr], zI m9 (cy 0) 600 f9] hq9
    have hev3 : (u3.2.1 0) = 115 := by first | (rw [hq3_2]; rfl) | omega
    clear hq3_2
    refine lt_i (y := iI 115) (by rw [show (u3.2.1 0) = 115 by omega]) ?_
    refine ir_eq (tgt := 49) hx hb dX12_isWord_44 (by decide) (by omega) (by show ((-2147483648) : Int) ≤ 115 ∧ (115 : Int) ≤ 2147483647; decide) (fun c_4 => ?_) (fun c_4 => ?_)
    · refine lv_iinc (v := iI 1) (lv' := [(2, vI 1), (0, vR mm), (1, .ref (sn sa 33))]) hx hb dX12_isWord_49 hlv (k := 0) rfl (by decide) (by decide) rfl (fun ls hlv => ?_)
      refine lv_goto (tgt := 7) hx hb dX12_isWord_52 (by decide) ?_
      refine lv_iload_n hx hb dX12_isWord_7 rfl (lv_at hlv 0 rfl) ?_
      refine lv_aload_n hx hb dX12_isWord_8 rfl (lv_at hlv 2 rfl) ?_
      refine cjr_i [true, true] (fun pre9 => (va_runV (As := []) (rest := [vI 1]) ⟨hx, hb, hml, hown, hts⟩ (s_length l hl D cy sa 33 H.size (by show (0 : Int) ≤ 33 ∧ (33 : Int) ≤ 55; decide)) (cwV 0 hts gg_1 rfl rfl rfl (by decide +kernel) ⟨Nat.le_of_ble_eq_true rfl, Nat.le_of_ble_eq_true rfl⟩) ⟨pcW.blind, (wo_recv (WD.tx hT.2.2 (33 : Int).toNat (by omega)).1 hS), pre9⟩ rfl rfl hlv.1 rfl (lv_room (Nat.le_of_ble_eq_true rfl)) dX12_isWord_9 ⟨Nat.le_of_ble_eq_true rfl, Nat.le_of_ble_eq_true rfl⟩)) hP hD hS hA hG hT [] rfl (by decide +kernel) (fun r4 u4 H locs hw4 hq9 hS => ?_)
      obtain ⟨rfl, hq4_1, hq4_2⟩ := hw4
      obtain ⟨hP, hD⟩ := pd9 [zO mm 12 [vI th, vR m1, vI tp, vI sz_, vI (u1.2.1 1), vI bad, vI bk, vI opn, vI fp, vR m9, vR m10, vR m11, vR m12, vR m13, vR m14, vR m15, vI im, vI nr, vI nl, vR m19, vR m20, vR m21, vI sp_, vR m23, vR m24, vR m25, vR m26, vR m27, vR m28, vI wtc, vI wcl, vI ir, vI ip, vR m33, vI shu, vR m35, vI sfa, vI swr], zI m9 (cy 0) 600 f9] hq9
      have hev4 : (u4.2.1 0) = 7 := by first | (rw [hq4_2]; rfl) | omega
      refine lt_i (y := iI 7) (by rw [show (u4.2.1 0) = 7 by omega]) ?_
      refine ir_ge (tgt := 55) hx hb dX12_isWord_12 (by decide) (by show ((-2147483648) : Int) ≤ 1 ∧ (1 : Int) ≤ 2147483647; decide) (by show ((-2147483648) : Int) ≤ 7 ∧ (7 : Int) ≤ 2147483647; decide) (fun c_5 => by exfalso; omega) (fun c_5 => ?_)
      refine lv_aload_n hx hb dX12_isWord_15 rfl (lv_at hlv 1 rfl) ?_
      refine va_get (D := D) (ci := 12) (v := vI (u1.2.1 1)) (C := RX12) (T := TX12) (N := 38) hx hb hts hi12 hown hG.1 hP 0 rfl rfl 4 (by decide) lf86 (fun _ h9 => h9) rfl dX12_isWord_16 ?_
      refine lv_iload_n hx hb dX12_isWord_19 rfl (lv_at hlv 0 rfl) ?_
      refine lv_iadd hx hb dX12_isWord_20 ?_
      refine lt_e (e0 := (u1.2.1 1) + 1) (Int32.ofInt_add _ _).symm (fun z_6 hz_6 => ?_)
      refine lv_aload_n hx hb dX12_isWord_21 rfl (lv_at hlv 1 rfl) ?_
      refine va_get (D := D) (ci := 12) (v := vI sz_) (C := RX12) (T := TX12) (N := 38) hx hb hts hi12 hown hG.1 hP 0 rfl rfl 3 (by decide) lf89 (fun _ h9 => h9) rfl dX12_isWord_22 ?_
      refine ir_ge (tgt := 47) hx hb dX12_isWord_25 (by decide) (by omega) (by first | exact rgw hr_sz_ (by decide) (by decide) | omega) (fun c_7 => ?_) (fun c_7 => ?_)
      · refine lv_iconst (v := iI 0) hx hb dX12_isWord_47 (by decide) ?_
        refine W.widen (k := 0) (n := 0) (Nat.le_of_ble_eq_true rfl) (Nat.le_of_ble_eq_true rfl) ?_
        exact W.zret (v := iI 0) hx hb hr (by first | rfl | decide) (fun t ht hW => ⟨⟨iI 0, ((fun k => ([] : List Nat).getD k 0), (fun k => ([0, (u1.2.1 1)] : List Int).getD k 0), (fun k => ([] : List (Nat → Int32)).getD k (fun _ => 0))), rfl, ⟨rfl, (by show (0 ≤ (u1.2.1 1) ∧ (u1.2.1 1) ≤ 602); first | exact hq1_1 | omega), (by show (0 ≤ 0 ∧ 0 ≤ 1); show (0 : Int) ≤ 0 ∧ (0 : Int) ≤ 1; decide), (by show (ap ≤ (u1.2.1 1)); first | exact hk4 | exact hk6 | exact hk7 | exact hk8), (by show (ap ≤ sz_ → (u1.2.1 1) ≤ sz_); first | exact hk4 | exact hk6 | exact hk7 | exact hk8), (by show ((u1.2.1 1) < sz_ → nz f9 ((u1.2.1 1)).toNat ≠ 32); first | exact hk4 | exact hk6 | exact hk7 | exact hk8), (by show ((ap < sz_ → nz f9 ap.toNat ≠ 32) → (u1.2.1 1) = ap); first | exact hk4 | exact hk6 | exact hk7 | exact hk8), (by show (0 = 1 → (u1.2.1 1) < sz_ ∧ nz f9 ((u1.2.1 1)).toNat = 115); omega), hq1_9⟩, at9 ht hP hD [0, 1] (by decide +kernel) rfl⟩, hS.F ht⟩) hS.2.2 dX12_isWord_48
      · refine lv_aload_n hx hb dX12_isWord_28 rfl (lv_at hlv 1 rfl) ?_
        refine va_get (D := D) (ci := 12) (v := vR m9) (C := RX12) (T := TX12) (N := 38) hx hb hts hi12 hown hG.1 hP 0 rfl rfl 9 (by decide) lf20 (fun _ h9 => h9) rfl dX12_isWord_29 ?_
        refine lv_aload_n hx hb dX12_isWord_32 rfl (lv_at hlv 1 rfl) ?_
        refine va_get (D := D) (ci := 12) (v := vI (u1.2.1 1)) (C := RX12) (T := TX12) (N := 38) hx hb hts hi12 hown hG.1 hP 0 rfl rfl 4 (by decide) lf86 (fun _ h9 => h9) rfl dX12_isWord_33 ?_
        refine lv_iload_n hx hb dX12_isWord_36 rfl (lv_at hlv 0 rfl) ?_
        refine lv_iadd hx hb dX12_isWord_37 ?_
        refine lt_e (e0 := (u1.2.1 1) + 1) (Int32.ofInt_add _ _).symm (fun z_8 hz_8 => ?_)
        refine va_iald hx hb hG.1 hP 1 0 rfl rfl (iI_in (by omega) (by decide)) dX12_isWord_38 ?_
        refine lt_nz (i := z_8) (by omega) (fun z_9 hz_9 lz_9 uz_9 => ?_)
        have hbz_9_9 := inv_nz hq1_9 (k := z_8.toNat) (by omega)
        refine lv_aload_n hx hb dX12_isWord_39 rfl (lv_at hlv 2 rfl) ?_
        refine lv_iload_n hx hb dX12_isWord_40 rfl (lv_at hlv 0 rfl) ?_
        refine cjr_i [true, true] (fun pre9 => (va_runV (As := [vI 1]) (rest := [vI z_9]) ⟨hx, hb, hml, hown, hts⟩ (s_charAt l hl D cy sa 33 1 H.size (by show (0 : Int) ≤ 33 ∧ (33 : Int) ≤ 55; decide) (by show (0 : Int) ≤ 1 ∧ (1 : Int) ≤ 6; decide) (by omega)) (cwV 1 hts gg_3 rfl rfl rfl (by decide +kernel) ⟨Nat.le_of_ble_eq_true rfl, Nat.le_of_ble_eq_true rfl⟩) ⟨pcW.blind, (wo_recv (WD.tx hT.2.2 (33 : Int).toNat (by omega)).1 hS), pre9⟩ rfl rfl hlv.1 rfl (lv_room (Nat.le_of_ble_eq_true rfl)) dX12_isWord_41 ⟨Nat.le_of_ble_eq_true rfl, Nat.le_of_ble_eq_true rfl⟩)) hP hD hS hA hG hT [] rfl (by decide +kernel) (fun r5 u5 H locs hw5 hq9 hS => ?_)
        obtain ⟨rfl, hq5_1, hq5_2⟩ := hw5
        obtain ⟨hP, hD⟩ := pd9 [zO mm 12 [vI th, vR m1, vI tp, vI sz_, vI (u1.2.1 1), vI bad, vI bk, vI opn, vI fp, vR m9, vR m10, vR m11, vR m12, vR m13, vR m14, vR m15, vI im, vI nr, vI nl, vR m19, vR m20, vR m21, vI sp_, vR m23, vR m24, vR m25, vR m26, vR m27, vR m28, vI wtc, vI wcl, vI ir, vI ip, vR m33, vI shu, vR m35, vI sfa, vI swr], zI m9 (cy 0) 600 f9] hq9
        have hev5 : (u5.2.1 0) = 104 := by first | (rw [hq5_2]; rfl) | omega
        clear hq5_2
        refine lt_i (y := iI 104) (by rw [show (u5.2.1 0) = 104 by omega]) ?_
        refine ir_eq (tgt := 49) hx hb dX12_isWord_44 (by decide) (by omega) (by show ((-2147483648) : Int) ≤ 104 ∧ (104 : Int) ≤ 2147483647; decide) (fun c_10 => ?_) (fun c_10 => ?_)
        · try clear c_5
          try clear hz_5
          try clear lz_5
          try clear uz_5
          try clear c_6
          try clear hz_6
          try clear lz_6
          try clear uz_6
          try clear c_7
          try clear hz_7
          try clear lz_7
          try clear uz_7
          try clear c_8
          try clear hz_8
          try clear lz_8
          try clear uz_8
          try clear c_9
          try clear hz_9
          try clear lz_9
          try clear uz_9
          try clear c_10
          try clear hz_10
          try clear lz_10
          try clear uz_10
          try clear hq4_1
          try clear hq4_2
          try clear hq5_1
          try clear hq5_2
          try clear hev4
          try clear hev5
          refine lv_iinc (v := iI 2) (lv' := [(2, vI 2), (0, vR mm), (1, .ref (sn sa 33))]) hx hb dX12_isWord_49 hlv (k := 0) rfl (by decide) (by decide) rfl (fun ls hlv => ?_)
          refine lv_goto (tgt := 7) hx hb dX12_isWord_52 (by decide) ?_
          refine lv_iload_n hx hb dX12_isWord_7 rfl (lv_at hlv 0 rfl) ?_
          refine lv_aload_n hx hb dX12_isWord_8 rfl (lv_at hlv 2 rfl) ?_
          refine cjr_i [true, true] (fun pre9 => (va_runV (As := []) (rest := [vI 2]) ⟨hx, hb, hml, hown, hts⟩ (s_length l hl D cy sa 33 H.size (by show (0 : Int) ≤ 33 ∧ (33 : Int) ≤ 55; decide)) (cwV 0 hts gg_1 rfl rfl rfl (by decide +kernel) ⟨Nat.le_of_ble_eq_true rfl, Nat.le_of_ble_eq_true rfl⟩) ⟨pcW.blind, (wo_recv (WD.tx hT.2.2 (33 : Int).toNat (by omega)).1 hS), pre9⟩ rfl rfl hlv.1 rfl (lv_room (Nat.le_of_ble_eq_true rfl)) dX12_isWord_9 ⟨Nat.le_of_ble_eq_true rfl, Nat.le_of_ble_eq_true rfl⟩)) hP hD hS hA hG hT [] rfl (by decide +kernel) (fun r6 u6 H locs hw6 hq9 hS => ?_)
          obtain ⟨rfl, hq6_1, hq6_2⟩ := hw6
          obtain ⟨hP, hD⟩ := pd9 [zO mm 12 [vI th, vR m1, vI tp, vI sz_, vI (u1.2.1 1), vI bad, vI bk, vI opn, vI fp, vR m9, vR m10, vR m11, vR m12, vR m13, vR m14, vR m15, vI im, vI nr, vI nl, vR m19, vR m20, vR m21, vI sp_, vR m23, vR m24, vR m25, vR m26, vR m27, vR m28, vI wtc, vI wcl, vI ir, vI ip, vR m33, vI shu, vR m35, vI sfa, vI swr], zI m9 (cy 0) 600 f9] hq9
          have hev6 : (u6.2.1 0) = 7 := by first | (rw [hq6_2]; rfl) | omega
          refine lt_i (y := iI 7) (by rw [show (u6.2.1 0) = 7 by omega]) ?_
          refine ir_ge (tgt := 55) hx hb dX12_isWord_12 (by decide) (by show ((-2147483648) : Int) ≤ 2 ∧ (2 : Int) ≤ 2147483647; decide) (by show ((-2147483648) : Int) ≤ 7 ∧ (7 : Int) ≤ 2147483647; decide) (fun c_11 => by exfalso; omega) (fun c_11 => ?_)
          refine lv_aload_n hx hb dX12_isWord_15 rfl (lv_at hlv 1 rfl) ?_
          refine va_get (D := D) (ci := 12) (v := vI (u1.2.1 1)) (C := RX12) (T := TX12) (N := 38) hx hb hts hi12 hown hG.1 hP 0 rfl rfl 4 (by decide) lf86 (fun _ h9 => h9) rfl dX12_isWord_16 ?_
          refine lv_iload_n hx hb dX12_isWord_19 rfl (lv_at hlv 0 rfl) ?_
          refine lv_iadd hx hb dX12_isWord_20 ?_
          refine lt_e (e0 := (u1.2.1 1) + 2) (Int32.ofInt_add _ _).symm (fun z_12 hz_12 => ?_)
          refine lv_aload_n hx hb dX12_isWord_21 rfl (lv_at hlv 1 rfl) ?_
          refine va_get (D := D) (ci := 12) (v := vI sz_) (C := RX12) (T := TX12) (N := 38) hx hb hts hi12 hown hG.1 hP 0 rfl rfl 3 (by decide) lf89 (fun _ h9 => h9) rfl dX12_isWord_22 ?_
          refine ir_ge (tgt := 47) hx hb dX12_isWord_25 (by decide) (by omega) (by first | exact rgw hr_sz_ (by decide) (by decide) | omega) (fun c_13 => ?_) (fun c_13 => ?_)
          · refine lv_iconst (v := iI 0) hx hb dX12_isWord_47 (by decide) ?_
            refine W.widen (k := 0) (n := 0) (Nat.le_of_ble_eq_true rfl) (Nat.le_of_ble_eq_true rfl) ?_
            exact W.zret (v := iI 0) hx hb hr (by first | rfl | decide) (fun t ht hW => ⟨⟨iI 0, ((fun k => ([] : List Nat).getD k 0), (fun k => ([0, (u1.2.1 1)] : List Int).getD k 0), (fun k => ([] : List (Nat → Int32)).getD k (fun _ => 0))), rfl, ⟨rfl, (by show (0 ≤ (u1.2.1 1) ∧ (u1.2.1 1) ≤ 602); first | exact hq1_1 | omega), (by show (0 ≤ 0 ∧ 0 ≤ 1); show (0 : Int) ≤ 0 ∧ (0 : Int) ≤ 1; decide), (by show (ap ≤ (u1.2.1 1)); first | exact hk4 | exact hk6 | exact hk7 | exact hk8), (by show (ap ≤ sz_ → (u1.2.1 1) ≤ sz_); first | exact hk4 | exact hk6 | exact hk7 | exact hk8), (by show ((u1.2.1 1) < sz_ → nz f9 ((u1.2.1 1)).toNat ≠ 32); first | exact hk4 | exact hk6 | exact hk7 | exact hk8), (by show ((ap < sz_ → nz f9 ap.toNat ≠ 32) → (u1.2.1 1) = ap); first | exact hk4 | exact hk6 | exact hk7 | exact hk8), (by show (0 = 1 → (u1.2.1 1) < sz_ ∧ nz f9 ((u1.2.1 1)).toNat = 115); omega), hq1_9⟩, at9 ht hP hD [0, 1] (by decide +kernel) rfl⟩, hS.F ht⟩) hS.2.2 dX12_isWord_48
          · refine lv_aload_n hx hb dX12_isWord_28 rfl (lv_at hlv 1 rfl) ?_
            refine va_get (D := D) (ci := 12) (v := vR m9) (C := RX12) (T := TX12) (N := 38) hx hb hts hi12 hown hG.1 hP 0 rfl rfl 9 (by decide) lf20 (fun _ h9 => h9) rfl dX12_isWord_29 ?_
            refine lv_aload_n hx hb dX12_isWord_32 rfl (lv_at hlv 1 rfl) ?_
            refine va_get (D := D) (ci := 12) (v := vI (u1.2.1 1)) (C := RX12) (T := TX12) (N := 38) hx hb hts hi12 hown hG.1 hP 0 rfl rfl 4 (by decide) lf86 (fun _ h9 => h9) rfl dX12_isWord_33 ?_
            refine lv_iload_n hx hb dX12_isWord_36 rfl (lv_at hlv 0 rfl) ?_
            refine lv_iadd hx hb dX12_isWord_37 ?_
            refine lt_e (e0 := (u1.2.1 1) + 2) (Int32.ofInt_add _ _).symm (fun z_14 hz_14 => ?_)
            refine va_iald hx hb hG.1 hP 1 0 rfl rfl (iI_in (by omega) (by decide)) dX12_isWord_38 ?_
            refine lt_nz (i := z_14) (by omega) (fun z_15 hz_15 lz_15 uz_15 => ?_)
            have hbz_15_9 := inv_nz hq1_9 (k := z_14.toNat) (by omega)
            refine lv_aload_n hx hb dX12_isWord_39 rfl (lv_at hlv 2 rfl) ?_
            refine lv_iload_n hx hb dX12_isWord_40 rfl (lv_at hlv 0 rfl) ?_
            refine cjr_i [true, true] (fun pre9 => (va_runV (As := [vI 2]) (rest := [vI z_15]) ⟨hx, hb, hml, hown, hts⟩ (s_charAt l hl D cy sa 33 2 H.size (by show (0 : Int) ≤ 33 ∧ (33 : Int) ≤ 55; decide) (by show (0 : Int) ≤ 2 ∧ (2 : Int) ≤ 6; decide) (by omega)) (cwV 1 hts gg_3 rfl rfl rfl (by decide +kernel) ⟨Nat.le_of_ble_eq_true rfl, Nat.le_of_ble_eq_true rfl⟩) ⟨pcW.blind, (wo_recv (WD.tx hT.2.2 (33 : Int).toNat (by omega)).1 hS), pre9⟩ rfl rfl hlv.1 rfl (lv_room (Nat.le_of_ble_eq_true rfl)) dX12_isWord_41 ⟨Nat.le_of_ble_eq_true rfl, Nat.le_of_ble_eq_true rfl⟩)) hP hD hS hA hG hT [] rfl (by decide +kernel) (fun r7 u7 H locs hw7 hq9 hS => ?_)
            obtain ⟨rfl, hq7_1, hq7_2⟩ := hw7
            obtain ⟨hP, hD⟩ := pd9 [zO mm 12 [vI th, vR m1, vI tp, vI sz_, vI (u1.2.1 1), vI bad, vI bk, vI opn, vI fp, vR m9, vR m10, vR m11, vR m12, vR m13, vR m14, vR m15, vI im, vI nr, vI nl, vR m19, vR m20, vR m21, vI sp_, vR m23, vR m24, vR m25, vR m26, vR m27, vR m28, vI wtc, vI wcl, vI ir, vI ip, vR m33, vI shu, vR m35, vI sfa, vI swr], zI m9 (cy 0) 600 f9] hq9
            have hev7 : (u7.2.1 0) = 101 := by first | (rw [hq7_2]; rfl) | omega
            clear hq7_2
            refine lt_i (y := iI 101) (by rw [show (u7.2.1 0) = 101 by omega]) ?_
            refine ir_eq (tgt := 49) hx hb dX12_isWord_44 (by decide) (by omega) (by show ((-2147483648) : Int) ≤ 101 ∧ (101 : Int) ≤ 2147483647; decide) (fun c_16 => ?_) (fun c_16 => ?_)
            · try clear c_11
              try clear hz_11
              try clear lz_11
              try clear uz_11
              try clear c_12
              try clear hz_12
              try clear lz_12
              try clear uz_12
              try clear c_13
              try clear hz_13
              try clear lz_13
              try clear uz_13
              try clear c_14
              try clear hz_14
              try clear lz_14
              try clear uz_14
              try clear c_15
              try clear hz_15
              try clear lz_15
              try clear uz_15
              try clear c_16
              try clear hz_16
              try clear lz_16
              try clear uz_16
              try clear hq6_1
              try clear hq6_2
              try clear hq7_1
              try clear hq7_2
              try clear hev6
              try clear hev7
              refine lv_iinc (v := iI 3) (lv' := [(2, vI 3), (0, vR mm), (1, .ref (sn sa 33))]) hx hb dX12_isWord_49 hlv (k := 0) rfl (by decide) (by decide) rfl (fun ls hlv => ?_)
              refine lv_goto (tgt := 7) hx hb dX12_isWord_52 (by decide) ?_
              refine lv_iload_n hx hb dX12_isWord_7 rfl (lv_at hlv 0 rfl) ?_
              refine lv_aload_n hx hb dX12_isWord_8 rfl (lv_at hlv 2 rfl) ?_
              refine cjr_i [true, true] (fun pre9 => (va_runV (As := []) (rest := [vI 3]) ⟨hx, hb, hml, hown, hts⟩ (s_length l hl D cy sa 33 H.size (by show (0 : Int) ≤ 33 ∧ (33 : Int) ≤ 55; decide)) (cwV 0 hts gg_1 rfl rfl rfl (by decide +kernel) ⟨Nat.le_of_ble_eq_true rfl, Nat.le_of_ble_eq_true rfl⟩) ⟨pcW.blind, (wo_recv (WD.tx hT.2.2 (33 : Int).toNat (by omega)).1 hS), pre9⟩ rfl rfl hlv.1 rfl (lv_room (Nat.le_of_ble_eq_true rfl)) dX12_isWord_9 ⟨Nat.le_of_ble_eq_true rfl, Nat.le_of_ble_eq_true rfl⟩)) hP hD hS hA hG hT [] rfl (by decide +kernel) (fun r8 u8 H locs hw8 hq9 hS => ?_)
              obtain ⟨rfl, hq8_1, hq8_2⟩ := hw8
              obtain ⟨hP, hD⟩ := pd9 [zO mm 12 [vI th, vR m1, vI tp, vI sz_, vI (u1.2.1 1), vI bad, vI bk, vI opn, vI fp, vR m9, vR m10, vR m11, vR m12, vR m13, vR m14, vR m15, vI im, vI nr, vI nl, vR m19, vR m20, vR m21, vI sp_, vR m23, vR m24, vR m25, vR m26, vR m27, vR m28, vI wtc, vI wcl, vI ir, vI ip, vR m33, vI shu, vR m35, vI sfa, vI swr], zI m9 (cy 0) 600 f9] hq9
              have hev8 : (u8.2.1 0) = 7 := by first | (rw [hq8_2]; rfl) | omega
              refine lt_i (y := iI 7) (by rw [show (u8.2.1 0) = 7 by omega]) ?_
              refine ir_ge (tgt := 55) hx hb dX12_isWord_12 (by decide) (by show ((-2147483648) : Int) ≤ 3 ∧ (3 : Int) ≤ 2147483647; decide) (by show ((-2147483648) : Int) ≤ 7 ∧ (7 : Int) ≤ 2147483647; decide) (fun c_17 => by exfalso; omega) (fun c_17 => ?_)
              refine lv_aload_n hx hb dX12_isWord_15 rfl (lv_at hlv 1 rfl) ?_
              refine va_get (D := D) (ci := 12) (v := vI (u1.2.1 1)) (C := RX12) (T := TX12) (N := 38) hx hb hts hi12 hown hG.1 hP 0 rfl rfl 4 (by decide) lf86 (fun _ h9 => h9) rfl dX12_isWord_16 ?_
              refine lv_iload_n hx hb dX12_isWord_19 rfl (lv_at hlv 0 rfl) ?_
              refine lv_iadd hx hb dX12_isWord_20 ?_
              refine lt_e (e0 := (u1.2.1 1) + 3) (Int32.ofInt_add _ _).symm (fun z_18 hz_18 => ?_)
              refine lv_aload_n hx hb dX12_isWord_21 rfl (lv_at hlv 1 rfl) ?_
              refine va_get (D := D) (ci := 12) (v := vI sz_) (C := RX12) (T := TX12) (N := 38) hx hb hts hi12 hown hG.1 hP 0 rfl rfl 3 (by decide) lf89 (fun _ h9 => h9) rfl dX12_isWord_22 ?_
              refine ir_ge (tgt := 47) hx hb dX12_isWord_25 (by decide) (by omega) (by first | exact rgw hr_sz_ (by decide) (by decide) | omega) (fun c_19 => ?_) (fun c_19 => ?_)
              · refine lv_iconst (v := iI 0) hx hb dX12_isWord_47 (by decide) ?_
                refine W.widen (k := 0) (n := 0) (Nat.le_of_ble_eq_true rfl) (Nat.le_of_ble_eq_true rfl) ?_
                exact W.zret (v := iI 0) hx hb hr (by first | rfl | decide) (fun t ht hW => ⟨⟨iI 0, ((fun k => ([] : List Nat).getD k 0), (fun k => ([0, (u1.2.1 1)] : List Int).getD k 0), (fun k => ([] : List (Nat → Int32)).getD k (fun _ => 0))), rfl, ⟨rfl, (by show (0 ≤ (u1.2.1 1) ∧ (u1.2.1 1) ≤ 602); first | exact hq1_1 | omega), (by show (0 ≤ 0 ∧ 0 ≤ 1); show (0 : Int) ≤ 0 ∧ (0 : Int) ≤ 1; decide), (by show (ap ≤ (u1.2.1 1)); first | exact hk4 | exact hk6 | exact hk7 | exact hk8), (by show (ap ≤ sz_ → (u1.2.1 1) ≤ sz_); first | exact hk4 | exact hk6 | exact hk7 | exact hk8), (by show ((u1.2.1 1) < sz_ → nz f9 ((u1.2.1 1)).toNat ≠ 32); first | exact hk4 | exact hk6 | exact hk7 | exact hk8), (by show ((ap < sz_ → nz f9 ap.toNat ≠ 32) → (u1.2.1 1) = ap); first | exact hk4 | exact hk6 | exact hk7 | exact hk8), (by show (0 = 1 → (u1.2.1 1) < sz_ ∧ nz f9 ((u1.2.1 1)).toNat = 115); omega), hq1_9⟩, at9 ht hP hD [0, 1] (by decide +kernel) rfl⟩, hS.F ht⟩) hS.2.2 dX12_isWord_48
              · refine lv_aload_n hx hb dX12_isWord_28 rfl (lv_at hlv 1 rfl) ?_
                refine va_get (D := D) (ci := 12) (v := vR m9) (C := RX12) (T := TX12) (N := 38) hx hb hts hi12 hown hG.1 hP 0 rfl rfl 9 (by decide) lf20 (fun _ h9 => h9) rfl dX12_isWord_29 ?_
                refine lv_aload_n hx hb dX12_isWord_32 rfl (lv_at hlv 1 rfl) ?_
                refine va_get (D := D) (ci := 12) (v := vI (u1.2.1 1)) (C := RX12) (T := TX12) (N := 38) hx hb hts hi12 hown hG.1 hP 0 rfl rfl 4 (by decide) lf86 (fun _ h9 => h9) rfl dX12_isWord_33 ?_
                refine lv_iload_n hx hb dX12_isWord_36 rfl (lv_at hlv 0 rfl) ?_
                refine lv_iadd hx hb dX12_isWord_37 ?_
                refine lt_e (e0 := (u1.2.1 1) + 3) (Int32.ofInt_add _ _).symm (fun z_20 hz_20 => ?_)
                refine va_iald hx hb hG.1 hP 1 0 rfl rfl (iI_in (by omega) (by decide)) dX12_isWord_38 ?_
                refine lt_nz (i := z_20) (by omega) (fun z_21 hz_21 lz_21 uz_21 => ?_)
                have hbz_21_9 := inv_nz hq1_9 (k := z_20.toNat) (by omega)
                refine lv_aload_n hx hb dX12_isWord_39 rfl (lv_at hlv 2 rfl) ?_
                refine lv_iload_n hx hb dX12_isWord_40 rfl (lv_at hlv 0 rfl) ?_
                refine cjr_i [true, true] (fun pre9 => (va_runV (As := [vI 3]) (rest := [vI z_21]) ⟨hx, hb, hml, hown, hts⟩ (s_charAt l hl D cy sa 33 3 H.size (by show (0 : Int) ≤ 33 ∧ (33 : Int) ≤ 55; decide) (by show (0 : Int) ≤ 3 ∧ (3 : Int) ≤ 6; decide) (by omega)) (cwV 1 hts gg_3 rfl rfl rfl (by decide +kernel) ⟨Nat.le_of_ble_eq_true rfl, Nat.le_of_ble_eq_true rfl⟩) ⟨pcW.blind, (wo_recv (WD.tx hT.2.2 (33 : Int).toNat (by omega)).1 hS), pre9⟩ rfl rfl hlv.1 rfl (lv_room (Nat.le_of_ble_eq_true rfl)) dX12_isWord_41 ⟨Nat.le_of_ble_eq_true rfl, Nat.le_of_ble_eq_true rfl⟩)) hP hD hS hA hG hT [] rfl (by decide +kernel) (fun r9 u9 H locs hw9 hq9 hS => ?_)
                obtain ⟨rfl, hq9_1, hq9_2⟩ := hw9
                obtain ⟨hP, hD⟩ := pd9 [zO mm 12 [vI th, vR m1, vI tp, vI sz_, vI (u1.2.1 1), vI bad, vI bk, vI opn, vI fp, vR m9, vR m10, vR m11, vR m12, vR m13, vR m14, vR m15, vI im, vI nr, vI nl, vR m19, vR m20, vR m21, vI sp_, vR m23, vR m24, vR m25, vR m26, vR m27, vR m28, vI wtc, vI wcl, vI ir, vI ip, vR m33, vI shu, vR m35, vI sfa, vI swr], zI m9 (cy 0) 600 f9] hq9
                have hev9 : (u9.2.1 0) = 108 := by first | (rw [hq9_2]; rfl) | omega
                clear hq9_2
                refine lt_i (y := iI 108) (by rw [show (u9.2.1 0) = 108 by omega]) ?_
                refine ir_eq (tgt := 49) hx hb dX12_isWord_44 (by decide) (by omega) (by show ((-2147483648) : Int) ≤ 108 ∧ (108 : Int) ≤ 2147483647; decide) (fun c_22 => ?_) (fun c_22 => ?_)
                · try clear c_17
                  try clear hz_17
                  try clear lz_17
                  try clear uz_17
                  try clear c_18
                  try clear hz_18
                  try clear lz_18
                  try clear uz_18
                  try clear c_19
                  try clear hz_19
                  try clear lz_19
                  try clear uz_19
                  try clear c_20
                  try clear hz_20
                  try clear lz_20
                  try clear uz_20
                  try clear c_21
                  try clear hz_21
                  try clear lz_21
                  try clear uz_21
                  try clear c_22
                  try clear hz_22
                  try clear lz_22
                  try clear uz_22
                  try clear hq8_1
                  try clear hq8_2
                  try clear hq9_1
                  try clear hq9_2
                  try clear hev8
                  try clear hev9
                  refine lv_iinc (v := iI 4) (lv' := [(2, vI 4), (0, vR mm), (1, .ref (sn sa 33))]) hx hb dX12_isWord_49 hlv (k := 0) rfl (by decide) (by decide) rfl (fun ls hlv => ?_)
                  refine lv_goto (tgt := 7) hx hb dX12_isWord_52 (by decide) ?_
                  refine lv_iload_n hx hb dX12_isWord_7 rfl (lv_at hlv 0 rfl) ?_
                  refine lv_aload_n hx hb dX12_isWord_8 rfl (lv_at hlv 2 rfl) ?_
                  refine cjr_i [true, true] (fun pre9 => (va_runV (As := []) (rest := [vI 4]) ⟨hx, hb, hml, hown, hts⟩ (s_length l hl D cy sa 33 H.size (by show (0 : Int) ≤ 33 ∧ (33 : Int) ≤ 55; decide)) (cwV 0 hts gg_1 rfl rfl rfl (by decide +kernel) ⟨Nat.le_of_ble_eq_true rfl, Nat.le_of_ble_eq_true rfl⟩) ⟨pcW.blind, (wo_recv (WD.tx hT.2.2 (33 : Int).toNat (by omega)).1 hS), pre9⟩ rfl rfl hlv.1 rfl (lv_room (Nat.le_of_ble_eq_true rfl)) dX12_isWord_9 ⟨Nat.le_of_ble_eq_true rfl, Nat.le_of_ble_eq_true rfl⟩)) hP hD hS hA hG hT [] rfl (by decide +kernel) (fun r10 u10 H locs hw10 hq9 hS => ?_)
                  obtain ⟨rfl, hq10_1, hq10_2⟩ := hw10
                  obtain ⟨hP, hD⟩ := pd9 [zO mm 12 [vI th, vR m1, vI tp, vI sz_, vI (u1.2.1 1), vI bad, vI bk, vI opn, vI fp, vR m9, vR m10, vR m11, vR m12, vR m13, vR m14, vR m15, vI im, vI nr, vI nl, vR m19, vR m20, vR m21, vI sp_, vR m23, vR m24, vR m25, vR m26, vR m27, vR m28, vI wtc, vI wcl, vI ir, vI ip, vR m33, vI shu, vR m35, vI sfa, vI swr], zI m9 (cy 0) 600 f9] hq9
                  have hev10 : (u10.2.1 0) = 7 := by first | (rw [hq10_2]; rfl) | omega
                  refine lt_i (y := iI 7) (by rw [show (u10.2.1 0) = 7 by omega]) ?_
                  refine ir_ge (tgt := 55) hx hb dX12_isWord_12 (by decide) (by show ((-2147483648) : Int) ≤ 4 ∧ (4 : Int) ≤ 2147483647; decide) (by show ((-2147483648) : Int) ≤ 7 ∧ (7 : Int) ≤ 2147483647; decide) (fun c_23 => by exfalso; omega) (fun c_23 => ?_)
                  refine lv_aload_n hx hb dX12_isWord_15 rfl (lv_at hlv 1 rfl) ?_
                  refine va_get (D := D) (ci := 12) (v := vI (u1.2.1 1)) (C := RX12) (T := TX12) (N := 38) hx hb hts hi12 hown hG.1 hP 0 rfl rfl 4 (by decide) lf86 (fun _ h9 => h9) rfl dX12_isWord_16 ?_
                  refine lv_iload_n hx hb dX12_isWord_19 rfl (lv_at hlv 0 rfl) ?_
                  refine lv_iadd hx hb dX12_isWord_20 ?_
                  refine lt_e (e0 := (u1.2.1 1) + 4) (Int32.ofInt_add _ _).symm (fun z_24 hz_24 => ?_)
                  refine lv_aload_n hx hb dX12_isWord_21 rfl (lv_at hlv 1 rfl) ?_
                  refine va_get (D := D) (ci := 12) (v := vI sz_) (C := RX12) (T := TX12) (N := 38) hx hb hts hi12 hown hG.1 hP 0 rfl rfl 3 (by decide) lf89 (fun _ h9 => h9) rfl dX12_isWord_22 ?_
                  refine ir_ge (tgt := 47) hx hb dX12_isWord_25 (by decide) (by omega) (by first | exact rgw hr_sz_ (by decide) (by decide) | omega) (fun c_25 => ?_) (fun c_25 => ?_)
                  · refine lv_iconst (v := iI 0) hx hb dX12_isWord_47 (by decide) ?_
                    refine W.widen (k := 0) (n := 0) (Nat.le_of_ble_eq_true rfl) (Nat.le_of_ble_eq_true rfl) ?_
                    exact W.zret (v := iI 0) hx hb hr (by first | rfl | decide) (fun t ht hW => ⟨⟨iI 0, ((fun k => ([] : List Nat).getD k 0), (fun k => ([0, (u1.2.1 1)] : List Int).getD k 0), (fun k => ([] : List (Nat → Int32)).getD k (fun _ => 0))), rfl, ⟨rfl, (by show (0 ≤ (u1.2.1 1) ∧ (u1.2.1 1) ≤ 602); first | exact hq1_1 | omega), (by show (0 ≤ 0 ∧ 0 ≤ 1); show (0 : Int) ≤ 0 ∧ (0 : Int) ≤ 1; decide), (by show (ap ≤ (u1.2.1 1)); first | exact hk4 | exact hk6 | exact hk7 | exact hk8), (by show (ap ≤ sz_ → (u1.2.1 1) ≤ sz_); first | exact hk4 | exact hk6 | exact hk7 | exact hk8), (by show ((u1.2.1 1) < sz_ → nz f9 ((u1.2.1 1)).toNat ≠ 32); first | exact hk4 | exact hk6 | exact hk7 | exact hk8), (by show ((ap < sz_ → nz f9 ap.toNat ≠ 32) → (u1.2.1 1) = ap); first | exact hk4 | exact hk6 | exact hk7 | exact hk8), (by show (0 = 1 → (u1.2.1 1) < sz_ ∧ nz f9 ((u1.2.1 1)).toNat = 115); omega), hq1_9⟩, at9 ht hP hD [0, 1] (by decide +kernel) rfl⟩, hS.F ht⟩) hS.2.2 dX12_isWord_48
                  · refine lv_aload_n hx hb dX12_isWord_28 rfl (lv_at hlv 1 rfl) ?_
                    refine va_get (D := D) (ci := 12) (v := vR m9) (C := RX12) (T := TX12) (N := 38) hx hb hts hi12 hown hG.1 hP 0 rfl rfl 9 (by decide) lf20 (fun _ h9 => h9) rfl dX12_isWord_29 ?_
                    refine lv_aload_n hx hb dX12_isWord_32 rfl (lv_at hlv 1 rfl) ?_
                    refine va_get (D := D) (ci := 12) (v := vI (u1.2.1 1)) (C := RX12) (T := TX12) (N := 38) hx hb hts hi12 hown hG.1 hP 0 rfl rfl 4 (by decide) lf86 (fun _ h9 => h9) rfl dX12_isWord_33 ?_
                    refine lv_iload_n hx hb dX12_isWord_36 rfl (lv_at hlv 0 rfl) ?_
                    refine lv_iadd hx hb dX12_isWord_37 ?_
                    refine lt_e (e0 := (u1.2.1 1) + 4) (Int32.ofInt_add _ _).symm (fun z_26 hz_26 => ?_)
                    refine va_iald hx hb hG.1 hP 1 0 rfl rfl (iI_in (by omega) (by decide)) dX12_isWord_38 ?_
                    refine lt_nz (i := z_26) (by omega) (fun z_27 hz_27 lz_27 uz_27 => ?_)
                    have hbz_27_9 := inv_nz hq1_9 (k := z_26.toNat) (by omega)
                    refine lv_aload_n hx hb dX12_isWord_39 rfl (lv_at hlv 2 rfl) ?_
                    refine lv_iload_n hx hb dX12_isWord_40 rfl (lv_at hlv 0 rfl) ?_
                    refine cjr_i [true, true] (fun pre9 => (va_runV (As := [vI 4]) (rest := [vI z_27]) ⟨hx, hb, hml, hown, hts⟩ (s_charAt l hl D cy sa 33 4 H.size (by show (0 : Int) ≤ 33 ∧ (33 : Int) ≤ 55; decide) (by show (0 : Int) ≤ 4 ∧ (4 : Int) ≤ 6; decide) (by omega)) (cwV 1 hts gg_3 rfl rfl rfl (by decide +kernel) ⟨Nat.le_of_ble_eq_true rfl, Nat.le_of_ble_eq_true rfl⟩) ⟨pcW.blind, (wo_recv (WD.tx hT.2.2 (33 : Int).toNat (by omega)).1 hS), pre9⟩ rfl rfl hlv.1 rfl (lv_room (Nat.le_of_ble_eq_true rfl)) dX12_isWord_41 ⟨Nat.le_of_ble_eq_true rfl, Nat.le_of_ble_eq_true rfl⟩)) hP hD hS hA hG hT [] rfl (by decide +kernel) (fun r11 u11 H locs hw11 hq9 hS => ?_)
                    obtain ⟨rfl, hq11_1, hq11_2⟩ := hw11
                    obtain ⟨hP, hD⟩ := pd9 [zO mm 12 [vI th, vR m1, vI tp, vI sz_, vI (u1.2.1 1), vI bad, vI bk, vI opn, vI fp, vR m9, vR m10, vR m11, vR m12, vR m13, vR m14, vR m15, vI im, vI nr, vI nl, vR m19, vR m20, vR m21, vI sp_, vR m23, vR m24, vR m25, vR m26, vR m27, vR m28, vI wtc, vI wcl, vI ir, vI ip, vR m33, vI shu, vR m35, vI sfa, vI swr], zI m9 (cy 0) 600 f9] hq9
                    have hev11 : (u11.2.1 0) = 116 := by first | (rw [hq11_2]; rfl) | omega
                    clear hq11_2
                    refine lt_i (y := iI 116) (by rw [show (u11.2.1 0) = 116 by omega]) ?_
                    refine ir_eq (tgt := 49) hx hb dX12_isWord_44 (by decide) (by omega) (by show ((-2147483648) : Int) ≤ 116 ∧ (116 : Int) ≤ 2147483647; decide) (fun c_28 => ?_) (fun c_28 => ?_)
                    · try clear c_23
                      try clear hz_23
                      try clear lz_23
                      try clear uz_23
                      try clear c_24
                      try clear hz_24
                      try clear lz_24
                      try clear uz_24
                      try clear c_25
                      try clear hz_25
                      try clear lz_25
                      try clear uz_25
                      try clear c_26
                      try clear hz_26
                      try clear lz_26
                      try clear uz_26
                      try clear c_27
                      try clear hz_27
                      try clear lz_27
                      try clear uz_27
                      try clear c_28
                      try clear hz_28
                      try clear lz_28
                      try clear uz_28
                      try clear hq10_1
                      try clear hq10_2
                      try clear hq11_1
                      try clear hq11_2
                      try clear hev10
                      try clear hev11
                      refine lv_iinc (v := iI 5) (lv' := [(2, vI 5), (0, vR mm), (1, .ref (sn sa 33))]) hx hb dX12_isWord_49 hlv (k := 0) rfl (by decide) (by decide) rfl (fun ls hlv => ?_)
                      refine lv_goto (tgt := 7) hx hb dX12_isWord_52 (by decide) ?_
                      refine lv_iload_n hx hb dX12_isWord_7 rfl (lv_at hlv 0 rfl) ?_
                      refine lv_aload_n hx hb dX12_isWord_8 rfl (lv_at hlv 2 rfl) ?_
                      refine cjr_i [true, true] (fun pre9 => (va_runV (As := []) (rest := [vI 5]) ⟨hx, hb, hml, hown, hts⟩ (s_length l hl D cy sa 33 H.size (by show (0 : Int) ≤ 33 ∧ (33 : Int) ≤ 55; decide)) (cwV 0 hts gg_1 rfl rfl rfl (by decide +kernel) ⟨Nat.le_of_ble_eq_true rfl, Nat.le_of_ble_eq_true rfl⟩) ⟨pcW.blind, (wo_recv (WD.tx hT.2.2 (33 : Int).toNat (by omega)).1 hS), pre9⟩ rfl rfl hlv.1 rfl (lv_room (Nat.le_of_ble_eq_true rfl)) dX12_isWord_9 ⟨Nat.le_of_ble_eq_true rfl, Nat.le_of_ble_eq_true rfl⟩)) hP hD hS hA hG hT [] rfl (by decide +kernel) (fun r12 u12 H locs hw12 hq9 hS => ?_)
                      obtain ⟨rfl, hq12_1, hq12_2⟩ := hw12
                      obtain ⟨hP, hD⟩ := pd9 [zO mm 12 [vI th, vR m1, vI tp, vI sz_, vI (u1.2.1 1), vI bad, vI bk, vI opn, vI fp, vR m9, vR m10, vR m11, vR m12, vR m13, vR m14, vR m15, vI im, vI nr, vI nl, vR m19, vR m20, vR m21, vI sp_, vR m23, vR m24, vR m25, vR m26, vR m27, vR m28, vI wtc, vI wcl, vI ir, vI ip, vR m33, vI shu, vR m35, vI sfa, vI swr], zI m9 (cy 0) 600 f9] hq9
                      have hev12 : (u12.2.1 0) = 7 := by first | (rw [hq12_2]; rfl) | omega
                      refine lt_i (y := iI 7) (by rw [show (u12.2.1 0) = 7 by omega]) ?_
                      refine ir_ge (tgt := 55) hx hb dX12_isWord_12 (by decide) (by show ((-2147483648) : Int) ≤ 5 ∧ (5 : Int) ≤ 2147483647; decide) (by show ((-2147483648) : Int) ≤ 7 ∧ (7 : Int) ≤ 2147483647; decide) (fun c_29 => by exfalso; omega) (fun c_29 => ?_)
                      refine lv_aload_n hx hb dX12_isWord_15 rfl (lv_at hlv 1 rfl) ?_
                      refine va_get (D := D) (ci := 12) (v := vI (u1.2.1 1)) (C := RX12) (T := TX12) (N := 38) hx hb hts hi12 hown hG.1 hP 0 rfl rfl 4 (by decide) lf86 (fun _ h9 => h9) rfl dX12_isWord_16 ?_
                      refine lv_iload_n hx hb dX12_isWord_19 rfl (lv_at hlv 0 rfl) ?_
                      refine lv_iadd hx hb dX12_isWord_20 ?_
                      refine lt_e (e0 := (u1.2.1 1) + 5) (Int32.ofInt_add _ _).symm (fun z_30 hz_30 => ?_)
                      refine lv_aload_n hx hb dX12_isWord_21 rfl (lv_at hlv 1 rfl) ?_
                      refine va_get (D := D) (ci := 12) (v := vI sz_) (C := RX12) (T := TX12) (N := 38) hx hb hts hi12 hown hG.1 hP 0 rfl rfl 3 (by decide) lf89 (fun _ h9 => h9) rfl dX12_isWord_22 ?_
                      refine ir_ge (tgt := 47) hx hb dX12_isWord_25 (by decide) (by omega) (by first | exact rgw hr_sz_ (by decide) (by decide) | omega) (fun c_31 => ?_) (fun c_31 => ?_)
                      · refine lv_iconst (v := iI 0) hx hb dX12_isWord_47 (by decide) ?_
                        refine W.widen (k := 0) (n := 0) (Nat.le_of_ble_eq_true rfl) (Nat.le_of_ble_eq_true rfl) ?_
                        exact W.zret (v := iI 0) hx hb hr (by first | rfl | decide) (fun t ht hW => ⟨⟨iI 0, ((fun k => ([] : List Nat).getD k 0), (fun k => ([0, (u1.2.1 1)] : List Int).getD k 0), (fun k => ([] : List (Nat → Int32)).getD k (fun _ => 0))), rfl, ⟨rfl, (by show (0 ≤ (u1.2.1 1) ∧ (u1.2.1 1) ≤ 602); first | exact hq1_1 | omega), (by show (0 ≤ 0 ∧ 0 ≤ 1); show (0 : Int) ≤ 0 ∧ (0 : Int) ≤ 1; decide), (by show (ap ≤ (u1.2.1 1)); first | exact hk4 | exact hk6 | exact hk7 | exact hk8), (by show (ap ≤ sz_ → (u1.2.1 1) ≤ sz_); first | exact hk4 | exact hk6 | exact hk7 | exact hk8), (by show ((u1.2.1 1) < sz_ → nz f9 ((u1.2.1 1)).toNat ≠ 32); first | exact hk4 | exact hk6 | exact hk7 | exact hk8), (by show ((ap < sz_ → nz f9 ap.toNat ≠ 32) → (u1.2.1 1) = ap); first | exact hk4 | exact hk6 | exact hk7 | exact hk8), (by show (0 = 1 → (u1.2.1 1) < sz_ ∧ nz f9 ((u1.2.1 1)).toNat = 115); omega), hq1_9⟩, at9 ht hP hD [0, 1] (by decide +kernel) rfl⟩, hS.F ht⟩) hS.2.2 dX12_isWord_48
                      · refine lv_aload_n hx hb dX12_isWord_28 rfl (lv_at hlv 1 rfl) ?_
                        refine va_get (D := D) (ci := 12) (v := vR m9) (C := RX12) (T := TX12) (N := 38) hx hb hts hi12 hown hG.1 hP 0 rfl rfl 9 (by decide) lf20 (fun _ h9 => h9) rfl dX12_isWord_29 ?_
                        refine lv_aload_n hx hb dX12_isWord_32 rfl (lv_at hlv 1 rfl) ?_
                        refine va_get (D := D) (ci := 12) (v := vI (u1.2.1 1)) (C := RX12) (T := TX12) (N := 38) hx hb hts hi12 hown hG.1 hP 0 rfl rfl 4 (by decide) lf86 (fun _ h9 => h9) rfl dX12_isWord_33 ?_
                        refine lv_iload_n hx hb dX12_isWord_36 rfl (lv_at hlv 0 rfl) ?_
                        refine lv_iadd hx hb dX12_isWord_37 ?_
                        refine lt_e (e0 := (u1.2.1 1) + 5) (Int32.ofInt_add _ _).symm (fun z_32 hz_32 => ?_)
                        refine va_iald hx hb hG.1 hP 1 0 rfl rfl (iI_in (by omega) (by decide)) dX12_isWord_38 ?_
                        refine lt_nz (i := z_32) (by omega) (fun z_33 hz_33 lz_33 uz_33 => ?_)
                        have hbz_33_9 := inv_nz hq1_9 (k := z_32.toNat) (by omega)
                        refine lv_aload_n hx hb dX12_isWord_39 rfl (lv_at hlv 2 rfl) ?_
                        refine lv_iload_n hx hb dX12_isWord_40 rfl (lv_at hlv 0 rfl) ?_
                        refine cjr_i [true, true] (fun pre9 => (va_runV (As := [vI 5]) (rest := [vI z_33]) ⟨hx, hb, hml, hown, hts⟩ (s_charAt l hl D cy sa 33 5 H.size (by show (0 : Int) ≤ 33 ∧ (33 : Int) ≤ 55; decide) (by show (0 : Int) ≤ 5 ∧ (5 : Int) ≤ 6; decide) (by omega)) (cwV 1 hts gg_3 rfl rfl rfl (by decide +kernel) ⟨Nat.le_of_ble_eq_true rfl, Nat.le_of_ble_eq_true rfl⟩) ⟨pcW.blind, (wo_recv (WD.tx hT.2.2 (33 : Int).toNat (by omega)).1 hS), pre9⟩ rfl rfl hlv.1 rfl (lv_room (Nat.le_of_ble_eq_true rfl)) dX12_isWord_41 ⟨Nat.le_of_ble_eq_true rfl, Nat.le_of_ble_eq_true rfl⟩)) hP hD hS hA hG hT [] rfl (by decide +kernel) (fun r13 u13 H locs hw13 hq9 hS => ?_)
                        obtain ⟨rfl, hq13_1, hq13_2⟩ := hw13
                        obtain ⟨hP, hD⟩ := pd9 [zO mm 12 [vI th, vR m1, vI tp, vI sz_, vI (u1.2.1 1), vI bad, vI bk, vI opn, vI fp, vR m9, vR m10, vR m11, vR m12, vR m13, vR m14, vR m15, vI im, vI nr, vI nl, vR m19, vR m20, vR m21, vI sp_, vR m23, vR m24, vR m25, vR m26, vR m27, vR m28, vI wtc, vI wcl, vI ir, vI ip, vR m33, vI shu, vR m35, vI sfa, vI swr], zI m9 (cy 0) 600 f9] hq9
                        have hev13 : (u13.2.1 0) = 101 := by first | (rw [hq13_2]; rfl) | omega
                        clear hq13_2
                        refine lt_i (y := iI 101) (by rw [show (u13.2.1 0) = 101 by omega]) ?_
                        refine ir_eq (tgt := 49) hx hb dX12_isWord_44 (by decide) (by omega) (by show ((-2147483648) : Int) ≤ 101 ∧ (101 : Int) ≤ 2147483647; decide) (fun c_34 => ?_) (fun c_34 => ?_)
                        · try clear c_29
                          try clear hz_29
                          try clear lz_29
                          try clear uz_29
                          try clear c_30
                          try clear hz_30
                          try clear lz_30
                          try clear uz_30
                          try clear c_31
                          try clear hz_31
                          try clear lz_31
                          try clear uz_31
                          try clear c_32
                          try clear hz_32
                          try clear lz_32
                          try clear uz_32
                          try clear c_33
                          try clear hz_33
                          try clear lz_33
                          try clear uz_33
                          try clear c_34
                          try clear hz_34
                          try clear lz_34
                          try clear uz_34
                          try clear hq12_1
                          try clear hq12_2
                          try clear hq13_1
                          try clear hq13_2
                          try clear hev12
                          try clear hev13
                          refine lv_iinc (v := iI 6) (lv' := [(2, vI 6), (0, vR mm), (1, .ref (sn sa 33))]) hx hb dX12_isWord_49 hlv (k := 0) rfl (by decide) (by decide) rfl (fun ls hlv => ?_)
                          refine lv_goto (tgt := 7) hx hb dX12_isWord_52 (by decide) ?_
                          refine lv_iload_n hx hb dX12_isWord_7 rfl (lv_at hlv 0 rfl) ?_
                          refine lv_aload_n hx hb dX12_isWord_8 rfl (lv_at hlv 2 rfl) ?_
                          refine cjr_i [true, true] (fun pre9 => (va_runV (As := []) (rest := [vI 6]) ⟨hx, hb, hml, hown, hts⟩ (s_length l hl D cy sa 33 H.size (by show (0 : Int) ≤ 33 ∧ (33 : Int) ≤ 55; decide)) (cwV 0 hts gg_1 rfl rfl rfl (by decide +kernel) ⟨Nat.le_of_ble_eq_true rfl, Nat.le_of_ble_eq_true rfl⟩) ⟨pcW.blind, (wo_recv (WD.tx hT.2.2 (33 : Int).toNat (by omega)).1 hS), pre9⟩ rfl rfl hlv.1 rfl (lv_room (Nat.le_of_ble_eq_true rfl)) dX12_isWord_9 ⟨Nat.le_of_ble_eq_true rfl, Nat.le_of_ble_eq_true rfl⟩)) hP hD hS hA hG hT [] rfl (by decide +kernel) (fun r14 u14 H locs hw14 hq9 hS => ?_)
                          obtain ⟨rfl, hq14_1, hq14_2⟩ := hw14
                          obtain ⟨hP, hD⟩ := pd9 [zO mm 12 [vI th, vR m1, vI tp, vI sz_, vI (u1.2.1 1), vI bad, vI bk, vI opn, vI fp, vR m9, vR m10, vR m11, vR m12, vR m13, vR m14, vR m15, vI im, vI nr, vI nl, vR m19, vR m20, vR m21, vI sp_, vR m23, vR m24, vR m25, vR m26, vR m27, vR m28, vI wtc, vI wcl, vI ir, vI ip, vR m33, vI shu, vR m35, vI sfa, vI swr], zI m9 (cy 0) 600 f9] hq9
                          have hev14 : (u14.2.1 0) = 7 := by first | (rw [hq14_2]; rfl) | omega
                          refine lt_i (y := iI 7) (by rw [show (u14.2.1 0) = 7 by omega]) ?_
                          refine ir_ge (tgt := 55) hx hb dX12_isWord_12 (by decide) (by show ((-2147483648) : Int) ≤ 6 ∧ (6 : Int) ≤ 2147483647; decide) (by show ((-2147483648) : Int) ≤ 7 ∧ (7 : Int) ≤ 2147483647; decide) (fun c_35 => by exfalso; omega) (fun c_35 => ?_)
                          refine lv_aload_n hx hb dX12_isWord_15 rfl (lv_at hlv 1 rfl) ?_
                          refine va_get (D := D) (ci := 12) (v := vI (u1.2.1 1)) (C := RX12) (T := TX12) (N := 38) hx hb hts hi12 hown hG.1 hP 0 rfl rfl 4 (by decide) lf86 (fun _ h9 => h9) rfl dX12_isWord_16 ?_
                          refine lv_iload_n hx hb dX12_isWord_19 rfl (lv_at hlv 0 rfl) ?_
                          refine lv_iadd hx hb dX12_isWord_20 ?_
                          refine lt_e (e0 := (u1.2.1 1) + 6) (Int32.ofInt_add _ _).symm (fun z_36 hz_36 => ?_)
                          refine lv_aload_n hx hb dX12_isWord_21 rfl (lv_at hlv 1 rfl) ?_
                          refine va_get (D := D) (ci := 12) (v := vI sz_) (C := RX12) (T := TX12) (N := 38) hx hb hts hi12 hown hG.1 hP 0 rfl rfl 3 (by decide) lf89 (fun _ h9 => h9) rfl dX12_isWord_22 ?_
                          refine ir_ge (tgt := 47) hx hb dX12_isWord_25 (by decide) (by omega) (by first | exact rgw hr_sz_ (by decide) (by decide) | omega) (fun c_37 => ?_) (fun c_37 => ?_)
                          · refine lv_iconst (v := iI 0) hx hb dX12_isWord_47 (by decide) ?_
                            refine W.widen (k := 0) (n := 0) (Nat.le_of_ble_eq_true rfl) (Nat.le_of_ble_eq_true rfl) ?_
                            exact W.zret (v := iI 0) hx hb hr (by first | rfl | decide) (fun t ht hW => ⟨⟨iI 0, ((fun k => ([] : List Nat).getD k 0), (fun k => ([0, (u1.2.1 1)] : List Int).getD k 0), (fun k => ([] : List (Nat → Int32)).getD k (fun _ => 0))), rfl, ⟨rfl, (by show (0 ≤ (u1.2.1 1) ∧ (u1.2.1 1) ≤ 602); first | exact hq1_1 | omega), (by show (0 ≤ 0 ∧ 0 ≤ 1); show (0 : Int) ≤ 0 ∧ (0 : Int) ≤ 1; decide), (by show (ap ≤ (u1.2.1 1)); first | exact hk4 | exact hk6 | exact hk7 | exact hk8), (by show (ap ≤ sz_ → (u1.2.1 1) ≤ sz_); first | exact hk4 | exact hk6 | exact hk7 | exact hk8), (by show ((u1.2.1 1) < sz_ → nz f9 ((u1.2.1 1)).toNat ≠ 32); first | exact hk4 | exact hk6 | exact hk7 | exact hk8), (by show ((ap < sz_ → nz f9 ap.toNat ≠ 32) → (u1.2.1 1) = ap); first | exact hk4 | exact hk6 | exact hk7 | exact hk8), (by show (0 = 1 → (u1.2.1 1) < sz_ ∧ nz f9 ((u1.2.1 1)).toNat = 115); omega), hq1_9⟩, at9 ht hP hD [0, 1] (by decide +kernel) rfl⟩, hS.F ht⟩) hS.2.2 dX12_isWord_48
                          · refine lv_aload_n hx hb dX12_isWord_28 rfl (lv_at hlv 1 rfl) ?_
                            refine va_get (D := D) (ci := 12) (v := vR m9) (C := RX12) (T := TX12) (N := 38) hx hb hts hi12 hown hG.1 hP 0 rfl rfl 9 (by decide) lf20 (fun _ h9 => h9) rfl dX12_isWord_29 ?_
                            refine lv_aload_n hx hb dX12_isWord_32 rfl (lv_at hlv 1 rfl) ?_
                            refine va_get (D := D) (ci := 12) (v := vI (u1.2.1 1)) (C := RX12) (T := TX12) (N := 38) hx hb hts hi12 hown hG.1 hP 0 rfl rfl 4 (by decide) lf86 (fun _ h9 => h9) rfl dX12_isWord_33 ?_
                            refine lv_iload_n hx hb dX12_isWord_36 rfl (lv_at hlv 0 rfl) ?_
                            refine lv_iadd hx hb dX12_isWord_37 ?_
                            refine lt_e (e0 := (u1.2.1 1) + 6) (Int32.ofInt_add _ _).symm (fun z_38 hz_38 => ?_)
                            refine va_iald hx hb hG.1 hP 1 0 rfl rfl (iI_in (by omega) (by decide)) dX12_isWord_38 ?_
                            refine lt_nz (i := z_38) (by omega) (fun z_39 hz_39 lz_39 uz_39 => ?_)
                            have hbz_39_9 := inv_nz hq1_9 (k := z_38.toNat) (by omega)
                            refine lv_aload_n hx hb dX12_isWord_39 rfl (lv_at hlv 2 rfl) ?_
                            refine lv_iload_n hx hb dX12_isWord_40 rfl (lv_at hlv 0 rfl) ?_
                            refine cjr_i [true, true] (fun pre9 => (va_runV (As := [vI 6]) (rest := [vI z_39]) ⟨hx, hb, hml, hown, hts⟩ (s_charAt l hl D cy sa 33 6 H.size (by show (0 : Int) ≤ 33 ∧ (33 : Int) ≤ 55; decide) (by show (0 : Int) ≤ 6 ∧ (6 : Int) ≤ 6; decide) (by omega)) (cwV 1 hts gg_3 rfl rfl rfl (by decide +kernel) ⟨Nat.le_of_ble_eq_true rfl, Nat.le_of_ble_eq_true rfl⟩) ⟨pcW.blind, (wo_recv (WD.tx hT.2.2 (33 : Int).toNat (by omega)).1 hS), pre9⟩ rfl rfl hlv.1 rfl (lv_room (Nat.le_of_ble_eq_true rfl)) dX12_isWord_41 ⟨Nat.le_of_ble_eq_true rfl, Nat.le_of_ble_eq_true rfl⟩)) hP hD hS hA hG hT [] rfl (by decide +kernel) (fun r15 u15 H locs hw15 hq9 hS => ?_)
                            obtain ⟨rfl, hq15_1, hq15_2⟩ := hw15
                            obtain ⟨hP, hD⟩ := pd9 [zO mm 12 [vI th, vR m1, vI tp, vI sz_, vI (u1.2.1 1), vI bad, vI bk, vI opn, vI fp, vR m9, vR m10, vR m11, vR m12, vR m13, vR m14, vR m15, vI im, vI nr, vI nl, vR m19, vR m20, vR m21, vI sp_, vR m23, vR m24, vR m25, vR m26, vR m27, vR m28, vI wtc, vI wcl, vI ir, vI ip, vR m33, vI shu, vR m35, vI sfa, vI swr], zI m9 (cy 0) 600 f9] hq9
                            have hev15 : (u15.2.1 0) = 114 := by first | (rw [hq15_2]; rfl) | omega
                            clear hq15_2
                            refine lt_i (y := iI 114) (by rw [show (u15.2.1 0) = 114 by omega]) ?_
                            refine ir_eq (tgt := 49) hx hb dX12_isWord_44 (by decide) (by omega) (by show ((-2147483648) : Int) ≤ 114 ∧ (114 : Int) ≤ 2147483647; decide) (fun c_40 => ?_) (fun c_40 => ?_)
                            · try clear c_35
                              try clear hz_35
                              try clear lz_35
                              try clear uz_35
                              try clear c_36
                              try clear hz_36
                              try clear lz_36
                              try clear uz_36
                              try clear c_37
                              try clear hz_37
                              try clear lz_37
                              try clear uz_37
                              try clear c_38
                              try clear hz_38
                              try clear lz_38
                              try clear uz_38
                              try clear c_39
                              try clear hz_39
                              try clear lz_39
                              try clear uz_39
                              try clear c_40
                              try clear hz_40
                              try clear lz_40
                              try clear uz_40
                              try clear hq14_1
                              try clear hq14_2
                              try clear hq15_1
                              try clear hq15_2
                              try clear hev14
                              try clear hev15
                              refine lv_iinc (v := iI 7) (lv' := [(2, vI 7), (0, vR mm), (1, .ref (sn sa 33))]) hx hb dX12_isWord_49 hlv (k := 0) rfl (by decide) (by decide) rfl (fun ls hlv => ?_)
                              refine lv_goto (tgt := 7) hx hb dX12_isWord_52 (by decide) ?_
                              refine lv_iload_n hx hb dX12_isWord_7 rfl (lv_at hlv 0 rfl) ?_
                              refine lv_aload_n hx hb dX12_isWord_8 rfl (lv_at hlv 2 rfl) ?_
                              refine cjr_i [true, true] (fun pre9 => (va_runV (As := []) (rest := [vI 7]) ⟨hx, hb, hml, hown, hts⟩ (s_length l hl D cy sa 33 H.size (by show (0 : Int) ≤ 33 ∧ (33 : Int) ≤ 55; decide)) (cwV 0 hts gg_1 rfl rfl rfl (by decide +kernel) ⟨Nat.le_of_ble_eq_true rfl, Nat.le_of_ble_eq_true rfl⟩) ⟨pcW.blind, (wo_recv (WD.tx hT.2.2 (33 : Int).toNat (by omega)).1 hS), pre9⟩ rfl rfl hlv.1 rfl (lv_room (Nat.le_of_ble_eq_true rfl)) dX12_isWord_9 ⟨Nat.le_of_ble_eq_true rfl, Nat.le_of_ble_eq_true rfl⟩)) hP hD hS hA hG hT [] rfl (by decide +kernel) (fun r16 u16 H locs hw16 hq9 hS => ?_)
                              obtain ⟨rfl, hq16_1, hq16_2⟩ := hw16
                              obtain ⟨hP, hD⟩ := pd9 [zO mm 12 [vI th, vR m1, vI tp, vI sz_, vI (u1.2.1 1), vI bad, vI bk, vI opn, vI fp, vR m9, vR m10, vR m11, vR m12, vR m13, vR m14, vR m15, vI im, vI nr, vI nl, vR m19, vR m20, vR m21, vI sp_, vR m23, vR m24, vR m25, vR m26, vR m27, vR m28, vI wtc, vI wcl, vI ir, vI ip, vR m33, vI shu, vR m35, vI sfa, vI swr], zI m9 (cy 0) 600 f9] hq9
                              have hev16 : (u16.2.1 0) = 7 := by first | (rw [hq16_2]; rfl) | omega
                              refine lt_i (y := iI 7) (by rw [show (u16.2.1 0) = 7 by omega]) ?_
                              refine ir_ge (tgt := 55) hx hb dX12_isWord_12 (by decide) (by show ((-2147483648) : Int) ≤ 7 ∧ (7 : Int) ≤ 2147483647; decide) (by show ((-2147483648) : Int) ≤ 7 ∧ (7 : Int) ≤ 2147483647; decide) (fun c_41 => ?_) (fun c_41 => by exfalso; omega)
                              refine lv_aload_n hx hb dX12_isWord_55 rfl (lv_at hlv 1 rfl) ?_
                              refine va_get (D := D) (ci := 12) (v := vI (u1.2.1 1)) (C := RX12) (T := TX12) (N := 38) hx hb hts hi12 hown hG.1 hP 0 rfl rfl 4 (by decide) lf86 (fun _ h9 => h9) rfl dX12_isWord_56 ?_
                              refine lv_aload_n hx hb dX12_isWord_59 rfl (lv_at hlv 2 rfl) ?_
                              refine cjr_i [true, true] (fun pre9 => (va_runV (As := []) (rest := [vI (u1.2.1 1)]) ⟨hx, hb, hml, hown, hts⟩ (s_length l hl D cy sa 33 H.size (by show (0 : Int) ≤ 33 ∧ (33 : Int) ≤ 55; decide)) (cwV 0 hts gg_1 rfl rfl rfl (by decide +kernel) ⟨Nat.le_of_ble_eq_true rfl, Nat.le_of_ble_eq_true rfl⟩) ⟨pcW.blind, (wo_recv (WD.tx hT.2.2 (33 : Int).toNat (by omega)).1 hS), pre9⟩ rfl rfl hlv.1 rfl (lv_room (Nat.le_of_ble_eq_true rfl)) dX12_isWord_60 ⟨Nat.le_of_ble_eq_true rfl, Nat.le_of_ble_eq_true rfl⟩)) hP hD hS hA hG hT [] rfl (by decide +kernel) (fun r17 u17 H locs hw17 hq9 hS => ?_)
                              obtain ⟨rfl, hq17_1, hq17_2⟩ := hw17
                              obtain ⟨hP, hD⟩ := pd9 [zO mm 12 [vI th, vR m1, vI tp, vI sz_, vI (u1.2.1 1), vI bad, vI bk, vI opn, vI fp, vR m9, vR m10, vR m11, vR m12, vR m13, vR m14, vR m15, vI im, vI nr, vI nl, vR m19, vR m20, vR m21, vI sp_, vR m23, vR m24, vR m25, vR m26, vR m27, vR m28, vI wtc, vI wcl, vI ir, vI ip, vR m33, vI shu, vR m35, vI sfa, vI swr], zI m9 (cy 0) 600 f9] hq9
                              have hev17 : (u17.2.1 0) = 7 := by first | (rw [hq17_2]; rfl) | omega
                              refine lt_i (y := iI 7) (by rw [show (u17.2.1 0) = 7 by omega]) ?_
                              refine lv_iadd hx hb dX12_isWord_63 ?_
                              refine lt_e (e0 := (u1.2.1 1) + 7) (Int32.ofInt_add _ _).symm (fun z_42 hz_42 => ?_)
                              refine lv_aload_n hx hb dX12_isWord_64 rfl (lv_at hlv 1 rfl) ?_
                              refine va_get (D := D) (ci := 12) (v := vI sz_) (C := RX12) (T := TX12) (N := 38) hx hb hts hi12 hown hG.1 hP 0 rfl rfl 3 (by decide) lf89 (fun _ h9 => h9) rfl dX12_isWord_65 ?_
                              refine ir_ge (tgt := 91) hx hb dX12_isWord_68 (by decide) (by omega) (by first | exact rgw hr_sz_ (by decide) (by decide) | omega) (fun c_43 => ?_) (fun c_43 => ?_)
                              · refine lv_iconst (v := iI 1) hx hb dX12_isWord_91 (by decide) ?_
                                refine lv_goto (tgt := 96) hx hb dX12_isWord_92 (by decide) ?_
                                refine W.widen (k := 0) (n := 0) (Nat.le_of_ble_eq_true rfl) (Nat.le_of_ble_eq_true rfl) ?_
                                exact W.zret (v := iI 1) hx hb hr (by first | rfl | decide) (fun t ht hW => ⟨⟨iI 1, ((fun k => ([] : List Nat).getD k 0), (fun k => ([1, (u1.2.1 1)] : List Int).getD k 0), (fun k => ([] : List (Nat → Int32)).getD k (fun _ => 0))), rfl, ⟨rfl, (by show (0 ≤ (u1.2.1 1) ∧ (u1.2.1 1) ≤ 602); first | exact hq1_1 | omega), (by show (0 ≤ 1 ∧ 1 ≤ 1); show (0 : Int) ≤ 1 ∧ (1 : Int) ≤ 1; decide), (by show (ap ≤ (u1.2.1 1)); first | exact hk4 | exact hk6 | exact hk7 | exact hk8), (by show (ap ≤ sz_ → (u1.2.1 1) ≤ sz_); first | exact hk4 | exact hk6 | exact hk7 | exact hk8), (by show ((u1.2.1 1) < sz_ → nz f9 ((u1.2.1 1)).toNat ≠ 32); first | exact hk4 | exact hk6 | exact hk7 | exact hk8), (by show ((ap < sz_ → nz f9 ap.toNat ≠ 32) → (u1.2.1 1) = ap); first | exact hk4 | exact hk6 | exact hk7 | exact hk8), (by show (1 = 1 → (u1.2.1 1) < sz_ ∧ nz f9 ((u1.2.1 1)).toNat = 115); omega), hq1_9⟩, at9 ht hP hD [0, 1] (by decide +kernel) rfl⟩, hS.F ht⟩) hS.2.2 dX12_isWord_96
                              · refine lv_aload_n hx hb dX12_isWord_71 rfl (lv_at hlv 1 rfl) ?_
                                refine va_get (D := D) (ci := 12) (v := vR m9) (C := RX12) (T := TX12) (N := 38) hx hb hts hi12 hown hG.1 hP 0 rfl rfl 9 (by decide) lf20 (fun _ h9 => h9) rfl dX12_isWord_72 ?_
                                refine lv_aload_n hx hb dX12_isWord_75 rfl (lv_at hlv 1 rfl) ?_
                                refine va_get (D := D) (ci := 12) (v := vI (u1.2.1 1)) (C := RX12) (T := TX12) (N := 38) hx hb hts hi12 hown hG.1 hP 0 rfl rfl 4 (by decide) lf86 (fun _ h9 => h9) rfl dX12_isWord_76 ?_
                                refine lv_aload_n hx hb dX12_isWord_79 rfl (lv_at hlv 2 rfl) ?_
                                refine cjr_i [true, true] (fun pre9 => (va_runV (As := []) (rest := [vI (u1.2.1 1), vR m9]) ⟨hx, hb, hml, hown, hts⟩ (s_length l hl D cy sa 33 H.size (by show (0 : Int) ≤ 33 ∧ (33 : Int) ≤ 55; decide)) (cwV 0 hts gg_1 rfl rfl rfl (by decide +kernel) ⟨Nat.le_of_ble_eq_true rfl, Nat.le_of_ble_eq_true rfl⟩) ⟨pcW.blind, (wo_recv (WD.tx hT.2.2 (33 : Int).toNat (by omega)).1 hS), pre9⟩ rfl rfl hlv.1 rfl (lv_room (Nat.le_of_ble_eq_true rfl)) dX12_isWord_80 ⟨Nat.le_of_ble_eq_true rfl, Nat.le_of_ble_eq_true rfl⟩)) hP hD hS hA hG hT [] rfl (by decide +kernel) (fun r18 u18 H locs hw18 hq9 hS => ?_)
                                obtain ⟨rfl, hq18_1, hq18_2⟩ := hw18
                                obtain ⟨hP, hD⟩ := pd9 [zO mm 12 [vI th, vR m1, vI tp, vI sz_, vI (u1.2.1 1), vI bad, vI bk, vI opn, vI fp, vR m9, vR m10, vR m11, vR m12, vR m13, vR m14, vR m15, vI im, vI nr, vI nl, vR m19, vR m20, vR m21, vI sp_, vR m23, vR m24, vR m25, vR m26, vR m27, vR m28, vI wtc, vI wcl, vI ir, vI ip, vR m33, vI shu, vR m35, vI sfa, vI swr], zI m9 (cy 0) 600 f9] hq9
                                have hev18 : (u18.2.1 0) = 7 := by first | (rw [hq18_2]; rfl) | omega
                                refine lt_i (y := iI 7) (by rw [show (u18.2.1 0) = 7 by omega]) ?_
                                refine lv_iadd hx hb dX12_isWord_83 ?_
                                refine lt_e (e0 := (u1.2.1 1) + 7) (Int32.ofInt_add _ _).symm (fun z_44 hz_44 => ?_)
                                refine va_iald hx hb hG.1 hP 1 0 rfl rfl (iI_in (by omega) (by decide)) dX12_isWord_84 ?_
                                refine lt_nz (i := z_44) (by omega) (fun z_45 hz_45 lz_45 uz_45 => ?_)
                                have hbz_45_14 := inv_nz hq1_9 (k := z_44.toNat) (by omega)
                                refine cjr_i [true, true] (fun pre9 => (va_runS (As := [vI z_45]) (rest := []) ⟨hx, hb, hml, hown, hts⟩ (m_isSmall l hl D cy sa z_45 H.size (by omega)) (va_cwS 1 hts gg_4 rfl rfl rfl (by decide +kernel) ⟨Nat.le_of_ble_eq_true rfl, Nat.le_of_ble_eq_true rfl⟩) ⟨pcW.blind, pre9⟩ rfl rfl hlv.1 rfl (lv_room (Nat.le_of_ble_eq_true rfl)) dX12_isWord_85 ⟨Nat.le_of_ble_eq_true rfl, Nat.le_of_ble_eq_true rfl⟩)) hP hD hS hA hG hT [] rfl (by decide +kernel) (fun r19 u19 H locs hw19 hq9 hS => ?_)
                                obtain ⟨rfl, hq19_1, hq19_2, hq19_3⟩ := hw19
                                obtain ⟨hP, hD⟩ := pd9 [zO mm 12 [vI th, vR m1, vI tp, vI sz_, vI (u1.2.1 1), vI bad, vI bk, vI opn, vI fp, vR m9, vR m10, vR m11, vR m12, vR m13, vR m14, vR m15, vI im, vI nr, vI nl, vR m19, vR m20, vR m21, vI sp_, vR m23, vR m24, vR m25, vR m26, vR m27, vR m28, vI wtc, vI wcl, vI ir, vI ip, vR m33, vI shu, vR m35, vI sfa, vI swr], zI m9 (cy 0) 600 f9] hq9
                                refine iz_ne (tgt := 95) hx hb dX12_isWord_88 (by decide) (by first | exact rgw hq19_1 (by decide) (by decide) | omega) (fun c_46 => ?_) (fun c_46 => ?_)
                                · refine lv_iconst (v := iI 0) hx hb dX12_isWord_95 (by decide) ?_
                                  refine W.widen (k := 0) (n := 0) (Nat.le_of_ble_eq_true rfl) (Nat.le_of_ble_eq_true rfl) ?_
                                  exact W.zret (v := iI 0) hx hb hr (by first | rfl | decide) (fun t ht hW => ⟨⟨iI 0, ((fun k => ([] : List Nat).getD k 0), (fun k => ([0, (u1.2.1 1)] : List Int).getD k 0), (fun k => ([] : List (Nat → Int32)).getD k (fun _ => 0))), rfl, ⟨rfl, (by show (0 ≤ (u1.2.1 1) ∧ (u1.2.1 1) ≤ 602); first | exact hq1_1 | omega), (by show (0 ≤ 0 ∧ 0 ≤ 1); show (0 : Int) ≤ 0 ∧ (0 : Int) ≤ 1; decide), (by show (ap ≤ (u1.2.1 1)); first | exact hk4 | exact hk6 | exact hk7 | exact hk8), (by show (ap ≤ sz_ → (u1.2.1 1) ≤ sz_); first | exact hk4 | exact hk6 | exact hk7 | exact hk8), (by show ((u1.2.1 1) < sz_ → nz f9 ((u1.2.1 1)).toNat ≠ 32); first | exact hk4 | exact hk6 | exact hk7 | exact hk8), (by show ((ap < sz_ → nz f9 ap.toNat ≠ 32) → (u1.2.1 1) = ap); first | exact hk4 | exact hk6 | exact hk7 | exact hk8), (by show (0 = 1 → (u1.2.1 1) < sz_ ∧ nz f9 ((u1.2.1 1)).toNat = 115); omega), hq1_9⟩, at9 ht hP hD [0, 1] (by decide +kernel) rfl⟩, hS.F ht⟩) hS.2.2 dX12_isWord_96
                                · refine lv_iconst (v := iI 1) hx hb dX12_isWord_91 (by decide) ?_
                                  refine lv_goto (tgt := 96) hx hb dX12_isWord_92 (by decide) ?_
                                  refine W.widen (k := 0) (n := 0) (Nat.le_of_ble_eq_true rfl) (Nat.le_of_ble_eq_true rfl) ?_
                                  exact W.zret (v := iI 1) hx hb hr (by first | rfl | decide) (fun t ht hW => ⟨⟨iI 1, ((fun k => ([] : List Nat).getD k 0), (fun k => ([1, (u1.2.1 1)] : List Int).getD k 0), (fun k => ([] : List (Nat → Int32)).getD k (fun _ => 0))), rfl, ⟨rfl, (by show (0 ≤ (u1.2.1 1) ∧ (u1.2.1 1) ≤ 602); first | exact hq1_1 | omega), (by show (0 ≤ 1 ∧ 1 ≤ 1); show (0 : Int) ≤ 1 ∧ (1 : Int) ≤ 1; decide), (by show (ap ≤ (u1.2.1 1)); first | exact hk4 | exact hk6 | exact hk7 | exact hk8), (by show (ap ≤ sz_ → (u1.2.1 1) ≤ sz_); first | exact hk4 | exact hk6 | exact hk7 | exact hk8), (by show ((u1.2.1 1) < sz_ → nz f9 ((u1.2.1 1)).toNat ≠ 32); first | exact hk4 | exact hk6 | exact hk7 | exact hk8), (by show ((ap < sz_ → nz f9 ap.toNat ≠ 32) → (u1.2.1 1) = ap); first | exact hk4 | exact hk6 | exact hk7 | exact hk8), (by show (1 = 1 → (u1.2.1 1) < sz_ ∧ nz f9 ((u1.2.1 1)).toNat = 115); omega), hq1_9⟩, at9 ht hP hD [0, 1] (by decide +kernel) rfl⟩, hS.F ht⟩) hS.2.2 dX12_isWord_96
                            · refine lv_iconst (v := iI 0) hx hb dX12_isWord_47 (by decide) ?_
                              refine W.widen (k := 0) (n := 0) (Nat.le_of_ble_eq_true rfl) (Nat.le_of_ble_eq_true rfl) ?_
                              exact W.zret (v := iI 0) hx hb hr (by first | rfl | decide) (fun t ht hW => ⟨⟨iI 0, ((fun k => ([] : List Nat).getD k 0), (fun k => ([0, (u1.2.1 1)] : List Int).getD k 0), (fun k => ([] : List (Nat → Int32)).getD k (fun _ => 0))), rfl, ⟨rfl, (by show (0 ≤ (u1.2.1 1) ∧ (u1.2.1 1) ≤ 602); first | exact hq1_1 | omega), (by show (0 ≤ 0 ∧ 0 ≤ 1); show (0 : Int) ≤ 0 ∧ (0 : Int) ≤ 1; decide), (by show (ap ≤ (u1.2.1 1)); first | exact hk4 | exact hk6 | exact hk7 | exact hk8), (by show (ap ≤ sz_ → (u1.2.1 1) ≤ sz_); first | exact hk4 | exact hk6 | exact hk7 | exact hk8), (by show ((u1.2.1 1) < sz_ → nz f9 ((u1.2.1 1)).toNat ≠ 32); first | exact hk4 | exact hk6 | exact hk7 | exact hk8), (by show ((ap < sz_ → nz f9 ap.toNat ≠ 32) → (u1.2.1 1) = ap); first | exact hk4 | exact hk6 | exact hk7 | exact hk8), (by show (0 = 1 → (u1.2.1 1) < sz_ ∧ nz f9 ((u1.2.1 1)).toNat = 115); omega), hq1_9⟩, at9 ht hP hD [0, 1] (by decide +kernel) rfl⟩, hS.F ht⟩) hS.2.2 dX12_isWord_48
                        · refine lv_iconst (v := iI 0) hx hb dX12_isWord_47 (by decide) ?_
                          refine W.widen (k := 0) (n := 0) (Nat.le_of_ble_eq_true rfl) (Nat.le_of_ble_eq_true rfl) ?_
                          exact W.zret (v := iI 0) hx hb hr (by first | rfl | decide) (fun t ht hW => ⟨⟨iI 0, ((fun k => ([] : List Nat).getD k 0), (fun k => ([0, (u1.2.1 1)] : List Int).getD k 0), (fun k => ([] : List (Nat → Int32)).getD k (fun _ => 0))), rfl, ⟨rfl, (by show (0 ≤ (u1.2.1 1) ∧ (u1.2.1 1) ≤ 602); first | exact hq1_1 | omega), (by show (0 ≤ 0 ∧ 0 ≤ 1); show (0 : Int) ≤ 0 ∧ (0 : Int) ≤ 1; decide), (by show (ap ≤ (u1.2.1 1)); first | exact hk4 | exact hk6 | exact hk7 | exact hk8), (by show (ap ≤ sz_ → (u1.2.1 1) ≤ sz_); first | exact hk4 | exact hk6 | exact hk7 | exact hk8), (by show ((u1.2.1 1) < sz_ → nz f9 ((u1.2.1 1)).toNat ≠ 32); first | exact hk4 | exact hk6 | exact hk7 | exact hk8), (by show ((ap < sz_ → nz f9 ap.toNat ≠ 32) → (u1.2.1 1) = ap); first | exact hk4 | exact hk6 | exact hk7 | exact hk8), (by show (0 = 1 → (u1.2.1 1) < sz_ ∧ nz f9 ((u1.2.1 1)).toNat = 115); omega), hq1_9⟩, at9 ht hP hD [0, 1] (by decide +kernel) rfl⟩, hS.F ht⟩) hS.2.2 dX12_isWord_48
                    · refine lv_iconst (v := iI 0) hx hb dX12_isWord_47 (by decide) ?_
                      refine W.widen (k := 0) (n := 0) (Nat.le_of_ble_eq_true rfl) (Nat.le_of_ble_eq_true rfl) ?_
                      exact W.zret (v := iI 0) hx hb hr (by first | rfl | decide) (fun t ht hW => ⟨⟨iI 0, ((fun k => ([] : List Nat).getD k 0), (fun k => ([0, (u1.2.1 1)] : List Int).getD k 0), (fun k => ([] : List (Nat → Int32)).getD k (fun _ => 0))), rfl, ⟨rfl, (by show (0 ≤ (u1.2.1 1) ∧ (u1.2.1 1) ≤ 602); first | exact hq1_1 | omega), (by show (0 ≤ 0 ∧ 0 ≤ 1); show (0 : Int) ≤ 0 ∧ (0 : Int) ≤ 1; decide), (by show (ap ≤ (u1.2.1 1)); first | exact hk4 | exact hk6 | exact hk7 | exact hk8), (by show (ap ≤ sz_ → (u1.2.1 1) ≤ sz_); first | exact hk4 | exact hk6 | exact hk7 | exact hk8), (by show ((u1.2.1 1) < sz_ → nz f9 ((u1.2.1 1)).toNat ≠ 32); first | exact hk4 | exact hk6 | exact hk7 | exact hk8), (by show ((ap < sz_ → nz f9 ap.toNat ≠ 32) → (u1.2.1 1) = ap); first | exact hk4 | exact hk6 | exact hk7 | exact hk8), (by show (0 = 1 → (u1.2.1 1) < sz_ ∧ nz f9 ((u1.2.1 1)).toNat = 115); omega), hq1_9⟩, at9 ht hP hD [0, 1] (by decide +kernel) rfl⟩, hS.F ht⟩) hS.2.2 dX12_isWord_48
                · refine lv_iconst (v := iI 0) hx hb dX12_isWord_47 (by decide) ?_
                  refine W.widen (k := 0) (n := 0) (Nat.le_of_ble_eq_true rfl) (Nat.le_of_ble_eq_true rfl) ?_
                  exact W.zret (v := iI 0) hx hb hr (by first | rfl | decide) (fun t ht hW => ⟨⟨iI 0, ((fun k => ([] : List Nat).getD k 0), (fun k => ([0, (u1.2.1 1)] : List Int).getD k 0), (fun k => ([] : List (Nat → Int32)).getD k (fun _ => 0))), rfl, ⟨rfl, (by show (0 ≤ (u1.2.1 1) ∧ (u1.2.1 1) ≤ 602); first | exact hq1_1 | omega), (by show (0 ≤ 0 ∧ 0 ≤ 1); show (0 : Int) ≤ 0 ∧ (0 : Int) ≤ 1; decide), (by show (ap ≤ (u1.2.1 1)); first | exact hk4 | exact hk6 | exact hk7 | exact hk8), (by show (ap ≤ sz_ → (u1.2.1 1) ≤ sz_); first | exact hk4 | exact hk6 | exact hk7 | exact hk8), (by show ((u1.2.1 1) < sz_ → nz f9 ((u1.2.1 1)).toNat ≠ 32); first | exact hk4 | exact hk6 | exact hk7 | exact hk8), (by show ((ap < sz_ → nz f9 ap.toNat ≠ 32) → (u1.2.1 1) = ap); first | exact hk4 | exact hk6 | exact hk7 | exact hk8), (by show (0 = 1 → (u1.2.1 1) < sz_ ∧ nz f9 ((u1.2.1 1)).toNat = 115); omega), hq1_9⟩, at9 ht hP hD [0, 1] (by decide +kernel) rfl⟩, hS.F ht⟩) hS.2.2 dX12_isWord_48
            · refine lv_iconst (v := iI 0) hx hb dX12_isWord_47 (by decide) ?_
              refine W.widen (k := 0) (n := 0) (Nat.le_of_ble_eq_true rfl) (Nat.le_of_ble_eq_true rfl) ?_
              exact W.zret (v := iI 0) hx hb hr (by first | rfl | decide) (fun t ht hW => ⟨⟨iI 0, ((fun k => ([] : List Nat).getD k 0), (fun k => ([0, (u1.2.1 1)] : List Int).getD k 0), (fun k => ([] : List (Nat → Int32)).getD k (fun _ => 0))), rfl, ⟨rfl, (by show (0 ≤ (u1.2.1 1) ∧ (u1.2.1 1) ≤ 602); first | exact hq1_1 | omega), (by show (0 ≤ 0 ∧ 0 ≤ 1); show (0 : Int) ≤ 0 ∧ (0 : Int) ≤ 1; decide), (by show (ap ≤ (u1.2.1 1)); first | exact hk4 | exact hk6 | exact hk7 | exact hk8), (by show (ap ≤ sz_ → (u1.2.1 1) ≤ sz_); first | exact hk4 | exact hk6 | exact hk7 | exact hk8), (by show ((u1.2.1 1) < sz_ → nz f9 ((u1.2.1 1)).toNat ≠ 32); first | exact hk4 | exact hk6 | exact hk7 | exact hk8), (by show ((ap < sz_ → nz f9 ap.toNat ≠ 32) → (u1.2.1 1) = ap); first | exact hk4 | exact hk6 | exact hk7 | exact hk8), (by show (0 = 1 → (u1.2.1 1) < sz_ ∧ nz f9 ((u1.2.1 1)).toNat = 115); omega), hq1_9⟩, at9 ht hP hD [0, 1] (by decide +kernel) rfl⟩, hS.F ht⟩) hS.2.2 dX12_isWord_48
        · refine lv_iconst (v := iI 0) hx hb dX12_isWord_47 (by decide) ?_
          refine W.widen (k := 0) (n := 0) (Nat.le_of_ble_eq_true rfl) (Nat.le_of_ble_eq_true rfl) ?_
          exact W.zret (v := iI 0) hx hb hr (by first | rfl | decide) (fun t ht hW => ⟨⟨iI 0, ((fun k => ([] : List Nat).getD k 0), (fun k => ([0, (u1.2.1 1)] : List Int).getD k 0), (fun k => ([] : List (Nat → Int32)).getD k (fun _ => 0))), rfl, ⟨rfl, (by show (0 ≤ (u1.2.1 1) ∧ (u1.2.1 1) ≤ 602); first | exact hq1_1 | omega), (by show (0 ≤ 0 ∧ 0 ≤ 1); show (0 : Int) ≤ 0 ∧ (0 : Int) ≤ 1; decide), (by show (ap ≤ (u1.2.1 1)); first | exact hk4 | exact hk6 | exact hk7 | exact hk8), (by show (ap ≤ sz_ → (u1.2.1 1) ≤ sz_); first | exact hk4 | exact hk6 | exact hk7 | exact hk8), (by show ((u1.2.1 1) < sz_ → nz f9 ((u1.2.1 1)).toNat ≠ 32); first | exact hk4 | exact hk6 | exact hk7 | exact hk8), (by show ((ap < sz_ → nz f9 ap.toNat ≠ 32) → (u1.2.1 1) = ap); first | exact hk4 | exact hk6 | exact hk7 | exact hk8), (by show (0 = 1 → (u1.2.1 1) < sz_ ∧ nz f9 ((u1.2.1 1)).toNat = 115); omega), hq1_9⟩, at9 ht hP hD [0, 1] (by decide +kernel) rfl⟩, hS.F ht⟩) hS.2.2 dX12_isWord_48
    · refine lv_iconst (v := iI 0) hx hb dX12_isWord_47 (by decide) ?_
      refine W.widen (k := 0) (n := 0) (Nat.le_of_ble_eq_true rfl) (Nat.le_of_ble_eq_true rfl) ?_
      exact W.zret (v := iI 0) hx hb hr (by first | rfl | decide) (fun t ht hW => ⟨⟨iI 0, ((fun k => ([] : List Nat).getD k 0), (fun k => ([0, (u1.2.1 1)] : List Int).getD k 0), (fun k => ([] : List (Nat → Int32)).getD k (fun _ => 0))), rfl, ⟨rfl, (by show (0 ≤ (u1.2.1 1) ∧ (u1.2.1 1) ≤ 602); first | exact hq1_1 | omega), (by show (0 ≤ 0 ∧ 0 ≤ 1); show (0 : Int) ≤ 0 ∧ (0 : Int) ≤ 1; decide), (by show (ap ≤ (u1.2.1 1)); first | exact hk4 | exact hk6 | exact hk7 | exact hk8), (by show (ap ≤ sz_ → (u1.2.1 1) ≤ sz_); first | exact hk4 | exact hk6 | exact hk7 | exact hk8), (by show ((u1.2.1 1) < sz_ → nz f9 ((u1.2.1 1)).toNat ≠ 32); first | exact hk4 | exact hk6 | exact hk7 | exact hk8), (by show ((ap < sz_ → nz f9 ap.toNat ≠ 32) → (u1.2.1 1) = ap); first | exact hk4 | exact hk6 | exact hk7 | exact hk8), (by show (0 = 1 → (u1.2.1 1) < sz_ ∧ nz f9 ((u1.2.1 1)).toNat = 115); omega), hq1_9⟩, at9 ht hP hD [0, 1] (by decide +kernel) rfl⟩, hS.F ht⟩) hS.2.2 dX12_isWord_48
end
section
theorem dX12_readClause_0 : decode cX12_readClause 0 = .ok (.aload_n 0, 1) := by decide +kernel
theorem dX12_readClause_1 : decode cX12_readClause 1 = .ok (.invokevirtual 145, 3) := by decide +kernel
theorem dX12_readClause_10 : decode cX12_readClause 10 = .ok (.ifCond .eq 10, 3) := by decide +kernel
theorem dX12_readClause_101 : decode cX12_readClause 101 = .ok (.iload 4, 2) := by decide +kernel
theorem dX12_readClause_103 : decode cX12_readClause 103 = .ok (.imul, 1) := by decide +kernel
theorem dX12_readClause_104 : decode cX12_readClause 104 = .ok (.iadd, 1) := by decide +kernel
theorem dX12_readClause_105 : decode cX12_readClause 105 = .ok (.iload_n 3, 1) := by decide +kernel
theorem dX12_readClause_106 : decode cX12_readClause 106 = .ok (.iadd, 1) := by decide +kernel
theorem dX12_readClause_107 : decode cX12_readClause 107 = .ok (.iload 5, 2) := by decide +kernel
theorem dX12_readClause_109 : decode cX12_readClause 109 = .ok (.iastore, 1) := by decide +kernel
theorem dX12_readClause_110 : decode cX12_readClause 110 = .ok (.goto 43, 3) := by decide +kernel
theorem dX12_readClause_113 : decode cX12_readClause 113 = .ok (.iload_n 2, 1) := by decide +kernel
theorem dX12_readClause_114 : decode cX12_readClause 114 = .ok (.ldc 157, 2) := by decide +kernel
theorem dX12_readClause_116 : decode cX12_readClause 116 = .ok (.invokestatic 135, 3) := by decide +kernel
theorem dX12_readClause_119 : decode cX12_readClause 119 = .ok (.if_icmp .ne 10, 3) := by decide +kernel
theorem dX12_readClause_122 : decode cX12_readClause 122 = .ok (.aload_n 0, 1) := by decide +kernel
theorem dX12_readClause_123 : decode cX12_readClause 123 = .ok (.invokevirtual 159, 3) := by decide +kernel
theorem dX12_readClause_126 : decode cX12_readClause 126 = .ok (.goto 27, 3) := by decide +kernel
theorem dX12_readClause_129 : decode cX12_readClause 129 = .ok (.iload_n 2, 1) := by decide +kernel
theorem dX12_readClause_13 : decode cX12_readClause 13 = .ok (.aload_n 0, 1) := by decide +kernel
theorem dX12_readClause_130 : decode cX12_readClause 130 = .ok (.ldc 162, 2) := by decide +kernel
theorem dX12_readClause_132 : decode cX12_readClause 132 = .ok (.invokestatic 135, 3) := by decide +kernel
theorem dX12_readClause_135 : decode cX12_readClause 135 = .ok (.if_icmp .ne 10, 3) := by decide +kernel
theorem dX12_readClause_138 : decode cX12_readClause 138 = .ok (.aload_n 0, 1) := by decide +kernel
theorem dX12_readClause_139 : decode cX12_readClause 139 = .ok (.invokevirtual 164, 3) := by decide +kernel
theorem dX12_readClause_14 : decode cX12_readClause 14 = .ok (.invokevirtual 151, 3) := by decide +kernel
theorem dX12_readClause_142 : decode cX12_readClause 142 = .ok (.goto 11, 3) := by decide +kernel
theorem dX12_readClause_145 : decode cX12_readClause 145 = .ok (.aload_n 0, 1) := by decide +kernel
theorem dX12_readClause_146 : decode cX12_readClause 146 = .ok (.iload_n 2, 1) := by decide +kernel
theorem dX12_readClause_147 : decode cX12_readClause 147 = .ok (.invokestatic 167, 3) := by decide +kernel
theorem dX12_readClause_150 : decode cX12_readClause 150 = .ok (.invokevirtual 171, 3) := by decide +kernel
theorem dX12_readClause_153 : decode cX12_readClause 153 = .ok (.return_, 1) := by decide +kernel
theorem dX12_readClause_17 : decode cX12_readClause 17 = .ok (.goto 136, 3) := by decide +kernel
theorem dX12_readClause_20 : decode cX12_readClause 20 = .ok (.iload_n 2, 1) := by decide +kernel
theorem dX12_readClause_21 : decode cX12_readClause 21 = .ok (.ldc 154, 2) := by decide +kernel
theorem dX12_readClause_23 : decode cX12_readClause 23 = .ok (.invokestatic 135, 3) := by decide +kernel
theorem dX12_readClause_26 : decode cX12_readClause 26 = .ok (.if_icmp .ne 32, 3) := by decide +kernel
theorem dX12_readClause_29 : decode cX12_readClause 29 = .ok (.aload_n 0, 1) := by decide +kernel
theorem dX12_readClause_30 : decode cX12_readClause 30 = .ok (.getfield 26, 3) := by decide +kernel
theorem dX12_readClause_33 : decode cX12_readClause 33 = .ok (.iconst 0, 1) := by decide +kernel
theorem dX12_readClause_34 : decode cX12_readClause 34 = .ok (.aload_n 0, 1) := by decide +kernel
theorem dX12_readClause_35 : decode cX12_readClause 35 = .ok (.iconst 2, 1) := by decide +kernel
theorem dX12_readClause_36 : decode cX12_readClause 36 = .ok (.bipush 16, 2) := by decide +kernel
theorem dX12_readClause_38 : decode cX12_readClause 38 = .ok (.invokevirtual 123, 3) := by decide +kernel
theorem dX12_readClause_4 : decode cX12_readClause 4 = .ok (.istore_n 2, 1) := by decide +kernel
theorem dX12_readClause_41 : decode cX12_readClause 41 = .ok (.iastore, 1) := by decide +kernel
theorem dX12_readClause_42 : decode cX12_readClause 42 = .ok (.aload_n 0, 1) := by decide +kernel
theorem dX12_readClause_43 : decode cX12_readClause 43 = .ok (.getfield 26, 3) := by decide +kernel
theorem dX12_readClause_46 : decode cX12_readClause 46 = .ok (.iconst 1, 1) := by decide +kernel
theorem dX12_readClause_47 : decode cX12_readClause 47 = .ok (.aload_n 0, 1) := by decide +kernel
theorem dX12_readClause_48 : decode cX12_readClause 48 = .ok (.iconst 1, 1) := by decide +kernel
theorem dX12_readClause_49 : decode cX12_readClause 49 = .ok (.bipush 6, 2) := by decide +kernel
theorem dX12_readClause_5 : decode cX12_readClause 5 = .ok (.aload_n 0, 1) := by decide +kernel
theorem dX12_readClause_51 : decode cX12_readClause 51 = .ok (.invokevirtual 123, 3) := by decide +kernel
theorem dX12_readClause_54 : decode cX12_readClause 54 = .ok (.iastore, 1) := by decide +kernel
theorem dX12_readClause_55 : decode cX12_readClause 55 = .ok (.goto 98, 3) := by decide +kernel
theorem dX12_readClause_58 : decode cX12_readClause 58 = .ok (.iload_n 2, 1) := by decide +kernel
theorem dX12_readClause_59 : decode cX12_readClause 59 = .ok (.ldc 155, 2) := by decide +kernel
theorem dX12_readClause_6 : decode cX12_readClause 6 = .ok (.invokevirtual 148, 3) := by decide +kernel
theorem dX12_readClause_61 : decode cX12_readClause 61 = .ok (.invokestatic 135, 3) := by decide +kernel
theorem dX12_readClause_64 : decode cX12_readClause 64 = .ok (.if_icmp .ne 49, 3) := by decide +kernel
theorem dX12_readClause_67 : decode cX12_readClause 67 = .ok (.aload_n 0, 1) := by decide +kernel
theorem dX12_readClause_68 : decode cX12_readClause 68 = .ok (.invokevirtual 127, 3) := by decide +kernel
theorem dX12_readClause_71 : decode cX12_readClause 71 = .ok (.istore_n 3, 1) := by decide +kernel
theorem dX12_readClause_72 : decode cX12_readClause 72 = .ok (.aload_n 0, 1) := by decide +kernel
theorem dX12_readClause_73 : decode cX12_readClause 73 = .ok (.invokevirtual 130, 3) := by decide +kernel
theorem dX12_readClause_76 : decode cX12_readClause 76 = .ok (.istore 4, 2) := by decide +kernel
theorem dX12_readClause_78 : decode cX12_readClause 78 = .ok (.aload_n 0, 1) := by decide +kernel
theorem dX12_readClause_79 : decode cX12_readClause 79 = .ok (.iconst 0, 1) := by decide +kernel
theorem dX12_readClause_80 : decode cX12_readClause 80 = .ok (.bipush 99, 2) := by decide +kernel
theorem dX12_readClause_82 : decode cX12_readClause 82 = .ok (.invokevirtual 123, 3) := by decide +kernel
theorem dX12_readClause_85 : decode cX12_readClause 85 = .ok (.istore 5, 2) := by decide +kernel
theorem dX12_readClause_87 : decode cX12_readClause 87 = .ok (.aload_n 0, 1) := by decide +kernel
theorem dX12_readClause_88 : decode cX12_readClause 88 = .ok (.invokevirtual 109, 3) := by decide +kernel
theorem dX12_readClause_9 : decode cX12_readClause 9 = .ok (.iload_n 1, 1) := by decide +kernel
theorem dX12_readClause_91 : decode cX12_readClause 91 = .ok (.ifCond .eq 19, 3) := by decide +kernel
theorem dX12_readClause_94 : decode cX12_readClause 94 = .ok (.aload_n 0, 1) := by decide +kernel
theorem dX12_readClause_95 : decode cX12_readClause 95 = .ok (.getfield 32, 3) := by decide +kernel
theorem dX12_readClause_98 : decode cX12_readClause 98 = .ok (.iconst 0, 1) := by decide +kernel
theorem dX12_readClause_99 : decode cX12_readClause 99 = .ok (.bipush 16, 2) := by decide +kernel
end
section
theorem dX12_street_0 : decode cX12_street 0 = .ok (.aload_n 0, 1) := by decide +kernel
theorem dX12_street_1 : decode cX12_street 1 = .ok (.iconst 0, 1) := by decide +kernel
theorem dX12_street_10 : decode cX12_street 10 = .ok (.iload_n 1, 1) := by decide +kernel
theorem dX12_street_102 : decode cX12_street 102 = .ok (.iconst 0, 1) := by decide +kernel
theorem dX12_street_103 : decode cX12_street 103 = .ok (.iastore, 1) := by decide +kernel
theorem dX12_street_104 : decode cX12_street 104 = .ok (.iinc 2 1, 3) := by decide +kernel
theorem dX12_street_107 : decode cX12_street 107 = .ok (.goto (-46), 3) := by decide +kernel
theorem dX12_street_11 : decode cX12_street 11 = .ok (.aload_n 0, 1) := by decide +kernel
theorem dX12_street_110 : decode cX12_street 110 = .ok (.aload_n 0, 1) := by decide +kernel
theorem dX12_street_111 : decode cX12_street 111 = .ok (.getfield 26, 3) := by decide +kernel
theorem dX12_street_114 : decode cX12_street 114 = .ok (.iconst 0, 1) := by decide +kernel
theorem dX12_street_115 : decode cX12_street 115 = .ok (.bipush 8, 2) := by decide +kernel
theorem dX12_street_117 : decode cX12_street 117 = .ok (.iastore, 1) := by decide +kernel
theorem dX12_street_118 : decode cX12_street 118 = .ok (.aload_n 0, 1) := by decide +kernel
theorem dX12_street_119 : decode cX12_street 119 = .ok (.getfield 26, 3) := by decide +kernel
theorem dX12_street_12 : decode cX12_street 12 = .ok (.getfield 77, 3) := by decide +kernel
theorem dX12_street_122 : decode cX12_street 122 = .ok (.iconst 1, 1) := by decide +kernel
theorem dX12_street_123 : decode cX12_street 123 = .ok (.iconst 3, 1) := by decide +kernel
theorem dX12_street_124 : decode cX12_street 124 = .ok (.iastore, 1) := by decide +kernel
theorem dX12_street_125 : decode cX12_street 125 = .ok (.iconst 0, 1) := by decide +kernel
theorem dX12_street_126 : decode cX12_street 126 = .ok (.istore_n 2, 1) := by decide +kernel
theorem dX12_street_127 : decode cX12_street 127 = .ok (.aload_n 0, 1) := by decide +kernel
theorem dX12_street_128 : decode cX12_street 128 = .ok (.invokevirtual 109, 3) := by decide +kernel
theorem dX12_street_131 : decode cX12_street 131 = .ok (.ifCond .eq 226, 3) := by decide +kernel
theorem dX12_street_134 : decode cX12_street 134 = .ok (.aload_n 0, 1) := by decide +kernel
theorem dX12_street_135 : decode cX12_street 135 = .ok (.invokevirtual 182, 3) := by decide +kernel
theorem dX12_street_138 : decode cX12_street 138 = .ok (.ifCond .eq 219, 3) := by decide +kernel
theorem dX12_street_141 : decode cX12_street 141 = .ok (.aload_n 0, 1) := by decide +kernel
theorem dX12_street_142 : decode cX12_street 142 = .ok (.invokevirtual 145, 3) := by decide +kernel
theorem dX12_street_145 : decode cX12_street 145 = .ok (.istore_n 3, 1) := by decide +kernel
theorem dX12_street_146 : decode cX12_street 146 = .ok (.aload_n 0, 1) := by decide +kernel
theorem dX12_street_147 : decode cX12_street 147 = .ok (.ldc 185, 2) := by decide +kernel
theorem dX12_street_149 : decode cX12_street 149 = .ok (.invokevirtual 187, 3) := by decide +kernel
theorem dX12_street_15 : decode cX12_street 15 = .ok (.if_icmp .gt 7, 3) := by decide +kernel
theorem dX12_street_152 : decode cX12_street 152 = .ok (.istore 4, 2) := by decide +kernel
theorem dX12_street_154 : decode cX12_street 154 = .ok (.iload 4, 2) := by decide +kernel
theorem dX12_street_156 : decode cX12_street 156 = .ok (.ifCond .ne 59, 3) := by decide +kernel
theorem dX12_street_159 : decode cX12_street 159 = .ok (.iload_n 3, 1) := by decide +kernel
theorem dX12_street_160 : decode cX12_street 160 = .ok (.ldc 154, 2) := by decide +kernel
theorem dX12_street_162 : decode cX12_street 162 = .ok (.invokestatic 135, 3) := by decide +kernel
theorem dX12_street_165 : decode cX12_street 165 = .ok (.if_icmp .eq 50, 3) := by decide +kernel
theorem dX12_street_168 : decode cX12_street 168 = .ok (.iload_n 3, 1) := by decide +kernel
theorem dX12_street_169 : decode cX12_street 169 = .ok (.ldc 155, 2) := by decide +kernel
theorem dX12_street_171 : decode cX12_street 171 = .ok (.invokestatic 135, 3) := by decide +kernel
theorem dX12_street_174 : decode cX12_street 174 = .ok (.if_icmp .eq 41, 3) := by decide +kernel
theorem dX12_street_177 : decode cX12_street 177 = .ok (.iload_n 3, 1) := by decide +kernel
theorem dX12_street_178 : decode cX12_street 178 = .ok (.ldc 157, 2) := by decide +kernel
theorem dX12_street_18 : decode cX12_street 18 = .ok (.iconst 1, 1) := by decide +kernel
theorem dX12_street_180 : decode cX12_street 180 = .ok (.invokestatic 135, 3) := by decide +kernel
theorem dX12_street_183 : decode cX12_street 183 = .ok (.if_icmp .eq 32, 3) := by decide +kernel
theorem dX12_street_186 : decode cX12_street 186 = .ok (.iload_n 3, 1) := by decide +kernel
theorem dX12_street_187 : decode cX12_street 187 = .ok (.ldc 162, 2) := by decide +kernel
theorem dX12_street_189 : decode cX12_street 189 = .ok (.invokestatic 135, 3) := by decide +kernel
theorem dX12_street_19 : decode cX12_street 19 = .ok (.goto 4, 3) := by decide +kernel
theorem dX12_street_192 : decode cX12_street 192 = .ok (.if_icmp .eq 23, 3) := by decide +kernel
theorem dX12_street_195 : decode cX12_street 195 = .ok (.iload_n 3, 1) := by decide +kernel
theorem dX12_street_196 : decode cX12_street 196 = .ok (.invokestatic 167, 3) := by decide +kernel
theorem dX12_street_199 : decode cX12_street 199 = .ok (.iconst (-1), 1) := by decide +kernel
theorem dX12_street_2 : decode cX12_street 2 = .ok (.putfield 1, 3) := by decide +kernel
theorem dX12_street_200 : decode cX12_street 200 = .ok (.if_icmp .ne 15, 3) := by decide +kernel
theorem dX12_street_203 : decode cX12_street 203 = .ok (.aload_n 0, 1) := by decide +kernel
theorem dX12_street_204 : decode cX12_street 204 = .ok (.iconst 1, 1) := by decide +kernel
theorem dX12_street_205 : decode cX12_street 205 = .ok (.aload_n 0, 1) := by decide +kernel
theorem dX12_street_206 : decode cX12_street 206 = .ok (.getfield 86, 3) := by decide +kernel
theorem dX12_street_209 : decode cX12_street 209 = .ok (.invokevirtual 116, 3) := by decide +kernel
theorem dX12_street_212 : decode cX12_street 212 = .ok (.goto 117, 3) := by decide +kernel
theorem dX12_street_215 : decode cX12_street 215 = .ok (.iload_n 2, 1) := by decide +kernel
theorem dX12_street_216 : decode cX12_street 216 = .ok (.bipush 60, 2) := by decide +kernel
theorem dX12_street_218 : decode cX12_street 218 = .ok (.if_icmp .eq 77, 3) := by decide +kernel
theorem dX12_street_22 : decode cX12_street 22 = .ok (.iconst 0, 1) := by decide +kernel
theorem dX12_street_221 : decode cX12_street 221 = .ok (.iload_n 3, 1) := by decide +kernel
theorem dX12_street_222 : decode cX12_street 222 = .ok (.ldc 157, 2) := by decide +kernel
theorem dX12_street_224 : decode cX12_street 224 = .ok (.invokestatic 135, 3) := by decide +kernel
theorem dX12_street_227 : decode cX12_street 227 = .ok (.if_icmp .ne 14, 3) := by decide +kernel
theorem dX12_street_23 : decode cX12_street 23 = .ok (.iconst 1, 1) := by decide +kernel
theorem dX12_street_230 : decode cX12_street 230 = .ok (.aload_n 0, 1) := by decide +kernel
theorem dX12_street_231 : decode cX12_street 231 = .ok (.getfield 26, 3) := by decide +kernel
theorem dX12_street_234 : decode cX12_street 234 = .ok (.iconst 2, 1) := by decide +kernel
theorem dX12_street_235 : decode cX12_street 235 = .ok (.iaload, 1) := by decide +kernel
theorem dX12_street_236 : decode cX12_street 236 = .ok (.bipush 6, 2) := by decide +kernel
theorem dX12_street_238 : decode cX12_street 238 = .ok (.if_icmp .eq 57, 3) := by decide +kernel
theorem dX12_street_24 : decode cX12_street 24 = .ok (.iconst 2, 1) := by decide +kernel
theorem dX12_street_241 : decode cX12_street 241 = .ok (.iload_n 3, 1) := by decide +kernel
theorem dX12_street_242 : decode cX12_street 242 = .ok (.ldc 162, 2) := by decide +kernel
theorem dX12_street_244 : decode cX12_street 244 = .ok (.invokestatic 135, 3) := by decide +kernel
theorem dX12_street_247 : decode cX12_street 247 = .ok (.if_icmp .ne 14, 3) := by decide +kernel
theorem dX12_street_25 : decode cX12_street 25 = .ok (.invokevirtual 175, 3) := by decide +kernel
theorem dX12_street_250 : decode cX12_street 250 = .ok (.aload_n 0, 1) := by decide +kernel
theorem dX12_street_251 : decode cX12_street 251 = .ok (.getfield 26, 3) := by decide +kernel
theorem dX12_street_254 : decode cX12_street 254 = .ok (.iconst 3, 1) := by decide +kernel
theorem dX12_street_255 : decode cX12_street 255 = .ok (.iaload, 1) := by decide +kernel
theorem dX12_street_256 : decode cX12_street 256 = .ok (.bipush 8, 2) := by decide +kernel
theorem dX12_street_258 : decode cX12_street 258 = .ok (.if_icmp .eq 37, 3) := by decide +kernel
theorem dX12_street_261 : decode cX12_street 261 = .ok (.iload 4, 2) := by decide +kernel
theorem dX12_street_263 : decode cX12_street 263 = .ok (.ifCond .eq 13, 3) := by decide +kernel
theorem dX12_street_266 : decode cX12_street 266 = .ok (.aload_n 0, 1) := by decide +kernel
theorem dX12_street_267 : decode cX12_street 267 = .ok (.getfield 26, 3) := by decide +kernel
theorem dX12_street_270 : decode cX12_street 270 = .ok (.iconst 4, 1) := by decide +kernel
theorem dX12_street_271 : decode cX12_street 271 = .ok (.iaload, 1) := by decide +kernel
theorem dX12_street_272 : decode cX12_street 272 = .ok (.iconst 2, 1) := by decide +kernel
theorem dX12_street_273 : decode cX12_street 273 = .ok (.if_icmp .eq 22, 3) := by decide +kernel
theorem dX12_street_276 : decode cX12_street 276 = .ok (.iload_n 3, 1) := by decide +kernel
theorem dX12_street_277 : decode cX12_street 277 = .ok (.invokestatic 167, 3) := by decide +kernel
theorem dX12_street_28 : decode cX12_street 28 = .ok (.ifCond .ne 5, 3) := by decide +kernel
theorem dX12_street_280 : decode cX12_street 280 = .ok (.iconst (-1), 1) := by decide +kernel
theorem dX12_street_281 : decode cX12_street 281 = .ok (.if_icmp .eq 26, 3) := by decide +kernel
theorem dX12_street_284 : decode cX12_street 284 = .ok (.aload_n 0, 1) := by decide +kernel
theorem dX12_street_285 : decode cX12_street 285 = .ok (.getfield 26, 3) := by decide +kernel
theorem dX12_street_288 : decode cX12_street 288 = .ok (.iconst 5, 1) := by decide +kernel
theorem dX12_street_289 : decode cX12_street 289 = .ok (.iaload, 1) := by decide +kernel
theorem dX12_street_290 : decode cX12_street 290 = .ok (.bipush 8, 2) := by decide +kernel
theorem dX12_street_292 : decode cX12_street 292 = .ok (.if_icmp .ne 15, 3) := by decide +kernel
theorem dX12_street_295 : decode cX12_street 295 = .ok (.aload_n 0, 1) := by decide +kernel
theorem dX12_street_296 : decode cX12_street 296 = .ok (.iconst 3, 1) := by decide +kernel
theorem dX12_street_297 : decode cX12_street 297 = .ok (.aload_n 0, 1) := by decide +kernel
theorem dX12_street_298 : decode cX12_street 298 = .ok (.getfield 86, 3) := by decide +kernel
theorem dX12_street_301 : decode cX12_street 301 = .ok (.invokevirtual 116, 3) := by decide +kernel
theorem dX12_street_304 : decode cX12_street 304 = .ok (.goto 25, 3) := by decide +kernel
theorem dX12_street_307 : decode cX12_street 307 = .ok (.iload_n 3, 1) := by decide +kernel
theorem dX12_street_308 : decode cX12_street 308 = .ok (.ldc 154, 2) := by decide +kernel
theorem dX12_street_31 : decode cX12_street 31 = .ok (.iconst 0, 1) := by decide +kernel
theorem dX12_street_310 : decode cX12_street 310 = .ok (.invokestatic 135, 3) := by decide +kernel
theorem dX12_street_313 : decode cX12_street 313 = .ok (.if_icmp .ne 16, 3) := by decide +kernel
theorem dX12_street_316 : decode cX12_street 316 = .ok (.iload_n 2, 1) := by decide +kernel
theorem dX12_street_317 : decode cX12_street 317 = .ok (.ifCond .le 12, 3) := by decide +kernel
theorem dX12_street_32 : decode cX12_street 32 = .ok (.ireturn, 1) := by decide +kernel
theorem dX12_street_320 : decode cX12_street 320 = .ok (.aload_n 0, 1) := by decide +kernel
theorem dX12_street_321 : decode cX12_street 321 = .ok (.iconst 4, 1) := by decide +kernel
theorem dX12_street_322 : decode cX12_street 322 = .ok (.aload_n 0, 1) := by decide +kernel
theorem dX12_street_323 : decode cX12_street 323 = .ok (.getfield 86, 3) := by decide +kernel
theorem dX12_street_326 : decode cX12_street 326 = .ok (.invokevirtual 116, 3) := by decide +kernel
theorem dX12_street_329 : decode cX12_street 329 = .ok (.aload_n 0, 1) := by decide +kernel
theorem dX12_street_33 : decode cX12_street 33 = .ok (.aload_n 0, 1) := by decide +kernel
theorem dX12_street_330 : decode cX12_street 330 = .ok (.invokevirtual 109, 3) := by decide +kernel
theorem dX12_street_333 : decode cX12_street 333 = .ok (.ifCond .ne 6, 3) := by decide +kernel
theorem dX12_street_336 : decode cX12_street 336 = .ok (.goto 21, 3) := by decide +kernel
theorem dX12_street_339 : decode cX12_street 339 = .ok (.aload_n 0, 1) := by decide +kernel
theorem dX12_street_34 : decode cX12_street 34 = .ok (.iload_n 1, 1) := by decide +kernel
theorem dX12_street_340 : decode cX12_street 340 = .ok (.iload 4, 2) := by decide +kernel
theorem dX12_street_342 : decode cX12_street 342 = .ok (.invokevirtual 191, 3) := by decide +kernel
theorem dX12_street_345 : decode cX12_street 345 = .ok (.aload_n 0, 1) := by decide +kernel
theorem dX12_street_346 : decode cX12_street 346 = .ok (.bipush 59, 2) := by decide +kernel
theorem dX12_street_348 : decode cX12_street 348 = .ok (.invokevirtual 195, 3) := by decide +kernel
theorem dX12_street_35 : decode cX12_street 35 = .ok (.invokevirtual 179, 3) := by decide +kernel
theorem dX12_street_351 : decode cX12_street 351 = .ok (.iinc 2 1, 3) := by decide +kernel
theorem dX12_street_354 : decode cX12_street 354 = .ok (.goto (-227), 3) := by decide +kernel
theorem dX12_street_357 : decode cX12_street 357 = .ok (.aload_n 0, 1) := by decide +kernel
theorem dX12_street_358 : decode cX12_street 358 = .ok (.invokevirtual 109, 3) := by decide +kernel
theorem dX12_street_361 : decode cX12_street 361 = .ok (.ifCond .ne 9, 3) := by decide +kernel
theorem dX12_street_364 : decode cX12_street 364 = .ok (.aload_n 0, 1) := by decide +kernel
theorem dX12_street_365 : decode cX12_street 365 = .ok (.iconst 0, 1) := by decide +kernel
theorem dX12_street_366 : decode cX12_street 366 = .ok (.invokevirtual 198, 3) := by decide +kernel
theorem dX12_street_369 : decode cX12_street 369 = .ok (.ireturn, 1) := by decide +kernel
theorem dX12_street_370 : decode cX12_street 370 = .ok (.aload_n 0, 1) := by decide +kernel
theorem dX12_street_371 : decode cX12_street 371 = .ok (.getfield 32, 3) := by decide +kernel
theorem dX12_street_374 : decode cX12_street 374 = .ok (.sipush 215, 3) := by decide +kernel
theorem dX12_street_377 : decode cX12_street 377 = .ok (.aload_n 0, 1) := by decide +kernel
theorem dX12_street_378 : decode cX12_street 378 = .ok (.getfield 26, 3) := by decide +kernel
theorem dX12_street_38 : decode cX12_street 38 = .ok (.iconst 0, 1) := by decide +kernel
theorem dX12_street_381 : decode cX12_street 381 = .ok (.iconst 3, 1) := by decide +kernel
theorem dX12_street_382 : decode cX12_street 382 = .ok (.iaload, 1) := by decide +kernel
theorem dX12_street_383 : decode cX12_street 383 = .ok (.iastore, 1) := by decide +kernel
theorem dX12_street_384 : decode cX12_street 384 = .ok (.iconst 0, 1) := by decide +kernel
theorem dX12_street_385 : decode cX12_street 385 = .ok (.istore_n 3, 1) := by decide +kernel
theorem dX12_street_386 : decode cX12_street 386 = .ok (.iload_n 3, 1) := by decide +kernel
theorem dX12_street_387 : decode cX12_street 387 = .ok (.bipush 68, 2) := by decide +kernel
theorem dX12_street_389 : decode cX12_street 389 = .ok (.if_icmp .ge 21, 3) := by decide +kernel
theorem dX12_street_39 : decode cX12_street 39 = .ok (.istore_n 2, 1) := by decide +kernel
theorem dX12_street_392 : decode cX12_street 392 = .ok (.aload_n 0, 1) := by decide +kernel
theorem dX12_street_393 : decode cX12_street 393 = .ok (.getfield 23, 3) := by decide +kernel
theorem dX12_street_396 : decode cX12_street 396 = .ok (.iload_n 3, 1) := by decide +kernel
theorem dX12_street_397 : decode cX12_street 397 = .ok (.aload_n 0, 1) := by decide +kernel
theorem dX12_street_398 : decode cX12_street 398 = .ok (.getfield 26, 3) := by decide +kernel
theorem dX12_street_40 : decode cX12_street 40 = .ok (.iload_n 2, 1) := by decide +kernel
theorem dX12_street_401 : decode cX12_street 401 = .ok (.iload_n 3, 1) := by decide +kernel
theorem dX12_street_402 : decode cX12_street 402 = .ok (.iaload, 1) := by decide +kernel
theorem dX12_street_403 : decode cX12_street 403 = .ok (.iastore, 1) := by decide +kernel
theorem dX12_street_404 : decode cX12_street 404 = .ok (.iinc 3 1, 3) := by decide +kernel
theorem dX12_street_407 : decode cX12_street 407 = .ok (.goto (-21), 3) := by decide +kernel
theorem dX12_street_41 : decode cX12_street 41 = .ok (.bipush 68, 2) := by decide +kernel
theorem dX12_street_410 : decode cX12_street 410 = .ok (.iconst 0, 1) := by decide +kernel
theorem dX12_street_411 : decode cX12_street 411 = .ok (.istore_n 3, 1) := by decide +kernel
theorem dX12_street_412 : decode cX12_street 412 = .ok (.iload_n 3, 1) := by decide +kernel
theorem dX12_street_413 : decode cX12_street 413 = .ok (.sipush 389, 3) := by decide +kernel
theorem dX12_street_416 : decode cX12_street 416 = .ok (.if_icmp .ge 21, 3) := by decide +kernel
theorem dX12_street_419 : decode cX12_street 419 = .ok (.aload_n 0, 1) := by decide +kernel
theorem dX12_street_420 : decode cX12_street 420 = .ok (.getfield 29, 3) := by decide +kernel
theorem dX12_street_423 : decode cX12_street 423 = .ok (.iload_n 3, 1) := by decide +kernel
theorem dX12_street_424 : decode cX12_street 424 = .ok (.aload_n 0, 1) := by decide +kernel
theorem dX12_street_425 : decode cX12_street 425 = .ok (.getfield 32, 3) := by decide +kernel
theorem dX12_street_428 : decode cX12_street 428 = .ok (.iload_n 3, 1) := by decide +kernel
theorem dX12_street_429 : decode cX12_street 429 = .ok (.iaload, 1) := by decide +kernel
theorem dX12_street_43 : decode cX12_street 43 = .ok (.if_icmp .ge 16, 3) := by decide +kernel
theorem dX12_street_430 : decode cX12_street 430 = .ok (.iastore, 1) := by decide +kernel
theorem dX12_street_431 : decode cX12_street 431 = .ok (.iinc 3 1, 3) := by decide +kernel
theorem dX12_street_434 : decode cX12_street 434 = .ok (.goto (-22), 3) := by decide +kernel
theorem dX12_street_437 : decode cX12_street 437 = .ok (.aload_n 0, 1) := by decide +kernel
theorem dX12_street_438 : decode cX12_street 438 = .ok (.iconst 0, 1) := by decide +kernel
theorem dX12_street_439 : decode cX12_street 439 = .ok (.putfield 201, 3) := by decide +kernel
theorem dX12_street_442 : decode cX12_street 442 = .ok (.aload_n 0, 1) := by decide +kernel
theorem dX12_street_443 : decode cX12_street 443 = .ok (.aload_n 0, 1) := by decide +kernel
theorem dX12_street_444 : decode cX12_street 444 = .ok (.getfield 23, 3) := by decide +kernel
theorem dX12_street_447 : decode cX12_street 447 = .ok (.iconst 0, 1) := by decide +kernel
theorem dX12_street_448 : decode cX12_street 448 = .ok (.iaload, 1) := by decide +kernel
theorem dX12_street_449 : decode cX12_street 449 = .ok (.aload_n 0, 1) := by decide +kernel
theorem dX12_street_450 : decode cX12_street 450 = .ok (.getfield 23, 3) := by decide +kernel
theorem dX12_street_453 : decode cX12_street 453 = .ok (.iconst 1, 1) := by decide +kernel
theorem dX12_street_454 : decode cX12_street 454 = .ok (.iaload, 1) := by decide +kernel
theorem dX12_street_455 : decode cX12_street 455 = .ok (.imul, 1) := by decide +kernel
theorem dX12_street_456 : decode cX12_street 456 = .ok (.invokevirtual 198, 3) := by decide +kernel
theorem dX12_street_459 : decode cX12_street 459 = .ok (.ireturn, 1) := by decide +kernel
theorem dX12_street_46 : decode cX12_street 46 = .ok (.aload_n 0, 1) := by decide +kernel
theorem dX12_street_47 : decode cX12_street 47 = .ok (.getfield 26, 3) := by decide +kernel
theorem dX12_street_5 : decode cX12_street 5 = .ok (.aload_n 0, 1) := by decide +kernel
theorem dX12_street_50 : decode cX12_street 50 = .ok (.iload_n 2, 1) := by decide +kernel
theorem dX12_street_51 : decode cX12_street 51 = .ok (.iconst 0, 1) := by decide +kernel
theorem dX12_street_52 : decode cX12_street 52 = .ok (.iastore, 1) := by decide +kernel
theorem dX12_street_53 : decode cX12_street 53 = .ok (.iinc 2 1, 3) := by decide +kernel
theorem dX12_street_56 : decode cX12_street 56 = .ok (.goto (-16), 3) := by decide +kernel
theorem dX12_street_59 : decode cX12_street 59 = .ok (.iconst 0, 1) := by decide +kernel
theorem dX12_street_6 : decode cX12_street 6 = .ok (.iload_n 1, 1) := by decide +kernel
theorem dX12_street_60 : decode cX12_street 60 = .ok (.istore_n 2, 1) := by decide +kernel
theorem dX12_street_61 : decode cX12_street 61 = .ok (.iload_n 2, 1) := by decide +kernel
theorem dX12_street_62 : decode cX12_street 62 = .ok (.sipush 389, 3) := by decide +kernel
theorem dX12_street_65 : decode cX12_street 65 = .ok (.if_icmp .ge 45, 3) := by decide +kernel
theorem dX12_street_68 : decode cX12_street 68 = .ok (.aload_n 0, 1) := by decide +kernel
theorem dX12_street_69 : decode cX12_street 69 = .ok (.getfield 32, 3) := by decide +kernel
theorem dX12_street_7 : decode cX12_street 7 = .ok (.ifCond .lt 15, 3) := by decide +kernel
theorem dX12_street_72 : decode cX12_street 72 = .ok (.iload_n 2, 1) := by decide +kernel
theorem dX12_street_73 : decode cX12_street 73 = .ok (.iload_n 2, 1) := by decide +kernel
theorem dX12_street_74 : decode cX12_street 74 = .ok (.bipush 96, 2) := by decide +kernel
theorem dX12_street_76 : decode cX12_street 76 = .ok (.if_icmp .ge 8, 3) := by decide +kernel
theorem dX12_street_79 : decode cX12_street 79 = .ok (.bipush 50, 2) := by decide +kernel
theorem dX12_street_81 : decode cX12_street 81 = .ok (.goto 22, 3) := by decide +kernel
theorem dX12_street_84 : decode cX12_street 84 = .ok (.iload_n 2, 1) := by decide +kernel
theorem dX12_street_85 : decode cX12_street 85 = .ok (.sipush 353, 3) := by decide +kernel
theorem dX12_street_88 : decode cX12_street 88 = .ok (.if_icmp .lt 14, 3) := by decide +kernel
theorem dX12_street_91 : decode cX12_street 91 = .ok (.iload_n 2, 1) := by decide +kernel
theorem dX12_street_92 : decode cX12_street 92 = .ok (.sipush 357, 3) := by decide +kernel
theorem dX12_street_95 : decode cX12_street 95 = .ok (.if_icmp .ge 7, 3) := by decide +kernel
theorem dX12_street_98 : decode cX12_street 98 = .ok (.iconst 1, 1) := by decide +kernel
theorem dX12_street_99 : decode cX12_street 99 = .ok (.goto 4, 3) := by decide +kernel
end
section
/-- a step from height d to height q -/
def st_ok (w v : Int32) (d q : Nat) : Prop :=
  (w = iI 0 ∧ q = d + 1) ∨ (w = iI 1 ∧ (∃ z : Int, v = iI z ∧ 0 ≤ z ∧ z ≤ 6) ∧ q = d + 1) ∨ (w = iI 9 ∧ 1 ≤ d ∧ q = d) ∨ (w = iI 12 ∧ 3 ≤ d ∧ q + 2 = d) ∨ ((∃ z : Int, w = iI z ∧ 2 ≤ z ∧ z ≤ 11 ∧ z ≠ 9) ∧ 2 ≤ d ∧ q + 1 = d)
theorem st_up {w v : Int32} {d q : Nat} (h : st_ok w v d q) (x : Nat) : st_ok w v (d + x) (q + x) := by
  rcases h with ⟨h1, h2⟩ | ⟨h1, h2, h3⟩ | ⟨h1, h2, h3⟩ | ⟨h1, h2, h3⟩ | ⟨h1, h2, h3⟩
  · exact Or.inl ⟨h1, by omega⟩
  · exact Or.inr (Or.inl ⟨h1, h2, by omega⟩)
  · exact Or.inr (Or.inr (Or.inl ⟨h1, by omega, by omega⟩))
  · exact Or.inr (Or.inr (Or.inr (Or.inl ⟨h1, by omega, by omega⟩)))
  · exact Or.inr (Or.inr (Or.inr (Or.inr ⟨h1, by omega, by omega⟩)))
/-- what a step's number says of the heights -/
theorem st_case {w v : Int32} {d q : Nat} (h : st_ok w v d q) {z : Int} (hw : w = iI z) (hr : -2147483648 ≤ z ∧ z ≤ 2147483647) : (z = 0 ∧ q = d + 1) ∨ (z = 1 ∧ q = d + 1) ∨ (z = 9 ∧ 1 ≤ d ∧ q = d) ∨ (z = 12 ∧ 3 ≤ d ∧ q + 2 = d) ∨ (2 ≤ z ∧ z ≤ 11 ∧ z ≠ 9 ∧ 2 ≤ d ∧ q + 1 = d) := by
  rcases h with ⟨h1, h2⟩ | ⟨h1, h2, h3⟩ | ⟨h1, h2, h3⟩ | ⟨h1, h2, h3⟩ | ⟨⟨y, h1, h4, h5, h6⟩, h2, h3⟩
  · have := (iI_eq hr (by omega)).mp (hw.symm.trans h1); omega
  · have := (iI_eq hr (by omega)).mp (hw.symm.trans h1); omega
  · have := (iI_eq hr (by omega)).mp (hw.symm.trans h1); omega
  · have := (iI_eq hr (by omega)).mp (hw.symm.trans h1); omega
  · have := (iI_eq hr (by omega)).mp (hw.symm.trans h1); omega
theorem st_name {w v : Int32} {d q : Nat} (h : st_ok w v d q) (hw : w = iI 1) {z : Int} (hv : v = iI z) (hr : -2147483648 ≤ z ∧ z ≤ 2147483647) : 0 ≤ z ∧ z ≤ 6 := by
  rcases h with ⟨h1, h2⟩ | ⟨h1, ⟨y, h2, h4⟩, h3⟩ | ⟨h1, h2, h3⟩ | ⟨h1, h2, h3⟩ | ⟨⟨y, h1, h4, h5, h6⟩, h2, h3⟩
  · have := (iI_eq (by omega) (by omega)).mp (hw.symm.trans h1); omega
  · have := (iI_eq hr (by omega)).mp (hv.symm.trans h2); omega
  · have := (iI_eq (by omega) (by omega)).mp (hw.symm.trans h1); omega
  · have := (iI_eq (by omega) (by omega)).mp (hw.symm.trans h1); omega
  · have := (iI_eq (by omega) (by omega)).mp (hw.symm.trans h1); omega
/-- steps a to b lead from height x to height y -/
def Seg (f g : Nat → Int32) (a b x y : Nat) : Prop := a ≤ b ∧ ∃ dep : Nat → Nat, dep a = x ∧ dep b = y ∧ ∀ k : Nat, a ≤ k → k < b → st_ok (f k) (g k) (dep k) (dep (k + 1))
theorem Seg.nil (f g : Nat → Int32) (a x : Nat) : Seg f g a a x x := ⟨Nat.le_refl a, fun _ => x, rfl, rfl, fun k h1 h2 => absurd h1 (by omega)⟩
theorem Seg.cat {f g : Nat → Int32} {a b r x y z : Nat} (h1 : Seg f g a b x y) (h2 : Seg f g b r y z) : Seg f g a r x z := by
  obtain ⟨l1, d1, p1, p2, p3⟩ := h1
  obtain ⟨l2, d2, q1, q2, q3⟩ := h2
  refine ⟨Nat.le_trans l1 l2, fun k => if k ≤ b then d1 k else d2 k, ?_, ?_, fun k h3 h4 => ?_⟩
  · show (if a ≤ b then d1 a else d2 a) = x
    rw [if_pos l1]; exact p1
  · show (if r ≤ b then d1 r else d2 r) = z
    by_cases e : r ≤ b
    · have : r = b := Nat.le_antisymm e l2
      subst this
      rw [if_pos e, p2, ← q1, q2]
    · rw [if_neg e]; exact q2
  · show st_ok (f k) (g k) (if k ≤ b then d1 k else d2 k) (if k + 1 ≤ b then d1 (k + 1) else d2 (k + 1))
    by_cases e : k + 1 ≤ b
    · rw [if_pos (by omega), if_pos e]; exact p3 k h3 (by omega)
    · rw [if_neg e]
      by_cases e2 : k ≤ b
      · have : k = b := by omega
        subst this
        rw [if_pos e2, p2, ← q1]
        exact q3 k (Nat.le_refl k) h4
      · rw [if_neg e2]; exact q3 k (by omega) h4
theorem Seg.up {f g : Nat → Int32} {a b x y : Nat} (h : Seg f g a b x y) (n : Nat) : Seg f g a b (x + n) (y + n) := by
  obtain ⟨l, d, p1, p2, p3⟩ := h
  exact ⟨l, fun k => d k + n, by rw [← p1], by rw [← p2], fun k h1 h2 => st_up (p3 k h1 h2) n⟩
theorem Seg.one {f g : Nat → Int32} {a x y : Nat} (h : st_ok (f a) (g a) x y) : Seg f g a (a + 1) x y := by
  refine ⟨Nat.le_succ a, fun k => if k = a then x else y, if_pos rfl, if_neg (by omega), fun k h1 h2 => ?_⟩
  have : k = a := by omega
  subst this
  show st_ok (f k) (g k) (if k = k then x else y) (if k + 1 = k then x else y)
  rw [if_pos rfl, if_neg (by omega)]
  exact h
theorem Seg.ext {f g f1 g1 : Nat → Int32} {a b x y : Nat} (h : Seg f g a b x y) (hf : ∀ k : Nat, k < b → f1 k = f k ∧ g1 k = g k) : Seg f1 g1 a b x y := by
  obtain ⟨l, d, p1, p2, p3⟩ := h
  refine ⟨l, d, p1, p2, fun k h1 h2 => ?_⟩
  rw [(hf k h2).1, (hf k h2).2]
  exact p3 k h1 h2
/-- places below n are as they were -/
def Ag (f g f1 g1 : Nat → Int32) (n : Int) : Prop := ∀ k : Nat, (k : Int) < n → f1 k = f k ∧ g1 k = g k
theorem Ag.rf (f g : Nat → Int32) (n : Int) : Ag f g f g n := fun _ _ => ⟨rfl, rfl⟩
theorem Ag.tr {f g f1 g1 f2 g2 : Nat → Int32} {n n2 : Int} (h : Ag f g f1 g1 n) (h2 : Ag f1 g1 f2 g2 n2) (hn : n ≤ n2) : Ag f g f2 g2 n := fun k hk => by
  obtain ⟨a, b⟩ := h k hk
  obtain ⟨a2, b2⟩ := h2 k (by omega)
  exact ⟨a2.trans a, b2.trans b⟩
theorem Ag.wr {f g f1 g1 : Nat → Int32} {n e : Int} {x y : Int32} (h : Ag f g f1 g1 n) (he : n ≤ e ∧ 0 ≤ e) : Ag f g (upd f1 e.toNat x) (upd g1 e.toNat y) n := fun k hk => by
  rw [pk_un (by omega), pk_un (by omega)]
  exact h k hk
theorem Seg.ag {f g f1 g1 : Nat → Int32} {a b x y : Nat} {n : Int} (h : Seg f g a b x y) (hg : Ag f g f1 g1 n) (hb : (b : Int) ≤ n) : Seg f1 g1 a b x y := h.ext (fun k hk => hg k (by omega))
/-- what a push, and what an operation, does to a row of steps -/
theorem Seg.num {f g : Nat → Int32} {e : Int} {v : Int32} (he : 0 ≤ e) : Seg (upd f e.toNat (iI 0)) (upd g e.toNat v) e.toNat (e + 1).toNat 0 1 := by
  rw [show (e + 1).toNat = e.toNat + 1 by omega]
  exact Seg.one (by rw [pk_us, pk_us]; exact Or.inl ⟨rfl, rfl⟩)
theorem Seg.nam {f g : Nat → Int32} {e v : Int} (he : 0 ≤ e) (hv : 0 ≤ v ∧ v ≤ 6) : Seg (upd f e.toNat (iI 1)) (upd g e.toNat (iI v)) e.toNat (e + 1).toNat 0 1 := by
  rw [show (e + 1).toNat = e.toNat + 1 by omega]
  exact Seg.one (by rw [pk_us, pk_us]; exact Or.inr (Or.inl ⟨rfl, ⟨v, rfl, hv⟩, rfl⟩))
theorem Seg.op {f g : Nat → Int32} {a e w : Int} {v : Int32} (h : Seg f g a.toNat e.toNat 0 2) (he : 0 ≤ a ∧ a ≤ e) (hw : 2 ≤ w ∧ w ≤ 11 ∧ w ≠ 9) : Seg (upd f e.toNat (iI w)) (upd g e.toNat v) a.toNat (e + 1).toNat 0 1 := by
  rw [show (e + 1).toNat = e.toNat + 1 by omega]
  exact (h.ext (fun k hk => by rw [pk_un (by omega), pk_un (by omega)]; exact ⟨rfl, rfl⟩)).cat (Seg.one (by rw [pk_us, pk_us]; exact Or.inr (Or.inr (Or.inr (Or.inr ⟨⟨w, rfl, hw⟩, by decide, rfl⟩)))))
theorem Seg.neg {f g : Nat → Int32} {a e : Int} {v : Int32} (h : Seg f g a.toNat e.toNat 0 1) (he : 0 ≤ a ∧ a ≤ e) : Seg (upd f e.toNat (iI 9)) (upd g e.toNat v) a.toNat (e + 1).toNat 0 1 := by
  rw [show (e + 1).toNat = e.toNat + 1 by omega]
  exact (h.ext (fun k hk => by rw [pk_un (by omega), pk_un (by omega)]; exact ⟨rfl, rfl⟩)).cat (Seg.one (by rw [pk_us, pk_us]; exact Or.inr (Or.inr (Or.inl ⟨rfl, by decide, rfl⟩))))
theorem Seg.cho {f g : Nat → Int32} {a e : Int} {v : Int32} (h : Seg f g a.toNat e.toNat 0 3) (he : 0 ≤ a ∧ a ≤ e) : Seg (upd f e.toNat (iI 12)) (upd g e.toNat v) a.toNat (e + 1).toNat 0 1 := by
  rw [show (e + 1).toNat = e.toNat + 1 by omega]
  exact (h.ext (fun k hk => by rw [pk_un (by omega), pk_un (by omega)]; exact ⟨rfl, rfl⟩)).cat (Seg.one (by rw [pk_us, pk_us]; exact Or.inr (Or.inr (Or.inr (Or.inl ⟨rfl, by decide, rfl⟩)))))
/-- one more value behind those that stand -/
theorem Seg.two {f g f1 g1 : Nat → Int32} {a b r n : Int} {x : Nat} (h : Seg f g a.toNat b.toNat 0 x) (hg : Ag f g f1 g1 n) (hn : b ≤ n ∧ 0 ≤ b) (h2 : Seg f1 g1 b.toNat r.toNat 0 1) : Seg f1 g1 a.toNat r.toNat 0 (x + 1) := by
  have h3 := h2.up x
  rw [Nat.zero_add, Nat.add_comm 1 x] at h3
  exact (h.ag hg (by omega)).cat h3
/-- the laws that are told: their steps -/
def LI (nl : Int) (f g fr to : Nat → Int32) : Prop := ∀ i : Nat, (i : Int) < 5 * nl → (nz to i ≤ nz fr i) ∨ (0 ≤ nz fr i ∧ nz fr i ≤ nz to i ∧ nz to i ≤ 620 * nl ∧ nz to i - nz fr i ≤ 610 ∧ Seg f g (nz fr i).toNat (nz to i).toNat 0 1)
theorem LI.up {nl : Int} {f g fr to f1 g1 fr1 to1 : Nat → Int32} (h : LI nl f g fr to) (hg : Ag f g f1 g1 (620 * nl)) (hr : ∀ k : Nat, (k : Int) < 5 * nl → nz fr1 k = nz fr k ∧ nz to1 k = nz to k) : LI nl f1 g1 fr1 to1 := by
  intro i hi
  obtain ⟨e1, e2⟩ := hr i hi
  rw [e1, e2]
  rcases h i hi with h1 | ⟨h1, h2, h3, h4, h5⟩
  · exact Or.inl h1
  · exact Or.inr ⟨h1, h2, h3, h4, h5.ag hg (by omega)⟩
theorem LI.more {nl : Int} {f g fr to : Nat → Int32} (h : LI nl f g fr to) (h5 : ∀ k : Nat, 5 * nl ≤ (k : Int) → (k : Int) < 5 * nl + 5 → (nz to k ≤ nz fr k) ∨ (0 ≤ nz fr k ∧ nz fr k ≤ nz to k ∧ nz to k ≤ 620 * nl + 620 ∧ nz to k - nz fr k ≤ 610 ∧ Seg f g (nz fr k).toNat (nz to k).toNat 0 1)) : LI (nl + 1) f g fr to := by
  intro i hi
  by_cases q : (i : Int) < 5 * nl
  · rcases h i q with h1 | ⟨h1, h2, h3, h4, h5⟩
    · exact Or.inl h1
    · exact Or.inr ⟨h1, h2, by omega, h4, h5⟩
  · rcases h5 i (by omega) (by omega) with h1 | ⟨h1, h2, h3, h4, h5⟩
    · exact Or.inl h1
    · exact Or.inr ⟨h1, h2, by omega, h4, h5⟩
/-- the law that is read now -/
def CUR (nl qs : Int) (f g fr to : Nat → Int32) : Prop := ∀ k : Nat, 5 * nl ≤ (k : Int) → (k : Int) < 5 * nl + 5 → (nz to k ≤ nz fr k) ∨ (620 * nl ≤ nz fr k ∧ nz fr k ≤ nz to k ∧ nz to k ≤ 620 * nl + qs ∧ Seg f g (nz fr k).toNat (nz to k).toNat 0 1)
theorem CUR.zero {nl qs : Int} {f g fr to : Nat → Int32} (h : ∀ k : Nat, 5 * nl ≤ (k : Int) → (k : Int) < 5 * nl + 5 → nz to k = 0 ∧ nz fr k = 0) : CUR nl qs f g fr to := fun k h1 h2 => Or.inl (by have := h k h1 h2; omega)
theorem CUR.step {nl qs q2 e x y : Int} {f g fr to f1 g1 fr1 to1 : Nat → Int32} (h : CUR nl qs f g fr to) (ha : Ag f g f1 g1 (620 * nl + qs)) (hs : Seg f1 g1 (620 * nl + qs).toNat (620 * nl + q2).toNat 0 1) (hn : 0 ≤ nl ∧ nl ≤ 3) (hq : 0 ≤ qs ∧ qs ≤ q2 ∧ q2 ≤ 610) (he : 5 * nl ≤ e ∧ e < 5 * nl + 5) (d1 : fr1 = upd fr (iI e).toNatClampNeg (iI x)) (hx : x = 620 * nl + qs) (d2 : to1 = upd to (iI e).toNatClampNeg (iI y)) (hy : y = 620 * nl + q2) : CUR nl q2 f1 g1 fr1 to1 := by
  intro k h1 h2
  by_cases q : (k : Int) = e
  · rw [nz_us d1 (by omega) (by omega) q, nz_us d2 (by omega) (by omega) q, hx, hy]
    exact Or.inr ⟨by omega, by omega, by omega, hs⟩
  · rw [nz_un d1 (by omega) q, nz_un d2 (by omega) q]
    rcases h k h1 h2 with h3 | ⟨h3, h4, h5, h6⟩
    · exact Or.inl h3
    · exact Or.inr ⟨h3, h4, by omega, h6.ag ha (by omega)⟩
theorem LI.set {nl e x y : Int} {f g fr to fr1 to1 : Nat → Int32} (h : LI nl f g fr to) (he : 5 * nl ≤ e ∧ 0 ≤ e ∧ e ≤ 100) (d1 : fr1 = upd fr (iI e).toNatClampNeg (iI x)) (d2 : to1 = upd to (iI e).toNatClampNeg (iI y)) : LI nl f g fr1 to1 :=
  h.up (Ag.rf f g _) (fun k hk => ⟨nz_un d1 (by omega) (by omega), nz_un d2 (by omega) (by omega)⟩)
theorem zz_st {nl q e1 e2 q1 : Int} {fr to fr1 to1 : Nat → Int32} (h : ∀ k : Nat, 5 * nl ≤ (k : Int) → (k : Int) < 5 * nl + q → nz to k = 0 ∧ nz fr k = 0) (hn : 0 ≤ nl ∧ nl ≤ 3) (hq : 0 ≤ q ∧ q < 5) (d1 : fr1 = upd fr (iI e1).toNatClampNeg (iI 0)) (h1 : e1 = 5 * nl + q) (d2 : to1 = upd to (iI e2).toNatClampNeg (iI 0)) (h2 : e2 = 5 * nl + q) (h3 : q1 = q + 1) : ∀ k : Nat, 5 * nl ≤ (k : Int) → (k : Int) < 5 * nl + q1 → nz to1 k = 0 ∧ nz fr1 k = 0 := by
  intro k a b
  by_cases w : (k : Int) = 5 * nl + q
  · exact ⟨nz_us d2 (by omega) (by omega) (by omega), nz_us d1 (by omega) (by omega) (by omega)⟩
  · rw [nz_un d2 (by omega) (by omega), nz_un d1 (by omega) (by omega)]
    exact h k a (by omega)
theorem LI.set2 {nl e1 e2 x y : Int} {f g fr to fr1 to1 : Nat → Int32} (h : LI nl f g fr to) (he : 5 * nl ≤ e1 ∧ 0 ≤ e1 ∧ e1 ≤ 100) (he2 : e2 = e1) (d1 : fr1 = upd fr (iI e1).toNatClampNeg (iI x)) (d2 : to1 = upd to (iI e2).toNatClampNeg (iI y)) : LI nl f g fr1 to1 := by
  subst he2
  exact h.set he d1 d2
theorem LI.agr {nl qs : Int} {f g f1 g1 fr to : Nat → Int32} (h : LI nl f g fr to) (ha : Ag f g f1 g1 (620 * nl + qs)) (hq : 0 ≤ qs) : LI nl f1 g1 fr to := h.up (fun k hk => ha k (by omega)) (fun _ _ => ⟨rfl, rfl⟩)
theorem LI.cur {nl qs : Int} {f g fr to : Nat → Int32} (h : LI nl f g fr to) (hc : CUR nl qs f g fr to) (hn : 0 ≤ nl) (hq : 0 ≤ qs ∧ qs ≤ 610) : LI (nl + 1) f g fr to :=
  h.more (fun k h1 h2 => by
    rcases hc k h1 h2 with h3 | ⟨h3, h4, h5, h6⟩
    · exact Or.inl h3
    · exact Or.inr ⟨by omega, h4, by omega, by omega, h6⟩)
end
