theorem dX12_isWord_0 : decode cX12_isWord 0 = .ok (.aload_n 0, 1) := by decide +kernel
theorem dX12_isWord_1 : decode cX12_isWord 1 = .ok (.invokevirtual 92, 3) := by decide +kernel
theorem dX12_isWord_12 : decode cX12_isWord 12 = .ok (.if_icmp .ge 43, 3) := by decide +kernel
theorem dX12_isWord_15 : decode cX12_isWord 15 = .ok (.aload_n 0, 1) := by decide +kernel
theorem dX12_isWord_16 : decode cX12_isWord 16 = .ok (.getfield 86, 3) := by decide +kernel
theorem dX12_isWord_19 : decode cX12_isWord 19 = .ok (.iload_n 2, 1) := by decide +kernel
theorem dX12_isWord_20 : decode cX12_isWord 20 = .ok (.iadd, 1) := by decide +kernel
theorem dX12_isWord_21 : decode cX12_isWord 21 = .ok (.aload_n 0, 1) := by decide +kernel
theorem dX12_isWord_22 : decode cX12_isWord 22 = .ok (.getfield 89, 3) := by decide +kernel
theorem dX12_isWord_25 : decode cX12_isWord 25 = .ok (.if_icmp .ge 22, 3) := by decide +kernel
theorem dX12_isWord_28 : decode cX12_isWord 28 = .ok (.aload_n 0, 1) := by decide +kernel
theorem dX12_isWord_29 : decode cX12_isWord 29 = .ok (.getfield 20, 3) := by decide +kernel
theorem dX12_isWord_32 : decode cX12_isWord 32 = .ok (.aload_n 0, 1) := by decide +kernel
theorem dX12_isWord_33 : decode cX12_isWord 33 = .ok (.getfield 86, 3) := by decide +kernel
theorem dX12_isWord_36 : decode cX12_isWord 36 = .ok (.iload_n 2, 1) := by decide +kernel
theorem dX12_isWord_37 : decode cX12_isWord 37 = .ok (.iadd, 1) := by decide +kernel
theorem dX12_isWord_38 : decode cX12_isWord 38 = .ok (.iaload, 1) := by decide +kernel
theorem dX12_isWord_39 : decode cX12_isWord 39 = .ok (.aload_n 1, 1) := by decide +kernel
theorem dX12_isWord_4 : decode cX12_isWord 4 = .ok (.pop, 1) := by decide +kernel
theorem dX12_isWord_40 : decode cX12_isWord 40 = .ok (.iload_n 2, 1) := by decide +kernel
theorem dX12_isWord_41 : decode cX12_isWord 41 = .ok (.invokevirtual 105, 3) := by decide +kernel
theorem dX12_isWord_44 : decode cX12_isWord 44 = .ok (.if_icmp .eq 5, 3) := by decide +kernel
theorem dX12_isWord_47 : decode cX12_isWord 47 = .ok (.iconst 0, 1) := by decide +kernel
theorem dX12_isWord_48 : decode cX12_isWord 48 = .ok (.ireturn, 1) := by decide +kernel
theorem dX12_isWord_49 : decode cX12_isWord 49 = .ok (.iinc 2 1, 3) := by decide +kernel
theorem dX12_isWord_5 : decode cX12_isWord 5 = .ok (.iconst 0, 1) := by decide +kernel
theorem dX12_isWord_52 : decode cX12_isWord 52 = .ok (.goto (-45), 3) := by decide +kernel
theorem dX12_isWord_55 : decode cX12_isWord 55 = .ok (.aload_n 0, 1) := by decide +kernel
theorem dX12_isWord_56 : decode cX12_isWord 56 = .ok (.getfield 86, 3) := by decide +kernel
theorem dX12_isWord_59 : decode cX12_isWord 59 = .ok (.aload_n 1, 1) := by decide +kernel
theorem dX12_isWord_6 : decode cX12_isWord 6 = .ok (.istore_n 2, 1) := by decide +kernel
theorem dX12_isWord_60 : decode cX12_isWord 60 = .ok (.invokevirtual 100, 3) := by decide +kernel
theorem dX12_isWord_63 : decode cX12_isWord 63 = .ok (.iadd, 1) := by decide +kernel
theorem dX12_isWord_64 : decode cX12_isWord 64 = .ok (.aload_n 0, 1) := by decide +kernel
theorem dX12_isWord_65 : decode cX12_isWord 65 = .ok (.getfield 89, 3) := by decide +kernel
theorem dX12_isWord_68 : decode cX12_isWord 68 = .ok (.if_icmp .ge 23, 3) := by decide +kernel
theorem dX12_isWord_7 : decode cX12_isWord 7 = .ok (.iload_n 2, 1) := by decide +kernel
theorem dX12_isWord_71 : decode cX12_isWord 71 = .ok (.aload_n 0, 1) := by decide +kernel
theorem dX12_isWord_72 : decode cX12_isWord 72 = .ok (.getfield 20, 3) := by decide +kernel
theorem dX12_isWord_75 : decode cX12_isWord 75 = .ok (.aload_n 0, 1) := by decide +kernel
theorem dX12_isWord_76 : decode cX12_isWord 76 = .ok (.getfield 86, 3) := by decide +kernel
theorem dX12_isWord_79 : decode cX12_isWord 79 = .ok (.aload_n 1, 1) := by decide +kernel
theorem dX12_isWord_8 : decode cX12_isWord 8 = .ok (.aload_n 1, 1) := by decide +kernel
theorem dX12_isWord_80 : decode cX12_isWord 80 = .ok (.invokevirtual 100, 3) := by decide +kernel
theorem dX12_isWord_83 : decode cX12_isWord 83 = .ok (.iadd, 1) := by decide +kernel
theorem dX12_isWord_84 : decode cX12_isWord 84 = .ok (.iaload, 1) := by decide +kernel
theorem dX12_isWord_85 : decode cX12_isWord 85 = .ok (.invokestatic 96, 3) := by decide +kernel
theorem dX12_isWord_88 : decode cX12_isWord 88 = .ok (.ifCond .ne 7, 3) := by decide +kernel
theorem dX12_isWord_9 : decode cX12_isWord 9 = .ok (.invokevirtual 100, 3) := by decide +kernel
theorem dX12_isWord_91 : decode cX12_isWord 91 = .ok (.iconst 1, 1) := by decide +kernel
theorem dX12_isWord_92 : decode cX12_isWord 92 = .ok (.goto 4, 3) := by decide +kernel
theorem dX12_isWord_95 : decode cX12_isWord 95 = .ok (.iconst 0, 1) := by decide +kernel
theorem dX12_isWord_96 : decode cX12_isWord 96 = .ok (.ireturn, 1) := by decide +kernel
def Hid (p : Prop) : Prop := p
def vs_m_isWord : List Cond := .code yX12_isWord cX12_isWord 3 (some .boolean) :: (([.fieldLink RX12 86 "KerbSplashModel" "at" "I", .fieldLink RX12 89 "KerbSplashModel" "size" "I", .fieldLink RX12 20 "KerbSplashModel" "tape" "[I"] : List Cond) ++ ((wsV RX12 92 RX12 yX12_here vs_m_here) ++ ((wsV RX12 100 RJ0 yJ0_length_8abf5 vs_s_length) ++ ((wsX120) ++ ((wsV RX12 105 RJ0 yJ0_charAt_5068e vs_s_charAt) ++ ((va_wsS RX12 96 yX12_isSmall vs_m_isSmall) ++ ([])))))))
theorem gd_m_isWord : vs_m_isWord.all goodWord = true := gd_C (by decide +kernel) (gd_A (by decide +kernel) (gd_A (gd_V gd_m_here (by decide +kernel)) (gd_A (gd_V gd_s_length (by decide +kernel)) (gd_A (by decide +kernel) (gd_A (gd_V gd_s_charAt (by decide +kernel)) (gd_A (gd_S gd_m_isSmall (by decide +kernel)) rfl))))))
set_option maxHeartbeats 4000000 in
set_option maxRecDepth 100000 in
theorem m_isWord (l : Launch) (hl : l.stackTraces = false) (D : va_G) (cy : Nat → ClassId) (sa : Nat → Nat) (mm m1 m9 m10 m11 m12 m13 m14 m15 m19 m20 m21 m23 m24 m25 m26 m27 m28 m33 m35 : Nat) (th tp sz_ ap bad bk opn fp im nr nl sp_ wtc wcl ir ip shu sfa swr : Int) (f9 : Nat → Int32) (sz : Nat) (hr_th : (-2147483648) ≤ th ∧ th ≤ 2147483647) (hr_tp : 0 ≤ tp ∧ tp ≤ 600) (hr_sz_ : 0 ≤ sz_ ∧ sz_ ≤ 600) (hr_ap : 0 ≤ ap ∧ ap ≤ 602) (hr_bad : (-1) ≤ bad ∧ bad ≤ 602) (hr_bk : 0 ≤ bk ∧ bk ≤ 4) (hr_opn : 0 ≤ opn ∧ opn ≤ 7) (hr_fp : (-2147483648) ≤ fp ∧ fp ≤ 2147483647) (hr_im : 0 ≤ im ∧ im ≤ 3) (hr_nr : 0 ≤ nr ∧ nr ≤ 4) (hr_nl : 0 ≤ nl ∧ nl ≤ 4) (hr_sp_ : 0 ≤ sp_ ∧ sp_ ≤ 602) (hr_wtc : (-2147483648) ≤ wtc ∧ wtc ≤ 2147483647) (hr_wcl : 0 ≤ wcl ∧ wcl ≤ 95) (hr_ir : 0 ≤ ir ∧ ir ≤ 5) (hr_ip : (-2147483648) ≤ ip ∧ ip ≤ 2147483647) (hr_shu : (-2147483648) ≤ shu ∧ shu ≤ 2147483647) (hr_sfa : (-2147483648) ≤ sfa ∧ sfa ≤ 2147483647) (hr_swr : (-2147483648) ≤ swr ∧ swr ≤ 2147483647) (hf9 : inv_ 600 0 255 f9) : Met l yX12_isWord vs_m_isWord ({ frames := 4, cells := 0, slots := 0, locals := 85 }) (va_Pc [vR mm, .ref (sn sa 33)] (pcW D cy sa sz [zO mm 12 [vI th, vR m1, vI tp, vI sz_, vI ap, vI bad, vI bk, vI opn, vI fp, vR m9, vR m10, vR m11, vR m12, vR m13, vR m14, vR m15, vI im, vI nr, vI nl, vR m19, vR m20, vR m21, vI sp_, vR m23, vR m24, vR m25, vR m26, vR m27, vR m28, vI wtc, vI wcl, vI ir, vI ip, vR m33, vI shu, vR m35, vI sfa, vI swr], zI m9 (cy 0) 600 f9])) (va_Qi (fun (r : Int32) (u : SV) => r = iI (u.2.1 0) ∧ (0 ≤ u.2.1 1 ∧ u.2.1 1 ≤ 602) ∧ (0 ≤ u.2.1 0 ∧ u.2.1 0 ≤ 1) ∧ (ap ≤ u.2.1 1) ∧ (ap ≤ sz_ → u.2.1 1 ≤ sz_) ∧ (u.2.1 1 < sz_ → nz f9 (u.2.1 1).toNat ≠ 32) ∧ ((ap < sz_ → nz f9 ap.toNat ≠ 32) → u.2.1 1 = ap) ∧ (u.2.1 0 = 1 → u.2.1 1 < sz_ ∧ nz f9 (u.2.1 1).toNat = 115) ∧ inv_ 600 0 255 f9) (fun u t => atW D (va_A [zO mm 12 [vI th, vR m1, vI tp, vI sz_, vI ap, vI bad, vI bk, vI opn, vI fp, vR m9, vR m10, vR m11, vR m12, vR m13, vR m14, vR m15, vI im, vI nr, vI nl, vR m19, vR m20, vR m21, vI sp_, vR m23, vR m24, vR m25, vR m26, vR m27, vR m28, vI wtc, vI wcl, vI ir, vI ip, vR m33, vI shu, vR m35, vI sfa, vI swr], zI m9 (cy 0) 600 f9] sz) [zO mm 12 [vI th, vR m1, vI tp, vI sz_, vI (u.2.1 1), vI bad, vI bk, vI opn, vI fp, vR m9, vR m10, vR m11, vR m12, vR m13, vR m14, vR m15, vI im, vI nr, vI nl, vR m19, vR m20, vR m21, vI sp_, vR m23, vR m24, vR m25, vR m26, vR m27, vR m28, vI wtc, vI wcl, vI ir, vI ip, vR m33, vI shu, vR m35, vI sfa, vI swr], zI m9 (cy 0) 600 f9] t) (va_A [zO mm 12 [vI th, vR m1, vI tp, vI sz_, vI ap, vI bad, vI bk, vI opn, vI fp, vR m9, vR m10, vR m11, vR m12, vR m13, vR m14, vR m15, vI im, vI nr, vI nl, vR m19, vR m20, vR m21, vI sp_, vR m23, vR m24, vR m25, vR m26, vR m27, vR m28, vI wtc, vI wcl, vI ir, vI ip, vR m33, vI shu, vR m35, vI sfa, vI swr], zI m9 (cy 0) 600 f9] sz)) 0 0 (va_A [zO mm 12 [vI th, vR m1, vI tp, vI sz_, vI ap, vI bad, vI bk, vI opn, vI fp, vR m9, vR m10, vR m11, vR m12, vR m13, vR m14, vR m15, vI im, vI nr, vI nl, vR m19, vR m20, vR m21, vI sp_, vR m23, vR m24, vR m25, vR m26, vR m27, vR m28, vI wtc, vI wcl, vI ir, vI ip, vR m33, vI shu, vR m35, vI sfa, vI swr], zI m9 (cy 0) 600 f9] sz) := by
  refine Met.ofW (cc := cX12_isWord) (maxL := 3) (ret := (some .boolean)) (by decide) rfl ?_
  intro p e s m args below meth c s₁ B hml hv
  obtain ⟨rfl, hsz, hP, hG, hD0, hT⟩ := hv
  have hx := B.exec
  have hb := B.bytes
  have hr := B.returns
  have hts := atoms_spec (ws := vs_m_isWord) B.pre
  have hown : s.vm.findClass RX12 = some m.cls := findClass_of_methodNamed B.named
  have hlocks := B.notSynchronized
  subst hsz
  have hD := hD0.self (sz := s.heap.size)
  generalize hAe : va_A [zO mm 12 [vI th, vR m1, vI tp, vI sz_, vI ap, vI bad, vI bk, vI opn, vI fp, vR m9, vR m10, vR m11, vR m12, vR m13, vR m14, vR m15, vI im, vI nr, vI nl, vR m19, vR m20, vR m21, vI sp_, vR m23, vR m24, vR m25, vR m26, vR m27, vR m28, vI wtc, vI wcl, vI ir, vI ip, vR m33, vI shu, vR m35, vI sfa, vI swr], zI m9 (cy 0) 600 f9] s.heap.size = A at hD hT ⊢
  have hA : ∀ q : Nat, s.heap.size ≤ q → A q := fun q h => by rw [← hAe]; exact Or.inr h
  have hS : va_S A s.heap s.heap [] := va_S.rf
  have hl0 := lv_entry ([vR mm, .ref (sn sa 33)]) (n := 3) (Nat.le_of_ble_eq_true rfl)
  rw [lg_entry_eq]
  generalize (lg_sl ([vR mm, .ref (sn sa 33)]) ++ List.replicate (3 - (lg_sl ([vR mm, .ref (sn sa 33)])).length) Slot.unset).toArray = ls at hl0 ⊢
  have hlv : lv_has ls 3 [(0, vR mm), (1, .ref (sn sa 33))] := hl0
  have gg_0 : GoodIn vs_m_isWord (wsV RX12 92 RX12 yX12_here vs_m_here) := goodIn_sub (fun w h => List.mem_cons_of_mem _ (List.mem_append_right _ (List.mem_append_left _ h))) (gd_V gd_m_here (by decide +kernel))
  have gg_1 : GoodIn vs_m_isWord (wsV RX12 100 RJ0 yJ0_length_8abf5 vs_s_length) := goodIn_sub (fun w h => List.mem_cons_of_mem _ (List.mem_append_right _ (List.mem_append_right _ (List.mem_append_left _ h)))) (gd_V gd_s_length (by decide +kernel))
  have lf86 := hts (.fieldLink RX12 86 "KerbSplashModel" "at" "I") (List.mem_of_getElem? (i := 1) rfl)
  have hi12 : ∀ w ∈ wsX120, w ∈ vs_m_isWord := fun w h => List.mem_cons_of_mem _ (List.mem_append_right _ (List.mem_append_right _ (List.mem_append_right _ (List.mem_append_left _ h))))
  have lf89 := hts (.fieldLink RX12 89 "KerbSplashModel" "size" "I") (List.mem_of_getElem? (i := 2) rfl)
  have lf20 := hts (.fieldLink RX12 20 "KerbSplashModel" "tape" "[I") (List.mem_of_getElem? (i := 3) rfl)
  have gg_3 : GoodIn vs_m_isWord (wsV RX12 105 RJ0 yJ0_charAt_5068e vs_s_charAt) := goodIn_sub (fun w h => List.mem_cons_of_mem _ (List.mem_append_right _ (List.mem_append_right _ (List.mem_append_right _ (List.mem_append_right _ (List.mem_append_left _ h)))))) (gd_V gd_s_charAt (by decide +kernel))
  have gg_4 : GoodIn vs_m_isWord (va_wsS RX12 96 yX12_isSmall vs_m_isSmall) := goodIn_sub (fun w h => List.mem_cons_of_mem _ (List.mem_append_right _ (List.mem_append_right _ (List.mem_append_right _ (List.mem_append_right _ (List.mem_append_right _ (List.mem_append_left _ h))))))) (gd_S gd_m_isSmall (by decide +kernel))
  refine lv_aload_n hx hb dX12_isWord_0 rfl (lv_at hlv 0 rfl) ?_
  refine cj_i (wr := []) (va_runV (As := []) (rest := []) ⟨hx, hb, hml, hown, hts⟩ (m_here l hl D cy sa mm m1 m9 m10 m11 m12 m13 m14 m15 m19 m20 m21 m23 m24 m25 m26 m27 m28 m33 m35 th tp sz_ ap bad bk opn fp im nr nl sp_ wtc wcl ir ip shu sfa swr f9 s.heap.size (by first | exact hr_th | omega) (by first | exact hr_tp | omega) (by first | exact hr_sz_ | omega) (by first | exact hr_ap | omega) (by first | exact hr_bad | omega) (by first | exact hr_bk | omega) (by first | exact hr_opn | omega) (by first | exact hr_fp | omega) (by first | exact hr_im | omega) (by first | exact hr_nr | omega) (by first | exact hr_nl | omega) (by first | exact hr_sp_ | omega) (by first | exact hr_wtc | omega) (by first | exact hr_wcl | omega) (by first | exact hr_ir | omega) (by first | exact hr_ip | omega) (by first | exact hr_shu | omega) (by first | exact hr_sfa | omega) (by first | exact hr_swr | omega) hf9) (cwV 0 hts gg_0 rfl rfl rfl (by decide +kernel) ⟨Nat.le_of_ble_eq_true rfl, Nat.le_of_ble_eq_true rfl⟩) ⟨pcW.blind, (va_recv hG.1 hP (ci := 12) (q0 := 0) rfl rfl), (pcW.mk hP hD hS hA hG hT [0, 1] rfl (by decide))⟩ rfl rfl hlv.1 rfl (lv_room (Nat.le_of_ble_eq_true rfl)) dX12_isWord_1 ⟨Nat.le_of_ble_eq_true rfl, Nat.le_of_ble_eq_true rfl⟩) hP hD hS hA [0, 1] [] rfl rfl (by decide) (by decide) (fun r1 u1 H locs hw1 hP hD hS => ?_)
  obtain ⟨rfl, hq1_1, hq1_2, hq1_3, hq1_4, hq1_5, hq1_6, hq1_7, hq1_8, hq1_9⟩ := hw1
  have hP : va_P D vwCl [zO mm 12 [vI th, vR m1, vI tp, vI sz_, vI (u1.2.1 1), vI bad, vI bk, vI opn, vI fp, vR m9, vR m10, vR m11, vR m12, vR m13, vR m14, vR m15, vI im, vI nr, vI nl, vR m19, vR m20, vR m21, vI sp_, vR m23, vR m24, vR m25, vR m26, vR m27, vR m28, vI wtc, vI wcl, vI ir, vI ip, vR m33, vI shu, vR m35, vI sfa, vI swr], zI m9 (cy 0) 600 f9] H := hP
  have hD : va_D A [zO mm 12 [vI th, vR m1, vI tp, vI sz_, vI (u1.2.1 1), vI bad, vI bk, vI opn, vI fp, vR m9, vR m10, vR m11, vR m12, vR m13, vR m14, vR m15, vI im, vI nr, vI nl, vR m19, vR m20, vR m21, vI sp_, vR m23, vR m24, vR m25, vR m26, vR m27, vR m28, vI wtc, vI wcl, vI ir, vI ip, vR m33, vI shu, vR m35, vI sfa, vI swr], zI m9 (cy 0) 600 f9] := hD
  refine lv_pop hx hb dX12_isWord_4 rfl ?_
  have hk4 := (show Hid _ from hq1_4)
  have hk6 := (show Hid _ from hq1_6)
  have hk7 := (show Hid _ from hq1_7)
  have hk8 := (show Hid _ from hq1_8)
  clear hq1_3 hq1_5 hq1_6 hq1_7 hq1_8
  refine lv_iconst (v := iI 0) hx hb dX12_isWord_5 (by decide) ?_
  refine lv_istore_n (lv' := [(2, vI 0), (0, vR mm), (1, .ref (sn sa 33))]) hx hb dX12_isWord_6 rfl hlv (by decide) rfl (fun ls hlv => ?_)
  refine lv_iload_n hx hb dX12_isWord_7 rfl (lv_at hlv 0 rfl) ?_
  refine lv_aload_n hx hb dX12_isWord_8 rfl (lv_at hlv 2 rfl) ?_
  refine cj_i (wr := [zO mm 12 [vI th, vR m1, vI tp, vI sz_, vI (u1.2.1 1), vI bad, vI bk, vI opn, vI fp, vR m9, vR m10, vR m11, vR m12, vR m13, vR m14, vR m15, vI im, vI nr, vI nl, vR m19, vR m20, vR m21, vI sp_, vR m23, vR m24, vR m25, vR m26, vR m27, vR m28, vI wtc, vI wcl, vI ir, vI ip, vR m33, vI shu, vR m35, vI sfa, vI swr], zI m9 (cy 0) 600 f9]) (va_runV (As := []) (rest := [vI 0]) ⟨hx, hb, hml, hown, hts⟩ (s_length l hl D cy sa 33 H.size (by show (0 : Int) ≤ 33 ∧ (33 : Int) ≤ 55; decide)) (cwV 0 hts gg_1 rfl rfl rfl (by decide +kernel) ⟨Nat.le_of_ble_eq_true rfl, Nat.le_of_ble_eq_true rfl⟩) ⟨pcW.blind, (wo_recv (WD.tx hT.2.2 (33 : Int).toNat (by omega)).1 hS), (pcW.mk hP hD hS hA hG hT [] rfl (by decide))⟩ rfl rfl hlv.1 rfl (lv_room (Nat.le_of_ble_eq_true rfl)) dX12_isWord_9 ⟨Nat.le_of_ble_eq_true rfl, Nat.le_of_ble_eq_true rfl⟩) hP hD hS hA [] [0, 1] rfl rfl (by decide) (by decide) (fun r2 u2 H locs hw2 hP hD hS => ?_)
  obtain ⟨rfl, hq2_1, hq2_2⟩ := hw2
  have hP : va_P D vwCl [zO mm 12 [vI th, vR m1, vI tp, vI sz_, vI (u1.2.1 1), vI bad, vI bk, vI opn, vI fp, vR m9, vR m10, vR m11, vR m12, vR m13, vR m14, vR m15, vI im, vI nr, vI nl, vR m19, vR m20, vR m21, vI sp_, vR m23, vR m24, vR m25, vR m26, vR m27, vR m28, vI wtc, vI wcl, vI ir, vI ip, vR m33, vI shu, vR m35, vI sfa, vI swr], zI m9 (cy 0) 600 f9] H := hP
  have hD : va_D A [zO mm 12 [vI th, vR m1, vI tp, vI sz_, vI (u1.2.1 1), vI bad, vI bk, vI opn, vI fp, vR m9, vR m10, vR m11, vR m12, vR m13, vR m14, vR m15, vI im, vI nr, vI nl, vR m19, vR m20, vR m21, vI sp_, vR m23, vR m24, vR m25, vR m26, vR m27, vR m28, vI wtc, vI wcl, vI ir, vI ip, vR m33, vI shu, vR m35, vI sfa, vI swr], zI m9 (cy 0) 600 f9] := hD
  have hev2 : (u2.2.1 0) = 7 := by first | (rw [hq2_2]; rfl) | omega
  refine lt_i (y := iI 7) (by rw [show (u2.2.1 0) = 7 by omega]) ?_
  refine ir_ge (tgt := 55) hx hb dX12_isWord_12 (by decide) (by show ((-2147483648) : Int) ≤ 0 ∧ (0 : Int) ≤ 2147483647; decide) (by show ((-2147483648) : Int) ≤ 7 ∧ (7 : Int) ≤ 2147483647; decide) (fun c_1 => by exfalso; omega) (fun c_1 => ?_)
  refine lv_aload_n hx hb dX12_isWord_15 rfl (lv_at hlv 1 rfl) ?_
  refine va_get (D := D) (ci := 12) (v := vI (u1.2.1 1)) (C := RX12) (T := TX12) (N := 38) hx hb hts hi12 hown hG.1 hP 0 rfl rfl 4 (by decide) lf86 (fun _ h9 => h9) rfl dX12_isWord_16 ?_
  refine lv_iload_n hx hb dX12_isWord_19 rfl (lv_at hlv 0 rfl) ?_
  refine lv_iadd hx hb dX12_isWord_20 ?_
  refine lt_i (y := iI (u1.2.1 1)) (by rw [show iI (u1.2.1 1) + iI 0 = iI ((u1.2.1 1) + 0) from (Int32.ofInt_add _ _).symm, Int.add_zero]) ?_
  refine lv_aload_n hx hb dX12_isWord_21 rfl (lv_at hlv 1 rfl) ?_
  refine va_get (D := D) (ci := 12) (v := vI sz_) (C := RX12) (T := TX12) (N := 38) hx hb hts hi12 hown hG.1 hP 0 rfl rfl 3 (by decide) lf89 (fun _ h9 => h9) rfl dX12_isWord_22 ?_
  refine ir_ge (tgt := 47) hx hb dX12_isWord_25 (by decide) (by first | exact rgw hq1_1 (by decide) (by decide) | omega) (by first | exact rgw hr_sz_ (by decide) (by decide) | omega) (fun c_2 => ?_) (fun c_2 => ?_)
  · refine lv_iconst (v := iI 0) hx hb dX12_isWord_47 (by decide) ?_
    refine W.widen (k := 0) (n := 0) (Nat.le_of_ble_eq_true rfl) (Nat.le_of_ble_eq_true rfl) ?_
    exact W.zret (v := iI 0) hx hb hr (by first | rfl | decide) (fun t ht hW => ⟨⟨iI 0, ((fun k => ([] : List Nat).getD k 0), (fun k => ([0, (u1.2.1 1)] : List Int).getD k 0), (fun k => ([] : List (Nat → Int32)).getD k (fun _ => 0))), rfl, ⟨rfl, (by show (0 ≤ (u1.2.1 1) ∧ (u1.2.1 1) ≤ 602); first | exact hq1_1 | omega), (by show (0 ≤ 0 ∧ 0 ≤ 1); show (0 : Int) ≤ 0 ∧ (0 : Int) ≤ 1; decide), (by show (ap ≤ (u1.2.1 1)); first | exact hk4 | exact hk6 | exact hk7 | exact hk8), (by show (ap ≤ sz_ → (u1.2.1 1) ≤ sz_); first | exact hk4 | exact hk6 | exact hk7 | exact hk8), (by show ((u1.2.1 1) < sz_ → nz f9 ((u1.2.1 1)).toNat ≠ 32); first | exact hk4 | exact hk6 | exact hk7 | exact hk8), (by show ((ap < sz_ → nz f9 ap.toNat ≠ 32) → (u1.2.1 1) = ap); first | exact hk4 | exact hk6 | exact hk7 | exact hk8), (by show (0 = 1 → (u1.2.1 1) < sz_ ∧ nz f9 ((u1.2.1 1)).toNat = 115); omega), hq1_9⟩, by rw [ht]; exact hP.sub [0, 1] rfl, hD.sub [0, 1] (by decide) rfl⟩, hS.F ht⟩) hS.2.2 dX12_isWord_48
  · refine lv_aload_n hx hb dX12_isWord_28 rfl (lv_at hlv 1 rfl) ?_
    refine va_get (D := D) (ci := 12) (v := vR m9) (C := RX12) (T := TX12) (N := 38) hx hb hts hi12 hown hG.1 hP 0 rfl rfl 9 (by decide) lf20 (fun _ h9 => h9) rfl dX12_isWord_29 ?_
    refine lv_aload_n hx hb dX12_isWord_32 rfl (lv_at hlv 1 rfl) ?_
    refine va_get (D := D) (ci := 12) (v := vI (u1.2.1 1)) (C := RX12) (T := TX12) (N := 38) hx hb hts hi12 hown hG.1 hP 0 rfl rfl 4 (by decide) lf86 (fun _ h9 => h9) rfl dX12_isWord_33 ?_
    refine lv_iload_n hx hb dX12_isWord_36 rfl (lv_at hlv 0 rfl) ?_
    refine lv_iadd hx hb dX12_isWord_37 ?_
    refine lt_i (y := iI (u1.2.1 1)) (by rw [show iI (u1.2.1 1) + iI 0 = iI ((u1.2.1 1) + 0) from (Int32.ofInt_add _ _).symm, Int.add_zero]) ?_
    refine va_iald hx hb hG.1 hP 1 0 rfl rfl (iI_in (by omega) (by decide)) dX12_isWord_38 ?_
    refine lt_nz (i := (u1.2.1 1)) (by omega) (fun z_3 hz_3 lz_3 uz_3 => ?_)
    have hbz_3_9 := inv_nz hq1_9 (k := (u1.2.1 1).toNat) (by omega)
    refine lv_aload_n hx hb dX12_isWord_39 rfl (lv_at hlv 2 rfl) ?_
    refine lv_iload_n hx hb dX12_isWord_40 rfl (lv_at hlv 0 rfl) ?_
    refine cj_i (wr := [zO mm 12 [vI th, vR m1, vI tp, vI sz_, vI (u1.2.1 1), vI bad, vI bk, vI opn, vI fp, vR m9, vR m10, vR m11, vR m12, vR m13, vR m14, vR m15, vI im, vI nr, vI nl, vR m19, vR m20, vR m21, vI sp_, vR m23, vR m24, vR m25, vR m26, vR m27, vR m28, vI wtc, vI wcl, vI ir, vI ip, vR m33, vI shu, vR m35, vI sfa, vI swr], zI m9 (cy 0) 600 f9]) (va_runV (As := [vI 0]) (rest := [vI z_3]) ⟨hx, hb, hml, hown, hts⟩ (s_charAt l hl D cy sa 33 0 H.size (by show (0 : Int) ≤ 33 ∧ (33 : Int) ≤ 55; decide) (by show (0 : Int) ≤ 0 ∧ (0 : Int) ≤ 6; decide) (by omega)) (cwV 1 hts gg_3 rfl rfl rfl (by decide +kernel) ⟨Nat.le_of_ble_eq_true rfl, Nat.le_of_ble_eq_true rfl⟩) ⟨pcW.blind, (wo_recv (WD.tx hT.2.2 (33 : Int).toNat (by omega)).1 hS), (pcW.mk hP hD hS hA hG hT [] rfl (by decide))⟩ rfl rfl hlv.1 rfl (lv_room (Nat.le_of_ble_eq_true rfl)) dX12_isWord_41 ⟨Nat.le_of_ble_eq_true rfl, Nat.le_of_ble_eq_true rfl⟩) hP hD hS hA [] [0, 1] rfl rfl (by decide) (by decide) (fun r3 u3 H locs hw3 hP hD hS => ?_)
    obtain ⟨rfl, hq3_1, hq3_2⟩ := hw3
    have hP : va_P D vwCl [zO mm 12 [vI th, vR m1, vI tp, vI sz_, vI (u1.2.1 1), vI bad, vI bk, vI opn, vI fp, vR m9, vR m10, vR m11, vR m12, vR m13, vR m14, vR m15, vI im, vI nr, vI nl, vR m19, vR m20, vR m21, vI sp_, vR m23, vR m24, vR m25, vR m26, vR m27, vR m28, vI wtc, vI wcl, vI ir, vI ip, vR m33, vI shu, vR m35, vI sfa, vI swr], zI m9 (cy 0) 600 f9] H := hP
    have hD : va_D A [zO mm 12 [vI th, vR m1, vI tp, vI sz_, vI (u1.2.1 1), vI bad, vI bk, vI opn, vI fp, vR m9, vR m10, vR m11, vR m12, vR m13, vR m14, vR m15, vI im, vI nr, vI nl, vR m19, vR m20, vR m21, vI sp_, vR m23, vR m24, vR m25, vR m26, vR m27, vR m28, vI wtc, vI wcl, vI ir, vI ip, vR m33, vI shu, vR m35, vI sfa, vI swr], zI m9 (cy 0) 600 f9] := hD
    have hev3 : (u3.2.1 0) = 115 := by first | (rw [hq3_2]; rfl) | omega
    clear hq3_2
    refine lt_i (y := iI 115) (by rw [show (u3.2.1 0) = 115 by omega]) ?_
    refine ir_eq (tgt := 49) hx hb dX12_isWord_44 (by decide) (by omega) (by show ((-2147483648) : Int) ≤ 115 ∧ (115 : Int) ≤ 2147483647; decide) (fun c_4 => ?_) (fun c_4 => ?_)
    · refine lv_iinc (v := iI 1) (lv' := [(2, vI 1), (0, vR mm), (1, .ref (sn sa 33))]) hx hb dX12_isWord_49 hlv (k := 0) rfl (by decide) (by decide) rfl (fun ls hlv => ?_)
      refine lv_goto (tgt := 7) hx hb dX12_isWord_52 (by decide) ?_
      refine lv_iload_n hx hb dX12_isWord_7 rfl (lv_at hlv 0 rfl) ?_
      refine lv_aload_n hx hb dX12_isWord_8 rfl (lv_at hlv 2 rfl) ?_
      refine cj_i (wr := [zO mm 12 [vI th, vR m1, vI tp, vI sz_, vI (u1.2.1 1), vI bad, vI bk, vI opn, vI fp, vR m9, vR m10, vR m11, vR m12, vR m13, vR m14, vR m15, vI im, vI nr, vI nl, vR m19, vR m20, vR m21, vI sp_, vR m23, vR m24, vR m25, vR m26, vR m27, vR m28, vI wtc, vI wcl, vI ir, vI ip, vR m33, vI shu, vR m35, vI sfa, vI swr], zI m9 (cy 0) 600 f9]) (va_runV (As := []) (rest := [vI 1]) ⟨hx, hb, hml, hown, hts⟩ (s_length l hl D cy sa 33 H.size (by show (0 : Int) ≤ 33 ∧ (33 : Int) ≤ 55; decide)) (cwV 0 hts gg_1 rfl rfl rfl (by decide +kernel) ⟨Nat.le_of_ble_eq_true rfl, Nat.le_of_ble_eq_true rfl⟩) ⟨pcW.blind, (wo_recv (WD.tx hT.2.2 (33 : Int).toNat (by omega)).1 hS), (pcW.mk hP hD hS hA hG hT [] rfl (by decide))⟩ rfl rfl hlv.1 rfl (lv_room (Nat.le_of_ble_eq_true rfl)) dX12_isWord_9 ⟨Nat.le_of_ble_eq_true rfl, Nat.le_of_ble_eq_true rfl⟩) hP hD hS hA [] [0, 1] rfl rfl (by decide) (by decide) (fun r4 u4 H locs hw4 hP hD hS => ?_)
      obtain ⟨rfl, hq4_1, hq4_2⟩ := hw4
      have hP : va_P D vwCl [zO mm 12 [vI th, vR m1, vI tp, vI sz_, vI (u1.2.1 1), vI bad, vI bk, vI opn, vI fp, vR m9, vR m10, vR m11, vR m12, vR m13, vR m14, vR m15, vI im, vI nr, vI nl, vR m19, vR m20, vR m21, vI sp_, vR m23, vR m24, vR m25, vR m26, vR m27, vR m28, vI wtc, vI wcl, vI ir, vI ip, vR m33, vI shu, vR m35, vI sfa, vI swr], zI m9 (cy 0) 600 f9] H := hP
      have hD : va_D A [zO mm 12 [vI th, vR m1, vI tp, vI sz_, vI (u1.2.1 1), vI bad, vI bk, vI opn, vI fp, vR m9, vR m10, vR m11, vR m12, vR m13, vR m14, vR m15, vI im, vI nr, vI nl, vR m19, vR m20, vR m21, vI sp_, vR m23, vR m24, vR m25, vR m26, vR m27, vR m28, vI wtc, vI wcl, vI ir, vI ip, vR m33, vI shu, vR m35, vI sfa, vI swr], zI m9 (cy 0) 600 f9] := hD
      have hev4 : (u4.2.1 0) = 7 := by first | (rw [hq4_2]; rfl) | omega
      refine lt_i (y := iI 7) (by rw [show (u4.2.1 0) = 7 by omega]) ?_
      refine ir_ge (tgt := 55) hx hb dX12_isWord_12 (by decide) (by show ((-2147483648) : Int) ≤ 1 ∧ (1 : Int) ≤ 2147483647; decide) (by show ((-2147483648) : Int) ≤ 7 ∧ (7 : Int) ≤ 2147483647; decide) (fun c_5 => by exfalso; omega) (fun c_5 => ?_)
      refine lv_aload_n hx hb dX12_isWord_15 rfl (lv_at hlv 1 rfl) ?_
      refine va_get (D := D) (ci := 12) (v := vI (u1.2.1 1)) (C := RX12) (T := TX12) (N := 38) hx hb hts hi12 hown hG.1 hP 0 rfl rfl 4 (by decide) lf86 (fun _ h9 => h9) rfl dX12_isWord_16 ?_
      refine lv_iload_n hx hb dX12_isWord_19 rfl (lv_at hlv 0 rfl) ?_
      refine lv_iadd hx hb dX12_isWord_20 ?_
      refine lt_e (e0 := (u1.2.1 1) + 1) (Int32.ofInt_add _ _).symm (fun z_6 hz_6 => ?_)
      refine lv_aload_n hx hb dX12_isWord_21 rfl (lv_at hlv 1 rfl) ?_
      refine va_get (D := D) (ci := 12) (v := vI sz_) (C := RX12) (T := TX12) (N := 38) hx hb hts hi12 hown hG.1 hP 0 rfl rfl 3 (by decide) lf89 (fun _ h9 => h9) rfl dX12_isWord_22 ?_
      refine ir_ge (tgt := 47) hx hb dX12_isWord_25 (by decide) (by omega) (by first | exact rgw hr_sz_ (by decide) (by decide) | omega) (fun c_7 => ?_) (fun c_7 => ?_)
      · refine lv_iconst (v := iI 0) hx hb dX12_isWord_47 (by decide) ?_
        refine W.widen (k := 0) (n := 0) (Nat.le_of_ble_eq_true rfl) (Nat.le_of_ble_eq_true rfl) ?_
        exact W.zret (v := iI 0) hx hb hr (by first | rfl | decide) (fun t ht hW => ⟨⟨iI 0, ((fun k => ([] : List Nat).getD k 0), (fun k => ([0, (u1.2.1 1)] : List Int).getD k 0), (fun k => ([] : List (Nat → Int32)).getD k (fun _ => 0))), rfl, ⟨rfl, (by show (0 ≤ (u1.2.1 1) ∧ (u1.2.1 1) ≤ 602); first | exact hq1_1 | omega), (by show (0 ≤ 0 ∧ 0 ≤ 1); show (0 : Int) ≤ 0 ∧ (0 : Int) ≤ 1; decide), (by show (ap ≤ (u1.2.1 1)); first | exact hk4 | exact hk6 | exact hk7 | exact hk8), (by show (ap ≤ sz_ → (u1.2.1 1) ≤ sz_); first | exact hk4 | exact hk6 | exact hk7 | exact hk8), (by show ((u1.2.1 1) < sz_ → nz f9 ((u1.2.1 1)).toNat ≠ 32); first | exact hk4 | exact hk6 | exact hk7 | exact hk8), (by show ((ap < sz_ → nz f9 ap.toNat ≠ 32) → (u1.2.1 1) = ap); first | exact hk4 | exact hk6 | exact hk7 | exact hk8), (by show (0 = 1 → (u1.2.1 1) < sz_ ∧ nz f9 ((u1.2.1 1)).toNat = 115); omega), hq1_9⟩, by rw [ht]; exact hP.sub [0, 1] rfl, hD.sub [0, 1] (by decide) rfl⟩, hS.F ht⟩) hS.2.2 dX12_isWord_48
      · refine lv_aload_n hx hb dX12_isWord_28 rfl (lv_at hlv 1 rfl) ?_
        refine va_get (D := D) (ci := 12) (v := vR m9) (C := RX12) (T := TX12) (N := 38) hx hb hts hi12 hown hG.1 hP 0 rfl rfl 9 (by decide) lf20 (fun _ h9 => h9) rfl dX12_isWord_29 ?_
        refine lv_aload_n hx hb dX12_isWord_32 rfl (lv_at hlv 1 rfl) ?_
        refine va_get (D := D) (ci := 12) (v := vI (u1.2.1 1)) (C := RX12) (T := TX12) (N := 38) hx hb hts hi12 hown hG.1 hP 0 rfl rfl 4 (by decide) lf86 (fun _ h9 => h9) rfl dX12_isWord_33 ?_
        refine lv_iload_n hx hb dX12_isWord_36 rfl (lv_at hlv 0 rfl) ?_
        refine lv_iadd hx hb dX12_isWord_37 ?_
        refine lt_e (e0 := (u1.2.1 1) + 1) (Int32.ofInt_add _ _).symm (fun z_8 hz_8 => ?_)
        refine va_iald hx hb hG.1 hP 1 0 rfl rfl (iI_in (by omega) (by decide)) dX12_isWord_38 ?_
        refine lt_nz (i := z_8) (by omega) (fun z_9 hz_9 lz_9 uz_9 => ?_)
        have hbz_9_9 := inv_nz hq1_9 (k := z_8.toNat) (by omega)
        refine lv_aload_n hx hb dX12_isWord_39 rfl (lv_at hlv 2 rfl) ?_
        refine lv_iload_n hx hb dX12_isWord_40 rfl (lv_at hlv 0 rfl) ?_
        refine cj_i (wr := [zO mm 12 [vI th, vR m1, vI tp, vI sz_, vI (u1.2.1 1), vI bad, vI bk, vI opn, vI fp, vR m9, vR m10, vR m11, vR m12, vR m13, vR m14, vR m15, vI im, vI nr, vI nl, vR m19, vR m20, vR m21, vI sp_, vR m23, vR m24, vR m25, vR m26, vR m27, vR m28, vI wtc, vI wcl, vI ir, vI ip, vR m33, vI shu, vR m35, vI sfa, vI swr], zI m9 (cy 0) 600 f9]) (va_runV (As := [vI 1]) (rest := [vI z_9]) ⟨hx, hb, hml, hown, hts⟩ (s_charAt l hl D cy sa 33 1 H.size (by show (0 : Int) ≤ 33 ∧ (33 : Int) ≤ 55; decide) (by show (0 : Int) ≤ 1 ∧ (1 : Int) ≤ 6; decide) (by omega)) (cwV 1 hts gg_3 rfl rfl rfl (by decide +kernel) ⟨Nat.le_of_ble_eq_true rfl, Nat.le_of_ble_eq_true rfl⟩) ⟨pcW.blind, (wo_recv (WD.tx hT.2.2 (33 : Int).toNat (by omega)).1 hS), (pcW.mk hP hD hS hA hG hT [] rfl (by decide))⟩ rfl rfl hlv.1 rfl (lv_room (Nat.le_of_ble_eq_true rfl)) dX12_isWord_41 ⟨Nat.le_of_ble_eq_true rfl, Nat.le_of_ble_eq_true rfl⟩) hP hD hS hA [] [0, 1] rfl rfl (by decide) (by decide) (fun r5 u5 H locs hw5 hP hD hS => ?_)
        obtain ⟨rfl, hq5_1, hq5_2⟩ := hw5
        have hP : va_P D vwCl [zO mm 12 [vI th, vR m1, vI tp, vI sz_, vI (u1.2.1 1), vI bad, vI bk, vI opn, vI fp, vR m9, vR m10, vR m11, vR m12, vR m13, vR m14, vR m15, vI im, vI nr, vI nl, vR m19, vR m20, vR m21, vI sp_, vR m23, vR m24, vR m25, vR m26, vR m27, vR m28, vI wtc, vI wcl, vI ir, vI ip, vR m33, vI shu, vR m35, vI sfa, vI swr], zI m9 (cy 0) 600 f9] H := hP
        have hD : va_D A [zO mm 12 [vI th, vR m1, vI tp, vI sz_, vI (u1.2.1 1), vI bad, vI bk, vI opn, vI fp, vR m9, vR m10, vR m11, vR m12, vR m13, vR m14, vR m15, vI im, vI nr, vI nl, vR m19, vR m20, vR m21, vI sp_, vR m23, vR m24, vR m25, vR m26, vR m27, vR m28, vI wtc, vI wcl, vI ir, vI ip, vR m33, vI shu, vR m35, vI sfa, vI swr], zI m9 (cy 0) 600 f9] := hD
        have hev5 : (u5.2.1 0) = 104 := by first | (rw [hq5_2]; rfl) | omega
        clear hq5_2
        refine lt_i (y := iI 104) (by rw [show (u5.2.1 0) = 104 by omega]) ?_
        refine ir_eq (tgt := 49) hx hb dX12_isWord_44 (by decide) (by omega) (by show ((-2147483648) : Int) ≤ 104 ∧ (104 : Int) ≤ 2147483647; decide) (fun c_10 => ?_) (fun c_10 => ?_)
        · try clear c_5
          try clear hz_5
          try clear lz_5
          try clear uz_5
          try clear c_6
          try clear hz_6
          try clear lz_6
          try clear uz_6
          try clear c_7
          try clear hz_7
          try clear lz_7
          try clear uz_7
          try clear c_8
          try clear hz_8
          try clear lz_8
          try clear uz_8
          try clear c_9
          try clear hz_9
          try clear lz_9
          try clear uz_9
          try clear c_10
          try clear hz_10
          try clear lz_10
          try clear uz_10
          try clear hq4_1
          try clear hq4_2
          try clear hq5_1
          try clear hq5_2
          try clear hev4
          try clear hev5
          refine lv_iinc (v := iI 2) (lv' := [(2, vI 2), (0, vR mm), (1, .ref (sn sa 33))]) hx hb dX12_isWord_49 hlv (k := 0) rfl (by decide) (by decide) rfl (fun ls hlv => ?_)
          refine lv_goto (tgt := 7) hx hb dX12_isWord_52 (by decide) ?_
          refine lv_iload_n hx hb dX12_isWord_7 rfl (lv_at hlv 0 rfl) ?_
          refine lv_aload_n hx hb dX12_isWord_8 rfl (lv_at hlv 2 rfl) ?_
          refine cj_i (wr := [zO mm 12 [vI th, vR m1, vI tp, vI sz_, vI (u1.2.1 1), vI bad, vI bk, vI opn, vI fp, vR m9, vR m10, vR m11, vR m12, vR m13, vR m14, vR m15, vI im, vI nr, vI nl, vR m19, vR m20, vR m21, vI sp_, vR m23, vR m24, vR m25, vR m26, vR m27, vR m28, vI wtc, vI wcl, vI ir, vI ip, vR m33, vI shu, vR m35, vI sfa, vI swr], zI m9 (cy 0) 600 f9]) (va_runV (As := []) (rest := [vI 2]) ⟨hx, hb, hml, hown, hts⟩ (s_length l hl D cy sa 33 H.size (by show (0 : Int) ≤ 33 ∧ (33 : Int) ≤ 55; decide)) (cwV 0 hts gg_1 rfl rfl rfl (by decide +kernel) ⟨Nat.le_of_ble_eq_true rfl, Nat.le_of_ble_eq_true rfl⟩) ⟨pcW.blind, (wo_recv (WD.tx hT.2.2 (33 : Int).toNat (by omega)).1 hS), (pcW.mk hP hD hS hA hG hT [] rfl (by decide))⟩ rfl rfl hlv.1 rfl (lv_room (Nat.le_of_ble_eq_true rfl)) dX12_isWord_9 ⟨Nat.le_of_ble_eq_true rfl, Nat.le_of_ble_eq_true rfl⟩) hP hD hS hA [] [0, 1] rfl rfl (by decide) (by decide) (fun r6 u6 H locs hw6 hP hD hS => ?_)
          obtain ⟨rfl, hq6_1, hq6_2⟩ := hw6
          have hP : va_P D vwCl [zO mm 12 [vI th, vR m1, vI tp, vI sz_, vI (u1.2.1 1), vI bad, vI bk, vI opn, vI fp, vR m9, vR m10, vR m11, vR m12, vR m13, vR m14, vR m15, vI im, vI nr, vI nl, vR m19, vR m20, vR m21, vI sp_, vR m23, vR m24, vR m25, vR m26, vR m27, vR m28, vI wtc, vI wcl, vI ir, vI ip, vR m33, vI shu, vR m35, vI sfa, vI swr], zI m9 (cy 0) 600 f9] H := hP
          have hD : va_D A [zO mm 12 [vI th, vR m1, vI tp, vI sz_, vI (u1.2.1 1), vI bad, vI bk, vI opn, vI fp, vR m9, vR m10, vR m11, vR m12, vR m13, vR m14, vR m15, vI im, vI nr, vI nl, vR m19, vR m20, vR m21, vI sp_, vR m23, vR m24, vR m25, vR m26, vR m27, vR m28, vI wtc, vI wcl, vI ir, vI ip, vR m33, vI shu, vR m35, vI sfa, vI swr], zI m9 (cy 0) 600 f9] := hD
          have hev6 : (u6.2.1 0) = 7 := by first | (rw [hq6_2]; rfl) | omega
          refine lt_i (y := iI 7) (by rw [show (u6.2.1 0) = 7 by omega]) ?_
          refine ir_ge (tgt := 55) hx hb dX12_isWord_12 (by decide) (by show ((-2147483648) : Int) ≤ 2 ∧ (2 : Int) ≤ 2147483647; decide) (by show ((-2147483648) : Int) ≤ 7 ∧ (7 : Int) ≤ 2147483647; decide) (fun c_11 => by exfalso; omega) (fun c_11 => ?_)
          refine lv_aload_n hx hb dX12_isWord_15 rfl (lv_at hlv 1 rfl) ?_
          refine va_get (D := D) (ci := 12) (v := vI (u1.2.1 1)) (C := RX12) (T := TX12) (N := 38) hx hb hts hi12 hown hG.1 hP 0 rfl rfl 4 (by decide) lf86 (fun _ h9 => h9) rfl dX12_isWord_16 ?_
          refine lv_iload_n hx hb dX12_isWord_19 rfl (lv_at hlv 0 rfl) ?_
          refine lv_iadd hx hb dX12_isWord_20 ?_
          refine lt_e (e0 := (u1.2.1 1) + 2) (Int32.ofInt_add _ _).symm (fun z_12 hz_12 => ?_)
          refine lv_aload_n hx hb dX12_isWord_21 rfl (lv_at hlv 1 rfl) ?_
          refine va_get (D := D) (ci := 12) (v := vI sz_) (C := RX12) (T := TX12) (N := 38) hx hb hts hi12 hown hG.1 hP 0 rfl rfl 3 (by decide) lf89 (fun _ h9 => h9) rfl dX12_isWord_22 ?_
          refine ir_ge (tgt := 47) hx hb dX12_isWord_25 (by decide) (by omega) (by first | exact rgw hr_sz_ (by decide) (by decide) | omega) (fun c_13 => ?_) (fun c_13 => ?_)
          · refine lv_iconst (v := iI 0) hx hb dX12_isWord_47 (by decide) ?_
            refine W.widen (k := 0) (n := 0) (Nat.le_of_ble_eq_true rfl) (Nat.le_of_ble_eq_true rfl) ?_
            exact W.zret (v := iI 0) hx hb hr (by first | rfl | decide) (fun t ht hW => ⟨⟨iI 0, ((fun k => ([] : List Nat).getD k 0), (fun k => ([0, (u1.2.1 1)] : List Int).getD k 0), (fun k => ([] : List (Nat → Int32)).getD k (fun _ => 0))), rfl, ⟨rfl, (by show (0 ≤ (u1.2.1 1) ∧ (u1.2.1 1) ≤ 602); first | exact hq1_1 | omega), (by show (0 ≤ 0 ∧ 0 ≤ 1); show (0 : Int) ≤ 0 ∧ (0 : Int) ≤ 1; decide), (by show (ap ≤ (u1.2.1 1)); first | exact hk4 | exact hk6 | exact hk7 | exact hk8), (by show (ap ≤ sz_ → (u1.2.1 1) ≤ sz_); first | exact hk4 | exact hk6 | exact hk7 | exact hk8), (by show ((u1.2.1 1) < sz_ → nz f9 ((u1.2.1 1)).toNat ≠ 32); first | exact hk4 | exact hk6 | exact hk7 | exact hk8), (by show ((ap < sz_ → nz f9 ap.toNat ≠ 32) → (u1.2.1 1) = ap); first | exact hk4 | exact hk6 | exact hk7 | exact hk8), (by show (0 = 1 → (u1.2.1 1) < sz_ ∧ nz f9 ((u1.2.1 1)).toNat = 115); omega), hq1_9⟩, by rw [ht]; exact hP.sub [0, 1] rfl, hD.sub [0, 1] (by decide) rfl⟩, hS.F ht⟩) hS.2.2 dX12_isWord_48
          · refine lv_aload_n hx hb dX12_isWord_28 rfl (lv_at hlv 1 rfl) ?_
            refine va_get (D := D) (ci := 12) (v := vR m9) (C := RX12) (T := TX12) (N := 38) hx hb hts hi12 hown hG.1 hP 0 rfl rfl 9 (by decide) lf20 (fun _ h9 => h9) rfl dX12_isWord_29 ?_
            refine lv_aload_n hx hb dX12_isWord_32 rfl (lv_at hlv 1 rfl) ?_
            refine va_get (D := D) (ci := 12) (v := vI (u1.2.1 1)) (C := RX12) (T := TX12) (N := 38) hx hb hts hi12 hown hG.1 hP 0 rfl rfl 4 (by decide) lf86 (fun _ h9 => h9) rfl dX12_isWord_33 ?_
            refine lv_iload_n hx hb dX12_isWord_36 rfl (lv_at hlv 0 rfl) ?_
            refine lv_iadd hx hb dX12_isWord_37 ?_
            refine lt_e (e0 := (u1.2.1 1) + 2) (Int32.ofInt_add _ _).symm (fun z_14 hz_14 => ?_)
            refine va_iald hx hb hG.1 hP 1 0 rfl rfl (iI_in (by omega) (by decide)) dX12_isWord_38 ?_
            refine lt_nz (i := z_14) (by omega) (fun z_15 hz_15 lz_15 uz_15 => ?_)
            have hbz_15_9 := inv_nz hq1_9 (k := z_14.toNat) (by omega)
            refine lv_aload_n hx hb dX12_isWord_39 rfl (lv_at hlv 2 rfl) ?_
            refine lv_iload_n hx hb dX12_isWord_40 rfl (lv_at hlv 0 rfl) ?_
            refine cj_i (wr := [zO mm 12 [vI th, vR m1, vI tp, vI sz_, vI (u1.2.1 1), vI bad, vI bk, vI opn, vI fp, vR m9, vR m10, vR m11, vR m12, vR m13, vR m14, vR m15, vI im, vI nr, vI nl, vR m19, vR m20, vR m21, vI sp_, vR m23, vR m24, vR m25, vR m26, vR m27, vR m28, vI wtc, vI wcl, vI ir, vI ip, vR m33, vI shu, vR m35, vI sfa, vI swr], zI m9 (cy 0) 600 f9]) (va_runV (As := [vI 2]) (rest := [vI z_15]) ⟨hx, hb, hml, hown, hts⟩ (s_charAt l hl D cy sa 33 2 H.size (by show (0 : Int) ≤ 33 ∧ (33 : Int) ≤ 55; decide) (by show (0 : Int) ≤ 2 ∧ (2 : Int) ≤ 6; decide) (by omega)) (cwV 1 hts gg_3 rfl rfl rfl (by decide +kernel) ⟨Nat.le_of_ble_eq_true rfl, Nat.le_of_ble_eq_true rfl⟩) ⟨pcW.blind, (wo_recv (WD.tx hT.2.2 (33 : Int).toNat (by omega)).1 hS), (pcW.mk hP hD hS hA hG hT [] rfl (by decide))⟩ rfl rfl hlv.1 rfl (lv_room (Nat.le_of_ble_eq_true rfl)) dX12_isWord_41 ⟨Nat.le_of_ble_eq_true rfl, Nat.le_of_ble_eq_true rfl⟩) hP hD hS hA [] [0, 1] rfl rfl (by decide) (by decide) (fun r7 u7 H locs hw7 hP hD hS => ?_)
            obtain ⟨rfl, hq7_1, hq7_2⟩ := hw7
            have hP : va_P D vwCl [zO mm 12 [vI th, vR m1, vI tp, vI sz_, vI (u1.2.1 1), vI bad, vI bk, vI opn, vI fp, vR m9, vR m10, vR m11, vR m12, vR m13, vR m14, vR m15, vI im, vI nr, vI nl, vR m19, vR m20, vR m21, vI sp_, vR m23, vR m24, vR m25, vR m26, vR m27, vR m28, vI wtc, vI wcl, vI ir, vI ip, vR m33, vI shu, vR m35, vI sfa, vI swr], zI m9 (cy 0) 600 f9] H := hP
            have hD : va_D A [zO mm 12 [vI th, vR m1, vI tp, vI sz_, vI (u1.2.1 1), vI bad, vI bk, vI opn, vI fp, vR m9, vR m10, vR m11, vR m12, vR m13, vR m14, vR m15, vI im, vI nr, vI nl, vR m19, vR m20, vR m21, vI sp_, vR m23, vR m24, vR m25, vR m26, vR m27, vR m28, vI wtc, vI wcl, vI ir, vI ip, vR m33, vI shu, vR m35, vI sfa, vI swr], zI m9 (cy 0) 600 f9] := hD
            have hev7 : (u7.2.1 0) = 101 := by first | (rw [hq7_2]; rfl) | omega
            clear hq7_2
            refine lt_i (y := iI 101) (by rw [show (u7.2.1 0) = 101 by omega]) ?_
            refine ir_eq (tgt := 49) hx hb dX12_isWord_44 (by decide) (by omega) (by show ((-2147483648) : Int) ≤ 101 ∧ (101 : Int) ≤ 2147483647; decide) (fun c_16 => ?_) (fun c_16 => ?_)
            · try clear c_11
              try clear hz_11
              try clear lz_11
              try clear uz_11
              try clear c_12
              try clear hz_12
              try clear lz_12
              try clear uz_12
              try clear c_13
              try clear hz_13
              try clear lz_13
              try clear uz_13
              try clear c_14
              try clear hz_14
              try clear lz_14
              try clear uz_14
              try clear c_15
              try clear hz_15
              try clear lz_15
              try clear uz_15
              try clear c_16
              try clear hz_16
              try clear lz_16
              try clear uz_16
              try clear hq6_1
              try clear hq6_2
              try clear hq7_1
              try clear hq7_2
              try clear hev6
              try clear hev7
              refine lv_iinc (v := iI 3) (lv' := [(2, vI 3), (0, vR mm), (1, .ref (sn sa 33))]) hx hb dX12_isWord_49 hlv (k := 0) rfl (by decide) (by decide) rfl (fun ls hlv => ?_)
              refine lv_goto (tgt := 7) hx hb dX12_isWord_52 (by decide) ?_
              refine lv_iload_n hx hb dX12_isWord_7 rfl (lv_at hlv 0 rfl) ?_
              refine lv_aload_n hx hb dX12_isWord_8 rfl (lv_at hlv 2 rfl) ?_
              refine cj_i (wr := [zO mm 12 [vI th, vR m1, vI tp, vI sz_, vI (u1.2.1 1), vI bad, vI bk, vI opn, vI fp, vR m9, vR m10, vR m11, vR m12, vR m13, vR m14, vR m15, vI im, vI nr, vI nl, vR m19, vR m20, vR m21, vI sp_, vR m23, vR m24, vR m25, vR m26, vR m27, vR m28, vI wtc, vI wcl, vI ir, vI ip, vR m33, vI shu, vR m35, vI sfa, vI swr], zI m9 (cy 0) 600 f9]) (va_runV (As := []) (rest := [vI 3]) ⟨hx, hb, hml, hown, hts⟩ (s_length l hl D cy sa 33 H.size (by show (0 : Int) ≤ 33 ∧ (33 : Int) ≤ 55; decide)) (cwV 0 hts gg_1 rfl rfl rfl (by decide +kernel) ⟨Nat.le_of_ble_eq_true rfl, Nat.le_of_ble_eq_true rfl⟩) ⟨pcW.blind, (wo_recv (WD.tx hT.2.2 (33 : Int).toNat (by omega)).1 hS), (pcW.mk hP hD hS hA hG hT [] rfl (by decide))⟩ rfl rfl hlv.1 rfl (lv_room (Nat.le_of_ble_eq_true rfl)) dX12_isWord_9 ⟨Nat.le_of_ble_eq_true rfl, Nat.le_of_ble_eq_true rfl⟩) hP hD hS hA [] [0, 1] rfl rfl (by decide) (by decide) (fun r8 u8 H locs hw8 hP hD hS => ?_)
              obtain ⟨rfl, hq8_1, hq8_2⟩ := hw8
              have hP : va_P D vwCl [zO mm 12 [vI th, vR m1, vI tp, vI sz_, vI (u1.2.1 1), vI bad, vI bk, vI opn, vI fp, vR m9, vR m10, vR m11, vR m12, vR m13, vR m14, vR m15, vI im, vI nr, vI nl, vR m19, vR m20, vR m21, vI sp_, vR m23, vR m24, vR m25, vR m26, vR m27, vR m28, vI wtc, vI wcl, vI ir, vI ip, vR m33, vI shu, vR m35, vI sfa, vI swr], zI m9 (cy 0) 600 f9] H := hP
              have hD : va_D A [zO mm 12 [vI th, vR m1, vI tp, vI sz_, vI (u1.2.1 1), vI bad, vI bk, vI opn, vI fp, vR m9, vR m10, vR m11, vR m12, vR m13, vR m14, vR m15, vI im, vI nr, vI nl, vR m19, vR m20, vR m21, vI sp_, vR m23, vR m24, vR m25, vR m26, vR m27, vR m28, vI wtc, vI wcl, vI ir, vI ip, vR m33, vI shu, vR m35, vI sfa, vI swr], zI m9 (cy 0) 600 f9] := hD
              have hev8 : (u8.2.1 0) = 7 := by first | (rw [hq8_2]; rfl) | omega
              refine lt_i (y := iI 7) (by rw [show (u8.2.1 0) = 7 by omega]) ?_
              refine ir_ge (tgt := 55) hx hb dX12_isWord_12 (by decide) (by show ((-2147483648) : Int) ≤ 3 ∧ (3 : Int) ≤ 2147483647; decide) (by show ((-2147483648) : Int) ≤ 7 ∧ (7 : Int) ≤ 2147483647; decide) (fun c_17 => by exfalso; omega) (fun c_17 => ?_)
              refine lv_aload_n hx hb dX12_isWord_15 rfl (lv_at hlv 1 rfl) ?_
              refine va_get (D := D) (ci := 12) (v := vI (u1.2.1 1)) (C := RX12) (T := TX12) (N := 38) hx hb hts hi12 hown hG.1 hP 0 rfl rfl 4 (by decide) lf86 (fun _ h9 => h9) rfl dX12_isWord_16 ?_
              refine lv_iload_n hx hb dX12_isWord_19 rfl (lv_at hlv 0 rfl) ?_
              refine lv_iadd hx hb dX12_isWord_20 ?_
              refine lt_e (e0 := (u1.2.1 1) + 3) (Int32.ofInt_add _ _).symm (fun z_18 hz_18 => ?_)
              refine lv_aload_n hx hb dX12_isWord_21 rfl (lv_at hlv 1 rfl) ?_
              refine va_get (D := D) (ci := 12) (v := vI sz_) (C := RX12) (T := TX12) (N := 38) hx hb hts hi12 hown hG.1 hP 0 rfl rfl 3 (by decide) lf89 (fun _ h9 => h9) rfl dX12_isWord_22 ?_
              refine ir_ge (tgt := 47) hx hb dX12_isWord_25 (by decide) (by omega) (by first | exact rgw hr_sz_ (by decide) (by decide) | omega) (fun c_19 => ?_) (fun c_19 => ?_)
              · refine lv_iconst (v := iI 0) hx hb dX12_isWord_47 (by decide) ?_
                refine W.widen (k := 0) (n := 0) (Nat.le_of_ble_eq_true rfl) (Nat.le_of_ble_eq_true rfl) ?_
                exact W.zret (v := iI 0) hx hb hr (by first | rfl | decide) (fun t ht hW => ⟨⟨iI 0, ((fun k => ([] : List Nat).getD k 0), (fun k => ([0, (u1.2.1 1)] : List Int).getD k 0), (fun k => ([] : List (Nat → Int32)).getD k (fun _ => 0))), rfl, ⟨rfl, (by show (0 ≤ (u1.2.1 1) ∧ (u1.2.1 1) ≤ 602); first | exact hq1_1 | omega), (by show (0 ≤ 0 ∧ 0 ≤ 1); show (0 : Int) ≤ 0 ∧ (0 : Int) ≤ 1; decide), (by show (ap ≤ (u1.2.1 1)); first | exact hk4 | exact hk6 | exact hk7 | exact hk8), (by show (ap ≤ sz_ → (u1.2.1 1) ≤ sz_); first | exact hk4 | exact hk6 | exact hk7 | exact hk8), (by show ((u1.2.1 1) < sz_ → nz f9 ((u1.2.1 1)).toNat ≠ 32); first | exact hk4 | exact hk6 | exact hk7 | exact hk8), (by show ((ap < sz_ → nz f9 ap.toNat ≠ 32) → (u1.2.1 1) = ap); first | exact hk4 | exact hk6 | exact hk7 | exact hk8), (by show (0 = 1 → (u1.2.1 1) < sz_ ∧ nz f9 ((u1.2.1 1)).toNat = 115); omega), hq1_9⟩, by rw [ht]; exact hP.sub [0, 1] rfl, hD.sub [0, 1] (by decide) rfl⟩, hS.F ht⟩) hS.2.2 dX12_isWord_48
              · refine lv_aload_n hx hb dX12_isWord_28 rfl (lv_at hlv 1 rfl) ?_
                refine va_get (D := D) (ci := 12) (v := vR m9) (C := RX12) (T := TX12) (N := 38) hx hb hts hi12 hown hG.1 hP 0 rfl rfl 9 (by decide) lf20 (fun _ h9 => h9) rfl dX12_isWord_29 ?_
                refine lv_aload_n hx hb dX12_isWord_32 rfl (lv_at hlv 1 rfl) ?_
                refine va_get (D := D) (ci := 12) (v := vI (u1.2.1 1)) (C := RX12) (T := TX12) (N := 38) hx hb hts hi12 hown hG.1 hP 0 rfl rfl 4 (by decide) lf86 (fun _ h9 => h9) rfl dX12_isWord_33 ?_
                refine lv_iload_n hx hb dX12_isWord_36 rfl (lv_at hlv 0 rfl) ?_
                refine lv_iadd hx hb dX12_isWord_37 ?_
                refine lt_e (e0 := (u1.2.1 1) + 3) (Int32.ofInt_add _ _).symm (fun z_20 hz_20 => ?_)
                refine va_iald hx hb hG.1 hP 1 0 rfl rfl (iI_in (by omega) (by decide)) dX12_isWord_38 ?_
                refine lt_nz (i := z_20) (by omega) (fun z_21 hz_21 lz_21 uz_21 => ?_)
                have hbz_21_9 := inv_nz hq1_9 (k := z_20.toNat) (by omega)
                refine lv_aload_n hx hb dX12_isWord_39 rfl (lv_at hlv 2 rfl) ?_
                refine lv_iload_n hx hb dX12_isWord_40 rfl (lv_at hlv 0 rfl) ?_
                refine cj_i (wr := [zO mm 12 [vI th, vR m1, vI tp, vI sz_, vI (u1.2.1 1), vI bad, vI bk, vI opn, vI fp, vR m9, vR m10, vR m11, vR m12, vR m13, vR m14, vR m15, vI im, vI nr, vI nl, vR m19, vR m20, vR m21, vI sp_, vR m23, vR m24, vR m25, vR m26, vR m27, vR m28, vI wtc, vI wcl, vI ir, vI ip, vR m33, vI shu, vR m35, vI sfa, vI swr], zI m9 (cy 0) 600 f9]) (va_runV (As := [vI 3]) (rest := [vI z_21]) ⟨hx, hb, hml, hown, hts⟩ (s_charAt l hl D cy sa 33 3 H.size (by show (0 : Int) ≤ 33 ∧ (33 : Int) ≤ 55; decide) (by show (0 : Int) ≤ 3 ∧ (3 : Int) ≤ 6; decide) (by omega)) (cwV 1 hts gg_3 rfl rfl rfl (by decide +kernel) ⟨Nat.le_of_ble_eq_true rfl, Nat.le_of_ble_eq_true rfl⟩) ⟨pcW.blind, (wo_recv (WD.tx hT.2.2 (33 : Int).toNat (by omega)).1 hS), (pcW.mk hP hD hS hA hG hT [] rfl (by decide))⟩ rfl rfl hlv.1 rfl (lv_room (Nat.le_of_ble_eq_true rfl)) dX12_isWord_41 ⟨Nat.le_of_ble_eq_true rfl, Nat.le_of_ble_eq_true rfl⟩) hP hD hS hA [] [0, 1] rfl rfl (by decide) (by decide) (fun r9 u9 H locs hw9 hP hD hS => ?_)
                obtain ⟨rfl, hq9_1, hq9_2⟩ := hw9
                have hP : va_P D vwCl [zO mm 12 [vI th, vR m1, vI tp, vI sz_, vI (u1.2.1 1), vI bad, vI bk, vI opn, vI fp, vR m9, vR m10, vR m11, vR m12, vR m13, vR m14, vR m15, vI im, vI nr, vI nl, vR m19, vR m20, vR m21, vI sp_, vR m23, vR m24, vR m25, vR m26, vR m27, vR m28, vI wtc, vI wcl, vI ir, vI ip, vR m33, vI shu, vR m35, vI sfa, vI swr], zI m9 (cy 0) 600 f9] H := hP
                have hD : va_D A [zO mm 12 [vI th, vR m1, vI tp, vI sz_, vI (u1.2.1 1), vI bad, vI bk, vI opn, vI fp, vR m9, vR m10, vR m11, vR m12, vR m13, vR m14, vR m15, vI im, vI nr, vI nl, vR m19, vR m20, vR m21, vI sp_, vR m23, vR m24, vR m25, vR m26, vR m27, vR m28, vI wtc, vI wcl, vI ir, vI ip, vR m33, vI shu, vR m35, vI sfa, vI swr], zI m9 (cy 0) 600 f9] := hD
                have hev9 : (u9.2.1 0) = 108 := by first | (rw [hq9_2]; rfl) | omega
                clear hq9_2
                refine lt_i (y := iI 108) (by rw [show (u9.2.1 0) = 108 by omega]) ?_
                refine ir_eq (tgt := 49) hx hb dX12_isWord_44 (by decide) (by omega) (by show ((-2147483648) : Int) ≤ 108 ∧ (108 : Int) ≤ 2147483647; decide) (fun c_22 => ?_) (fun c_22 => ?_)
                · try clear c_17
                  try clear hz_17
                  try clear lz_17
                  try clear uz_17
                  try clear c_18
                  try clear hz_18
                  try clear lz_18
                  try clear uz_18
                  try clear c_19
                  try clear hz_19
                  try clear lz_19
                  try clear uz_19
                  try clear c_20
                  try clear hz_20
                  try clear lz_20
                  try clear uz_20
                  try clear c_21
                  try clear hz_21
                  try clear lz_21
                  try clear uz_21
                  try clear c_22
                  try clear hz_22
                  try clear lz_22
                  try clear uz_22
                  try clear hq8_1
                  try clear hq8_2
                  try clear hq9_1
                  try clear hq9_2
                  try clear hev8
                  try clear hev9
                  refine lv_iinc (v := iI 4) (lv' := [(2, vI 4), (0, vR mm), (1, .ref (sn sa 33))]) hx hb dX12_isWord_49 hlv (k := 0) rfl (by decide) (by decide) rfl (fun ls hlv => ?_)
                  refine lv_goto (tgt := 7) hx hb dX12_isWord_52 (by decide) ?_
                  refine lv_iload_n hx hb dX12_isWord_7 rfl (lv_at hlv 0 rfl) ?_
                  refine lv_aload_n hx hb dX12_isWord_8 rfl (lv_at hlv 2 rfl) ?_
                  refine cj_i (wr := [zO mm 12 [vI th, vR m1, vI tp, vI sz_, vI (u1.2.1 1), vI bad, vI bk, vI opn, vI fp, vR m9, vR m10, vR m11, vR m12, vR m13, vR m14, vR m15, vI im, vI nr, vI nl, vR m19, vR m20, vR m21, vI sp_, vR m23, vR m24, vR m25, vR m26, vR m27, vR m28, vI wtc, vI wcl, vI ir, vI ip, vR m33, vI shu, vR m35, vI sfa, vI swr], zI m9 (cy 0) 600 f9]) (va_runV (As := []) (rest := [vI 4]) ⟨hx, hb, hml, hown, hts⟩ (s_length l hl D cy sa 33 H.size (by show (0 : Int) ≤ 33 ∧ (33 : Int) ≤ 55; decide)) (cwV 0 hts gg_1 rfl rfl rfl (by decide +kernel) ⟨Nat.le_of_ble_eq_true rfl, Nat.le_of_ble_eq_true rfl⟩) ⟨pcW.blind, (wo_recv (WD.tx hT.2.2 (33 : Int).toNat (by omega)).1 hS), (pcW.mk hP hD hS hA hG hT [] rfl (by decide))⟩ rfl rfl hlv.1 rfl (lv_room (Nat.le_of_ble_eq_true rfl)) dX12_isWord_9 ⟨Nat.le_of_ble_eq_true rfl, Nat.le_of_ble_eq_true rfl⟩) hP hD hS hA [] [0, 1] rfl rfl (by decide) (by decide) (fun r10 u10 H locs hw10 hP hD hS => ?_)
                  obtain ⟨rfl, hq10_1, hq10_2⟩ := hw10
                  have hP : va_P D vwCl [zO mm 12 [vI th, vR m1, vI tp, vI sz_, vI (u1.2.1 1), vI bad, vI bk, vI opn, vI fp, vR m9, vR m10, vR m11, vR m12, vR m13, vR m14, vR m15, vI im, vI nr, vI nl, vR m19, vR m20, vR m21, vI sp_, vR m23, vR m24, vR m25, vR m26, vR m27, vR m28, vI wtc, vI wcl, vI ir, vI ip, vR m33, vI shu, vR m35, vI sfa, vI swr], zI m9 (cy 0) 600 f9] H := hP
                  have hD : va_D A [zO mm 12 [vI th, vR m1, vI tp, vI sz_, vI (u1.2.1 1), vI bad, vI bk, vI opn, vI fp, vR m9, vR m10, vR m11, vR m12, vR m13, vR m14, vR m15, vI im, vI nr, vI nl, vR m19, vR m20, vR m21, vI sp_, vR m23, vR m24, vR m25, vR m26, vR m27, vR m28, vI wtc, vI wcl, vI ir, vI ip, vR m33, vI shu, vR m35, vI sfa, vI swr], zI m9 (cy 0) 600 f9] := hD
                  have hev10 : (u10.2.1 0) = 7 := by first | (rw [hq10_2]; rfl) | omega
                  refine lt_i (y := iI 7) (by rw [show (u10.2.1 0) = 7 by omega]) ?_
                  refine ir_ge (tgt := 55) hx hb dX12_isWord_12 (by decide) (by show ((-2147483648) : Int) ≤ 4 ∧ (4 : Int) ≤ 2147483647; decide) (by show ((-2147483648) : Int) ≤ 7 ∧ (7 : Int) ≤ 2147483647; decide) (fun c_23 => by exfalso; omega) (fun c_23 => ?_)
                  refine lv_aload_n hx hb dX12_isWord_15 rfl (lv_at hlv 1 rfl) ?_
                  refine va_get (D := D) (ci := 12) (v := vI (u1.2.1 1)) (C := RX12) (T := TX12) (N := 38) hx hb hts hi12 hown hG.1 hP 0 rfl rfl 4 (by decide) lf86 (fun _ h9 => h9) rfl dX12_isWord_16 ?_
                  refine lv_iload_n hx hb dX12_isWord_19 rfl (lv_at hlv 0 rfl) ?_
                  refine lv_iadd hx hb dX12_isWord_20 ?_
                  refine lt_e (e0 := (u1.2.1 1) + 4) (Int32.ofInt_add _ _).symm (fun z_24 hz_24 => ?_)
                  refine lv_aload_n hx hb dX12_isWord_21 rfl (lv_at hlv 1 rfl) ?_
                  refine va_get (D := D) (ci := 12) (v := vI sz_) (C := RX12) (T := TX12) (N := 38) hx hb hts hi12 hown hG.1 hP 0 rfl rfl 3 (by decide) lf89 (fun _ h9 => h9) rfl dX12_isWord_22 ?_
                  refine ir_ge (tgt := 47) hx hb dX12_isWord_25 (by decide) (by omega) (by first | exact rgw hr_sz_ (by decide) (by decide) | omega) (fun c_25 => ?_) (fun c_25 => ?_)
                  · refine lv_iconst (v := iI 0) hx hb dX12_isWord_47 (by decide) ?_
                    refine W.widen (k := 0) (n := 0) (Nat.le_of_ble_eq_true rfl) (Nat.le_of_ble_eq_true rfl) ?_
                    exact W.zret (v := iI 0) hx hb hr (by first | rfl | decide) (fun t ht hW => ⟨⟨iI 0, ((fun k => ([] : List Nat).getD k 0), (fun k => ([0, (u1.2.1 1)] : List Int).getD k 0), (fun k => ([] : List (Nat → Int32)).getD k (fun _ => 0))), rfl, ⟨rfl, (by show (0 ≤ (u1.2.1 1) ∧ (u1.2.1 1) ≤ 602); first | exact hq1_1 | omega), (by show (0 ≤ 0 ∧ 0 ≤ 1); show (0 : Int) ≤ 0 ∧ (0 : Int) ≤ 1; decide), (by show (ap ≤ (u1.2.1 1)); first | exact hk4 | exact hk6 | exact hk7 | exact hk8), (by show (ap ≤ sz_ → (u1.2.1 1) ≤ sz_); first | exact hk4 | exact hk6 | exact hk7 | exact hk8), (by show ((u1.2.1 1) < sz_ → nz f9 ((u1.2.1 1)).toNat ≠ 32); first | exact hk4 | exact hk6 | exact hk7 | exact hk8), (by show ((ap < sz_ → nz f9 ap.toNat ≠ 32) → (u1.2.1 1) = ap); first | exact hk4 | exact hk6 | exact hk7 | exact hk8), (by show (0 = 1 → (u1.2.1 1) < sz_ ∧ nz f9 ((u1.2.1 1)).toNat = 115); omega), hq1_9⟩, by rw [ht]; exact hP.sub [0, 1] rfl, hD.sub [0, 1] (by decide) rfl⟩, hS.F ht⟩) hS.2.2 dX12_isWord_48
                  · refine lv_aload_n hx hb dX12_isWord_28 rfl (lv_at hlv 1 rfl) ?_
                    refine va_get (D := D) (ci := 12) (v := vR m9) (C := RX12) (T := TX12) (N := 38) hx hb hts hi12 hown hG.1 hP 0 rfl rfl 9 (by decide) lf20 (fun _ h9 => h9) rfl dX12_isWord_29 ?_
                    refine lv_aload_n hx hb dX12_isWord_32 rfl (lv_at hlv 1 rfl) ?_
                    refine va_get (D := D) (ci := 12) (v := vI (u1.2.1 1)) (C := RX12) (T := TX12) (N := 38) hx hb hts hi12 hown hG.1 hP 0 rfl rfl 4 (by decide) lf86 (fun _ h9 => h9) rfl dX12_isWord_33 ?_
                    refine lv_iload_n hx hb dX12_isWord_36 rfl (lv_at hlv 0 rfl) ?_
                    refine lv_iadd hx hb dX12_isWord_37 ?_
                    refine lt_e (e0 := (u1.2.1 1) + 4) (Int32.ofInt_add _ _).symm (fun z_26 hz_26 => ?_)
                    refine va_iald hx hb hG.1 hP 1 0 rfl rfl (iI_in (by omega) (by decide)) dX12_isWord_38 ?_
                    refine lt_nz (i := z_26) (by omega) (fun z_27 hz_27 lz_27 uz_27 => ?_)
                    have hbz_27_9 := inv_nz hq1_9 (k := z_26.toNat) (by omega)
                    refine lv_aload_n hx hb dX12_isWord_39 rfl (lv_at hlv 2 rfl) ?_
                    refine lv_iload_n hx hb dX12_isWord_40 rfl (lv_at hlv 0 rfl) ?_
                    refine cj_i (wr := [zO mm 12 [vI th, vR m1, vI tp, vI sz_, vI (u1.2.1 1), vI bad, vI bk, vI opn, vI fp, vR m9, vR m10, vR m11, vR m12, vR m13, vR m14, vR m15, vI im, vI nr, vI nl, vR m19, vR m20, vR m21, vI sp_, vR m23, vR m24, vR m25, vR m26, vR m27, vR m28, vI wtc, vI wcl, vI ir, vI ip, vR m33, vI shu, vR m35, vI sfa, vI swr], zI m9 (cy 0) 600 f9]) (va_runV (As := [vI 4]) (rest := [vI z_27]) ⟨hx, hb, hml, hown, hts⟩ (s_charAt l hl D cy sa 33 4 H.size (by show (0 : Int) ≤ 33 ∧ (33 : Int) ≤ 55; decide) (by show (0 : Int) ≤ 4 ∧ (4 : Int) ≤ 6; decide) (by omega)) (cwV 1 hts gg_3 rfl rfl rfl (by decide +kernel) ⟨Nat.le_of_ble_eq_true rfl, Nat.le_of_ble_eq_true rfl⟩) ⟨pcW.blind, (wo_recv (WD.tx hT.2.2 (33 : Int).toNat (by omega)).1 hS), (pcW.mk hP hD hS hA hG hT [] rfl (by decide))⟩ rfl rfl hlv.1 rfl (lv_room (Nat.le_of_ble_eq_true rfl)) dX12_isWord_41 ⟨Nat.le_of_ble_eq_true rfl, Nat.le_of_ble_eq_true rfl⟩) hP hD hS hA [] [0, 1] rfl rfl (by decide) (by decide) (fun r11 u11 H locs hw11 hP hD hS => ?_)
                    obtain ⟨rfl, hq11_1, hq11_2⟩ := hw11
                    have hP : va_P D vwCl [zO mm 12 [vI th, vR m1, vI tp, vI sz_, vI (u1.2.1 1), vI bad, vI bk, vI opn, vI fp, vR m9, vR m10, vR m11, vR m12, vR m13, vR m14, vR m15, vI im, vI nr, vI nl, vR m19, vR m20, vR m21, vI sp_, vR m23, vR m24, vR m25, vR m26, vR m27, vR m28, vI wtc, vI wcl, vI ir, vI ip, vR m33, vI shu, vR m35, vI sfa, vI swr], zI m9 (cy 0) 600 f9] H := hP
                    have hD : va_D A [zO mm 12 [vI th, vR m1, vI tp, vI sz_, vI (u1.2.1 1), vI bad, vI bk, vI opn, vI fp, vR m9, vR m10, vR m11, vR m12, vR m13, vR m14, vR m15, vI im, vI nr, vI nl, vR m19, vR m20, vR m21, vI sp_, vR m23, vR m24, vR m25, vR m26, vR m27, vR m28, vI wtc, vI wcl, vI ir, vI ip, vR m33, vI shu, vR m35, vI sfa, vI swr], zI m9 (cy 0) 600 f9] := hD
                    have hev11 : (u11.2.1 0) = 116 := by first | (rw [hq11_2]; rfl) | omega
                    clear hq11_2
                    refine lt_i (y := iI 116) (by rw [show (u11.2.1 0) = 116 by omega]) ?_
                    refine ir_eq (tgt := 49) hx hb dX12_isWord_44 (by decide) (by omega) (by show ((-2147483648) : Int) ≤ 116 ∧ (116 : Int) ≤ 2147483647; decide) (fun c_28 => ?_) (fun c_28 => ?_)
                    · try clear c_23
                      try clear hz_23
                      try clear lz_23
                      try clear uz_23
                      try clear c_24
                      try clear hz_24
                      try clear lz_24
                      try clear uz_24
                      try clear c_25
                      try clear hz_25
                      try clear lz_25
                      try clear uz_25
                      try clear c_26
                      try clear hz_26
                      try clear lz_26
                      try clear uz_26
                      try clear c_27
                      try clear hz_27
                      try clear lz_27
                      try clear uz_27
                      try clear c_28
                      try clear hz_28
                      try clear lz_28
                      try clear uz_28
                      try clear hq10_1
                      try clear hq10_2
                      try clear hq11_1
                      try clear hq11_2
                      try clear hev10
                      try clear hev11
                      refine lv_iinc (v := iI 5) (lv' := [(2, vI 5), (0, vR mm), (1, .ref (sn sa 33))]) hx hb dX12_isWord_49 hlv (k := 0) rfl (by decide) (by decide) rfl (fun ls hlv => ?_)
                      refine lv_goto (tgt := 7) hx hb dX12_isWord_52 (by decide) ?_
                      refine lv_iload_n hx hb dX12_isWord_7 rfl (lv_at hlv 0 rfl) ?_
                      refine lv_aload_n hx hb dX12_isWord_8 rfl (lv_at hlv 2 rfl) ?_
                      refine cj_i (wr := [zO mm 12 [vI th, vR m1, vI tp, vI sz_, vI (u1.2.1 1), vI bad, vI bk, vI opn, vI fp, vR m9, vR m10, vR m11, vR m12, vR m13, vR m14, vR m15, vI im, vI nr, vI nl, vR m19, vR m20, vR m21, vI sp_, vR m23, vR m24, vR m25, vR m26, vR m27, vR m28, vI wtc, vI wcl, vI ir, vI ip, vR m33, vI shu, vR m35, vI sfa, vI swr], zI m9 (cy 0) 600 f9]) (va_runV (As := []) (rest := [vI 5]) ⟨hx, hb, hml, hown, hts⟩ (s_length l hl D cy sa 33 H.size (by show (0 : Int) ≤ 33 ∧ (33 : Int) ≤ 55; decide)) (cwV 0 hts gg_1 rfl rfl rfl (by decide +kernel) ⟨Nat.le_of_ble_eq_true rfl, Nat.le_of_ble_eq_true rfl⟩) ⟨pcW.blind, (wo_recv (WD.tx hT.2.2 (33 : Int).toNat (by omega)).1 hS), (pcW.mk hP hD hS hA hG hT [] rfl (by decide))⟩ rfl rfl hlv.1 rfl (lv_room (Nat.le_of_ble_eq_true rfl)) dX12_isWord_9 ⟨Nat.le_of_ble_eq_true rfl, Nat.le_of_ble_eq_true rfl⟩) hP hD hS hA [] [0, 1] rfl rfl (by decide) (by decide) (fun r12 u12 H locs hw12 hP hD hS => ?_)
                      obtain ⟨rfl, hq12_1, hq12_2⟩ := hw12
                      have hP : va_P D vwCl [zO mm 12 [vI th, vR m1, vI tp, vI sz_, vI (u1.2.1 1), vI bad, vI bk, vI opn, vI fp, vR m9, vR m10, vR m11, vR m12, vR m13, vR m14, vR m15, vI im, vI nr, vI nl, vR m19, vR m20, vR m21, vI sp_, vR m23, vR m24, vR m25, vR m26, vR m27, vR m28, vI wtc, vI wcl, vI ir, vI ip, vR m33, vI shu, vR m35, vI sfa, vI swr], zI m9 (cy 0) 600 f9] H := hP
                      have hD : va_D A [zO mm 12 [vI th, vR m1, vI tp, vI sz_, vI (u1.2.1 1), vI bad, vI bk, vI opn, vI fp, vR m9, vR m10, vR m11, vR m12, vR m13, vR m14, vR m15, vI im, vI nr, vI nl, vR m19, vR m20, vR m21, vI sp_, vR m23, vR m24, vR m25, vR m26, vR m27, vR m28, vI wtc, vI wcl, vI ir, vI ip, vR m33, vI shu, vR m35, vI sfa, vI swr], zI m9 (cy 0) 600 f9] := hD
                      have hev12 : (u12.2.1 0) = 7 := by first | (rw [hq12_2]; rfl) | omega
                      refine lt_i (y := iI 7) (by rw [show (u12.2.1 0) = 7 by omega]) ?_
                      refine ir_ge (tgt := 55) hx hb dX12_isWord_12 (by decide) (by show ((-2147483648) : Int) ≤ 5 ∧ (5 : Int) ≤ 2147483647; decide) (by show ((-2147483648) : Int) ≤ 7 ∧ (7 : Int) ≤ 2147483647; decide) (fun c_29 => by exfalso; omega) (fun c_29 => ?_)
                      refine lv_aload_n hx hb dX12_isWord_15 rfl (lv_at hlv 1 rfl) ?_
                      refine va_get (D := D) (ci := 12) (v := vI (u1.2.1 1)) (C := RX12) (T := TX12) (N := 38) hx hb hts hi12 hown hG.1 hP 0 rfl rfl 4 (by decide) lf86 (fun _ h9 => h9) rfl dX12_isWord_16 ?_
                      refine lv_iload_n hx hb dX12_isWord_19 rfl (lv_at hlv 0 rfl) ?_
                      refine lv_iadd hx hb dX12_isWord_20 ?_
                      refine lt_e (e0 := (u1.2.1 1) + 5) (Int32.ofInt_add _ _).symm (fun z_30 hz_30 => ?_)
                      refine lv_aload_n hx hb dX12_isWord_21 rfl (lv_at hlv 1 rfl) ?_
                      refine va_get (D := D) (ci := 12) (v := vI sz_) (C := RX12) (T := TX12) (N := 38) hx hb hts hi12 hown hG.1 hP 0 rfl rfl 3 (by decide) lf89 (fun _ h9 => h9) rfl dX12_isWord_22 ?_
                      refine ir_ge (tgt := 47) hx hb dX12_isWord_25 (by decide) (by omega) (by first | exact rgw hr_sz_ (by decide) (by decide) | omega) (fun c_31 => ?_) (fun c_31 => ?_)
                      · refine lv_iconst (v := iI 0) hx hb dX12_isWord_47 (by decide) ?_
                        refine W.widen (k := 0) (n := 0) (Nat.le_of_ble_eq_true rfl) (Nat.le_of_ble_eq_true rfl) ?_
                        exact W.zret (v := iI 0) hx hb hr (by first | rfl | decide) (fun t ht hW => ⟨⟨iI 0, ((fun k => ([] : List Nat).getD k 0), (fun k => ([0, (u1.2.1 1)] : List Int).getD k 0), (fun k => ([] : List (Nat → Int32)).getD k (fun _ => 0))), rfl, ⟨rfl, (by show (0 ≤ (u1.2.1 1) ∧ (u1.2.1 1) ≤ 602); first | exact hq1_1 | omega), (by show (0 ≤ 0 ∧ 0 ≤ 1); show (0 : Int) ≤ 0 ∧ (0 : Int) ≤ 1; decide), (by show (ap ≤ (u1.2.1 1)); first | exact hk4 | exact hk6 | exact hk7 | exact hk8), (by show (ap ≤ sz_ → (u1.2.1 1) ≤ sz_); first | exact hk4 | exact hk6 | exact hk7 | exact hk8), (by show ((u1.2.1 1) < sz_ → nz f9 ((u1.2.1 1)).toNat ≠ 32); first | exact hk4 | exact hk6 | exact hk7 | exact hk8), (by show ((ap < sz_ → nz f9 ap.toNat ≠ 32) → (u1.2.1 1) = ap); first | exact hk4 | exact hk6 | exact hk7 | exact hk8), (by show (0 = 1 → (u1.2.1 1) < sz_ ∧ nz f9 ((u1.2.1 1)).toNat = 115); omega), hq1_9⟩, by rw [ht]; exact hP.sub [0, 1] rfl, hD.sub [0, 1] (by decide) rfl⟩, hS.F ht⟩) hS.2.2 dX12_isWord_48
                      · refine lv_aload_n hx hb dX12_isWord_28 rfl (lv_at hlv 1 rfl) ?_
                        refine va_get (D := D) (ci := 12) (v := vR m9) (C := RX12) (T := TX12) (N := 38) hx hb hts hi12 hown hG.1 hP 0 rfl rfl 9 (by decide) lf20 (fun _ h9 => h9) rfl dX12_isWord_29 ?_
                        refine lv_aload_n hx hb dX12_isWord_32 rfl (lv_at hlv 1 rfl) ?_
                        refine va_get (D := D) (ci := 12) (v := vI (u1.2.1 1)) (C := RX12) (T := TX12) (N := 38) hx hb hts hi12 hown hG.1 hP 0 rfl rfl 4 (by decide) lf86 (fun _ h9 => h9) rfl dX12_isWord_33 ?_
                        refine lv_iload_n hx hb dX12_isWord_36 rfl (lv_at hlv 0 rfl) ?_
                        refine lv_iadd hx hb dX12_isWord_37 ?_
                        refine lt_e (e0 := (u1.2.1 1) + 5) (Int32.ofInt_add _ _).symm (fun z_32 hz_32 => ?_)
                        refine va_iald hx hb hG.1 hP 1 0 rfl rfl (iI_in (by omega) (by decide)) dX12_isWord_38 ?_
                        refine lt_nz (i := z_32) (by omega) (fun z_33 hz_33 lz_33 uz_33 => ?_)
                        have hbz_33_9 := inv_nz hq1_9 (k := z_32.toNat) (by omega)
                        refine lv_aload_n hx hb dX12_isWord_39 rfl (lv_at hlv 2 rfl) ?_
                        refine lv_iload_n hx hb dX12_isWord_40 rfl (lv_at hlv 0 rfl) ?_
                        refine cj_i (wr := [zO mm 12 [vI th, vR m1, vI tp, vI sz_, vI (u1.2.1 1), vI bad, vI bk, vI opn, vI fp, vR m9, vR m10, vR m11, vR m12, vR m13, vR m14, vR m15, vI im, vI nr, vI nl, vR m19, vR m20, vR m21, vI sp_, vR m23, vR m24, vR m25, vR m26, vR m27, vR m28, vI wtc, vI wcl, vI ir, vI ip, vR m33, vI shu, vR m35, vI sfa, vI swr], zI m9 (cy 0) 600 f9]) (va_runV (As := [vI 5]) (rest := [vI z_33]) ⟨hx, hb, hml, hown, hts⟩ (s_charAt l hl D cy sa 33 5 H.size (by show (0 : Int) ≤ 33 ∧ (33 : Int) ≤ 55; decide) (by show (0 : Int) ≤ 5 ∧ (5 : Int) ≤ 6; decide) (by omega)) (cwV 1 hts gg_3 rfl rfl rfl (by decide +kernel) ⟨Nat.le_of_ble_eq_true rfl, Nat.le_of_ble_eq_true rfl⟩) ⟨pcW.blind, (wo_recv (WD.tx hT.2.2 (33 : Int).toNat (by omega)).1 hS), (pcW.mk hP hD hS hA hG hT [] rfl (by decide))⟩ rfl rfl hlv.1 rfl (lv_room (Nat.le_of_ble_eq_true rfl)) dX12_isWord_41 ⟨Nat.le_of_ble_eq_true rfl, Nat.le_of_ble_eq_true rfl⟩) hP hD hS hA [] [0, 1] rfl rfl (by decide) (by decide) (fun r13 u13 H locs hw13 hP hD hS => ?_)
                        obtain ⟨rfl, hq13_1, hq13_2⟩ := hw13
                        have hP : va_P D vwCl [zO mm 12 [vI th, vR m1, vI tp, vI sz_, vI (u1.2.1 1), vI bad, vI bk, vI opn, vI fp, vR m9, vR m10, vR m11, vR m12, vR m13, vR m14, vR m15, vI im, vI nr, vI nl, vR m19, vR m20, vR m21, vI sp_, vR m23, vR m24, vR m25, vR m26, vR m27, vR m28, vI wtc, vI wcl, vI ir, vI ip, vR m33, vI shu, vR m35, vI sfa, vI swr], zI m9 (cy 0) 600 f9] H := hP
                        have hD : va_D A [zO mm 12 [vI th, vR m1, vI tp, vI sz_, vI (u1.2.1 1), vI bad, vI bk, vI opn, vI fp, vR m9, vR m10, vR m11, vR m12, vR m13, vR m14, vR m15, vI im, vI nr, vI nl, vR m19, vR m20, vR m21, vI sp_, vR m23, vR m24, vR m25, vR m26, vR m27, vR m28, vI wtc, vI wcl, vI ir, vI ip, vR m33, vI shu, vR m35, vI sfa, vI swr], zI m9 (cy 0) 600 f9] := hD
                        have hev13 : (u13.2.1 0) = 101 := by first | (rw [hq13_2]; rfl) | omega
                        clear hq13_2
                        refine lt_i (y := iI 101) (by rw [show (u13.2.1 0) = 101 by omega]) ?_
                        refine ir_eq (tgt := 49) hx hb dX12_isWord_44 (by decide) (by omega) (by show ((-2147483648) : Int) ≤ 101 ∧ (101 : Int) ≤ 2147483647; decide) (fun c_34 => ?_) (fun c_34 => ?_)
                        · try clear c_29
                          try clear hz_29
                          try clear lz_29
                          try clear uz_29
                          try clear c_30
                          try clear hz_30
                          try clear lz_30
                          try clear uz_30
                          try clear c_31
                          try clear hz_31
                          try clear lz_31
                          try clear uz_31
                          try clear c_32
                          try clear hz_32
                          try clear lz_32
                          try clear uz_32
                          try clear c_33
                          try clear hz_33
                          try clear lz_33
                          try clear uz_33
                          try clear c_34
                          try clear hz_34
                          try clear lz_34
                          try clear uz_34
                          try clear hq12_1
                          try clear hq12_2
                          try clear hq13_1
                          try clear hq13_2
                          try clear hev12
                          try clear hev13
                          refine lv_iinc (v := iI 6) (lv' := [(2, vI 6), (0, vR mm), (1, .ref (sn sa 33))]) hx hb dX12_isWord_49 hlv (k := 0) rfl (by decide) (by decide) rfl (fun ls hlv => ?_)
                          refine lv_goto (tgt := 7) hx hb dX12_isWord_52 (by decide) ?_
                          refine lv_iload_n hx hb dX12_isWord_7 rfl (lv_at hlv 0 rfl) ?_
                          refine lv_aload_n hx hb dX12_isWord_8 rfl (lv_at hlv 2 rfl) ?_
                          refine cj_i (wr := [zO mm 12 [vI th, vR m1, vI tp, vI sz_, vI (u1.2.1 1), vI bad, vI bk, vI opn, vI fp, vR m9, vR m10, vR m11, vR m12, vR m13, vR m14, vR m15, vI im, vI nr, vI nl, vR m19, vR m20, vR m21, vI sp_, vR m23, vR m24, vR m25, vR m26, vR m27, vR m28, vI wtc, vI wcl, vI ir, vI ip, vR m33, vI shu, vR m35, vI sfa, vI swr], zI m9 (cy 0) 600 f9]) (va_runV (As := []) (rest := [vI 6]) ⟨hx, hb, hml, hown, hts⟩ (s_length l hl D cy sa 33 H.size (by show (0 : Int) ≤ 33 ∧ (33 : Int) ≤ 55; decide)) (cwV 0 hts gg_1 rfl rfl rfl (by decide +kernel) ⟨Nat.le_of_ble_eq_true rfl, Nat.le_of_ble_eq_true rfl⟩) ⟨pcW.blind, (wo_recv (WD.tx hT.2.2 (33 : Int).toNat (by omega)).1 hS), (pcW.mk hP hD hS hA hG hT [] rfl (by decide))⟩ rfl rfl hlv.1 rfl (lv_room (Nat.le_of_ble_eq_true rfl)) dX12_isWord_9 ⟨Nat.le_of_ble_eq_true rfl, Nat.le_of_ble_eq_true rfl⟩) hP hD hS hA [] [0, 1] rfl rfl (by decide) (by decide) (fun r14 u14 H locs hw14 hP hD hS => ?_)
                          obtain ⟨rfl, hq14_1, hq14_2⟩ := hw14
                          have hP : va_P D vwCl [zO mm 12 [vI th, vR m1, vI tp, vI sz_, vI (u1.2.1 1), vI bad, vI bk, vI opn, vI fp, vR m9, vR m10, vR m11, vR m12, vR m13, vR m14, vR m15, vI im, vI nr, vI nl, vR m19, vR m20, vR m21, vI sp_, vR m23, vR m24, vR m25, vR m26, vR m27, vR m28, vI wtc, vI wcl, vI ir, vI ip, vR m33, vI shu, vR m35, vI sfa, vI swr], zI m9 (cy 0) 600 f9] H := hP
                          have hD : va_D A [zO mm 12 [vI th, vR m1, vI tp, vI sz_, vI (u1.2.1 1), vI bad, vI bk, vI opn, vI fp, vR m9, vR m10, vR m11, vR m12, vR m13, vR m14, vR m15, vI im, vI nr, vI nl, vR m19, vR m20, vR m21, vI sp_, vR m23, vR m24, vR m25, vR m26, vR m27, vR m28, vI wtc, vI wcl, vI ir, vI ip, vR m33, vI shu, vR m35, vI sfa, vI swr], zI m9 (cy 0) 600 f9] := hD
                          have hev14 : (u14.2.1 0) = 7 := by first | (rw [hq14_2]; rfl) | omega
                          refine lt_i (y := iI 7) (by rw [show (u14.2.1 0) = 7 by omega]) ?_
                          refine ir_ge (tgt := 55) hx hb dX12_isWord_12 (by decide) (by show ((-2147483648) : Int) ≤ 6 ∧ (6 : Int) ≤ 2147483647; decide) (by show ((-2147483648) : Int) ≤ 7 ∧ (7 : Int) ≤ 2147483647; decide) (fun c_35 => by exfalso; omega) (fun c_35 => ?_)
                          refine lv_aload_n hx hb dX12_isWord_15 rfl (lv_at hlv 1 rfl) ?_
                          refine va_get (D := D) (ci := 12) (v := vI (u1.2.1 1)) (C := RX12) (T := TX12) (N := 38) hx hb hts hi12 hown hG.1 hP 0 rfl rfl 4 (by decide) lf86 (fun _ h9 => h9) rfl dX12_isWord_16 ?_
                          refine lv_iload_n hx hb dX12_isWord_19 rfl (lv_at hlv 0 rfl) ?_
                          refine lv_iadd hx hb dX12_isWord_20 ?_
                          refine lt_e (e0 := (u1.2.1 1) + 6) (Int32.ofInt_add _ _).symm (fun z_36 hz_36 => ?_)
                          refine lv_aload_n hx hb dX12_isWord_21 rfl (lv_at hlv 1 rfl) ?_
                          refine va_get (D := D) (ci := 12) (v := vI sz_) (C := RX12) (T := TX12) (N := 38) hx hb hts hi12 hown hG.1 hP 0 rfl rfl 3 (by decide) lf89 (fun _ h9 => h9) rfl dX12_isWord_22 ?_
                          refine ir_ge (tgt := 47) hx hb dX12_isWord_25 (by decide) (by omega) (by first | exact rgw hr_sz_ (by decide) (by decide) | omega) (fun c_37 => ?_) (fun c_37 => ?_)
                          · refine lv_iconst (v := iI 0) hx hb dX12_isWord_47 (by decide) ?_
                            refine W.widen (k := 0) (n := 0) (Nat.le_of_ble_eq_true rfl) (Nat.le_of_ble_eq_true rfl) ?_
                            exact W.zret (v := iI 0) hx hb hr (by first | rfl | decide) (fun t ht hW => ⟨⟨iI 0, ((fun k => ([] : List Nat).getD k 0), (fun k => ([0, (u1.2.1 1)] : List Int).getD k 0), (fun k => ([] : List (Nat → Int32)).getD k (fun _ => 0))), rfl, ⟨rfl, (by show (0 ≤ (u1.2.1 1) ∧ (u1.2.1 1) ≤ 602); first | exact hq1_1 | omega), (by show (0 ≤ 0 ∧ 0 ≤ 1); show (0 : Int) ≤ 0 ∧ (0 : Int) ≤ 1; decide), (by show (ap ≤ (u1.2.1 1)); first | exact hk4 | exact hk6 | exact hk7 | exact hk8), (by show (ap ≤ sz_ → (u1.2.1 1) ≤ sz_); first | exact hk4 | exact hk6 | exact hk7 | exact hk8), (by show ((u1.2.1 1) < sz_ → nz f9 ((u1.2.1 1)).toNat ≠ 32); first | exact hk4 | exact hk6 | exact hk7 | exact hk8), (by show ((ap < sz_ → nz f9 ap.toNat ≠ 32) → (u1.2.1 1) = ap); first | exact hk4 | exact hk6 | exact hk7 | exact hk8), (by show (0 = 1 → (u1.2.1 1) < sz_ ∧ nz f9 ((u1.2.1 1)).toNat = 115); omega), hq1_9⟩, by rw [ht]; exact hP.sub [0, 1] rfl, hD.sub [0, 1] (by decide) rfl⟩, hS.F ht⟩) hS.2.2 dX12_isWord_48
                          · refine lv_aload_n hx hb dX12_isWord_28 rfl (lv_at hlv 1 rfl) ?_
                            refine va_get (D := D) (ci := 12) (v := vR m9) (C := RX12) (T := TX12) (N := 38) hx hb hts hi12 hown hG.1 hP 0 rfl rfl 9 (by decide) lf20 (fun _ h9 => h9) rfl dX12_isWord_29 ?_
                            refine lv_aload_n hx hb dX12_isWord_32 rfl (lv_at hlv 1 rfl) ?_
                            refine va_get (D := D) (ci := 12) (v := vI (u1.2.1 1)) (C := RX12) (T := TX12) (N := 38) hx hb hts hi12 hown hG.1 hP 0 rfl rfl 4 (by decide) lf86 (fun _ h9 => h9) rfl dX12_isWord_33 ?_
                            refine lv_iload_n hx hb dX12_isWord_36 rfl (lv_at hlv 0 rfl) ?_
                            refine lv_iadd hx hb dX12_isWord_37 ?_
                            refine lt_e (e0 := (u1.2.1 1) + 6) (Int32.ofInt_add _ _).symm (fun z_38 hz_38 => ?_)
                            refine va_iald hx hb hG.1 hP 1 0 rfl rfl (iI_in (by omega) (by decide)) dX12_isWord_38 ?_
                            refine lt_nz (i := z_38) (by omega) (fun z_39 hz_39 lz_39 uz_39 => ?_)
                            have hbz_39_9 := inv_nz hq1_9 (k := z_38.toNat) (by omega)
                            refine lv_aload_n hx hb dX12_isWord_39 rfl (lv_at hlv 2 rfl) ?_
                            refine lv_iload_n hx hb dX12_isWord_40 rfl (lv_at hlv 0 rfl) ?_
                            refine cj_i (wr := [zO mm 12 [vI th, vR m1, vI tp, vI sz_, vI (u1.2.1 1), vI bad, vI bk, vI opn, vI fp, vR m9, vR m10, vR m11, vR m12, vR m13, vR m14, vR m15, vI im, vI nr, vI nl, vR m19, vR m20, vR m21, vI sp_, vR m23, vR m24, vR m25, vR m26, vR m27, vR m28, vI wtc, vI wcl, vI ir, vI ip, vR m33, vI shu, vR m35, vI sfa, vI swr], zI m9 (cy 0) 600 f9]) (va_runV (As := [vI 6]) (rest := [vI z_39]) ⟨hx, hb, hml, hown, hts⟩ (s_charAt l hl D cy sa 33 6 H.size (by show (0 : Int) ≤ 33 ∧ (33 : Int) ≤ 55; decide) (by show (0 : Int) ≤ 6 ∧ (6 : Int) ≤ 6; decide) (by omega)) (cwV 1 hts gg_3 rfl rfl rfl (by decide +kernel) ⟨Nat.le_of_ble_eq_true rfl, Nat.le_of_ble_eq_true rfl⟩) ⟨pcW.blind, (wo_recv (WD.tx hT.2.2 (33 : Int).toNat (by omega)).1 hS), (pcW.mk hP hD hS hA hG hT [] rfl (by decide))⟩ rfl rfl hlv.1 rfl (lv_room (Nat.le_of_ble_eq_true rfl)) dX12_isWord_41 ⟨Nat.le_of_ble_eq_true rfl, Nat.le_of_ble_eq_true rfl⟩) hP hD hS hA [] [0, 1] rfl rfl (by decide) (by decide) (fun r15 u15 H locs hw15 hP hD hS => ?_)
                            obtain ⟨rfl, hq15_1, hq15_2⟩ := hw15
                            have hP : va_P D vwCl [zO mm 12 [vI th, vR m1, vI tp, vI sz_, vI (u1.2.1 1), vI bad, vI bk, vI opn, vI fp, vR m9, vR m10, vR m11, vR m12, vR m13, vR m14, vR m15, vI im, vI nr, vI nl, vR m19, vR m20, vR m21, vI sp_, vR m23, vR m24, vR m25, vR m26, vR m27, vR m28, vI wtc, vI wcl, vI ir, vI ip, vR m33, vI shu, vR m35, vI sfa, vI swr], zI m9 (cy 0) 600 f9] H := hP
                            have hD : va_D A [zO mm 12 [vI th, vR m1, vI tp, vI sz_, vI (u1.2.1 1), vI bad, vI bk, vI opn, vI fp, vR m9, vR m10, vR m11, vR m12, vR m13, vR m14, vR m15, vI im, vI nr, vI nl, vR m19, vR m20, vR m21, vI sp_, vR m23, vR m24, vR m25, vR m26, vR m27, vR m28, vI wtc, vI wcl, vI ir, vI ip, vR m33, vI shu, vR m35, vI sfa, vI swr], zI m9 (cy 0) 600 f9] := hD
                            have hev15 : (u15.2.1 0) = 114 := by first | (rw [hq15_2]; rfl) | omega
                            clear hq15_2
                            refine lt_i (y := iI 114) (by rw [show (u15.2.1 0) = 114 by omega]) ?_
                            refine ir_eq (tgt := 49) hx hb dX12_isWord_44 (by decide) (by omega) (by show ((-2147483648) : Int) ≤ 114 ∧ (114 : Int) ≤ 2147483647; decide) (fun c_40 => ?_) (fun c_40 => ?_)
                            · try clear c_35
                              try clear hz_35
                              try clear lz_35
                              try clear uz_35
                              try clear c_36
                              try clear hz_36
                              try clear lz_36
                              try clear uz_36
                              try clear c_37
                              try clear hz_37
                              try clear lz_37
                              try clear uz_37
                              try clear c_38
                              try clear hz_38
                              try clear lz_38
                              try clear uz_38
                              try clear c_39
                              try clear hz_39
                              try clear lz_39
                              try clear uz_39
                              try clear c_40
                              try clear hz_40
                              try clear lz_40
                              try clear uz_40
                              try clear hq14_1
                              try clear hq14_2
                              try clear hq15_1
                              try clear hq15_2
                              try clear hev14
                              try clear hev15
                              refine lv_iinc (v := iI 7) (lv' := [(2, vI 7), (0, vR mm), (1, .ref (sn sa 33))]) hx hb dX12_isWord_49 hlv (k := 0) rfl (by decide) (by decide) rfl (fun ls hlv => ?_)
                              refine lv_goto (tgt := 7) hx hb dX12_isWord_52 (by decide) ?_
                              refine lv_iload_n hx hb dX12_isWord_7 rfl (lv_at hlv 0 rfl) ?_
                              refine lv_aload_n hx hb dX12_isWord_8 rfl (lv_at hlv 2 rfl) ?_
                              refine cj_i (wr := [zO mm 12 [vI th, vR m1, vI tp, vI sz_, vI (u1.2.1 1), vI bad, vI bk, vI opn, vI fp, vR m9, vR m10, vR m11, vR m12, vR m13, vR m14, vR m15, vI im, vI nr, vI nl, vR m19, vR m20, vR m21, vI sp_, vR m23, vR m24, vR m25, vR m26, vR m27, vR m28, vI wtc, vI wcl, vI ir, vI ip, vR m33, vI shu, vR m35, vI sfa, vI swr], zI m9 (cy 0) 600 f9]) (va_runV (As := []) (rest := [vI 7]) ⟨hx, hb, hml, hown, hts⟩ (s_length l hl D cy sa 33 H.size (by show (0 : Int) ≤ 33 ∧ (33 : Int) ≤ 55; decide)) (cwV 0 hts gg_1 rfl rfl rfl (by decide +kernel) ⟨Nat.le_of_ble_eq_true rfl, Nat.le_of_ble_eq_true rfl⟩) ⟨pcW.blind, (wo_recv (WD.tx hT.2.2 (33 : Int).toNat (by omega)).1 hS), (pcW.mk hP hD hS hA hG hT [] rfl (by decide))⟩ rfl rfl hlv.1 rfl (lv_room (Nat.le_of_ble_eq_true rfl)) dX12_isWord_9 ⟨Nat.le_of_ble_eq_true rfl, Nat.le_of_ble_eq_true rfl⟩) hP hD hS hA [] [0, 1] rfl rfl (by decide) (by decide) (fun r16 u16 H locs hw16 hP hD hS => ?_)
                              obtain ⟨rfl, hq16_1, hq16_2⟩ := hw16
                              have hP : va_P D vwCl [zO mm 12 [vI th, vR m1, vI tp, vI sz_, vI (u1.2.1 1), vI bad, vI bk, vI opn, vI fp, vR m9, vR m10, vR m11, vR m12, vR m13, vR m14, vR m15, vI im, vI nr, vI nl, vR m19, vR m20, vR m21, vI sp_, vR m23, vR m24, vR m25, vR m26, vR m27, vR m28, vI wtc, vI wcl, vI ir, vI ip, vR m33, vI shu, vR m35, vI sfa, vI swr], zI m9 (cy 0) 600 f9] H := hP
                              have hD : va_D A [zO mm 12 [vI th, vR m1, vI tp, vI sz_, vI (u1.2.1 1), vI bad, vI bk, vI opn, vI fp, vR m9, vR m10, vR m11, vR m12, vR m13, vR m14, vR m15, vI im, vI nr, vI nl, vR m19, vR m20, vR m21, vI sp_, vR m23, vR m24, vR m25, vR m26, vR m27, vR m28, vI wtc, vI wcl, vI ir, vI ip, vR m33, vI shu, vR m35, vI sfa, vI swr], zI m9 (cy 0) 600 f9] := hD
                              have hev16 : (u16.2.1 0) = 7 := by first | (rw [hq16_2]; rfl) | omega
                              refine lt_i (y := iI 7) (by rw [show (u16.2.1 0) = 7 by omega]) ?_
                              refine ir_ge (tgt := 55) hx hb dX12_isWord_12 (by decide) (by show ((-2147483648) : Int) ≤ 7 ∧ (7 : Int) ≤ 2147483647; decide) (by show ((-2147483648) : Int) ≤ 7 ∧ (7 : Int) ≤ 2147483647; decide) (fun c_41 => ?_) (fun c_41 => by exfalso; omega)
                              refine lv_aload_n hx hb dX12_isWord_55 rfl (lv_at hlv 1 rfl) ?_
                              refine va_get (D := D) (ci := 12) (v := vI (u1.2.1 1)) (C := RX12) (T := TX12) (N := 38) hx hb hts hi12 hown hG.1 hP 0 rfl rfl 4 (by decide) lf86 (fun _ h9 => h9) rfl dX12_isWord_56 ?_
                              refine lv_aload_n hx hb dX12_isWord_59 rfl (lv_at hlv 2 rfl) ?_
                              refine cj_i (wr := [zO mm 12 [vI th, vR m1, vI tp, vI sz_, vI (u1.2.1 1), vI bad, vI bk, vI opn, vI fp, vR m9, vR m10, vR m11, vR m12, vR m13, vR m14, vR m15, vI im, vI nr, vI nl, vR m19, vR m20, vR m21, vI sp_, vR m23, vR m24, vR m25, vR m26, vR m27, vR m28, vI wtc, vI wcl, vI ir, vI ip, vR m33, vI shu, vR m35, vI sfa, vI swr], zI m9 (cy 0) 600 f9]) (va_runV (As := []) (rest := [vI (u1.2.1 1)]) ⟨hx, hb, hml, hown, hts⟩ (s_length l hl D cy sa 33 H.size (by show (0 : Int) ≤ 33 ∧ (33 : Int) ≤ 55; decide)) (cwV 0 hts gg_1 rfl rfl rfl (by decide +kernel) ⟨Nat.le_of_ble_eq_true rfl, Nat.le_of_ble_eq_true rfl⟩) ⟨pcW.blind, (wo_recv (WD.tx hT.2.2 (33 : Int).toNat (by omega)).1 hS), (pcW.mk hP hD hS hA hG hT [] rfl (by decide))⟩ rfl rfl hlv.1 rfl (lv_room (Nat.le_of_ble_eq_true rfl)) dX12_isWord_60 ⟨Nat.le_of_ble_eq_true rfl, Nat.le_of_ble_eq_true rfl⟩) hP hD hS hA [] [0, 1] rfl rfl (by decide) (by decide) (fun r17 u17 H locs hw17 hP hD hS => ?_)
                              obtain ⟨rfl, hq17_1, hq17_2⟩ := hw17
                              have hP : va_P D vwCl [zO mm 12 [vI th, vR m1, vI tp, vI sz_, vI (u1.2.1 1), vI bad, vI bk, vI opn, vI fp, vR m9, vR m10, vR m11, vR m12, vR m13, vR m14, vR m15, vI im, vI nr, vI nl, vR m19, vR m20, vR m21, vI sp_, vR m23, vR m24, vR m25, vR m26, vR m27, vR m28, vI wtc, vI wcl, vI ir, vI ip, vR m33, vI shu, vR m35, vI sfa, vI swr], zI m9 (cy 0) 600 f9] H := hP
                              have hD : va_D A [zO mm 12 [vI th, vR m1, vI tp, vI sz_, vI (u1.2.1 1), vI bad, vI bk, vI opn, vI fp, vR m9, vR m10, vR m11, vR m12, vR m13, vR m14, vR m15, vI im, vI nr, vI nl, vR m19, vR m20, vR m21, vI sp_, vR m23, vR m24, vR m25, vR m26, vR m27, vR m28, vI wtc, vI wcl, vI ir, vI ip, vR m33, vI shu, vR m35, vI sfa, vI swr], zI m9 (cy 0) 600 f9] := hD
                              have hev17 : (u17.2.1 0) = 7 := by first | (rw [hq17_2]; rfl) | omega
                              refine lt_i (y := iI 7) (by rw [show (u17.2.1 0) = 7 by omega]) ?_
                              refine lv_iadd hx hb dX12_isWord_63 ?_
                              refine lt_e (e0 := (u1.2.1 1) + 7) (Int32.ofInt_add _ _).symm (fun z_42 hz_42 => ?_)
                              refine lv_aload_n hx hb dX12_isWord_64 rfl (lv_at hlv 1 rfl) ?_
                              refine va_get (D := D) (ci := 12) (v := vI sz_) (C := RX12) (T := TX12) (N := 38) hx hb hts hi12 hown hG.1 hP 0 rfl rfl 3 (by decide) lf89 (fun _ h9 => h9) rfl dX12_isWord_65 ?_
                              refine ir_ge (tgt := 91) hx hb dX12_isWord_68 (by decide) (by omega) (by first | exact rgw hr_sz_ (by decide) (by decide) | omega) (fun c_43 => ?_) (fun c_43 => ?_)
                              · refine lv_iconst (v := iI 1) hx hb dX12_isWord_91 (by decide) ?_
                                refine lv_goto (tgt := 96) hx hb dX12_isWord_92 (by decide) ?_
                                refine W.widen (k := 0) (n := 0) (Nat.le_of_ble_eq_true rfl) (Nat.le_of_ble_eq_true rfl) ?_
                                exact W.zret (v := iI 1) hx hb hr (by first | rfl | decide) (fun t ht hW => ⟨⟨iI 1, ((fun k => ([] : List Nat).getD k 0), (fun k => ([1, (u1.2.1 1)] : List Int).getD k 0), (fun k => ([] : List (Nat → Int32)).getD k (fun _ => 0))), rfl, ⟨rfl, (by show (0 ≤ (u1.2.1 1) ∧ (u1.2.1 1) ≤ 602); first | exact hq1_1 | omega), (by show (0 ≤ 1 ∧ 1 ≤ 1); show (0 : Int) ≤ 1 ∧ (1 : Int) ≤ 1; decide), (by show (ap ≤ (u1.2.1 1)); first | exact hk4 | exact hk6 | exact hk7 | exact hk8), (by show (ap ≤ sz_ → (u1.2.1 1) ≤ sz_); first | exact hk4 | exact hk6 | exact hk7 | exact hk8), (by show ((u1.2.1 1) < sz_ → nz f9 ((u1.2.1 1)).toNat ≠ 32); first | exact hk4 | exact hk6 | exact hk7 | exact hk8), (by show ((ap < sz_ → nz f9 ap.toNat ≠ 32) → (u1.2.1 1) = ap); first | exact hk4 | exact hk6 | exact hk7 | exact hk8), (by show (1 = 1 → (u1.2.1 1) < sz_ ∧ nz f9 ((u1.2.1 1)).toNat = 115); omega), hq1_9⟩, by rw [ht]; exact hP.sub [0, 1] rfl, hD.sub [0, 1] (by decide) rfl⟩, hS.F ht⟩) hS.2.2 dX12_isWord_96
                              · refine lv_aload_n hx hb dX12_isWord_71 rfl (lv_at hlv 1 rfl) ?_
                                refine va_get (D := D) (ci := 12) (v := vR m9) (C := RX12) (T := TX12) (N := 38) hx hb hts hi12 hown hG.1 hP 0 rfl rfl 9 (by decide) lf20 (fun _ h9 => h9) rfl dX12_isWord_72 ?_
                                refine lv_aload_n hx hb dX12_isWord_75 rfl (lv_at hlv 1 rfl) ?_
                                refine va_get (D := D) (ci := 12) (v := vI (u1.2.1 1)) (C := RX12) (T := TX12) (N := 38) hx hb hts hi12 hown hG.1 hP 0 rfl rfl 4 (by decide) lf86 (fun _ h9 => h9) rfl dX12_isWord_76 ?_
                                refine lv_aload_n hx hb dX12_isWord_79 rfl (lv_at hlv 2 rfl) ?_
                                refine cj_i (wr := [zO mm 12 [vI th, vR m1, vI tp, vI sz_, vI (u1.2.1 1), vI bad, vI bk, vI opn, vI fp, vR m9, vR m10, vR m11, vR m12, vR m13, vR m14, vR m15, vI im, vI nr, vI nl, vR m19, vR m20, vR m21, vI sp_, vR m23, vR m24, vR m25, vR m26, vR m27, vR m28, vI wtc, vI wcl, vI ir, vI ip, vR m33, vI shu, vR m35, vI sfa, vI swr], zI m9 (cy 0) 600 f9]) (va_runV (As := []) (rest := [vI (u1.2.1 1), vR m9]) ⟨hx, hb, hml, hown, hts⟩ (s_length l hl D cy sa 33 H.size (by show (0 : Int) ≤ 33 ∧ (33 : Int) ≤ 55; decide)) (cwV 0 hts gg_1 rfl rfl rfl (by decide +kernel) ⟨Nat.le_of_ble_eq_true rfl, Nat.le_of_ble_eq_true rfl⟩) ⟨pcW.blind, (wo_recv (WD.tx hT.2.2 (33 : Int).toNat (by omega)).1 hS), (pcW.mk hP hD hS hA hG hT [] rfl (by decide))⟩ rfl rfl hlv.1 rfl (lv_room (Nat.le_of_ble_eq_true rfl)) dX12_isWord_80 ⟨Nat.le_of_ble_eq_true rfl, Nat.le_of_ble_eq_true rfl⟩) hP hD hS hA [] [0, 1] rfl rfl (by decide) (by decide) (fun r18 u18 H locs hw18 hP hD hS => ?_)
                                obtain ⟨rfl, hq18_1, hq18_2⟩ := hw18
                                have hP : va_P D vwCl [zO mm 12 [vI th, vR m1, vI tp, vI sz_, vI (u1.2.1 1), vI bad, vI bk, vI opn, vI fp, vR m9, vR m10, vR m11, vR m12, vR m13, vR m14, vR m15, vI im, vI nr, vI nl, vR m19, vR m20, vR m21, vI sp_, vR m23, vR m24, vR m25, vR m26, vR m27, vR m28, vI wtc, vI wcl, vI ir, vI ip, vR m33, vI shu, vR m35, vI sfa, vI swr], zI m9 (cy 0) 600 f9] H := hP
                                have hD : va_D A [zO mm 12 [vI th, vR m1, vI tp, vI sz_, vI (u1.2.1 1), vI bad, vI bk, vI opn, vI fp, vR m9, vR m10, vR m11, vR m12, vR m13, vR m14, vR m15, vI im, vI nr, vI nl, vR m19, vR m20, vR m21, vI sp_, vR m23, vR m24, vR m25, vR m26, vR m27, vR m28, vI wtc, vI wcl, vI ir, vI ip, vR m33, vI shu, vR m35, vI sfa, vI swr], zI m9 (cy 0) 600 f9] := hD
                                have hev18 : (u18.2.1 0) = 7 := by first | (rw [hq18_2]; rfl) | omega
                                refine lt_i (y := iI 7) (by rw [show (u18.2.1 0) = 7 by omega]) ?_
                                refine lv_iadd hx hb dX12_isWord_83 ?_
                                refine lt_e (e0 := (u1.2.1 1) + 7) (Int32.ofInt_add _ _).symm (fun z_44 hz_44 => ?_)
                                refine va_iald hx hb hG.1 hP 1 0 rfl rfl (iI_in (by omega) (by decide)) dX12_isWord_84 ?_
                                refine lt_nz (i := z_44) (by omega) (fun z_45 hz_45 lz_45 uz_45 => ?_)
                                have hbz_45_15 := inv_nz hq1_9 (k := z_44.toNat) (by omega)
                                refine cj_i (wr := [zO mm 12 [vI th, vR m1, vI tp, vI sz_, vI (u1.2.1 1), vI bad, vI bk, vI opn, vI fp, vR m9, vR m10, vR m11, vR m12, vR m13, vR m14, vR m15, vI im, vI nr, vI nl, vR m19, vR m20, vR m21, vI sp_, vR m23, vR m24, vR m25, vR m26, vR m27, vR m28, vI wtc, vI wcl, vI ir, vI ip, vR m33, vI shu, vR m35, vI sfa, vI swr], zI m9 (cy 0) 600 f9]) (va_runS (As := [vI z_45]) (rest := []) ⟨hx, hb, hml, hown, hts⟩ (m_isSmall l hl D cy sa z_45 H.size (by omega)) (va_cwS 1 hts gg_4 rfl rfl rfl (by decide +kernel) ⟨Nat.le_of_ble_eq_true rfl, Nat.le_of_ble_eq_true rfl⟩) ⟨pcW.blind, (pcW.mk hP hD hS hA hG hT [] rfl (by decide))⟩ rfl rfl hlv.1 rfl (lv_room (Nat.le_of_ble_eq_true rfl)) dX12_isWord_85 ⟨Nat.le_of_ble_eq_true rfl, Nat.le_of_ble_eq_true rfl⟩) hP hD hS hA [] [0, 1] rfl rfl (by decide) (by decide) (fun r19 u19 H locs hw19 hP hD hS => ?_)
                                obtain ⟨rfl, hq19_1, hq19_2, hq19_3⟩ := hw19
                                have hP : va_P D vwCl [zO mm 12 [vI th, vR m1, vI tp, vI sz_, vI (u1.2.1 1), vI bad, vI bk, vI opn, vI fp, vR m9, vR m10, vR m11, vR m12, vR m13, vR m14, vR m15, vI im, vI nr, vI nl, vR m19, vR m20, vR m21, vI sp_, vR m23, vR m24, vR m25, vR m26, vR m27, vR m28, vI wtc, vI wcl, vI ir, vI ip, vR m33, vI shu, vR m35, vI sfa, vI swr], zI m9 (cy 0) 600 f9] H := hP
                                have hD : va_D A [zO mm 12 [vI th, vR m1, vI tp, vI sz_, vI (u1.2.1 1), vI bad, vI bk, vI opn, vI fp, vR m9, vR m10, vR m11, vR m12, vR m13, vR m14, vR m15, vI im, vI nr, vI nl, vR m19, vR m20, vR m21, vI sp_, vR m23, vR m24, vR m25, vR m26, vR m27, vR m28, vI wtc, vI wcl, vI ir, vI ip, vR m33, vI shu, vR m35, vI sfa, vI swr], zI m9 (cy 0) 600 f9] := hD
                                refine iz_ne (tgt := 95) hx hb dX12_isWord_88 (by decide) (by first | exact rgw hq19_1 (by decide) (by decide) | omega) (fun c_46 => ?_) (fun c_46 => ?_)
                                · refine lv_iconst (v := iI 0) hx hb dX12_isWord_95 (by decide) ?_
                                  refine W.widen (k := 0) (n := 0) (Nat.le_of_ble_eq_true rfl) (Nat.le_of_ble_eq_true rfl) ?_
                                  exact W.zret (v := iI 0) hx hb hr (by first | rfl | decide) (fun t ht hW => ⟨⟨iI 0, ((fun k => ([] : List Nat).getD k 0), (fun k => ([0, (u1.2.1 1)] : List Int).getD k 0), (fun k => ([] : List (Nat → Int32)).getD k (fun _ => 0))), rfl, ⟨rfl, (by show (0 ≤ (u1.2.1 1) ∧ (u1.2.1 1) ≤ 602); first | exact hq1_1 | omega), (by show (0 ≤ 0 ∧ 0 ≤ 1); show (0 : Int) ≤ 0 ∧ (0 : Int) ≤ 1; decide), (by show (ap ≤ (u1.2.1 1)); first | exact hk4 | exact hk6 | exact hk7 | exact hk8), (by show (ap ≤ sz_ → (u1.2.1 1) ≤ sz_); first | exact hk4 | exact hk6 | exact hk7 | exact hk8), (by show ((u1.2.1 1) < sz_ → nz f9 ((u1.2.1 1)).toNat ≠ 32); first | exact hk4 | exact hk6 | exact hk7 | exact hk8), (by show ((ap < sz_ → nz f9 ap.toNat ≠ 32) → (u1.2.1 1) = ap); first | exact hk4 | exact hk6 | exact hk7 | exact hk8), (by show (0 = 1 → (u1.2.1 1) < sz_ ∧ nz f9 ((u1.2.1 1)).toNat = 115); omega), hq1_9⟩, by rw [ht]; exact hP.sub [0, 1] rfl, hD.sub [0, 1] (by decide) rfl⟩, hS.F ht⟩) hS.2.2 dX12_isWord_96
                                · refine lv_iconst (v := iI 1) hx hb dX12_isWord_91 (by decide) ?_
                                  refine lv_goto (tgt := 96) hx hb dX12_isWord_92 (by decide) ?_
                                  refine W.widen (k := 0) (n := 0) (Nat.le_of_ble_eq_true rfl) (Nat.le_of_ble_eq_true rfl) ?_
                                  exact W.zret (v := iI 1) hx hb hr (by first | rfl | decide) (fun t ht hW => ⟨⟨iI 1, ((fun k => ([] : List Nat).getD k 0), (fun k => ([1, (u1.2.1 1)] : List Int).getD k 0), (fun k => ([] : List (Nat → Int32)).getD k (fun _ => 0))), rfl, ⟨rfl, (by show (0 ≤ (u1.2.1 1) ∧ (u1.2.1 1) ≤ 602); first | exact hq1_1 | omega), (by show (0 ≤ 1 ∧ 1 ≤ 1); show (0 : Int) ≤ 1 ∧ (1 : Int) ≤ 1; decide), (by show (ap ≤ (u1.2.1 1)); first | exact hk4 | exact hk6 | exact hk7 | exact hk8), (by show (ap ≤ sz_ → (u1.2.1 1) ≤ sz_); first | exact hk4 | exact hk6 | exact hk7 | exact hk8), (by show ((u1.2.1 1) < sz_ → nz f9 ((u1.2.1 1)).toNat ≠ 32); first | exact hk4 | exact hk6 | exact hk7 | exact hk8), (by show ((ap < sz_ → nz f9 ap.toNat ≠ 32) → (u1.2.1 1) = ap); first | exact hk4 | exact hk6 | exact hk7 | exact hk8), (by show (1 = 1 → (u1.2.1 1) < sz_ ∧ nz f9 ((u1.2.1 1)).toNat = 115); omega), hq1_9⟩, by rw [ht]; exact hP.sub [0, 1] rfl, hD.sub [0, 1] (by decide) rfl⟩, hS.F ht⟩) hS.2.2 dX12_isWord_96
                            · refine lv_iconst (v := iI 0) hx hb dX12_isWord_47 (by decide) ?_
                              refine W.widen (k := 0) (n := 0) (Nat.le_of_ble_eq_true rfl) (Nat.le_of_ble_eq_true rfl) ?_
                              exact W.zret (v := iI 0) hx hb hr (by first | rfl | decide) (fun t ht hW => ⟨⟨iI 0, ((fun k => ([] : List Nat).getD k 0), (fun k => ([0, (u1.2.1 1)] : List Int).getD k 0), (fun k => ([] : List (Nat → Int32)).getD k (fun _ => 0))), rfl, ⟨rfl, (by show (0 ≤ (u1.2.1 1) ∧ (u1.2.1 1) ≤ 602); first | exact hq1_1 | omega), (by show (0 ≤ 0 ∧ 0 ≤ 1); show (0 : Int) ≤ 0 ∧ (0 : Int) ≤ 1; decide), (by show (ap ≤ (u1.2.1 1)); first | exact hk4 | exact hk6 | exact hk7 | exact hk8), (by show (ap ≤ sz_ → (u1.2.1 1) ≤ sz_); first | exact hk4 | exact hk6 | exact hk7 | exact hk8), (by show ((u1.2.1 1) < sz_ → nz f9 ((u1.2.1 1)).toNat ≠ 32); first | exact hk4 | exact hk6 | exact hk7 | exact hk8), (by show ((ap < sz_ → nz f9 ap.toNat ≠ 32) → (u1.2.1 1) = ap); first | exact hk4 | exact hk6 | exact hk7 | exact hk8), (by show (0 = 1 → (u1.2.1 1) < sz_ ∧ nz f9 ((u1.2.1 1)).toNat = 115); omega), hq1_9⟩, by rw [ht]; exact hP.sub [0, 1] rfl, hD.sub [0, 1] (by decide) rfl⟩, hS.F ht⟩) hS.2.2 dX12_isWord_48
                        · refine lv_iconst (v := iI 0) hx hb dX12_isWord_47 (by decide) ?_
                          refine W.widen (k := 0) (n := 0) (Nat.le_of_ble_eq_true rfl) (Nat.le_of_ble_eq_true rfl) ?_
                          exact W.zret (v := iI 0) hx hb hr (by first | rfl | decide) (fun t ht hW => ⟨⟨iI 0, ((fun k => ([] : List Nat).getD k 0), (fun k => ([0, (u1.2.1 1)] : List Int).getD k 0), (fun k => ([] : List (Nat → Int32)).getD k (fun _ => 0))), rfl, ⟨rfl, (by show (0 ≤ (u1.2.1 1) ∧ (u1.2.1 1) ≤ 602); first | exact hq1_1 | omega), (by show (0 ≤ 0 ∧ 0 ≤ 1); show (0 : Int) ≤ 0 ∧ (0 : Int) ≤ 1; decide), (by show (ap ≤ (u1.2.1 1)); first | exact hk4 | exact hk6 | exact hk7 | exact hk8), (by show (ap ≤ sz_ → (u1.2.1 1) ≤ sz_); first | exact hk4 | exact hk6 | exact hk7 | exact hk8), (by show ((u1.2.1 1) < sz_ → nz f9 ((u1.2.1 1)).toNat ≠ 32); first | exact hk4 | exact hk6 | exact hk7 | exact hk8), (by show ((ap < sz_ → nz f9 ap.toNat ≠ 32) → (u1.2.1 1) = ap); first | exact hk4 | exact hk6 | exact hk7 | exact hk8), (by show (0 = 1 → (u1.2.1 1) < sz_ ∧ nz f9 ((u1.2.1 1)).toNat = 115); omega), hq1_9⟩, by rw [ht]; exact hP.sub [0, 1] rfl, hD.sub [0, 1] (by decide) rfl⟩, hS.F ht⟩) hS.2.2 dX12_isWord_48
                    · refine lv_iconst (v := iI 0) hx hb dX12_isWord_47 (by decide) ?_
                      refine W.widen (k := 0) (n := 0) (Nat.le_of_ble_eq_true rfl) (Nat.le_of_ble_eq_true rfl) ?_
                      exact W.zret (v := iI 0) hx hb hr (by first | rfl | decide) (fun t ht hW => ⟨⟨iI 0, ((fun k => ([] : List Nat).getD k 0), (fun k => ([0, (u1.2.1 1)] : List Int).getD k 0), (fun k => ([] : List (Nat → Int32)).getD k (fun _ => 0))), rfl, ⟨rfl, (by show (0 ≤ (u1.2.1 1) ∧ (u1.2.1 1) ≤ 602); first | exact hq1_1 | omega), (by show (0 ≤ 0 ∧ 0 ≤ 1); show (0 : Int) ≤ 0 ∧ (0 : Int) ≤ 1; decide), (by show (ap ≤ (u1.2.1 1)); first | exact hk4 | exact hk6 | exact hk7 | exact hk8), (by show (ap ≤ sz_ → (u1.2.1 1) ≤ sz_); first | exact hk4 | exact hk6 | exact hk7 | exact hk8), (by show ((u1.2.1 1) < sz_ → nz f9 ((u1.2.1 1)).toNat ≠ 32); first | exact hk4 | exact hk6 | exact hk7 | exact hk8), (by show ((ap < sz_ → nz f9 ap.toNat ≠ 32) → (u1.2.1 1) = ap); first | exact hk4 | exact hk6 | exact hk7 | exact hk8), (by show (0 = 1 → (u1.2.1 1) < sz_ ∧ nz f9 ((u1.2.1 1)).toNat = 115); omega), hq1_9⟩, by rw [ht]; exact hP.sub [0, 1] rfl, hD.sub [0, 1] (by decide) rfl⟩, hS.F ht⟩) hS.2.2 dX12_isWord_48
                · refine lv_iconst (v := iI 0) hx hb dX12_isWord_47 (by decide) ?_
                  refine W.widen (k := 0) (n := 0) (Nat.le_of_ble_eq_true rfl) (Nat.le_of_ble_eq_true rfl) ?_
                  exact W.zret (v := iI 0) hx hb hr (by first | rfl | decide) (fun t ht hW => ⟨⟨iI 0, ((fun k => ([] : List Nat).getD k 0), (fun k => ([0, (u1.2.1 1)] : List Int).getD k 0), (fun k => ([] : List (Nat → Int32)).getD k (fun _ => 0))), rfl, ⟨rfl, (by show (0 ≤ (u1.2.1 1) ∧ (u1.2.1 1) ≤ 602); first | exact hq1_1 | omega), (by show (0 ≤ 0 ∧ 0 ≤ 1); show (0 : Int) ≤ 0 ∧ (0 : Int) ≤ 1; decide), (by show (ap ≤ (u1.2.1 1)); first | exact hk4 | exact hk6 | exact hk7 | exact hk8), (by show (ap ≤ sz_ → (u1.2.1 1) ≤ sz_); first | exact hk4 | exact hk6 | exact hk7 | exact hk8), (by show ((u1.2.1 1) < sz_ → nz f9 ((u1.2.1 1)).toNat ≠ 32); first | exact hk4 | exact hk6 | exact hk7 | exact hk8), (by show ((ap < sz_ → nz f9 ap.toNat ≠ 32) → (u1.2.1 1) = ap); first | exact hk4 | exact hk6 | exact hk7 | exact hk8), (by show (0 = 1 → (u1.2.1 1) < sz_ ∧ nz f9 ((u1.2.1 1)).toNat = 115); omega), hq1_9⟩, by rw [ht]; exact hP.sub [0, 1] rfl, hD.sub [0, 1] (by decide) rfl⟩, hS.F ht⟩) hS.2.2 dX12_isWord_48
            · refine lv_iconst (v := iI 0) hx hb dX12_isWord_47 (by decide) ?_
              refine W.widen (k := 0) (n := 0) (Nat.le_of_ble_eq_true rfl) (Nat.le_of_ble_eq_true rfl) ?_
              exact W.zret (v := iI 0) hx hb hr (by first | rfl | decide) (fun t ht hW => ⟨⟨iI 0, ((fun k => ([] : List Nat).getD k 0), (fun k => ([0, (u1.2.1 1)] : List Int).getD k 0), (fun k => ([] : List (Nat → Int32)).getD k (fun _ => 0))), rfl, ⟨rfl, (by show (0 ≤ (u1.2.1 1) ∧ (u1.2.1 1) ≤ 602); first | exact hq1_1 | omega), (by show (0 ≤ 0 ∧ 0 ≤ 1); show (0 : Int) ≤ 0 ∧ (0 : Int) ≤ 1; decide), (by show (ap ≤ (u1.2.1 1)); first | exact hk4 | exact hk6 | exact hk7 | exact hk8), (by show (ap ≤ sz_ → (u1.2.1 1) ≤ sz_); first | exact hk4 | exact hk6 | exact hk7 | exact hk8), (by show ((u1.2.1 1) < sz_ → nz f9 ((u1.2.1 1)).toNat ≠ 32); first | exact hk4 | exact hk6 | exact hk7 | exact hk8), (by show ((ap < sz_ → nz f9 ap.toNat ≠ 32) → (u1.2.1 1) = ap); first | exact hk4 | exact hk6 | exact hk7 | exact hk8), (by show (0 = 1 → (u1.2.1 1) < sz_ ∧ nz f9 ((u1.2.1 1)).toNat = 115); omega), hq1_9⟩, by rw [ht]; exact hP.sub [0, 1] rfl, hD.sub [0, 1] (by decide) rfl⟩, hS.F ht⟩) hS.2.2 dX12_isWord_48
        · refine lv_iconst (v := iI 0) hx hb dX12_isWord_47 (by decide) ?_
          refine W.widen (k := 0) (n := 0) (Nat.le_of_ble_eq_true rfl) (Nat.le_of_ble_eq_true rfl) ?_
          exact W.zret (v := iI 0) hx hb hr (by first | rfl | decide) (fun t ht hW => ⟨⟨iI 0, ((fun k => ([] : List Nat).getD k 0), (fun k => ([0, (u1.2.1 1)] : List Int).getD k 0), (fun k => ([] : List (Nat → Int32)).getD k (fun _ => 0))), rfl, ⟨rfl, (by show (0 ≤ (u1.2.1 1) ∧ (u1.2.1 1) ≤ 602); first | exact hq1_1 | omega), (by show (0 ≤ 0 ∧ 0 ≤ 1); show (0 : Int) ≤ 0 ∧ (0 : Int) ≤ 1; decide), (by show (ap ≤ (u1.2.1 1)); first | exact hk4 | exact hk6 | exact hk7 | exact hk8), (by show (ap ≤ sz_ → (u1.2.1 1) ≤ sz_); first | exact hk4 | exact hk6 | exact hk7 | exact hk8), (by show ((u1.2.1 1) < sz_ → nz f9 ((u1.2.1 1)).toNat ≠ 32); first | exact hk4 | exact hk6 | exact hk7 | exact hk8), (by show ((ap < sz_ → nz f9 ap.toNat ≠ 32) → (u1.2.1 1) = ap); first | exact hk4 | exact hk6 | exact hk7 | exact hk8), (by show (0 = 1 → (u1.2.1 1) < sz_ ∧ nz f9 ((u1.2.1 1)).toNat = 115); omega), hq1_9⟩, by rw [ht]; exact hP.sub [0, 1] rfl, hD.sub [0, 1] (by decide) rfl⟩, hS.F ht⟩) hS.2.2 dX12_isWord_48
    · refine lv_iconst (v := iI 0) hx hb dX12_isWord_47 (by decide) ?_
      refine W.widen (k := 0) (n := 0) (Nat.le_of_ble_eq_true rfl) (Nat.le_of_ble_eq_true rfl) ?_
      exact W.zret (v := iI 0) hx hb hr (by first | rfl | decide) (fun t ht hW => ⟨⟨iI 0, ((fun k => ([] : List Nat).getD k 0), (fun k => ([0, (u1.2.1 1)] : List Int).getD k 0), (fun k => ([] : List (Nat → Int32)).getD k (fun _ => 0))), rfl, ⟨rfl, (by show (0 ≤ (u1.2.1 1) ∧ (u1.2.1 1) ≤ 602); first | exact hq1_1 | omega), (by show (0 ≤ 0 ∧ 0 ≤ 1); show (0 : Int) ≤ 0 ∧ (0 : Int) ≤ 1; decide), (by show (ap ≤ (u1.2.1 1)); first | exact hk4 | exact hk6 | exact hk7 | exact hk8), (by show (ap ≤ sz_ → (u1.2.1 1) ≤ sz_); first | exact hk4 | exact hk6 | exact hk7 | exact hk8), (by show ((u1.2.1 1) < sz_ → nz f9 ((u1.2.1 1)).toNat ≠ 32); first | exact hk4 | exact hk6 | exact hk7 | exact hk8), (by show ((ap < sz_ → nz f9 ap.toNat ≠ 32) → (u1.2.1 1) = ap); first | exact hk4 | exact hk6 | exact hk7 | exact hk8), (by show (0 = 1 → (u1.2.1 1) < sz_ ∧ nz f9 ((u1.2.1 1)).toNat = 115); omega), hq1_9⟩, by rw [ht]; exact hP.sub [0, 1] rfl, hD.sub [0, 1] (by decide) rfl⟩, hS.F ht⟩) hS.2.2 dX12_isWord_48
