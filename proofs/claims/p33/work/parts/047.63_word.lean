theorem dX12_word_0 : decode cX12_word 0 = .ok (.aload_n 0, 1) := by decide +kernel
theorem dX12_word_1 : decode cX12_word 1 = .ok (.invokevirtual 92, 3) := by decide +kernel
theorem dX12_word_10 : decode cX12_word 10 = .ok (.getfield 86, 3) := by decide +kernel
theorem dX12_word_13 : decode cX12_word 13 = .ok (.istore_n 3, 1) := by decide +kernel
theorem dX12_word_14 : decode cX12_word 14 = .ok (.iload_n 3, 1) := by decide +kernel
theorem dX12_word_15 : decode cX12_word 15 = .ok (.aload_n 0, 1) := by decide +kernel
theorem dX12_word_16 : decode cX12_word 16 = .ok (.getfield 89, 3) := by decide +kernel
theorem dX12_word_19 : decode cX12_word 19 = .ok (.if_icmp .ge 48, 3) := by decide +kernel
theorem dX12_word_22 : decode cX12_word 22 = .ok (.aload_n 0, 1) := by decide +kernel
theorem dX12_word_23 : decode cX12_word 23 = .ok (.getfield 20, 3) := by decide +kernel
theorem dX12_word_26 : decode cX12_word 26 = .ok (.iload_n 3, 1) := by decide +kernel
theorem dX12_word_27 : decode cX12_word 27 = .ok (.iaload, 1) := by decide +kernel
theorem dX12_word_28 : decode cX12_word 28 = .ok (.invokestatic 96, 3) := by decide +kernel
theorem dX12_word_31 : decode cX12_word 31 = .ok (.ifCond .eq 36, 3) := by decide +kernel
theorem dX12_word_34 : decode cX12_word 34 = .ok (.iload_n 2, 1) := by decide +kernel
theorem dX12_word_35 : decode cX12_word 35 = .ok (.bipush 6, 2) := by decide +kernel
theorem dX12_word_37 : decode cX12_word 37 = .ok (.if_icmp .ge 19, 3) := by decide +kernel
theorem dX12_word_4 : decode cX12_word 4 = .ok (.pop, 1) := by decide +kernel
theorem dX12_word_40 : decode cX12_word 40 = .ok (.iload_n 1, 1) := by decide +kernel
theorem dX12_word_41 : decode cX12_word 41 = .ok (.iconst 5, 1) := by decide +kernel
theorem dX12_word_42 : decode cX12_word 42 = .ok (.ishl, 1) := by decide +kernel
theorem dX12_word_43 : decode cX12_word 43 = .ok (.aload_n 0, 1) := by decide +kernel
theorem dX12_word_44 : decode cX12_word 44 = .ok (.getfield 20, 3) := by decide +kernel
theorem dX12_word_47 : decode cX12_word 47 = .ok (.iload_n 3, 1) := by decide +kernel
theorem dX12_word_48 : decode cX12_word 48 = .ok (.iaload, 1) := by decide +kernel
theorem dX12_word_49 : decode cX12_word 49 = .ok (.bipush 96, 2) := by decide +kernel
theorem dX12_word_5 : decode cX12_word 5 = .ok (.iconst 0, 1) := by decide +kernel
theorem dX12_word_51 : decode cX12_word 51 = .ok (.isub, 1) := by decide +kernel
theorem dX12_word_52 : decode cX12_word 52 = .ok (.ior, 1) := by decide +kernel
theorem dX12_word_53 : decode cX12_word 53 = .ok (.goto 4, 3) := by decide +kernel
theorem dX12_word_56 : decode cX12_word 56 = .ok (.iconst 0, 1) := by decide +kernel
theorem dX12_word_57 : decode cX12_word 57 = .ok (.istore_n 1, 1) := by decide +kernel
theorem dX12_word_58 : decode cX12_word 58 = .ok (.iinc 2 1, 3) := by decide +kernel
theorem dX12_word_6 : decode cX12_word 6 = .ok (.istore_n 1, 1) := by decide +kernel
theorem dX12_word_61 : decode cX12_word 61 = .ok (.iinc 3 1, 3) := by decide +kernel
theorem dX12_word_64 : decode cX12_word 64 = .ok (.goto (-50), 3) := by decide +kernel
theorem dX12_word_67 : decode cX12_word 67 = .ok (.iload_n 2, 1) := by decide +kernel
theorem dX12_word_68 : decode cX12_word 68 = .ok (.bipush 6, 2) := by decide +kernel
theorem dX12_word_7 : decode cX12_word 7 = .ok (.iconst 0, 1) := by decide +kernel
theorem dX12_word_70 : decode cX12_word 70 = .ok (.if_icmp .le 7, 3) := by decide +kernel
theorem dX12_word_73 : decode cX12_word 73 = .ok (.iconst 0, 1) := by decide +kernel
theorem dX12_word_74 : decode cX12_word 74 = .ok (.goto 4, 3) := by decide +kernel
theorem dX12_word_77 : decode cX12_word 77 = .ok (.iload_n 1, 1) := by decide +kernel
theorem dX12_word_78 : decode cX12_word 78 = .ok (.ireturn, 1) := by decide +kernel
theorem dX12_word_8 : decode cX12_word 8 = .ok (.istore_n 2, 1) := by decide +kernel
theorem dX12_word_9 : decode cX12_word 9 = .ok (.aload_n 0, 1) := by decide +kernel
def vs_m_word : List Cond := .code yX12_word cX12_word 4 (some .int) :: (([.fieldLink RX12 86 "KerbSplashModel" "at" "I", .fieldLink RX12 89 "KerbSplashModel" "size" "I", .fieldLink RX12 20 "KerbSplashModel" "tape" "[I"] : List Cond) ++ ((wsV RX12 92 RX12 yX12_here vs_m_here) ++ ((wsX120) ++ ((va_wsS RX12 96 yX12_isSmall vs_m_isSmall) ++ ([])))))
theorem gd_m_word : vs_m_word.all goodWord = true := gd_C (by decide +kernel) (gd_A (by decide +kernel) (gd_A (gd_V gd_m_here (by decide +kernel)) (gd_A (by decide +kernel) (gd_A (gd_S gd_m_isSmall (by decide +kernel)) rfl))))
set_option maxHeartbeats 4000000 in
set_option maxRecDepth 100000 in
theorem m_word (l : Launch) (hl : l.stackTraces = false) (D : va_G) (cy : Nat → ClassId) (sa : Nat → Nat) (mm m1 m9 m10 m11 m12 m13 m14 m15 m19 m20 m21 m23 m24 m25 m26 m27 m28 m33 m35 : Nat) (th tp sz_ ap bad bk opn fp im nr nl sp_ wtc wcl ir ip shu sfa swr : Int) (f9 : Nat → Int32) (sz : Nat) (hr_th : (-2147483648) ≤ th ∧ th ≤ 2147483647) (hr_tp : 0 ≤ tp ∧ tp ≤ 600) (hr_sz_ : 0 ≤ sz_ ∧ sz_ ≤ 600) (hr_ap : 0 ≤ ap ∧ ap ≤ 602) (hr_bad : (-1) ≤ bad ∧ bad ≤ 602) (hr_bk : 0 ≤ bk ∧ bk ≤ 4) (hr_opn : 0 ≤ opn ∧ opn ≤ 7) (hr_fp : (-2147483648) ≤ fp ∧ fp ≤ 2147483647) (hr_im : 0 ≤ im ∧ im ≤ 3) (hr_nr : 0 ≤ nr ∧ nr ≤ 4) (hr_nl : 0 ≤ nl ∧ nl ≤ 4) (hr_sp_ : 0 ≤ sp_ ∧ sp_ ≤ 602) (hr_wtc : (-2147483648) ≤ wtc ∧ wtc ≤ 2147483647) (hr_wcl : 0 ≤ wcl ∧ wcl ≤ 95) (hr_ir : 0 ≤ ir ∧ ir ≤ 5) (hr_ip : (-2147483648) ≤ ip ∧ ip ≤ 2147483647) (hr_shu : (-2147483648) ≤ shu ∧ shu ≤ 2147483647) (hr_sfa : (-2147483648) ≤ sfa ∧ sfa ≤ 2147483647) (hr_swr : (-2147483648) ≤ swr ∧ swr ≤ 2147483647) (hf9 : inv_ 600 0 255 f9) : Met l yX12_word vs_m_word ({ frames := 1, cells := 0, slots := 0, locals := 20 }) (va_Pc [vR mm] (pcW D cy sa sz [zO mm 12 [vI th, vR m1, vI tp, vI sz_, vI ap, vI bad, vI bk, vI opn, vI fp, vR m9, vR m10, vR m11, vR m12, vR m13, vR m14, vR m15, vI im, vI nr, vI nl, vR m19, vR m20, vR m21, vI sp_, vR m23, vR m24, vR m25, vR m26, vR m27, vR m28, vI wtc, vI wcl, vI ir, vI ip, vR m33, vI shu, vR m35, vI sfa, vI swr], zI m9 (cy 0) 600 f9])) (va_Qi (fun (r : Int32) (u : SV) => r = iI (u.2.1 0) ∧ (0 ≤ u.2.1 1 ∧ u.2.1 1 ≤ 602) ∧ ((-2147483648) ≤ u.2.1 0 ∧ u.2.1 0 ≤ 2147483647) ∧ (ap ≤ u.2.1 1) ∧ (u.2.1 0 ≠ 0 → u.2.1 1 < sz_ ∧ 97 ≤ nz f9 (u.2.1 1).toNat ∧ nz f9 (u.2.1 1).toNat ≤ 122) ∧ (u.2.1 1 < sz_ → nz f9 (u.2.1 1).toNat ≠ 32) ∧ ((ap < sz_ → nz f9 ap.toNat ≠ 32) → u.2.1 1 = ap) ∧ (ap ≤ sz_ → u.2.1 1 ≤ sz_) ∧ (u.2.1 0 = wv f9 sz_ (u.2.1 1)) ∧ inv_ 600 0 255 f9) (fun u t => atW D (va_A [zO mm 12 [vI th, vR m1, vI tp, vI sz_, vI ap, vI bad, vI bk, vI opn, vI fp, vR m9, vR m10, vR m11, vR m12, vR m13, vR m14, vR m15, vI im, vI nr, vI nl, vR m19, vR m20, vR m21, vI sp_, vR m23, vR m24, vR m25, vR m26, vR m27, vR m28, vI wtc, vI wcl, vI ir, vI ip, vR m33, vI shu, vR m35, vI sfa, vI swr], zI m9 (cy 0) 600 f9] sz) [zO mm 12 [vI th, vR m1, vI tp, vI sz_, vI (u.2.1 1), vI bad, vI bk, vI opn, vI fp, vR m9, vR m10, vR m11, vR m12, vR m13, vR m14, vR m15, vI im, vI nr, vI nl, vR m19, vR m20, vR m21, vI sp_, vR m23, vR m24, vR m25, vR m26, vR m27, vR m28, vI wtc, vI wcl, vI ir, vI ip, vR m33, vI shu, vR m35, vI sfa, vI swr], zI m9 (cy 0) 600 f9] t) (va_A [zO mm 12 [vI th, vR m1, vI tp, vI sz_, vI ap, vI bad, vI bk, vI opn, vI fp, vR m9, vR m10, vR m11, vR m12, vR m13, vR m14, vR m15, vI im, vI nr, vI nl, vR m19, vR m20, vR m21, vI sp_, vR m23, vR m24, vR m25, vR m26, vR m27, vR m28, vI wtc, vI wcl, vI ir, vI ip, vR m33, vI shu, vR m35, vI sfa, vI swr], zI m9 (cy 0) 600 f9] sz)) 0 0 (va_A [zO mm 12 [vI th, vR m1, vI tp, vI sz_, vI ap, vI bad, vI bk, vI opn, vI fp, vR m9, vR m10, vR m11, vR m12, vR m13, vR m14, vR m15, vI im, vI nr, vI nl, vR m19, vR m20, vR m21, vI sp_, vR m23, vR m24, vR m25, vR m26, vR m27, vR m28, vI wtc, vI wcl, vI ir, vI ip, vR m33, vI shu, vR m35, vI sfa, vI swr], zI m9 (cy 0) 600 f9] sz) := by
  refine Met.ofW (cc := cX12_word) (maxL := 4) (ret := (some .int)) (by decide) rfl ?_
  intro p e s m args below meth c s₁ B hml hv
  obtain ⟨rfl, hsz, hP, hG, hD0, hT⟩ := hv
  have hx := B.exec
  have hb := B.bytes
  have hr := B.returns
  have hts := atoms_spec (ws := vs_m_word) B.pre
  have hown : s.vm.findClass RX12 = some m.cls := findClass_of_methodNamed B.named
  have hlocks := B.notSynchronized
  subst hsz
  have hD := hD0.self (sz := s.heap.size)
  generalize hAe : va_A [zO mm 12 [vI th, vR m1, vI tp, vI sz_, vI ap, vI bad, vI bk, vI opn, vI fp, vR m9, vR m10, vR m11, vR m12, vR m13, vR m14, vR m15, vI im, vI nr, vI nl, vR m19, vR m20, vR m21, vI sp_, vR m23, vR m24, vR m25, vR m26, vR m27, vR m28, vI wtc, vI wcl, vI ir, vI ip, vR m33, vI shu, vR m35, vI sfa, vI swr], zI m9 (cy 0) 600 f9] s.heap.size = A at hD hT ⊢
  have hA : ∀ q : Nat, s.heap.size ≤ q → A q := fun q h => by rw [← hAe]; exact Or.inr h
  have hS : va_S A s.heap s.heap [] := va_S.rf
  have hl0 := lv_entry ([vR mm]) (n := 4) (Nat.le_of_ble_eq_true rfl)
  rw [lg_entry_eq]
  generalize (lg_sl ([vR mm]) ++ List.replicate (4 - (lg_sl ([vR mm])).length) Slot.unset).toArray = ls at hl0 ⊢
  have hlv : lv_has ls 4 [(0, vR mm)] := hl0
  have gg_0 : GoodIn vs_m_word (wsV RX12 92 RX12 yX12_here vs_m_here) := goodIn_sub (fun w h => List.mem_cons_of_mem _ (List.mem_append_right _ (List.mem_append_left _ h))) (gd_V gd_m_here (by decide +kernel))
  have lf86 := hts (.fieldLink RX12 86 "KerbSplashModel" "at" "I") (List.mem_of_getElem? (i := 1) rfl)
  have hi12 : ∀ w ∈ wsX120, w ∈ vs_m_word := fun w h => List.mem_cons_of_mem _ (List.mem_append_right _ (List.mem_append_right _ (List.mem_append_left _ h)))
  have lf89 := hts (.fieldLink RX12 89 "KerbSplashModel" "size" "I") (List.mem_of_getElem? (i := 2) rfl)
  have lf20 := hts (.fieldLink RX12 20 "KerbSplashModel" "tape" "[I") (List.mem_of_getElem? (i := 3) rfl)
  have gg_2 : GoodIn vs_m_word (va_wsS RX12 96 yX12_isSmall vs_m_isSmall) := goodIn_sub (fun w h => List.mem_cons_of_mem _ (List.mem_append_right _ (List.mem_append_right _ (List.mem_append_right _ (List.mem_append_left _ h))))) (gd_S gd_m_isSmall (by decide +kernel))
  refine lv_aload_n hx hb dX12_word_0 rfl (lv_at hlv 0 rfl) ?_
  refine cj_i (wr := []) (va_runV (As := []) (rest := []) ⟨hx, hb, hml, hown, hts⟩ (m_here l hl D cy sa mm m1 m9 m10 m11 m12 m13 m14 m15 m19 m20 m21 m23 m24 m25 m26 m27 m28 m33 m35 th tp sz_ ap bad bk opn fp im nr nl sp_ wtc wcl ir ip shu sfa swr f9 s.heap.size (by first | exact hr_th | omega) (by first | exact hr_tp | omega) (by first | exact hr_sz_ | omega) (by first | exact hr_ap | omega) (by first | exact hr_bad | omega) (by first | exact hr_bk | omega) (by first | exact hr_opn | omega) (by first | exact hr_fp | omega) (by first | exact hr_im | omega) (by first | exact hr_nr | omega) (by first | exact hr_nl | omega) (by first | exact hr_sp_ | omega) (by first | exact hr_wtc | omega) (by first | exact hr_wcl | omega) (by first | exact hr_ir | omega) (by first | exact hr_ip | omega) (by first | exact hr_shu | omega) (by first | exact hr_sfa | omega) (by first | exact hr_swr | omega) hf9) (cwV 0 hts gg_0 rfl rfl rfl (by decide +kernel) ⟨Nat.le_of_ble_eq_true rfl, Nat.le_of_ble_eq_true rfl⟩) ⟨pcW.blind, (va_recv hG.1 hP (ci := 12) (q0 := 0) rfl rfl), (pcW.mk hP hD hS hA hG hT [0, 1] rfl (by decide))⟩ rfl rfl hlv.1 rfl (lv_room (Nat.le_of_ble_eq_true rfl)) dX12_word_1 ⟨Nat.le_of_ble_eq_true rfl, Nat.le_of_ble_eq_true rfl⟩) hP hD hS hA [0, 1] [] rfl rfl (by decide) (by decide) (fun r1 u1 H locs hw1 hP hD hS => ?_)
  obtain ⟨rfl, hq1_1, hq1_2, hq1_3, hq1_4, hq1_5, hq1_6, hq1_7, hq1_8, hq1_9⟩ := hw1
  have hP : va_P D vwCl [zO mm 12 [vI th, vR m1, vI tp, vI sz_, vI (u1.2.1 1), vI bad, vI bk, vI opn, vI fp, vR m9, vR m10, vR m11, vR m12, vR m13, vR m14, vR m15, vI im, vI nr, vI nl, vR m19, vR m20, vR m21, vI sp_, vR m23, vR m24, vR m25, vR m26, vR m27, vR m28, vI wtc, vI wcl, vI ir, vI ip, vR m33, vI shu, vR m35, vI sfa, vI swr], zI m9 (cy 0) 600 f9] H := hP
  have hD : va_D A [zO mm 12 [vI th, vR m1, vI tp, vI sz_, vI (u1.2.1 1), vI bad, vI bk, vI opn, vI fp, vR m9, vR m10, vR m11, vR m12, vR m13, vR m14, vR m15, vI im, vI nr, vI nl, vR m19, vR m20, vR m21, vI sp_, vR m23, vR m24, vR m25, vR m26, vR m27, vR m28, vI wtc, vI wcl, vI ir, vI ip, vR m33, vI shu, vR m35, vI sfa, vI swr], zI m9 (cy 0) 600 f9] := hD
  refine lv_pop hx hb dX12_word_4 rfl ?_
  refine lv_iconst (v := iI 0) hx hb dX12_word_5 (by decide) ?_
  refine lv_istore_n (lv' := [(1, vI 0), (0, vR mm)]) hx hb dX12_word_6 rfl hlv (by decide) rfl (fun ls hlv => ?_)
  refine lv_iconst (v := iI 0) hx hb dX12_word_7 (by decide) ?_
  refine lv_istore_n (lv' := [(2, vI 0), (1, vI 0), (0, vR mm)]) hx hb dX12_word_8 rfl hlv (by decide) rfl (fun ls hlv => ?_)
  refine lv_aload_n hx hb dX12_word_9 rfl (lv_at hlv 2 rfl) ?_
  refine va_get (D := D) (ci := 12) (v := vI (u1.2.1 1)) (C := RX12) (T := TX12) (N := 38) hx hb hts hi12 hown hG.1 hP 0 rfl rfl 4 (by decide) lf86 (fun _ h9 => h9) rfl dX12_word_10 ?_
  refine lv_istore_n (lv' := [(3, vI (u1.2.1 1)), (2, vI 0), (1, vI 0), (0, vR mm)]) hx hb dX12_word_13 rfl hlv (by decide) rfl (fun ls hlv => ?_)
  refine (?_ : ∀ (fu : Nat) (qv : Int) (qn : Int) (qk : Int) (H : Heap) (locs : List Loc) (ls : Array Slot), 602 - qk < (fu : Int) → ((-2147483648) ≤ qv ∧ qv ≤ 2147483647) → (0 ≤ qn ∧ qn ≤ 602) → (0 ≤ qk ∧ qk ≤ 602) → (qn = qk - (u1.2.1 1)) → ((u1.2.1 1) ≤ qk) → (qn = 0 → qv = 0) → ((u1.2.1 1) < qk → (u1.2.1 1) < sz_ ∧ 97 ≤ nz f9 (u1.2.1 1).toNat ∧ nz f9 (u1.2.1 1).toNat ≤ 122) → (qk ≤ sz_ ∨ qk = (u1.2.1 1)) → (wvG f9 sz_ (602 - qk).toNat qk qv qn = wvG f9 sz_ (602 - (u1.2.1 1)).toNat (u1.2.1 1) 0 0) → va_P D vwCl [zO mm 12 [vI th, vR m1, vI tp, vI sz_, vI (u1.2.1 1), vI bad, vI bk, vI opn, vI fp, vR m9, vR m10, vR m11, vR m12, vR m13, vR m14, vR m15, vI im, vI nr, vI nl, vR m19, vR m20, vR m21, vI sp_, vR m23, vR m24, vR m25, vR m26, vR m27, vR m28, vI wtc, vI wcl, vI ir, vI ip, vR m33, vI shu, vR m35, vI sfa, vI swr], zI m9 (cy 0) 600 f9] H → va_D A [zO mm 12 [vI th, vR m1, vI tp, vI sz_, vI (u1.2.1 1), vI bad, vI bk, vI opn, vI fp, vR m9, vR m10, vR m11, vR m12, vR m13, vR m14, vR m15, vI im, vI nr, vI nl, vR m19, vR m20, vR m21, vI sp_, vR m23, vR m24, vR m25, vR m26, vR m27, vR m28, vI wtc, vI wcl, vI ir, vI ip, vR m33, vI shu, vR m35, vI sfa, vI swr], zI m9 (cy 0) 600 f9] → va_S A s.heap H locs → lv_has ls 4 [(3, vI qk), (2, vI qn), (1, vI qv), (0, vR mm)] → W p l e _ s m _ below meth c H locs _ _ _ (F0 m 14 ls [])) (((602 - (u1.2.1 1)) + 1 : Int)).toNat 0 0 (u1.2.1 1) _ _ _ (by omega) (by show ((-2147483648) : Int) ≤ 0 ∧ (0 : Int) ≤ 2147483647; decide) (by show (0 : Int) ≤ 0 ∧ (0 : Int) ≤ 602; decide) (by first | exact hq1_1 | omega) (by omega) (by omega) (by omega) (fun q => absurd q (by omega)) (by omega) rfl  hP hD hS hlv
  clear hP hD hS hlv
  intro fu
  induction fu with
  | zero => intro qv qn qk H locs ls hm14 hl14_0 hl14_1 hl14_2 hl14_3 hl14_4 hl14_5 hl14_6 hl14_7 hl14_8  hP hD hS hlv; omega
  | succ fu ih14 =>
    intro qv qn qk H locs ls hm14 hl14_0 hl14_1 hl14_2 hl14_3 hl14_4 hl14_5 hl14_6 hl14_7 hl14_8  hP hD hS hlv
    refine lv_iload_n hx hb dX12_word_14 rfl (lv_at hlv 0 rfl) ?_
    refine lv_aload_n hx hb dX12_word_15 rfl (lv_at hlv 3 rfl) ?_
    refine va_get (D := D) (ci := 12) (v := vI sz_) (C := RX12) (T := TX12) (N := 38) hx hb hts hi12 hown hG.1 hP 0 rfl rfl 3 (by decide) lf89 (fun _ h9 => h9) rfl dX12_word_16 ?_
    refine ir_ge (tgt := 67) hx hb dX12_word_19 (by decide) (by first | exact rgw hl14_2 (by decide) (by decide) | omega) (by first | exact rgw hr_sz_ (by decide) (by decide) | omega) (fun c_1 => ?_) (fun c_1 => ?_)
    · refine lv_iload_n hx hb dX12_word_67 rfl (lv_at hlv 1 rfl) ?_
      refine lv_bipush (v := iI 6) hx hb dX12_word_68 (by decide) ?_
      refine ir_le (tgt := 77) hx hb dX12_word_70 (by decide) (by first | exact rgw hl14_1 (by decide) (by decide) | omega) (by show ((-2147483648) : Int) ≤ 6 ∧ (6 : Int) ≤ 2147483647; decide) (fun c_2 => ?_) (fun c_2 => ?_)
      · refine lv_iload_n hx hb dX12_word_77 rfl (lv_at hlv 2 rfl) ?_
        refine W.widen (k := 0) (n := 0) (Nat.le_of_ble_eq_true rfl) (Nat.le_of_ble_eq_true rfl) ?_
        exact W.iret (v := iI qv) hx hb hr (fun t ht hW => ⟨⟨iI qv, ((fun k => ([] : List Nat).getD k 0), (fun k => ([qv, (u1.2.1 1)] : List Int).getD k 0), (fun k => ([] : List (Nat → Int32)).getD k (fun _ => 0))), rfl, ⟨rfl, (by show (0 ≤ (u1.2.1 1) ∧ (u1.2.1 1) ≤ 602); first | exact hq1_1 | omega), (by show ((-2147483648) ≤ qv ∧ qv ≤ 2147483647); first | exact hl14_0 | omega), (by show (ap ≤ (u1.2.1 1)); omega), (by show (qv ≠ 0 → (u1.2.1 1) < sz_ ∧ 97 ≤ nz f9 ((u1.2.1 1)).toNat ∧ nz f9 ((u1.2.1 1)).toNat ≤ 122); omega), (by show ((u1.2.1 1) < sz_ → nz f9 ((u1.2.1 1)).toNat ≠ 32); first | omega | assumption), (by show ((ap < sz_ → nz f9 ap.toNat ≠ 32) → (u1.2.1 1) = ap); first | omega | assumption), (by show (ap ≤ sz_ → (u1.2.1 1) ≤ sz_); first | exact hq1_8 | omega), (by show (qv = wv f9 sz_ ((u1.2.1 1))); exact (wv_fin (a := (u1.2.1 1)) hl14_8 (by omega) (by omega))), hq1_9⟩, by rw [ht]; exact hP.sub [0, 1] rfl, hD.sub [0, 1] (by decide) rfl⟩, hS.F ht⟩) hS.2.2 dX12_word_78
      · refine lv_iconst (v := iI 0) hx hb dX12_word_73 (by decide) ?_
        refine lv_goto (tgt := 78) hx hb dX12_word_74 (by decide) ?_
        refine W.widen (k := 0) (n := 0) (Nat.le_of_ble_eq_true rfl) (Nat.le_of_ble_eq_true rfl) ?_
        exact W.iret (v := iI 0) hx hb hr (fun t ht hW => ⟨⟨iI 0, ((fun k => ([] : List Nat).getD k 0), (fun k => ([0, (u1.2.1 1)] : List Int).getD k 0), (fun k => ([] : List (Nat → Int32)).getD k (fun _ => 0))), rfl, ⟨rfl, (by show (0 ≤ (u1.2.1 1) ∧ (u1.2.1 1) ≤ 602); first | exact hq1_1 | omega), (by show ((-2147483648) ≤ 0 ∧ 0 ≤ 2147483647); show ((-2147483648) : Int) ≤ 0 ∧ (0 : Int) ≤ 2147483647; decide), (by show (ap ≤ (u1.2.1 1)); omega), (by show (0 ≠ 0 → (u1.2.1 1) < sz_ ∧ 97 ≤ nz f9 ((u1.2.1 1)).toNat ∧ nz f9 ((u1.2.1 1)).toNat ≤ 122); omega), (by show ((u1.2.1 1) < sz_ → nz f9 ((u1.2.1 1)).toNat ≠ 32); first | omega | assumption), (by show ((ap < sz_ → nz f9 ap.toNat ≠ 32) → (u1.2.1 1) = ap); first | omega | assumption), (by show (ap ≤ sz_ → (u1.2.1 1) ≤ sz_); first | exact hq1_8 | omega), (by show (0 = wv f9 sz_ ((u1.2.1 1))); exact (wv_fin (a := (u1.2.1 1)) hl14_8 (by omega) (by omega))), hq1_9⟩, by rw [ht]; exact hP.sub [0, 1] rfl, hD.sub [0, 1] (by decide) rfl⟩, hS.F ht⟩) hS.2.2 dX12_word_78
    · refine lv_aload_n hx hb dX12_word_22 rfl (lv_at hlv 3 rfl) ?_
      refine va_get (D := D) (ci := 12) (v := vR m9) (C := RX12) (T := TX12) (N := 38) hx hb hts hi12 hown hG.1 hP 0 rfl rfl 9 (by decide) lf20 (fun _ h9 => h9) rfl dX12_word_23 ?_
      refine lv_iload_n hx hb dX12_word_26 rfl (lv_at hlv 0 rfl) ?_
      refine va_iald hx hb hG.1 hP 1 0 rfl rfl (iI_in (by omega) (by decide)) dX12_word_27 ?_
      refine lt_nz (i := qk) (by omega) (fun z_3 hz_3 lz_3 uz_3 => ?_)
      have hbz_3_5 := inv_nz hq1_9 (k := qk.toNat) (by omega)
      refine cj_i (wr := [zO mm 12 [vI th, vR m1, vI tp, vI sz_, vI (u1.2.1 1), vI bad, vI bk, vI opn, vI fp, vR m9, vR m10, vR m11, vR m12, vR m13, vR m14, vR m15, vI im, vI nr, vI nl, vR m19, vR m20, vR m21, vI sp_, vR m23, vR m24, vR m25, vR m26, vR m27, vR m28, vI wtc, vI wcl, vI ir, vI ip, vR m33, vI shu, vR m35, vI sfa, vI swr], zI m9 (cy 0) 600 f9]) (va_runS (As := [vI z_3]) (rest := []) ⟨hx, hb, hml, hown, hts⟩ (m_isSmall l hl D cy sa z_3 H.size (by omega)) (va_cwS 1 hts gg_2 rfl rfl rfl (by decide +kernel) ⟨Nat.le_of_ble_eq_true rfl, Nat.le_of_ble_eq_true rfl⟩) ⟨pcW.blind, (pcW.mk hP hD hS hA hG hT [] rfl (by decide))⟩ rfl rfl hlv.1 rfl (lv_room (Nat.le_of_ble_eq_true rfl)) dX12_word_28 ⟨Nat.le_of_ble_eq_true rfl, Nat.le_of_ble_eq_true rfl⟩) hP hD hS hA [] [0, 1] rfl rfl (by decide) (by decide) (fun r2 u2 H locs hw2 hP hD hS => ?_)
      obtain ⟨rfl, hq2_1, hq2_2, hq2_3⟩ := hw2
      have hP : va_P D vwCl [zO mm 12 [vI th, vR m1, vI tp, vI sz_, vI (u1.2.1 1), vI bad, vI bk, vI opn, vI fp, vR m9, vR m10, vR m11, vR m12, vR m13, vR m14, vR m15, vI im, vI nr, vI nl, vR m19, vR m20, vR m21, vI sp_, vR m23, vR m24, vR m25, vR m26, vR m27, vR m28, vI wtc, vI wcl, vI ir, vI ip, vR m33, vI shu, vR m35, vI sfa, vI swr], zI m9 (cy 0) 600 f9] H := hP
      have hD : va_D A [zO mm 12 [vI th, vR m1, vI tp, vI sz_, vI (u1.2.1 1), vI bad, vI bk, vI opn, vI fp, vR m9, vR m10, vR m11, vR m12, vR m13, vR m14, vR m15, vI im, vI nr, vI nl, vR m19, vR m20, vR m21, vI sp_, vR m23, vR m24, vR m25, vR m26, vR m27, vR m28, vI wtc, vI wcl, vI ir, vI ip, vR m33, vI shu, vR m35, vI sfa, vI swr], zI m9 (cy 0) 600 f9] := hD
      refine iz_eq (tgt := 67) hx hb dX12_word_31 (by decide) (by first | exact rgw hq2_1 (by decide) (by decide) | omega) (fun c_4 => ?_) (fun c_4 => ?_)
      · refine lv_iload_n hx hb dX12_word_67 rfl (lv_at hlv 1 rfl) ?_
        refine lv_bipush (v := iI 6) hx hb dX12_word_68 (by decide) ?_
        refine ir_le (tgt := 77) hx hb dX12_word_70 (by decide) (by first | exact rgw hl14_1 (by decide) (by decide) | omega) (by show ((-2147483648) : Int) ≤ 6 ∧ (6 : Int) ≤ 2147483647; decide) (fun c_5 => ?_) (fun c_5 => ?_)
        · refine lv_iload_n hx hb dX12_word_77 rfl (lv_at hlv 2 rfl) ?_
          refine W.widen (k := 0) (n := 0) (Nat.le_of_ble_eq_true rfl) (Nat.le_of_ble_eq_true rfl) ?_
          exact W.iret (v := iI qv) hx hb hr (fun t ht hW => ⟨⟨iI qv, ((fun k => ([] : List Nat).getD k 0), (fun k => ([qv, (u1.2.1 1)] : List Int).getD k 0), (fun k => ([] : List (Nat → Int32)).getD k (fun _ => 0))), rfl, ⟨rfl, (by show (0 ≤ (u1.2.1 1) ∧ (u1.2.1 1) ≤ 602); first | exact hq1_1 | omega), (by show ((-2147483648) ≤ qv ∧ qv ≤ 2147483647); first | exact hl14_0 | omega), (by show (ap ≤ (u1.2.1 1)); omega), (by show (qv ≠ 0 → (u1.2.1 1) < sz_ ∧ 97 ≤ nz f9 ((u1.2.1 1)).toNat ∧ nz f9 ((u1.2.1 1)).toNat ≤ 122); omega), (by show ((u1.2.1 1) < sz_ → nz f9 ((u1.2.1 1)).toNat ≠ 32); first | omega | assumption), (by show ((ap < sz_ → nz f9 ap.toNat ≠ 32) → (u1.2.1 1) = ap); first | omega | assumption), (by show (ap ≤ sz_ → (u1.2.1 1) ≤ sz_); first | exact hq1_8 | omega), (by show (qv = wv f9 sz_ ((u1.2.1 1))); exact (wv_fin (a := (u1.2.1 1)) hl14_8 (by omega) (by omega))), hq1_9⟩, by rw [ht]; exact hP.sub [0, 1] rfl, hD.sub [0, 1] (by decide) rfl⟩, hS.F ht⟩) hS.2.2 dX12_word_78
        · refine lv_iconst (v := iI 0) hx hb dX12_word_73 (by decide) ?_
          refine lv_goto (tgt := 78) hx hb dX12_word_74 (by decide) ?_
          refine W.widen (k := 0) (n := 0) (Nat.le_of_ble_eq_true rfl) (Nat.le_of_ble_eq_true rfl) ?_
          exact W.iret (v := iI 0) hx hb hr (fun t ht hW => ⟨⟨iI 0, ((fun k => ([] : List Nat).getD k 0), (fun k => ([0, (u1.2.1 1)] : List Int).getD k 0), (fun k => ([] : List (Nat → Int32)).getD k (fun _ => 0))), rfl, ⟨rfl, (by show (0 ≤ (u1.2.1 1) ∧ (u1.2.1 1) ≤ 602); first | exact hq1_1 | omega), (by show ((-2147483648) ≤ 0 ∧ 0 ≤ 2147483647); show ((-2147483648) : Int) ≤ 0 ∧ (0 : Int) ≤ 2147483647; decide), (by show (ap ≤ (u1.2.1 1)); omega), (by show (0 ≠ 0 → (u1.2.1 1) < sz_ ∧ 97 ≤ nz f9 ((u1.2.1 1)).toNat ∧ nz f9 ((u1.2.1 1)).toNat ≤ 122); omega), (by show ((u1.2.1 1) < sz_ → nz f9 ((u1.2.1 1)).toNat ≠ 32); first | omega | assumption), (by show ((ap < sz_ → nz f9 ap.toNat ≠ 32) → (u1.2.1 1) = ap); first | omega | assumption), (by show (ap ≤ sz_ → (u1.2.1 1) ≤ sz_); first | exact hq1_8 | omega), (by show (0 = wv f9 sz_ ((u1.2.1 1))); exact (wv_fin (a := (u1.2.1 1)) hl14_8 (by omega) (by omega))), hq1_9⟩, by rw [ht]; exact hP.sub [0, 1] rfl, hD.sub [0, 1] (by decide) rfl⟩, hS.F ht⟩) hS.2.2 dX12_word_78
      · refine lv_iload_n hx hb dX12_word_34 rfl (lv_at hlv 1 rfl) ?_
        refine lv_bipush (v := iI 6) hx hb dX12_word_35 (by decide) ?_
        refine ir_ge (tgt := 56) hx hb dX12_word_37 (by decide) (by first | exact rgw hl14_1 (by decide) (by decide) | omega) (by show ((-2147483648) : Int) ≤ 6 ∧ (6 : Int) ≤ 2147483647; decide) (fun c_6 => ?_) (fun c_6 => ?_)
        · refine lv_iconst (v := iI 0) hx hb dX12_word_56 (by decide) ?_
          refine lv_istore_n (lv' := [(1, vI 0), (3, vI qk), (2, vI qn), (0, vR mm)]) hx hb dX12_word_57 rfl hlv (by decide) rfl (fun ls hlv => ?_)
          obtain ⟨z_7, hz_7⟩ : ∃ z : Int, z = qn + 1 := ⟨_, rfl⟩
          refine lv_iinc (v := iI z_7) (lv' := [(2, vI z_7), (1, vI 0), (3, vI qk), (0, vR mm)]) hx hb dX12_word_58 hlv (k := 2) rfl (by rw [hz_7]; exact (Int32.ofInt_add _ _).symm) (by decide) rfl (fun ls hlv => ?_)
          obtain ⟨z_8, hz_8⟩ : ∃ z : Int, z = qk + 1 := ⟨_, rfl⟩
          refine lv_iinc (v := iI z_8) (lv' := [(3, vI z_8), (2, vI z_7), (1, vI 0), (0, vR mm)]) hx hb dX12_word_61 hlv (k := 2) rfl (by rw [hz_8]; exact (Int32.ofInt_add _ _).symm) (by decide) rfl (fun ls hlv => ?_)
          refine lv_goto (tgt := 14) hx hb dX12_word_64 (by decide) ?_
          exact ih14 0 z_7 z_8 H locs ls (by omega) (by show ((-2147483648) : Int) ≤ 0 ∧ (0 : Int) ≤ 2147483647; decide) (by omega) (by omega) (by omega) (by omega) (by omega) (by by_cases q9 : qk = (u1.2.1 1); (subst q9; omega); omega) (by omega) (wvG_step hl14_8 (by omega) (by omega) (by omega) (Or.inr ⟨by omega, rfl⟩) (by omega))  (hP.sub [0, 1] rfl) (hD.sub [0, 1] (by decide) rfl) hS (lv_sub hlv [0, 1, 2, 3] rfl)
        · refine lv_iload_n hx hb dX12_word_40 rfl (lv_at hlv 2 rfl) ?_
          refine lv_iconst (v := iI 5) hx hb dX12_word_41 (by decide) ?_
          refine lv_ishl hx hb dX12_word_42 ?_
          refine lt_z (fun z_9 ez_9 lz_9 hz_9 => ?_)
          refine lv_aload_n hx hb dX12_word_43 rfl (lv_at hlv 3 rfl) ?_
          refine va_get (D := D) (ci := 12) (v := vR m9) (C := RX12) (T := TX12) (N := 38) hx hb hts hi12 hown hG.1 hP 0 rfl rfl 9 (by decide) lf20 (fun _ h9 => h9) rfl dX12_word_44 ?_
          refine lv_iload_n hx hb dX12_word_47 rfl (lv_at hlv 0 rfl) ?_
          refine va_iald hx hb hG.1 hP 1 0 rfl rfl (iI_in (by omega) (by decide)) dX12_word_48 ?_
          refine lt_nz (i := qk) (by omega) (fun z_10 hz_10 lz_10 uz_10 => ?_)
          have hbz_10_9 := inv_nz hq1_9 (k := qk.toNat) (by omega)
          refine lv_bipush (v := iI 96) hx hb dX12_word_49 (by decide) ?_
          refine lv_isub hx hb dX12_word_51 ?_
          refine lt_e (e0 := z_10 - 96) (Int32.ofInt_sub _ _).symm (fun z_11 hz_11 => ?_)
          refine lv_ior hx hb dX12_word_52 ?_
          refine lt_z (fun z_12 ez_12 lz_12 hz_12 => ?_)
          refine lv_goto (tgt := 57) hx hb dX12_word_53 (by decide) ?_
          refine lv_istore_n (lv' := [(1, vI z_12), (3, vI qk), (2, vI qn), (0, vR mm)]) hx hb dX12_word_57 rfl hlv (by decide) rfl (fun ls hlv => ?_)
          obtain ⟨z_13, hz_13⟩ : ∃ z : Int, z = qn + 1 := ⟨_, rfl⟩
          refine lv_iinc (v := iI z_13) (lv' := [(2, vI z_13), (1, vI z_12), (3, vI qk), (0, vR mm)]) hx hb dX12_word_58 hlv (k := 2) rfl (by rw [hz_13]; exact (Int32.ofInt_add _ _).symm) (by decide) rfl (fun ls hlv => ?_)
          obtain ⟨z_14, hz_14⟩ : ∃ z : Int, z = qk + 1 := ⟨_, rfl⟩
          refine lv_iinc (v := iI z_14) (lv' := [(3, vI z_14), (2, vI z_13), (1, vI z_12), (0, vR mm)]) hx hb dX12_word_61 hlv (k := 2) rfl (by rw [hz_14]; exact (Int32.ofInt_add _ _).symm) (by decide) rfl (fun ls hlv => ?_)
          refine lv_goto (tgt := 14) hx hb dX12_word_64 (by decide) ?_
          exact ih14 z_12 z_13 z_14 H locs ls (by omega) (by omega) (by omega) (by omega) (by omega) (by omega) (by omega) (by by_cases q9 : qk = (u1.2.1 1); (subst q9; omega); omega) (by omega) (wvG_step hl14_8 (by omega) (by omega) (by omega) (Or.inl ⟨by omega, nx_eq ez_9 (by omega) ez_12 (by omega)⟩) (by omega))  (hP.sub [0, 1] rfl) (hD.sub [0, 1] (by decide) rfl) hS (lv_sub hlv [0, 1, 2, 3] rfl)
