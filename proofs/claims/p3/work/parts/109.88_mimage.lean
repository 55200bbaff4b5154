theorem dX12_image_0 : decode cX12_image 0 = .ok (.aload_n 0, 1) := by decide +kernel
theorem dX12_image_1 : decode cX12_image 1 = .ok (.iconst 0, 1) := by decide +kernel
theorem dX12_image_10 : decode cX12_image 10 = .ok (.if_icmp .ne 5, 3) := by decide +kernel
theorem dX12_image_13 : decode cX12_image 13 = .ok (.iconst (-1), 1) := by decide +kernel
theorem dX12_image_14 : decode cX12_image 14 = .ok (.ireturn, 1) := by decide +kernel
theorem dX12_image_15 : decode cX12_image 15 = .ok (.iconst 0, 1) := by decide +kernel
theorem dX12_image_16 : decode cX12_image 16 = .ok (.istore_n 1, 1) := by decide +kernel
theorem dX12_image_17 : decode cX12_image 17 = .ok (.iload_n 1, 1) := by decide +kernel
theorem dX12_image_18 : decode cX12_image 18 = .ok (.sipush 389, 3) := by decide +kernel
theorem dX12_image_2 : decode cX12_image 2 = .ok (.putfield 1, 3) := by decide +kernel
theorem dX12_image_21 : decode cX12_image 21 = .ok (.if_icmp .ge 30, 3) := by decide +kernel
theorem dX12_image_24 : decode cX12_image 24 = .ok (.aload_n 0, 1) := by decide +kernel
theorem dX12_image_25 : decode cX12_image 25 = .ok (.getfield 38, 3) := by decide +kernel
theorem dX12_image_28 : decode cX12_image 28 = .ok (.sipush 389, 3) := by decide +kernel
theorem dX12_image_31 : decode cX12_image 31 = .ok (.aload_n 0, 1) := by decide +kernel
theorem dX12_image_32 : decode cX12_image 32 = .ok (.getfield 201, 3) := by decide +kernel
theorem dX12_image_35 : decode cX12_image 35 = .ok (.imul, 1) := by decide +kernel
theorem dX12_image_36 : decode cX12_image 36 = .ok (.iload_n 1, 1) := by decide +kernel
theorem dX12_image_37 : decode cX12_image 37 = .ok (.iadd, 1) := by decide +kernel
theorem dX12_image_38 : decode cX12_image 38 = .ok (.aload_n 0, 1) := by decide +kernel
theorem dX12_image_39 : decode cX12_image 39 = .ok (.getfield 29, 3) := by decide +kernel
theorem dX12_image_42 : decode cX12_image 42 = .ok (.iload_n 1, 1) := by decide +kernel
theorem dX12_image_43 : decode cX12_image 43 = .ok (.iaload, 1) := by decide +kernel
theorem dX12_image_44 : decode cX12_image 44 = .ok (.iastore, 1) := by decide +kernel
theorem dX12_image_45 : decode cX12_image 45 = .ok (.iinc 1 1, 3) := by decide +kernel
theorem dX12_image_48 : decode cX12_image 48 = .ok (.goto (-31), 3) := by decide +kernel
theorem dX12_image_5 : decode cX12_image 5 = .ok (.aload_n 0, 1) := by decide +kernel
theorem dX12_image_51 : decode cX12_image 51 = .ok (.aload_n 0, 1) := by decide +kernel
theorem dX12_image_52 : decode cX12_image 52 = .ok (.dup, 1) := by decide +kernel
theorem dX12_image_53 : decode cX12_image 53 = .ok (.getfield 201, 3) := by decide +kernel
theorem dX12_image_56 : decode cX12_image 56 = .ok (.iconst 1, 1) := by decide +kernel
theorem dX12_image_57 : decode cX12_image 57 = .ok (.iadd, 1) := by decide +kernel
theorem dX12_image_58 : decode cX12_image 58 = .ok (.putfield 201, 3) := by decide +kernel
theorem dX12_image_6 : decode cX12_image 6 = .ok (.getfield 201, 3) := by decide +kernel
theorem dX12_image_61 : decode cX12_image 61 = .ok (.aload_n 0, 1) := by decide +kernel
theorem dX12_image_62 : decode cX12_image 62 = .ok (.getfield 201, 3) := by decide +kernel
theorem dX12_image_65 : decode cX12_image 65 = .ok (.ireturn, 1) := by decide +kernel
theorem dX12_image_9 : decode cX12_image 9 = .ok (.iconst 3, 1) := by decide +kernel
theorem dX12_restore_0 : decode cX12_restore 0 = .ok (.aload_n 0, 1) := by decide +kernel
theorem dX12_restore_1 : decode cX12_restore 1 = .ok (.iconst 0, 1) := by decide +kernel
theorem dX12_restore_12 : decode cX12_restore 12 = .ok (.iconst (-1), 1) := by decide +kernel
theorem dX12_restore_13 : decode cX12_restore 13 = .ok (.ireturn, 1) := by decide +kernel
theorem dX12_restore_14 : decode cX12_restore 14 = .ok (.aload_n 0, 1) := by decide +kernel
theorem dX12_restore_15 : decode cX12_restore 15 = .ok (.dup, 1) := by decide +kernel
theorem dX12_restore_16 : decode cX12_restore 16 = .ok (.getfield 201, 3) := by decide +kernel
theorem dX12_restore_19 : decode cX12_restore 19 = .ok (.iconst 1, 1) := by decide +kernel
theorem dX12_restore_2 : decode cX12_restore 2 = .ok (.putfield 1, 3) := by decide +kernel
theorem dX12_restore_20 : decode cX12_restore 20 = .ok (.isub, 1) := by decide +kernel
theorem dX12_restore_21 : decode cX12_restore 21 = .ok (.putfield 201, 3) := by decide +kernel
theorem dX12_restore_24 : decode cX12_restore 24 = .ok (.iconst 0, 1) := by decide +kernel
theorem dX12_restore_25 : decode cX12_restore 25 = .ok (.istore_n 1, 1) := by decide +kernel
theorem dX12_restore_26 : decode cX12_restore 26 = .ok (.iload_n 1, 1) := by decide +kernel
theorem dX12_restore_27 : decode cX12_restore 27 = .ok (.sipush 389, 3) := by decide +kernel
theorem dX12_restore_30 : decode cX12_restore 30 = .ok (.if_icmp .ge 30, 3) := by decide +kernel
theorem dX12_restore_33 : decode cX12_restore 33 = .ok (.aload_n 0, 1) := by decide +kernel
theorem dX12_restore_34 : decode cX12_restore 34 = .ok (.getfield 29, 3) := by decide +kernel
theorem dX12_restore_37 : decode cX12_restore 37 = .ok (.iload_n 1, 1) := by decide +kernel
theorem dX12_restore_38 : decode cX12_restore 38 = .ok (.aload_n 0, 1) := by decide +kernel
theorem dX12_restore_39 : decode cX12_restore 39 = .ok (.getfield 38, 3) := by decide +kernel
theorem dX12_restore_42 : decode cX12_restore 42 = .ok (.sipush 389, 3) := by decide +kernel
theorem dX12_restore_45 : decode cX12_restore 45 = .ok (.aload_n 0, 1) := by decide +kernel
theorem dX12_restore_46 : decode cX12_restore 46 = .ok (.getfield 201, 3) := by decide +kernel
theorem dX12_restore_49 : decode cX12_restore 49 = .ok (.imul, 1) := by decide +kernel
theorem dX12_restore_5 : decode cX12_restore 5 = .ok (.aload_n 0, 1) := by decide +kernel
theorem dX12_restore_50 : decode cX12_restore 50 = .ok (.iload_n 1, 1) := by decide +kernel
theorem dX12_restore_51 : decode cX12_restore 51 = .ok (.iadd, 1) := by decide +kernel
theorem dX12_restore_52 : decode cX12_restore 52 = .ok (.iaload, 1) := by decide +kernel
theorem dX12_restore_53 : decode cX12_restore 53 = .ok (.iastore, 1) := by decide +kernel
theorem dX12_restore_54 : decode cX12_restore 54 = .ok (.iinc 1 1, 3) := by decide +kernel
theorem dX12_restore_57 : decode cX12_restore 57 = .ok (.goto (-31), 3) := by decide +kernel
theorem dX12_restore_6 : decode cX12_restore 6 = .ok (.getfield 201, 3) := by decide +kernel
theorem dX12_restore_60 : decode cX12_restore 60 = .ok (.aload_n 0, 1) := by decide +kernel
theorem dX12_restore_61 : decode cX12_restore 61 = .ok (.getfield 201, 3) := by decide +kernel
theorem dX12_restore_64 : decode cX12_restore 64 = .ok (.ireturn, 1) := by decide +kernel
theorem dX12_restore_9 : decode cX12_restore 9 = .ok (.ifCond .ne 5, 3) := by decide +kernel
def vs_m_image : List Cond := .code yX12_image cX12_image 2 (some .int) :: (([.fieldLink RX12 1 "KerbSplashModel" "thrown" "I", .fieldLink RX12 201 "KerbSplashModel" "images" "I", .fieldLink RX12 38 "KerbSplashModel" "image" "[I", .fieldLink RX12 29 "KerbSplashModel" "s" "[I"] : List Cond) ++ ((wsX120) ++ ([])))
set_option maxHeartbeats 4000000 in
set_option maxRecDepth 100000 in
theorem m_image (l : Launch) (hl : l.stackTraces = false) (D : va_G) (cy : Nat → ClassId) (sa : Nat → Nat) (mm m1 m9 m10 m11 m12 m13 m14 m15 m19 m20 m21 m23 m24 m25 m26 m27 m28 m33 m35 : Nat) (th tp sz_ ap bad bk opn fp im nr nl sp_ wtc wcl ir ip shu sfa swr : Int) (f12 f15 : Nat → Int32) (sz : Nat) (hr_th : (-2147483648) ≤ th ∧ th ≤ 2147483647) (hr_tp : 0 ≤ tp ∧ tp ≤ 600) (hr_sz_ : 0 ≤ sz_ ∧ sz_ ≤ 600) (hr_ap : 0 ≤ ap ∧ ap ≤ 602) (hr_bad : (-1) ≤ bad ∧ bad ≤ 602) (hr_bk : 0 ≤ bk ∧ bk ≤ 4) (hr_opn : 0 ≤ opn ∧ opn ≤ 7) (hr_fp : (-2147483648) ≤ fp ∧ fp ≤ 2147483647) (hr_im : 0 ≤ im ∧ im ≤ 3) (hr_nr : 0 ≤ nr ∧ nr ≤ 4) (hr_nl : 0 ≤ nl ∧ nl ≤ 4) (hr_sp_ : 0 ≤ sp_ ∧ sp_ ≤ 602) (hr_wtc : (-2147483648) ≤ wtc ∧ wtc ≤ 2147483647) (hr_wcl : 0 ≤ wcl ∧ wcl ≤ 95) (hr_ir : 0 ≤ ir ∧ ir ≤ 5) (hr_ip : (-2147483648) ≤ ip ∧ ip ≤ 2147483647) (hr_shu : (-2147483648) ≤ shu ∧ shu ≤ 2147483647) (hr_sfa : (-2147483648) ≤ sfa ∧ sfa ≤ 2147483647) (hr_swr : (-2147483648) ≤ swr ∧ swr ≤ 2147483647) (hn_im : IM f15) (hf12 : SI 8 f12) : Met l yX12_image vs_m_image ({ frames := 0, cells := 0, slots := 0, locals := 0 }) (va_Pc [vR mm] (pcW D cy sa sz [zO mm 12 [vI th, vR m1, vI tp, vI sz_, vI ap, vI bad, vI bk, vI opn, vI fp, vR m9, vR m10, vR m11, vR m12, vR m13, vR m14, vR m15, vI im, vI nr, vI nl, vR m19, vR m20, vR m21, vI sp_, vR m23, vR m24, vR m25, vR m26, vR m27, vR m28, vI wtc, vI wcl, vI ir, vI ip, vR m33, vI shu, vR m35, vI sfa, vI swr], zI m12 (cy 0) 389 f12, zI m15 (cy 0) 1167 f15])) (va_Qi (fun (r : Int32) (u : SV) => r = iI (u.2.1 0) ∧ (0 ≤ u.2.1 1 ∧ u.2.1 1 ≤ 3) ∧ ((-2147483648) ≤ u.2.1 0 ∧ u.2.1 0 ≤ 2147483647) ∧ (IM (u.2.2 0)) ∧ SI 8 f12) (fun u t => atW D (va_A [zO mm 12 [vI th, vR m1, vI tp, vI sz_, vI ap, vI bad, vI bk, vI opn, vI fp, vR m9, vR m10, vR m11, vR m12, vR m13, vR m14, vR m15, vI im, vI nr, vI nl, vR m19, vR m20, vR m21, vI sp_, vR m23, vR m24, vR m25, vR m26, vR m27, vR m28, vI wtc, vI wcl, vI ir, vI ip, vR m33, vI shu, vR m35, vI sfa, vI swr], zI m12 (cy 0) 389 f12, zI m15 (cy 0) 1167 f15] sz) [zO mm 12 [vI 0, vR m1, vI tp, vI sz_, vI ap, vI bad, vI bk, vI opn, vI fp, vR m9, vR m10, vR m11, vR m12, vR m13, vR m14, vR m15, vI (u.2.1 1), vI nr, vI nl, vR m19, vR m20, vR m21, vI sp_, vR m23, vR m24, vR m25, vR m26, vR m27, vR m28, vI wtc, vI wcl, vI ir, vI ip, vR m33, vI shu, vR m35, vI sfa, vI swr], zI m12 (cy 0) 389 f12, zI m15 (cy 0) 1167 (u.2.2 0)] t) (va_A [zO mm 12 [vI th, vR m1, vI tp, vI sz_, vI ap, vI bad, vI bk, vI opn, vI fp, vR m9, vR m10, vR m11, vR m12, vR m13, vR m14, vR m15, vI im, vI nr, vI nl, vR m19, vR m20, vR m21, vI sp_, vR m23, vR m24, vR m25, vR m26, vR m27, vR m28, vI wtc, vI wcl, vI ir, vI ip, vR m33, vI shu, vR m35, vI sfa, vI swr], zI m12 (cy 0) 389 f12, zI m15 (cy 0) 1167 f15] sz)) 0 0 (va_A [zO mm 12 [vI th, vR m1, vI tp, vI sz_, vI ap, vI bad, vI bk, vI opn, vI fp, vR m9, vR m10, vR m11, vR m12, vR m13, vR m14, vR m15, vI im, vI nr, vI nl, vR m19, vR m20, vR m21, vI sp_, vR m23, vR m24, vR m25, vR m26, vR m27, vR m28, vI wtc, vI wcl, vI ir, vI ip, vR m33, vI shu, vR m35, vI sfa, vI swr], zI m12 (cy 0) 389 f12, zI m15 (cy 0) 1167 f15] sz) := by
  refine Met.ofW (cc := cX12_image) (maxL := 2) (ret := (some .int)) (by decide) rfl ?_
  intro p e s m args below meth c s₁ B hml hv
  obtain ⟨rfl, hsz, hP, hG, hD0, hT⟩ := hv
  have hx := B.exec
  have hb := B.bytes
  have hr := B.returns
  have hts := atoms_spec (ws := vs_m_image) B.pre
  have hown : s.vm.findClass RX12 = some m.cls := findClass_of_methodNamed B.named
  have hlocks := B.notSynchronized
  subst hsz
  have hD := hD0.self (sz := s.heap.size)
  generalize hAe : va_A [zO mm 12 [vI th, vR m1, vI tp, vI sz_, vI ap, vI bad, vI bk, vI opn, vI fp, vR m9, vR m10, vR m11, vR m12, vR m13, vR m14, vR m15, vI im, vI nr, vI nl, vR m19, vR m20, vR m21, vI sp_, vR m23, vR m24, vR m25, vR m26, vR m27, vR m28, vI wtc, vI wcl, vI ir, vI ip, vR m33, vI shu, vR m35, vI sfa, vI swr], zI m12 (cy 0) 389 f12, zI m15 (cy 0) 1167 f15] s.heap.size = A at hD hT ⊢
  have hA : ∀ q : Nat, s.heap.size ≤ q → A q := fun q h => by rw [← hAe]; exact Or.inr h
  have hS : va_S A s.heap s.heap [] := va_S.rf
  have hl0 := lv_entry ([vR mm]) (n := 2) (Nat.le_of_ble_eq_true rfl)
  rw [lg_entry_eq]
  generalize (lg_sl ([vR mm]) ++ List.replicate (2 - (lg_sl ([vR mm])).length) Slot.unset).toArray = ls at hl0 ⊢
  have hlv : lv_has ls 2 [(0, vR mm)] := hl0
  have lf1 := hts (.fieldLink RX12 1 "KerbSplashModel" "thrown" "I") (List.mem_of_getElem? (i := 1) rfl)
  have hi12 : ∀ w ∈ wsX120, w ∈ vs_m_image := fun w h => List.mem_cons_of_mem _ (List.mem_append_right _ (List.mem_append_left _ h))
  have lf201 := hts (.fieldLink RX12 201 "KerbSplashModel" "images" "I") (List.mem_of_getElem? (i := 2) rfl)
  have lf38 := hts (.fieldLink RX12 38 "KerbSplashModel" "image" "[I") (List.mem_of_getElem? (i := 3) rfl)
  have lf29 := hts (.fieldLink RX12 29 "KerbSplashModel" "s" "[I") (List.mem_of_getElem? (i := 4) rfl)
  refine lv_aload_n hx hb dX12_image_0 rfl (lv_at hlv 0 rfl) ?_
  refine lv_iconst (v := iI 0) hx hb dX12_image_1 (by decide) ?_
  refine va_put (D := D) (ci := 12) (v := vI 0) (ty := .int) (C := RX12) (T := TX12) (N := 38) hx hb hts hi12 tyX12 tyX12_ok nmX12 hown hG.1 hP hD hS 0 rfl rfl 0 (by decide) lf1 (fun _ h9 => h9) rfl (by decide +kernel) rfl rfl (Nat.le_of_ble_eq_true rfl) dX12_image_2 (fun H locs hP hD hS => ?_)
  have hP : va_P D vwCl [zO mm 12 [vI 0, vR m1, vI tp, vI sz_, vI ap, vI bad, vI bk, vI opn, vI fp, vR m9, vR m10, vR m11, vR m12, vR m13, vR m14, vR m15, vI im, vI nr, vI nl, vR m19, vR m20, vR m21, vI sp_, vR m23, vR m24, vR m25, vR m26, vR m27, vR m28, vI wtc, vI wcl, vI ir, vI ip, vR m33, vI shu, vR m35, vI sfa, vI swr], zI m12 (cy 0) 389 f12, zI m15 (cy 0) 1167 f15] H := hP
  have hD : va_D A [zO mm 12 [vI 0, vR m1, vI tp, vI sz_, vI ap, vI bad, vI bk, vI opn, vI fp, vR m9, vR m10, vR m11, vR m12, vR m13, vR m14, vR m15, vI im, vI nr, vI nl, vR m19, vR m20, vR m21, vI sp_, vR m23, vR m24, vR m25, vR m26, vR m27, vR m28, vI wtc, vI wcl, vI ir, vI ip, vR m33, vI shu, vR m35, vI sfa, vI swr], zI m12 (cy 0) 389 f12, zI m15 (cy 0) 1167 f15] := hD
  refine lv_aload_n hx hb dX12_image_5 rfl (lv_at hlv 0 rfl) ?_
  refine va_get (D := D) (ci := 12) (v := vI im) (C := RX12) (T := TX12) (N := 38) hx hb hts hi12 hown hG.1 hP 0 rfl rfl 16 (by decide) lf201 (fun _ h9 => h9) rfl dX12_image_6 ?_
  refine lv_iconst (v := iI 3) hx hb dX12_image_9 (by decide) ?_
  refine ir_ne (tgt := 15) hx hb dX12_image_10 (by decide) (by first | exact rgw hr_im (by decide) (by decide) | omega) (by show ((-2147483648) : Int) ≤ 3 ∧ (3 : Int) ≤ 2147483647; decide) (fun c_1 => ?_) (fun c_1 => ?_)
  · refine lv_iconst (v := iI 0) hx hb dX12_image_15 (by decide) ?_
    refine lv_istore_n (lv' := [(1, vI 0), (0, vR mm)]) hx hb dX12_image_16 rfl hlv (by decide) rfl (fun ls hlv => ?_)
    refine (?_ : ∀ (fu : Nat) (q1 : Int) (ig : Nat → Int32) (H : Heap) (locs : List Loc) (ls : Array Slot), 389 - q1 < (fu : Int) → (0 ≤ q1 ∧ q1 ≤ 389) → ((∀ j : Nat, (j : Int) < q1 → ig (389 * im.toNat + j) = f12 j) ∧ ∀ j : Nat, ((j : Int) < 389 * im ∨ 389 * im + 389 ≤ j) → ig j = f15 j) → va_P D vwCl [zO mm 12 [vI 0, vR m1, vI tp, vI sz_, vI ap, vI bad, vI bk, vI opn, vI fp, vR m9, vR m10, vR m11, vR m12, vR m13, vR m14, vR m15, vI im, vI nr, vI nl, vR m19, vR m20, vR m21, vI sp_, vR m23, vR m24, vR m25, vR m26, vR m27, vR m28, vI wtc, vI wcl, vI ir, vI ip, vR m33, vI shu, vR m35, vI sfa, vI swr], zI m12 (cy 0) 389 f12, zI m15 (cy 0) 1167 ig] H → va_D A [zO mm 12 [vI 0, vR m1, vI tp, vI sz_, vI ap, vI bad, vI bk, vI opn, vI fp, vR m9, vR m10, vR m11, vR m12, vR m13, vR m14, vR m15, vI im, vI nr, vI nl, vR m19, vR m20, vR m21, vI sp_, vR m23, vR m24, vR m25, vR m26, vR m27, vR m28, vI wtc, vI wcl, vI ir, vI ip, vR m33, vI shu, vR m35, vI sfa, vI swr], zI m12 (cy 0) 389 f12, zI m15 (cy 0) 1167 ig] → va_S A s.heap H locs → lv_has ls 2 [(1, vI q1), (0, vR mm)] → W p l e _ s m _ below meth c H locs _ _ _ (F0 m 17 ls [])) (((389 - 0) + 1 : Int)).toNat 0 f15 _ _ _ (by omega) (by show (0 : Int) ≤ 0 ∧ (0 : Int) ≤ 389; decide) ⟨fun j hj => absurd hj (by omega), fun _ _ => rfl⟩  hP hD hS hlv
    clear hP hD hS hlv
    intro fu
    induction fu with
    | zero => intro q1 ig H locs ls hm17 hl17_0 hl17_1  hP hD hS hlv; omega
    | succ fu ih17 =>
      intro q1 ig H locs ls hm17 hl17_0 hl17_1  hP hD hS hlv
      refine lv_iload_n hx hb dX12_image_17 rfl (lv_at hlv 0 rfl) ?_
      refine lv_sipush (v := iI 389) hx hb dX12_image_18 (by decide) ?_
      refine ir_ge (tgt := 51) hx hb dX12_image_21 (by decide) (by first | exact rgw hl17_0 (by decide) (by decide) | omega) (by show ((-2147483648) : Int) ≤ 389 ∧ (389 : Int) ≤ 2147483647; decide) (fun c_2 => ?_) (fun c_2 => ?_)
      · refine lv_aload_n hx hb dX12_image_51 rfl (lv_at hlv 1 rfl) ?_
        refine lv_dup hx hb dX12_image_52 rfl ?_
        refine va_get (D := D) (ci := 12) (v := vI im) (C := RX12) (T := TX12) (N := 38) hx hb hts hi12 hown hG.1 hP 0 rfl rfl 16 (by decide) lf201 (fun _ h9 => h9) rfl dX12_image_53 ?_
        refine lv_iconst (v := iI 1) hx hb dX12_image_56 (by decide) ?_
        refine lv_iadd hx hb dX12_image_57 ?_
        refine lt_e (e0 := im + 1) (Int32.ofInt_add _ _).symm (fun z_3 hz_3 => ?_)
        refine va_put (D := D) (ci := 12) (v := vI z_3) (ty := .int) (C := RX12) (T := TX12) (N := 38) hx hb hts hi12 tyX12 tyX12_ok nmX12 hown hG.1 hP hD hS 0 rfl rfl 16 (by decide) lf201 (fun _ h9 => h9) rfl (by decide +kernel) rfl rfl (Nat.le_of_ble_eq_true rfl) dX12_image_58 (fun H locs hP hD hS => ?_)
        have hP : va_P D vwCl [zO mm 12 [vI 0, vR m1, vI tp, vI sz_, vI ap, vI bad, vI bk, vI opn, vI fp, vR m9, vR m10, vR m11, vR m12, vR m13, vR m14, vR m15, vI z_3, vI nr, vI nl, vR m19, vR m20, vR m21, vI sp_, vR m23, vR m24, vR m25, vR m26, vR m27, vR m28, vI wtc, vI wcl, vI ir, vI ip, vR m33, vI shu, vR m35, vI sfa, vI swr], zI m12 (cy 0) 389 f12, zI m15 (cy 0) 1167 ig] H := hP
        have hD : va_D A [zO mm 12 [vI 0, vR m1, vI tp, vI sz_, vI ap, vI bad, vI bk, vI opn, vI fp, vR m9, vR m10, vR m11, vR m12, vR m13, vR m14, vR m15, vI z_3, vI nr, vI nl, vR m19, vR m20, vR m21, vI sp_, vR m23, vR m24, vR m25, vR m26, vR m27, vR m28, vI wtc, vI wcl, vI ir, vI ip, vR m33, vI shu, vR m35, vI sfa, vI swr], zI m12 (cy 0) 389 f12, zI m15 (cy 0) 1167 ig] := hD
        refine lv_aload_n hx hb dX12_image_61 rfl (lv_at hlv 1 rfl) ?_
        refine va_get (D := D) (ci := 12) (v := vI z_3) (C := RX12) (T := TX12) (N := 38) hx hb hts hi12 hown hG.1 hP 0 rfl rfl 16 (by decide) lf201 (fun _ h9 => h9) rfl dX12_image_62 ?_
        refine W.widen (k := 0) (n := 0) (Nat.le_of_ble_eq_true rfl) (Nat.le_of_ble_eq_true rfl) ?_
        exact W.iret (v := iI z_3) hx hb hr (fun t ht hW => ⟨⟨iI z_3, ((fun k => ([] : List Nat).getD k 0), (fun k => ([z_3, z_3] : List Int).getD k 0), (fun k => ([ig] : List (Nat → Int32)).getD k (fun _ => 0))), rfl, ⟨rfl, (by show (0 ≤ z_3 ∧ z_3 ≤ 3); omega), (by show ((-2147483648) ≤ z_3 ∧ z_3 ≤ 2147483647); omega), (by show (IM (ig)); exact IM.put (r := im) hn_im (by omega) hf12 ⟨fun j hj => hl17_1.1 j (by omega), hl17_1.2⟩), hf12⟩, by rw [ht]; exact hP.sub [0, 1, 2] rfl, hD.sub [0, 1, 2] (by decide) rfl⟩, hS.F ht⟩) hS.2.2 dX12_image_65
      · refine lv_aload_n hx hb dX12_image_24 rfl (lv_at hlv 1 rfl) ?_
        refine va_get (D := D) (ci := 12) (v := vR m15) (C := RX12) (T := TX12) (N := 38) hx hb hts hi12 hown hG.1 hP 0 rfl rfl 15 (by decide) lf38 (fun _ h9 => h9) rfl dX12_image_25 ?_
        refine lv_sipush (v := iI 389) hx hb dX12_image_28 (by decide) ?_
        refine lv_aload_n hx hb dX12_image_31 rfl (lv_at hlv 1 rfl) ?_
        refine va_get (D := D) (ci := 12) (v := vI im) (C := RX12) (T := TX12) (N := 38) hx hb hts hi12 hown hG.1 hP 0 rfl rfl 16 (by decide) lf201 (fun _ h9 => h9) rfl dX12_image_32 ?_
        refine lv_imul hx hb dX12_image_35 ?_
        refine lt_e (e0 := 389 * im) (Int32.ofInt_mul _ _).symm (fun z_4 hz_4 => ?_)
        refine lv_iload_n hx hb dX12_image_36 rfl (lv_at hlv 0 rfl) ?_
        refine lv_iadd hx hb dX12_image_37 ?_
        refine lt_e (e0 := z_4 + q1) (Int32.ofInt_add _ _).symm (fun z_5 hz_5 => ?_)
        refine lv_aload_n hx hb dX12_image_38 rfl (lv_at hlv 1 rfl) ?_
        refine va_get (D := D) (ci := 12) (v := vR m12) (C := RX12) (T := TX12) (N := 38) hx hb hts hi12 hown hG.1 hP 0 rfl rfl 12 (by decide) lf29 (fun _ h9 => h9) rfl dX12_image_39 ?_
        refine lv_iload_n hx hb dX12_image_42 rfl (lv_at hlv 0 rfl) ?_
        refine va_iald hx hb hG.1 hP 1 0 rfl rfl (iI_in (by omega) (by decide)) dX12_image_43 ?_
        refine lt_nz (i := q1) (by omega) (fun z_6 hz_6 lz_6 uz_6 => ?_)
        refine va_iast hx hb hG.1 hP hD hS 2 0 rfl rfl (iI_in (by omega) (by decide)) dX12_image_44 (fun H locs hP hD hS => ?_)
        have ⟨f_7, hdf_7, hP, hD⟩ : ∃ f_7 : Nat → Int32, f_7 = upd ig (iI z_5).toNatClampNeg (iI z_6) ∧ va_P D vwCl [zO mm 12 [vI 0, vR m1, vI tp, vI sz_, vI ap, vI bad, vI bk, vI opn, vI fp, vR m9, vR m10, vR m11, vR m12, vR m13, vR m14, vR m15, vI im, vI nr, vI nl, vR m19, vR m20, vR m21, vI sp_, vR m23, vR m24, vR m25, vR m26, vR m27, vR m28, vI wtc, vI wcl, vI ir, vI ip, vR m33, vI shu, vR m35, vI sfa, vI swr], zI m12 (cy 0) 389 f12, zI m15 (cy 0) 1167 f_7] H ∧ va_D A [zO mm 12 [vI 0, vR m1, vI tp, vI sz_, vI ap, vI bad, vI bk, vI opn, vI fp, vR m9, vR m10, vR m11, vR m12, vR m13, vR m14, vR m15, vI im, vI nr, vI nl, vR m19, vR m20, vR m21, vI sp_, vR m23, vR m24, vR m25, vR m26, vR m27, vR m28, vI wtc, vI wcl, vI ir, vI ip, vR m33, vI shu, vR m35, vI sfa, vI swr], zI m12 (cy 0) 389 f12, zI m15 (cy 0) 1167 f_7] := ⟨_, rfl, hP, hD⟩
        obtain ⟨z_8, hz_8⟩ : ∃ z : Int, z = q1 + 1 := ⟨_, rfl⟩
        refine lv_iinc (v := iI z_8) (lv' := [(1, vI z_8), (0, vR mm)]) hx hb dX12_image_45 hlv (k := 0) rfl (by rw [hz_8]; exact (Int32.ofInt_add _ _).symm) (by decide) rfl (fun ls hlv => ?_)
        refine lv_goto (tgt := 17) hx hb dX12_image_48 (by decide) ?_
        exact ih17 z_8 f_7 H locs ls (by omega) (by omega) (ci_st (e := z_5) (r := im) hl17_1 hdf_7 (by omega) (by omega) hz_6 (by omega) (by omega))  (hP.sub [0, 1, 2] rfl) (hD.sub [0, 1, 2] (by decide) rfl) hS (lv_sub hlv [0, 1] rfl)
  · refine lv_iconst (v := iI (-1)) hx hb dX12_image_13 (by decide) ?_
    refine W.widen (k := 0) (n := 0) (Nat.le_of_ble_eq_true rfl) (Nat.le_of_ble_eq_true rfl) ?_
    exact W.iret (v := iI (-1)) hx hb hr (fun t ht hW => ⟨⟨iI (-1), ((fun k => ([] : List Nat).getD k 0), (fun k => ([(-1), im] : List Int).getD k 0), (fun k => ([f15] : List (Nat → Int32)).getD k (fun _ => 0))), rfl, ⟨rfl, (by show (0 ≤ im ∧ im ≤ 3); first | exact hr_im | omega), (by show ((-2147483648) ≤ (-1) ∧ (-1) ≤ 2147483647); show ((-2147483648) : Int) ≤ (-1) ∧ ((-1) : Int) ≤ 2147483647; decide), (by show (IM (f15)); exact hn_im), hf12⟩, by rw [ht]; exact hP.sub [0, 1, 2] rfl, hD.sub [0, 1, 2] (by decide) rfl⟩, hS.F ht⟩) hS.2.2 dX12_image_14
def vs_m_restore : List Cond := .code yX12_restore cX12_restore 2 (some .int) :: (([.fieldLink RX12 1 "KerbSplashModel" "thrown" "I", .fieldLink RX12 201 "KerbSplashModel" "images" "I", .fieldLink RX12 29 "KerbSplashModel" "s" "[I", .fieldLink RX12 38 "KerbSplashModel" "image" "[I"] : List Cond) ++ ((wsX120) ++ ([])))
set_option maxHeartbeats 4000000 in
set_option maxRecDepth 100000 in
theorem m_restore (l : Launch) (hl : l.stackTraces = false) (D : va_G) (cy : Nat → ClassId) (sa : Nat → Nat) (mm m1 m9 m10 m11 m12 m13 m14 m15 m19 m20 m21 m23 m24 m25 m26 m27 m28 m33 m35 : Nat) (th tp sz_ ap bad bk opn fp im nr nl sp_ wtc wcl ir ip shu sfa swr : Int) (f12 f15 : Nat → Int32) (sz : Nat) (hr_th : (-2147483648) ≤ th ∧ th ≤ 2147483647) (hr_tp : 0 ≤ tp ∧ tp ≤ 600) (hr_sz_ : 0 ≤ sz_ ∧ sz_ ≤ 600) (hr_ap : 0 ≤ ap ∧ ap ≤ 602) (hr_bad : (-1) ≤ bad ∧ bad ≤ 602) (hr_bk : 0 ≤ bk ∧ bk ≤ 4) (hr_opn : 0 ≤ opn ∧ opn ≤ 7) (hr_fp : (-2147483648) ≤ fp ∧ fp ≤ 2147483647) (hr_im : 0 ≤ im ∧ im ≤ 3) (hr_nr : 0 ≤ nr ∧ nr ≤ 4) (hr_nl : 0 ≤ nl ∧ nl ≤ 4) (hr_sp_ : 0 ≤ sp_ ∧ sp_ ≤ 602) (hr_wtc : (-2147483648) ≤ wtc ∧ wtc ≤ 2147483647) (hr_wcl : 0 ≤ wcl ∧ wcl ≤ 95) (hr_ir : 0 ≤ ir ∧ ir ≤ 5) (hr_ip : (-2147483648) ≤ ip ∧ ip ≤ 2147483647) (hr_shu : (-2147483648) ≤ shu ∧ shu ≤ 2147483647) (hr_sfa : (-2147483648) ≤ sfa ∧ sfa ≤ 2147483647) (hr_swr : (-2147483648) ≤ swr ∧ swr ≤ 2147483647) (hn_im : IM f15) (hf12 : SI 8 f12) : Met l yX12_restore vs_m_restore ({ frames := 0, cells := 0, slots := 0, locals := 0 }) (va_Pc [vR mm] (pcW D cy sa sz [zO mm 12 [vI th, vR m1, vI tp, vI sz_, vI ap, vI bad, vI bk, vI opn, vI fp, vR m9, vR m10, vR m11, vR m12, vR m13, vR m14, vR m15, vI im, vI nr, vI nl, vR m19, vR m20, vR m21, vI sp_, vR m23, vR m24, vR m25, vR m26, vR m27, vR m28, vI wtc, vI wcl, vI ir, vI ip, vR m33, vI shu, vR m35, vI sfa, vI swr], zI m12 (cy 0) 389 f12, zI m15 (cy 0) 1167 f15])) (va_Qi (fun (r : Int32) (u : SV) => r = iI (u.2.1 0) ∧ (0 ≤ u.2.1 1 ∧ u.2.1 1 ≤ 3) ∧ ((-2147483648) ≤ u.2.1 0 ∧ u.2.1 0 ≤ 2147483647) ∧ SI 8 (u.2.2 0)) (fun u t => atW D (va_A [zO mm 12 [vI th, vR m1, vI tp, vI sz_, vI ap, vI bad, vI bk, vI opn, vI fp, vR m9, vR m10, vR m11, vR m12, vR m13, vR m14, vR m15, vI im, vI nr, vI nl, vR m19, vR m20, vR m21, vI sp_, vR m23, vR m24, vR m25, vR m26, vR m27, vR m28, vI wtc, vI wcl, vI ir, vI ip, vR m33, vI shu, vR m35, vI sfa, vI swr], zI m12 (cy 0) 389 f12, zI m15 (cy 0) 1167 f15] sz) [zO mm 12 [vI 0, vR m1, vI tp, vI sz_, vI ap, vI bad, vI bk, vI opn, vI fp, vR m9, vR m10, vR m11, vR m12, vR m13, vR m14, vR m15, vI (u.2.1 1), vI nr, vI nl, vR m19, vR m20, vR m21, vI sp_, vR m23, vR m24, vR m25, vR m26, vR m27, vR m28, vI wtc, vI wcl, vI ir, vI ip, vR m33, vI shu, vR m35, vI sfa, vI swr], zI m12 (cy 0) 389 (u.2.2 0), zI m15 (cy 0) 1167 f15] t) (va_A [zO mm 12 [vI th, vR m1, vI tp, vI sz_, vI ap, vI bad, vI bk, vI opn, vI fp, vR m9, vR m10, vR m11, vR m12, vR m13, vR m14, vR m15, vI im, vI nr, vI nl, vR m19, vR m20, vR m21, vI sp_, vR m23, vR m24, vR m25, vR m26, vR m27, vR m28, vI wtc, vI wcl, vI ir, vI ip, vR m33, vI shu, vR m35, vI sfa, vI swr], zI m12 (cy 0) 389 f12, zI m15 (cy 0) 1167 f15] sz)) 0 0 (va_A [zO mm 12 [vI th, vR m1, vI tp, vI sz_, vI ap, vI bad, vI bk, vI opn, vI fp, vR m9, vR m10, vR m11, vR m12, vR m13, vR m14, vR m15, vI im, vI nr, vI nl, vR m19, vR m20, vR m21, vI sp_, vR m23, vR m24, vR m25, vR m26, vR m27, vR m28, vI wtc, vI wcl, vI ir, vI ip, vR m33, vI shu, vR m35, vI sfa, vI swr], zI m12 (cy 0) 389 f12, zI m15 (cy 0) 1167 f15] sz) := by
  refine Met.ofW (cc := cX12_restore) (maxL := 2) (ret := (some .int)) (by decide) rfl ?_
  intro p e s m args below meth c s₁ B hml hv
  obtain ⟨rfl, hsz, hP, hG, hD0, hT⟩ := hv
  have hx := B.exec
  have hb := B.bytes
  have hr := B.returns
  have hts := atoms_spec (ws := vs_m_restore) B.pre
  have hown : s.vm.findClass RX12 = some m.cls := findClass_of_methodNamed B.named
  have hlocks := B.notSynchronized
  subst hsz
  have hD := hD0.self (sz := s.heap.size)
  generalize hAe : va_A [zO mm 12 [vI th, vR m1, vI tp, vI sz_, vI ap, vI bad, vI bk, vI opn, vI fp, vR m9, vR m10, vR m11, vR m12, vR m13, vR m14, vR m15, vI im, vI nr, vI nl, vR m19, vR m20, vR m21, vI sp_, vR m23, vR m24, vR m25, vR m26, vR m27, vR m28, vI wtc, vI wcl, vI ir, vI ip, vR m33, vI shu, vR m35, vI sfa, vI swr], zI m12 (cy 0) 389 f12, zI m15 (cy 0) 1167 f15] s.heap.size = A at hD hT ⊢
  have hA : ∀ q : Nat, s.heap.size ≤ q → A q := fun q h => by rw [← hAe]; exact Or.inr h
  have hS : va_S A s.heap s.heap [] := va_S.rf
  have hl0 := lv_entry ([vR mm]) (n := 2) (Nat.le_of_ble_eq_true rfl)
  rw [lg_entry_eq]
  generalize (lg_sl ([vR mm]) ++ List.replicate (2 - (lg_sl ([vR mm])).length) Slot.unset).toArray = ls at hl0 ⊢
  have hlv : lv_has ls 2 [(0, vR mm)] := hl0
  have lf1 := hts (.fieldLink RX12 1 "KerbSplashModel" "thrown" "I") (List.mem_of_getElem? (i := 1) rfl)
  have hi12 : ∀ w ∈ wsX120, w ∈ vs_m_restore := fun w h => List.mem_cons_of_mem _ (List.mem_append_right _ (List.mem_append_left _ h))
  have lf201 := hts (.fieldLink RX12 201 "KerbSplashModel" "images" "I") (List.mem_of_getElem? (i := 2) rfl)
  have lf29 := hts (.fieldLink RX12 29 "KerbSplashModel" "s" "[I") (List.mem_of_getElem? (i := 3) rfl)
  have lf38 := hts (.fieldLink RX12 38 "KerbSplashModel" "image" "[I") (List.mem_of_getElem? (i := 4) rfl)
  refine lv_aload_n hx hb dX12_restore_0 rfl (lv_at hlv 0 rfl) ?_
  refine lv_iconst (v := iI 0) hx hb dX12_restore_1 (by decide) ?_
  refine va_put (D := D) (ci := 12) (v := vI 0) (ty := .int) (C := RX12) (T := TX12) (N := 38) hx hb hts hi12 tyX12 tyX12_ok nmX12 hown hG.1 hP hD hS 0 rfl rfl 0 (by decide) lf1 (fun _ h9 => h9) rfl (by decide +kernel) rfl rfl (Nat.le_of_ble_eq_true rfl) dX12_restore_2 (fun H locs hP hD hS => ?_)
  have hP : va_P D vwCl [zO mm 12 [vI 0, vR m1, vI tp, vI sz_, vI ap, vI bad, vI bk, vI opn, vI fp, vR m9, vR m10, vR m11, vR m12, vR m13, vR m14, vR m15, vI im, vI nr, vI nl, vR m19, vR m20, vR m21, vI sp_, vR m23, vR m24, vR m25, vR m26, vR m27, vR m28, vI wtc, vI wcl, vI ir, vI ip, vR m33, vI shu, vR m35, vI sfa, vI swr], zI m12 (cy 0) 389 f12, zI m15 (cy 0) 1167 f15] H := hP
  have hD : va_D A [zO mm 12 [vI 0, vR m1, vI tp, vI sz_, vI ap, vI bad, vI bk, vI opn, vI fp, vR m9, vR m10, vR m11, vR m12, vR m13, vR m14, vR m15, vI im, vI nr, vI nl, vR m19, vR m20, vR m21, vI sp_, vR m23, vR m24, vR m25, vR m26, vR m27, vR m28, vI wtc, vI wcl, vI ir, vI ip, vR m33, vI shu, vR m35, vI sfa, vI swr], zI m12 (cy 0) 389 f12, zI m15 (cy 0) 1167 f15] := hD
  refine lv_aload_n hx hb dX12_restore_5 rfl (lv_at hlv 0 rfl) ?_
  refine va_get (D := D) (ci := 12) (v := vI im) (C := RX12) (T := TX12) (N := 38) hx hb hts hi12 hown hG.1 hP 0 rfl rfl 16 (by decide) lf201 (fun _ h9 => h9) rfl dX12_restore_6 ?_
  refine iz_ne (tgt := 14) hx hb dX12_restore_9 (by decide) (by first | exact rgw hr_im (by decide) (by decide) | omega) (fun c_1 => ?_) (fun c_1 => ?_)
  · refine lv_aload_n hx hb dX12_restore_14 rfl (lv_at hlv 0 rfl) ?_
    refine lv_dup hx hb dX12_restore_15 rfl ?_
    refine va_get (D := D) (ci := 12) (v := vI im) (C := RX12) (T := TX12) (N := 38) hx hb hts hi12 hown hG.1 hP 0 rfl rfl 16 (by decide) lf201 (fun _ h9 => h9) rfl dX12_restore_16 ?_
    refine lv_iconst (v := iI 1) hx hb dX12_restore_19 (by decide) ?_
    refine lv_isub hx hb dX12_restore_20 ?_
    refine lt_e (e0 := im - 1) (Int32.ofInt_sub _ _).symm (fun z_2 hz_2 => ?_)
    refine va_put (D := D) (ci := 12) (v := vI z_2) (ty := .int) (C := RX12) (T := TX12) (N := 38) hx hb hts hi12 tyX12 tyX12_ok nmX12 hown hG.1 hP hD hS 0 rfl rfl 16 (by decide) lf201 (fun _ h9 => h9) rfl (by decide +kernel) rfl rfl (Nat.le_of_ble_eq_true rfl) dX12_restore_21 (fun H locs hP hD hS => ?_)
    have hP : va_P D vwCl [zO mm 12 [vI 0, vR m1, vI tp, vI sz_, vI ap, vI bad, vI bk, vI opn, vI fp, vR m9, vR m10, vR m11, vR m12, vR m13, vR m14, vR m15, vI z_2, vI nr, vI nl, vR m19, vR m20, vR m21, vI sp_, vR m23, vR m24, vR m25, vR m26, vR m27, vR m28, vI wtc, vI wcl, vI ir, vI ip, vR m33, vI shu, vR m35, vI sfa, vI swr], zI m12 (cy 0) 389 f12, zI m15 (cy 0) 1167 f15] H := hP
    have hD : va_D A [zO mm 12 [vI 0, vR m1, vI tp, vI sz_, vI ap, vI bad, vI bk, vI opn, vI fp, vR m9, vR m10, vR m11, vR m12, vR m13, vR m14, vR m15, vI z_2, vI nr, vI nl, vR m19, vR m20, vR m21, vI sp_, vR m23, vR m24, vR m25, vR m26, vR m27, vR m28, vI wtc, vI wcl, vI ir, vI ip, vR m33, vI shu, vR m35, vI sfa, vI swr], zI m12 (cy 0) 389 f12, zI m15 (cy 0) 1167 f15] := hD
    refine lv_iconst (v := iI 0) hx hb dX12_restore_24 (by decide) ?_
    refine lv_istore_n (lv' := [(1, vI 0), (0, vR mm)]) hx hb dX12_restore_25 rfl hlv (by decide) rfl (fun ls hlv => ?_)
    refine (?_ : ∀ (fu : Nat) (q1 : Int) (sg : Nat → Int32) (H : Heap) (locs : List Loc) (ls : Array Slot), 389 - q1 < (fu : Int) → (0 ≤ q1 ∧ q1 ≤ 389) → (∀ j : Nat, (j : Int) < q1 → sg j = f15 (389 * z_2.toNat + j)) → va_P D vwCl [zO mm 12 [vI 0, vR m1, vI tp, vI sz_, vI ap, vI bad, vI bk, vI opn, vI fp, vR m9, vR m10, vR m11, vR m12, vR m13, vR m14, vR m15, vI z_2, vI nr, vI nl, vR m19, vR m20, vR m21, vI sp_, vR m23, vR m24, vR m25, vR m26, vR m27, vR m28, vI wtc, vI wcl, vI ir, vI ip, vR m33, vI shu, vR m35, vI sfa, vI swr], zI m12 (cy 0) 389 sg, zI m15 (cy 0) 1167 f15] H → va_D A [zO mm 12 [vI 0, vR m1, vI tp, vI sz_, vI ap, vI bad, vI bk, vI opn, vI fp, vR m9, vR m10, vR m11, vR m12, vR m13, vR m14, vR m15, vI z_2, vI nr, vI nl, vR m19, vR m20, vR m21, vI sp_, vR m23, vR m24, vR m25, vR m26, vR m27, vR m28, vI wtc, vI wcl, vI ir, vI ip, vR m33, vI shu, vR m35, vI sfa, vI swr], zI m12 (cy 0) 389 sg, zI m15 (cy 0) 1167 f15] → va_S A s.heap H locs → lv_has ls 2 [(1, vI q1), (0, vR mm)] → W p l e _ s m _ below meth c H locs _ _ _ (F0 m 26 ls [])) (((389 - 0) + 1 : Int)).toNat 0 f12 _ _ _ (by omega) (by show (0 : Int) ≤ 0 ∧ (0 : Int) ≤ 389; decide) (fun j hj => absurd hj (by omega))  hP hD hS hlv
    clear hP hD hS hlv
    intro fu
    induction fu with
    | zero => intro q1 sg H locs ls hm26 hl26_0 hl26_1  hP hD hS hlv; omega
    | succ fu ih26 =>
      intro q1 sg H locs ls hm26 hl26_0 hl26_1  hP hD hS hlv
      refine lv_iload_n hx hb dX12_restore_26 rfl (lv_at hlv 0 rfl) ?_
      refine lv_sipush (v := iI 389) hx hb dX12_restore_27 (by decide) ?_
      refine ir_ge (tgt := 60) hx hb dX12_restore_30 (by decide) (by first | exact rgw hl26_0 (by decide) (by decide) | omega) (by show ((-2147483648) : Int) ≤ 389 ∧ (389 : Int) ≤ 2147483647; decide) (fun c_3 => ?_) (fun c_3 => ?_)
      · have hs_r1 : SI 8 sg := IM.get (r := z_2) hn_im (by omega) (fun j hj => hl26_1 j (by omega))
        refine lv_aload_n hx hb dX12_restore_60 rfl (lv_at hlv 1 rfl) ?_
        refine va_get (D := D) (ci := 12) (v := vI z_2) (C := RX12) (T := TX12) (N := 38) hx hb hts hi12 hown hG.1 hP 0 rfl rfl 16 (by decide) lf201 (fun _ h9 => h9) rfl dX12_restore_61 ?_
        refine W.widen (k := 0) (n := 0) (Nat.le_of_ble_eq_true rfl) (Nat.le_of_ble_eq_true rfl) ?_
        exact W.iret (v := iI z_2) hx hb hr (fun t ht hW => ⟨⟨iI z_2, ((fun k => ([] : List Nat).getD k 0), (fun k => ([z_2, z_2] : List Int).getD k 0), (fun k => ([sg] : List (Nat → Int32)).getD k (fun _ => 0))), rfl, ⟨rfl, (by show (0 ≤ z_2 ∧ z_2 ≤ 3); omega), (by show ((-2147483648) ≤ z_2 ∧ z_2 ≤ 2147483647); omega), hs_r1⟩, by rw [ht]; exact hP.sub [0, 1, 2] rfl, hD.sub [0, 1, 2] (by decide) rfl⟩, hS.F ht⟩) hS.2.2 dX12_restore_64
      · refine lv_aload_n hx hb dX12_restore_33 rfl (lv_at hlv 1 rfl) ?_
        refine va_get (D := D) (ci := 12) (v := vR m12) (C := RX12) (T := TX12) (N := 38) hx hb hts hi12 hown hG.1 hP 0 rfl rfl 12 (by decide) lf29 (fun _ h9 => h9) rfl dX12_restore_34 ?_
        refine lv_iload_n hx hb dX12_restore_37 rfl (lv_at hlv 0 rfl) ?_
        refine lv_aload_n hx hb dX12_restore_38 rfl (lv_at hlv 1 rfl) ?_
        refine va_get (D := D) (ci := 12) (v := vR m15) (C := RX12) (T := TX12) (N := 38) hx hb hts hi12 hown hG.1 hP 0 rfl rfl 15 (by decide) lf38 (fun _ h9 => h9) rfl dX12_restore_39 ?_
        refine lv_sipush (v := iI 389) hx hb dX12_restore_42 (by decide) ?_
        refine lv_aload_n hx hb dX12_restore_45 rfl (lv_at hlv 1 rfl) ?_
        refine va_get (D := D) (ci := 12) (v := vI z_2) (C := RX12) (T := TX12) (N := 38) hx hb hts hi12 hown hG.1 hP 0 rfl rfl 16 (by decide) lf201 (fun _ h9 => h9) rfl dX12_restore_46 ?_
        refine lv_imul hx hb dX12_restore_49 ?_
        refine lt_e (e0 := 389 * z_2) (Int32.ofInt_mul _ _).symm (fun z_4 hz_4 => ?_)
        refine lv_iload_n hx hb dX12_restore_50 rfl (lv_at hlv 0 rfl) ?_
        refine lv_iadd hx hb dX12_restore_51 ?_
        refine lt_e (e0 := z_4 + q1) (Int32.ofInt_add _ _).symm (fun z_5 hz_5 => ?_)
        refine va_iald hx hb hG.1 hP 2 0 rfl rfl (iI_in (by omega) (by decide)) dX12_restore_52 ?_
        refine lt_nz (i := z_5) (by omega) (fun z_6 hz_6 lz_6 uz_6 => ?_)
        refine va_iast hx hb hG.1 hP hD hS 1 0 rfl rfl (iI_in (by omega) (by decide)) dX12_restore_53 (fun H locs hP hD hS => ?_)
        have ⟨f_7, hdf_7, hP, hD⟩ : ∃ f_7 : Nat → Int32, f_7 = upd sg (iI q1).toNatClampNeg (iI z_6) ∧ va_P D vwCl [zO mm 12 [vI 0, vR m1, vI tp, vI sz_, vI ap, vI bad, vI bk, vI opn, vI fp, vR m9, vR m10, vR m11, vR m12, vR m13, vR m14, vR m15, vI z_2, vI nr, vI nl, vR m19, vR m20, vR m21, vI sp_, vR m23, vR m24, vR m25, vR m26, vR m27, vR m28, vI wtc, vI wcl, vI ir, vI ip, vR m33, vI shu, vR m35, vI sfa, vI swr], zI m12 (cy 0) 389 f_7, zI m15 (cy 0) 1167 f15] H ∧ va_D A [zO mm 12 [vI 0, vR m1, vI tp, vI sz_, vI ap, vI bad, vI bk, vI opn, vI fp, vR m9, vR m10, vR m11, vR m12, vR m13, vR m14, vR m15, vI z_2, vI nr, vI nl, vR m19, vR m20, vR m21, vI sp_, vR m23, vR m24, vR m25, vR m26, vR m27, vR m28, vI wtc, vI wcl, vI ir, vI ip, vR m33, vI shu, vR m35, vI sfa, vI swr], zI m12 (cy 0) 389 f_7, zI m15 (cy 0) 1167 f15] := ⟨_, rfl, hP, hD⟩
        obtain ⟨z_8, hz_8⟩ : ∃ z : Int, z = q1 + 1 := ⟨_, rfl⟩
        refine lv_iinc (v := iI z_8) (lv' := [(1, vI z_8), (0, vR mm)]) hx hb dX12_restore_54 hlv (k := 0) rfl (by rw [hz_8]; exact (Int32.ofInt_add _ _).symm) (by decide) rfl (fun ls hlv => ?_)
        refine lv_goto (tgt := 26) hx hb dX12_restore_57 (by decide) ?_
        exact ih26 z_8 f_7 H locs ls (by omega) (by omega) (co_st (e := z_5) (r := z_2) hl26_1 hdf_7 (by omega) (by omega) hz_6 (by omega) (by omega))  (hP.sub [0, 1, 2] rfl) (hD.sub [0, 1, 2] (by decide) rfl) hS (lv_sub hlv [0, 1] rfl)
  · refine lv_iconst (v := iI (-1)) hx hb dX12_restore_12 (by decide) ?_
    refine W.widen (k := 0) (n := 0) (Nat.le_of_ble_eq_true rfl) (Nat.le_of_ble_eq_true rfl) ?_
    exact W.iret (v := iI (-1)) hx hb hr (fun t ht hW => ⟨⟨iI (-1), ((fun k => ([] : List Nat).getD k 0), (fun k => ([(-1), im] : List Int).getD k 0), (fun k => ([f12] : List (Nat → Int32)).getD k (fun _ => 0))), rfl, ⟨rfl, (by show (0 ≤ im ∧ im ≤ 3); first | exact hr_im | omega), (by show ((-2147483648) ≤ (-1) ∧ (-1) ≤ 2147483647); show ((-2147483648) : Int) ≤ (-1) ∧ ((-1) : Int) ≤ 2147483647; decide), hf12⟩, by rw [ht]; exact hP.sub [0, 1, 2] rfl, hD.sub [0, 1, 2] (by decide) rfl⟩, hS.F ht⟩) hS.2.2 dX12_restore_13
