section
theorem dX11_beginText_0 : decode cX11_beginText 0 = .ok (.aload_n 0, 1) := by decide +kernel
theorem dX11_beginText_1 : decode cX11_beginText 1 = .ok (.iload_n 1, 1) := by decide +kernel
theorem dX11_beginText_10 : decode cX11_beginText 10 = .ok (.invokestatic 130, 3) := by decide +kernel
theorem dX11_beginText_13 : decode cX11_beginText 13 = .ok (.invokevirtual 134, 3) := by decide +kernel
theorem dX11_beginText_16 : decode cX11_beginText 16 = .ok (.aload_n 0, 1) := by decide +kernel
theorem dX11_beginText_17 : decode cX11_beginText 17 = .ok (.getfield 10, 3) := by decide +kernel
theorem dX11_beginText_2 : decode cX11_beginText 2 = .ok (.iconst 0, 1) := by decide +kernel
theorem dX11_beginText_20 : decode cX11_beginText 20 = .ok (.iload_n 1, 1) := by decide +kernel
theorem dX11_beginText_21 : decode cX11_beginText 21 = .ok (.invokevirtual 345, 3) := by decide +kernel
theorem dX11_beginText_24 : decode cX11_beginText 24 = .ok (.return_, 1) := by decide +kernel
theorem dX11_beginText_3 : decode cX11_beginText 3 = .ok (.aload_n 0, 1) := by decide +kernel
theorem dX11_beginText_4 : decode cX11_beginText 4 = .ok (.getfield 10, 3) := by decide +kernel
theorem dX11_beginText_7 : decode cX11_beginText 7 = .ok (.getfield 81, 3) := by decide +kernel
theorem dX11_isCar_0 : decode cX11_isCar 0 = .ok (.iload_n 1, 1) := by decide +kernel
theorem dX11_isCar_1 : decode cX11_isCar 1 = .ok (.iconst 0, 1) := by decide +kernel
theorem dX11_isCar_10 : decode cX11_isCar 10 = .ok (.isub, 1) := by decide +kernel
theorem dX11_isCar_11 : decode cX11_isCar 11 = .ok (.invokestatic 130, 3) := by decide +kernel
theorem dX11_isCar_14 : decode cX11_isCar 14 = .ok (.ifCond .eq 37, 3) := by decide +kernel
theorem dX11_isCar_17 : decode cX11_isCar 17 = .ok (.iload_n 2, 1) := by decide +kernel
theorem dX11_isCar_18 : decode cX11_isCar 18 = .ok (.iconst 1, 1) := by decide +kernel
theorem dX11_isCar_19 : decode cX11_isCar 19 = .ok (.bipush 60, 2) := by decide +kernel
theorem dX11_isCar_2 : decode cX11_isCar 2 = .ok (.aload_n 0, 1) := by decide +kernel
theorem dX11_isCar_21 : decode cX11_isCar 21 = .ok (.invokestatic 130, 3) := by decide +kernel
theorem dX11_isCar_24 : decode cX11_isCar 24 = .ok (.ifCond .eq 27, 3) := by decide +kernel
theorem dX11_isCar_27 : decode cX11_isCar 27 = .ok (.iload_n 3, 1) := by decide +kernel
theorem dX11_isCar_28 : decode cX11_isCar 28 = .ok (.iconst 1, 1) := by decide +kernel
theorem dX11_isCar_29 : decode cX11_isCar 29 = .ok (.bipush 9, 2) := by decide +kernel
theorem dX11_isCar_3 : decode cX11_isCar 3 = .ok (.getfield 31, 3) := by decide +kernel
theorem dX11_isCar_31 : decode cX11_isCar 31 = .ok (.invokestatic 130, 3) := by decide +kernel
theorem dX11_isCar_34 : decode cX11_isCar 34 = .ok (.ifCond .eq 17, 3) := by decide +kernel
theorem dX11_isCar_37 : decode cX11_isCar 37 = .ok (.iload 4, 2) := by decide +kernel
theorem dX11_isCar_39 : decode cX11_isCar 39 = .ok (.iconst 0, 1) := by decide +kernel
theorem dX11_isCar_40 : decode cX11_isCar 40 = .ok (.iconst 3, 1) := by decide +kernel
theorem dX11_isCar_41 : decode cX11_isCar 41 = .ok (.invokestatic 130, 3) := by decide +kernel
theorem dX11_isCar_44 : decode cX11_isCar 44 = .ok (.ifCond .eq 7, 3) := by decide +kernel
theorem dX11_isCar_47 : decode cX11_isCar 47 = .ok (.iconst 1, 1) := by decide +kernel
theorem dX11_isCar_48 : decode cX11_isCar 48 = .ok (.goto 4, 3) := by decide +kernel
theorem dX11_isCar_51 : decode cX11_isCar 51 = .ok (.iconst 0, 1) := by decide +kernel
theorem dX11_isCar_52 : decode cX11_isCar 52 = .ok (.ireturn, 1) := by decide +kernel
theorem dX11_isCar_6 : decode cX11_isCar 6 = .ok (.getfield 141, 3) := by decide +kernel
theorem dX11_isCar_9 : decode cX11_isCar 9 = .ok (.iconst 1, 1) := by decide +kernel
theorem dX11_needArgument_0 : decode cX11_needArgument 0 = .ok (.iload_n 1, 1) := by decide +kernel
theorem dX11_needArgument_1 : decode cX11_needArgument 1 = .ok (.ifCond .ne 24, 3) := by decide +kernel
theorem dX11_needArgument_10 : decode cX11_needArgument 10 = .ok (.iaload, 1) := by decide +kernel
theorem dX11_needArgument_11 : decode cX11_needArgument 11 = .ok (.iconst 1, 1) := by decide +kernel
theorem dX11_needArgument_12 : decode cX11_needArgument 12 = .ok (.iadd, 1) := by decide +kernel
theorem dX11_needArgument_13 : decode cX11_needArgument 13 = .ok (.iastore, 1) := by decide +kernel
theorem dX11_needArgument_14 : decode cX11_needArgument 14 = .ok (.new 364, 3) := by decide +kernel
theorem dX11_needArgument_17 : decode cX11_needArgument 17 = .ok (.dup, 1) := by decide +kernel
theorem dX11_needArgument_18 : decode cX11_needArgument 18 = .ok (.ldc_w 366, 3) := by decide +kernel
theorem dX11_needArgument_21 : decode cX11_needArgument 21 = .ok (.invokespecial 368, 3) := by decide +kernel
theorem dX11_needArgument_24 : decode cX11_needArgument 24 = .ok (.athrow, 1) := by decide +kernel
theorem dX11_needArgument_25 : decode cX11_needArgument 25 = .ok (.return_, 1) := by decide +kernel
theorem dX11_needArgument_4 : decode cX11_needArgument 4 = .ok (.aload_n 0, 1) := by decide +kernel
theorem dX11_needArgument_5 : decode cX11_needArgument 5 = .ok (.getfield 67, 3) := by decide +kernel
theorem dX11_needArgument_8 : decode cX11_needArgument 8 = .ok (.iconst 2, 1) := by decide +kernel
theorem dX11_needArgument_9 : decode cX11_needArgument 9 = .ok (.dup2, 1) := by decide +kernel
theorem dX11_needCell_0 : decode cX11_needCell 0 = .ok (.aload_n 0, 1) := by decide +kernel
theorem dX11_needCell_1 : decode cX11_needCell 1 = .ok (.getfield 31, 3) := by decide +kernel
theorem dX11_needCell_12 : decode cX11_needCell 12 = .ok (.aload_n 0, 1) := by decide +kernel
theorem dX11_needCell_13 : decode cX11_needCell 13 = .ok (.getfield 67, 3) := by decide +kernel
theorem dX11_needCell_16 : decode cX11_needCell 16 = .ok (.iconst 0, 1) := by decide +kernel
theorem dX11_needCell_17 : decode cX11_needCell 17 = .ok (.dup2, 1) := by decide +kernel
theorem dX11_needCell_18 : decode cX11_needCell 18 = .ok (.iaload, 1) := by decide +kernel
theorem dX11_needCell_19 : decode cX11_needCell 19 = .ok (.iconst 1, 1) := by decide +kernel
theorem dX11_needCell_20 : decode cX11_needCell 20 = .ok (.iadd, 1) := by decide +kernel
theorem dX11_needCell_21 : decode cX11_needCell 21 = .ok (.iastore, 1) := by decide +kernel
theorem dX11_needCell_22 : decode cX11_needCell 22 = .ok (.new 352, 3) := by decide +kernel
theorem dX11_needCell_25 : decode cX11_needCell 25 = .ok (.dup, 1) := by decide +kernel
theorem dX11_needCell_26 : decode cX11_needCell 26 = .ok (.ldc_w 354, 3) := by decide +kernel
theorem dX11_needCell_29 : decode cX11_needCell 29 = .ok (.invokespecial 356, 3) := by decide +kernel
theorem dX11_needCell_32 : decode cX11_needCell 32 = .ok (.athrow, 1) := by decide +kernel
theorem dX11_needCell_33 : decode cX11_needCell 33 = .ok (.return_, 1) := by decide +kernel
theorem dX11_needCell_4 : decode cX11_needCell 4 = .ok (.iload_n 1, 1) := by decide +kernel
theorem dX11_needCell_5 : decode cX11_needCell 5 = .ok (.iload_n 2, 1) := by decide +kernel
theorem dX11_needCell_6 : decode cX11_needCell 6 = .ok (.invokevirtual 348, 3) := by decide +kernel
theorem dX11_needCell_9 : decode cX11_needCell 9 = .ok (.ifCond .ne 24, 3) := by decide +kernel
theorem dX11_needElement_0 : decode cX11_needElement 0 = .ok (.iload_n 1, 1) := by decide +kernel
theorem dX11_needElement_1 : decode cX11_needElement 1 = .ok (.ifCond .ne 24, 3) := by decide +kernel
theorem dX11_needElement_10 : decode cX11_needElement 10 = .ok (.iaload, 1) := by decide +kernel
theorem dX11_needElement_11 : decode cX11_needElement 11 = .ok (.iconst 1, 1) := by decide +kernel
theorem dX11_needElement_12 : decode cX11_needElement 12 = .ok (.iadd, 1) := by decide +kernel
theorem dX11_needElement_13 : decode cX11_needElement 13 = .ok (.iastore, 1) := by decide +kernel
theorem dX11_needElement_14 : decode cX11_needElement 14 = .ok (.new 359, 3) := by decide +kernel
theorem dX11_needElement_17 : decode cX11_needElement 17 = .ok (.dup, 1) := by decide +kernel
theorem dX11_needElement_18 : decode cX11_needElement 18 = .ok (.ldc_w 361, 3) := by decide +kernel
theorem dX11_needElement_21 : decode cX11_needElement 21 = .ok (.invokespecial 363, 3) := by decide +kernel
theorem dX11_needElement_24 : decode cX11_needElement 24 = .ok (.athrow, 1) := by decide +kernel
theorem dX11_needElement_25 : decode cX11_needElement 25 = .ok (.return_, 1) := by decide +kernel
theorem dX11_needElement_4 : decode cX11_needElement 4 = .ok (.aload_n 0, 1) := by decide +kernel
theorem dX11_needElement_5 : decode cX11_needElement 5 = .ok (.getfield 67, 3) := by decide +kernel
theorem dX11_needElement_8 : decode cX11_needElement 8 = .ok (.iconst 1, 1) := by decide +kernel
theorem dX11_needElement_9 : decode cX11_needElement 9 = .ok (.dup2, 1) := by decide +kernel
theorem dX11_needLaw_0 : decode cX11_needLaw 0 = .ok (.aload_n 0, 1) := by decide +kernel
theorem dX11_needLaw_1 : decode cX11_needLaw 1 = .ok (.iload_n 1, 1) := by decide +kernel
theorem dX11_needLaw_12 : decode cX11_needLaw 12 = .ok (.invokevirtual 177, 3) := by decide +kernel
theorem dX11_needLaw_15 : decode cX11_needLaw 15 = .ok (.return_, 1) := by decide +kernel
theorem dX11_needLaw_2 : decode cX11_needLaw 2 = .ok (.iconst 0, 1) := by decide +kernel
theorem dX11_needLaw_3 : decode cX11_needLaw 3 = .ok (.aload_n 0, 1) := by decide +kernel
theorem dX11_needLaw_4 : decode cX11_needLaw 4 = .ok (.getfield 118, 3) := by decide +kernel
theorem dX11_needLaw_7 : decode cX11_needLaw 7 = .ok (.iconst 1, 1) := by decide +kernel
theorem dX11_needLaw_8 : decode cX11_needLaw 8 = .ok (.isub, 1) := by decide +kernel
theorem dX11_needLaw_9 : decode cX11_needLaw 9 = .ok (.invokestatic 130, 3) := by decide +kernel
theorem dX11_needRain_0 : decode cX11_needRain 0 = .ok (.aload_n 0, 1) := by decide +kernel
theorem dX11_needRain_1 : decode cX11_needRain 1 = .ok (.iload_n 1, 1) := by decide +kernel
theorem dX11_needRain_12 : decode cX11_needRain 12 = .ok (.invokevirtual 177, 3) := by decide +kernel
theorem dX11_needRain_15 : decode cX11_needRain 15 = .ok (.return_, 1) := by decide +kernel
theorem dX11_needRain_2 : decode cX11_needRain 2 = .ok (.iconst 0, 1) := by decide +kernel
theorem dX11_needRain_3 : decode cX11_needRain 3 = .ok (.aload_n 0, 1) := by decide +kernel
theorem dX11_needRain_4 : decode cX11_needRain 4 = .ok (.getfield 112, 3) := by decide +kernel
theorem dX11_needRain_7 : decode cX11_needRain 7 = .ok (.iconst 1, 1) := by decide +kernel
theorem dX11_needRain_8 : decode cX11_needRain 8 = .ok (.isub, 1) := by decide +kernel
theorem dX11_needRain_9 : decode cX11_needRain 9 = .ok (.invokestatic 130, 3) := by decide +kernel
theorem dX11_needState_0 : decode cX11_needState 0 = .ok (.iload_n 1, 1) := by decide +kernel
theorem dX11_needState_1 : decode cX11_needState 1 = .ok (.ifCond .ne 24, 3) := by decide +kernel
theorem dX11_needState_10 : decode cX11_needState 10 = .ok (.iaload, 1) := by decide +kernel
theorem dX11_needState_11 : decode cX11_needState 11 = .ok (.iconst 1, 1) := by decide +kernel
theorem dX11_needState_12 : decode cX11_needState 12 = .ok (.iadd, 1) := by decide +kernel
theorem dX11_needState_13 : decode cX11_needState 13 = .ok (.iastore, 1) := by decide +kernel
theorem dX11_needState_14 : decode cX11_needState 14 = .ok (.new 369, 3) := by decide +kernel
theorem dX11_needState_17 : decode cX11_needState 17 = .ok (.dup, 1) := by decide +kernel
theorem dX11_needState_18 : decode cX11_needState 18 = .ok (.ldc_w 371, 3) := by decide +kernel
theorem dX11_needState_21 : decode cX11_needState 21 = .ok (.invokespecial 373, 3) := by decide +kernel
theorem dX11_needState_24 : decode cX11_needState 24 = .ok (.athrow, 1) := by decide +kernel
theorem dX11_needState_25 : decode cX11_needState 25 = .ok (.return_, 1) := by decide +kernel
theorem dX11_needState_4 : decode cX11_needState 4 = .ok (.aload_n 0, 1) := by decide +kernel
theorem dX11_needState_5 : decode cX11_needState 5 = .ok (.getfield 67, 3) := by decide +kernel
theorem dX11_needState_8 : decode cX11_needState 8 = .ok (.iconst 3, 1) := by decide +kernel
theorem dX11_needState_9 : decode cX11_needState 9 = .ok (.dup2, 1) := by decide +kernel
def vs_k_needElement : List Cond := .code yX11_needElement cX11_needElement 2 none :: (([.fieldLink RX11 67 "KerbSplash" "refused" "[I", .classLink RX11 359 "java/util/NoSuchElementException", .initialized "java/util/NoSuchElementException"] : List Cond) ++ ((wsX110) ++ (((vx_atN RX11 363 "java/util/NoSuchElementException" 13 rx13 ["java/lang/RuntimeException", "java/lang/Exception"]).filter goodWord) ++ ([]))))
theorem gd_k_needElement : vs_k_needElement.all goodWord = true := gd_C (by decide +kernel) (gd_A (by decide +kernel) (gd_A (by decide +kernel) (gd_A (List.all_eq_true.mpr (fun w h => (List.mem_filter.mp h).2)) rfl)))
set_option maxHeartbeats 4000000 in
set_option maxRecDepth 100000 in
theorem k_needElement (l : Launch) (hl : l.stackTraces = false) (D : va_G) (cy : Nat → ClassId) (sa : Nat → Nat) (kk ta kr kl sA dA pa ki kp wa or_ rq : Nat) (nr nw im : Int) (qf : Nat → Int32) (b : Int) (sz : Nat) (hr_nr : 0 ≤ nr ∧ nr ≤ 4) (hr_nw : 0 ≤ nw ∧ nw ≤ 4) (hr_im : 0 ≤ im ∧ im ≤ 3) (hr_b : 0 ≤ b ∧ b ≤ 1) : xV9 l yX11_needElement vs_k_needElement ({ frames := 6, cells := 1, slots := 6, locals := 100 }) D cy sa sz [vR kk, vI b] [zO kk 11 [vR ta, vR kr, vR kl, vI nr, vI nw, vR sA, vR dA, vR pa, vR ki, vR kp, vI im, vR wa, vR or_, vR rq], zI rq (cy 0) 4 qf] (fun u : SV => (b = 1)) (fun u : SV => [zO kk 11 [vR ta, vR kr, vR kl, vI nr, vI nw, vR sA, vR dA, vR pa, vR ki, vR kp, vI im, vR wa, vR or_, vR rq], zI rq (cy 0) 4 qf]) (fun (E : String) (u : SV) => (E = "java/util/NoSuchElementException") ∧ (b = 0)) (fun u : SV => [zO kk 11 [vR ta, vR kr, vR kl, vI nr, vI nw, vR sA, vR dA, vR pa, vR ki, vR kp, vI im, vR wa, vR or_, vR rq], zI rq (cy 0) 4 (u.2.2 0)]) 1 6 := by
  refine vx_ofW (cc := cX11_needElement) (maxL := 2) (ret := none) (by decide) rfl ?_
  intro p e s m args below meth c s₁ B hml hex hv
  obtain ⟨rfl, hsz, hP, hG, hD0, hT⟩ := hv
  have hx := B.exec
  have hb := B.bytes
  have hr := B.returns
  have hts := atoms_spec (ws := vs_k_needElement) B.pre
  have hown : s.vm.findClass RX11 = some m.cls := findClass_of_methodNamed B.named
  have hlocks := B.notSynchronized
  subst hsz
  have hD := hD0.self (sz := s.heap.size)
  generalize hAe : va_A [zO kk 11 [vR ta, vR kr, vR kl, vI nr, vI nw, vR sA, vR dA, vR pa, vR ki, vR kp, vI im, vR wa, vR or_, vR rq], zI rq (cy 0) 4 qf] s.heap.size = A at hD hT ⊢
  have hA : ∀ q : Nat, s.heap.size ≤ q → A q := fun q h => by rw [← hAe]; exact Or.inr h
  have hS : va_S A s.heap s.heap [] := va_S.rf
  have hl0 := lv_entry ([vR kk, vI b]) (n := 2) (Nat.le_of_ble_eq_true rfl)
  rw [lg_entry_eq]
  generalize (lg_sl ([vR kk, vI b]) ++ List.replicate (2 - (lg_sl ([vR kk, vI b])).length) Slot.unset).toArray = ls at hl0 ⊢
  have hlv : lv_has ls 2 [(0, vR kk), (1, vI b)] := hl0
  have lf67 := hts (.fieldLink RX11 67 "KerbSplash" "refused" "[I") (List.mem_of_getElem? (i := 1) rfl)
  have hi11 : ∀ w ∈ wsX110, w ∈ vs_k_needElement := fun w h => List.mem_cons_of_mem _ (List.mem_append_right _ (List.mem_append_left _ h))
  have cl359 := hts (.classLink RX11 359 "java/util/NoSuchElementException") (List.mem_of_getElem? (i := 2) rfl)
  have inX1 := hts (.initialized "java/util/NoSuchElementException") (List.mem_of_getElem? (i := 3) rfl)
  have hat1 : ∀ w ∈ vx_atN RX11 363 "java/util/NoSuchElementException" 13 rx13 ["java/lang/RuntimeException", "java/lang/Exception"], w.before ([vR kk, vI b] : List Value).toArray s = true := vx_hat (fun w h => hts w ((fun w h => List.mem_cons_of_mem _ (List.mem_append_right _ (List.mem_append_right _ (List.mem_append_left _ h)))) w h)) xN1 (xB_ok hG (List.mem_of_getElem? (i := 1) rfl))
  refine lv_iload_n hx hb dX11_needElement_0 rfl (lv_at hlv 1 rfl) ?_
  refine iz_ne (tgt := 25) hx hb dX11_needElement_1 (by decide) (by first | exact rgw hr_b (by decide) (by decide) | omega) (fun c_1 => ?_) (fun c_1 => ?_)
  · refine W.widen (k := 1) (n := 6) (Nat.le_of_ble_eq_true rfl) (Nat.le_of_ble_eq_true rfl) ?_
    refine vx_ret ?_
    exact W.vret hx hb hr (fun t ht hW => ⟨⟨((fun k => ([] : List Nat).getD k 0), (fun k => ([] : List Int).getD k 0), (fun k => ([] : List (Nat → Int32)).getD k (fun _ => 0))), rfl, (by show (b = 1); omega), at9 ht hP hD [0, 1] (by decide +kernel) rfl⟩, hS.F ht⟩) hS.2.2 dX11_needElement_25
  · refine lv_aload_n hx hb dX11_needElement_4 rfl (lv_at hlv 0 rfl) ?_
    refine va_get (D := D) (ci := 11) (v := vR rq) (C := RX11) (T := TX11) (N := 14) hx hb hts hi11 hown hG.1 hP 0 rfl rfl 13 (by decide) lf67 (fun _ h9 => h9) rfl dX11_needElement_5 ?_
    refine lv_iconst (v := iI 1) hx hb dX11_needElement_8 (by decide) ?_
    refine lv_dup2_11 hx hb dX11_needElement_9 rfl rfl ?_
    refine va_iald hx hb hG.1 hP 1 0 rfl rfl (iI_in (by omega) (by decide)) dX11_needElement_10 ?_
    refine lt_z (fun z_2 ez_2 lz_2 hz_2 => ?_)
    refine lv_iconst (v := iI 1) hx hb dX11_needElement_11 (by decide) ?_
    refine lv_iadd hx hb dX11_needElement_12 ?_
    refine lt_z (fun z_3 ez_3 lz_3 hz_3 => ?_)
    refine va_iast hx hb hG.1 hP hD hS 1 0 rfl rfl (iI_in (by omega) (by decide)) dX11_needElement_13 (fun H locs hP hD hS => ?_)
    obtain ⟨f_4, hP, hD⟩ := pe9 (fun f_4 => [zO kk 11 [vR ta, vR kr, vR kl, vI nr, vI nw, vR sA, vR dA, vR pa, vR ki, vR kp, vI im, vR wa, vR or_, vR rq], zI rq (cy 0) 4 f_4]) _ hP hD
    have hstr9 : vk_R RX11 361 "there is none of that number" (sa 1) s := hG.2.2.1 1 (RX11, 361, "there is none of that number", 1) rfl
    exact vx_throwSN rx13_0 rx13_1 rx13_2 rx13_5 (cls := "java/util/NoSuchElementException") (names := ["java/lang/RuntimeException", "java/lang/Exception"]) hx hb hl hown (by decide +kernel) (by decide +kernel) cl359 inX1 hstr9 hat1 (by decide +kernel) hT.1 hT.2.1 hS (hlv.1.trans hml.symm) dX11_needElement_14 dX11_needElement_17 dX11_needElement_18 dX11_needElement_21 dX11_needElement_24 (fun x h => (hex x h).elim) (Nat.le_of_ble_eq_true rfl) (Nat.le_of_ble_eq_true rfl) (Nat.le_of_ble_eq_true rfl) (Nat.le_of_ble_eq_true rfl) hlocks (fun t hvm h1 h2 => ⟨((fun k => ([] : List Nat).getD k 0), (fun k => ([] : List Int).getD k 0), (fun k => ([f_4] : List (Nat → Int32)).getD k (fun _ => 0))), trivial, ⟨⟨rfl, by omega⟩, px_P (hP.sub [0, 1] rfl) h2, hD.sub [0, 1] (by decide) rfl⟩, ⟨Nat.le_trans hS.1 h1, fun q hq hn => (h2 q (Nat.lt_of_lt_of_le hq hS.1)).trans (hS.2.1 q hq hn)⟩⟩) hS.2.2 (Nat.le_of_ble_eq_true rfl) (Nat.le_of_ble_eq_true rfl)
def vs_k_needArgument : List Cond := .code yX11_needArgument cX11_needArgument 2 none :: (([.fieldLink RX11 67 "KerbSplash" "refused" "[I", .classLink RX11 364 "java/lang/IllegalArgumentException", .initialized "java/lang/IllegalArgumentException"] : List Cond) ++ ((wsX110) ++ (((vx_atS RX11 368 "java/lang/IllegalArgumentException" ["java/lang/RuntimeException", "java/lang/Exception"]).filter goodWord) ++ ([]))))
theorem gd_k_needArgument : vs_k_needArgument.all goodWord = true := gd_C (by decide +kernel) (gd_A (by decide +kernel) (gd_A (by decide +kernel) (gd_A (List.all_eq_true.mpr (fun w h => (List.mem_filter.mp h).2)) rfl)))
set_option maxHeartbeats 4000000 in
set_option maxRecDepth 100000 in
theorem k_needArgument (l : Launch) (hl : l.stackTraces = false) (D : va_G) (cy : Nat → ClassId) (sa : Nat → Nat) (kk ta kr kl sA dA pa ki kp wa or_ rq : Nat) (nr nw im : Int) (qf : Nat → Int32) (b : Int) (sz : Nat) (hr_nr : 0 ≤ nr ∧ nr ≤ 4) (hr_nw : 0 ≤ nw ∧ nw ≤ 4) (hr_im : 0 ≤ im ∧ im ≤ 3) (hr_b : 0 ≤ b ∧ b ≤ 1) : xV9 l yX11_needArgument vs_k_needArgument ({ frames := 6, cells := 1, slots := 6, locals := 100 }) D cy sa sz [vR kk, vI b] [zO kk 11 [vR ta, vR kr, vR kl, vI nr, vI nw, vR sA, vR dA, vR pa, vR ki, vR kp, vI im, vR wa, vR or_, vR rq], zI rq (cy 0) 4 qf] (fun u : SV => (b = 1)) (fun u : SV => [zO kk 11 [vR ta, vR kr, vR kl, vI nr, vI nw, vR sA, vR dA, vR pa, vR ki, vR kp, vI im, vR wa, vR or_, vR rq], zI rq (cy 0) 4 qf]) (fun (E : String) (u : SV) => (E = "java/lang/IllegalArgumentException") ∧ (b = 0)) (fun u : SV => [zO kk 11 [vR ta, vR kr, vR kl, vI nr, vI nw, vR sA, vR dA, vR pa, vR ki, vR kp, vI im, vR wa, vR or_, vR rq], zI rq (cy 0) 4 (u.2.2 0)]) 1 6 := by
  refine vx_ofW (cc := cX11_needArgument) (maxL := 2) (ret := none) (by decide) rfl ?_
  intro p e s m args below meth c s₁ B hml hex hv
  obtain ⟨rfl, hsz, hP, hG, hD0, hT⟩ := hv
  have hx := B.exec
  have hb := B.bytes
  have hr := B.returns
  have hts := atoms_spec (ws := vs_k_needArgument) B.pre
  have hown : s.vm.findClass RX11 = some m.cls := findClass_of_methodNamed B.named
  have hlocks := B.notSynchronized
  subst hsz
  have hD := hD0.self (sz := s.heap.size)
  generalize hAe : va_A [zO kk 11 [vR ta, vR kr, vR kl, vI nr, vI nw, vR sA, vR dA, vR pa, vR ki, vR kp, vI im, vR wa, vR or_, vR rq], zI rq (cy 0) 4 qf] s.heap.size = A at hD hT ⊢
  have hA : ∀ q : Nat, s.heap.size ≤ q → A q := fun q h => by rw [← hAe]; exact Or.inr h
  have hS : va_S A s.heap s.heap [] := va_S.rf
  have hl0 := lv_entry ([vR kk, vI b]) (n := 2) (Nat.le_of_ble_eq_true rfl)
  rw [lg_entry_eq]
  generalize (lg_sl ([vR kk, vI b]) ++ List.replicate (2 - (lg_sl ([vR kk, vI b])).length) Slot.unset).toArray = ls at hl0 ⊢
  have hlv : lv_has ls 2 [(0, vR kk), (1, vI b)] := hl0
  have lf67 := hts (.fieldLink RX11 67 "KerbSplash" "refused" "[I") (List.mem_of_getElem? (i := 1) rfl)
  have hi11 : ∀ w ∈ wsX110, w ∈ vs_k_needArgument := fun w h => List.mem_cons_of_mem _ (List.mem_append_right _ (List.mem_append_left _ h))
  have cl364 := hts (.classLink RX11 364 "java/lang/IllegalArgumentException") (List.mem_of_getElem? (i := 2) rfl)
  have inX2 := hts (.initialized "java/lang/IllegalArgumentException") (List.mem_of_getElem? (i := 3) rfl)
  have hat2 : ∀ w ∈ vx_atS RX11 368 "java/lang/IllegalArgumentException" ["java/lang/RuntimeException", "java/lang/Exception"], w.before ([vR kk, vI b] : List Value).toArray s = true := vx_hat (fun w h => hts w ((fun w h => List.mem_cons_of_mem _ (List.mem_append_right _ (List.mem_append_right _ (List.mem_append_left _ h)))) w h)) xI2 (xB_ok hG (List.mem_of_getElem? (i := 2) rfl))
  refine lv_iload_n hx hb dX11_needArgument_0 rfl (lv_at hlv 1 rfl) ?_
  refine iz_ne (tgt := 25) hx hb dX11_needArgument_1 (by decide) (by first | exact rgw hr_b (by decide) (by decide) | omega) (fun c_1 => ?_) (fun c_1 => ?_)
  · refine W.widen (k := 1) (n := 6) (Nat.le_of_ble_eq_true rfl) (Nat.le_of_ble_eq_true rfl) ?_
    refine vx_ret ?_
    exact W.vret hx hb hr (fun t ht hW => ⟨⟨((fun k => ([] : List Nat).getD k 0), (fun k => ([] : List Int).getD k 0), (fun k => ([] : List (Nat → Int32)).getD k (fun _ => 0))), rfl, (by show (b = 1); omega), at9 ht hP hD [0, 1] (by decide +kernel) rfl⟩, hS.F ht⟩) hS.2.2 dX11_needArgument_25
  · refine lv_aload_n hx hb dX11_needArgument_4 rfl (lv_at hlv 0 rfl) ?_
    refine va_get (D := D) (ci := 11) (v := vR rq) (C := RX11) (T := TX11) (N := 14) hx hb hts hi11 hown hG.1 hP 0 rfl rfl 13 (by decide) lf67 (fun _ h9 => h9) rfl dX11_needArgument_5 ?_
    refine lv_iconst (v := iI 2) hx hb dX11_needArgument_8 (by decide) ?_
    refine lv_dup2_11 hx hb dX11_needArgument_9 rfl rfl ?_
    refine va_iald hx hb hG.1 hP 1 0 rfl rfl (iI_in (by omega) (by decide)) dX11_needArgument_10 ?_
    refine lt_z (fun z_2 ez_2 lz_2 hz_2 => ?_)
    refine lv_iconst (v := iI 1) hx hb dX11_needArgument_11 (by decide) ?_
    refine lv_iadd hx hb dX11_needArgument_12 ?_
    refine lt_z (fun z_3 ez_3 lz_3 hz_3 => ?_)
    refine va_iast hx hb hG.1 hP hD hS 1 0 rfl rfl (iI_in (by omega) (by decide)) dX11_needArgument_13 (fun H locs hP hD hS => ?_)
    obtain ⟨f_4, hP, hD⟩ := pe9 (fun f_4 => [zO kk 11 [vR ta, vR kr, vR kl, vI nr, vI nw, vR sA, vR dA, vR pa, vR ki, vR kp, vI im, vR wa, vR or_, vR rq], zI rq (cy 0) 4 f_4]) _ hP hD
    have hstr9 : vk_R RX11 366 "a number is none such" (sa 2) s := hG.2.2.1 2 (RX11, 366, "a number is none such", 2) rfl
    exact vx_throwSW (cls := "java/lang/IllegalArgumentException") (names := ["java/lang/RuntimeException", "java/lang/Exception"]) hx hb hl hown (by decide +kernel) (by decide +kernel) cl364 inX2 hstr9 hat2 (by decide +kernel) hT.1 hT.2.1 hS (hlv.1.trans hml.symm) dX11_needArgument_14 dX11_needArgument_17 dX11_needArgument_18 dX11_needArgument_21 dX11_needArgument_24 (fun x h => (hex x h).elim) (Nat.le_of_ble_eq_true rfl) (Nat.le_of_ble_eq_true rfl) (Nat.le_of_ble_eq_true rfl) (Nat.le_of_ble_eq_true rfl) hlocks (fun t hvm h1 h2 => ⟨((fun k => ([] : List Nat).getD k 0), (fun k => ([] : List Int).getD k 0), (fun k => ([f_4] : List (Nat → Int32)).getD k (fun _ => 0))), trivial, ⟨⟨rfl, by omega⟩, px_P (hP.sub [0, 1] rfl) h2, hD.sub [0, 1] (by decide) rfl⟩, ⟨Nat.le_trans hS.1 h1, fun q hq hn => (h2 q (Nat.lt_of_lt_of_le hq hS.1)).trans (hS.2.1 q hq hn)⟩⟩) hS.2.2 (Nat.le_of_ble_eq_true rfl) (Nat.le_of_ble_eq_true rfl)
def vs_k_needState : List Cond := .code yX11_needState cX11_needState 2 none :: (([.fieldLink RX11 67 "KerbSplash" "refused" "[I", .classLink RX11 369 "java/lang/IllegalStateException", .initialized "java/lang/IllegalStateException"] : List Cond) ++ ((wsX110) ++ (((vx_atS RX11 373 "java/lang/IllegalStateException" ["java/lang/RuntimeException", "java/lang/Exception"]).filter goodWord) ++ ([]))))
theorem gd_k_needState : vs_k_needState.all goodWord = true := gd_C (by decide +kernel) (gd_A (by decide +kernel) (gd_A (by decide +kernel) (gd_A (List.all_eq_true.mpr (fun w h => (List.mem_filter.mp h).2)) rfl)))
set_option maxHeartbeats 4000000 in
set_option maxRecDepth 100000 in
theorem k_needState (l : Launch) (hl : l.stackTraces = false) (D : va_G) (cy : Nat → ClassId) (sa : Nat → Nat) (kk ta kr kl sA dA pa ki kp wa or_ rq : Nat) (nr nw im : Int) (qf : Nat → Int32) (b : Int) (sz : Nat) (hr_nr : 0 ≤ nr ∧ nr ≤ 4) (hr_nw : 0 ≤ nw ∧ nw ≤ 4) (hr_im : 0 ≤ im ∧ im ≤ 3) (hr_b : 0 ≤ b ∧ b ≤ 1) : xV9 l yX11_needState vs_k_needState ({ frames := 6, cells := 1, slots := 6, locals := 100 }) D cy sa sz [vR kk, vI b] [zO kk 11 [vR ta, vR kr, vR kl, vI nr, vI nw, vR sA, vR dA, vR pa, vR ki, vR kp, vI im, vR wa, vR or_, vR rq], zI rq (cy 0) 4 qf] (fun u : SV => (b = 1)) (fun u : SV => [zO kk 11 [vR ta, vR kr, vR kl, vI nr, vI nw, vR sA, vR dA, vR pa, vR ki, vR kp, vI im, vR wa, vR or_, vR rq], zI rq (cy 0) 4 qf]) (fun (E : String) (u : SV) => (E = "java/lang/IllegalStateException") ∧ (b = 0)) (fun u : SV => [zO kk 11 [vR ta, vR kr, vR kl, vI nr, vI nw, vR sA, vR dA, vR pa, vR ki, vR kp, vI im, vR wa, vR or_, vR rq], zI rq (cy 0) 4 (u.2.2 0)]) 1 6 := by
  refine vx_ofW (cc := cX11_needState) (maxL := 2) (ret := none) (by decide) rfl ?_
  intro p e s m args below meth c s₁ B hml hex hv
  obtain ⟨rfl, hsz, hP, hG, hD0, hT⟩ := hv
  have hx := B.exec
  have hb := B.bytes
  have hr := B.returns
  have hts := atoms_spec (ws := vs_k_needState) B.pre
  have hown : s.vm.findClass RX11 = some m.cls := findClass_of_methodNamed B.named
  have hlocks := B.notSynchronized
  subst hsz
  have hD := hD0.self (sz := s.heap.size)
  generalize hAe : va_A [zO kk 11 [vR ta, vR kr, vR kl, vI nr, vI nw, vR sA, vR dA, vR pa, vR ki, vR kp, vI im, vR wa, vR or_, vR rq], zI rq (cy 0) 4 qf] s.heap.size = A at hD hT ⊢
  have hA : ∀ q : Nat, s.heap.size ≤ q → A q := fun q h => by rw [← hAe]; exact Or.inr h
  have hS : va_S A s.heap s.heap [] := va_S.rf
  have hl0 := lv_entry ([vR kk, vI b]) (n := 2) (Nat.le_of_ble_eq_true rfl)
  rw [lg_entry_eq]
  generalize (lg_sl ([vR kk, vI b]) ++ List.replicate (2 - (lg_sl ([vR kk, vI b])).length) Slot.unset).toArray = ls at hl0 ⊢
  have hlv : lv_has ls 2 [(0, vR kk), (1, vI b)] := hl0
  have lf67 := hts (.fieldLink RX11 67 "KerbSplash" "refused" "[I") (List.mem_of_getElem? (i := 1) rfl)
  have hi11 : ∀ w ∈ wsX110, w ∈ vs_k_needState := fun w h => List.mem_cons_of_mem _ (List.mem_append_right _ (List.mem_append_left _ h))
  have cl369 := hts (.classLink RX11 369 "java/lang/IllegalStateException") (List.mem_of_getElem? (i := 2) rfl)
  have inX3 := hts (.initialized "java/lang/IllegalStateException") (List.mem_of_getElem? (i := 3) rfl)
  have hat3 : ∀ w ∈ vx_atS RX11 373 "java/lang/IllegalStateException" ["java/lang/RuntimeException", "java/lang/Exception"], w.before ([vR kk, vI b] : List Value).toArray s = true := vx_hat (fun w h => hts w ((fun w h => List.mem_cons_of_mem _ (List.mem_append_right _ (List.mem_append_right _ (List.mem_append_left _ h)))) w h)) xI3 (xB_ok hG (List.mem_of_getElem? (i := 3) rfl))
  refine lv_iload_n hx hb dX11_needState_0 rfl (lv_at hlv 1 rfl) ?_
  refine iz_ne (tgt := 25) hx hb dX11_needState_1 (by decide) (by first | exact rgw hr_b (by decide) (by decide) | omega) (fun c_1 => ?_) (fun c_1 => ?_)
  · refine W.widen (k := 1) (n := 6) (Nat.le_of_ble_eq_true rfl) (Nat.le_of_ble_eq_true rfl) ?_
    refine vx_ret ?_
    exact W.vret hx hb hr (fun t ht hW => ⟨⟨((fun k => ([] : List Nat).getD k 0), (fun k => ([] : List Int).getD k 0), (fun k => ([] : List (Nat → Int32)).getD k (fun _ => 0))), rfl, (by show (b = 1); omega), at9 ht hP hD [0, 1] (by decide +kernel) rfl⟩, hS.F ht⟩) hS.2.2 dX11_needState_25
  · refine lv_aload_n hx hb dX11_needState_4 rfl (lv_at hlv 0 rfl) ?_
    refine va_get (D := D) (ci := 11) (v := vR rq) (C := RX11) (T := TX11) (N := 14) hx hb hts hi11 hown hG.1 hP 0 rfl rfl 13 (by decide) lf67 (fun _ h9 => h9) rfl dX11_needState_5 ?_
    refine lv_iconst (v := iI 3) hx hb dX11_needState_8 (by decide) ?_
    refine lv_dup2_11 hx hb dX11_needState_9 rfl rfl ?_
    refine va_iald hx hb hG.1 hP 1 0 rfl rfl (iI_in (by omega) (by decide)) dX11_needState_10 ?_
    refine lt_z (fun z_2 ez_2 lz_2 hz_2 => ?_)
    refine lv_iconst (v := iI 1) hx hb dX11_needState_11 (by decide) ?_
    refine lv_iadd hx hb dX11_needState_12 ?_
    refine lt_z (fun z_3 ez_3 lz_3 hz_3 => ?_)
    refine va_iast hx hb hG.1 hP hD hS 1 0 rfl rfl (iI_in (by omega) (by decide)) dX11_needState_13 (fun H locs hP hD hS => ?_)
    obtain ⟨f_4, hP, hD⟩ := pe9 (fun f_4 => [zO kk 11 [vR ta, vR kr, vR kl, vI nr, vI nw, vR sA, vR dA, vR pa, vR ki, vR kp, vI im, vR wa, vR or_, vR rq], zI rq (cy 0) 4 f_4]) _ hP hD
    have hstr9 : vk_R RX11 371 "there is no street, or its time is over" (sa 3) s := hG.2.2.1 3 (RX11, 371, "there is no street, or its time is over", 3) rfl
    exact vx_throwSW (cls := "java/lang/IllegalStateException") (names := ["java/lang/RuntimeException", "java/lang/Exception"]) hx hb hl hown (by decide +kernel) (by decide +kernel) cl369 inX3 hstr9 hat3 (by decide +kernel) hT.1 hT.2.1 hS (hlv.1.trans hml.symm) dX11_needState_14 dX11_needState_17 dX11_needState_18 dX11_needState_21 dX11_needState_24 (fun x h => (hex x h).elim) (Nat.le_of_ble_eq_true rfl) (Nat.le_of_ble_eq_true rfl) (Nat.le_of_ble_eq_true rfl) (Nat.le_of_ble_eq_true rfl) hlocks (fun t hvm h1 h2 => ⟨((fun k => ([] : List Nat).getD k 0), (fun k => ([] : List Int).getD k 0), (fun k => ([f_4] : List (Nat → Int32)).getD k (fun _ => 0))), trivial, ⟨⟨rfl, by omega⟩, px_P (hP.sub [0, 1] rfl) h2, hD.sub [0, 1] (by decide) rfl⟩, ⟨Nat.le_trans hS.1 h1, fun q hq hn => (h2 q (Nat.lt_of_lt_of_le hq hS.1)).trans (hS.2.1 q hq hn)⟩⟩) hS.2.2 (Nat.le_of_ble_eq_true rfl) (Nat.le_of_ble_eq_true rfl)
def vs_k_needCell : List Cond := .code yX11_needCell cX11_needCell 3 none :: (([.fieldLink RX11 31 "KerbSplash" "now" "LKerbSplash$Street;", .initialized RX6, .instanceMethod yX6_has, .selects RX6 yX6_has yX6_has, .fieldLink RX11 67 "KerbSplash" "refused" "[I", .classLink RX11 352 "java/lang/IndexOutOfBoundsException", .initialized "java/lang/IndexOutOfBoundsException"] : List Cond) ++ ((wsX110) ++ ((vs_s_has) ++ (((vx_atS RX11 356 "java/lang/IndexOutOfBoundsException" ["java/lang/RuntimeException", "java/lang/Exception"]).filter goodWord) ++ ([])))))
theorem gd_k_needCell : vs_k_needCell.all goodWord = true := gd_C (by decide +kernel) (gd_A (by decide +kernel) (gd_A (by decide +kernel) (gd_A gd_s_has (gd_A (List.all_eq_true.mpr (fun w h => (List.mem_filter.mp h).2)) rfl))))
set_option maxHeartbeats 4000000 in
set_option maxRecDepth 100000 in
theorem k_needCell (l : Launch) (hl : l.stackTraces = false) (D : va_G) (cy : Nat → ClassId) (sa : Nat → Nat) (kk ta kr kl sA dA pa ki kp wa or_ rq : Nat) (nr nw im : Int) (s2 s3 s6 s8 s11 s13 : Nat) (wi ro dr dt pe gu sh wo dn mi fl tk go : Int) (qf : Nat → Int32) (x y : Int) (sz : Nat) (hr_nr : 0 ≤ nr ∧ nr ≤ 4) (hr_nw : 0 ≤ nw ∧ nw ≤ 4) (hr_im : 0 ≤ im ∧ im ≤ 3) (hr_wi : 0 ≤ wi ∧ wi ≤ 16) (hr_ro : 0 ≤ ro ∧ ro ≤ 6) (hr_dr : 0 ≤ dr ∧ dr ≤ 14) (hr_dt : 0 ≤ dt ∧ dt ≤ 6) (hr_pe : 0 ≤ pe ∧ pe ≤ 8) (hr_gu : 0 ≤ gu ∧ gu ≤ 20) (hr_sh : 0 ≤ sh ∧ sh ≤ 2) (hr_wo : 0 ≤ wo ∧ wo ≤ 8) (hr_dn : (-2147483648) ≤ dn ∧ dn ≤ 2147483647) (hr_mi : 0 ≤ mi ∧ mi ≤ 600) (hr_fl : (-2147483648) ≤ fl ∧ fl ≤ 2147483647) (hr_tk : (-2147483648) ≤ tk ∧ tk ≤ 2147483647) (hr_go : (-2147483648) ≤ go ∧ go ≤ 2147483647) (hr_x : (-2147483648) ≤ x ∧ x ≤ 2147483647) (hr_y : (-2147483648) ≤ y ∧ y ≤ 2147483647) : xV9 l yX11_needCell vs_k_needCell ({ frames := 6, cells := 1, slots := 6, locals := 100 }) D cy sa sz [vR kk, vI x, vI y] [zO kk 11 [vR ta, vR kr, vR kl, vI nr, vI nw, vR sA, vR dA, vR pa, vR ki, vR kp, vI im, vR wa, vR or_, vR rq], zI rq (cy 0) 4 qf, zO sA 6 [vI wi, vI ro, vR s2, vR s3, vI dr, vI dt, vR s6, vI pe, vR s8, vI gu, vI sh, vR s11, vI wo, vR s13, vI dn, vI mi, vI fl, vI tk, vI go]] (fun u : SV => (0 ≤ x ∧ x < wi ∧ 0 ≤ y ∧ y < ro)) (fun u : SV => [zO kk 11 [vR ta, vR kr, vR kl, vI nr, vI nw, vR sA, vR dA, vR pa, vR ki, vR kp, vI im, vR wa, vR or_, vR rq], zI rq (cy 0) 4 qf, zO sA 6 [vI wi, vI ro, vR s2, vR s3, vI dr, vI dt, vR s6, vI pe, vR s8, vI gu, vI sh, vR s11, vI wo, vR s13, vI dn, vI mi, vI fl, vI tk, vI go]]) (fun (E : String) (u : SV) => (E = "java/lang/IndexOutOfBoundsException")) (fun u : SV => [zO kk 11 [vR ta, vR kr, vR kl, vI nr, vI nw, vR sA, vR dA, vR pa, vR ki, vR kp, vI im, vR wa, vR or_, vR rq], zI rq (cy 0) 4 (u.2.2 0), zO sA 6 [vI wi, vI ro, vR s2, vR s3, vI dr, vI dt, vR s6, vI pe, vR s8, vI gu, vI sh, vR s11, vI wo, vR s13, vI dn, vI mi, vI fl, vI tk, vI go]]) 1 6 := by
  refine vx_ofW (cc := cX11_needCell) (maxL := 3) (ret := none) (by decide) rfl ?_
  intro p e s m args below meth c s₁ B hml hex hv
  obtain ⟨rfl, hsz, hP, hG, hD0, hT⟩ := hv
  have hx := B.exec
  have hb := B.bytes
  have hr := B.returns
  have hts := atoms_spec (ws := vs_k_needCell) B.pre
  have hown : s.vm.findClass RX11 = some m.cls := findClass_of_methodNamed B.named
  have hlocks := B.notSynchronized
  subst hsz
  have hD := hD0.self (sz := s.heap.size)
  generalize hAe : va_A [zO kk 11 [vR ta, vR kr, vR kl, vI nr, vI nw, vR sA, vR dA, vR pa, vR ki, vR kp, vI im, vR wa, vR or_, vR rq], zI rq (cy 0) 4 qf, zO sA 6 [vI wi, vI ro, vR s2, vR s3, vI dr, vI dt, vR s6, vI pe, vR s8, vI gu, vI sh, vR s11, vI wo, vR s13, vI dn, vI mi, vI fl, vI tk, vI go]] s.heap.size = A at hD hT ⊢
  have hA : ∀ q : Nat, s.heap.size ≤ q → A q := fun q h => by rw [← hAe]; exact Or.inr h
  have hS : va_S A s.heap s.heap [] := va_S.rf
  have hl0 := lv_entry ([vR kk, vI x, vI y]) (n := 3) (Nat.le_of_ble_eq_true rfl)
  rw [lg_entry_eq]
  generalize (lg_sl ([vR kk, vI x, vI y]) ++ List.replicate (3 - (lg_sl ([vR kk, vI x, vI y])).length) Slot.unset).toArray = ls at hl0 ⊢
  have hlv : lv_has ls 3 [(0, vR kk), (1, vI x), (2, vI y)] := hl0
  have lf31 := hts (.fieldLink RX11 31 "KerbSplash" "now" "LKerbSplash$Street;") (List.mem_of_getElem? (i := 1) rfl)
  have hi11 : ∀ w ∈ wsX110, w ∈ vs_k_needCell := fun w h => List.mem_cons_of_mem _ (List.mem_append_right _ (List.mem_append_left _ h))
  have gg_1 : GoodIn vs_k_needCell (vs_s_has) := goodIn_sub (fun w h => List.mem_cons_of_mem _ (List.mem_append_right _ (List.mem_append_right _ (List.mem_append_left _ h)))) gd_s_has
  have ini_RX6 := hts (.initialized RX6) (List.mem_of_getElem? (i := 2) rfl)
  have im_X6_has := hts (.instanceMethod yX6_has) (List.mem_of_getElem? (i := 3) rfl)
  have se_X6_has := hts (.selects RX6 yX6_has yX6_has) (List.mem_of_getElem? (i := 4) rfl)
  have lf67 := hts (.fieldLink RX11 67 "KerbSplash" "refused" "[I") (List.mem_of_getElem? (i := 5) rfl)
  have cl352 := hts (.classLink RX11 352 "java/lang/IndexOutOfBoundsException") (List.mem_of_getElem? (i := 6) rfl)
  have inX0 := hts (.initialized "java/lang/IndexOutOfBoundsException") (List.mem_of_getElem? (i := 7) rfl)
  have hat0 : ∀ w ∈ vx_atS RX11 356 "java/lang/IndexOutOfBoundsException" ["java/lang/RuntimeException", "java/lang/Exception"], w.before ([vR kk, vI x, vI y] : List Value).toArray s = true := vx_hat (fun w h => hts w ((fun w h => List.mem_cons_of_mem _ (List.mem_append_right _ (List.mem_append_right _ (List.mem_append_right _ (List.mem_append_left _ h))))) w h)) xI0 (xB_ok hG (List.mem_of_getElem? (i := 0) rfl))
  refine lv_aload_n hx hb dX11_needCell_0 rfl (lv_at hlv 0 rfl) ?_
  refine va_get (D := D) (ci := 11) (v := vR sA) (C := RX11) (T := TX11) (N := 14) hx hb hts hi11 hown hG.1 hP 0 rfl rfl 5 (by decide) lf31 (fun _ h9 => h9) rfl dX11_needCell_1 ?_
  refine lv_iload_n hx hb dX11_needCell_4 rfl (lv_at hlv 1 rfl) ?_
  refine lv_iload_n hx hb dX11_needCell_5 rfl (lv_at hlv 2 rfl) ?_
  refine cjr_i [true, true, false] (fun pre9 => (va_runVN (host := "KerbSplash") (As := [vI x, vI y]) (rest := []) ⟨hx, hb, hml, hown, hts⟩ (s_has l hl D cy sa sA s2 s3 s6 s8 s11 s13 wi ro dr dt pe gu sh wo dn mi fl tk go x y s.heap.size (by first | exact hr_wi | omega) (by first | exact hr_ro | omega) (by first | exact hr_dr | omega) (by first | exact hr_dt | omega) (by first | exact hr_pe | omega) (by first | exact hr_gu | omega) (by first | exact hr_sh | omega) (by first | exact hr_wo | omega) (by first | exact hr_dn | omega) (by first | exact hr_mi | omega) (by first | exact hr_fl | omega) (by first | exact hr_tk | omega) (by first | exact hr_go | omega) (by first | exact hr_x | omega) (by first | exact hr_y | omega)) ⟨va_cnB 2 hts gg_1 rfl rfl rfl (nM_K_348 hG.2.1) ini_RX6 (by decide +kernel) ⟨Nat.le_of_ble_eq_true rfl, Nat.le_of_ble_eq_true rfl⟩, im_X6_has, se_X6_has⟩ ⟨pcW.blind, (va_recv hG.1 hP (ci := 6) (q0 := 2) rfl rfl), pre9⟩ rfl rfl hlv.1 rfl (lv_room (Nat.le_of_ble_eq_true rfl)) dX11_needCell_6 ⟨Nat.le_of_ble_eq_true rfl, Nat.le_of_ble_eq_true rfl⟩)) hP hD hS hA hG hT [2] rfl (by decide +kernel) (fun r1 u1 H locs hw1 hq9 hS => ?_)
  obtain ⟨rfl, hq1_1, hq1_2⟩ := hw1
  obtain ⟨hP, hD⟩ := pd9 [zO kk 11 [vR ta, vR kr, vR kl, vI nr, vI nw, vR sA, vR dA, vR pa, vR ki, vR kp, vI im, vR wa, vR or_, vR rq], zI rq (cy 0) 4 qf, zO sA 6 [vI wi, vI ro, vR s2, vR s3, vI dr, vI dt, vR s6, vI pe, vR s8, vI gu, vI sh, vR s11, vI wo, vR s13, vI dn, vI mi, vI fl, vI tk, vI go]] hq9
  refine iz_ne (tgt := 33) hx hb dX11_needCell_9 (by decide) (by first | exact rgw hq1_1 (by decide) (by decide) | omega) (fun c_1 => ?_) (fun c_1 => ?_)
  · refine W.widen (k := 1) (n := 6) (Nat.le_of_ble_eq_true rfl) (Nat.le_of_ble_eq_true rfl) ?_
    refine vx_ret ?_
    exact W.vret hx hb hr (fun t ht hW => ⟨⟨((fun k => ([] : List Nat).getD k 0), (fun k => ([] : List Int).getD k 0), (fun k => ([] : List (Nat → Int32)).getD k (fun _ => 0))), rfl, (by show (0 ≤ x ∧ x < wi ∧ 0 ≤ y ∧ y < ro); omega), at9 ht hP hD [0, 1, 2] (by decide +kernel) rfl⟩, hS.F ht⟩) hS.2.2 dX11_needCell_33
  · refine lv_aload_n hx hb dX11_needCell_12 rfl (lv_at hlv 0 rfl) ?_
    refine va_get (D := D) (ci := 11) (v := vR rq) (C := RX11) (T := TX11) (N := 14) hx hb hts hi11 hown hG.1 hP 0 rfl rfl 13 (by decide) lf67 (fun _ h9 => h9) rfl dX11_needCell_13 ?_
    refine lv_iconst (v := iI 0) hx hb dX11_needCell_16 (by decide) ?_
    refine lv_dup2_11 hx hb dX11_needCell_17 rfl rfl ?_
    refine va_iald hx hb hG.1 hP 1 0 rfl rfl (iI_in (by omega) (by decide)) dX11_needCell_18 ?_
    refine lt_z (fun z_2 ez_2 lz_2 hz_2 => ?_)
    refine lv_iconst (v := iI 1) hx hb dX11_needCell_19 (by decide) ?_
    refine lv_iadd hx hb dX11_needCell_20 ?_
    refine lt_z (fun z_3 ez_3 lz_3 hz_3 => ?_)
    refine va_iast hx hb hG.1 hP hD hS 1 0 rfl rfl (iI_in (by omega) (by decide)) dX11_needCell_21 (fun H locs hP hD hS => ?_)
    obtain ⟨f_4, hP, hD⟩ := pe9 (fun f_4 => [zO kk 11 [vR ta, vR kr, vR kl, vI nr, vI nw, vR sA, vR dA, vR pa, vR ki, vR kp, vI im, vR wa, vR or_, vR rq], zI rq (cy 0) 4 f_4, zO sA 6 [vI wi, vI ro, vR s2, vR s3, vI dr, vI dt, vR s6, vI pe, vR s8, vI gu, vI sh, vR s11, vI wo, vR s13, vI dn, vI mi, vI fl, vI tk, vI go]]) _ hP hD
    have hstr9 : vk_R RX11 354 "no such cell" (sa 0) s := hG.2.2.1 0 (RX11, 354, "no such cell", 0) rfl
    exact vx_throwSW (cls := "java/lang/IndexOutOfBoundsException") (names := ["java/lang/RuntimeException", "java/lang/Exception"]) hx hb hl hown (by decide +kernel) (by decide +kernel) cl352 inX0 hstr9 hat0 (by decide +kernel) hT.1 hT.2.1 hS (hlv.1.trans hml.symm) dX11_needCell_22 dX11_needCell_25 dX11_needCell_26 dX11_needCell_29 dX11_needCell_32 (fun x h => (hex x h).elim) (Nat.le_of_ble_eq_true rfl) (Nat.le_of_ble_eq_true rfl) (Nat.le_of_ble_eq_true rfl) (Nat.le_of_ble_eq_true rfl) hlocks (fun t hvm h1 h2 => ⟨((fun k => ([] : List Nat).getD k 0), (fun k => ([] : List Int).getD k 0), (fun k => ([f_4] : List (Nat → Int32)).getD k (fun _ => 0))), trivial, ⟨rfl, px_P (hP.sub [0, 1, 2] rfl) h2, hD.sub [0, 1, 2] (by decide) rfl⟩, ⟨Nat.le_trans hS.1 h1, fun q hq hn => (h2 q (Nat.lt_of_lt_of_le hq hS.1)).trans (hS.2.1 q hq hn)⟩⟩) hS.2.2 (Nat.le_of_ble_eq_true rfl) (Nat.le_of_ble_eq_true rfl)
def vs_k_needRain : List Cond := .code yX11_needRain cX11_needRain 2 none :: (([.fieldLink RX11 112 "KerbSplash" "rainsTold" "I"] : List Cond) ++ ((wsX110) ++ ((va_wsS RX11 130 yX11_isWithin vs_s_within) ++ ((wsV RX11 177 RX11 yX11_needElement vs_k_needElement) ++ ([])))))
theorem gd_k_needRain : vs_k_needRain.all goodWord = true := gd_C (by decide +kernel) (gd_A (by decide +kernel) (gd_A (by decide +kernel) (gd_A (gd_S gd_s_within (by decide +kernel)) (gd_A (gd_V gd_k_needElement (by decide +kernel)) rfl))))
set_option maxHeartbeats 4000000 in
set_option maxRecDepth 100000 in
theorem k_needRain (l : Launch) (hl : l.stackTraces = false) (D : va_G) (cy : Nat → ClassId) (sa : Nat → Nat) (kk ta kr kl sA dA pa ki kp wa or_ rq : Nat) (nr nw im : Int) (qf : Nat → Int32) (n : Int) (sz : Nat) (hr_nr : 0 ≤ nr ∧ nr ≤ 4) (hr_nw : 0 ≤ nw ∧ nw ≤ 4) (hr_im : 0 ≤ im ∧ im ≤ 3) (hr_n : (-2147483648) ≤ n ∧ n ≤ 2147483647) : xV9 l yX11_needRain vs_k_needRain ({ frames := 7, cells := 1, slots := 6, locals := 121 }) D cy sa sz [vR kk, vI n] [zO kk 11 [vR ta, vR kr, vR kl, vI nr, vI nw, vR sA, vR dA, vR pa, vR ki, vR kp, vI im, vR wa, vR or_, vR rq], zI rq (cy 0) 4 qf] (fun u : SV => (0 ≤ n ∧ n < nr)) (fun u : SV => [zO kk 11 [vR ta, vR kr, vR kl, vI nr, vI nw, vR sA, vR dA, vR pa, vR ki, vR kp, vI im, vR wa, vR or_, vR rq], zI rq (cy 0) 4 qf]) (fun (E : String) (u : SV) => (E = "java/util/NoSuchElementException")) (fun u : SV => [zO kk 11 [vR ta, vR kr, vR kl, vI nr, vI nw, vR sA, vR dA, vR pa, vR ki, vR kp, vI im, vR wa, vR or_, vR rq], zI rq (cy 0) 4 (u.2.2 0)]) 1 6 := by
  refine vx_ofW (cc := cX11_needRain) (maxL := 2) (ret := none) (by decide) rfl ?_
  intro p e s m args below meth c s₁ B hml hex hv
  obtain ⟨rfl, hsz, hP, hG, hD0, hT⟩ := hv
  have hx := B.exec
  have hb := B.bytes
  have hr := B.returns
  have hts := atoms_spec (ws := vs_k_needRain) B.pre
  have hown : s.vm.findClass RX11 = some m.cls := findClass_of_methodNamed B.named
  have hlocks := B.notSynchronized
  subst hsz
  have hD := hD0.self (sz := s.heap.size)
  generalize hAe : va_A [zO kk 11 [vR ta, vR kr, vR kl, vI nr, vI nw, vR sA, vR dA, vR pa, vR ki, vR kp, vI im, vR wa, vR or_, vR rq], zI rq (cy 0) 4 qf] s.heap.size = A at hD hT ⊢
  have hA : ∀ q : Nat, s.heap.size ≤ q → A q := fun q h => by rw [← hAe]; exact Or.inr h
  have hS : va_S A s.heap s.heap [] := va_S.rf
  have hl0 := lv_entry ([vR kk, vI n]) (n := 2) (Nat.le_of_ble_eq_true rfl)
  rw [lg_entry_eq]
  generalize (lg_sl ([vR kk, vI n]) ++ List.replicate (2 - (lg_sl ([vR kk, vI n])).length) Slot.unset).toArray = ls at hl0 ⊢
  have hlv : lv_has ls 2 [(0, vR kk), (1, vI n)] := hl0
  have lf112 := hts (.fieldLink RX11 112 "KerbSplash" "rainsTold" "I") (List.mem_of_getElem? (i := 1) rfl)
  have hi11 : ∀ w ∈ wsX110, w ∈ vs_k_needRain := fun w h => List.mem_cons_of_mem _ (List.mem_append_right _ (List.mem_append_left _ h))
  have gg_1 : GoodIn vs_k_needRain (va_wsS RX11 130 yX11_isWithin vs_s_within) := goodIn_sub (fun w h => List.mem_cons_of_mem _ (List.mem_append_right _ (List.mem_append_right _ (List.mem_append_left _ h)))) (gd_S gd_s_within (by decide +kernel))
  have gg_2 : GoodIn vs_k_needRain (wsV RX11 177 RX11 yX11_needElement vs_k_needElement) := goodIn_sub (fun w h => List.mem_cons_of_mem _ (List.mem_append_right _ (List.mem_append_right _ (List.mem_append_right _ (List.mem_append_left _ h))))) (gd_V gd_k_needElement (by decide +kernel))
  refine lv_aload_n hx hb dX11_needRain_0 rfl (lv_at hlv 0 rfl) ?_
  refine lv_iload_n hx hb dX11_needRain_1 rfl (lv_at hlv 1 rfl) ?_
  refine lv_iconst (v := iI 0) hx hb dX11_needRain_2 (by decide) ?_
  refine lv_aload_n hx hb dX11_needRain_3 rfl (lv_at hlv 0 rfl) ?_
  refine va_get (D := D) (ci := 11) (v := vI nr) (C := RX11) (T := TX11) (N := 14) hx hb hts hi11 hown hG.1 hP 0 rfl rfl 3 (by decide) lf112 (fun _ h9 => h9) rfl dX11_needRain_4 ?_
  refine lv_iconst (v := iI 1) hx hb dX11_needRain_7 (by decide) ?_
  refine lv_isub hx hb dX11_needRain_8 ?_
  refine lt_e (e0 := nr - 1) (Int32.ofInt_sub _ _).symm (fun z_1 hz_1 => ?_)
  refine cjr_i [true, true] (fun pre9 => (va_runS (As := [vI n, vI 0, vI z_1]) (rest := [vR kk]) ⟨hx, hb, hml, hown, hts⟩ (s_within l hl D cy sa n 0 z_1 s.heap.size (by first | exact hr_n | omega) (by show ((-2147483648) : Int) ≤ 0 ∧ (0 : Int) ≤ 2147483647; decide) (by omega)) (va_cwS 3 hts gg_1 rfl rfl rfl (by decide +kernel) ⟨Nat.le_of_ble_eq_true rfl, Nat.le_of_ble_eq_true rfl⟩) ⟨pcW.blind, pre9⟩ rfl rfl hlv.1 rfl (lv_room (Nat.le_of_ble_eq_true rfl)) dX11_needRain_9 ⟨Nat.le_of_ble_eq_true rfl, Nat.le_of_ble_eq_true rfl⟩)) hP hD hS hA hG hT [] rfl (by decide +kernel) (fun r1 u1 H locs hw1 hq9 hS => ?_)
  obtain ⟨rfl, hq1_1, hq1_2, hq1_3⟩ := hw1
  obtain ⟨hP, hD⟩ := pd9 [zO kk 11 [vR ta, vR kr, vR kl, vI nr, vI nw, vR sA, vR dA, vR pa, vR ki, vR kp, vI im, vR wa, vR or_, vR rq], zI rq (cy 0) 4 qf] hq9
  refine cjrx_v [false, false] (fun pre9 => (vx_runV (As := [vI (u1.2.1 0)]) (rest := []) ⟨hx, hb, hml, hown, hts⟩ (k_needElement l hl D cy sa kk ta kr kl sA dA pa ki kp wa or_ rq nr nw im qf (u1.2.1 0) H.size (by first | exact hr_nr | omega) (by first | exact hr_nw | omega) (by first | exact hr_im | omega) (by first | exact hq1_1 | omega)) (cwV 1 hts gg_2 rfl rfl rfl (by decide +kernel) ⟨Nat.le_of_ble_eq_true rfl, Nat.le_of_ble_eq_true rfl⟩) ⟨pcW.blind, (va_recv hG.1 hP (ci := 11) (q0 := 0) rfl rfl), pre9⟩ rfl rfl hlv.1 rfl (lv_room (Nat.le_of_ble_eq_true rfl)) dX11_needRain_12 ⟨Nat.le_of_ble_eq_true rfl, Nat.le_of_ble_eq_true rfl⟩)) hP hD hS hA hG hT [0, 1] rfl (by decide +kernel) (fun E ux2 ce q9 H locs hp hq9 hS h1 h2 h3 => ?_) (fun u2 H locs hw2 hq9 hS => ?_)
  · obtain ⟨hP, hD⟩ := hq9
    obtain ⟨hp, hxg2⟩ := hp
    obtain rfl := hp
    exact vx_out (fun x h => (hex x h).elim) hlocks h1 h2 h3 (fun t ht hvm => ⟨((fun k => ([] : List Nat).getD k 0), (fun k => ([] : List Int).getD k 0), (fun k => ([(ux2.2.2 0)] : List (Nat → Int32)).getD k (fun _ => 0))), trivial, ⟨rfl, at9 ht hP hD [0, 1] (by decide +kernel) rfl⟩, hS.F ht⟩) hS.2.2 (Nat.le_of_ble_eq_true rfl) (Nat.le_of_ble_eq_true rfl)
  have hq2_0 : ((u1.2.1 0) = 1) := hw2
  obtain ⟨hP, hD⟩ := pd9 [zO kk 11 [vR ta, vR kr, vR kl, vI nr, vI nw, vR sA, vR dA, vR pa, vR ki, vR kp, vI im, vR wa, vR or_, vR rq], zI rq (cy 0) 4 qf] hq9
  refine W.widen (k := 1) (n := 6) (Nat.le_of_ble_eq_true rfl) (Nat.le_of_ble_eq_true rfl) ?_
  refine vx_ret ?_
  exact W.vret hx hb hr (fun t ht hW => ⟨⟨((fun k => ([] : List Nat).getD k 0), (fun k => ([] : List Int).getD k 0), (fun k => ([] : List (Nat → Int32)).getD k (fun _ => 0))), rfl, (by show (0 ≤ n ∧ n < nr); omega), at9 ht hP hD [0, 1] (by decide +kernel) rfl⟩, hS.F ht⟩) hS.2.2 dX11_needRain_15
def vs_k_needLaw : List Cond := .code yX11_needLaw cX11_needLaw 2 none :: (([.fieldLink RX11 118 "KerbSplash" "lawsTold" "I"] : List Cond) ++ ((wsX110) ++ ((va_wsS RX11 130 yX11_isWithin vs_s_within) ++ ((wsV RX11 177 RX11 yX11_needElement vs_k_needElement) ++ ([])))))
theorem gd_k_needLaw : vs_k_needLaw.all goodWord = true := gd_C (by decide +kernel) (gd_A (by decide +kernel) (gd_A (by decide +kernel) (gd_A (gd_S gd_s_within (by decide +kernel)) (gd_A (gd_V gd_k_needElement (by decide +kernel)) rfl))))
set_option maxHeartbeats 4000000 in
set_option maxRecDepth 100000 in
theorem k_needLaw (l : Launch) (hl : l.stackTraces = false) (D : va_G) (cy : Nat → ClassId) (sa : Nat → Nat) (kk ta kr kl sA dA pa ki kp wa or_ rq : Nat) (nr nw im : Int) (qf : Nat → Int32) (n : Int) (sz : Nat) (hr_nr : 0 ≤ nr ∧ nr ≤ 4) (hr_nw : 0 ≤ nw ∧ nw ≤ 4) (hr_im : 0 ≤ im ∧ im ≤ 3) (hr_n : (-2147483648) ≤ n ∧ n ≤ 2147483647) : xV9 l yX11_needLaw vs_k_needLaw ({ frames := 7, cells := 1, slots := 6, locals := 121 }) D cy sa sz [vR kk, vI n] [zO kk 11 [vR ta, vR kr, vR kl, vI nr, vI nw, vR sA, vR dA, vR pa, vR ki, vR kp, vI im, vR wa, vR or_, vR rq], zI rq (cy 0) 4 qf] (fun u : SV => (0 ≤ n ∧ n < nw)) (fun u : SV => [zO kk 11 [vR ta, vR kr, vR kl, vI nr, vI nw, vR sA, vR dA, vR pa, vR ki, vR kp, vI im, vR wa, vR or_, vR rq], zI rq (cy 0) 4 qf]) (fun (E : String) (u : SV) => (E = "java/util/NoSuchElementException")) (fun u : SV => [zO kk 11 [vR ta, vR kr, vR kl, vI nr, vI nw, vR sA, vR dA, vR pa, vR ki, vR kp, vI im, vR wa, vR or_, vR rq], zI rq (cy 0) 4 (u.2.2 0)]) 1 6 := by
  refine vx_ofW (cc := cX11_needLaw) (maxL := 2) (ret := none) (by decide) rfl ?_
  intro p e s m args below meth c s₁ B hml hex hv
  obtain ⟨rfl, hsz, hP, hG, hD0, hT⟩ := hv
  have hx := B.exec
  have hb := B.bytes
  have hr := B.returns
  have hts := atoms_spec (ws := vs_k_needLaw) B.pre
  have hown : s.vm.findClass RX11 = some m.cls := findClass_of_methodNamed B.named
  have hlocks := B.notSynchronized
  subst hsz
  have hD := hD0.self (sz := s.heap.size)
  generalize hAe : va_A [zO kk 11 [vR ta, vR kr, vR kl, vI nr, vI nw, vR sA, vR dA, vR pa, vR ki, vR kp, vI im, vR wa, vR or_, vR rq], zI rq (cy 0) 4 qf] s.heap.size = A at hD hT ⊢
  have hA : ∀ q : Nat, s.heap.size ≤ q → A q := fun q h => by rw [← hAe]; exact Or.inr h
  have hS : va_S A s.heap s.heap [] := va_S.rf
  have hl0 := lv_entry ([vR kk, vI n]) (n := 2) (Nat.le_of_ble_eq_true rfl)
  rw [lg_entry_eq]
  generalize (lg_sl ([vR kk, vI n]) ++ List.replicate (2 - (lg_sl ([vR kk, vI n])).length) Slot.unset).toArray = ls at hl0 ⊢
  have hlv : lv_has ls 2 [(0, vR kk), (1, vI n)] := hl0
  have lf118 := hts (.fieldLink RX11 118 "KerbSplash" "lawsTold" "I") (List.mem_of_getElem? (i := 1) rfl)
  have hi11 : ∀ w ∈ wsX110, w ∈ vs_k_needLaw := fun w h => List.mem_cons_of_mem _ (List.mem_append_right _ (List.mem_append_left _ h))
  have gg_1 : GoodIn vs_k_needLaw (va_wsS RX11 130 yX11_isWithin vs_s_within) := goodIn_sub (fun w h => List.mem_cons_of_mem _ (List.mem_append_right _ (List.mem_append_right _ (List.mem_append_left _ h)))) (gd_S gd_s_within (by decide +kernel))
  have gg_2 : GoodIn vs_k_needLaw (wsV RX11 177 RX11 yX11_needElement vs_k_needElement) := goodIn_sub (fun w h => List.mem_cons_of_mem _ (List.mem_append_right _ (List.mem_append_right _ (List.mem_append_right _ (List.mem_append_left _ h))))) (gd_V gd_k_needElement (by decide +kernel))
  refine lv_aload_n hx hb dX11_needLaw_0 rfl (lv_at hlv 0 rfl) ?_
  refine lv_iload_n hx hb dX11_needLaw_1 rfl (lv_at hlv 1 rfl) ?_
  refine lv_iconst (v := iI 0) hx hb dX11_needLaw_2 (by decide) ?_
  refine lv_aload_n hx hb dX11_needLaw_3 rfl (lv_at hlv 0 rfl) ?_
  refine va_get (D := D) (ci := 11) (v := vI nw) (C := RX11) (T := TX11) (N := 14) hx hb hts hi11 hown hG.1 hP 0 rfl rfl 4 (by decide) lf118 (fun _ h9 => h9) rfl dX11_needLaw_4 ?_
  refine lv_iconst (v := iI 1) hx hb dX11_needLaw_7 (by decide) ?_
  refine lv_isub hx hb dX11_needLaw_8 ?_
  refine lt_e (e0 := nw - 1) (Int32.ofInt_sub _ _).symm (fun z_1 hz_1 => ?_)
  refine cjr_i [true, true] (fun pre9 => (va_runS (As := [vI n, vI 0, vI z_1]) (rest := [vR kk]) ⟨hx, hb, hml, hown, hts⟩ (s_within l hl D cy sa n 0 z_1 s.heap.size (by first | exact hr_n | omega) (by show ((-2147483648) : Int) ≤ 0 ∧ (0 : Int) ≤ 2147483647; decide) (by omega)) (va_cwS 3 hts gg_1 rfl rfl rfl (by decide +kernel) ⟨Nat.le_of_ble_eq_true rfl, Nat.le_of_ble_eq_true rfl⟩) ⟨pcW.blind, pre9⟩ rfl rfl hlv.1 rfl (lv_room (Nat.le_of_ble_eq_true rfl)) dX11_needLaw_9 ⟨Nat.le_of_ble_eq_true rfl, Nat.le_of_ble_eq_true rfl⟩)) hP hD hS hA hG hT [] rfl (by decide +kernel) (fun r1 u1 H locs hw1 hq9 hS => ?_)
  obtain ⟨rfl, hq1_1, hq1_2, hq1_3⟩ := hw1
  obtain ⟨hP, hD⟩ := pd9 [zO kk 11 [vR ta, vR kr, vR kl, vI nr, vI nw, vR sA, vR dA, vR pa, vR ki, vR kp, vI im, vR wa, vR or_, vR rq], zI rq (cy 0) 4 qf] hq9
  refine cjrx_v [false, false] (fun pre9 => (vx_runV (As := [vI (u1.2.1 0)]) (rest := []) ⟨hx, hb, hml, hown, hts⟩ (k_needElement l hl D cy sa kk ta kr kl sA dA pa ki kp wa or_ rq nr nw im qf (u1.2.1 0) H.size (by first | exact hr_nr | omega) (by first | exact hr_nw | omega) (by first | exact hr_im | omega) (by first | exact hq1_1 | omega)) (cwV 1 hts gg_2 rfl rfl rfl (by decide +kernel) ⟨Nat.le_of_ble_eq_true rfl, Nat.le_of_ble_eq_true rfl⟩) ⟨pcW.blind, (va_recv hG.1 hP (ci := 11) (q0 := 0) rfl rfl), pre9⟩ rfl rfl hlv.1 rfl (lv_room (Nat.le_of_ble_eq_true rfl)) dX11_needLaw_12 ⟨Nat.le_of_ble_eq_true rfl, Nat.le_of_ble_eq_true rfl⟩)) hP hD hS hA hG hT [0, 1] rfl (by decide +kernel) (fun E ux2 ce q9 H locs hp hq9 hS h1 h2 h3 => ?_) (fun u2 H locs hw2 hq9 hS => ?_)
  · obtain ⟨hP, hD⟩ := hq9
    obtain ⟨hp, hxg2⟩ := hp
    obtain rfl := hp
    exact vx_out (fun x h => (hex x h).elim) hlocks h1 h2 h3 (fun t ht hvm => ⟨((fun k => ([] : List Nat).getD k 0), (fun k => ([] : List Int).getD k 0), (fun k => ([(ux2.2.2 0)] : List (Nat → Int32)).getD k (fun _ => 0))), trivial, ⟨rfl, at9 ht hP hD [0, 1] (by decide +kernel) rfl⟩, hS.F ht⟩) hS.2.2 (Nat.le_of_ble_eq_true rfl) (Nat.le_of_ble_eq_true rfl)
  have hq2_0 : ((u1.2.1 0) = 1) := hw2
  obtain ⟨hP, hD⟩ := pd9 [zO kk 11 [vR ta, vR kr, vR kl, vI nr, vI nw, vR sA, vR dA, vR pa, vR ki, vR kp, vI im, vR wa, vR or_, vR rq], zI rq (cy 0) 4 qf] hq9
  refine W.widen (k := 1) (n := 6) (Nat.le_of_ble_eq_true rfl) (Nat.le_of_ble_eq_true rfl) ?_
  refine vx_ret ?_
  exact W.vret hx hb hr (fun t ht hW => ⟨⟨((fun k => ([] : List Nat).getD k 0), (fun k => ([] : List Int).getD k 0), (fun k => ([] : List (Nat → Int32)).getD k (fun _ => 0))), rfl, (by show (0 ≤ n ∧ n < nw); omega), at9 ht hP hD [0, 1] (by decide +kernel) rfl⟩, hS.F ht⟩) hS.2.2 dX11_needLaw_15
def vs_k_isCar : List Cond := .code yX11_isCar cX11_isCar 5 (some .boolean) :: (([.fieldLink RX11 31 "KerbSplash" "now" "LKerbSplash$Street;"] : List Cond) ++ ((wsX110) ++ ((wsX60) ++ ((va_wsS RX11 130 yX11_isWithin vs_s_within) ++ ([])))))
theorem gd_k_isCar : vs_k_isCar.all goodWord = true := gd_C (by decide +kernel) (gd_A (by decide +kernel) (gd_A (by decide +kernel) (gd_A (by decide +kernel) (gd_A (gd_S gd_s_within (by decide +kernel)) rfl))))
set_option maxHeartbeats 4000000 in
set_option maxRecDepth 100000 in
theorem k_isCar (l : Launch) (hl : l.stackTraces = false) (D : va_G) (cy : Nat → ClassId) (sa : Nat → Nat) (kk ta kr kl sA dA pa ki kp wa or_ rq : Nat) (nr nw im : Int) (s2 s3 s6 s8 s11 s13 : Nat) (wi ro dr dt pe gu sh wo dn mi fl tk go : Int) (p1 p2 p3 p4 : Int) (sz : Nat) (hr_nr : 0 ≤ nr ∧ nr ≤ 4) (hr_nw : 0 ≤ nw ∧ nw ≤ 4) (hr_im : 0 ≤ im ∧ im ≤ 3) (hr_wi : 0 ≤ wi ∧ wi ≤ 16) (hr_ro : 0 ≤ ro ∧ ro ≤ 6) (hr_dr : 0 ≤ dr ∧ dr ≤ 14) (hr_dt : 0 ≤ dt ∧ dt ≤ 6) (hr_pe : 0 ≤ pe ∧ pe ≤ 8) (hr_gu : 0 ≤ gu ∧ gu ≤ 20) (hr_sh : 0 ≤ sh ∧ sh ≤ 2) (hr_wo : 0 ≤ wo ∧ wo ≤ 8) (hr_dn : (-2147483648) ≤ dn ∧ dn ≤ 2147483647) (hr_mi : 0 ≤ mi ∧ mi ≤ 600) (hr_fl : (-2147483648) ≤ fl ∧ fl ≤ 2147483647) (hr_tk : (-2147483648) ≤ tk ∧ tk ≤ 2147483647) (hr_go : (-2147483648) ≤ go ∧ go ≤ 2147483647) (hr_p1 : (-2147483648) ≤ p1 ∧ p1 ≤ 2147483647) (hr_p2 : (-2147483648) ≤ p2 ∧ p2 ≤ 2147483647) (hr_p3 : (-2147483648) ≤ p3 ∧ p3 ≤ 2147483647) (hr_p4 : (-2147483648) ≤ p4 ∧ p4 ≤ 2147483647) : mI9 l yX11_isCar vs_k_isCar ({ frames := 1, cells := 0, slots := 0, locals := 22 }) D cy sa sz [vR kk, vI p1, vI p2, vI p3, vI p4] [zO kk 11 [vR ta, vR kr, vR kl, vI nr, vI nw, vR sA, vR dA, vR pa, vR ki, vR kp, vI im, vR wa, vR or_, vR rq], zO sA 6 [vI wi, vI ro, vR s2, vR s3, vI dr, vI dt, vR s6, vI pe, vR s8, vI gu, vI sh, vR s11, vI wo, vR s13, vI dn, vI mi, vI fl, vI tk, vI go]] (fun (r : Int32) (u : SV) => r = iI (u.2.1 0) ∧ (0 ≤ u.2.1 0 ∧ u.2.1 0 ≤ 1) ∧ (u.2.1 0 = 1 → 0 ≤ p1 ∧ p1 < ro)) (fun u : SV => [zO kk 11 [vR ta, vR kr, vR kl, vI nr, vI nw, vR sA, vR dA, vR pa, vR ki, vR kp, vI im, vR wa, vR or_, vR rq], zO sA 6 [vI wi, vI ro, vR s2, vR s3, vI dr, vI dt, vR s6, vI pe, vR s8, vI gu, vI sh, vR s11, vI wo, vR s13, vI dn, vI mi, vI fl, vI tk, vI go]]) 0 0 := by
  refine Met.ofW (cc := cX11_isCar) (maxL := 5) (ret := (some .boolean)) (by decide) rfl ?_
  intro p e s m args below meth c s₁ B hml hv
  obtain ⟨rfl, hsz, hP, hG, hD0, hT⟩ := hv
  have hx := B.exec
  have hb := B.bytes
  have hr := B.returns
  have hts := atoms_spec (ws := vs_k_isCar) B.pre
  have hown : s.vm.findClass RX11 = some m.cls := findClass_of_methodNamed B.named
  have hlocks := B.notSynchronized
  subst hsz
  have hD := hD0.self (sz := s.heap.size)
  generalize hAe : va_A [zO kk 11 [vR ta, vR kr, vR kl, vI nr, vI nw, vR sA, vR dA, vR pa, vR ki, vR kp, vI im, vR wa, vR or_, vR rq], zO sA 6 [vI wi, vI ro, vR s2, vR s3, vI dr, vI dt, vR s6, vI pe, vR s8, vI gu, vI sh, vR s11, vI wo, vR s13, vI dn, vI mi, vI fl, vI tk, vI go]] s.heap.size = A at hD hT ⊢
  have hA : ∀ q : Nat, s.heap.size ≤ q → A q := fun q h => by rw [← hAe]; exact Or.inr h
  have hS : va_S A s.heap s.heap [] := va_S.rf
  have hl0 := lv_entry ([vR kk, vI p1, vI p2, vI p3, vI p4]) (n := 5) (Nat.le_of_ble_eq_true rfl)
  rw [lg_entry_eq]
  generalize (lg_sl ([vR kk, vI p1, vI p2, vI p3, vI p4]) ++ List.replicate (5 - (lg_sl ([vR kk, vI p1, vI p2, vI p3, vI p4])).length) Slot.unset).toArray = ls at hl0 ⊢
  have hlv : lv_has ls 5 [(0, vR kk), (1, vI p1), (2, vI p2), (3, vI p3), (4, vI p4)] := hl0
  have lf31 := hts (.fieldLink RX11 31 "KerbSplash" "now" "LKerbSplash$Street;") (List.mem_of_getElem? (i := 1) rfl)
  have hi11 : ∀ w ∈ wsX110, w ∈ vs_k_isCar := fun w h => List.mem_cons_of_mem _ (List.mem_append_right _ (List.mem_append_left _ h))
  have hi6 : ∀ w ∈ wsX60, w ∈ vs_k_isCar := fun w h => List.mem_cons_of_mem _ (List.mem_append_right _ (List.mem_append_right _ (List.mem_append_left _ h)))
  have gg_2 : GoodIn vs_k_isCar (va_wsS RX11 130 yX11_isWithin vs_s_within) := goodIn_sub (fun w h => List.mem_cons_of_mem _ (List.mem_append_right _ (List.mem_append_right _ (List.mem_append_right _ (List.mem_append_left _ h))))) (gd_S gd_s_within (by decide +kernel))
  refine lv_iload_n hx hb dX11_isCar_0 rfl (lv_at hlv 1 rfl) ?_
  refine lv_iconst (v := iI 0) hx hb dX11_isCar_1 (by decide) ?_
  refine lv_aload_n hx hb dX11_isCar_2 rfl (lv_at hlv 0 rfl) ?_
  refine va_get (D := D) (ci := 11) (v := vR sA) (C := RX11) (T := TX11) (N := 14) hx hb hts hi11 hown hG.1 hP 0 rfl rfl 5 (by decide) lf31 (fun _ h9 => h9) rfl dX11_isCar_3 ?_
  refine va_getN (D := D) (ci := 6) (v := vI ro) (C := RX6) (T := TX6) (N := 19) hx hb hts hi6 hown hG.1 hP 1 rfl rfl 1 (by decide) (va_Nw.use rfl (nF_K_141 hG.2.1)) (fun _ h9 => h9) rfl dX11_isCar_6 ?_
  refine lv_iconst (v := iI 1) hx hb dX11_isCar_9 (by decide) ?_
  refine lv_isub hx hb dX11_isCar_10 ?_
  refine lt_e (e0 := ro - 1) (Int32.ofInt_sub _ _).symm (fun z_1 hz_1 => ?_)
  refine cjr_i [true, true] (fun pre9 => (va_runS (As := [vI p1, vI 0, vI z_1]) (rest := []) ⟨hx, hb, hml, hown, hts⟩ (s_within l hl D cy sa p1 0 z_1 s.heap.size (by first | exact hr_p1 | omega) (by show ((-2147483648) : Int) ≤ 0 ∧ (0 : Int) ≤ 2147483647; decide) (by omega)) (va_cwS 3 hts gg_2 rfl rfl rfl (by decide +kernel) ⟨Nat.le_of_ble_eq_true rfl, Nat.le_of_ble_eq_true rfl⟩) ⟨pcW.blind, pre9⟩ rfl rfl hlv.1 rfl (lv_room (Nat.le_of_ble_eq_true rfl)) dX11_isCar_11 ⟨Nat.le_of_ble_eq_true rfl, Nat.le_of_ble_eq_true rfl⟩)) hP hD hS hA hG hT [] rfl (by decide +kernel) (fun r1 u1 H locs hw1 hq9 hS => ?_)
  obtain ⟨rfl, hq1_1, hq1_2, hq1_3⟩ := hw1
  obtain ⟨hP, hD⟩ := pd9 [zO kk 11 [vR ta, vR kr, vR kl, vI nr, vI nw, vR sA, vR dA, vR pa, vR ki, vR kp, vI im, vR wa, vR or_, vR rq], zO sA 6 [vI wi, vI ro, vR s2, vR s3, vI dr, vI dt, vR s6, vI pe, vR s8, vI gu, vI sh, vR s11, vI wo, vR s13, vI dn, vI mi, vI fl, vI tk, vI go]] hq9
  refine iz_eq (tgt := 51) hx hb dX11_isCar_14 (by decide) (by first | exact rgw hq1_1 (by decide) (by decide) | omega) (fun c_2 => ?_) (fun c_2 => ?_)
  · refine lv_iconst (v := iI 0) hx hb dX11_isCar_51 (by decide) ?_
    refine W.widen (k := 0) (n := 0) (Nat.le_of_ble_eq_true rfl) (Nat.le_of_ble_eq_true rfl) ?_
    exact W.zret (v := iI 0) hx hb hr (by first | rfl | decide) (fun t ht hW => ⟨⟨iI 0, ((fun k => ([] : List Nat).getD k 0), (fun k => ([0] : List Int).getD k 0), (fun k => ([] : List (Nat → Int32)).getD k (fun _ => 0))), rfl, ⟨rfl, (by show (0 ≤ 0 ∧ 0 ≤ 1); show (0 : Int) ≤ 0 ∧ (0 : Int) ≤ 1; decide), (by show (0 = 1 → 0 ≤ p1 ∧ p1 < ro); omega)⟩, at9 ht hP hD [0, 1] (by decide +kernel) rfl⟩, hS.F ht⟩) hS.2.2 dX11_isCar_52
  · refine lv_iload_n hx hb dX11_isCar_17 rfl (lv_at hlv 2 rfl) ?_
    refine lv_iconst (v := iI 1) hx hb dX11_isCar_18 (by decide) ?_
    refine lv_bipush (v := iI 60) hx hb dX11_isCar_19 (by decide) ?_
    refine cjr_i [true, true] (fun pre9 => (va_runS (As := [vI p2, vI 1, vI 60]) (rest := []) ⟨hx, hb, hml, hown, hts⟩ (s_within l hl D cy sa p2 1 60 H.size (by first | exact hr_p2 | omega) (by show ((-2147483648) : Int) ≤ 1 ∧ (1 : Int) ≤ 2147483647; decide) (by show ((-2147483648) : Int) ≤ 60 ∧ (60 : Int) ≤ 2147483647; decide)) (va_cwS 3 hts gg_2 rfl rfl rfl (by decide +kernel) ⟨Nat.le_of_ble_eq_true rfl, Nat.le_of_ble_eq_true rfl⟩) ⟨pcW.blind, pre9⟩ rfl rfl hlv.1 rfl (lv_room (Nat.le_of_ble_eq_true rfl)) dX11_isCar_21 ⟨Nat.le_of_ble_eq_true rfl, Nat.le_of_ble_eq_true rfl⟩)) hP hD hS hA hG hT [] rfl (by decide +kernel) (fun r2 u2 H locs hw2 hq9 hS => ?_)
    obtain ⟨rfl, hq2_1, hq2_2, hq2_3⟩ := hw2
    obtain ⟨hP, hD⟩ := pd9 [zO kk 11 [vR ta, vR kr, vR kl, vI nr, vI nw, vR sA, vR dA, vR pa, vR ki, vR kp, vI im, vR wa, vR or_, vR rq], zO sA 6 [vI wi, vI ro, vR s2, vR s3, vI dr, vI dt, vR s6, vI pe, vR s8, vI gu, vI sh, vR s11, vI wo, vR s13, vI dn, vI mi, vI fl, vI tk, vI go]] hq9
    refine iz_eq (tgt := 51) hx hb dX11_isCar_24 (by decide) (by first | exact rgw hq2_1 (by decide) (by decide) | omega) (fun c_3 => ?_) (fun c_3 => ?_)
    · refine lv_iconst (v := iI 0) hx hb dX11_isCar_51 (by decide) ?_
      refine W.widen (k := 0) (n := 0) (Nat.le_of_ble_eq_true rfl) (Nat.le_of_ble_eq_true rfl) ?_
      exact W.zret (v := iI 0) hx hb hr (by first | rfl | decide) (fun t ht hW => ⟨⟨iI 0, ((fun k => ([] : List Nat).getD k 0), (fun k => ([0] : List Int).getD k 0), (fun k => ([] : List (Nat → Int32)).getD k (fun _ => 0))), rfl, ⟨rfl, (by show (0 ≤ 0 ∧ 0 ≤ 1); show (0 : Int) ≤ 0 ∧ (0 : Int) ≤ 1; decide), (by show (0 = 1 → 0 ≤ p1 ∧ p1 < ro); omega)⟩, at9 ht hP hD [0, 1] (by decide +kernel) rfl⟩, hS.F ht⟩) hS.2.2 dX11_isCar_52
    · refine lv_iload_n hx hb dX11_isCar_27 rfl (lv_at hlv 3 rfl) ?_
      refine lv_iconst (v := iI 1) hx hb dX11_isCar_28 (by decide) ?_
      refine lv_bipush (v := iI 9) hx hb dX11_isCar_29 (by decide) ?_
      refine cjr_i [true, true] (fun pre9 => (va_runS (As := [vI p3, vI 1, vI 9]) (rest := []) ⟨hx, hb, hml, hown, hts⟩ (s_within l hl D cy sa p3 1 9 H.size (by first | exact hr_p3 | omega) (by show ((-2147483648) : Int) ≤ 1 ∧ (1 : Int) ≤ 2147483647; decide) (by show ((-2147483648) : Int) ≤ 9 ∧ (9 : Int) ≤ 2147483647; decide)) (va_cwS 3 hts gg_2 rfl rfl rfl (by decide +kernel) ⟨Nat.le_of_ble_eq_true rfl, Nat.le_of_ble_eq_true rfl⟩) ⟨pcW.blind, pre9⟩ rfl rfl hlv.1 rfl (lv_room (Nat.le_of_ble_eq_true rfl)) dX11_isCar_31 ⟨Nat.le_of_ble_eq_true rfl, Nat.le_of_ble_eq_true rfl⟩)) hP hD hS hA hG hT [] rfl (by decide +kernel) (fun r3 u3 H locs hw3 hq9 hS => ?_)
      obtain ⟨rfl, hq3_1, hq3_2, hq3_3⟩ := hw3
      obtain ⟨hP, hD⟩ := pd9 [zO kk 11 [vR ta, vR kr, vR kl, vI nr, vI nw, vR sA, vR dA, vR pa, vR ki, vR kp, vI im, vR wa, vR or_, vR rq], zO sA 6 [vI wi, vI ro, vR s2, vR s3, vI dr, vI dt, vR s6, vI pe, vR s8, vI gu, vI sh, vR s11, vI wo, vR s13, vI dn, vI mi, vI fl, vI tk, vI go]] hq9
      refine iz_eq (tgt := 51) hx hb dX11_isCar_34 (by decide) (by first | exact rgw hq3_1 (by decide) (by decide) | omega) (fun c_4 => ?_) (fun c_4 => ?_)
      · refine lv_iconst (v := iI 0) hx hb dX11_isCar_51 (by decide) ?_
        refine W.widen (k := 0) (n := 0) (Nat.le_of_ble_eq_true rfl) (Nat.le_of_ble_eq_true rfl) ?_
        exact W.zret (v := iI 0) hx hb hr (by first | rfl | decide) (fun t ht hW => ⟨⟨iI 0, ((fun k => ([] : List Nat).getD k 0), (fun k => ([0] : List Int).getD k 0), (fun k => ([] : List (Nat → Int32)).getD k (fun _ => 0))), rfl, ⟨rfl, (by show (0 ≤ 0 ∧ 0 ≤ 1); show (0 : Int) ≤ 0 ∧ (0 : Int) ≤ 1; decide), (by show (0 = 1 → 0 ≤ p1 ∧ p1 < ro); omega)⟩, at9 ht hP hD [0, 1] (by decide +kernel) rfl⟩, hS.F ht⟩) hS.2.2 dX11_isCar_52
      · refine lv_iload hx hb dX11_isCar_37 (lv_at hlv 4 rfl) ?_
        refine lv_iconst (v := iI 0) hx hb dX11_isCar_39 (by decide) ?_
        refine lv_iconst (v := iI 3) hx hb dX11_isCar_40 (by decide) ?_
        refine cjr_i [true, true] (fun pre9 => (va_runS (As := [vI p4, vI 0, vI 3]) (rest := []) ⟨hx, hb, hml, hown, hts⟩ (s_within l hl D cy sa p4 0 3 H.size (by first | exact hr_p4 | omega) (by show ((-2147483648) : Int) ≤ 0 ∧ (0 : Int) ≤ 2147483647; decide) (by show ((-2147483648) : Int) ≤ 3 ∧ (3 : Int) ≤ 2147483647; decide)) (va_cwS 3 hts gg_2 rfl rfl rfl (by decide +kernel) ⟨Nat.le_of_ble_eq_true rfl, Nat.le_of_ble_eq_true rfl⟩) ⟨pcW.blind, pre9⟩ rfl rfl hlv.1 rfl (lv_room (Nat.le_of_ble_eq_true rfl)) dX11_isCar_41 ⟨Nat.le_of_ble_eq_true rfl, Nat.le_of_ble_eq_true rfl⟩)) hP hD hS hA hG hT [] rfl (by decide +kernel) (fun r4 u4 H locs hw4 hq9 hS => ?_)
        obtain ⟨rfl, hq4_1, hq4_2, hq4_3⟩ := hw4
        obtain ⟨hP, hD⟩ := pd9 [zO kk 11 [vR ta, vR kr, vR kl, vI nr, vI nw, vR sA, vR dA, vR pa, vR ki, vR kp, vI im, vR wa, vR or_, vR rq], zO sA 6 [vI wi, vI ro, vR s2, vR s3, vI dr, vI dt, vR s6, vI pe, vR s8, vI gu, vI sh, vR s11, vI wo, vR s13, vI dn, vI mi, vI fl, vI tk, vI go]] hq9
        refine iz_eq (tgt := 51) hx hb dX11_isCar_44 (by decide) (by first | exact rgw hq4_1 (by decide) (by decide) | omega) (fun c_5 => ?_) (fun c_5 => ?_)
        · refine lv_iconst (v := iI 0) hx hb dX11_isCar_51 (by decide) ?_
          refine W.widen (k := 0) (n := 0) (Nat.le_of_ble_eq_true rfl) (Nat.le_of_ble_eq_true rfl) ?_
          exact W.zret (v := iI 0) hx hb hr (by first | rfl | decide) (fun t ht hW => ⟨⟨iI 0, ((fun k => ([] : List Nat).getD k 0), (fun k => ([0] : List Int).getD k 0), (fun k => ([] : List (Nat → Int32)).getD k (fun _ => 0))), rfl, ⟨rfl, (by show (0 ≤ 0 ∧ 0 ≤ 1); show (0 : Int) ≤ 0 ∧ (0 : Int) ≤ 1; decide), (by show (0 = 1 → 0 ≤ p1 ∧ p1 < ro); omega)⟩, at9 ht hP hD [0, 1] (by decide +kernel) rfl⟩, hS.F ht⟩) hS.2.2 dX11_isCar_52
        · refine lv_iconst (v := iI 1) hx hb dX11_isCar_47 (by decide) ?_
          refine lv_goto (tgt := 52) hx hb dX11_isCar_48 (by decide) ?_
          refine W.widen (k := 0) (n := 0) (Nat.le_of_ble_eq_true rfl) (Nat.le_of_ble_eq_true rfl) ?_
          exact W.zret (v := iI 1) hx hb hr (by first | rfl | decide) (fun t ht hW => ⟨⟨iI 1, ((fun k => ([] : List Nat).getD k 0), (fun k => ([1] : List Int).getD k 0), (fun k => ([] : List (Nat → Int32)).getD k (fun _ => 0))), rfl, ⟨rfl, (by show (0 ≤ 1 ∧ 1 ≤ 1); show (0 : Int) ≤ 1 ∧ (1 : Int) ≤ 1; decide), (by show (1 = 1 → 0 ≤ p1 ∧ p1 < ro); omega)⟩, at9 ht hP hD [0, 1] (by decide +kernel) rfl⟩, hS.F ht⟩) hS.2.2 dX11_isCar_52
def vs_k_begin : List Cond := .code yX11_beginText cX11_beginText 2 none :: (([.fieldLink RX11 10 "KerbSplash" "tape" "LKerbSplash$Tape;", .initialized RX8, .instanceMethod yX8_begin, .selects RX8 yX8_begin yX8_begin] : List Cond) ++ ((wsX110) ++ ((wsX80) ++ ((va_wsS RX11 130 yX11_isWithin vs_s_within) ++ ((wsV RX11 134 RX11 yX11_needArgument vs_k_needArgument) ++ ((vs_s_begin) ++ ([])))))))
theorem gd_k_begin : vs_k_begin.all goodWord = true := gd_C (by decide +kernel) (gd_A (by decide +kernel) (gd_A (by decide +kernel) (gd_A (by decide +kernel) (gd_A (gd_S gd_s_within (by decide +kernel)) (gd_A (gd_V gd_k_needArgument (by decide +kernel)) (gd_A gd_s_begin rfl))))))
set_option maxHeartbeats 4000000 in
set_option maxRecDepth 100000 in
theorem k_begin (l : Launch) (hl : l.stackTraces = false) (D : va_G) (cy : Nat → ClassId) (sa : Nat → Nat) (kk ta kr kl sA dA pa ki kp wa or_ rq : Nat) (nr nw im : Int) (qf : Nat → Int32) (tb : Nat) (fed len at_ we fa fp : Int) (n : Int) (sz : Nat) (hr_nr : 0 ≤ nr ∧ nr ≤ 4) (hr_nw : 0 ≤ nw ∧ nw ≤ 4) (hr_im : 0 ≤ im ∧ im ≤ 3) (hr_fed : 0 ≤ fed ∧ fed ≤ 600) (hr_len : 0 ≤ len ∧ len ≤ 600) (hr_at_ : 0 ≤ at_ ∧ at_ ≤ 600) (hr_we : 0 ≤ we ∧ we ≤ 600) (hr_fa : 0 ≤ fa ∧ fa ≤ 4) (hr_fp : (-1) ≤ fp ∧ fp ≤ 600) (hr_n : (-2147483648) ≤ n ∧ n ≤ 2147483647) : xV9 l yX11_beginText vs_k_begin ({ frames := 7, cells := 1, slots := 6, locals := 121 }) D cy sa sz [vR kk, vI n] [zO kk 11 [vR ta, vR kr, vR kl, vI nr, vI nw, vR sA, vR dA, vR pa, vR ki, vR kp, vI im, vR wa, vR or_, vR rq], zI rq (cy 0) 4 qf, zO ta 8 [vR tb, vI fed, vI len, vI at_, vI we, vI fa, vI fp]] (fun u : SV => (0 ≤ n ∧ n ≤ fed)) (fun u : SV => [zO kk 11 [vR ta, vR kr, vR kl, vI nr, vI nw, vR sA, vR dA, vR pa, vR ki, vR kp, vI im, vR wa, vR or_, vR rq], zI rq (cy 0) 4 qf, zO ta 8 [vR tb, vI 0, vI n, vI 0, vI 0, vI 0, vI (-1)]]) (fun (E : String) (u : SV) => (E = "java/lang/IllegalArgumentException") ∧ (¬ (0 ≤ n ∧ n ≤ fed))) (fun u : SV => [zO kk 11 [vR ta, vR kr, vR kl, vI nr, vI nw, vR sA, vR dA, vR pa, vR ki, vR kp, vI im, vR wa, vR or_, vR rq], zI rq (cy 0) 4 (u.2.2 0), zO ta 8 [vR tb, vI fed, vI len, vI at_, vI we, vI fa, vI fp]]) 1 6 := by
  refine vx_ofW (cc := cX11_beginText) (maxL := 2) (ret := none) (by decide) rfl ?_
  intro p e s m args below meth c s₁ B hml hex hv
  obtain ⟨rfl, hsz, hP, hG, hD0, hT⟩ := hv
  have hx := B.exec
  have hb := B.bytes
  have hr := B.returns
  have hts := atoms_spec (ws := vs_k_begin) B.pre
  have hown : s.vm.findClass RX11 = some m.cls := findClass_of_methodNamed B.named
  have hlocks := B.notSynchronized
  subst hsz
  have hD := hD0.self (sz := s.heap.size)
  generalize hAe : va_A [zO kk 11 [vR ta, vR kr, vR kl, vI nr, vI nw, vR sA, vR dA, vR pa, vR ki, vR kp, vI im, vR wa, vR or_, vR rq], zI rq (cy 0) 4 qf, zO ta 8 [vR tb, vI fed, vI len, vI at_, vI we, vI fa, vI fp]] s.heap.size = A at hD hT ⊢
  have hA : ∀ q : Nat, s.heap.size ≤ q → A q := fun q h => by rw [← hAe]; exact Or.inr h
  have hS : va_S A s.heap s.heap [] := va_S.rf
  have hl0 := lv_entry ([vR kk, vI n]) (n := 2) (Nat.le_of_ble_eq_true rfl)
  rw [lg_entry_eq]
  generalize (lg_sl ([vR kk, vI n]) ++ List.replicate (2 - (lg_sl ([vR kk, vI n])).length) Slot.unset).toArray = ls at hl0 ⊢
  have hlv : lv_has ls 2 [(0, vR kk), (1, vI n)] := hl0
  have lf10 := hts (.fieldLink RX11 10 "KerbSplash" "tape" "LKerbSplash$Tape;") (List.mem_of_getElem? (i := 1) rfl)
  have hi11 : ∀ w ∈ wsX110, w ∈ vs_k_begin := fun w h => List.mem_cons_of_mem _ (List.mem_append_right _ (List.mem_append_left _ h))
  have hi8 : ∀ w ∈ wsX80, w ∈ vs_k_begin := fun w h => List.mem_cons_of_mem _ (List.mem_append_right _ (List.mem_append_right _ (List.mem_append_left _ h)))
  have gg_2 : GoodIn vs_k_begin (va_wsS RX11 130 yX11_isWithin vs_s_within) := goodIn_sub (fun w h => List.mem_cons_of_mem _ (List.mem_append_right _ (List.mem_append_right _ (List.mem_append_right _ (List.mem_append_left _ h))))) (gd_S gd_s_within (by decide +kernel))
  have gg_3 : GoodIn vs_k_begin (wsV RX11 134 RX11 yX11_needArgument vs_k_needArgument) := goodIn_sub (fun w h => List.mem_cons_of_mem _ (List.mem_append_right _ (List.mem_append_right _ (List.mem_append_right _ (List.mem_append_right _ (List.mem_append_left _ h)))))) (gd_V gd_k_needArgument (by decide +kernel))
  have gg_4 : GoodIn vs_k_begin (vs_s_begin) := goodIn_sub (fun w h => List.mem_cons_of_mem _ (List.mem_append_right _ (List.mem_append_right _ (List.mem_append_right _ (List.mem_append_right _ (List.mem_append_right _ (List.mem_append_left _ h))))))) gd_s_begin
  have ini_RX8 := hts (.initialized RX8) (List.mem_of_getElem? (i := 2) rfl)
  have im_X8_begin := hts (.instanceMethod yX8_begin) (List.mem_of_getElem? (i := 3) rfl)
  have se_X8_begin := hts (.selects RX8 yX8_begin yX8_begin) (List.mem_of_getElem? (i := 4) rfl)
  refine lv_aload_n hx hb dX11_beginText_0 rfl (lv_at hlv 0 rfl) ?_
  refine lv_iload_n hx hb dX11_beginText_1 rfl (lv_at hlv 1 rfl) ?_
  refine lv_iconst (v := iI 0) hx hb dX11_beginText_2 (by decide) ?_
  refine lv_aload_n hx hb dX11_beginText_3 rfl (lv_at hlv 0 rfl) ?_
  refine va_get (D := D) (ci := 11) (v := vR ta) (C := RX11) (T := TX11) (N := 14) hx hb hts hi11 hown hG.1 hP 0 rfl rfl 0 (by decide) lf10 (fun _ h9 => h9) rfl dX11_beginText_4 ?_
  refine va_getN (D := D) (ci := 8) (v := vI fed) (C := RX8) (T := TX8) (N := 7) hx hb hts hi8 hown hG.1 hP 2 rfl rfl 1 (by decide) (va_Nw.use rfl (nF_K_81 hG.2.1)) (fun _ h9 => h9) rfl dX11_beginText_7 ?_
  refine cjr_i [true, true, true] (fun pre9 => (va_runS (As := [vI n, vI 0, vI fed]) (rest := [vR kk]) ⟨hx, hb, hml, hown, hts⟩ (s_within l hl D cy sa n 0 fed s.heap.size (by first | exact hr_n | omega) (by show ((-2147483648) : Int) ≤ 0 ∧ (0 : Int) ≤ 2147483647; decide) (by first | exact rgw hr_fed (by decide) (by decide) | omega)) (va_cwS 3 hts gg_2 rfl rfl rfl (by decide +kernel) ⟨Nat.le_of_ble_eq_true rfl, Nat.le_of_ble_eq_true rfl⟩) ⟨pcW.blind, pre9⟩ rfl rfl hlv.1 rfl (lv_room (Nat.le_of_ble_eq_true rfl)) dX11_beginText_10 ⟨Nat.le_of_ble_eq_true rfl, Nat.le_of_ble_eq_true rfl⟩)) hP hD hS hA hG hT [] rfl (by decide +kernel) (fun r1 u1 H locs hw1 hq9 hS => ?_)
  obtain ⟨rfl, hq1_1, hq1_2, hq1_3⟩ := hw1
  obtain ⟨hP, hD⟩ := pd9 [zO kk 11 [vR ta, vR kr, vR kl, vI nr, vI nw, vR sA, vR dA, vR pa, vR ki, vR kp, vI im, vR wa, vR or_, vR rq], zI rq (cy 0) 4 qf, zO ta 8 [vR tb, vI fed, vI len, vI at_, vI we, vI fa, vI fp]] hq9
  refine cjrx_v [false, false, true] (fun pre9 => (vx_runV (As := [vI (u1.2.1 0)]) (rest := []) ⟨hx, hb, hml, hown, hts⟩ (k_needArgument l hl D cy sa kk ta kr kl sA dA pa ki kp wa or_ rq nr nw im qf (u1.2.1 0) H.size (by first | exact hr_nr | omega) (by first | exact hr_nw | omega) (by first | exact hr_im | omega) (by first | exact hq1_1 | omega)) (cwV 1 hts gg_3 rfl rfl rfl (by decide +kernel) ⟨Nat.le_of_ble_eq_true rfl, Nat.le_of_ble_eq_true rfl⟩) ⟨pcW.blind, (va_recv hG.1 hP (ci := 11) (q0 := 0) rfl rfl), pre9⟩ rfl rfl hlv.1 rfl (lv_room (Nat.le_of_ble_eq_true rfl)) dX11_beginText_13 ⟨Nat.le_of_ble_eq_true rfl, Nat.le_of_ble_eq_true rfl⟩)) hP hD hS hA hG hT [0, 1] rfl (by decide +kernel) (fun E ux2 ce q9 H locs hp hq9 hS h1 h2 h3 => ?_) (fun u2 H locs hw2 hq9 hS => ?_)
  · obtain ⟨hP, hD⟩ := hq9
    obtain ⟨hp, hxg2⟩ := hp
    obtain rfl := hp
    exact vx_out (fun x h => (hex x h).elim) hlocks h1 h2 h3 (fun t ht hvm => ⟨((fun k => ([] : List Nat).getD k 0), (fun k => ([] : List Int).getD k 0), (fun k => ([(ux2.2.2 0)] : List (Nat → Int32)).getD k (fun _ => 0))), trivial, ⟨⟨rfl, by omega⟩, at9 ht hP hD [1, 2, 0] (by decide +kernel) rfl⟩, hS.F ht⟩) hS.2.2 (Nat.le_of_ble_eq_true rfl) (Nat.le_of_ble_eq_true rfl)
  have hq2_0 : ((u1.2.1 0) = 1) := hw2
  obtain ⟨hP, hD⟩ := pd9 [zO ta 8 [vR tb, vI fed, vI len, vI at_, vI we, vI fa, vI fp], zO kk 11 [vR ta, vR kr, vR kl, vI nr, vI nw, vR sA, vR dA, vR pa, vR ki, vR kp, vI im, vR wa, vR or_, vR rq], zI rq (cy 0) 4 qf] hq9
  refine lv_aload_n hx hb dX11_beginText_16 rfl (lv_at hlv 0 rfl) ?_
  refine va_get (D := D) (ci := 11) (v := vR ta) (C := RX11) (T := TX11) (N := 14) hx hb hts hi11 hown hG.1 hP 1 rfl rfl 0 (by decide) lf10 (fun _ h9 => h9) rfl dX11_beginText_17 ?_
  refine lv_iload_n hx hb dX11_beginText_20 rfl (lv_at hlv 1 rfl) ?_
  refine cjr_v [false, true, true] (fun pre9 => (va_runVN (host := "KerbSplash") (As := [vI n]) (rest := []) ⟨hx, hb, hml, hown, hts⟩ (s_begin l hl D cy sa ta tb fed len at_ we fa fp n H.size (by first | exact hr_fed | omega) (by first | exact hr_len | omega) (by first | exact hr_at_ | omega) (by first | exact hr_we | omega) (by first | exact hr_fa | omega) (by first | exact hr_fp | omega) (by omega)) ⟨va_cnB 1 hts gg_4 rfl rfl rfl (nM_K_345 hG.2.1) ini_RX8 (by decide +kernel) ⟨Nat.le_of_ble_eq_true rfl, Nat.le_of_ble_eq_true rfl⟩, im_X8_begin, se_X8_begin⟩ ⟨pcW.blind, (va_recv hG.1 hP (ci := 8) (q0 := 0) rfl rfl), pre9⟩ rfl rfl hlv.1 rfl (lv_room (Nat.le_of_ble_eq_true rfl)) dX11_beginText_21 ⟨Nat.le_of_ble_eq_true rfl, Nat.le_of_ble_eq_true rfl⟩)) hP hD hS hA hG hT [0] rfl (by decide +kernel) (fun u3 H locs hw3 hq9 hS => ?_)
  obtain ⟨hP, hD⟩ := pd9 [zO kk 11 [vR ta, vR kr, vR kl, vI nr, vI nw, vR sA, vR dA, vR pa, vR ki, vR kp, vI im, vR wa, vR or_, vR rq], zI rq (cy 0) 4 qf, zO ta 8 [vR tb, vI 0, vI n, vI 0, vI 0, vI 0, vI (-1)]] hq9
  refine W.widen (k := 1) (n := 6) (Nat.le_of_ble_eq_true rfl) (Nat.le_of_ble_eq_true rfl) ?_
  refine vx_ret ?_
  exact W.vret hx hb hr (fun t ht hW => ⟨⟨((fun k => ([] : List Nat).getD k 0), (fun k => ([] : List Int).getD k 0), (fun k => ([] : List (Nat → Int32)).getD k (fun _ => 0))), rfl, (by show (0 ≤ n ∧ n ≤ fed); omega), at9 ht hP hD [0, 1, 2] (by decide +kernel) rfl⟩, hS.F ht⟩) hS.2.2 dX11_beginText_24
end
section
theorem dX11_feed_0 : decode cX11_feed 0 = .ok (.aload_n 0, 1) := by decide +kernel
theorem dX11_feed_1 : decode cX11_feed 1 = .ok (.getfield 10, 3) := by decide +kernel
theorem dX11_feed_10 : decode cX11_feed 10 = .ok (.iconst (-1), 1) := by decide +kernel
theorem dX11_feed_11 : decode cX11_feed 11 = .ok (.ireturn, 1) := by decide +kernel
theorem dX11_feed_12 : decode cX11_feed 12 = .ok (.aload_n 0, 1) := by decide +kernel
theorem dX11_feed_13 : decode cX11_feed 13 = .ok (.getfield 10, 3) := by decide +kernel
theorem dX11_feed_16 : decode cX11_feed 16 = .ok (.iload_n 1, 1) := by decide +kernel
theorem dX11_feed_17 : decode cX11_feed 17 = .ok (.invokevirtual 77, 3) := by decide +kernel
theorem dX11_feed_20 : decode cX11_feed 20 = .ok (.aload_n 0, 1) := by decide +kernel
theorem dX11_feed_21 : decode cX11_feed 21 = .ok (.getfield 10, 3) := by decide +kernel
theorem dX11_feed_24 : decode cX11_feed 24 = .ok (.iload_n 2, 1) := by decide +kernel
theorem dX11_feed_25 : decode cX11_feed 25 = .ok (.invokevirtual 77, 3) := by decide +kernel
theorem dX11_feed_28 : decode cX11_feed 28 = .ok (.aload_n 0, 1) := by decide +kernel
theorem dX11_feed_29 : decode cX11_feed 29 = .ok (.getfield 10, 3) := by decide +kernel
theorem dX11_feed_32 : decode cX11_feed 32 = .ok (.iload_n 3, 1) := by decide +kernel
theorem dX11_feed_33 : decode cX11_feed 33 = .ok (.invokevirtual 77, 3) := by decide +kernel
theorem dX11_feed_36 : decode cX11_feed 36 = .ok (.aload_n 0, 1) := by decide +kernel
theorem dX11_feed_37 : decode cX11_feed 37 = .ok (.getfield 10, 3) := by decide +kernel
theorem dX11_feed_4 : decode cX11_feed 4 = .ok (.invokevirtual 73, 3) := by decide +kernel
theorem dX11_feed_40 : decode cX11_feed 40 = .ok (.iload 4, 2) := by decide +kernel
theorem dX11_feed_42 : decode cX11_feed 42 = .ok (.invokevirtual 77, 3) := by decide +kernel
theorem dX11_feed_45 : decode cX11_feed 45 = .ok (.aload_n 0, 1) := by decide +kernel
theorem dX11_feed_46 : decode cX11_feed 46 = .ok (.getfield 10, 3) := by decide +kernel
theorem dX11_feed_49 : decode cX11_feed 49 = .ok (.iload 5, 2) := by decide +kernel
theorem dX11_feed_51 : decode cX11_feed 51 = .ok (.invokevirtual 77, 3) := by decide +kernel
theorem dX11_feed_54 : decode cX11_feed 54 = .ok (.aload_n 0, 1) := by decide +kernel
theorem dX11_feed_55 : decode cX11_feed 55 = .ok (.getfield 10, 3) := by decide +kernel
theorem dX11_feed_58 : decode cX11_feed 58 = .ok (.getfield 81, 3) := by decide +kernel
theorem dX11_feed_61 : decode cX11_feed 61 = .ok (.ireturn, 1) := by decide +kernel
theorem dX11_feed_7 : decode cX11_feed 7 = .ok (.ifCond .ne 5, 3) := by decide +kernel
theorem dX11_street_0 : decode cX11_street 0 = .ok (.aload_n 0, 1) := by decide +kernel
theorem dX11_street_1 : decode cX11_street 1 = .ok (.iload_n 1, 1) := by decide +kernel
theorem dX11_street_10 : decode cX11_street 10 = .ok (.getfield 10, 3) := by decide +kernel
theorem dX11_street_13 : decode cX11_street 13 = .ok (.aload_n 0, 1) := by decide +kernel
theorem dX11_street_14 : decode cX11_street 14 = .ok (.getfield 35, 3) := by decide +kernel
theorem dX11_street_17 : decode cX11_street 17 = .ok (.invokespecial 90, 3) := by decide +kernel
theorem dX11_street_2 : decode cX11_street 2 = .ok (.invokevirtual 85, 3) := by decide +kernel
theorem dX11_street_20 : decode cX11_street 20 = .ok (.invokevirtual 93, 3) := by decide +kernel
theorem dX11_street_23 : decode cX11_street 23 = .ok (.aload_n 0, 1) := by decide +kernel
theorem dX11_street_24 : decode cX11_street 24 = .ok (.getfield 10, 3) := by decide +kernel
theorem dX11_street_27 : decode cX11_street 27 = .ok (.invokevirtual 96, 3) := by decide +kernel
theorem dX11_street_30 : decode cX11_street 30 = .ok (.ifCond .ne 14, 3) := by decide +kernel
theorem dX11_street_33 : decode cX11_street 33 = .ok (.aload_n 0, 1) := by decide +kernel
theorem dX11_street_34 : decode cX11_street 34 = .ok (.getfield 10, 3) := by decide +kernel
theorem dX11_street_37 : decode cX11_street 37 = .ok (.getfield 99, 3) := by decide +kernel
theorem dX11_street_40 : decode cX11_street 40 = .ok (.bipush 10, 2) := by decide +kernel
theorem dX11_street_42 : decode cX11_street 42 = .ok (.isub, 1) := by decide +kernel
theorem dX11_street_43 : decode cX11_street 43 = .ok (.ireturn, 1) := by decide +kernel
theorem dX11_street_44 : decode cX11_street 44 = .ok (.aload_n 0, 1) := by decide +kernel
theorem dX11_street_45 : decode cX11_street 45 = .ok (.getfield 31, 3) := by decide +kernel
theorem dX11_street_48 : decode cX11_street 48 = .ok (.astore_n 2, 1) := by decide +kernel
theorem dX11_street_49 : decode cX11_street 49 = .ok (.aload_n 0, 1) := by decide +kernel
theorem dX11_street_5 : decode cX11_street 5 = .ok (.new 88, 3) := by decide +kernel
theorem dX11_street_50 : decode cX11_street 50 = .ok (.aload_n 0, 1) := by decide +kernel
theorem dX11_street_51 : decode cX11_street 51 = .ok (.getfield 35, 3) := by decide +kernel
theorem dX11_street_54 : decode cX11_street 54 = .ok (.putfield 31, 3) := by decide +kernel
theorem dX11_street_57 : decode cX11_street 57 = .ok (.aload_n 0, 1) := by decide +kernel
theorem dX11_street_58 : decode cX11_street 58 = .ok (.aload_n 2, 1) := by decide +kernel
theorem dX11_street_59 : decode cX11_street 59 = .ok (.putfield 35, 3) := by decide +kernel
theorem dX11_street_62 : decode cX11_street 62 = .ok (.aload_n 0, 1) := by decide +kernel
theorem dX11_street_63 : decode cX11_street 63 = .ok (.getfield 41, 3) := by decide +kernel
theorem dX11_street_66 : decode cX11_street 66 = .ok (.invokevirtual 102, 3) := by decide +kernel
theorem dX11_street_69 : decode cX11_street 69 = .ok (.aload_n 0, 1) := by decide +kernel
theorem dX11_street_70 : decode cX11_street 70 = .ok (.iconst 0, 1) := by decide +kernel
theorem dX11_street_71 : decode cX11_street 71 = .ok (.putfield 105, 3) := by decide +kernel
theorem dX11_street_74 : decode cX11_street 74 = .ok (.aload_n 0, 1) := by decide +kernel
theorem dX11_street_75 : decode cX11_street 75 = .ok (.getfield 31, 3) := by decide +kernel
theorem dX11_street_78 : decode cX11_street 78 = .ok (.invokevirtual 108, 3) := by decide +kernel
theorem dX11_street_8 : decode cX11_street 8 = .ok (.dup, 1) := by decide +kernel
theorem dX11_street_81 : decode cX11_street 81 = .ok (.ireturn, 1) := by decide +kernel
theorem dX11_street_9 : decode cX11_street 9 = .ok (.aload_n 0, 1) := by decide +kernel
theorem dX2_init_0 : decode cX2_init 0 = .ok (.aload_n 0, 1) := by decide +kernel
theorem dX2_init_1 : decode cX2_init 1 = .ok (.invokespecial 3, 3) := by decide +kernel
theorem dX2_init_10 : decode cX2_init 10 = .ok (.aload_n 2, 1) := by decide +kernel
theorem dX2_init_11 : decode cX2_init 11 = .ok (.putfield 15, 3) := by decide +kernel
theorem dX2_init_14 : decode cX2_init 14 = .ok (.return_, 1) := by decide +kernel
theorem dX2_init_4 : decode cX2_init 4 = .ok (.aload_n 0, 1) := by decide +kernel
theorem dX2_init_5 : decode cX2_init 5 = .ok (.aload_n 1, 1) := by decide +kernel
theorem dX2_init_6 : decode cX2_init 6 = .ok (.putfield 9, 3) := by decide +kernel
theorem dX2_init_9 : decode cX2_init 9 = .ok (.aload_n 0, 1) := by decide +kernel
theorem dX7_init_0 : decode cX7_init 0 = .ok (.aload_n 0, 1) := by decide +kernel
theorem dX7_init_1 : decode cX7_init 1 = .ok (.invokespecial 3, 3) := by decide +kernel
theorem dX7_init_10 : decode cX7_init 10 = .ok (.aload_n 2, 1) := by decide +kernel
theorem dX7_init_11 : decode cX7_init 11 = .ok (.putfield 15, 3) := by decide +kernel
theorem dX7_init_14 : decode cX7_init 14 = .ok (.return_, 1) := by decide +kernel
theorem dX7_init_4 : decode cX7_init 4 = .ok (.aload_n 0, 1) := by decide +kernel
theorem dX7_init_5 : decode cX7_init 5 = .ok (.aload_n 1, 1) := by decide +kernel
theorem dX7_init_6 : decode cX7_init 6 = .ok (.putfield 9, 3) := by decide +kernel
theorem dX7_init_9 : decode cX7_init 9 = .ok (.aload_n 0, 1) := by decide +kernel
def vs_k_rdinit : List Cond := .code yX7_init cX7_init 3 none :: (([.methodLink RX7 3 objectInit, .instanceMethod objectInit, .code objectInit ⟨#[0xb1]⟩ 1 none, .fieldLink RX7 9 "KerbSplash$StreetReader" "tape" "LKerbSplash$Tape;", .fieldLink RX7 15 "KerbSplash$StreetReader" "street" "LKerbSplash$Street;"] : List Cond) ++ ((wsX70) ++ ([])))
theorem gd_k_rdinit : vs_k_rdinit.all goodWord = true := gd_C (by decide +kernel) (gd_A (by decide +kernel) (gd_A (by decide +kernel) rfl))
set_option maxHeartbeats 4000000 in
set_option maxRecDepth 100000 in
theorem k_rdinit (l : Launch) (hl : l.stackTraces = false) (D : va_G) (cy : Nat → ClassId) (sa : Nat → Nat) (rd ta sA : Nat) (sz : Nat) : mV9 l yX7_init vs_k_rdinit ({ frames := 1, cells := 0, slots := 0, locals := 20 }) D cy sa sz [vR rd, vR ta, vR sA] [zO rd 7 [vN, vN]] (fun u : SV => True) (fun u : SV => [zO rd 7 [vR ta, vR sA]]) 0 0 := by
  refine Met.ofW (cc := cX7_init) (maxL := 3) (ret := none) (by decide) rfl ?_
  intro p e s m args below meth c s₁ B hml hv
  obtain ⟨rfl, hsz, hP, hG, hD0, hT⟩ := hv
  have hx := B.exec
  have hb := B.bytes
  have hr := B.returns
  have hts := atoms_spec (ws := vs_k_rdinit) B.pre
  have hown : s.vm.findClass RX7 = some m.cls := findClass_of_methodNamed B.named
  have hlocks := B.notSynchronized
  have hin : meth.name = "<init>" := (name_of_methodNamed B.named B.method).1
  subst hsz
  have hD := hD0.self (sz := s.heap.size)
  generalize hAe : va_A [zO rd 7 [vN, vN]] s.heap.size = A at hD hT ⊢
  have hA : ∀ q : Nat, s.heap.size ≤ q → A q := fun q h => by rw [← hAe]; exact Or.inr h
  have hS : va_S A s.heap s.heap [] := va_S.rf
  have hl0 := lv_entry ([vR rd, vR ta, vR sA]) (n := 3) (Nat.le_of_ble_eq_true rfl)
  rw [lg_entry_eq]
  generalize (lg_sl ([vR rd, vR ta, vR sA]) ++ List.replicate (3 - (lg_sl ([vR rd, vR ta, vR sA])).length) Slot.unset).toArray = ls at hl0 ⊢
  have hlv : lv_has ls 3 [(0, vR rd), (1, vR ta), (2, vR sA)] := hl0
  have lo3 := hts (.methodLink RX7 3 objectInit) (List.mem_of_getElem? (i := 1) rfl)
  have oi := hts (.instanceMethod objectInit) (List.mem_of_getElem? (i := 2) rfl)
  have oc := hts (.code objectInit ⟨#[0xb1]⟩ 1 none) (List.mem_of_getElem? (i := 3) rfl)
  have lf9 := hts (.fieldLink RX7 9 "KerbSplash$StreetReader" "tape" "LKerbSplash$Tape;") (List.mem_of_getElem? (i := 4) rfl)
  have hi7 : ∀ w ∈ wsX70, w ∈ vs_k_rdinit := fun w h => List.mem_cons_of_mem _ (List.mem_append_right _ (List.mem_append_left _ h))
  have lf15 := hts (.fieldLink RX7 15 "KerbSplash$StreetReader" "street" "LKerbSplash$Street;") (List.mem_of_getElem? (i := 5) rfl)
  refine lv_aload_n hx hb dX7_init_0 rfl (lv_at hlv 0 rfl) ?_
  refine W.objInit hx hb hown lo3 oi oc rfl (by rw [hml]; exact hlv.1) rfl dX7_init_1 (Nat.le_of_ble_eq_true rfl) (Nat.le_of_ble_eq_true rfl) ?_
  refine W.eq (g2 := F0 m 4 ls []) rfl ?_
  refine lv_aload_n hx hb dX7_init_4 rfl (lv_at hlv 0 rfl) ?_
  refine lv_aload_n hx hb dX7_init_5 rfl (lv_at hlv 1 rfl) ?_
  refine va_putF (D := D) (ci := 7) (v := vR ta) (ty := .object "KerbSplash$Tape") (C := RX7) (T := TX7) (N := 2) hx hb hts hi7 tyX7 tyX7_ok nmX7 hown hG.1 hP hD hS 0 rfl rfl 0 (by decide) lf9 (fun _ h9 => h9) rfl hin rfl (by decide +kernel) rfl rfl (Nat.le_of_ble_eq_true rfl) dX7_init_6 (fun H locs hP hD hS => ?_)
  obtain ⟨hP, hD⟩ := pw9 [zO rd 7 [vR ta, vN]] hP hD
  refine lv_aload_n hx hb dX7_init_9 rfl (lv_at hlv 0 rfl) ?_
  refine lv_aload_n hx hb dX7_init_10 rfl (lv_at hlv 2 rfl) ?_
  refine va_putF (D := D) (ci := 7) (v := vR sA) (ty := .object "KerbSplash$Street") (C := RX7) (T := TX7) (N := 2) hx hb hts hi7 tyX7 tyX7_ok nmX7 hown hG.1 hP hD hS 0 rfl rfl 1 (by decide) lf15 (fun _ h9 => h9) rfl hin rfl (by decide +kernel) rfl rfl (Nat.le_of_ble_eq_true rfl) dX7_init_11 (fun H locs hP hD hS => ?_)
  obtain ⟨hP, hD⟩ := pw9 [zO rd 7 [vR ta, vR sA]] hP hD
  refine W.widen (k := 0) (n := 0) (Nat.le_of_ble_eq_true rfl) (Nat.le_of_ble_eq_true rfl) ?_
  exact W.vret hx hb hr (fun t ht hW => ⟨⟨((fun k => ([] : List Nat).getD k 0), (fun k => ([] : List Int).getD k 0), (fun k => ([] : List (Nat → Int32)).getD k (fun _ => 0))), rfl, trivial, at9 ht hP hD [0] (by decide +kernel) rfl⟩, hS.F ht⟩) hS.2.2 dX7_init_14
def vs_k_lrinit : List Cond := .code yX2_init cX2_init 3 none :: (([.methodLink RX2 3 objectInit, .instanceMethod objectInit, .code objectInit ⟨#[0xb1]⟩ 1 none, .fieldLink RX2 9 "KerbSplash$LawReader" "tape" "LKerbSplash$Tape;", .fieldLink RX2 15 "KerbSplash$LawReader" "law" "LKerbSplash$Law;"] : List Cond) ++ ((wsX20) ++ ([])))
theorem gd_k_lrinit : vs_k_lrinit.all goodWord = true := gd_C (by decide +kernel) (gd_A (by decide +kernel) (gd_A (by decide +kernel) rfl))
set_option maxHeartbeats 4000000 in
set_option maxRecDepth 100000 in
theorem k_lrinit (l : Launch) (hl : l.stackTraces = false) (D : va_G) (cy : Nat → ClassId) (sa : Nat → Nat) (rd ta la : Nat) (sz : Nat) : mV9 l yX2_init vs_k_lrinit ({ frames := 1, cells := 0, slots := 0, locals := 20 }) D cy sa sz [vR rd, vR ta, vR la] [zO rd 2 [vN, vN, vI 0]] (fun u : SV => True) (fun u : SV => [zO rd 2 [vR ta, vR la, vI 0]]) 0 0 := by
  refine Met.ofW (cc := cX2_init) (maxL := 3) (ret := none) (by decide) rfl ?_
  intro p e s m args below meth c s₁ B hml hv
  obtain ⟨rfl, hsz, hP, hG, hD0, hT⟩ := hv
  have hx := B.exec
  have hb := B.bytes
  have hr := B.returns
  have hts := atoms_spec (ws := vs_k_lrinit) B.pre
  have hown : s.vm.findClass RX2 = some m.cls := findClass_of_methodNamed B.named
  have hlocks := B.notSynchronized
  have hin : meth.name = "<init>" := (name_of_methodNamed B.named B.method).1
  subst hsz
  have hD := hD0.self (sz := s.heap.size)
  generalize hAe : va_A [zO rd 2 [vN, vN, vI 0]] s.heap.size = A at hD hT ⊢
  have hA : ∀ q : Nat, s.heap.size ≤ q → A q := fun q h => by rw [← hAe]; exact Or.inr h
  have hS : va_S A s.heap s.heap [] := va_S.rf
  have hl0 := lv_entry ([vR rd, vR ta, vR la]) (n := 3) (Nat.le_of_ble_eq_true rfl)
  rw [lg_entry_eq]
  generalize (lg_sl ([vR rd, vR ta, vR la]) ++ List.replicate (3 - (lg_sl ([vR rd, vR ta, vR la])).length) Slot.unset).toArray = ls at hl0 ⊢
  have hlv : lv_has ls 3 [(0, vR rd), (1, vR ta), (2, vR la)] := hl0
  have lo3 := hts (.methodLink RX2 3 objectInit) (List.mem_of_getElem? (i := 1) rfl)
  have oi := hts (.instanceMethod objectInit) (List.mem_of_getElem? (i := 2) rfl)
  have oc := hts (.code objectInit ⟨#[0xb1]⟩ 1 none) (List.mem_of_getElem? (i := 3) rfl)
  have lf9 := hts (.fieldLink RX2 9 "KerbSplash$LawReader" "tape" "LKerbSplash$Tape;") (List.mem_of_getElem? (i := 4) rfl)
  have hi2 : ∀ w ∈ wsX20, w ∈ vs_k_lrinit := fun w h => List.mem_cons_of_mem _ (List.mem_append_right _ (List.mem_append_left _ h))
  have lf15 := hts (.fieldLink RX2 15 "KerbSplash$LawReader" "law" "LKerbSplash$Law;") (List.mem_of_getElem? (i := 5) rfl)
  refine lv_aload_n hx hb dX2_init_0 rfl (lv_at hlv 0 rfl) ?_
  refine W.objInit hx hb hown lo3 oi oc rfl (by rw [hml]; exact hlv.1) rfl dX2_init_1 (Nat.le_of_ble_eq_true rfl) (Nat.le_of_ble_eq_true rfl) ?_
  refine W.eq (g2 := F0 m 4 ls []) rfl ?_
  refine lv_aload_n hx hb dX2_init_4 rfl (lv_at hlv 0 rfl) ?_
  refine lv_aload_n hx hb dX2_init_5 rfl (lv_at hlv 1 rfl) ?_
  refine va_putF (D := D) (ci := 2) (v := vR ta) (ty := .object "KerbSplash$Tape") (C := RX2) (T := TX2) (N := 3) hx hb hts hi2 tyX2 tyX2_ok nmX2 hown hG.1 hP hD hS 0 rfl rfl 0 (by decide) lf9 (fun _ h9 => h9) rfl hin rfl (by decide +kernel) rfl rfl (Nat.le_of_ble_eq_true rfl) dX2_init_6 (fun H locs hP hD hS => ?_)
  obtain ⟨hP, hD⟩ := pw9 [zO rd 2 [vR ta, vN, vI 0]] hP hD
  refine lv_aload_n hx hb dX2_init_9 rfl (lv_at hlv 0 rfl) ?_
  refine lv_aload_n hx hb dX2_init_10 rfl (lv_at hlv 2 rfl) ?_
  refine va_putF (D := D) (ci := 2) (v := vR la) (ty := .object "KerbSplash$Law") (C := RX2) (T := TX2) (N := 3) hx hb hts hi2 tyX2 tyX2_ok nmX2 hown hG.1 hP hD hS 0 rfl rfl 1 (by decide) lf15 (fun _ h9 => h9) rfl hin rfl (by decide +kernel) rfl rfl (Nat.le_of_ble_eq_true rfl) dX2_init_11 (fun H locs hP hD hS => ?_)
  obtain ⟨hP, hD⟩ := pw9 [zO rd 2 [vR ta, vR la, vI 0]] hP hD
  refine W.widen (k := 0) (n := 0) (Nat.le_of_ble_eq_true rfl) (Nat.le_of_ble_eq_true rfl) ?_
  exact W.vret hx hb hr (fun t ht hW => ⟨⟨((fun k => ([] : List Nat).getD k 0), (fun k => ([] : List Int).getD k 0), (fun k => ([] : List (Nat → Int32)).getD k (fun _ => 0))), rfl, trivial, at9 ht hP hD [0] (by decide +kernel) rfl⟩, hS.F ht⟩) hS.2.2 dX2_init_14
end
section
theorem dX11_fault_0 : decode cX11_fault 0 = .ok (.aload_n 0, 1) := by decide +kernel
theorem dX11_fault_1 : decode cX11_fault 1 = .ok (.getfield 10, 3) := by decide +kernel
theorem dX11_fault_4 : decode cX11_fault 4 = .ok (.getfield 127, 3) := by decide +kernel
theorem dX11_fault_7 : decode cX11_fault 7 = .ok (.ireturn, 1) := by decide +kernel
theorem dX11_law_0 : decode cX11_law 0 = .ok (.aload_n 0, 1) := by decide +kernel
theorem dX11_law_1 : decode cX11_law 1 = .ok (.iload_n 1, 1) := by decide +kernel
theorem dX11_law_10 : decode cX11_law 10 = .ok (.if_icmp .lt 5, 3) := by decide +kernel
theorem dX11_law_13 : decode cX11_law 13 = .ok (.iconst (-1), 1) := by decide +kernel
theorem dX11_law_14 : decode cX11_law 14 = .ok (.ireturn, 1) := by decide +kernel
theorem dX11_law_15 : decode cX11_law 15 = .ok (.new 121, 3) := by decide +kernel
theorem dX11_law_18 : decode cX11_law 18 = .ok (.dup, 1) := by decide +kernel
theorem dX11_law_19 : decode cX11_law 19 = .ok (.aload_n 0, 1) := by decide +kernel
theorem dX11_law_2 : decode cX11_law 2 = .ok (.invokevirtual 85, 3) := by decide +kernel
theorem dX11_law_20 : decode cX11_law 20 = .ok (.getfield 10, 3) := by decide +kernel
theorem dX11_law_23 : decode cX11_law 23 = .ok (.aload_n 0, 1) := by decide +kernel
theorem dX11_law_24 : decode cX11_law 24 = .ok (.getfield 24, 3) := by decide +kernel
theorem dX11_law_27 : decode cX11_law 27 = .ok (.aload_n 0, 1) := by decide +kernel
theorem dX11_law_28 : decode cX11_law 28 = .ok (.getfield 118, 3) := by decide +kernel
theorem dX11_law_31 : decode cX11_law 31 = .ok (.aaload, 1) := by decide +kernel
theorem dX11_law_32 : decode cX11_law 32 = .ok (.invokespecial 123, 3) := by decide +kernel
theorem dX11_law_35 : decode cX11_law 35 = .ok (.invokevirtual 126, 3) := by decide +kernel
theorem dX11_law_38 : decode cX11_law 38 = .ok (.aload_n 0, 1) := by decide +kernel
theorem dX11_law_39 : decode cX11_law 39 = .ok (.getfield 10, 3) := by decide +kernel
theorem dX11_law_42 : decode cX11_law 42 = .ok (.invokevirtual 96, 3) := by decide +kernel
theorem dX11_law_45 : decode cX11_law 45 = .ok (.ifCond .ne 14, 3) := by decide +kernel
theorem dX11_law_48 : decode cX11_law 48 = .ok (.aload_n 0, 1) := by decide +kernel
theorem dX11_law_49 : decode cX11_law 49 = .ok (.getfield 10, 3) := by decide +kernel
theorem dX11_law_5 : decode cX11_law 5 = .ok (.aload_n 0, 1) := by decide +kernel
theorem dX11_law_52 : decode cX11_law 52 = .ok (.getfield 99, 3) := by decide +kernel
theorem dX11_law_55 : decode cX11_law 55 = .ok (.bipush 10, 2) := by decide +kernel
theorem dX11_law_57 : decode cX11_law 57 = .ok (.isub, 1) := by decide +kernel
theorem dX11_law_58 : decode cX11_law 58 = .ok (.ireturn, 1) := by decide +kernel
theorem dX11_law_59 : decode cX11_law 59 = .ok (.aload_n 0, 1) := by decide +kernel
theorem dX11_law_6 : decode cX11_law 6 = .ok (.getfield 118, 3) := by decide +kernel
theorem dX11_law_60 : decode cX11_law 60 = .ok (.dup, 1) := by decide +kernel
theorem dX11_law_61 : decode cX11_law 61 = .ok (.getfield 118, 3) := by decide +kernel
theorem dX11_law_64 : decode cX11_law 64 = .ok (.iconst 1, 1) := by decide +kernel
theorem dX11_law_65 : decode cX11_law 65 = .ok (.iadd, 1) := by decide +kernel
theorem dX11_law_66 : decode cX11_law 66 = .ok (.putfield 118, 3) := by decide +kernel
theorem dX11_law_69 : decode cX11_law 69 = .ok (.aload_n 0, 1) := by decide +kernel
theorem dX11_law_70 : decode cX11_law 70 = .ok (.getfield 118, 3) := by decide +kernel
theorem dX11_law_73 : decode cX11_law 73 = .ok (.iconst 1, 1) := by decide +kernel
theorem dX11_law_74 : decode cX11_law 74 = .ok (.isub, 1) := by decide +kernel
theorem dX11_law_75 : decode cX11_law 75 = .ok (.ireturn, 1) := by decide +kernel
theorem dX11_law_9 : decode cX11_law 9 = .ok (.iconst 4, 1) := by decide +kernel
theorem dX11_rain_0 : decode cX11_rain 0 = .ok (.aload_n 0, 1) := by decide +kernel
theorem dX11_rain_1 : decode cX11_rain 1 = .ok (.iload_n 1, 1) := by decide +kernel
theorem dX11_rain_10 : decode cX11_rain 10 = .ok (.if_icmp .lt 5, 3) := by decide +kernel
theorem dX11_rain_13 : decode cX11_rain 13 = .ok (.iconst (-1), 1) := by decide +kernel
theorem dX11_rain_14 : decode cX11_rain 14 = .ok (.ireturn, 1) := by decide +kernel
theorem dX11_rain_15 : decode cX11_rain 15 = .ok (.aload_n 0, 1) := by decide +kernel
theorem dX11_rain_16 : decode cX11_rain 16 = .ok (.getfield 18, 3) := by decide +kernel
theorem dX11_rain_19 : decode cX11_rain 19 = .ok (.aload_n 0, 1) := by decide +kernel
theorem dX11_rain_2 : decode cX11_rain 2 = .ok (.invokevirtual 85, 3) := by decide +kernel
theorem dX11_rain_20 : decode cX11_rain 20 = .ok (.getfield 112, 3) := by decide +kernel
theorem dX11_rain_23 : decode cX11_rain 23 = .ok (.aaload, 1) := by decide +kernel
theorem dX11_rain_24 : decode cX11_rain 24 = .ok (.aload_n 0, 1) := by decide +kernel
theorem dX11_rain_25 : decode cX11_rain 25 = .ok (.getfield 10, 3) := by decide +kernel
theorem dX11_rain_28 : decode cX11_rain 28 = .ok (.invokevirtual 115, 3) := by decide +kernel
theorem dX11_rain_31 : decode cX11_rain 31 = .ok (.aload_n 0, 1) := by decide +kernel
theorem dX11_rain_32 : decode cX11_rain 32 = .ok (.getfield 10, 3) := by decide +kernel
theorem dX11_rain_35 : decode cX11_rain 35 = .ok (.invokevirtual 96, 3) := by decide +kernel
theorem dX11_rain_38 : decode cX11_rain 38 = .ok (.ifCond .ne 14, 3) := by decide +kernel
theorem dX11_rain_41 : decode cX11_rain 41 = .ok (.aload_n 0, 1) := by decide +kernel
theorem dX11_rain_42 : decode cX11_rain 42 = .ok (.getfield 10, 3) := by decide +kernel
theorem dX11_rain_45 : decode cX11_rain 45 = .ok (.getfield 99, 3) := by decide +kernel
theorem dX11_rain_48 : decode cX11_rain 48 = .ok (.bipush 10, 2) := by decide +kernel
theorem dX11_rain_5 : decode cX11_rain 5 = .ok (.aload_n 0, 1) := by decide +kernel
theorem dX11_rain_50 : decode cX11_rain 50 = .ok (.isub, 1) := by decide +kernel
theorem dX11_rain_51 : decode cX11_rain 51 = .ok (.ireturn, 1) := by decide +kernel
theorem dX11_rain_52 : decode cX11_rain 52 = .ok (.aload_n 0, 1) := by decide +kernel
theorem dX11_rain_53 : decode cX11_rain 53 = .ok (.dup, 1) := by decide +kernel
theorem dX11_rain_54 : decode cX11_rain 54 = .ok (.getfield 112, 3) := by decide +kernel
theorem dX11_rain_57 : decode cX11_rain 57 = .ok (.iconst 1, 1) := by decide +kernel
theorem dX11_rain_58 : decode cX11_rain 58 = .ok (.iadd, 1) := by decide +kernel
theorem dX11_rain_59 : decode cX11_rain 59 = .ok (.putfield 112, 3) := by decide +kernel
theorem dX11_rain_6 : decode cX11_rain 6 = .ok (.getfield 112, 3) := by decide +kernel
theorem dX11_rain_62 : decode cX11_rain 62 = .ok (.aload_n 0, 1) := by decide +kernel
theorem dX11_rain_63 : decode cX11_rain 63 = .ok (.getfield 112, 3) := by decide +kernel
theorem dX11_rain_66 : decode cX11_rain 66 = .ok (.iconst 1, 1) := by decide +kernel
theorem dX11_rain_67 : decode cX11_rain 67 = .ok (.isub, 1) := by decide +kernel
theorem dX11_rain_68 : decode cX11_rain 68 = .ok (.ireturn, 1) := by decide +kernel
theorem dX11_rain_9 : decode cX11_rain 9 = .ok (.iconst 4, 1) := by decide +kernel
def vs_k_rain : List Cond := .code yX11_rain cX11_rain 2 (some .int) :: (([.fieldLink RX11 112 "KerbSplash" "rainsTold" "I", .fieldLink RX11 18 "KerbSplash" "rains" "[LKerbSplash$Rain;", .fieldLink RX11 10 "KerbSplash" "tape" "LKerbSplash$Tape;", .initialized RX5, .instanceMethod yX5_read, .selects RX5 yX5_read yX5_read, .initialized RX8, .instanceMethod yX8_good, .selects RX8 yX8_good yX8_good] : List Cond) ++ ((wsV RX11 85 RX11 yX11_beginText vs_k_begin) ++ ((wsX110) ++ ((vs_n_read) ++ ((vs_s_good) ++ ((wsX80) ++ ([])))))))
theorem gd_k_rain : vs_k_rain.all goodWord = true := gd_C (by decide +kernel) (gd_A (by decide +kernel) (gd_A (gd_V gd_k_begin (by decide +kernel)) (gd_A (by decide +kernel) (gd_A gd_n_read (gd_A gd_s_good (gd_A (by decide +kernel) rfl))))))
set_option maxHeartbeats 4000000 in
set_option maxRecDepth 100000 in
theorem k_rain (l : Launch) (hl : l.stackTraces = false) (D : va_G) (cy : Nat → ClassId) (sa : Nat → Nat) (kk ta kr kl sA dA pa ki kp wa or_ rq : Nat) (nr nw im : Int) (qf : Nat → Int32) (tb : Nat) (fed len at_ we fa fp : Int) (bf : Nat → Int32) (krf : Nat → Option Nat) (ra rf : Nat) (rm : Int) (ff : Nat → Int32) (n : Int) (sz : Nat) (hr_nr : 0 ≤ nr ∧ nr ≤ 4) (hr_nw : 0 ≤ nw ∧ nw ≤ 4) (hr_im : 0 ≤ im ∧ im ≤ 3) (hr_fed : 0 ≤ fed ∧ fed ≤ 600) (hr_len : 0 ≤ len ∧ len ≤ 600) (hr_at_ : 0 ≤ at_ ∧ at_ ≤ 600) (hr_we : 0 ≤ we ∧ we ≤ 600) (hr_fa : 0 ≤ fa ∧ fa ≤ 4) (hr_fp : (-1) ≤ fp ∧ fp ≤ 600) (hr_rm : 0 ≤ rm ∧ rm ≤ 240) (hr_n : (-2147483648) ≤ n ∧ n ≤ 2147483647) (hp0 : nr < 4 → krf nr.toNat = some ra) (hff : inv_ 240 0 20 ff) : xI9 l yX11_rain vs_k_rain ({ frames := 9, cells := 1, slots := 6, locals := 197 }) D cy sa sz [vR kk, vI n] [zO kk 11 [vR ta, vR kr, vR kl, vI nr, vI nw, vR sA, vR dA, vR pa, vR ki, vR kp, vI im, vR wa, vR or_, vR rq], zI rq (cy 0) 4 qf, zO ta 8 [vR tb, vI fed, vI len, vI at_, vI we, vI fa, vI fp], zI tb (cy 1) 600 bf, zQ kr (cy 4) 4 krf, zO ra 5 [vR rf, vI rm], zI rf (cy 0) 240 ff] (fun (r : Int32) (u : SV) => r = iI (u.2.1 0) ∧ ((-2147483648) ≤ u.2.1 0 ∧ u.2.1 0 ≤ 2147483647) ∧ (0 ≤ u.2.1 1 ∧ u.2.1 1 ≤ 600) ∧ (0 ≤ u.2.1 2 ∧ u.2.1 2 ≤ 600) ∧ (0 ≤ u.2.1 3 ∧ u.2.1 3 ≤ 600) ∧ (0 ≤ u.2.1 4 ∧ u.2.1 4 ≤ 600) ∧ (0 ≤ u.2.1 5 ∧ u.2.1 5 ≤ 4) ∧ ((-1) ≤ u.2.1 6 ∧ u.2.1 6 ≤ 600) ∧ (0 ≤ u.2.1 7 ∧ u.2.1 7 ≤ 4) ∧ (0 ≤ u.2.1 8 ∧ u.2.1 8 ≤ 240) ∧ (0 ≤ n ∧ n ≤ fed ∧ u.2.1 1 = 0) ∧ inv_ 240 0 20 (u.2.2 0)) (fun u : SV => [zO kk 11 [vR ta, vR kr, vR kl, vI (u.2.1 7), vI nw, vR sA, vR dA, vR pa, vR ki, vR kp, vI im, vR wa, vR or_, vR rq], zI rq (cy 0) 4 qf, zO ta 8 [vR tb, vI (u.2.1 1), vI (u.2.1 2), vI (u.2.1 3), vI (u.2.1 4), vI (u.2.1 5), vI (u.2.1 6)], zI tb (cy 1) 600 bf, zQ kr (cy 4) 4 krf, zO ra 5 [vR rf, vI (u.2.1 8)], zI rf (cy 0) 240 (u.2.2 0)]) (fun (E : String) (u : SV) => (E = "java/lang/IllegalArgumentException") ∧ (¬ (0 ≤ n ∧ n ≤ fed))) (fun u : SV => [zO kk 11 [vR ta, vR kr, vR kl, vI nr, vI nw, vR sA, vR dA, vR pa, vR ki, vR kp, vI im, vR wa, vR or_, vR rq], zI rq (cy 0) 4 (u.2.2 0), zO ta 8 [vR tb, vI fed, vI len, vI at_, vI we, vI fa, vI fp], zI tb (cy 1) 600 bf, zQ kr (cy 4) 4 krf, zO ra 5 [vR rf, vI rm], zI rf (cy 0) 240 ff]) 1 6 := by
  refine vx_ofW (cc := cX11_rain) (maxL := 2) (ret := (some .int)) (by decide) rfl ?_
  intro p e s m args below meth c s₁ B hml hex hv
  obtain ⟨rfl, hsz, hP, hG, hD0, hT⟩ := hv
  have hx := B.exec
  have hb := B.bytes
  have hr := B.returns
  have hts := atoms_spec (ws := vs_k_rain) B.pre
  have hown : s.vm.findClass RX11 = some m.cls := findClass_of_methodNamed B.named
  have hlocks := B.notSynchronized
  subst hsz
  have hD := hD0.self (sz := s.heap.size)
  generalize hAe : va_A [zO kk 11 [vR ta, vR kr, vR kl, vI nr, vI nw, vR sA, vR dA, vR pa, vR ki, vR kp, vI im, vR wa, vR or_, vR rq], zI rq (cy 0) 4 qf, zO ta 8 [vR tb, vI fed, vI len, vI at_, vI we, vI fa, vI fp], zI tb (cy 1) 600 bf, zQ kr (cy 4) 4 krf, zO ra 5 [vR rf, vI rm], zI rf (cy 0) 240 ff] s.heap.size = A at hD hT ⊢
  have hA : ∀ q : Nat, s.heap.size ≤ q → A q := fun q h => by rw [← hAe]; exact Or.inr h
  have hS : va_S A s.heap s.heap [] := va_S.rf
  have hl0 := lv_entry ([vR kk, vI n]) (n := 2) (Nat.le_of_ble_eq_true rfl)
  rw [lg_entry_eq]
  generalize (lg_sl ([vR kk, vI n]) ++ List.replicate (2 - (lg_sl ([vR kk, vI n])).length) Slot.unset).toArray = ls at hl0 ⊢
  have hlv : lv_has ls 2 [(0, vR kk), (1, vI n)] := hl0
  have gg_0 : GoodIn vs_k_rain (wsV RX11 85 RX11 yX11_beginText vs_k_begin) := goodIn_sub (fun w h => List.mem_cons_of_mem _ (List.mem_append_right _ (List.mem_append_left _ h))) (gd_V gd_k_begin (by decide +kernel))
  have lf112 := hts (.fieldLink RX11 112 "KerbSplash" "rainsTold" "I") (List.mem_of_getElem? (i := 1) rfl)
  have hi11 : ∀ w ∈ wsX110, w ∈ vs_k_rain := fun w h => List.mem_cons_of_mem _ (List.mem_append_right _ (List.mem_append_right _ (List.mem_append_left _ h)))
  have lf18 := hts (.fieldLink RX11 18 "KerbSplash" "rains" "[LKerbSplash$Rain;") (List.mem_of_getElem? (i := 2) rfl)
  have lf10 := hts (.fieldLink RX11 10 "KerbSplash" "tape" "LKerbSplash$Tape;") (List.mem_of_getElem? (i := 3) rfl)
  have gg_2 : GoodIn vs_k_rain (vs_n_read) := goodIn_sub (fun w h => List.mem_cons_of_mem _ (List.mem_append_right _ (List.mem_append_right _ (List.mem_append_right _ (List.mem_append_left _ h))))) gd_n_read
  have ini_RX5 := hts (.initialized RX5) (List.mem_of_getElem? (i := 4) rfl)
  have im_X5_read := hts (.instanceMethod yX5_read) (List.mem_of_getElem? (i := 5) rfl)
  have se_X5_read := hts (.selects RX5 yX5_read yX5_read) (List.mem_of_getElem? (i := 6) rfl)
  have gg_3 : GoodIn vs_k_rain (vs_s_good) := goodIn_sub (fun w h => List.mem_cons_of_mem _ (List.mem_append_right _ (List.mem_append_right _ (List.mem_append_right _ (List.mem_append_right _ (List.mem_append_left _ h)))))) gd_s_good
  have ini_RX8 := hts (.initialized RX8) (List.mem_of_getElem? (i := 7) rfl)
  have im_X8_good := hts (.instanceMethod yX8_good) (List.mem_of_getElem? (i := 8) rfl)
  have se_X8_good := hts (.selects RX8 yX8_good yX8_good) (List.mem_of_getElem? (i := 9) rfl)
  have hi8 : ∀ w ∈ wsX80, w ∈ vs_k_rain := fun w h => List.mem_cons_of_mem _ (List.mem_append_right _ (List.mem_append_right _ (List.mem_append_right _ (List.mem_append_right _ (List.mem_append_right _ (List.mem_append_left _ h))))))
  refine lv_aload_n hx hb dX11_rain_0 rfl (lv_at hlv 0 rfl) ?_
  refine lv_iload_n hx hb dX11_rain_1 rfl (lv_at hlv 1 rfl) ?_
  refine cjrx_v [false, false, false, true, true, true, true] (fun pre9 => (vx_runV (As := [vI n]) (rest := []) ⟨hx, hb, hml, hown, hts⟩ (k_begin l hl D cy sa kk ta kr kl sA dA pa ki kp wa or_ rq nr nw im qf tb fed len at_ we fa fp n s.heap.size (by first | exact hr_nr | omega) (by first | exact hr_nw | omega) (by first | exact hr_im | omega) (by first | exact hr_fed | omega) (by first | exact hr_len | omega) (by first | exact hr_at_ | omega) (by first | exact hr_we | omega) (by first | exact hr_fa | omega) (by first | exact hr_fp | omega) (by first | exact hr_n | omega)) (cwV 1 hts gg_0 rfl rfl rfl (by decide +kernel) ⟨Nat.le_of_ble_eq_true rfl, Nat.le_of_ble_eq_true rfl⟩) ⟨pcW.blind, (va_recv hG.1 hP (ci := 11) (q0 := 0) rfl rfl), pre9⟩ rfl rfl hlv.1 rfl (lv_room (Nat.le_of_ble_eq_true rfl)) dX11_rain_2 ⟨Nat.le_of_ble_eq_true rfl, Nat.le_of_ble_eq_true rfl⟩)) hP hD hS hA hG hT [0, 1, 2] rfl (by decide +kernel) (fun E ux1 ce q9 H locs hp hq9 hS h1 h2 h3 => ?_) (fun u1 H locs hw1 hq9 hS => ?_)
  · obtain ⟨hP, hD⟩ := hq9
    obtain ⟨hp, hxg1⟩ := hp
    obtain rfl := hp
    exact vx_out (fun x h => (hex x h).elim) hlocks h1 h2 h3 (fun t ht hvm => ⟨((fun k => ([] : List Nat).getD k 0), (fun k => ([] : List Int).getD k 0), (fun k => ([(ux1.2.2 0)] : List (Nat → Int32)).getD k (fun _ => 0))), trivial, ⟨⟨rfl, by omega⟩, at9 ht hP hD [4, 5, 6, 0, 1, 2, 3] (by decide +kernel) rfl⟩, hS.F ht⟩) hS.2.2 (Nat.le_of_ble_eq_true rfl) (Nat.le_of_ble_eq_true rfl)
  have hq1_0 : ((0 : Int) ≤ n ∧ n ≤ fed) := hw1
  obtain ⟨hP, hD⟩ := pd9 [zI tb (cy 1) 600 bf, zQ kr (cy 4) 4 krf, zO ra 5 [vR rf, vI rm], zI rf (cy 0) 240 ff, zO kk 11 [vR ta, vR kr, vR kl, vI nr, vI nw, vR sA, vR dA, vR pa, vR ki, vR kp, vI im, vR wa, vR or_, vR rq], zI rq (cy 0) 4 qf, zO ta 8 [vR tb, vI 0, vI n, vI 0, vI 0, vI 0, vI (-1)]] hq9
  refine lv_aload_n hx hb dX11_rain_5 rfl (lv_at hlv 0 rfl) ?_
  refine va_get (D := D) (ci := 11) (v := vI nr) (C := RX11) (T := TX11) (N := 14) hx hb hts hi11 hown hG.1 hP 4 rfl rfl 3 (by decide) lf112 (fun _ h9 => h9) rfl dX11_rain_6 ?_
  refine lv_iconst (v := iI 4) hx hb dX11_rain_9 (by decide) ?_
  refine ir_lt (tgt := 15) hx hb dX11_rain_10 (by decide) (by first | exact rgw hr_nr (by decide) (by decide) | omega) (by show ((-2147483648) : Int) ≤ 4 ∧ (4 : Int) ≤ 2147483647; decide) (fun c_1 => ?_) (fun c_1 => ?_)
  · refine lv_aload_n hx hb dX11_rain_15 rfl (lv_at hlv 0 rfl) ?_
    refine va_get (D := D) (ci := 11) (v := vR kr) (C := RX11) (T := TX11) (N := 14) hx hb hts hi11 hown hG.1 hP 4 rfl rfl 1 (by decide) lf18 (fun _ h9 => h9) rfl dX11_rain_16 ?_
    refine lv_aload_n hx hb dX11_rain_19 rfl (lv_at hlv 0 rfl) ?_
    refine va_get (D := D) (ci := 11) (v := vI nr) (C := RX11) (T := TX11) (N := 14) hx hb hts hi11 hown hG.1 hP 4 rfl rfl 3 (by decide) lf112 (fun _ h9 => h9) rfl dX11_rain_20 ?_
    refine va_aldq hx hb hG.1 hP 1 4 rfl rfl (iI_in (by omega) (by decide)) dX11_rain_23 ?_
    refine ltv (y := vR ra) (by rw [iI_cl (by omega) (by omega), hp0 (by omega)]; rfl) ?_
    refine lv_aload_n hx hb dX11_rain_24 rfl (lv_at hlv 0 rfl) ?_
    refine va_get (D := D) (ci := 11) (v := vR ta) (C := RX11) (T := TX11) (N := 14) hx hb hts hi11 hown hG.1 hP 4 rfl rfl 0 (by decide) lf10 (fun _ h9 => h9) rfl dX11_rain_25 ?_
    refine cjr_v [false, true, false, false, true, true, false] (fun pre9 => (va_runVN (host := "KerbSplash") (As := [vR ta]) (rest := []) ⟨hx, hb, hml, hown, hts⟩ (n_read l hl D cy sa ra rf rm ff ta tb 0 n 0 0 0 (-1) bf H.size (by show (0 : Int) ≤ 0 ∧ (0 : Int) ≤ 600; decide) (by omega) (by show (0 : Int) ≤ 0 ∧ (0 : Int) ≤ 600; decide) (by show (0 : Int) ≤ 0 ∧ (0 : Int) ≤ 600; decide) (by show (0 : Int) ≤ 0 ∧ (0 : Int) ≤ 4; decide) (by show ((-1) : Int) ≤ (-1) ∧ ((-1) : Int) ≤ 600; decide) (by first | exact rgw hr_rm (by decide) (by decide) | omega) hff) ⟨va_cnB 1 hts gg_2 rfl rfl rfl (nM_K_115 hG.2.1) ini_RX5 (by decide +kernel) ⟨Nat.le_of_ble_eq_true rfl, Nat.le_of_ble_eq_true rfl⟩, im_X5_read, se_X5_read⟩ ⟨pcW.blind, (va_recv hG.1 hP (ci := 5) (q0 := 2) rfl rfl), pre9⟩ rfl rfl hlv.1 rfl (lv_room (Nat.le_of_ble_eq_true rfl)) dX11_rain_28 ⟨Nat.le_of_ble_eq_true rfl, Nat.le_of_ble_eq_true rfl⟩)) hP hD hS hA hG hT [2, 3, 6, 0] rfl (by decide +kernel) (fun u2 H locs hw2 hq9 hS => ?_)
    obtain ⟨hq2_0, hq2_1, hq2_2, hq2_3, hq2_4, hq2_5⟩ := hw2
    obtain ⟨hP, hD⟩ := pd9 [zQ kr (cy 4) 4 krf, zO kk 11 [vR ta, vR kr, vR kl, vI nr, vI nw, vR sA, vR dA, vR pa, vR ki, vR kp, vI im, vR wa, vR or_, vR rq], zI rq (cy 0) 4 qf, zO ra 5 [vR rf, vI (u2.2.1 4)], zI rf (cy 0) 240 (u2.2.2 0), zO ta 8 [vR tb, vI 0, vI n, vI (u2.2.1 0), vI (u2.2.1 1), vI (u2.2.1 2), vI (u2.2.1 3)], zI tb (cy 1) 600 bf] hq9
    refine lv_aload_n hx hb dX11_rain_31 rfl (lv_at hlv 0 rfl) ?_
    refine va_get (D := D) (ci := 11) (v := vR ta) (C := RX11) (T := TX11) (N := 14) hx hb hts hi11 hown hG.1 hP 1 rfl rfl 0 (by decide) lf10 (fun _ h9 => h9) rfl dX11_rain_32 ?_
    refine cjr_i [true, true, true, true, true, false, true] (fun pre9 => (va_runVN (host := "KerbSplash") (As := []) (rest := []) ⟨hx, hb, hml, hown, hts⟩ (s_good l hl D cy sa ta tb 0 n (u2.2.1 0) (u2.2.1 1) (u2.2.1 2) (u2.2.1 3) H.size (by show (0 : Int) ≤ 0 ∧ (0 : Int) ≤ 600; decide) (by omega) (by first | exact hq2_0 | omega) (by first | exact hq2_1 | omega) (by first | exact hq2_2 | omega) (by first | exact hq2_3 | omega)) ⟨va_cnB 0 hts gg_3 rfl rfl rfl (nM_K_96 hG.2.1) ini_RX8 (by decide +kernel) ⟨Nat.le_of_ble_eq_true rfl, Nat.le_of_ble_eq_true rfl⟩, im_X8_good, se_X8_good⟩ ⟨pcW.blind, (va_recv hG.1 hP (ci := 8) (q0 := 5) rfl rfl), pre9⟩ rfl rfl hlv.1 rfl (lv_room (Nat.le_of_ble_eq_true rfl)) dX11_rain_35 ⟨Nat.le_of_ble_eq_true rfl, Nat.le_of_ble_eq_true rfl⟩)) hP hD hS hA hG hT [5] rfl (by decide +kernel) (fun r3 u3 H locs hw3 hq9 hS => ?_)
    obtain ⟨rfl, hq3_1, hq3_2, hq3_3⟩ := hw3
    obtain ⟨hP, hD⟩ := pd9 [zQ kr (cy 4) 4 krf, zO kk 11 [vR ta, vR kr, vR kl, vI nr, vI nw, vR sA, vR dA, vR pa, vR ki, vR kp, vI im, vR wa, vR or_, vR rq], zI rq (cy 0) 4 qf, zO ra 5 [vR rf, vI (u2.2.1 4)], zI rf (cy 0) 240 (u2.2.2 0), zI tb (cy 1) 600 bf, zO ta 8 [vR tb, vI 0, vI n, vI (u2.2.1 0), vI (u2.2.1 1), vI (u2.2.1 2), vI (u2.2.1 3)]] hq9
    refine iz_ne (tgt := 52) hx hb dX11_rain_38 (by decide) (by first | exact rgw hq3_1 (by decide) (by decide) | omega) (fun c_2 => ?_) (fun c_2 => ?_)
    · refine lv_aload_n hx hb dX11_rain_52 rfl (lv_at hlv 0 rfl) ?_
      refine lv_dup hx hb dX11_rain_53 rfl ?_
      refine va_get (D := D) (ci := 11) (v := vI nr) (C := RX11) (T := TX11) (N := 14) hx hb hts hi11 hown hG.1 hP 1 rfl rfl 3 (by decide) lf112 (fun _ h9 => h9) rfl dX11_rain_54 ?_
      refine lv_iconst (v := iI 1) hx hb dX11_rain_57 (by decide) ?_
      refine lv_iadd hx hb dX11_rain_58 ?_
      refine lt_e (e0 := nr + 1) (Int32.ofInt_add _ _).symm (fun z_3 hz_3 => ?_)
      refine va_put (D := D) (ci := 11) (v := vI z_3) (ty := .int) (C := RX11) (T := TX11) (N := 14) hx hb hts hi11 tyX11 tyX11_ok nmX11 hown hG.1 hP hD hS 1 rfl rfl 3 (by decide) lf112 (fun _ h9 => h9) rfl (by decide +kernel) rfl rfl (Nat.le_of_ble_eq_true rfl) dX11_rain_59 (fun H locs hP hD hS => ?_)
      obtain ⟨hP, hD⟩ := pw9 [zQ kr (cy 4) 4 krf, zO kk 11 [vR ta, vR kr, vR kl, vI z_3, vI nw, vR sA, vR dA, vR pa, vR ki, vR kp, vI im, vR wa, vR or_, vR rq], zI rq (cy 0) 4 qf, zO ra 5 [vR rf, vI (u2.2.1 4)], zI rf (cy 0) 240 (u2.2.2 0), zI tb (cy 1) 600 bf, zO ta 8 [vR tb, vI 0, vI n, vI (u2.2.1 0), vI (u2.2.1 1), vI (u2.2.1 2), vI (u2.2.1 3)]] hP hD
      refine lv_aload_n hx hb dX11_rain_62 rfl (lv_at hlv 0 rfl) ?_
      refine va_get (D := D) (ci := 11) (v := vI z_3) (C := RX11) (T := TX11) (N := 14) hx hb hts hi11 hown hG.1 hP 1 rfl rfl 3 (by decide) lf112 (fun _ h9 => h9) rfl dX11_rain_63 ?_
      refine lv_iconst (v := iI 1) hx hb dX11_rain_66 (by decide) ?_
      refine lv_isub hx hb dX11_rain_67 ?_
      refine lt_e (e0 := z_3 - 1) (Int32.ofInt_sub _ _).symm (fun z_4 hz_4 => ?_)
      refine W.widen (k := 1) (n := 6) (Nat.le_of_ble_eq_true rfl) (Nat.le_of_ble_eq_true rfl) ?_
      refine vx_ret ?_
      exact W.iret (v := iI z_4) hx hb hr (fun t ht hW => ⟨⟨iI z_4, ((fun k => ([] : List Nat).getD k 0), (fun k => ([z_4, 0, n, (u2.2.1 0), (u2.2.1 1), (u2.2.1 2), (u2.2.1 3), z_3, (u2.2.1 4)] : List Int).getD k 0), (fun k => ([(u2.2.2 0)] : List (Nat → Int32)).getD k (fun _ => 0))), rfl, ⟨rfl, (by show ((-2147483648) ≤ z_4 ∧ z_4 ≤ 2147483647); omega), (by show (0 ≤ 0 ∧ 0 ≤ 600); show (0 : Int) ≤ 0 ∧ (0 : Int) ≤ 600; decide), (by show (0 ≤ n ∧ n ≤ 600); omega), (by show (0 ≤ (u2.2.1 0) ∧ (u2.2.1 0) ≤ 600); first | exact hq2_0 | omega), (by show (0 ≤ (u2.2.1 1) ∧ (u2.2.1 1) ≤ 600); first | exact hq2_1 | omega), (by show (0 ≤ (u2.2.1 2) ∧ (u2.2.1 2) ≤ 4); first | exact hq2_2 | omega), (by show ((-1) ≤ (u2.2.1 3) ∧ (u2.2.1 3) ≤ 600); first | exact hq2_3 | omega), (by show (0 ≤ z_3 ∧ z_3 ≤ 4); omega), (by show (0 ≤ (u2.2.1 4) ∧ (u2.2.1 4) ≤ 240); first | exact hq2_4 | omega), (by show (0 ≤ n ∧ n ≤ fed ∧ 0 = 0); omega), hq2_5⟩, at9 ht hP hD [1, 2, 6, 5, 0, 3, 4] (by decide +kernel) rfl⟩, hS.F ht⟩) hS.2.2 dX11_rain_68
    · refine lv_aload_n hx hb dX11_rain_41 rfl (lv_at hlv 0 rfl) ?_
      refine va_get (D := D) (ci := 11) (v := vR ta) (C := RX11) (T := TX11) (N := 14) hx hb hts hi11 hown hG.1 hP 1 rfl rfl 0 (by decide) lf10 (fun _ h9 => h9) rfl dX11_rain_42 ?_
      refine va_getN (D := D) (ci := 8) (v := vI (u2.2.1 2)) (C := RX8) (T := TX8) (N := 7) hx hb hts hi8 hown hG.1 hP 6 rfl rfl 5 (by decide) (va_Nw.use rfl (nF_K_99 hG.2.1)) (fun _ h9 => h9) rfl dX11_rain_45 ?_
      refine lv_bipush (v := iI 10) hx hb dX11_rain_48 (by decide) ?_
      refine lv_isub hx hb dX11_rain_50 ?_
      refine lt_e (e0 := (u2.2.1 2) - 10) (Int32.ofInt_sub _ _).symm (fun z_5 hz_5 => ?_)
      refine W.widen (k := 1) (n := 6) (Nat.le_of_ble_eq_true rfl) (Nat.le_of_ble_eq_true rfl) ?_
      refine vx_ret ?_
      exact W.iret (v := iI z_5) hx hb hr (fun t ht hW => ⟨⟨iI z_5, ((fun k => ([] : List Nat).getD k 0), (fun k => ([z_5, 0, n, (u2.2.1 0), (u2.2.1 1), (u2.2.1 2), (u2.2.1 3), nr, (u2.2.1 4)] : List Int).getD k 0), (fun k => ([(u2.2.2 0)] : List (Nat → Int32)).getD k (fun _ => 0))), rfl, ⟨rfl, (by show ((-2147483648) ≤ z_5 ∧ z_5 ≤ 2147483647); omega), (by show (0 ≤ 0 ∧ 0 ≤ 600); show (0 : Int) ≤ 0 ∧ (0 : Int) ≤ 600; decide), (by show (0 ≤ n ∧ n ≤ 600); omega), (by show (0 ≤ (u2.2.1 0) ∧ (u2.2.1 0) ≤ 600); first | exact hq2_0 | omega), (by show (0 ≤ (u2.2.1 1) ∧ (u2.2.1 1) ≤ 600); first | exact hq2_1 | omega), (by show (0 ≤ (u2.2.1 2) ∧ (u2.2.1 2) ≤ 4); first | exact hq2_2 | omega), (by show ((-1) ≤ (u2.2.1 3) ∧ (u2.2.1 3) ≤ 600); first | exact hq2_3 | omega), (by show (0 ≤ nr ∧ nr ≤ 4); first | exact hr_nr | omega), (by show (0 ≤ (u2.2.1 4) ∧ (u2.2.1 4) ≤ 240); first | exact hq2_4 | omega), (by show (0 ≤ n ∧ n ≤ fed ∧ 0 = 0); omega), hq2_5⟩, at9 ht hP hD [1, 2, 6, 5, 0, 3, 4] (by decide +kernel) rfl⟩, hS.F ht⟩) hS.2.2 dX11_rain_51
  · refine lv_iconst (v := iI (-1)) hx hb dX11_rain_13 (by decide) ?_
    refine W.widen (k := 1) (n := 6) (Nat.le_of_ble_eq_true rfl) (Nat.le_of_ble_eq_true rfl) ?_
    refine vx_ret ?_
    exact W.iret (v := iI (-1)) hx hb hr (fun t ht hW => ⟨⟨iI (-1), ((fun k => ([] : List Nat).getD k 0), (fun k => ([(-1), 0, n, 0, 0, 0, (-1), nr, rm] : List Int).getD k 0), (fun k => ([ff] : List (Nat → Int32)).getD k (fun _ => 0))), rfl, ⟨rfl, (by show ((-2147483648) ≤ (-1) ∧ (-1) ≤ 2147483647); show ((-2147483648) : Int) ≤ (-1) ∧ ((-1) : Int) ≤ 2147483647; decide), (by show (0 ≤ 0 ∧ 0 ≤ 600); show (0 : Int) ≤ 0 ∧ (0 : Int) ≤ 600; decide), (by show (0 ≤ n ∧ n ≤ 600); omega), (by show (0 ≤ 0 ∧ 0 ≤ 600); show (0 : Int) ≤ 0 ∧ (0 : Int) ≤ 600; decide), (by show (0 ≤ 0 ∧ 0 ≤ 600); show (0 : Int) ≤ 0 ∧ (0 : Int) ≤ 600; decide), (by show (0 ≤ 0 ∧ 0 ≤ 4); show (0 : Int) ≤ 0 ∧ (0 : Int) ≤ 4; decide), (by show ((-1) ≤ (-1) ∧ (-1) ≤ 600); show ((-1) : Int) ≤ (-1) ∧ ((-1) : Int) ≤ 600; decide), (by show (0 ≤ nr ∧ nr ≤ 4); first | exact hr_nr | omega), (by show (0 ≤ rm ∧ rm ≤ 240); first | exact hr_rm | omega), (by show (0 ≤ n ∧ n ≤ fed ∧ 0 = 0); omega), hff⟩, at9 ht hP hD [4, 5, 6, 0, 1, 2, 3] (by decide +kernel) rfl⟩, hS.F ht⟩) hS.2.2 dX11_rain_14
def vs_k_law : List Cond := .code yX11_law cX11_law 2 (some .int) :: (([.fieldLink RX11 118 "KerbSplash" "lawsTold" "I", .classLink RX11 121 RX2, .instantiable RX2 3, .initialized RX2, .fieldLink RX11 10 "KerbSplash" "tape" "LKerbSplash$Tape;", .fieldLink RX11 24 "KerbSplash" "laws" "[LKerbSplash$Law;", .instanceMethod yX2_init, .instanceMethod yX2_read, .selects RX2 yX2_read yX2_read, .initialized RX8, .instanceMethod yX8_good, .selects RX8 yX8_good yX8_good] : List Cond) ++ ((wsV RX11 85 RX11 yX11_beginText vs_k_begin) ++ ((wsX110) ++ ((wsX20) ++ ((vs_k_lrinit) ++ ((vs_w_read) ++ ((vs_s_good) ++ ((wsX80) ++ ([])))))))))
theorem gd_k_law : vs_k_law.all goodWord = true := gd_C (by decide +kernel) (gd_A (by decide +kernel) (gd_A (gd_V gd_k_begin (by decide +kernel)) (gd_A (by decide +kernel) (gd_A (by decide +kernel) (gd_A gd_k_lrinit (gd_A gd_w_read (gd_A gd_s_good (gd_A (by decide +kernel) rfl))))))))
set_option maxHeartbeats 4000000 in
set_option maxRecDepth 100000 in
theorem k_law (l : Launch) (hl : l.stackTraces = false) (D : va_G) (cy : Nat → ClassId) (sa : Nat → Nat) (kk ta kr kl sA dA pa ki kp wa or_ rq : Nat) (nr nw im : Int) (qf : Nat → Int32) (tb : Nat) (fed len at_ we fa fp : Int) (bf : Nat → Int32) (klf : Nat → Option Nat) (la l0 l2 l3 : Nat) (size : Int) (st sf : Nat → Int32) (n : Int) (sz : Nat) (hr_nr : 0 ≤ nr ∧ nr ≤ 4) (hr_nw : 0 ≤ nw ∧ nw ≤ 4) (hr_im : 0 ≤ im ∧ im ≤ 3) (hr_fed : 0 ≤ fed ∧ fed ≤ 600) (hr_len : 0 ≤ len ∧ len ≤ 600) (hr_at_ : 0 ≤ at_ ∧ at_ ≤ 600) (hr_we : 0 ≤ we ∧ we ≤ 600) (hr_fa : 0 ≤ fa ∧ fa ≤ 4) (hr_fp : (-1) ≤ fp ∧ fp ≤ 600) (hr_size : 0 ≤ size ∧ size ≤ 600) (hr_n : (-2147483648) ≤ n ∧ n ≤ 2147483647) (hp0 : nw < 4 → klf nw.toNat = some la) (hst : inv_ 600 0 2147483647 st) : xI9 l yX11_law vs_k_law ({ frames := 89, cells := 2, slots := 9, locals := 6443 }) D cy sa sz [vR kk, vI n] [zO kk 11 [vR ta, vR kr, vR kl, vI nr, vI nw, vR sA, vR dA, vR pa, vR ki, vR kp, vI im, vR wa, vR or_, vR rq], zI rq (cy 0) 4 qf, zO ta 8 [vR tb, vI fed, vI len, vI at_, vI we, vI fa, vI fp], zI tb (cy 1) 600 bf, zQ kl (cy 5) 4 klf, zO la 1 [vR l0, vI size, vR l2, vR l3], zI l0 (cy 0) 600 st, zI l2 (cy 0) 5 sf] (fun (r : Int32) (u : SV) => r = iI (u.2.1 0) ∧ ((-2147483648) ≤ u.2.1 0 ∧ u.2.1 0 ≤ 2147483647) ∧ (0 ≤ u.2.1 1 ∧ u.2.1 1 ≤ 600) ∧ (0 ≤ u.2.1 2 ∧ u.2.1 2 ≤ 600) ∧ (0 ≤ u.2.1 3 ∧ u.2.1 3 ≤ 600) ∧ (0 ≤ u.2.1 4 ∧ u.2.1 4 ≤ 600) ∧ (0 ≤ u.2.1 5 ∧ u.2.1 5 ≤ 4) ∧ ((-1) ≤ u.2.1 6 ∧ u.2.1 6 ≤ 600) ∧ (0 ≤ u.2.1 7 ∧ u.2.1 7 ≤ 4) ∧ (0 ≤ u.2.1 8 ∧ u.2.1 8 ≤ 600) ∧ (0 ≤ n ∧ n ≤ fed ∧ u.2.1 1 = 0) ∧ inv_ 600 0 2147483647 (u.2.2 0)) (fun u : SV => [zO kk 11 [vR ta, vR kr, vR kl, vI nr, vI (u.2.1 7), vR sA, vR dA, vR pa, vR ki, vR kp, vI im, vR wa, vR or_, vR rq], zI rq (cy 0) 4 qf, zO ta 8 [vR tb, vI (u.2.1 1), vI (u.2.1 2), vI (u.2.1 3), vI (u.2.1 4), vI (u.2.1 5), vI (u.2.1 6)], zI tb (cy 1) 600 bf, zQ kl (cy 5) 4 klf, zO la 1 [vR l0, vI (u.2.1 8), vR l2, vR l3], zI l0 (cy 0) 600 (u.2.2 0), zI l2 (cy 0) 5 (u.2.2 1)]) (fun (E : String) (u : SV) => (E = "java/lang/IllegalArgumentException") ∧ (¬ (0 ≤ n ∧ n ≤ fed))) (fun u : SV => [zO kk 11 [vR ta, vR kr, vR kl, vI nr, vI nw, vR sA, vR dA, vR pa, vR ki, vR kp, vI im, vR wa, vR or_, vR rq], zI rq (cy 0) 4 (u.2.2 0), zO ta 8 [vR tb, vI fed, vI len, vI at_, vI we, vI fa, vI fp], zI tb (cy 1) 600 bf, zQ kl (cy 5) 4 klf, zO la 1 [vR l0, vI size, vR l2, vR l3], zI l0 (cy 0) 600 st, zI l2 (cy 0) 5 sf]) 2 9 := by
  refine vx_ofW (cc := cX11_law) (maxL := 2) (ret := (some .int)) (by decide) rfl ?_
  intro p e s m args below meth c s₁ B hml hex hv
  obtain ⟨rfl, hsz, hP, hG, hD0, hT⟩ := hv
  have hx := B.exec
  have hb := B.bytes
  have hr := B.returns
  have hts := atoms_spec (ws := vs_k_law) B.pre
  have hown : s.vm.findClass RX11 = some m.cls := findClass_of_methodNamed B.named
  have hlocks := B.notSynchronized
  subst hsz
  have hD := hD0.self (sz := s.heap.size)
  generalize hAe : va_A [zO kk 11 [vR ta, vR kr, vR kl, vI nr, vI nw, vR sA, vR dA, vR pa, vR ki, vR kp, vI im, vR wa, vR or_, vR rq], zI rq (cy 0) 4 qf, zO ta 8 [vR tb, vI fed, vI len, vI at_, vI we, vI fa, vI fp], zI tb (cy 1) 600 bf, zQ kl (cy 5) 4 klf, zO la 1 [vR l0, vI size, vR l2, vR l3], zI l0 (cy 0) 600 st, zI l2 (cy 0) 5 sf] s.heap.size = A at hD hT ⊢
  have hA : ∀ q : Nat, s.heap.size ≤ q → A q := fun q h => by rw [← hAe]; exact Or.inr h
  have hS : va_S A s.heap s.heap [] := va_S.rf
  have hl0 := lv_entry ([vR kk, vI n]) (n := 2) (Nat.le_of_ble_eq_true rfl)
  rw [lg_entry_eq]
  generalize (lg_sl ([vR kk, vI n]) ++ List.replicate (2 - (lg_sl ([vR kk, vI n])).length) Slot.unset).toArray = ls at hl0 ⊢
  have hlv : lv_has ls 2 [(0, vR kk), (1, vI n)] := hl0
  have gg_0 : GoodIn vs_k_law (wsV RX11 85 RX11 yX11_beginText vs_k_begin) := goodIn_sub (fun w h => List.mem_cons_of_mem _ (List.mem_append_right _ (List.mem_append_left _ h))) (gd_V gd_k_begin (by decide +kernel))
  have lf118 := hts (.fieldLink RX11 118 "KerbSplash" "lawsTold" "I") (List.mem_of_getElem? (i := 1) rfl)
  have hi11 : ∀ w ∈ wsX110, w ∈ vs_k_law := fun w h => List.mem_cons_of_mem _ (List.mem_append_right _ (List.mem_append_right _ (List.mem_append_left _ h)))
  have cl121 := hts (.classLink RX11 121 RX2) (List.mem_of_getElem? (i := 2) rfl)
  have in2 := hts (.instantiable RX2 3) (List.mem_of_getElem? (i := 3) rfl)
  have ini2 := hts (.initialized RX2) (List.mem_of_getElem? (i := 4) rfl)
  have hi2 : ∀ w ∈ wsX20, w ∈ vs_k_law := fun w h => List.mem_cons_of_mem _ (List.mem_append_right _ (List.mem_append_right _ (List.mem_append_right _ (List.mem_append_left _ h))))
  have lf10 := hts (.fieldLink RX11 10 "KerbSplash" "tape" "LKerbSplash$Tape;") (List.mem_of_getElem? (i := 5) rfl)
  have lf24 := hts (.fieldLink RX11 24 "KerbSplash" "laws" "[LKerbSplash$Law;") (List.mem_of_getElem? (i := 6) rfl)
  have gg_3 : GoodIn vs_k_law (vs_k_lrinit) := goodIn_sub (fun w h => List.mem_cons_of_mem _ (List.mem_append_right _ (List.mem_append_right _ (List.mem_append_right _ (List.mem_append_right _ (List.mem_append_left _ h)))))) gd_k_lrinit
  have ini_RX2 := hts (.initialized RX2) (List.mem_of_getElem? (i := 4) rfl)
  have im_X2_init := hts (.instanceMethod yX2_init) (List.mem_of_getElem? (i := 7) rfl)
  have gg_4 : GoodIn vs_k_law (vs_w_read) := goodIn_sub (fun w h => List.mem_cons_of_mem _ (List.mem_append_right _ (List.mem_append_right _ (List.mem_append_right _ (List.mem_append_right _ (List.mem_append_right _ (List.mem_append_left _ h))))))) gd_w_read
  have im_X2_read := hts (.instanceMethod yX2_read) (List.mem_of_getElem? (i := 8) rfl)
  have se_X2_read := hts (.selects RX2 yX2_read yX2_read) (List.mem_of_getElem? (i := 9) rfl)
  have gg_5 : GoodIn vs_k_law (vs_s_good) := goodIn_sub (fun w h => List.mem_cons_of_mem _ (List.mem_append_right _ (List.mem_append_right _ (List.mem_append_right _ (List.mem_append_right _ (List.mem_append_right _ (List.mem_append_right _ (List.mem_append_left _ h)))))))) gd_s_good
  have ini_RX8 := hts (.initialized RX8) (List.mem_of_getElem? (i := 10) rfl)
  have im_X8_good := hts (.instanceMethod yX8_good) (List.mem_of_getElem? (i := 11) rfl)
  have se_X8_good := hts (.selects RX8 yX8_good yX8_good) (List.mem_of_getElem? (i := 12) rfl)
  have hi8 : ∀ w ∈ wsX80, w ∈ vs_k_law := fun w h => List.mem_cons_of_mem _ (List.mem_append_right _ (List.mem_append_right _ (List.mem_append_right _ (List.mem_append_right _ (List.mem_append_right _ (List.mem_append_right _ (List.mem_append_right _ (List.mem_append_left _ h))))))))
  refine lv_aload_n hx hb dX11_law_0 rfl (lv_at hlv 0 rfl) ?_
  refine lv_iload_n hx hb dX11_law_1 rfl (lv_at hlv 1 rfl) ?_
  refine cjrx_v [false, false, false, true, true, true, true, true] (fun pre9 => (vx_runV (As := [vI n]) (rest := []) ⟨hx, hb, hml, hown, hts⟩ (k_begin l hl D cy sa kk ta kr kl sA dA pa ki kp wa or_ rq nr nw im qf tb fed len at_ we fa fp n s.heap.size (by first | exact hr_nr | omega) (by first | exact hr_nw | omega) (by first | exact hr_im | omega) (by first | exact hr_fed | omega) (by first | exact hr_len | omega) (by first | exact hr_at_ | omega) (by first | exact hr_we | omega) (by first | exact hr_fa | omega) (by first | exact hr_fp | omega) (by first | exact hr_n | omega)) (cwV 1 hts gg_0 rfl rfl rfl (by decide +kernel) ⟨Nat.le_of_ble_eq_true rfl, Nat.le_of_ble_eq_true rfl⟩) ⟨pcW.blind, (va_recv hG.1 hP (ci := 11) (q0 := 0) rfl rfl), pre9⟩ rfl rfl hlv.1 rfl (lv_room (Nat.le_of_ble_eq_true rfl)) dX11_law_2 ⟨Nat.le_of_ble_eq_true rfl, Nat.le_of_ble_eq_true rfl⟩)) hP hD hS hA hG hT [0, 1, 2] rfl (by decide +kernel) (fun E ux1 ce q9 H locs hp hq9 hS h1 h2 h3 => ?_) (fun u1 H locs hw1 hq9 hS => ?_)
  · obtain ⟨hP, hD⟩ := hq9
    obtain ⟨hp, hxg1⟩ := hp
    obtain rfl := hp
    exact vx_out (fun x h => (hex x h).elim) hlocks h1 h2 h3 (fun t ht hvm => ⟨((fun k => ([] : List Nat).getD k 0), (fun k => ([] : List Int).getD k 0), (fun k => ([(ux1.2.2 0)] : List (Nat → Int32)).getD k (fun _ => 0))), trivial, ⟨⟨rfl, by omega⟩, at9 ht hP hD [5, 6, 7, 0, 1, 2, 3, 4] (by decide +kernel) rfl⟩, hS.F ht⟩) hS.2.2 (Nat.le_of_ble_eq_true rfl) (Nat.le_of_ble_eq_true rfl)
  have hq1_0 : ((0 : Int) ≤ n ∧ n ≤ fed) := hw1
  obtain ⟨hP, hD⟩ := pd9 [zI tb (cy 1) 600 bf, zQ kl (cy 5) 4 klf, zO la 1 [vR l0, vI size, vR l2, vR l3], zI l0 (cy 0) 600 st, zI l2 (cy 0) 5 sf, zO kk 11 [vR ta, vR kr, vR kl, vI nr, vI nw, vR sA, vR dA, vR pa, vR ki, vR kp, vI im, vR wa, vR or_, vR rq], zI rq (cy 0) 4 qf, zO ta 8 [vR tb, vI 0, vI n, vI 0, vI 0, vI 0, vI (-1)]] hq9
  refine lv_aload_n hx hb dX11_law_5 rfl (lv_at hlv 0 rfl) ?_
  refine va_get (D := D) (ci := 11) (v := vI nw) (C := RX11) (T := TX11) (N := 14) hx hb hts hi11 hown hG.1 hP 5 rfl rfl 4 (by decide) lf118 (fun _ h9 => h9) rfl dX11_law_6 ?_
  refine lv_iconst (v := iI 4) hx hb dX11_law_9 (by decide) ?_
  refine ir_lt (tgt := 15) hx hb dX11_law_10 (by decide) (by first | exact rgw hr_nw (by decide) (by decide) | omega) (by show ((-2147483648) : Int) ≤ 4 ∧ (4 : Int) ≤ 2147483647; decide) (fun c_1 => ?_) (fun c_1 => ?_)
  · refine va_new (ci := 2) (fs := [vN, vN, vI 0]) (C := RX2) (T := TX2) (N := 3) hx hb hts hi2 tyX2 tyX2_ok hown cl121 in2 ini2 hG.1 hP hD hS hA rfl (by decide) (Nat.le_of_ble_eq_true rfl) (Nat.le_of_ble_eq_true rfl) dX11_law_15 (fun q_2 H hP hD hS => ?_)
    obtain ⟨hP, hD⟩ := pw9 [zI tb (cy 1) 600 bf, zQ kl (cy 5) 4 klf, zO la 1 [vR l0, vI size, vR l2, vR l3], zI l0 (cy 0) 600 st, zI l2 (cy 0) 5 sf, zO kk 11 [vR ta, vR kr, vR kl, vI nr, vI nw, vR sA, vR dA, vR pa, vR ki, vR kp, vI im, vR wa, vR or_, vR rq], zI rq (cy 0) 4 qf, zO ta 8 [vR tb, vI 0, vI n, vI 0, vI 0, vI 0, vI (-1)], zO q_2 2 [vN, vN, vI 0]] hP hD
    refine lv_dup hx hb dX11_law_18 rfl ?_
    refine lv_aload_n hx hb dX11_law_19 rfl (lv_at hlv 0 rfl) ?_
    refine va_get (D := D) (ci := 11) (v := vR ta) (C := RX11) (T := TX11) (N := 14) hx hb hts hi11 hown hG.1 hP 5 rfl rfl 0 (by decide) lf10 (fun _ h9 => h9) rfl dX11_law_20 ?_
    refine lv_aload_n hx hb dX11_law_23 rfl (lv_at hlv 0 rfl) ?_
    refine va_get (D := D) (ci := 11) (v := vR kl) (C := RX11) (T := TX11) (N := 14) hx hb hts hi11 hown hG.1 hP 5 rfl rfl 2 (by decide) lf24 (fun _ h9 => h9) rfl dX11_law_24 ?_
    refine lv_aload_n hx hb dX11_law_27 rfl (lv_at hlv 0 rfl) ?_
    refine va_get (D := D) (ci := 11) (v := vI nw) (C := RX11) (T := TX11) (N := 14) hx hb hts hi11 hown hG.1 hP 5 rfl rfl 4 (by decide) lf118 (fun _ h9 => h9) rfl dX11_law_28 ?_
    refine va_aldq hx hb hG.1 hP 1 5 rfl rfl (iI_in (by omega) (by decide)) dX11_law_31 ?_
    refine ltv (y := vR la) (by rw [iI_cl (by omega) (by omega), hp0 (by omega)]; rfl) ?_
    refine cjr_v [true, true, true, true, true, true, true, true, false] (fun pre9 => (va_runIN (host := "KerbSplash") (As := [vR ta, vR la]) (rest := [vR q_2]) ⟨hx, hb, hml, hown, hts⟩ (k_lrinit l hl D cy sa q_2 ta la H.size) ⟨va_cnB 2 hts gg_3 rfl rfl rfl (nM_K_123 hG.2.1) ini_RX2 (by decide +kernel) ⟨Nat.le_of_ble_eq_true rfl, Nat.le_of_ble_eq_true rfl⟩, rfl, im_X2_init⟩ ⟨pcW.blind, pre9⟩ rfl rfl hlv.1 rfl (lv_room (Nat.le_of_ble_eq_true rfl)) dX11_law_32 ⟨Nat.le_of_ble_eq_true rfl, Nat.le_of_ble_eq_true rfl⟩)) hP hD hS hA hG hT [8] rfl (by decide +kernel) (fun u2 H locs hw2 hq9 hS => ?_)
    obtain ⟨hP, hD⟩ := pd9 [zI tb (cy 1) 600 bf, zQ kl (cy 5) 4 klf, zO la 1 [vR l0, vI size, vR l2, vR l3], zI l0 (cy 0) 600 st, zI l2 (cy 0) 5 sf, zO kk 11 [vR ta, vR kr, vR kl, vI nr, vI nw, vR sA, vR dA, vR pa, vR ki, vR kp, vI im, vR wa, vR or_, vR rq], zI rq (cy 0) 4 qf, zO ta 8 [vR tb, vI 0, vI n, vI 0, vI 0, vI 0, vI (-1)], zO q_2 2 [vR ta, vR la, vI 0]] hq9
    refine cjr_v [false, true, false, false, false, true, true, false, false] (fun pre9 => (va_runVN (host := "KerbSplash") (As := []) (rest := []) ⟨hx, hb, hml, hown, hts⟩ (w_read l hl D cy sa q_2 ta tb 0 n 0 0 0 (-1) bf la l0 l2 l3 size st 0 sf H.size (by show (0 : Int) ≤ 0 ∧ (0 : Int) ≤ 600; decide) (by omega) (by show (0 : Int) ≤ 0 ∧ (0 : Int) ≤ 600; decide) (by show (0 : Int) ≤ 0 ∧ (0 : Int) ≤ 600; decide) (by show (0 : Int) ≤ 0 ∧ (0 : Int) ≤ 4; decide) (by show ((-1) : Int) ≤ (-1) ∧ ((-1) : Int) ≤ 600; decide) (by first | exact hr_size | omega) (by show (0 : Int) ≤ 0 ∧ (0 : Int) ≤ 6; decide) hst) ⟨va_cnB 0 hts gg_4 rfl rfl rfl (nM_K_126 hG.2.1) ini_RX2 (by decide +kernel) ⟨Nat.le_of_ble_eq_true rfl, Nat.le_of_ble_eq_true rfl⟩, im_X2_read, se_X2_read⟩ ⟨pcW.blind, (va_recv hG.1 hP (ci := 2) (q0 := 8) rfl rfl), pre9⟩ rfl rfl hlv.1 rfl (lv_room (Nat.le_of_ble_eq_true rfl)) dX11_law_35 ⟨Nat.le_of_ble_eq_true rfl, Nat.le_of_ble_eq_true rfl⟩)) hP hD hS hA hG hT [8, 7, 0, 2, 3, 4] rfl (by decide +kernel) (fun u3 H locs hw3 hq9 hS => ?_)
    obtain ⟨hq3_0, hq3_1, hq3_2, hq3_3, hq3_4, hq3_5, hq3_6, hq3_7⟩ := hw3
    obtain ⟨hP, hD⟩ := pd9 [zQ kl (cy 5) 4 klf, zO kk 11 [vR ta, vR kr, vR kl, vI nr, vI nw, vR sA, vR dA, vR pa, vR ki, vR kp, vI im, vR wa, vR or_, vR rq], zI rq (cy 0) 4 qf, zO q_2 2 [vR ta, vR la, vI (u3.2.1 5)], zO ta 8 [vR tb, vI 0, vI n, vI (u3.2.1 0), vI (u3.2.1 1), vI (u3.2.1 2), vI (u3.2.1 3)], zI tb (cy 1) 600 bf, zO la 1 [vR l0, vI (u3.2.1 4), vR l2, vR l3], zI l0 (cy 0) 600 (u3.2.2 0), zI l2 (cy 0) 5 (u3.2.2 1)] hq9
    refine lv_aload_n hx hb dX11_law_38 rfl (lv_at hlv 0 rfl) ?_
    refine va_get (D := D) (ci := 11) (v := vR ta) (C := RX11) (T := TX11) (N := 14) hx hb hts hi11 hown hG.1 hP 1 rfl rfl 0 (by decide) lf10 (fun _ h9 => h9) rfl dX11_law_39 ?_
    refine cjr_i [true, true, true, true, false, true, true, true, true] (fun pre9 => (va_runVN (host := "KerbSplash") (As := []) (rest := []) ⟨hx, hb, hml, hown, hts⟩ (s_good l hl D cy sa ta tb 0 n (u3.2.1 0) (u3.2.1 1) (u3.2.1 2) (u3.2.1 3) H.size (by show (0 : Int) ≤ 0 ∧ (0 : Int) ≤ 600; decide) (by omega) (by first | exact hq3_0 | omega) (by first | exact hq3_1 | omega) (by first | exact hq3_2 | omega) (by first | exact hq3_3 | omega)) ⟨va_cnB 0 hts gg_5 rfl rfl rfl (nM_K_96 hG.2.1) ini_RX8 (by decide +kernel) ⟨Nat.le_of_ble_eq_true rfl, Nat.le_of_ble_eq_true rfl⟩, im_X8_good, se_X8_good⟩ ⟨pcW.blind, (va_recv hG.1 hP (ci := 8) (q0 := 4) rfl rfl), pre9⟩ rfl rfl hlv.1 rfl (lv_room (Nat.le_of_ble_eq_true rfl)) dX11_law_42 ⟨Nat.le_of_ble_eq_true rfl, Nat.le_of_ble_eq_true rfl⟩)) hP hD hS hA hG hT [4] rfl (by decide +kernel) (fun r4 u4 H locs hw4 hq9 hS => ?_)
    obtain ⟨rfl, hq4_1, hq4_2, hq4_3⟩ := hw4
    obtain ⟨hP, hD⟩ := pd9 [zQ kl (cy 5) 4 klf, zO kk 11 [vR ta, vR kr, vR kl, vI nr, vI nw, vR sA, vR dA, vR pa, vR ki, vR kp, vI im, vR wa, vR or_, vR rq], zI rq (cy 0) 4 qf, zO q_2 2 [vR ta, vR la, vI (u3.2.1 5)], zI tb (cy 1) 600 bf, zO la 1 [vR l0, vI (u3.2.1 4), vR l2, vR l3], zI l0 (cy 0) 600 (u3.2.2 0), zI l2 (cy 0) 5 (u3.2.2 1), zO ta 8 [vR tb, vI 0, vI n, vI (u3.2.1 0), vI (u3.2.1 1), vI (u3.2.1 2), vI (u3.2.1 3)]] hq9
    refine iz_ne (tgt := 59) hx hb dX11_law_45 (by decide) (by first | exact rgw hq4_1 (by decide) (by decide) | omega) (fun c_3 => ?_) (fun c_3 => ?_)
    · refine lv_aload_n hx hb dX11_law_59 rfl (lv_at hlv 0 rfl) ?_
      refine lv_dup hx hb dX11_law_60 rfl ?_
      refine va_get (D := D) (ci := 11) (v := vI nw) (C := RX11) (T := TX11) (N := 14) hx hb hts hi11 hown hG.1 hP 1 rfl rfl 4 (by decide) lf118 (fun _ h9 => h9) rfl dX11_law_61 ?_
      refine lv_iconst (v := iI 1) hx hb dX11_law_64 (by decide) ?_
      refine lv_iadd hx hb dX11_law_65 ?_
      refine lt_e (e0 := nw + 1) (Int32.ofInt_add _ _).symm (fun z_4 hz_4 => ?_)
      refine va_put (D := D) (ci := 11) (v := vI z_4) (ty := .int) (C := RX11) (T := TX11) (N := 14) hx hb hts hi11 tyX11 tyX11_ok nmX11 hown hG.1 hP hD hS 1 rfl rfl 4 (by decide) lf118 (fun _ h9 => h9) rfl (by decide +kernel) rfl rfl (Nat.le_of_ble_eq_true rfl) dX11_law_66 (fun H locs hP hD hS => ?_)
      obtain ⟨hP, hD⟩ := pw9 [zQ kl (cy 5) 4 klf, zO kk 11 [vR ta, vR kr, vR kl, vI nr, vI z_4, vR sA, vR dA, vR pa, vR ki, vR kp, vI im, vR wa, vR or_, vR rq], zI rq (cy 0) 4 qf, zO q_2 2 [vR ta, vR la, vI (u3.2.1 5)], zI tb (cy 1) 600 bf, zO la 1 [vR l0, vI (u3.2.1 4), vR l2, vR l3], zI l0 (cy 0) 600 (u3.2.2 0), zI l2 (cy 0) 5 (u3.2.2 1), zO ta 8 [vR tb, vI 0, vI n, vI (u3.2.1 0), vI (u3.2.1 1), vI (u3.2.1 2), vI (u3.2.1 3)]] hP hD
      refine lv_aload_n hx hb dX11_law_69 rfl (lv_at hlv 0 rfl) ?_
      refine va_get (D := D) (ci := 11) (v := vI z_4) (C := RX11) (T := TX11) (N := 14) hx hb hts hi11 hown hG.1 hP 1 rfl rfl 4 (by decide) lf118 (fun _ h9 => h9) rfl dX11_law_70 ?_
      refine lv_iconst (v := iI 1) hx hb dX11_law_73 (by decide) ?_
      refine lv_isub hx hb dX11_law_74 ?_
      refine lt_e (e0 := z_4 - 1) (Int32.ofInt_sub _ _).symm (fun z_5 hz_5 => ?_)
      refine W.widen (k := 2) (n := 9) (Nat.le_of_ble_eq_true rfl) (Nat.le_of_ble_eq_true rfl) ?_
      refine vx_ret ?_
      exact W.iret (v := iI z_5) hx hb hr (fun t ht hW => ⟨⟨iI z_5, ((fun k => ([] : List Nat).getD k 0), (fun k => ([z_5, 0, n, (u3.2.1 0), (u3.2.1 1), (u3.2.1 2), (u3.2.1 3), z_4, (u3.2.1 4)] : List Int).getD k 0), (fun k => ([(u3.2.2 0), (u3.2.2 1)] : List (Nat → Int32)).getD k (fun _ => 0))), rfl, ⟨rfl, (by show ((-2147483648) ≤ z_5 ∧ z_5 ≤ 2147483647); omega), (by show (0 ≤ 0 ∧ 0 ≤ 600); show (0 : Int) ≤ 0 ∧ (0 : Int) ≤ 600; decide), (by show (0 ≤ n ∧ n ≤ 600); omega), (by show (0 ≤ (u3.2.1 0) ∧ (u3.2.1 0) ≤ 600); first | exact hq3_0 | omega), (by show (0 ≤ (u3.2.1 1) ∧ (u3.2.1 1) ≤ 600); first | exact hq3_1 | omega), (by show (0 ≤ (u3.2.1 2) ∧ (u3.2.1 2) ≤ 4); first | exact hq3_2 | omega), (by show ((-1) ≤ (u3.2.1 3) ∧ (u3.2.1 3) ≤ 600); first | exact hq3_3 | omega), (by show (0 ≤ z_4 ∧ z_4 ≤ 4); omega), (by show (0 ≤ (u3.2.1 4) ∧ (u3.2.1 4) ≤ 600); first | exact hq3_4 | omega), (by show (0 ≤ n ∧ n ≤ fed ∧ 0 = 0); omega), hq3_7⟩, at9 ht hP hD [1, 2, 8, 4, 0, 5, 6, 7] (by decide +kernel) rfl⟩, hS.F ht⟩) hS.2.2 dX11_law_75
    · refine lv_aload_n hx hb dX11_law_48 rfl (lv_at hlv 0 rfl) ?_
      refine va_get (D := D) (ci := 11) (v := vR ta) (C := RX11) (T := TX11) (N := 14) hx hb hts hi11 hown hG.1 hP 1 rfl rfl 0 (by decide) lf10 (fun _ h9 => h9) rfl dX11_law_49 ?_
      refine va_getN (D := D) (ci := 8) (v := vI (u3.2.1 2)) (C := RX8) (T := TX8) (N := 7) hx hb hts hi8 hown hG.1 hP 8 rfl rfl 5 (by decide) (va_Nw.use rfl (nF_K_99 hG.2.1)) (fun _ h9 => h9) rfl dX11_law_52 ?_
      refine lv_bipush (v := iI 10) hx hb dX11_law_55 (by decide) ?_
      refine lv_isub hx hb dX11_law_57 ?_
      refine lt_e (e0 := (u3.2.1 2) - 10) (Int32.ofInt_sub _ _).symm (fun z_6 hz_6 => ?_)
      refine W.widen (k := 2) (n := 9) (Nat.le_of_ble_eq_true rfl) (Nat.le_of_ble_eq_true rfl) ?_
      refine vx_ret ?_
      exact W.iret (v := iI z_6) hx hb hr (fun t ht hW => ⟨⟨iI z_6, ((fun k => ([] : List Nat).getD k 0), (fun k => ([z_6, 0, n, (u3.2.1 0), (u3.2.1 1), (u3.2.1 2), (u3.2.1 3), nw, (u3.2.1 4)] : List Int).getD k 0), (fun k => ([(u3.2.2 0), (u3.2.2 1)] : List (Nat → Int32)).getD k (fun _ => 0))), rfl, ⟨rfl, (by show ((-2147483648) ≤ z_6 ∧ z_6 ≤ 2147483647); omega), (by show (0 ≤ 0 ∧ 0 ≤ 600); show (0 : Int) ≤ 0 ∧ (0 : Int) ≤ 600; decide), (by show (0 ≤ n ∧ n ≤ 600); omega), (by show (0 ≤ (u3.2.1 0) ∧ (u3.2.1 0) ≤ 600); first | exact hq3_0 | omega), (by show (0 ≤ (u3.2.1 1) ∧ (u3.2.1 1) ≤ 600); first | exact hq3_1 | omega), (by show (0 ≤ (u3.2.1 2) ∧ (u3.2.1 2) ≤ 4); first | exact hq3_2 | omega), (by show ((-1) ≤ (u3.2.1 3) ∧ (u3.2.1 3) ≤ 600); first | exact hq3_3 | omega), (by show (0 ≤ nw ∧ nw ≤ 4); first | exact hr_nw | omega), (by show (0 ≤ (u3.2.1 4) ∧ (u3.2.1 4) ≤ 600); first | exact hq3_4 | omega), (by show (0 ≤ n ∧ n ≤ fed ∧ 0 = 0); omega), hq3_7⟩, at9 ht hP hD [1, 2, 8, 4, 0, 5, 6, 7] (by decide +kernel) rfl⟩, hS.F ht⟩) hS.2.2 dX11_law_58
  · refine lv_iconst (v := iI (-1)) hx hb dX11_law_13 (by decide) ?_
    refine W.widen (k := 2) (n := 9) (Nat.le_of_ble_eq_true rfl) (Nat.le_of_ble_eq_true rfl) ?_
    refine vx_ret ?_
    exact W.iret (v := iI (-1)) hx hb hr (fun t ht hW => ⟨⟨iI (-1), ((fun k => ([] : List Nat).getD k 0), (fun k => ([(-1), 0, n, 0, 0, 0, (-1), nw, size] : List Int).getD k 0), (fun k => ([st, sf] : List (Nat → Int32)).getD k (fun _ => 0))), rfl, ⟨rfl, (by show ((-2147483648) ≤ (-1) ∧ (-1) ≤ 2147483647); show ((-2147483648) : Int) ≤ (-1) ∧ ((-1) : Int) ≤ 2147483647; decide), (by show (0 ≤ 0 ∧ 0 ≤ 600); show (0 : Int) ≤ 0 ∧ (0 : Int) ≤ 600; decide), (by show (0 ≤ n ∧ n ≤ 600); omega), (by show (0 ≤ 0 ∧ 0 ≤ 600); show (0 : Int) ≤ 0 ∧ (0 : Int) ≤ 600; decide), (by show (0 ≤ 0 ∧ 0 ≤ 600); show (0 : Int) ≤ 0 ∧ (0 : Int) ≤ 600; decide), (by show (0 ≤ 0 ∧ 0 ≤ 4); show (0 : Int) ≤ 0 ∧ (0 : Int) ≤ 4; decide), (by show ((-1) ≤ (-1) ∧ (-1) ≤ 600); show ((-1) : Int) ≤ (-1) ∧ ((-1) : Int) ≤ 600; decide), (by show (0 ≤ nw ∧ nw ≤ 4); first | exact hr_nw | omega), (by show (0 ≤ size ∧ size ≤ 600); first | exact hr_size | omega), (by show (0 ≤ n ∧ n ≤ fed ∧ 0 = 0); omega), hst⟩, at9 ht hP hD [5, 6, 7, 0, 1, 2, 3, 4] (by decide +kernel) rfl⟩, hS.F ht⟩) hS.2.2 dX11_law_14
def vs_k_fault : List Cond := .code yX11_fault cX11_fault 1 (some .int) :: (([.fieldLink RX11 10 "KerbSplash" "tape" "LKerbSplash$Tape;"] : List Cond) ++ ((wsX110) ++ ((wsX80) ++ ([]))))
set_option maxHeartbeats 4000000 in
set_option maxRecDepth 100000 in
theorem k_fault (l : Launch) (hl : l.stackTraces = false) (D : va_G) (cy : Nat → ClassId) (sa : Nat → Nat) (kk ta kr kl sA dA pa ki kp wa or_ rq : Nat) (nr nw im : Int) (tb : Nat) (fed len at_ we fa fp : Int) (sz : Nat) (hr_nr : 0 ≤ nr ∧ nr ≤ 4) (hr_nw : 0 ≤ nw ∧ nw ≤ 4) (hr_im : 0 ≤ im ∧ im ≤ 3) (hr_fed : 0 ≤ fed ∧ fed ≤ 600) (hr_len : 0 ≤ len ∧ len ≤ 600) (hr_at_ : 0 ≤ at_ ∧ at_ ≤ 600) (hr_we : 0 ≤ we ∧ we ≤ 600) (hr_fa : 0 ≤ fa ∧ fa ≤ 4) (hr_fp : (-1) ≤ fp ∧ fp ≤ 600) : mI9 l yX11_fault vs_k_fault ({ frames := 0, cells := 0, slots := 0, locals := 0 }) D cy sa sz [vR kk] [zO kk 11 [vR ta, vR kr, vR kl, vI nr, vI nw, vR sA, vR dA, vR pa, vR ki, vR kp, vI im, vR wa, vR or_, vR rq], zO ta 8 [vR tb, vI fed, vI len, vI at_, vI we, vI fa, vI fp]] (fun (r : Int32) (u : SV) => r = iI (u.2.1 0) ∧ ((-1) ≤ u.2.1 0 ∧ u.2.1 0 ≤ 600)) (fun u : SV => [zO kk 11 [vR ta, vR kr, vR kl, vI nr, vI nw, vR sA, vR dA, vR pa, vR ki, vR kp, vI im, vR wa, vR or_, vR rq], zO ta 8 [vR tb, vI fed, vI len, vI at_, vI we, vI fa, vI fp]]) 0 0 := by
  refine Met.ofW (cc := cX11_fault) (maxL := 1) (ret := (some .int)) (by decide) rfl ?_
  intro p e s m args below meth c s₁ B hml hv
  obtain ⟨rfl, hsz, hP, hG, hD0, hT⟩ := hv
  have hx := B.exec
  have hb := B.bytes
  have hr := B.returns
  have hts := atoms_spec (ws := vs_k_fault) B.pre
  have hown : s.vm.findClass RX11 = some m.cls := findClass_of_methodNamed B.named
  have hlocks := B.notSynchronized
  subst hsz
  have hD := hD0.self (sz := s.heap.size)
  generalize hAe : va_A [zO kk 11 [vR ta, vR kr, vR kl, vI nr, vI nw, vR sA, vR dA, vR pa, vR ki, vR kp, vI im, vR wa, vR or_, vR rq], zO ta 8 [vR tb, vI fed, vI len, vI at_, vI we, vI fa, vI fp]] s.heap.size = A at hD hT ⊢
  have hA : ∀ q : Nat, s.heap.size ≤ q → A q := fun q h => by rw [← hAe]; exact Or.inr h
  have hS : va_S A s.heap s.heap [] := va_S.rf
  have hl0 := lv_entry ([vR kk]) (n := 1) (Nat.le_of_ble_eq_true rfl)
  rw [lg_entry_eq]
  generalize (lg_sl ([vR kk]) ++ List.replicate (1 - (lg_sl ([vR kk])).length) Slot.unset).toArray = ls at hl0 ⊢
  have hlv : lv_has ls 1 [(0, vR kk)] := hl0
  have lf10 := hts (.fieldLink RX11 10 "KerbSplash" "tape" "LKerbSplash$Tape;") (List.mem_of_getElem? (i := 1) rfl)
  have hi11 : ∀ w ∈ wsX110, w ∈ vs_k_fault := fun w h => List.mem_cons_of_mem _ (List.mem_append_right _ (List.mem_append_left _ h))
  have hi8 : ∀ w ∈ wsX80, w ∈ vs_k_fault := fun w h => List.mem_cons_of_mem _ (List.mem_append_right _ (List.mem_append_right _ (List.mem_append_left _ h)))
  refine lv_aload_n hx hb dX11_fault_0 rfl (lv_at hlv 0 rfl) ?_
  refine va_get (D := D) (ci := 11) (v := vR ta) (C := RX11) (T := TX11) (N := 14) hx hb hts hi11 hown hG.1 hP 0 rfl rfl 0 (by decide) lf10 (fun _ h9 => h9) rfl dX11_fault_1 ?_
  refine va_getN (D := D) (ci := 8) (v := vI fp) (C := RX8) (T := TX8) (N := 7) hx hb hts hi8 hown hG.1 hP 1 rfl rfl 6 (by decide) (va_Nw.use rfl (nF_K_127 hG.2.1)) (fun _ h9 => h9) rfl dX11_fault_4 ?_
  refine W.widen (k := 0) (n := 0) (Nat.le_of_ble_eq_true rfl) (Nat.le_of_ble_eq_true rfl) ?_
  exact W.iret (v := iI fp) hx hb hr (fun t ht hW => ⟨⟨iI fp, ((fun k => ([] : List Nat).getD k 0), (fun k => ([fp] : List Int).getD k 0), (fun k => ([] : List (Nat → Int32)).getD k (fun _ => 0))), rfl, ⟨rfl, (by show ((-1) ≤ fp ∧ fp ≤ 600); first | exact hr_fp | omega)⟩, at9 ht hP hD [0, 1] (by decide +kernel) rfl⟩, hS.F ht⟩) hS.2.2 dX11_fault_7
end
