theorem dX4_addCar_0 : decode cX4_addCar 0 = .ok (.aload_n 0, 1) := by decide +kernel
theorem dX4_addCar_1 : decode cX4_addCar 1 = .ok (.getfield 21, 3) := by decide +kernel
theorem dX4_addCar_10 : decode cX4_addCar 10 = .ok (.ireturn, 1) := by decide +kernel
theorem dX4_addCar_11 : decode cX4_addCar 11 = .ok (.iconst 5, 1) := by decide +kernel
theorem dX4_addCar_12 : decode cX4_addCar 12 = .ok (.aload_n 0, 1) := by decide +kernel
theorem dX4_addCar_13 : decode cX4_addCar 13 = .ok (.getfield 21, 3) := by decide +kernel
theorem dX4_addCar_16 : decode cX4_addCar 16 = .ok (.imul, 1) := by decide +kernel
theorem dX4_addCar_17 : decode cX4_addCar 17 = .ok (.istore 6, 2) := by decide +kernel
theorem dX4_addCar_19 : decode cX4_addCar 19 = .ok (.aload_n 0, 1) := by decide +kernel
theorem dX4_addCar_20 : decode cX4_addCar 20 = .ok (.getfield 11, 3) := by decide +kernel
theorem dX4_addCar_23 : decode cX4_addCar 23 = .ok (.iload 6, 2) := by decide +kernel
theorem dX4_addCar_25 : decode cX4_addCar 25 = .ok (.iload_n 1, 1) := by decide +kernel
theorem dX4_addCar_26 : decode cX4_addCar 26 = .ok (.iastore, 1) := by decide +kernel
theorem dX4_addCar_27 : decode cX4_addCar 27 = .ok (.aload_n 0, 1) := by decide +kernel
theorem dX4_addCar_28 : decode cX4_addCar 28 = .ok (.getfield 11, 3) := by decide +kernel
theorem dX4_addCar_31 : decode cX4_addCar 31 = .ok (.iload 6, 2) := by decide +kernel
theorem dX4_addCar_33 : decode cX4_addCar 33 = .ok (.iconst 1, 1) := by decide +kernel
theorem dX4_addCar_34 : decode cX4_addCar 34 = .ok (.iadd, 1) := by decide +kernel
theorem dX4_addCar_35 : decode cX4_addCar 35 = .ok (.iload_n 2, 1) := by decide +kernel
theorem dX4_addCar_36 : decode cX4_addCar 36 = .ok (.iastore, 1) := by decide +kernel
theorem dX4_addCar_37 : decode cX4_addCar 37 = .ok (.aload_n 0, 1) := by decide +kernel
theorem dX4_addCar_38 : decode cX4_addCar 38 = .ok (.getfield 11, 3) := by decide +kernel
theorem dX4_addCar_4 : decode cX4_addCar 4 = .ok (.bipush 20, 2) := by decide +kernel
theorem dX4_addCar_41 : decode cX4_addCar 41 = .ok (.iload 6, 2) := by decide +kernel
theorem dX4_addCar_43 : decode cX4_addCar 43 = .ok (.iconst 2, 1) := by decide +kernel
theorem dX4_addCar_44 : decode cX4_addCar 44 = .ok (.iadd, 1) := by decide +kernel
theorem dX4_addCar_45 : decode cX4_addCar 45 = .ok (.iload_n 3, 1) := by decide +kernel
theorem dX4_addCar_46 : decode cX4_addCar 46 = .ok (.iastore, 1) := by decide +kernel
theorem dX4_addCar_47 : decode cX4_addCar 47 = .ok (.aload_n 0, 1) := by decide +kernel
theorem dX4_addCar_48 : decode cX4_addCar 48 = .ok (.getfield 11, 3) := by decide +kernel
theorem dX4_addCar_51 : decode cX4_addCar 51 = .ok (.iload 6, 2) := by decide +kernel
theorem dX4_addCar_53 : decode cX4_addCar 53 = .ok (.iconst 3, 1) := by decide +kernel
theorem dX4_addCar_54 : decode cX4_addCar 54 = .ok (.iadd, 1) := by decide +kernel
theorem dX4_addCar_55 : decode cX4_addCar 55 = .ok (.iload 4, 2) := by decide +kernel
theorem dX4_addCar_57 : decode cX4_addCar 57 = .ok (.iastore, 1) := by decide +kernel
theorem dX4_addCar_58 : decode cX4_addCar 58 = .ok (.aload_n 0, 1) := by decide +kernel
theorem dX4_addCar_59 : decode cX4_addCar 59 = .ok (.getfield 11, 3) := by decide +kernel
theorem dX4_addCar_6 : decode cX4_addCar 6 = .ok (.if_icmp .ne 5, 3) := by decide +kernel
theorem dX4_addCar_62 : decode cX4_addCar 62 = .ok (.iload 6, 2) := by decide +kernel
theorem dX4_addCar_64 : decode cX4_addCar 64 = .ok (.iconst 4, 1) := by decide +kernel
theorem dX4_addCar_65 : decode cX4_addCar 65 = .ok (.iadd, 1) := by decide +kernel
theorem dX4_addCar_66 : decode cX4_addCar 66 = .ok (.iload 5, 2) := by decide +kernel
theorem dX4_addCar_68 : decode cX4_addCar 68 = .ok (.iastore, 1) := by decide +kernel
theorem dX4_addCar_69 : decode cX4_addCar 69 = .ok (.aload_n 0, 1) := by decide +kernel
theorem dX4_addCar_70 : decode cX4_addCar 70 = .ok (.dup, 1) := by decide +kernel
theorem dX4_addCar_71 : decode cX4_addCar 71 = .ok (.getfield 21, 3) := by decide +kernel
theorem dX4_addCar_74 : decode cX4_addCar 74 = .ok (.iconst 1, 1) := by decide +kernel
theorem dX4_addCar_75 : decode cX4_addCar 75 = .ok (.iadd, 1) := by decide +kernel
theorem dX4_addCar_76 : decode cX4_addCar 76 = .ok (.putfield 21, 3) := by decide +kernel
theorem dX4_addCar_79 : decode cX4_addCar 79 = .ok (.aload_n 0, 1) := by decide +kernel
theorem dX4_addCar_80 : decode cX4_addCar 80 = .ok (.getfield 21, 3) := by decide +kernel
theorem dX4_addCar_83 : decode cX4_addCar 83 = .ok (.ireturn, 1) := by decide +kernel
theorem dX4_addCar_9 : decode cX4_addCar 9 = .ok (.iconst (-1), 1) := by decide +kernel
theorem dX4_addDip_0 : decode cX4_addDip 0 = .ok (.aload_n 0, 1) := by decide +kernel
theorem dX4_addDip_1 : decode cX4_addDip 1 = .ok (.getfield 25, 3) := by decide +kernel
theorem dX4_addDip_10 : decode cX4_addDip 10 = .ok (.ireturn, 1) := by decide +kernel
theorem dX4_addDip_11 : decode cX4_addDip 11 = .ok (.iconst 3, 1) := by decide +kernel
theorem dX4_addDip_12 : decode cX4_addDip 12 = .ok (.aload_n 0, 1) := by decide +kernel
theorem dX4_addDip_13 : decode cX4_addDip 13 = .ok (.getfield 25, 3) := by decide +kernel
theorem dX4_addDip_16 : decode cX4_addDip 16 = .ok (.imul, 1) := by decide +kernel
theorem dX4_addDip_17 : decode cX4_addDip 17 = .ok (.istore 4, 2) := by decide +kernel
theorem dX4_addDip_19 : decode cX4_addDip 19 = .ok (.aload_n 0, 1) := by decide +kernel
theorem dX4_addDip_20 : decode cX4_addDip 20 = .ok (.getfield 15, 3) := by decide +kernel
theorem dX4_addDip_23 : decode cX4_addDip 23 = .ok (.iload 4, 2) := by decide +kernel
theorem dX4_addDip_25 : decode cX4_addDip 25 = .ok (.iload_n 1, 1) := by decide +kernel
theorem dX4_addDip_26 : decode cX4_addDip 26 = .ok (.iastore, 1) := by decide +kernel
theorem dX4_addDip_27 : decode cX4_addDip 27 = .ok (.aload_n 0, 1) := by decide +kernel
theorem dX4_addDip_28 : decode cX4_addDip 28 = .ok (.getfield 15, 3) := by decide +kernel
theorem dX4_addDip_31 : decode cX4_addDip 31 = .ok (.iload 4, 2) := by decide +kernel
theorem dX4_addDip_33 : decode cX4_addDip 33 = .ok (.iconst 1, 1) := by decide +kernel
theorem dX4_addDip_34 : decode cX4_addDip 34 = .ok (.iadd, 1) := by decide +kernel
theorem dX4_addDip_35 : decode cX4_addDip 35 = .ok (.iload_n 2, 1) := by decide +kernel
theorem dX4_addDip_36 : decode cX4_addDip 36 = .ok (.iastore, 1) := by decide +kernel
theorem dX4_addDip_37 : decode cX4_addDip 37 = .ok (.aload_n 0, 1) := by decide +kernel
theorem dX4_addDip_38 : decode cX4_addDip 38 = .ok (.getfield 15, 3) := by decide +kernel
theorem dX4_addDip_4 : decode cX4_addDip 4 = .ok (.bipush 9, 2) := by decide +kernel
theorem dX4_addDip_41 : decode cX4_addDip 41 = .ok (.iload 4, 2) := by decide +kernel
theorem dX4_addDip_43 : decode cX4_addDip 43 = .ok (.iconst 2, 1) := by decide +kernel
theorem dX4_addDip_44 : decode cX4_addDip 44 = .ok (.iadd, 1) := by decide +kernel
theorem dX4_addDip_45 : decode cX4_addDip 45 = .ok (.iload_n 3, 1) := by decide +kernel
theorem dX4_addDip_46 : decode cX4_addDip 46 = .ok (.iastore, 1) := by decide +kernel
theorem dX4_addDip_47 : decode cX4_addDip 47 = .ok (.aload_n 0, 1) := by decide +kernel
theorem dX4_addDip_48 : decode cX4_addDip 48 = .ok (.dup, 1) := by decide +kernel
theorem dX4_addDip_49 : decode cX4_addDip 49 = .ok (.getfield 25, 3) := by decide +kernel
theorem dX4_addDip_52 : decode cX4_addDip 52 = .ok (.iconst 1, 1) := by decide +kernel
theorem dX4_addDip_53 : decode cX4_addDip 53 = .ok (.iadd, 1) := by decide +kernel
theorem dX4_addDip_54 : decode cX4_addDip 54 = .ok (.putfield 25, 3) := by decide +kernel
theorem dX4_addDip_57 : decode cX4_addDip 57 = .ok (.aload_n 0, 1) := by decide +kernel
theorem dX4_addDip_58 : decode cX4_addDip 58 = .ok (.getfield 25, 3) := by decide +kernel
theorem dX4_addDip_6 : decode cX4_addDip 6 = .ok (.if_icmp .ne 5, 3) := by decide +kernel
theorem dX4_addDip_61 : decode cX4_addDip 61 = .ok (.ireturn, 1) := by decide +kernel
theorem dX4_addDip_9 : decode cX4_addDip 9 = .ok (.iconst (-1), 1) := by decide +kernel
theorem dX5_add_0 : decode cX5_add 0 = .ok (.iconst 0, 1) := by decide +kernel
theorem dX5_add_1 : decode cX5_add 1 = .ok (.istore_n 3, 1) := by decide +kernel
theorem dX5_add_11 : decode cX5_add 11 = .ok (.aload_n 0, 1) := by decide +kernel
theorem dX5_add_12 : decode cX5_add 12 = .ok (.getfield 9, 3) := by decide +kernel
theorem dX5_add_15 : decode cX5_add 15 = .ok (.arraylength, 1) := by decide +kernel
theorem dX5_add_16 : decode cX5_add 16 = .ok (.if_icmp .ge 29, 3) := by decide +kernel
theorem dX5_add_19 : decode cX5_add 19 = .ok (.aload_n 0, 1) := by decide +kernel
theorem dX5_add_2 : decode cX5_add 2 = .ok (.iload_n 3, 1) := by decide +kernel
theorem dX5_add_20 : decode cX5_add 20 = .ok (.getfield 9, 3) := by decide +kernel
theorem dX5_add_23 : decode cX5_add 23 = .ok (.aload_n 0, 1) := by decide +kernel
theorem dX5_add_24 : decode cX5_add 24 = .ok (.getfield 13, 3) := by decide +kernel
theorem dX5_add_27 : decode cX5_add 27 = .ok (.iload_n 1, 1) := by decide +kernel
theorem dX5_add_28 : decode cX5_add 28 = .ok (.iastore, 1) := by decide +kernel
theorem dX5_add_29 : decode cX5_add 29 = .ok (.aload_n 0, 1) := by decide +kernel
theorem dX5_add_3 : decode cX5_add 3 = .ok (.iload_n 2, 1) := by decide +kernel
theorem dX5_add_30 : decode cX5_add 30 = .ok (.dup, 1) := by decide +kernel
theorem dX5_add_31 : decode cX5_add 31 = .ok (.getfield 13, 3) := by decide +kernel
theorem dX5_add_34 : decode cX5_add 34 = .ok (.iconst 1, 1) := by decide +kernel
theorem dX5_add_35 : decode cX5_add 35 = .ok (.iadd, 1) := by decide +kernel
theorem dX5_add_36 : decode cX5_add 36 = .ok (.putfield 13, 3) := by decide +kernel
theorem dX5_add_39 : decode cX5_add 39 = .ok (.iinc 3 1, 3) := by decide +kernel
theorem dX5_add_4 : decode cX5_add 4 = .ok (.if_icmp .ge 41, 3) := by decide +kernel
theorem dX5_add_42 : decode cX5_add 42 = .ok (.goto (-40), 3) := by decide +kernel
theorem dX5_add_45 : decode cX5_add 45 = .ok (.return_, 1) := by decide +kernel
theorem dX5_add_7 : decode cX5_add 7 = .ok (.aload_n 0, 1) := by decide +kernel
theorem dX5_add_8 : decode cX5_add 8 = .ok (.getfield 13, 3) := by decide +kernel
def vs_s_radd : List Cond := .code yX5_add cX5_add 4 none :: (([.fieldLink RX5 13 "KerbSplash$Rain" "minutes" "I", .fieldLink RX5 9 "KerbSplash$Rain" "falls" "[I"] : List Cond) ++ ((wsX50) ++ ([])))
theorem gd_s_radd : vs_s_radd.all goodWord = true := gd_C (by decide +kernel) (gd_A (by decide +kernel) (gd_A (by decide +kernel) rfl))
set_option maxHeartbeats 4000000 in
set_option maxRecDepth 100000 in
theorem s_radd (l : Launch) (hl : l.stackTraces = false) (D : va_G) (cy : Nat → ClassId) (sa : Nat → Nat) (ra rf : Nat) (mi f t : Int) (ff : Nat → Int32) (sz : Nat) (hr_mi : 0 ≤ mi ∧ mi ≤ 240) (hr_f : 0 ≤ f ∧ f ≤ 20) (hr_t : (-2147483648) ≤ t ∧ t ≤ 2147483647) (hff : inv_ 240 0 20 ff) : Met l yX5_add vs_s_radd ({ frames := 0, cells := 0, slots := 0, locals := 0 }) (va_Pc [vR ra, vI f, vI t] (pcW D cy sa sz [zO ra 5 [vR rf, vI mi], zI rf (cy 0) 240 ff])) (va_Qv (fun u : SV => (0 ≤ u.2.1 0 ∧ u.2.1 0 ≤ 240) ∧ inv_ 240 0 20 (u.2.2 0)) (fun u t => atW D (va_A [zO ra 5 [vR rf, vI mi], zI rf (cy 0) 240 ff] sz) [zO ra 5 [vR rf, vI (u.2.1 0)], zI rf (cy 0) 240 (u.2.2 0)] t) (va_A [zO ra 5 [vR rf, vI mi], zI rf (cy 0) 240 ff] sz)) 0 0 (va_A [zO ra 5 [vR rf, vI mi], zI rf (cy 0) 240 ff] sz) := by
  refine Met.ofW (cc := cX5_add) (maxL := 4) (ret := none) (by decide) rfl ?_
  intro p e s m args below meth c s₁ B hml hv
  obtain ⟨rfl, hsz, hP, hG, hD0, hT⟩ := hv
  have hx := B.exec
  have hb := B.bytes
  have hr := B.returns
  have hts := atoms_spec (ws := vs_s_radd) B.pre
  have hown : s.vm.findClass RX5 = some m.cls := findClass_of_methodNamed B.named
  have hlocks := B.notSynchronized
  subst hsz
  have hD := hD0.self (sz := s.heap.size)
  generalize hAe : va_A [zO ra 5 [vR rf, vI mi], zI rf (cy 0) 240 ff] s.heap.size = A at hD hT ⊢
  have hA : ∀ q : Nat, s.heap.size ≤ q → A q := fun q h => by rw [← hAe]; exact Or.inr h
  have hS : va_S A s.heap s.heap [] := va_S.rf
  have hl0 := lv_entry ([vR ra, vI f, vI t]) (n := 4) (Nat.le_of_ble_eq_true rfl)
  rw [lg_entry_eq]
  generalize (lg_sl ([vR ra, vI f, vI t]) ++ List.replicate (4 - (lg_sl ([vR ra, vI f, vI t])).length) Slot.unset).toArray = ls at hl0 ⊢
  have hlv : lv_has ls 4 [(0, vR ra), (1, vI f), (2, vI t)] := hl0
  have lf13 := hts (.fieldLink RX5 13 "KerbSplash$Rain" "minutes" "I") (List.mem_of_getElem? (i := 1) rfl)
  have hi5 : ∀ w ∈ wsX50, w ∈ vs_s_radd := fun w h => List.mem_cons_of_mem _ (List.mem_append_right _ (List.mem_append_left _ h))
  have lf9 := hts (.fieldLink RX5 9 "KerbSplash$Rain" "falls" "[I") (List.mem_of_getElem? (i := 2) rfl)
  refine lv_iconst (v := iI 0) hx hb dX5_add_0 (by decide) ?_
  refine lv_istore_n (lv' := [(3, vI 0), (0, vR ra), (1, vI f), (2, vI t)]) hx hb dX5_add_1 rfl hlv (by decide) rfl (fun ls hlv => ?_)
  refine (?_ : ∀ (fu : Nat) (x : Int) (y : Int) (fg : Nat → Int32) (H : Heap) (locs : List Loc) (ls : Array Slot), 240 - y < (fu : Int) → (0 ≤ x ∧ x ≤ 240) → (0 ≤ y ∧ y ≤ 240) → (x ≤ y) → inv_ 240 0 20 fg → va_P D vwCl [zO ra 5 [vR rf, vI y], zI rf (cy 0) 240 fg] H → va_D A [zO ra 5 [vR rf, vI y], zI rf (cy 0) 240 fg] → va_S A s.heap H locs → lv_has ls 4 [(3, vI x), (0, vR ra), (1, vI f), (2, vI t)] → W p l e _ s m _ below meth c H locs _ _ _ (F0 m 2 ls [])) (((240 - mi) + 1 : Int)).toNat 0 mi ff _ _ _ (by omega) (by show (0 : Int) ≤ 0 ∧ (0 : Int) ≤ 240; decide) (by first | exact hr_mi | omega) (by omega) hff hP hD hS hlv
  clear hP hD hS hlv
  intro fu
  induction fu with
  | zero => intro x y fg H locs ls hm2 hl2_0 hl2_1 hl2_2 hifg hP hD hS hlv; omega
  | succ fu ih2 =>
    intro x y fg H locs ls hm2 hl2_0 hl2_1 hl2_2 hifg hP hD hS hlv
    refine lv_iload_n hx hb dX5_add_2 rfl (lv_at hlv 0 rfl) ?_
    refine lv_iload_n hx hb dX5_add_3 rfl (lv_at hlv 3 rfl) ?_
    refine ir_ge (tgt := 45) hx hb dX5_add_4 (by decide) (by first | exact rgw hl2_0 (by decide) (by decide) | omega) (by first | exact hr_t | omega) (fun c_1 => ?_) (fun c_1 => ?_)
    · refine W.widen (k := 0) (n := 0) (Nat.le_of_ble_eq_true rfl) (Nat.le_of_ble_eq_true rfl) ?_
      exact W.vret hx hb hr (fun t ht hW => ⟨⟨((fun k => ([] : List Nat).getD k 0), (fun k => ([y] : List Int).getD k 0), (fun k => ([fg] : List (Nat → Int32)).getD k (fun _ => 0))), rfl, ⟨(by show (0 ≤ y ∧ y ≤ 240); first | exact hl2_1 | omega), hifg⟩, by rw [ht]; exact hP.sub [0, 1] rfl, hD.sub [0, 1] (by decide) rfl⟩, hS.F ht⟩) hS.2.2 dX5_add_45
    · refine lv_aload_n hx hb dX5_add_7 rfl (lv_at hlv 1 rfl) ?_
      refine va_get (D := D) (ci := 5) (v := vI y) (C := RX5) (T := TX5) (N := 2) hx hb hts hi5 hown hG.1 hP 0 rfl rfl 1 (by decide) lf13 (fun _ h9 => h9) rfl dX5_add_8 ?_
      refine lv_aload_n hx hb dX5_add_11 rfl (lv_at hlv 1 rfl) ?_
      refine va_get (D := D) (ci := 5) (v := vR rf) (C := RX5) (T := TX5) (N := 2) hx hb hts hi5 hown hG.1 hP 0 rfl rfl 0 (by decide) lf9 (fun _ h9 => h9) rfl dX5_add_12 ?_
      refine va_alen (v := iI 240) hx hb hG.1 hP 1 0 rfl rfl (iI_nI _) dX5_add_15 ?_
      refine ir_ge (tgt := 45) hx hb dX5_add_16 (by decide) (by first | exact rgw hl2_1 (by decide) (by decide) | omega) (by show ((-2147483648) : Int) ≤ 240 ∧ (240 : Int) ≤ 2147483647; decide) (fun c_2 => ?_) (fun c_2 => ?_)
      · refine W.widen (k := 0) (n := 0) (Nat.le_of_ble_eq_true rfl) (Nat.le_of_ble_eq_true rfl) ?_
        exact W.vret hx hb hr (fun t ht hW => ⟨⟨((fun k => ([] : List Nat).getD k 0), (fun k => ([y] : List Int).getD k 0), (fun k => ([fg] : List (Nat → Int32)).getD k (fun _ => 0))), rfl, ⟨(by show (0 ≤ y ∧ y ≤ 240); first | exact hl2_1 | omega), hifg⟩, by rw [ht]; exact hP.sub [0, 1] rfl, hD.sub [0, 1] (by decide) rfl⟩, hS.F ht⟩) hS.2.2 dX5_add_45
      · refine lv_aload_n hx hb dX5_add_19 rfl (lv_at hlv 1 rfl) ?_
        refine va_get (D := D) (ci := 5) (v := vR rf) (C := RX5) (T := TX5) (N := 2) hx hb hts hi5 hown hG.1 hP 0 rfl rfl 0 (by decide) lf9 (fun _ h9 => h9) rfl dX5_add_20 ?_
        refine lv_aload_n hx hb dX5_add_23 rfl (lv_at hlv 1 rfl) ?_
        refine va_get (D := D) (ci := 5) (v := vI y) (C := RX5) (T := TX5) (N := 2) hx hb hts hi5 hown hG.1 hP 0 rfl rfl 1 (by decide) lf13 (fun _ h9 => h9) rfl dX5_add_24 ?_
        refine lv_iload_n hx hb dX5_add_27 rfl (lv_at hlv 2 rfl) ?_
        refine va_iast hx hb hG.1 hP hD hS 1 0 rfl rfl (iI_in (by omega) (by decide)) dX5_add_28 (fun H locs hP hD hS => ?_)
        have ⟨f_3, hf_3, hP, hD⟩ : ∃ f_3 : Nat → Int32, inv_ 240 0 20 f_3 ∧ va_P D vwCl [zO ra 5 [vR rf, vI y], zI rf (cy 0) 240 f_3] H ∧ va_D A [zO ra 5 [vR rf, vI y], zI rf (cy 0) 240 f_3] := ⟨_, inv_wr hifg (by omega), hP, hD⟩
        refine lv_aload_n hx hb dX5_add_29 rfl (lv_at hlv 1 rfl) ?_
        refine lv_dup hx hb dX5_add_30 rfl ?_
        refine va_get (D := D) (ci := 5) (v := vI y) (C := RX5) (T := TX5) (N := 2) hx hb hts hi5 hown hG.1 hP 0 rfl rfl 1 (by decide) lf13 (fun _ h9 => h9) rfl dX5_add_31 ?_
        refine lv_iconst (v := iI 1) hx hb dX5_add_34 (by decide) ?_
        refine lv_iadd hx hb dX5_add_35 ?_
        refine lt_e (e0 := y + 1) (Int32.ofInt_add _ _).symm (fun z_4 hz_4 => ?_)
        refine va_put (D := D) (ci := 5) (v := vI z_4) (ty := .int) (C := RX5) (T := TX5) (N := 2) hx hb hts hi5 tyX5 tyX5_ok nmX5 hown hG.1 hP hD hS 0 rfl rfl 1 (by decide) lf13 (fun _ h9 => h9) rfl (by decide +kernel) rfl rfl (Nat.le_of_ble_eq_true rfl) dX5_add_36 (fun H locs hP hD hS => ?_)
        have hP : va_P D vwCl [zO ra 5 [vR rf, vI z_4], zI rf (cy 0) 240 f_3] H := hP
        have hD : va_D A [zO ra 5 [vR rf, vI z_4], zI rf (cy 0) 240 f_3] := hD
        obtain ⟨z_5, hz_5⟩ : ∃ z : Int, z = x + 1 := ⟨_, rfl⟩
        refine lv_iinc (v := iI z_5) (lv' := [(3, vI z_5), (0, vR ra), (1, vI f), (2, vI t)]) hx hb dX5_add_39 hlv (k := 0) rfl (by rw [hz_5]; exact (Int32.ofInt_add _ _).symm) (by decide) rfl (fun ls hlv => ?_)
        refine lv_goto (tgt := 2) hx hb dX5_add_42 (by decide) ?_
        exact ih2 z_5 z_4 f_3 H locs ls (by omega) (by omega) (by omega) (by omega) hf_3 (hP.sub [0, 1] rfl) (hD.sub [0, 1] (by decide) rfl) hS (lv_sub hlv [0, 1, 2, 3] rfl)
