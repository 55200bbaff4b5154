
def vs_e_add : List Cond := .code yX8_add cX8_add 3 none :: (([.fieldLink RX8 19 "KerbSplash$Tape" "fed" "I", .fieldLink RX8 11 "KerbSplash$Tape" "bytes" "[B"] : List Cond) ++ ((wsX80) ++ ([])))
theorem gd_e_add : vs_e_add.all goodWord = true := gd_C (by decide +kernel) (gd_A (by decide +kernel) (gd_A (by decide +kernel) rfl))
set_option maxHeartbeats 4000000 in
set_option maxRecDepth 100000 in
theorem e_add (l : Launch) (hl : l.stackTraces = false) (D : va_G) (cy : Nat → ClassId) (sa : Nat → Nat) (ta tb : Nat) (fed len at_ we fa fp : Int) (bf : Nat → Int32) (n : Int) (sz : Nat) (hr_fed : 0 ≤ fed ∧ fed ≤ 600) (hr_len : 0 ≤ len ∧ len ≤ 600) (hr_at_ : 0 ≤ at_ ∧ at_ ≤ 600) (hr_we : 0 ≤ we ∧ we ≤ 600) (hr_fa : 0 ≤ fa ∧ fa ≤ 4) (hr_fp : (-1) ≤ fp ∧ fp ≤ 600) (hr_n : (-2147483648) ≤ n ∧ n ≤ 2147483647) (hp0 : fed ≤ 596) (hn_bb : BR bf) : Met l yX8_add vs_e_add ({ frames := 0, cells := 0, slots := 0, locals := 0 }) (va_Pc [vR ta, vI n] (pcW D cy sa sz [zO ta 8 [vR tb, vI fed, vI len, vI at_, vI we, vI fa, vI fp], zI tb (cy 1) 600 bf])) (va_Qv (fun u : SV => (0 ≤ u.2.1 0 ∧ u.2.1 0 ≤ 600) ∧ (u.2.1 0 = fed + 4) ∧ (AdC bf (u.2.2 0) fed n)) (fun u t => atW D (va_A [zO ta 8 [vR tb, vI fed, vI len, vI at_, vI we, vI fa, vI fp], zI tb (cy 1) 600 bf] sz) [zO ta 8 [vR tb, vI (u.2.1 0), vI len, vI at_, vI we, vI fa, vI fp], zI tb (cy 1) 600 (u.2.2 0)] t) (va_A [zO ta 8 [vR tb, vI fed, vI len, vI at_, vI we, vI fa, vI fp], zI tb (cy 1) 600 bf] sz)) 0 0 (va_A [zO ta 8 [vR tb, vI fed, vI len, vI at_, vI we, vI fa, vI fp], zI tb (cy 1) 600 bf] sz) := by
  refine Met.ofW (cc := cX8_add) (maxL := 3) (ret := none) (by decide) rfl ?_
  intro p e s m args below meth c s₁ B hml hv
  obtain ⟨rfl, hsz, hP, hG, hD0, hT⟩ := hv
  have hx := B.exec
  have hb := B.bytes
  have hr := B.returns
  have hts := atoms_spec (ws := vs_e_add) B.pre
  have hown : s.vm.findClass RX8 = some m.cls := findClass_of_methodNamed B.named
  have hlocks := B.notSynchronized
  subst hsz
  have hD := hD0.self (sz := s.heap.size)
  generalize hAe : va_A [zO ta 8 [vR tb, vI fed, vI len, vI at_, vI we, vI fa, vI fp], zI tb (cy 1) 600 bf] s.heap.size = A at hD hT ⊢
  have hA : ∀ q : Nat, s.heap.size ≤ q → A q := fun q h => by rw [← hAe]; exact Or.inr h
  have hS : va_S A s.heap s.heap [] := va_S.rf
  have hl0 := lv_entry ([vR ta, vI n]) (n := 3) (Nat.le_of_ble_eq_true rfl)
  rw [lg_entry_eq]
  generalize (lg_sl ([vR ta, vI n]) ++ List.replicate (3 - (lg_sl ([vR ta, vI n])).length) Slot.unset).toArray = ls at hl0 ⊢
  have hlv : lv_has ls 3 [(0, vR ta), (1, vI n)] := hl0
  have lf19 := hts (.fieldLink RX8 19 "KerbSplash$Tape" "fed" "I") (List.mem_of_getElem? (i := 1) rfl)
  have hi8 : ∀ w ∈ wsX80, w ∈ vs_e_add := fun w h => List.mem_cons_of_mem _ (List.mem_append_right _ (List.mem_append_left _ h))
  have lf11 := hts (.fieldLink RX8 11 "KerbSplash$Tape" "bytes" "[B") (List.mem_of_getElem? (i := 2) rfl)
  refine lv_bipush (v := iI 24) hx hb dX8_add_0 (by decide) ?_
  refine lv_istore_n (lv' := [(2, vI 24), (0, vR ta), (1, vI n)]) hx hb dX8_add_2 rfl hlv (by decide) rfl (fun ls hlv => ?_)
  refine lv_iload_n hx hb dX8_add_3 rfl (lv_at hlv 0 rfl) ?_
  refine iz_lt (tgt := 46) hx hb dX8_add_4 (by decide) (by show ((-2147483648) : Int) ≤ 24 ∧ (24 : Int) ≤ 2147483647; decide) (fun c_1 => by exfalso; omega) (fun c_1 => ?_)
  refine lv_aload_n hx hb dX8_add_7 rfl (lv_at hlv 1 rfl) ?_
  refine va_get (D := D) (ci := 8) (v := vI fed) (C := RX8) (T := TX8) (N := 7) hx hb hts hi8 hown hG.1 hP 0 rfl rfl 1 (by decide) lf19 (fun _ h9 => h9) rfl dX8_add_8 ?_
  refine lv_sipush (v := iI 600) hx hb dX8_add_11 (by decide) ?_
  refine ir_ge (tgt := 46) hx hb dX8_add_14 (by decide) (by first | exact rgw hr_fed (by decide) (by decide) | omega) (by show ((-2147483648) : Int) ≤ 600 ∧ (600 : Int) ≤ 2147483647; decide) (fun c_2 => ?_) (fun c_2 => ?_)
  · refine W.widen (k := 0) (n := 0) (Nat.le_of_ble_eq_true rfl) (Nat.le_of_ble_eq_true rfl) ?_
    exact W.vret hx hb hr (fun t ht hW => ⟨⟨((fun k => ([] : List Nat).getD k 0), (fun k => ([fed] : List Int).getD k 0), (fun k => ([bf] : List (Nat → Int32)).getD k (fun _ => 0))), rfl, ⟨(by show (0 ≤ fed ∧ fed ≤ 600); first | exact hr_fed | omega), (by show (fed = fed + 4); omega), (by show (AdC bf (bf) fed n); exact (by exfalso; omega))⟩, by rw [ht]; exact hP.sub [0, 1] rfl, hD.sub [0, 1] (by decide) rfl⟩, hS.F ht⟩) hS.2.2 dX8_add_46
  · refine lv_aload_n hx hb dX8_add_17 rfl (lv_at hlv 1 rfl) ?_
    refine va_get (D := D) (ci := 8) (v := vR tb) (C := RX8) (T := TX8) (N := 7) hx hb hts hi8 hown hG.1 hP 0 rfl rfl 0 (by decide) lf11 (fun _ h9 => h9) rfl dX8_add_18 ?_
    refine lv_aload_n hx hb dX8_add_21 rfl (lv_at hlv 1 rfl) ?_
    refine va_get (D := D) (ci := 8) (v := vI fed) (C := RX8) (T := TX8) (N := 7) hx hb hts hi8 hown hG.1 hP 0 rfl rfl 1 (by decide) lf19 (fun _ h9 => h9) rfl dX8_add_22 ?_
    refine lv_iload_n hx hb dX8_add_25 rfl (lv_at hlv 2 rfl) ?_
    refine lv_iload_n hx hb dX8_add_26 rfl (lv_at hlv 0 rfl) ?_
    refine lv_ishr hx hb dX8_add_27 ?_
    refine lt_z (fun z_3 ez_3 lz_3 hz_3 => ?_)
    refine lv_i2b (v := (iI z_3).toInt8.toInt32) hx hb dX8_add_28 rfl ?_
    refine lt_z (fun z_4 ez_4 lz_4 hz_4 => ?_)
    refine va_bast hx hb hG.1 hP hD hS 1 1 rfl rfl (iI_in (by omega) (by decide)) dX8_add_29 (fun H locs hP hD hS => ?_)
    have ⟨f_5, hdf_5, hP, hD⟩ : ∃ f_5 : Nat → Int32, f_5 = upd bf (iI fed).toNatClampNeg (vp_nar .byte (iI z_4)) ∧ va_P D vwCl [zO ta 8 [vR tb, vI fed, vI len, vI at_, vI we, vI fa, vI fp], zI tb (cy 1) 600 f_5] H ∧ va_D A [zO ta 8 [vR tb, vI fed, vI len, vI at_, vI we, vI fa, vI fp], zI tb (cy 1) 600 f_5] := ⟨_, rfl, hP, hD⟩
    refine lv_aload_n hx hb dX8_add_30 rfl (lv_at hlv 1 rfl) ?_
    refine lv_dup hx hb dX8_add_31 rfl ?_
    refine va_get (D := D) (ci := 8) (v := vI fed) (C := RX8) (T := TX8) (N := 7) hx hb hts hi8 hown hG.1 hP 0 rfl rfl 1 (by decide) lf19 (fun _ h9 => h9) rfl dX8_add_32 ?_
    refine lv_iconst (v := iI 1) hx hb dX8_add_35 (by decide) ?_
    refine lv_iadd hx hb dX8_add_36 ?_
    refine lt_e (e0 := fed + 1) (Int32.ofInt_add _ _).symm (fun z_6 hz_6 => ?_)
    refine va_put (D := D) (ci := 8) (v := vI z_6) (ty := .int) (C := RX8) (T := TX8) (N := 7) hx hb hts hi8 tyX8 tyX8_ok nmX8 hown hG.1 hP hD hS 0 rfl rfl 1 (by decide) lf19 (fun _ h9 => h9) rfl (by decide +kernel) rfl rfl (Nat.le_of_ble_eq_true rfl) dX8_add_37 (fun H locs hP hD hS => ?_)
    have hP : va_P D vwCl [zO ta 8 [vR tb, vI z_6, vI len, vI at_, vI we, vI fa, vI fp], zI tb (cy 1) 600 f_5] H := hP
    have hD : va_D A [zO ta 8 [vR tb, vI z_6, vI len, vI at_, vI we, vI fa, vI fp], zI tb (cy 1) 600 f_5] := hD
    refine lv_iinc (v := iI 16) (lv' := [(2, vI 16), (0, vR ta), (1, vI n)]) hx hb dX8_add_40 hlv (k := 0) rfl (by decide) (by decide) rfl (fun ls hlv => ?_)
    refine lv_goto (tgt := 3) hx hb dX8_add_43 (by decide) ?_
    refine lv_iload_n hx hb dX8_add_3 rfl (lv_at hlv 0 rfl) ?_
    refine iz_lt (tgt := 46) hx hb dX8_add_4 (by decide) (by show ((-2147483648) : Int) ≤ 16 ∧ (16 : Int) ≤ 2147483647; decide) (fun c_7 => by exfalso; omega) (fun c_7 => ?_)
    refine lv_aload_n hx hb dX8_add_7 rfl (lv_at hlv 1 rfl) ?_
    refine va_get (D := D) (ci := 8) (v := vI z_6) (C := RX8) (T := TX8) (N := 7) hx hb hts hi8 hown hG.1 hP 0 rfl rfl 1 (by decide) lf19 (fun _ h9 => h9) rfl dX8_add_8 ?_
    refine lv_sipush (v := iI 600) hx hb dX8_add_11 (by decide) ?_
    refine ir_ge (tgt := 46) hx hb dX8_add_14 (by decide) (by omega) (by show ((-2147483648) : Int) ≤ 600 ∧ (600 : Int) ≤ 2147483647; decide) (fun c_8 => ?_) (fun c_8 => ?_)
    · refine W.widen (k := 0) (n := 0) (Nat.le_of_ble_eq_true rfl) (Nat.le_of_ble_eq_true rfl) ?_
      exact W.vret hx hb hr (fun t ht hW => ⟨⟨((fun k => ([] : List Nat).getD k 0), (fun k => ([z_6] : List Int).getD k 0), (fun k => ([f_5] : List (Nat → Int32)).getD k (fun _ => 0))), rfl, ⟨(by show (0 ≤ z_6 ∧ z_6 ≤ 600); omega), (by show (z_6 = fed + 4); omega), (by show (AdC bf (f_5) fed n); exact (by exfalso; omega))⟩, by rw [ht]; exact hP.sub [0, 1] rfl, hD.sub [0, 1] (by decide) rfl⟩, hS.F ht⟩) hS.2.2 dX8_add_46
    · refine lv_aload_n hx hb dX8_add_17 rfl (lv_at hlv 1 rfl) ?_
      refine va_get (D := D) (ci := 8) (v := vR tb) (C := RX8) (T := TX8) (N := 7) hx hb hts hi8 hown hG.1 hP 0 rfl rfl 0 (by decide) lf11 (fun _ h9 => h9) rfl dX8_add_18 ?_
      refine lv_aload_n hx hb dX8_add_21 rfl (lv_at hlv 1 rfl) ?_
      refine va_get (D := D) (ci := 8) (v := vI z_6) (C := RX8) (T := TX8) (N := 7) hx hb hts hi8 hown hG.1 hP 0 rfl rfl 1 (by decide) lf19 (fun _ h9 => h9) rfl dX8_add_22 ?_
      refine lv_iload_n hx hb dX8_add_25 rfl (lv_at hlv 2 rfl) ?_
      refine lv_iload_n hx hb dX8_add_26 rfl (lv_at hlv 0 rfl) ?_
      refine lv_ishr hx hb dX8_add_27 ?_
      refine lt_z (fun z_9 ez_9 lz_9 hz_9 => ?_)
      refine lv_i2b (v := (iI z_9).toInt8.toInt32) hx hb dX8_add_28 rfl ?_
      refine lt_z (fun z_10 ez_10 lz_10 hz_10 => ?_)
      refine va_bast hx hb hG.1 hP hD hS 1 1 rfl rfl (iI_in (by omega) (by decide)) dX8_add_29 (fun H locs hP hD hS => ?_)
      have ⟨f_11, hdf_11, hP, hD⟩ : ∃ f_11 : Nat → Int32, f_11 = upd f_5 (iI z_6).toNatClampNeg (vp_nar .byte (iI z_10)) ∧ va_P D vwCl [zO ta 8 [vR tb, vI z_6, vI len, vI at_, vI we, vI fa, vI fp], zI tb (cy 1) 600 f_11] H ∧ va_D A [zO ta 8 [vR tb, vI z_6, vI len, vI at_, vI we, vI fa, vI fp], zI tb (cy 1) 600 f_11] := ⟨_, rfl, hP, hD⟩
      refine lv_aload_n hx hb dX8_add_30 rfl (lv_at hlv 1 rfl) ?_
      refine lv_dup hx hb dX8_add_31 rfl ?_
      refine va_get (D := D) (ci := 8) (v := vI z_6) (C := RX8) (T := TX8) (N := 7) hx hb hts hi8 hown hG.1 hP 0 rfl rfl 1 (by decide) lf19 (fun _ h9 => h9) rfl dX8_add_32 ?_
      refine lv_iconst (v := iI 1) hx hb dX8_add_35 (by decide) ?_
      refine lv_iadd hx hb dX8_add_36 ?_
      refine lt_e (e0 := z_6 + 1) (Int32.ofInt_add _ _).symm (fun z_12 hz_12 => ?_)
      refine va_put (D := D) (ci := 8) (v := vI z_12) (ty := .int) (C := RX8) (T := TX8) (N := 7) hx hb hts hi8 tyX8 tyX8_ok nmX8 hown hG.1 hP hD hS 0 rfl rfl 1 (by decide) lf19 (fun _ h9 => h9) rfl (by decide +kernel) rfl rfl (Nat.le_of_ble_eq_true rfl) dX8_add_37 (fun H locs hP hD hS => ?_)
      have hP : va_P D vwCl [zO ta 8 [vR tb, vI z_12, vI len, vI at_, vI we, vI fa, vI fp], zI tb (cy 1) 600 f_11] H := hP
      have hD : va_D A [zO ta 8 [vR tb, vI z_12, vI len, vI at_, vI we, vI fa, vI fp], zI tb (cy 1) 600 f_11] := hD
      refine lv_iinc (v := iI 8) (lv' := [(2, vI 8), (0, vR ta), (1, vI n)]) hx hb dX8_add_40 hlv (k := 0) rfl (by decide) (by decide) rfl (fun ls hlv => ?_)
      refine lv_goto (tgt := 3) hx hb dX8_add_43 (by decide) ?_
      refine lv_iload_n hx hb dX8_add_3 rfl (lv_at hlv 0 rfl) ?_
      refine iz_lt (tgt := 46) hx hb dX8_add_4 (by decide) (by show ((-2147483648) : Int) ≤ 8 ∧ (8 : Int) ≤ 2147483647; decide) (fun c_13 => by exfalso; omega) (fun c_13 => ?_)
      refine lv_aload_n hx hb dX8_add_7 rfl (lv_at hlv 1 rfl) ?_
      refine va_get (D := D) (ci := 8) (v := vI z_12) (C := RX8) (T := TX8) (N := 7) hx hb hts hi8 hown hG.1 hP 0 rfl rfl 1 (by decide) lf19 (fun _ h9 => h9) rfl dX8_add_8 ?_
      refine lv_sipush (v := iI 600) hx hb dX8_add_11 (by decide) ?_
      refine ir_ge (tgt := 46) hx hb dX8_add_14 (by decide) (by omega) (by show ((-2147483648) : Int) ≤ 600 ∧ (600 : Int) ≤ 2147483647; decide) (fun c_14 => ?_) (fun c_14 => ?_)
      · refine W.widen (k := 0) (n := 0) (Nat.le_of_ble_eq_true rfl) (Nat.le_of_ble_eq_true rfl) ?_
        exact W.vret hx hb hr (fun t ht hW => ⟨⟨((fun k => ([] : List Nat).getD k 0), (fun k => ([z_12] : List Int).getD k 0), (fun k => ([f_11] : List (Nat → Int32)).getD k (fun _ => 0))), rfl, ⟨(by show (0 ≤ z_12 ∧ z_12 ≤ 600); omega), (by show (z_12 = fed + 4); omega), (by show (AdC bf (f_11) fed n); exact (by exfalso; omega))⟩, by rw [ht]; exact hP.sub [0, 1] rfl, hD.sub [0, 1] (by decide) rfl⟩, hS.F ht⟩) hS.2.2 dX8_add_46
      · refine lv_aload_n hx hb dX8_add_17 rfl (lv_at hlv 1 rfl) ?_
        refine va_get (D := D) (ci := 8) (v := vR tb) (C := RX8) (T := TX8) (N := 7) hx hb hts hi8 hown hG.1 hP 0 rfl rfl 0 (by decide) lf11 (fun _ h9 => h9) rfl dX8_add_18 ?_
        refine lv_aload_n hx hb dX8_add_21 rfl (lv_at hlv 1 rfl) ?_
        refine va_get (D := D) (ci := 8) (v := vI z_12) (C := RX8) (T := TX8) (N := 7) hx hb hts hi8 hown hG.1 hP 0 rfl rfl 1 (by decide) lf19 (fun _ h9 => h9) rfl dX8_add_22 ?_
        refine lv_iload_n hx hb dX8_add_25 rfl (lv_at hlv 2 rfl) ?_
        refine lv_iload_n hx hb dX8_add_26 rfl (lv_at hlv 0 rfl) ?_
        refine lv_ishr hx hb dX8_add_27 ?_
        refine lt_z (fun z_15 ez_15 lz_15 hz_15 => ?_)
        refine lv_i2b (v := (iI z_15).toInt8.toInt32) hx hb dX8_add_28 rfl ?_
        refine lt_z (fun z_16 ez_16 lz_16 hz_16 => ?_)
        refine va_bast hx hb hG.1 hP hD hS 1 1 rfl rfl (iI_in (by omega) (by decide)) dX8_add_29 (fun H locs hP hD hS => ?_)
        have ⟨f_17, hdf_17, hP, hD⟩ : ∃ f_17 : Nat → Int32, f_17 = upd f_11 (iI z_12).toNatClampNeg (vp_nar .byte (iI z_16)) ∧ va_P D vwCl [zO ta 8 [vR tb, vI z_12, vI len, vI at_, vI we, vI fa, vI fp], zI tb (cy 1) 600 f_17] H ∧ va_D A [zO ta 8 [vR tb, vI z_12, vI len, vI at_, vI we, vI fa, vI fp], zI tb (cy 1) 600 f_17] := ⟨_, rfl, hP, hD⟩
        refine lv_aload_n hx hb dX8_add_30 rfl (lv_at hlv 1 rfl) ?_
        refine lv_dup hx hb dX8_add_31 rfl ?_
        refine va_get (D := D) (ci := 8) (v := vI z_12) (C := RX8) (T := TX8) (N := 7) hx hb hts hi8 hown hG.1 hP 0 rfl rfl 1 (by decide) lf19 (fun _ h9 => h9) rfl dX8_add_32 ?_
        refine lv_iconst (v := iI 1) hx hb dX8_add_35 (by decide) ?_
        refine lv_iadd hx hb dX8_add_36 ?_
        refine lt_e (e0 := z_12 + 1) (Int32.ofInt_add _ _).symm (fun z_18 hz_18 => ?_)
        refine va_put (D := D) (ci := 8) (v := vI z_18) (ty := .int) (C := RX8) (T := TX8) (N := 7) hx hb hts hi8 tyX8 tyX8_ok nmX8 hown hG.1 hP hD hS 0 rfl rfl 1 (by decide) lf19 (fun _ h9 => h9) rfl (by decide +kernel) rfl rfl (Nat.le_of_ble_eq_true rfl) dX8_add_37 (fun H locs hP hD hS => ?_)
        have hP : va_P D vwCl [zO ta 8 [vR tb, vI z_18, vI len, vI at_, vI we, vI fa, vI fp], zI tb (cy 1) 600 f_17] H := hP
        have hD : va_D A [zO ta 8 [vR tb, vI z_18, vI len, vI at_, vI we, vI fa, vI fp], zI tb (cy 1) 600 f_17] := hD
        refine lv_iinc (v := iI 0) (lv' := [(2, vI 0), (0, vR ta), (1, vI n)]) hx hb dX8_add_40 hlv (k := 0) rfl (by decide) (by decide) rfl (fun ls hlv => ?_)
        refine lv_goto (tgt := 3) hx hb dX8_add_43 (by decide) ?_
        refine lv_iload_n hx hb dX8_add_3 rfl (lv_at hlv 0 rfl) ?_
        refine iz_lt (tgt := 46) hx hb dX8_add_4 (by decide) (by show ((-2147483648) : Int) ≤ 0 ∧ (0 : Int) ≤ 2147483647; decide) (fun c_19 => by exfalso; omega) (fun c_19 => ?_)
        refine lv_aload_n hx hb dX8_add_7 rfl (lv_at hlv 1 rfl) ?_
        refine va_get (D := D) (ci := 8) (v := vI z_18) (C := RX8) (T := TX8) (N := 7) hx hb hts hi8 hown hG.1 hP 0 rfl rfl 1 (by decide) lf19 (fun _ h9 => h9) rfl dX8_add_8 ?_
        refine lv_sipush (v := iI 600) hx hb dX8_add_11 (by decide) ?_
        refine ir_ge (tgt := 46) hx hb dX8_add_14 (by decide) (by omega) (by show ((-2147483648) : Int) ≤ 600 ∧ (600 : Int) ≤ 2147483647; decide) (fun c_20 => ?_) (fun c_20 => ?_)
        · refine W.widen (k := 0) (n := 0) (Nat.le_of_ble_eq_true rfl) (Nat.le_of_ble_eq_true rfl) ?_
          exact W.vret hx hb hr (fun t ht hW => ⟨⟨((fun k => ([] : List Nat).getD k 0), (fun k => ([z_18] : List Int).getD k 0), (fun k => ([f_17] : List (Nat → Int32)).getD k (fun _ => 0))), rfl, ⟨(by show (0 ≤ z_18 ∧ z_18 ≤ 600); omega), (by show (z_18 = fed + 4); omega), (by show (AdC bf (f_17) fed n); exact (by exfalso; omega))⟩, by rw [ht]; exact hP.sub [0, 1] rfl, hD.sub [0, 1] (by decide) rfl⟩, hS.F ht⟩) hS.2.2 dX8_add_46
        · refine lv_aload_n hx hb dX8_add_17 rfl (lv_at hlv 1 rfl) ?_
          refine va_get (D := D) (ci := 8) (v := vR tb) (C := RX8) (T := TX8) (N := 7) hx hb hts hi8 hown hG.1 hP 0 rfl rfl 0 (by decide) lf11 (fun _ h9 => h9) rfl dX8_add_18 ?_
          refine lv_aload_n hx hb dX8_add_21 rfl (lv_at hlv 1 rfl) ?_
          refine va_get (D := D) (ci := 8) (v := vI z_18) (C := RX8) (T := TX8) (N := 7) hx hb hts hi8 hown hG.1 hP 0 rfl rfl 1 (by decide) lf19 (fun _ h9 => h9) rfl dX8_add_22 ?_
          refine lv_iload_n hx hb dX8_add_25 rfl (lv_at hlv 2 rfl) ?_
          refine lv_iload_n hx hb dX8_add_26 rfl (lv_at hlv 0 rfl) ?_
          refine lv_ishr hx hb dX8_add_27 ?_
          refine lt_z (fun z_21 ez_21 lz_21 hz_21 => ?_)
          refine lv_i2b (v := (iI z_21).toInt8.toInt32) hx hb dX8_add_28 rfl ?_
          refine lt_z (fun z_22 ez_22 lz_22 hz_22 => ?_)
          refine va_bast hx hb hG.1 hP hD hS 1 1 rfl rfl (iI_in (by omega) (by decide)) dX8_add_29 (fun H locs hP hD hS => ?_)
          have ⟨f_23, hdf_23, hP, hD⟩ : ∃ f_23 : Nat → Int32, f_23 = upd f_17 (iI z_18).toNatClampNeg (vp_nar .byte (iI z_22)) ∧ va_P D vwCl [zO ta 8 [vR tb, vI z_18, vI len, vI at_, vI we, vI fa, vI fp], zI tb (cy 1) 600 f_23] H ∧ va_D A [zO ta 8 [vR tb, vI z_18, vI len, vI at_, vI we, vI fa, vI fp], zI tb (cy 1) 600 f_23] := ⟨_, rfl, hP, hD⟩
          refine lv_aload_n hx hb dX8_add_30 rfl (lv_at hlv 1 rfl) ?_
          refine lv_dup hx hb dX8_add_31 rfl ?_
          refine va_get (D := D) (ci := 8) (v := vI z_18) (C := RX8) (T := TX8) (N := 7) hx hb hts hi8 hown hG.1 hP 0 rfl rfl 1 (by decide) lf19 (fun _ h9 => h9) rfl dX8_add_32 ?_
          refine lv_iconst (v := iI 1) hx hb dX8_add_35 (by decide) ?_
          refine lv_iadd hx hb dX8_add_36 ?_
          refine lt_e (e0 := z_18 + 1) (Int32.ofInt_add _ _).symm (fun z_24 hz_24 => ?_)
          refine va_put (D := D) (ci := 8) (v := vI z_24) (ty := .int) (C := RX8) (T := TX8) (N := 7) hx hb hts hi8 tyX8 tyX8_ok nmX8 hown hG.1 hP hD hS 0 rfl rfl 1 (by decide) lf19 (fun _ h9 => h9) rfl (by decide +kernel) rfl rfl (Nat.le_of_ble_eq_true rfl) dX8_add_37 (fun H locs hP hD hS => ?_)
          have hP : va_P D vwCl [zO ta 8 [vR tb, vI z_24, vI len, vI at_, vI we, vI fa, vI fp], zI tb (cy 1) 600 f_23] H := hP
          have hD : va_D A [zO ta 8 [vR tb, vI z_24, vI len, vI at_, vI we, vI fa, vI fp], zI tb (cy 1) 600 f_23] := hD
          refine lv_iinc (v := iI (-8)) (lv' := [(2, vI (-8)), (0, vR ta), (1, vI n)]) hx hb dX8_add_40 hlv (k := 0) rfl (by decide) (by decide) rfl (fun ls hlv => ?_)
          refine lv_goto (tgt := 3) hx hb dX8_add_43 (by decide) ?_
          refine lv_iload_n hx hb dX8_add_3 rfl (lv_at hlv 0 rfl) ?_
          refine iz_lt (tgt := 46) hx hb dX8_add_4 (by decide) (by show ((-2147483648) : Int) ≤ (-8) ∧ ((-8) : Int) ≤ 2147483647; decide) (fun c_25 => ?_) (fun c_25 => by exfalso; omega)
          refine W.widen (k := 0) (n := 0) (Nat.le_of_ble_eq_true rfl) (Nat.le_of_ble_eq_true rfl) ?_
          exact W.vret hx hb hr (fun t ht hW => ⟨⟨((fun k => ([] : List Nat).getD k 0), (fun k => ([z_24] : List Int).getD k 0), (fun k => ([f_23] : List (Nat → Int32)).getD k (fun _ => 0))), rfl, ⟨(by show (0 ≤ z_24 ∧ z_24 ≤ 600); omega), (by show (z_24 = fed + 4); omega), (by show (AdC bf (f_23) fed n); exact (by first | exact AdC_4 hn_bb (by omega) (by omega) (by omega) (by omega) (AdW (e := fed) 24 (by decide) (by omega) (by omega) (by omega) (by omega) ez_3 ez_4 hdf_5) (AdW (e := z_6) 16 (by decide) (by omega) (by omega) (by omega) (by omega) ez_9 ez_10 hdf_11) (AdW (e := z_12) 8 (by decide) (by omega) (by omega) (by omega) (by omega) ez_15 ez_16 hdf_17) (AdW (e := z_18) 0 (by decide) (by omega) (by omega) (by omega) (by omega) ez_21 ez_22 hdf_23) | (exfalso; omega)))⟩, by rw [ht]; exact hP.sub [0, 1] rfl, hD.sub [0, 1] (by decide) rfl⟩, hS.F ht⟩) hS.2.2 dX8_add_46
def vs_e_feed : List Cond := .code yX11_feed cX11_feed 6 (some .int) :: (([.fieldLink RX11 10 "KerbSplash" "tape" "LKerbSplash$Tape;", .initialized RX8, .instanceMethod yX8_hasRoom, .selects RX8 yX8_hasRoom yX8_hasRoom, .instanceMethod yX8_add, .selects RX8 yX8_add yX8_add] : List Cond) ++ ((wsX110) ++ ((vs_s_hasRoom) ++ ((vs_e_add) ++ ((wsX80) ++ ([]))))))
set_option maxHeartbeats 4000000 in
set_option maxRecDepth 100000 in
theorem e_feed (l : Launch) (hl : l.stackTraces = false) (D : va_G) (cy : Nat → ClassId) (sa : Nat → Nat) (kk ta kr kl sA dA pa ki kp wa or_ rq : Nat) (nr nw im : Int) (tb : Nat) (fed len at_ we fa fp : Int) (bf : Nat → Int32) (a_ b_ c_ d_ e_ : Int) (sz : Nat) (hr_nr : 0 ≤ nr ∧ nr ≤ 4) (hr_nw : 0 ≤ nw ∧ nw ≤ 4) (hr_im : 0 ≤ im ∧ im ≤ 3) (hr_fed : 0 ≤ fed ∧ fed ≤ 600) (hr_len : 0 ≤ len ∧ len ≤ 600) (hr_at_ : 0 ≤ at_ ∧ at_ ≤ 600) (hr_we : 0 ≤ we ∧ we ≤ 600) (hr_fa : 0 ≤ fa ∧ fa ≤ 4) (hr_fp : (-1) ≤ fp ∧ fp ≤ 600) (hr_a_ : (-2147483648) ≤ a_ ∧ a_ ≤ 2147483647) (hr_b_ : (-2147483648) ≤ b_ ∧ b_ ≤ 2147483647) (hr_c_ : (-2147483648) ≤ c_ ∧ c_ ≤ 2147483647) (hr_d_ : (-2147483648) ≤ d_ ∧ d_ ≤ 2147483647) (hr_e_ : (-2147483648) ≤ e_ ∧ e_ ≤ 2147483647) (hn_bb : BR bf) : Met l yX11_feed vs_e_feed ({ frames := 1, cells := 0, slots := 0, locals := 22 }) (va_Pc [vR kk, vI a_, vI b_, vI c_, vI d_, vI e_] (pcW D cy sa sz [zO kk 11 [vR ta, vR kr, vR kl, vI nr, vI nw, vR sA, vR dA, vR pa, vR ki, vR kp, vI im, vR wa, vR or_, vR rq], zO ta 8 [vR tb, vI fed, vI len, vI at_, vI we, vI fa, vI fp], zI tb (cy 1) 600 bf])) (va_Qi (fun (r : Int32) (u : SV) => r = iI (u.2.1 0) ∧ ((-1) ≤ u.2.1 0 ∧ u.2.1 0 ≤ 600) ∧ (0 ≤ u.2.1 1 ∧ u.2.1 1 ≤ 600) ∧ (fed ≤ 580 → u.2.1 0 = fed + 20 ∧ u.2.1 1 = fed + 20) ∧ (580 < fed → u.2.1 0 = -1 ∧ u.2.1 1 = fed) ∧ (FeC bf (u.2.2 0) fed a_ b_ c_ d_ e_)) (fun u t => atW D (va_A [zO kk 11 [vR ta, vR kr, vR kl, vI nr, vI nw, vR sA, vR dA, vR pa, vR ki, vR kp, vI im, vR wa, vR or_, vR rq], zO ta 8 [vR tb, vI fed, vI len, vI at_, vI we, vI fa, vI fp], zI tb (cy 1) 600 bf] sz) [zO kk 11 [vR ta, vR kr, vR kl, vI nr, vI nw, vR sA, vR dA, vR pa, vR ki, vR kp, vI im, vR wa, vR or_, vR rq], zO ta 8 [vR tb, vI (u.2.1 1), vI len, vI at_, vI we, vI fa, vI fp], zI tb (cy 1) 600 (u.2.2 0)] t) (va_A [zO kk 11 [vR ta, vR kr, vR kl, vI nr, vI nw, vR sA, vR dA, vR pa, vR ki, vR kp, vI im, vR wa, vR or_, vR rq], zO ta 8 [vR tb, vI fed, vI len, vI at_, vI we, vI fa, vI fp], zI tb (cy 1) 600 bf] sz)) 0 0 (va_A [zO kk 11 [vR ta, vR kr, vR kl, vI nr, vI nw, vR sA, vR dA, vR pa, vR ki, vR kp, vI im, vR wa, vR or_, vR rq], zO ta 8 [vR tb, vI fed, vI len, vI at_, vI we, vI fa, vI fp], zI tb (cy 1) 600 bf] sz) := by
  refine Met.ofW (cc := cX11_feed) (maxL := 6) (ret := (some .int)) (by decide) rfl ?_
  intro p e s m args below meth c s₁ B hml hv
  obtain ⟨rfl, hsz, hP, hG, hD0, hT⟩ := hv
  have hx := B.exec
  have hb := B.bytes
  have hr := B.returns
  have hts := atoms_spec (ws := vs_e_feed) B.pre
  have hown : s.vm.findClass RX11 = some m.cls := findClass_of_methodNamed B.named
  have hlocks := B.notSynchronized
  subst hsz
  have hD := hD0.self (sz := s.heap.size)
  generalize hAe : va_A [zO kk 11 [vR ta, vR kr, vR kl, vI nr, vI nw, vR sA, vR dA, vR pa, vR ki, vR kp, vI im, vR wa, vR or_, vR rq], zO ta 8 [vR tb, vI fed, vI len, vI at_, vI we, vI fa, vI fp], zI tb (cy 1) 600 bf] s.heap.size = A at hD hT ⊢
  have hA : ∀ q : Nat, s.heap.size ≤ q → A q := fun q h => by rw [← hAe]; exact Or.inr h
  have hS : va_S A s.heap s.heap [] := va_S.rf
  have hl0 := lv_entry ([vR kk, vI a_, vI b_, vI c_, vI d_, vI e_]) (n := 6) (Nat.le_of_ble_eq_true rfl)
  rw [lg_entry_eq]
  generalize (lg_sl ([vR kk, vI a_, vI b_, vI c_, vI d_, vI e_]) ++ List.replicate (6 - (lg_sl ([vR kk, vI a_, vI b_, vI c_, vI d_, vI e_])).length) Slot.unset).toArray = ls at hl0 ⊢
  have hlv : lv_has ls 6 [(0, vR kk), (1, vI a_), (2, vI b_), (3, vI c_), (4, vI d_), (5, vI e_)] := hl0
  have lf10 := hts (.fieldLink RX11 10 "KerbSplash" "tape" "LKerbSplash$Tape;") (List.mem_of_getElem? (i := 1) rfl)
  have hi11 : ∀ w ∈ wsX110, w ∈ vs_e_feed := fun w h => List.mem_cons_of_mem _ (List.mem_append_right _ (List.mem_append_left _ h))
  have gg_1 : GoodIn vs_e_feed (vs_s_hasRoom) := goodIn_sub (fun w h => List.mem_cons_of_mem _ (List.mem_append_right _ (List.mem_append_right _ (List.mem_append_left _ h)))) gd_s_hasRoom
  have ini_RX8 := hts (.initialized RX8) (List.mem_of_getElem? (i := 2) rfl)
  have im_X8_hasRoom := hts (.instanceMethod yX8_hasRoom) (List.mem_of_getElem? (i := 3) rfl)
  have se_X8_hasRoom := hts (.selects RX8 yX8_hasRoom yX8_hasRoom) (List.mem_of_getElem? (i := 4) rfl)
  have gg_2 : GoodIn vs_e_feed (vs_e_add) := goodIn_sub (fun w h => List.mem_cons_of_mem _ (List.mem_append_right _ (List.mem_append_right _ (List.mem_append_right _ (List.mem_append_left _ h))))) gd_e_add
  have im_X8_add := hts (.instanceMethod yX8_add) (List.mem_of_getElem? (i := 5) rfl)
  have se_X8_add := hts (.selects RX8 yX8_add yX8_add) (List.mem_of_getElem? (i := 6) rfl)
  have hi8 : ∀ w ∈ wsX80, w ∈ vs_e_feed := fun w h => List.mem_cons_of_mem _ (List.mem_append_right _ (List.mem_append_right _ (List.mem_append_right _ (List.mem_append_right _ (List.mem_append_left _ h)))))
  refine lv_aload_n hx hb dX11_feed_0 rfl (lv_at hlv 0 rfl) ?_
  refine va_get (D := D) (ci := 11) (v := vR ta) (C := RX11) (T := TX11) (N := 14) hx hb hts hi11 hown hG.1 hP 0 rfl rfl 0 (by decide) lf10 (fun _ h9 => h9) rfl dX11_feed_1 ?_
  refine cj_i (wr := [zO kk 11 [vR ta, vR kr, vR kl, vI nr, vI nw, vR sA, vR dA, vR pa, vR ki, vR kp, vI im, vR wa, vR or_, vR rq], zI tb (cy 1) 600 bf]) (va_runVN (host := "KerbSplash") (As := []) (rest := []) ⟨hx, hb, hml, hown, hts⟩ (s_hasRoom l hl D cy sa ta tb fed len at_ we fa fp s.heap.size (by first | exact hr_fed | omega) (by first | exact hr_len | omega) (by first | exact hr_at_ | omega) (by first | exact hr_we | omega) (by first | exact hr_fa | omega) (by first | exact hr_fp | omega)) ⟨va_cnB 0 hts gg_1 rfl rfl rfl (nM_K_73 hG.2.1) ini_RX8 (by decide +kernel) ⟨Nat.le_of_ble_eq_true rfl, Nat.le_of_ble_eq_true rfl⟩, im_X8_hasRoom, se_X8_hasRoom⟩ ⟨pcW.blind, (va_recv hG.1 hP (ci := 8) (q0 := 1) rfl rfl), (pcW.mk hP hD hS hA hG hT [1] rfl (by decide))⟩ rfl rfl hlv.1 rfl (lv_room (Nat.le_of_ble_eq_true rfl)) dX11_feed_4 ⟨Nat.le_of_ble_eq_true rfl, Nat.le_of_ble_eq_true rfl⟩) hP hD hS hA [1] [0, 2] rfl rfl (by decide) (by decide) (fun r1 u1 H locs hw1 hP hD hS => ?_)
  obtain ⟨rfl, hq1_1, hq1_2, hq1_3⟩ := hw1
  have hP : va_P D vwCl [zO kk 11 [vR ta, vR kr, vR kl, vI nr, vI nw, vR sA, vR dA, vR pa, vR ki, vR kp, vI im, vR wa, vR or_, vR rq], zI tb (cy 1) 600 bf, zO ta 8 [vR tb, vI fed, vI len, vI at_, vI we, vI fa, vI fp]] H := hP
  have hD : va_D A [zO kk 11 [vR ta, vR kr, vR kl, vI nr, vI nw, vR sA, vR dA, vR pa, vR ki, vR kp, vI im, vR wa, vR or_, vR rq], zI tb (cy 1) 600 bf, zO ta 8 [vR tb, vI fed, vI len, vI at_, vI we, vI fa, vI fp]] := hD
  refine iz_ne (tgt := 12) hx hb dX11_feed_7 (by decide) (by first | exact rgw hq1_1 (by decide) (by decide) | omega) (fun c_1 => ?_) (fun c_1 => ?_)
  · refine lv_aload_n hx hb dX11_feed_12 rfl (lv_at hlv 0 rfl) ?_
    refine va_get (D := D) (ci := 11) (v := vR ta) (C := RX11) (T := TX11) (N := 14) hx hb hts hi11 hown hG.1 hP 0 rfl rfl 0 (by decide) lf10 (fun _ h9 => h9) rfl dX11_feed_13 ?_
    refine lv_iload_n hx hb dX11_feed_16 rfl (lv_at hlv 1 rfl) ?_
    refine cj_v (wr := [zO kk 11 [vR ta, vR kr, vR kl, vI nr, vI nw, vR sA, vR dA, vR pa, vR ki, vR kp, vI im, vR wa, vR or_, vR rq]]) (va_runVN (host := "KerbSplash") (As := [vI a_]) (rest := []) ⟨hx, hb, hml, hown, hts⟩ (e_add l hl D cy sa ta tb fed len at_ we fa fp bf a_ H.size (by first | exact hr_fed | omega) (by first | exact hr_len | omega) (by first | exact hr_at_ | omega) (by first | exact hr_we | omega) (by first | exact hr_fa | omega) (by first | exact hr_fp | omega) (by first | exact hr_a_ | omega) (by omega) hn_bb) ⟨va_cnB 1 hts gg_2 rfl rfl rfl (nM_K_77 hG.2.1) ini_RX8 (by decide +kernel) ⟨Nat.le_of_ble_eq_true rfl, Nat.le_of_ble_eq_true rfl⟩, im_X8_add, se_X8_add⟩ ⟨pcW.blind, (va_recv hG.1 hP (ci := 8) (q0 := 2) rfl rfl), (pcW.mk hP hD hS hA hG hT [2, 1] rfl (by decide))⟩ rfl rfl hlv.1 rfl (lv_room (Nat.le_of_ble_eq_true rfl)) dX11_feed_17 ⟨Nat.le_of_ble_eq_true rfl, Nat.le_of_ble_eq_true rfl⟩) hP hD hS hA [2, 1] [0] rfl rfl (by decide) (by decide) (fun u2 H locs hw2 hP hD hS => ?_)
    obtain ⟨hq2_0, hq2_1, hq2_2⟩ := hw2
    have hP : va_P D vwCl [zO kk 11 [vR ta, vR kr, vR kl, vI nr, vI nw, vR sA, vR dA, vR pa, vR ki, vR kp, vI im, vR wa, vR or_, vR rq], zO ta 8 [vR tb, vI (u2.2.1 0), vI len, vI at_, vI we, vI fa, vI fp], zI tb (cy 1) 600 (u2.2.2 0)] H := hP
    have hD : va_D A [zO kk 11 [vR ta, vR kr, vR kl, vI nr, vI nw, vR sA, vR dA, vR pa, vR ki, vR kp, vI im, vR wa, vR or_, vR rq], zO ta 8 [vR tb, vI (u2.2.1 0), vI len, vI at_, vI we, vI fa, vI fp], zI tb (cy 1) 600 (u2.2.2 0)] := hD
    refine lv_aload_n hx hb dX11_feed_20 rfl (lv_at hlv 0 rfl) ?_
    refine va_get (D := D) (ci := 11) (v := vR ta) (C := RX11) (T := TX11) (N := 14) hx hb hts hi11 hown hG.1 hP 0 rfl rfl 0 (by decide) lf10 (fun _ h9 => h9) rfl dX11_feed_21 ?_
    refine lv_iload_n hx hb dX11_feed_24 rfl (lv_at hlv 2 rfl) ?_
    refine cj_v (wr := [zO kk 11 [vR ta, vR kr, vR kl, vI nr, vI nw, vR sA, vR dA, vR pa, vR ki, vR kp, vI im, vR wa, vR or_, vR rq]]) (va_runVN (host := "KerbSplash") (As := [vI b_]) (rest := []) ⟨hx, hb, hml, hown, hts⟩ (e_add l hl D cy sa ta tb (u2.2.1 0) len at_ we fa fp (u2.2.2 0) b_ H.size (by first | exact hq2_0 | omega) (by first | exact hr_len | omega) (by first | exact hr_at_ | omega) (by first | exact hr_we | omega) (by first | exact hr_fa | omega) (by first | exact hr_fp | omega) (by first | exact hr_b_ | omega) (by omega) (hq2_2.1)) ⟨va_cnB 1 hts gg_2 rfl rfl rfl (nM_K_77 hG.2.1) ini_RX8 (by decide +kernel) ⟨Nat.le_of_ble_eq_true rfl, Nat.le_of_ble_eq_true rfl⟩, im_X8_add, se_X8_add⟩ ⟨pcW.blind, (va_recv hG.1 hP (ci := 8) (q0 := 1) rfl rfl), (pcW.mk hP hD hS hA hG hT [1, 2] rfl (by decide))⟩ rfl rfl hlv.1 rfl (lv_room (Nat.le_of_ble_eq_true rfl)) dX11_feed_25 ⟨Nat.le_of_ble_eq_true rfl, Nat.le_of_ble_eq_true rfl⟩) hP hD hS hA [1, 2] [0] rfl rfl (by decide) (by decide) (fun u3 H locs hw3 hP hD hS => ?_)
    obtain ⟨hq3_0, hq3_1, hq3_2⟩ := hw3
    have hP : va_P D vwCl [zO kk 11 [vR ta, vR kr, vR kl, vI nr, vI nw, vR sA, vR dA, vR pa, vR ki, vR kp, vI im, vR wa, vR or_, vR rq], zO ta 8 [vR tb, vI (u3.2.1 0), vI len, vI at_, vI we, vI fa, vI fp], zI tb (cy 1) 600 (u3.2.2 0)] H := hP
    have hD : va_D A [zO kk 11 [vR ta, vR kr, vR kl, vI nr, vI nw, vR sA, vR dA, vR pa, vR ki, vR kp, vI im, vR wa, vR or_, vR rq], zO ta 8 [vR tb, vI (u3.2.1 0), vI len, vI at_, vI we, vI fa, vI fp], zI tb (cy 1) 600 (u3.2.2 0)] := hD
    refine lv_aload_n hx hb dX11_feed_28 rfl (lv_at hlv 0 rfl) ?_
    refine va_get (D := D) (ci := 11) (v := vR ta) (C := RX11) (T := TX11) (N := 14) hx hb hts hi11 hown hG.1 hP 0 rfl rfl 0 (by decide) lf10 (fun _ h9 => h9) rfl dX11_feed_29 ?_
    refine lv_iload_n hx hb dX11_feed_32 rfl (lv_at hlv 3 rfl) ?_
    refine cj_v (wr := [zO kk 11 [vR ta, vR kr, vR kl, vI nr, vI nw, vR sA, vR dA, vR pa, vR ki, vR kp, vI im, vR wa, vR or_, vR rq]]) (va_runVN (host := "KerbSplash") (As := [vI c_]) (rest := []) ⟨hx, hb, hml, hown, hts⟩ (e_add l hl D cy sa ta tb (u3.2.1 0) len at_ we fa fp (u3.2.2 0) c_ H.size (by first | exact hq3_0 | omega) (by first | exact hr_len | omega) (by first | exact hr_at_ | omega) (by first | exact hr_we | omega) (by first | exact hr_fa | omega) (by first | exact hr_fp | omega) (by first | exact hr_c_ | omega) (by omega) (hq3_2.1)) ⟨va_cnB 1 hts gg_2 rfl rfl rfl (nM_K_77 hG.2.1) ini_RX8 (by decide +kernel) ⟨Nat.le_of_ble_eq_true rfl, Nat.le_of_ble_eq_true rfl⟩, im_X8_add, se_X8_add⟩ ⟨pcW.blind, (va_recv hG.1 hP (ci := 8) (q0 := 1) rfl rfl), (pcW.mk hP hD hS hA hG hT [1, 2] rfl (by decide))⟩ rfl rfl hlv.1 rfl (lv_room (Nat.le_of_ble_eq_true rfl)) dX11_feed_33 ⟨Nat.le_of_ble_eq_true rfl, Nat.le_of_ble_eq_true rfl⟩) hP hD hS hA [1, 2] [0] rfl rfl (by decide) (by decide) (fun u4 H locs hw4 hP hD hS => ?_)
    obtain ⟨hq4_0, hq4_1, hq4_2⟩ := hw4
    have hP : va_P D vwCl [zO kk 11 [vR ta, vR kr, vR kl, vI nr, vI nw, vR sA, vR dA, vR pa, vR ki, vR kp, vI im, vR wa, vR or_, vR rq], zO ta 8 [vR tb, vI (u4.2.1 0), vI len, vI at_, vI we, vI fa, vI fp], zI tb (cy 1) 600 (u4.2.2 0)] H := hP
    have hD : va_D A [zO kk 11 [vR ta, vR kr, vR kl, vI nr, vI nw, vR sA, vR dA, vR pa, vR ki, vR kp, vI im, vR wa, vR or_, vR rq], zO ta 8 [vR tb, vI (u4.2.1 0), vI len, vI at_, vI we, vI fa, vI fp], zI tb (cy 1) 600 (u4.2.2 0)] := hD
    refine lv_aload_n hx hb dX11_feed_36 rfl (lv_at hlv 0 rfl) ?_
    refine va_get (D := D) (ci := 11) (v := vR ta) (C := RX11) (T := TX11) (N := 14) hx hb hts hi11 hown hG.1 hP 0 rfl rfl 0 (by decide) lf10 (fun _ h9 => h9) rfl dX11_feed_37 ?_
    refine lv_iload hx hb dX11_feed_40 (lv_at hlv 4 rfl) ?_
    refine cj_v (wr := [zO kk 11 [vR ta, vR kr, vR kl, vI nr, vI nw, vR sA, vR dA, vR pa, vR ki, vR kp, vI im, vR wa, vR or_, vR rq]]) (va_runVN (host := "KerbSplash") (As := [vI d_]) (rest := []) ⟨hx, hb, hml, hown, hts⟩ (e_add l hl D cy sa ta tb (u4.2.1 0) len at_ we fa fp (u4.2.2 0) d_ H.size (by first | exact hq4_0 | omega) (by first | exact hr_len | omega) (by first | exact hr_at_ | omega) (by first | exact hr_we | omega) (by first | exact hr_fa | omega) (by first | exact hr_fp | omega) (by first | exact hr_d_ | omega) (by omega) (hq4_2.1)) ⟨va_cnB 1 hts gg_2 rfl rfl rfl (nM_K_77 hG.2.1) ini_RX8 (by decide +kernel) ⟨Nat.le_of_ble_eq_true rfl, Nat.le_of_ble_eq_true rfl⟩, im_X8_add, se_X8_add⟩ ⟨pcW.blind, (va_recv hG.1 hP (ci := 8) (q0 := 1) rfl rfl), (pcW.mk hP hD hS hA hG hT [1, 2] rfl (by decide))⟩ rfl rfl hlv.1 rfl (lv_room (Nat.le_of_ble_eq_true rfl)) dX11_feed_42 ⟨Nat.le_of_ble_eq_true rfl, Nat.le_of_ble_eq_true rfl⟩) hP hD hS hA [1, 2] [0] rfl rfl (by decide) (by decide) (fun u5 H locs hw5 hP hD hS => ?_)
    obtain ⟨hq5_0, hq5_1, hq5_2⟩ := hw5
    have hP : va_P D vwCl [zO kk 11 [vR ta, vR kr, vR kl, vI nr, vI nw, vR sA, vR dA, vR pa, vR ki, vR kp, vI im, vR wa, vR or_, vR rq], zO ta 8 [vR tb, vI (u5.2.1 0), vI len, vI at_, vI we, vI fa, vI fp], zI tb (cy 1) 600 (u5.2.2 0)] H := hP
    have hD : va_D A [zO kk 11 [vR ta, vR kr, vR kl, vI nr, vI nw, vR sA, vR dA, vR pa, vR ki, vR kp, vI im, vR wa, vR or_, vR rq], zO ta 8 [vR tb, vI (u5.2.1 0), vI len, vI at_, vI we, vI fa, vI fp], zI tb (cy 1) 600 (u5.2.2 0)] := hD
    refine lv_aload_n hx hb dX11_feed_45 rfl (lv_at hlv 0 rfl) ?_
    refine va_get (D := D) (ci := 11) (v := vR ta) (C := RX11) (T := TX11) (N := 14) hx hb hts hi11 hown hG.1 hP 0 rfl rfl 0 (by decide) lf10 (fun _ h9 => h9) rfl dX11_feed_46 ?_
    refine lv_iload hx hb dX11_feed_49 (lv_at hlv 5 rfl) ?_
    refine cj_v (wr := [zO kk 11 [vR ta, vR kr, vR kl, vI nr, vI nw, vR sA, vR dA, vR pa, vR ki, vR kp, vI im, vR wa, vR or_, vR rq]]) (va_runVN (host := "KerbSplash") (As := [vI e_]) (rest := []) ⟨hx, hb, hml, hown, hts⟩ (e_add l hl D cy sa ta tb (u5.2.1 0) len at_ we fa fp (u5.2.2 0) e_ H.size (by first | exact hq5_0 | omega) (by first | exact hr_len | omega) (by first | exact hr_at_ | omega) (by first | exact hr_we | omega) (by first | exact hr_fa | omega) (by first | exact hr_fp | omega) (by first | exact hr_e_ | omega) (by omega) (hq5_2.1)) ⟨va_cnB 1 hts gg_2 rfl rfl rfl (nM_K_77 hG.2.1) ini_RX8 (by decide +kernel) ⟨Nat.le_of_ble_eq_true rfl, Nat.le_of_ble_eq_true rfl⟩, im_X8_add, se_X8_add⟩ ⟨pcW.blind, (va_recv hG.1 hP (ci := 8) (q0 := 1) rfl rfl), (pcW.mk hP hD hS hA hG hT [1, 2] rfl (by decide))⟩ rfl rfl hlv.1 rfl (lv_room (Nat.le_of_ble_eq_true rfl)) dX11_feed_51 ⟨Nat.le_of_ble_eq_true rfl, Nat.le_of_ble_eq_true rfl⟩) hP hD hS hA [1, 2] [0] rfl rfl (by decide) (by decide) (fun u6 H locs hw6 hP hD hS => ?_)
    obtain ⟨hq6_0, hq6_1, hq6_2⟩ := hw6
    have hP : va_P D vwCl [zO kk 11 [vR ta, vR kr, vR kl, vI nr, vI nw, vR sA, vR dA, vR pa, vR ki, vR kp, vI im, vR wa, vR or_, vR rq], zO ta 8 [vR tb, vI (u6.2.1 0), vI len, vI at_, vI we, vI fa, vI fp], zI tb (cy 1) 600 (u6.2.2 0)] H := hP
    have hD : va_D A [zO kk 11 [vR ta, vR kr, vR kl, vI nr, vI nw, vR sA, vR dA, vR pa, vR ki, vR kp, vI im, vR wa, vR or_, vR rq], zO ta 8 [vR tb, vI (u6.2.1 0), vI len, vI at_, vI we, vI fa, vI fp], zI tb (cy 1) 600 (u6.2.2 0)] := hD
    refine lv_aload_n hx hb dX11_feed_54 rfl (lv_at hlv 0 rfl) ?_
    refine va_get (D := D) (ci := 11) (v := vR ta) (C := RX11) (T := TX11) (N := 14) hx hb hts hi11 hown hG.1 hP 0 rfl rfl 0 (by decide) lf10 (fun _ h9 => h9) rfl dX11_feed_55 ?_
    refine va_getN (D := D) (ci := 8) (v := vI (u6.2.1 0)) (C := RX8) (T := TX8) (N := 7) hx hb hts hi8 hown hG.1 hP 1 rfl rfl 1 (by decide) (va_Nw.use rfl (nF_K_81 hG.2.1)) (fun _ h9 => h9) rfl dX11_feed_58 ?_
    refine W.widen (k := 0) (n := 0) (Nat.le_of_ble_eq_true rfl) (Nat.le_of_ble_eq_true rfl) ?_
    exact W.iret (v := iI (u6.2.1 0)) hx hb hr (fun t ht hW => ⟨⟨iI (u6.2.1 0), ((fun k => ([] : List Nat).getD k 0), (fun k => ([(u6.2.1 0), (u6.2.1 0)] : List Int).getD k 0), (fun k => ([(u6.2.2 0)] : List (Nat → Int32)).getD k (fun _ => 0))), rfl, ⟨rfl, (by show ((-1) ≤ (u6.2.1 0) ∧ (u6.2.1 0) ≤ 600); first | exact rgw hq6_0 (by decide) (by decide) | omega), (by show (0 ≤ (u6.2.1 0) ∧ (u6.2.1 0) ≤ 600); first | exact hq6_0 | omega), (by show (fed ≤ 580 → (u6.2.1 0) = fed + 20 ∧ (u6.2.1 0) = fed + 20); omega), (by show (580 < fed → (u6.2.1 0) = -1 ∧ (u6.2.1 0) = fed); omega), (by show (FeC bf ((u6.2.2 0)) fed a_ b_ c_ d_ e_); exact (FeC_5 (by omega) (by omega) (by omega) (by omega) (by omega) hq2_2 hq3_2 hq4_2 hq5_2 hq6_2))⟩, by rw [ht]; exact hP.sub [0, 1, 2] rfl, hD.sub [0, 1, 2] (by decide) rfl⟩, hS.F ht⟩) hS.2.2 dX11_feed_61
  · refine lv_iconst (v := iI (-1)) hx hb dX11_feed_10 (by decide) ?_
    refine W.widen (k := 0) (n := 0) (Nat.le_of_ble_eq_true rfl) (Nat.le_of_ble_eq_true rfl) ?_
    exact W.iret (v := iI (-1)) hx hb hr (fun t ht hW => ⟨⟨iI (-1), ((fun k => ([] : List Nat).getD k 0), (fun k => ([(-1), fed] : List Int).getD k 0), (fun k => ([bf] : List (Nat → Int32)).getD k (fun _ => 0))), rfl, ⟨rfl, (by show ((-1) ≤ (-1) ∧ (-1) ≤ 600); show ((-1) : Int) ≤ (-1) ∧ ((-1) : Int) ≤ 600; decide), (by show (0 ≤ fed ∧ fed ≤ 600); first | exact hr_fed | omega), (by show (fed ≤ 580 → (-1) = fed + 20 ∧ fed = fed + 20); omega), (by show (580 < fed → (-1) = -1 ∧ fed = fed); omega), (by show (FeC bf (bf) fed a_ b_ c_ d_ e_); exact (FeC_n hn_bb (by omega)))⟩, by rw [ht]; exact hP.sub [0, 2, 1] rfl, hD.sub [0, 2, 1] (by decide) rfl⟩, hS.F ht⟩) hS.2.2 dX11_feed_11
