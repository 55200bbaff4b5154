
def vs_e_putPerson : List Cond := .code yX6_putPerson cX6_putPerson 5 none :: (([.fieldLink RX6 19 "KerbSplash$Street" "person" "[I"] : List Cond) ++ ((wsX60) ++ ([])))
theorem gd_e_putPerson : vs_e_putPerson.all goodWord = true := gd_C (by decide +kernel) (gd_A (by decide +kernel) (gd_A (by decide +kernel) rfl))
set_option maxHeartbeats 4000000 in
set_option maxRecDepth 100000 in
theorem e_putPerson (l : Launch) (hl : l.stackTraces = false) (D : va_G) (cy : Nat → ClassId) (sa : Nat → Nat) (sA s2 s3 s6 s8 s11 s13 : Nat) (wi ro dr dt pe gu sh wo dn mi fl tk go : Int) (pf : Nat → Int32) (k x f : Int) (sz : Nat) (hr_wi : 0 ≤ wi ∧ wi ≤ 16) (hr_ro : 0 ≤ ro ∧ ro ≤ 6) (hr_dr : 0 ≤ dr ∧ dr ≤ 14) (hr_dt : 0 ≤ dt ∧ dt ≤ 6) (hr_pe : 0 ≤ pe ∧ pe ≤ 8) (hr_gu : 0 ≤ gu ∧ gu ≤ 20) (hr_sh : 0 ≤ sh ∧ sh ≤ 2) (hr_wo : 0 ≤ wo ∧ wo ≤ 8) (hr_dn : (-2147483648) ≤ dn ∧ dn ≤ 2147483647) (hr_mi : 0 ≤ mi ∧ mi ≤ 600) (hr_fl : (-2147483648) ≤ fl ∧ fl ≤ 2147483647) (hr_tk : (-2147483648) ≤ tk ∧ tk ≤ 2147483647) (hr_go : (-2147483648) ≤ go ∧ go ≤ 2147483647) (hr_k : 0 ≤ k ∧ k ≤ 27) (hr_x : 0 ≤ x ∧ x ≤ 15) (hr_f : 0 ≤ f ∧ f ≤ 19) (hpf : tab_ 4 28 [0, 0, (-2147483648), (-2147483648)] [15, 19, 2147483647, 2147483647] pf) : Met l yX6_putPerson vs_e_putPerson ({ frames := 0, cells := 0, slots := 0, locals := 0 }) (va_Pc [vR sA, vI k, vI x, vI f] (pcW D cy sa sz [zO sA 6 [vI wi, vI ro, vR s2, vR s3, vI dr, vI dt, vR s6, vI pe, vR s8, vI gu, vI sh, vR s11, vI wo, vR s13, vI dn, vI mi, vI fl, vI tk, vI go], zI s8 (cy 0) 112 pf])) (va_Qv (fun u : SV => (nz (u.2.2 0) = (upz (upz (upz (upz (nz pf) (4 * k) x) (4 * k + 1) f) (4 * k + 2) 0) (4 * k + 3) 0)) ∧ tab_ 4 28 [0, 0, (-2147483648), (-2147483648)] [15, 19, 2147483647, 2147483647] (u.2.2 0)) (fun u t => atW D (va_A [zO sA 6 [vI wi, vI ro, vR s2, vR s3, vI dr, vI dt, vR s6, vI pe, vR s8, vI gu, vI sh, vR s11, vI wo, vR s13, vI dn, vI mi, vI fl, vI tk, vI go], zI s8 (cy 0) 112 pf] sz) [zO sA 6 [vI wi, vI ro, vR s2, vR s3, vI dr, vI dt, vR s6, vI pe, vR s8, vI gu, vI sh, vR s11, vI wo, vR s13, vI dn, vI mi, vI fl, vI tk, vI go], zI s8 (cy 0) 112 (u.2.2 0)] t) (va_A [zO sA 6 [vI wi, vI ro, vR s2, vR s3, vI dr, vI dt, vR s6, vI pe, vR s8, vI gu, vI sh, vR s11, vI wo, vR s13, vI dn, vI mi, vI fl, vI tk, vI go], zI s8 (cy 0) 112 pf] sz)) 0 0 (va_A [zO sA 6 [vI wi, vI ro, vR s2, vR s3, vI dr, vI dt, vR s6, vI pe, vR s8, vI gu, vI sh, vR s11, vI wo, vR s13, vI dn, vI mi, vI fl, vI tk, vI go], zI s8 (cy 0) 112 pf] sz) := by
  refine Met.ofW (cc := cX6_putPerson) (maxL := 5) (ret := none) (by decide) rfl ?_
  intro p e s m args below meth c s₁ B hml hv
  obtain ⟨rfl, hsz, hP, hG, hD0, hT⟩ := hv
  have hx := B.exec
  have hb := B.bytes
  have hr := B.returns
  have hts := atoms_spec (ws := vs_e_putPerson) B.pre
  have hown : s.vm.findClass RX6 = some m.cls := findClass_of_methodNamed B.named
  have hlocks := B.notSynchronized
  subst hsz
  have hD := hD0.self (sz := s.heap.size)
  generalize hAe : va_A [zO sA 6 [vI wi, vI ro, vR s2, vR s3, vI dr, vI dt, vR s6, vI pe, vR s8, vI gu, vI sh, vR s11, vI wo, vR s13, vI dn, vI mi, vI fl, vI tk, vI go], zI s8 (cy 0) 112 pf] s.heap.size = A at hD hT ⊢
  have hA : ∀ q : Nat, s.heap.size ≤ q → A q := fun q h => by rw [← hAe]; exact Or.inr h
  have hS : va_S A s.heap s.heap [] := va_S.rf
  have hl0 := lv_entry ([vR sA, vI k, vI x, vI f]) (n := 5) (Nat.le_of_ble_eq_true rfl)
  rw [lg_entry_eq]
  generalize (lg_sl ([vR sA, vI k, vI x, vI f]) ++ List.replicate (5 - (lg_sl ([vR sA, vI k, vI x, vI f])).length) Slot.unset).toArray = ls at hl0 ⊢
  have hlv : lv_has ls 5 [(0, vR sA), (1, vI k), (2, vI x), (3, vI f)] := hl0
  have lf19 := hts (.fieldLink RX6 19 "KerbSplash$Street" "person" "[I") (List.mem_of_getElem? (i := 1) rfl)
  have hi6 : ∀ w ∈ wsX60, w ∈ vs_e_putPerson := fun w h => List.mem_cons_of_mem _ (List.mem_append_right _ (List.mem_append_left _ h))
  refine lv_iconst (v := iI 4) hx hb dX6_putPerson_0 (by decide) ?_
  refine lv_iload_n hx hb dX6_putPerson_1 rfl (lv_at hlv 1 rfl) ?_
  refine lv_imul hx hb dX6_putPerson_2 ?_
  refine lt_e (e0 := 4 * k) (Int32.ofInt_mul _ _).symm (fun z_1 hz_1 => ?_)
  refine lv_istore (lv' := [(4, vI z_1), (0, vR sA), (1, vI k), (2, vI x), (3, vI f)]) hx hb dX6_putPerson_3 hlv (by decide) rfl (fun ls hlv => ?_)
  refine lv_iload hx hb dX6_putPerson_5 (lv_at hlv 0 rfl) ?_
  refine lv_iconst (v := iI 4) hx hb dX6_putPerson_7 (by decide) ?_
  refine lv_iadd hx hb dX6_putPerson_8 ?_
  refine lt_e (e0 := z_1 + 4) (Int32.ofInt_add _ _).symm (fun z_2 hz_2 => ?_)
  refine lv_aload_n hx hb dX6_putPerson_9 rfl (lv_at hlv 1 rfl) ?_
  refine va_get (D := D) (ci := 6) (v := vR s8) (C := RX6) (T := TX6) (N := 19) hx hb hts hi6 hown hG.1 hP 0 rfl rfl 8 (by decide) lf19 (fun _ h9 => h9) rfl dX6_putPerson_10 ?_
  refine va_alen (v := iI 112) hx hb hG.1 hP 1 0 rfl rfl (iI_nI _) dX6_putPerson_13 ?_
  refine ir_le (tgt := 18) hx hb dX6_putPerson_14 (by decide) (by omega) (by show ((-2147483648) : Int) ≤ 112 ∧ (112 : Int) ≤ 2147483647; decide) (fun c_3 => ?_) (fun c_3 => by exfalso; omega)
  refine lv_aload_n hx hb dX6_putPerson_18 rfl (lv_at hlv 1 rfl) ?_
  refine va_get (D := D) (ci := 6) (v := vR s8) (C := RX6) (T := TX6) (N := 19) hx hb hts hi6 hown hG.1 hP 0 rfl rfl 8 (by decide) lf19 (fun _ h9 => h9) rfl dX6_putPerson_19 ?_
  refine lv_iload hx hb dX6_putPerson_22 (lv_at hlv 0 rfl) ?_
  refine lv_iload_n hx hb dX6_putPerson_24 rfl (lv_at hlv 3 rfl) ?_
  refine va_iast hx hb hG.1 hP hD hS 1 0 rfl rfl (iI_in (by omega) (by decide)) dX6_putPerson_25 (fun H locs hP hD hS => ?_)
  have ⟨f_4, hdf_4, hP, hD⟩ : ∃ f_4 : Nat → Int32, f_4 = upd pf (iI z_1).toNatClampNeg (iI x) ∧ va_P D vwCl [zO sA 6 [vI wi, vI ro, vR s2, vR s3, vI dr, vI dt, vR s6, vI pe, vR s8, vI gu, vI sh, vR s11, vI wo, vR s13, vI dn, vI mi, vI fl, vI tk, vI go], zI s8 (cy 0) 112 f_4] H ∧ va_D A [zO sA 6 [vI wi, vI ro, vR s2, vR s3, vI dr, vI dt, vR s6, vI pe, vR s8, vI gu, vI sh, vR s11, vI wo, vR s13, vI dn, vI mi, vI fl, vI tk, vI go], zI s8 (cy 0) 112 f_4] := ⟨_, rfl, hP, hD⟩
  have hif_4 : tab_ 4 28 [0, 0, (-2147483648), (-2147483648)] [15, 19, 2147483647, 2147483647] f_4 := by rw [hdf_4]; exact tab_wr hpf (e := z_1) (k := k) (c := 0) (a := 0) (b := 15) (by omega) (by omega) (by decide) (by omega) rfl rfl (by omega)
  refine lv_aload_n hx hb dX6_putPerson_26 rfl (lv_at hlv 1 rfl) ?_
  refine va_get (D := D) (ci := 6) (v := vR s8) (C := RX6) (T := TX6) (N := 19) hx hb hts hi6 hown hG.1 hP 0 rfl rfl 8 (by decide) lf19 (fun _ h9 => h9) rfl dX6_putPerson_27 ?_
  refine lv_iload hx hb dX6_putPerson_30 (lv_at hlv 0 rfl) ?_
  refine lv_iconst (v := iI 1) hx hb dX6_putPerson_32 (by decide) ?_
  refine lv_iadd hx hb dX6_putPerson_33 ?_
  refine lt_e (e0 := z_1 + 1) (Int32.ofInt_add _ _).symm (fun z_5 hz_5 => ?_)
  refine lv_iload_n hx hb dX6_putPerson_34 rfl (lv_at hlv 4 rfl) ?_
  refine va_iast hx hb hG.1 hP hD hS 1 0 rfl rfl (iI_in (by omega) (by decide)) dX6_putPerson_35 (fun H locs hP hD hS => ?_)
  have ⟨f_6, hdf_6, hP, hD⟩ : ∃ f_6 : Nat → Int32, f_6 = upd f_4 (iI z_5).toNatClampNeg (iI f) ∧ va_P D vwCl [zO sA 6 [vI wi, vI ro, vR s2, vR s3, vI dr, vI dt, vR s6, vI pe, vR s8, vI gu, vI sh, vR s11, vI wo, vR s13, vI dn, vI mi, vI fl, vI tk, vI go], zI s8 (cy 0) 112 f_6] H ∧ va_D A [zO sA 6 [vI wi, vI ro, vR s2, vR s3, vI dr, vI dt, vR s6, vI pe, vR s8, vI gu, vI sh, vR s11, vI wo, vR s13, vI dn, vI mi, vI fl, vI tk, vI go], zI s8 (cy 0) 112 f_6] := ⟨_, rfl, hP, hD⟩
  have hif_6 : tab_ 4 28 [0, 0, (-2147483648), (-2147483648)] [15, 19, 2147483647, 2147483647] f_6 := by rw [hdf_6]; exact tab_wr hif_4 (e := z_5) (k := k) (c := 1) (a := 0) (b := 19) (by omega) (by omega) (by decide) (by omega) rfl rfl (by omega)
  refine lv_aload_n hx hb dX6_putPerson_36 rfl (lv_at hlv 1 rfl) ?_
  refine va_get (D := D) (ci := 6) (v := vR s8) (C := RX6) (T := TX6) (N := 19) hx hb hts hi6 hown hG.1 hP 0 rfl rfl 8 (by decide) lf19 (fun _ h9 => h9) rfl dX6_putPerson_37 ?_
  refine lv_iload hx hb dX6_putPerson_40 (lv_at hlv 0 rfl) ?_
  refine lv_iconst (v := iI 2) hx hb dX6_putPerson_42 (by decide) ?_
  refine lv_iadd hx hb dX6_putPerson_43 ?_
  refine lt_e (e0 := z_1 + 2) (Int32.ofInt_add _ _).symm (fun z_7 hz_7 => ?_)
  refine lv_iconst (v := iI 0) hx hb dX6_putPerson_44 (by decide) ?_
  refine va_iast hx hb hG.1 hP hD hS 1 0 rfl rfl (iI_in (by omega) (by decide)) dX6_putPerson_45 (fun H locs hP hD hS => ?_)
  have ⟨f_8, hdf_8, hP, hD⟩ : ∃ f_8 : Nat → Int32, f_8 = upd f_6 (iI z_7).toNatClampNeg (iI 0) ∧ va_P D vwCl [zO sA 6 [vI wi, vI ro, vR s2, vR s3, vI dr, vI dt, vR s6, vI pe, vR s8, vI gu, vI sh, vR s11, vI wo, vR s13, vI dn, vI mi, vI fl, vI tk, vI go], zI s8 (cy 0) 112 f_8] H ∧ va_D A [zO sA 6 [vI wi, vI ro, vR s2, vR s3, vI dr, vI dt, vR s6, vI pe, vR s8, vI gu, vI sh, vR s11, vI wo, vR s13, vI dn, vI mi, vI fl, vI tk, vI go], zI s8 (cy 0) 112 f_8] := ⟨_, rfl, hP, hD⟩
  have hif_8 : tab_ 4 28 [0, 0, (-2147483648), (-2147483648)] [15, 19, 2147483647, 2147483647] f_8 := by rw [hdf_8]; exact tab_wr hif_6 (e := z_7) (k := k) (c := 2) (a := (-2147483648)) (b := 2147483647) (by omega) (by omega) (by decide) (by omega) rfl rfl (by omega)
  refine lv_aload_n hx hb dX6_putPerson_46 rfl (lv_at hlv 1 rfl) ?_
  refine va_get (D := D) (ci := 6) (v := vR s8) (C := RX6) (T := TX6) (N := 19) hx hb hts hi6 hown hG.1 hP 0 rfl rfl 8 (by decide) lf19 (fun _ h9 => h9) rfl dX6_putPerson_47 ?_
  refine lv_iload hx hb dX6_putPerson_50 (lv_at hlv 0 rfl) ?_
  refine lv_iconst (v := iI 3) hx hb dX6_putPerson_52 (by decide) ?_
  refine lv_iadd hx hb dX6_putPerson_53 ?_
  refine lt_e (e0 := z_1 + 3) (Int32.ofInt_add _ _).symm (fun z_9 hz_9 => ?_)
  refine lv_iconst (v := iI 0) hx hb dX6_putPerson_54 (by decide) ?_
  refine va_iast hx hb hG.1 hP hD hS 1 0 rfl rfl (iI_in (by omega) (by decide)) dX6_putPerson_55 (fun H locs hP hD hS => ?_)
  have ⟨f_10, hdf_10, hP, hD⟩ : ∃ f_10 : Nat → Int32, f_10 = upd f_8 (iI z_9).toNatClampNeg (iI 0) ∧ va_P D vwCl [zO sA 6 [vI wi, vI ro, vR s2, vR s3, vI dr, vI dt, vR s6, vI pe, vR s8, vI gu, vI sh, vR s11, vI wo, vR s13, vI dn, vI mi, vI fl, vI tk, vI go], zI s8 (cy 0) 112 f_10] H ∧ va_D A [zO sA 6 [vI wi, vI ro, vR s2, vR s3, vI dr, vI dt, vR s6, vI pe, vR s8, vI gu, vI sh, vR s11, vI wo, vR s13, vI dn, vI mi, vI fl, vI tk, vI go], zI s8 (cy 0) 112 f_10] := ⟨_, rfl, hP, hD⟩
  have hif_10 : tab_ 4 28 [0, 0, (-2147483648), (-2147483648)] [15, 19, 2147483647, 2147483647] f_10 := by rw [hdf_10]; exact tab_wr hif_8 (e := z_9) (k := k) (c := 3) (a := (-2147483648)) (b := 2147483647) (by omega) (by omega) (by decide) (by omega) rfl rfl (by omega)
  refine W.widen (k := 0) (n := 0) (Nat.le_of_ble_eq_true rfl) (Nat.le_of_ble_eq_true rfl) ?_
  exact W.vret hx hb hr (fun t ht hW => ⟨⟨((fun k => ([] : List Nat).getD k 0), (fun k => ([] : List Int).getD k 0), (fun k => ([f_10] : List (Nat → Int32)).getD k (fun _ => 0))), rfl, ⟨(by show (nz (f_10) = (upz (upz (upz (upz (nz pf) (4 * k) x) (4 * k + 1) f) (4 * k + 2) 0) (4 * k + 3) 0)); exact (upz_c (upz_c (upz_c (upz_c rfl hdf_4 (by omega) (by omega) (by omega) (by omega)) hdf_6 (by omega) (by omega) (by omega) (by omega)) hdf_8 (by omega) (by omega) (by omega) (by omega)) hdf_10 (by omega) (by omega) (by omega) (by omega))), hif_10⟩, by rw [ht]; exact hP.sub [0, 1] rfl, hD.sub [0, 1] (by decide) rfl⟩, hS.F ht⟩) hS.2.2 dX6_putPerson_56
def vs_e_addPerson : List Cond := .code yX6_addPerson cX6_addPerson 3 none :: (([.fieldLink RX6 47 "KerbSplash$Street" "persons" "I"] : List Cond) ++ ((wsX60) ++ ((wsV RX6 84 RX6 yX6_putPerson vs_e_putPerson) ++ ([]))))
theorem gd_e_addPerson : vs_e_addPerson.all goodWord = true := gd_C (by decide +kernel) (gd_A (by decide +kernel) (gd_A (by decide +kernel) (gd_A (gd_V gd_e_putPerson (by decide +kernel)) rfl)))
set_option maxHeartbeats 4000000 in
set_option maxRecDepth 100000 in
theorem e_addPerson (l : Launch) (hl : l.stackTraces = false) (D : va_G) (cy : Nat → ClassId) (sa : Nat → Nat) (sA s2 s3 s6 s8 s11 s13 : Nat) (wi ro dr dt pe gu sh wo dn mi fl tk go : Int) (pf : Nat → Int32) (x f : Int) (sz : Nat) (hr_wi : 0 ≤ wi ∧ wi ≤ 16) (hr_ro : 0 ≤ ro ∧ ro ≤ 6) (hr_dr : 0 ≤ dr ∧ dr ≤ 14) (hr_dt : 0 ≤ dt ∧ dt ≤ 6) (hr_pe : 0 ≤ pe ∧ pe ≤ 8) (hr_gu : 0 ≤ gu ∧ gu ≤ 20) (hr_sh : 0 ≤ sh ∧ sh ≤ 2) (hr_wo : 0 ≤ wo ∧ wo ≤ 8) (hr_dn : (-2147483648) ≤ dn ∧ dn ≤ 2147483647) (hr_mi : 0 ≤ mi ∧ mi ≤ 600) (hr_fl : (-2147483648) ≤ fl ∧ fl ≤ 2147483647) (hr_tk : (-2147483648) ≤ tk ∧ tk ≤ 2147483647) (hr_go : (-2147483648) ≤ go ∧ go ≤ 2147483647) (hr_x : 0 ≤ x ∧ x ≤ 15) (hr_f : 0 ≤ f ∧ f ≤ 19) (hp0 : pe < 8) (hpf : tab_ 4 28 [0, 0, (-2147483648), (-2147483648)] [15, 19, 2147483647, 2147483647] pf) : Met l yX6_addPerson vs_e_addPerson ({ frames := 1, cells := 0, slots := 0, locals := 24 }) (va_Pc [vR sA, vI x, vI f] (pcW D cy sa sz [zO sA 6 [vI wi, vI ro, vR s2, vR s3, vI dr, vI dt, vR s6, vI pe, vR s8, vI gu, vI sh, vR s11, vI wo, vR s13, vI dn, vI mi, vI fl, vI tk, vI go], zI s8 (cy 0) 112 pf])) (va_Qv (fun u : SV => (0 ≤ u.2.1 0 ∧ u.2.1 0 ≤ 8) ∧ (u.2.1 0 = pe + 1) ∧ (nz (u.2.2 0) = (upz (upz (upz (upz (nz pf) (4 * pe) x) (4 * pe + 1) f) (4 * pe + 2) 0) (4 * pe + 3) 0)) ∧ tab_ 4 28 [0, 0, (-2147483648), (-2147483648)] [15, 19, 2147483647, 2147483647] (u.2.2 0)) (fun u t => atW D (va_A [zO sA 6 [vI wi, vI ro, vR s2, vR s3, vI dr, vI dt, vR s6, vI pe, vR s8, vI gu, vI sh, vR s11, vI wo, vR s13, vI dn, vI mi, vI fl, vI tk, vI go], zI s8 (cy 0) 112 pf] sz) [zO sA 6 [vI wi, vI ro, vR s2, vR s3, vI dr, vI dt, vR s6, vI (u.2.1 0), vR s8, vI gu, vI sh, vR s11, vI wo, vR s13, vI dn, vI mi, vI fl, vI tk, vI go], zI s8 (cy 0) 112 (u.2.2 0)] t) (va_A [zO sA 6 [vI wi, vI ro, vR s2, vR s3, vI dr, vI dt, vR s6, vI pe, vR s8, vI gu, vI sh, vR s11, vI wo, vR s13, vI dn, vI mi, vI fl, vI tk, vI go], zI s8 (cy 0) 112 pf] sz)) 0 0 (va_A [zO sA 6 [vI wi, vI ro, vR s2, vR s3, vI dr, vI dt, vR s6, vI pe, vR s8, vI gu, vI sh, vR s11, vI wo, vR s13, vI dn, vI mi, vI fl, vI tk, vI go], zI s8 (cy 0) 112 pf] sz) := by
  refine Met.ofW (cc := cX6_addPerson) (maxL := 3) (ret := none) (by decide) rfl ?_
  intro p e s m args below meth c s₁ B hml hv
  obtain ⟨rfl, hsz, hP, hG, hD0, hT⟩ := hv
  have hx := B.exec
  have hb := B.bytes
  have hr := B.returns
  have hts := atoms_spec (ws := vs_e_addPerson) B.pre
  have hown : s.vm.findClass RX6 = some m.cls := findClass_of_methodNamed B.named
  have hlocks := B.notSynchronized
  subst hsz
  have hD := hD0.self (sz := s.heap.size)
  generalize hAe : va_A [zO sA 6 [vI wi, vI ro, vR s2, vR s3, vI dr, vI dt, vR s6, vI pe, vR s8, vI gu, vI sh, vR s11, vI wo, vR s13, vI dn, vI mi, vI fl, vI tk, vI go], zI s8 (cy 0) 112 pf] s.heap.size = A at hD hT ⊢
  have hA : ∀ q : Nat, s.heap.size ≤ q → A q := fun q h => by rw [← hAe]; exact Or.inr h
  have hS : va_S A s.heap s.heap [] := va_S.rf
  have hl0 := lv_entry ([vR sA, vI x, vI f]) (n := 3) (Nat.le_of_ble_eq_true rfl)
  rw [lg_entry_eq]
  generalize (lg_sl ([vR sA, vI x, vI f]) ++ List.replicate (3 - (lg_sl ([vR sA, vI x, vI f])).length) Slot.unset).toArray = ls at hl0 ⊢
  have hlv : lv_has ls 3 [(0, vR sA), (1, vI x), (2, vI f)] := hl0
  have lf47 := hts (.fieldLink RX6 47 "KerbSplash$Street" "persons" "I") (List.mem_of_getElem? (i := 1) rfl)
  have hi6 : ∀ w ∈ wsX60, w ∈ vs_e_addPerson := fun w h => List.mem_cons_of_mem _ (List.mem_append_right _ (List.mem_append_left _ h))
  have gg_1 : GoodIn vs_e_addPerson (wsV RX6 84 RX6 yX6_putPerson vs_e_putPerson) := goodIn_sub (fun w h => List.mem_cons_of_mem _ (List.mem_append_right _ (List.mem_append_right _ (List.mem_append_left _ h)))) (gd_V gd_e_putPerson (by decide +kernel))
  refine lv_aload_n hx hb dX6_addPerson_0 rfl (lv_at hlv 0 rfl) ?_
  refine lv_aload_n hx hb dX6_addPerson_1 rfl (lv_at hlv 0 rfl) ?_
  refine va_get (D := D) (ci := 6) (v := vI pe) (C := RX6) (T := TX6) (N := 19) hx hb hts hi6 hown hG.1 hP 0 rfl rfl 7 (by decide) lf47 (fun _ h9 => h9) rfl dX6_addPerson_2 ?_
  refine lv_iload_n hx hb dX6_addPerson_5 rfl (lv_at hlv 1 rfl) ?_
  refine lv_iload_n hx hb dX6_addPerson_6 rfl (lv_at hlv 2 rfl) ?_
  refine cj_v (wr := []) (va_runV (As := [vI pe, vI x, vI f]) (rest := []) ⟨hx, hb, hml, hown, hts⟩ (e_putPerson l hl D cy sa sA s2 s3 s6 s8 s11 s13 wi ro dr dt pe gu sh wo dn mi fl tk go pf pe x f s.heap.size (by first | exact hr_wi | omega) (by first | exact hr_ro | omega) (by first | exact hr_dr | omega) (by first | exact hr_dt | omega) (by first | exact hr_pe | omega) (by first | exact hr_gu | omega) (by first | exact hr_sh | omega) (by first | exact hr_wo | omega) (by first | exact hr_dn | omega) (by first | exact hr_mi | omega) (by first | exact hr_fl | omega) (by first | exact hr_tk | omega) (by first | exact hr_go | omega) (by first | exact rgw hr_pe (by decide) (by decide) | omega) (by first | exact hr_x | omega) (by first | exact hr_f | omega) hpf) (cwV 3 hts gg_1 rfl rfl rfl (by decide +kernel) ⟨Nat.le_of_ble_eq_true rfl, Nat.le_of_ble_eq_true rfl⟩) ⟨pcW.blind, (va_recv hG.1 hP (ci := 6) (q0 := 0) rfl rfl), (pcW.mk hP hD hS hA hG hT [0, 1] rfl (by decide))⟩ rfl rfl hlv.1 rfl (lv_room (Nat.le_of_ble_eq_true rfl)) dX6_addPerson_7 ⟨Nat.le_of_ble_eq_true rfl, Nat.le_of_ble_eq_true rfl⟩) hP hD hS hA [0, 1] [] rfl rfl (by decide) (by decide) (fun u1 H locs hw1 hP hD hS => ?_)
  obtain ⟨hq1_0, hq1_1⟩ := hw1
  have hP : va_P D vwCl [zO sA 6 [vI wi, vI ro, vR s2, vR s3, vI dr, vI dt, vR s6, vI pe, vR s8, vI gu, vI sh, vR s11, vI wo, vR s13, vI dn, vI mi, vI fl, vI tk, vI go], zI s8 (cy 0) 112 (u1.2.2 0)] H := hP
  have hD : va_D A [zO sA 6 [vI wi, vI ro, vR s2, vR s3, vI dr, vI dt, vR s6, vI pe, vR s8, vI gu, vI sh, vR s11, vI wo, vR s13, vI dn, vI mi, vI fl, vI tk, vI go], zI s8 (cy 0) 112 (u1.2.2 0)] := hD
  refine lv_aload_n hx hb dX6_addPerson_10 rfl (lv_at hlv 0 rfl) ?_
  refine lv_dup hx hb dX6_addPerson_11 rfl ?_
  refine va_get (D := D) (ci := 6) (v := vI pe) (C := RX6) (T := TX6) (N := 19) hx hb hts hi6 hown hG.1 hP 0 rfl rfl 7 (by decide) lf47 (fun _ h9 => h9) rfl dX6_addPerson_12 ?_
  refine lv_iconst (v := iI 1) hx hb dX6_addPerson_15 (by decide) ?_
  refine lv_iadd hx hb dX6_addPerson_16 ?_
  refine lt_e (e0 := pe + 1) (Int32.ofInt_add _ _).symm (fun z_1 hz_1 => ?_)
  refine va_put (D := D) (ci := 6) (v := vI z_1) (ty := .int) (C := RX6) (T := TX6) (N := 19) hx hb hts hi6 tyX6 tyX6_ok nmX6 hown hG.1 hP hD hS 0 rfl rfl 7 (by decide) lf47 (fun _ h9 => h9) rfl (by decide +kernel) rfl rfl (Nat.le_of_ble_eq_true rfl) dX6_addPerson_17 (fun H locs hP hD hS => ?_)
  have hP : va_P D vwCl [zO sA 6 [vI wi, vI ro, vR s2, vR s3, vI dr, vI dt, vR s6, vI z_1, vR s8, vI gu, vI sh, vR s11, vI wo, vR s13, vI dn, vI mi, vI fl, vI tk, vI go], zI s8 (cy 0) 112 (u1.2.2 0)] H := hP
  have hD : va_D A [zO sA 6 [vI wi, vI ro, vR s2, vR s3, vI dr, vI dt, vR s6, vI z_1, vR s8, vI gu, vI sh, vR s11, vI wo, vR s13, vI dn, vI mi, vI fl, vI tk, vI go], zI s8 (cy 0) 112 (u1.2.2 0)] := hD
  refine W.widen (k := 0) (n := 0) (Nat.le_of_ble_eq_true rfl) (Nat.le_of_ble_eq_true rfl) ?_
  exact W.vret hx hb hr (fun t ht hW => ⟨⟨((fun k => ([] : List Nat).getD k 0), (fun k => ([z_1] : List Int).getD k 0), (fun k => ([(u1.2.2 0)] : List (Nat → Int32)).getD k (fun _ => 0))), rfl, ⟨(by show (0 ≤ z_1 ∧ z_1 ≤ 8); omega), (by show (z_1 = pe + 1); omega), (by show (nz ((u1.2.2 0)) = (upz (upz (upz (upz (nz pf) (4 * pe) x) (4 * pe + 1) f) (4 * pe + 2) 0) (4 * pe + 3) 0)); exact hq1_0), hq1_1⟩, by rw [ht]; exact hP.sub [0, 1] rfl, hD.sub [0, 1] (by decide) rfl⟩, hS.F ht⟩) hS.2.2 dX6_addPerson_20
def vs_e_addDrain : List Cond := .code yX6_addDrain cX6_addDrain 6 none :: (([.fieldLink RX6 41 "KerbSplash$Street" "drains" "I", .fieldLink RX6 16 "KerbSplash$Street" "drain" "[I"] : List Cond) ++ ((wsX60) ++ ([])))
theorem gd_e_addDrain : vs_e_addDrain.all goodWord = true := gd_C (by decide +kernel) (gd_A (by decide +kernel) (gd_A (by decide +kernel) rfl))
set_option maxHeartbeats 4000000 in
set_option maxRecDepth 100000 in
theorem e_addDrain (l : Launch) (hl : l.stackTraces = false) (D : va_G) (cy : Nat → ClassId) (sa : Nat → Nat) (sA s2 s3 s6 s8 s11 s13 : Nat) (wi ro dr dt pe gu sh wo dn mi fl tk go : Int) (df : Nat → Int32) (x y ra lv : Int) (sz : Nat) (hr_wi : 0 ≤ wi ∧ wi ≤ 16) (hr_ro : 0 ≤ ro ∧ ro ≤ 6) (hr_dr : 0 ≤ dr ∧ dr ≤ 14) (hr_dt : 0 ≤ dt ∧ dt ≤ 6) (hr_pe : 0 ≤ pe ∧ pe ≤ 8) (hr_gu : 0 ≤ gu ∧ gu ≤ 20) (hr_sh : 0 ≤ sh ∧ sh ≤ 2) (hr_wo : 0 ≤ wo ∧ wo ≤ 8) (hr_dn : (-2147483648) ≤ dn ∧ dn ≤ 2147483647) (hr_mi : 0 ≤ mi ∧ mi ≤ 600) (hr_fl : (-2147483648) ≤ fl ∧ fl ≤ 2147483647) (hr_tk : (-2147483648) ≤ tk ∧ tk ≤ 2147483647) (hr_go : (-2147483648) ≤ go ∧ go ≤ 2147483647) (hr_x : 0 ≤ x ∧ x ≤ 15) (hr_y : 0 ≤ y ∧ y ≤ 5) (hr_ra : 0 ≤ ra ∧ ra ≤ 99) (hr_lv : 0 ≤ lv ∧ lv ≤ 16) (hp0 : dr < 14) (hdf : tab_ 4 14 [0, 0, 0, 0] [15, 5, 99, 16] df) : Met l yX6_addDrain vs_e_addDrain ({ frames := 0, cells := 0, slots := 0, locals := 0 }) (va_Pc [vR sA, vI x, vI y, vI ra, vI lv] (pcW D cy sa sz [zO sA 6 [vI wi, vI ro, vR s2, vR s3, vI dr, vI dt, vR s6, vI pe, vR s8, vI gu, vI sh, vR s11, vI wo, vR s13, vI dn, vI mi, vI fl, vI tk, vI go], zI s6 (cy 0) 56 df])) (va_Qv (fun u : SV => (0 ≤ u.2.1 0 ∧ u.2.1 0 ≤ 14) ∧ (u.2.1 0 = dr + 1) ∧ (nz (u.2.2 0) = (upz (upz (upz (upz (nz df) (4 * dr) x) (4 * dr + 1) y) (4 * dr + 2) ra) (4 * dr + 3) lv)) ∧ tab_ 4 14 [0, 0, 0, 0] [15, 5, 99, 16] (u.2.2 0)) (fun u t => atW D (va_A [zO sA 6 [vI wi, vI ro, vR s2, vR s3, vI dr, vI dt, vR s6, vI pe, vR s8, vI gu, vI sh, vR s11, vI wo, vR s13, vI dn, vI mi, vI fl, vI tk, vI go], zI s6 (cy 0) 56 df] sz) [zO sA 6 [vI wi, vI ro, vR s2, vR s3, vI (u.2.1 0), vI dt, vR s6, vI pe, vR s8, vI gu, vI sh, vR s11, vI wo, vR s13, vI dn, vI mi, vI fl, vI tk, vI go], zI s6 (cy 0) 56 (u.2.2 0)] t) (va_A [zO sA 6 [vI wi, vI ro, vR s2, vR s3, vI dr, vI dt, vR s6, vI pe, vR s8, vI gu, vI sh, vR s11, vI wo, vR s13, vI dn, vI mi, vI fl, vI tk, vI go], zI s6 (cy 0) 56 df] sz)) 0 0 (va_A [zO sA 6 [vI wi, vI ro, vR s2, vR s3, vI dr, vI dt, vR s6, vI pe, vR s8, vI gu, vI sh, vR s11, vI wo, vR s13, vI dn, vI mi, vI fl, vI tk, vI go], zI s6 (cy 0) 56 df] sz) := by
  refine Met.ofW (cc := cX6_addDrain) (maxL := 6) (ret := none) (by decide) rfl ?_
  intro p e s m args below meth c s₁ B hml hv
  obtain ⟨rfl, hsz, hP, hG, hD0, hT⟩ := hv
  have hx := B.exec
  have hb := B.bytes
  have hr := B.returns
  have hts := atoms_spec (ws := vs_e_addDrain) B.pre
  have hown : s.vm.findClass RX6 = some m.cls := findClass_of_methodNamed B.named
  have hlocks := B.notSynchronized
  subst hsz
  have hD := hD0.self (sz := s.heap.size)
  generalize hAe : va_A [zO sA 6 [vI wi, vI ro, vR s2, vR s3, vI dr, vI dt, vR s6, vI pe, vR s8, vI gu, vI sh, vR s11, vI wo, vR s13, vI dn, vI mi, vI fl, vI tk, vI go], zI s6 (cy 0) 56 df] s.heap.size = A at hD hT ⊢
  have hA : ∀ q : Nat, s.heap.size ≤ q → A q := fun q h => by rw [← hAe]; exact Or.inr h
  have hS : va_S A s.heap s.heap [] := va_S.rf
  have hl0 := lv_entry ([vR sA, vI x, vI y, vI ra, vI lv]) (n := 6) (Nat.le_of_ble_eq_true rfl)
  rw [lg_entry_eq]
  generalize (lg_sl ([vR sA, vI x, vI y, vI ra, vI lv]) ++ List.replicate (6 - (lg_sl ([vR sA, vI x, vI y, vI ra, vI lv])).length) Slot.unset).toArray = ls at hl0 ⊢
  have hlv : lv_has ls 6 [(0, vR sA), (1, vI x), (2, vI y), (3, vI ra), (4, vI lv)] := hl0
  have lf41 := hts (.fieldLink RX6 41 "KerbSplash$Street" "drains" "I") (List.mem_of_getElem? (i := 1) rfl)
  have hi6 : ∀ w ∈ wsX60, w ∈ vs_e_addDrain := fun w h => List.mem_cons_of_mem _ (List.mem_append_right _ (List.mem_append_left _ h))
  have lf16 := hts (.fieldLink RX6 16 "KerbSplash$Street" "drain" "[I") (List.mem_of_getElem? (i := 2) rfl)
  refine lv_iconst (v := iI 4) hx hb dX6_addDrain_0 (by decide) ?_
  refine lv_aload_n hx hb dX6_addDrain_1 rfl (lv_at hlv 0 rfl) ?_
  refine va_get (D := D) (ci := 6) (v := vI dr) (C := RX6) (T := TX6) (N := 19) hx hb hts hi6 hown hG.1 hP 0 rfl rfl 4 (by decide) lf41 (fun _ h9 => h9) rfl dX6_addDrain_2 ?_
  refine lv_imul hx hb dX6_addDrain_5 ?_
  refine lt_e (e0 := 4 * dr) (Int32.ofInt_mul _ _).symm (fun z_1 hz_1 => ?_)
  refine lv_istore (lv' := [(5, vI z_1), (0, vR sA), (1, vI x), (2, vI y), (3, vI ra), (4, vI lv)]) hx hb dX6_addDrain_6 hlv (by decide) rfl (fun ls hlv => ?_)
  refine lv_iload hx hb dX6_addDrain_8 (lv_at hlv 0 rfl) ?_
  refine lv_iconst (v := iI 4) hx hb dX6_addDrain_10 (by decide) ?_
  refine lv_iadd hx hb dX6_addDrain_11 ?_
  refine lt_e (e0 := z_1 + 4) (Int32.ofInt_add _ _).symm (fun z_2 hz_2 => ?_)
  refine lv_aload_n hx hb dX6_addDrain_12 rfl (lv_at hlv 1 rfl) ?_
  refine va_get (D := D) (ci := 6) (v := vR s6) (C := RX6) (T := TX6) (N := 19) hx hb hts hi6 hown hG.1 hP 0 rfl rfl 6 (by decide) lf16 (fun _ h9 => h9) rfl dX6_addDrain_13 ?_
  refine va_alen (v := iI 56) hx hb hG.1 hP 1 0 rfl rfl (iI_nI _) dX6_addDrain_16 ?_
  refine ir_le (tgt := 21) hx hb dX6_addDrain_17 (by decide) (by omega) (by show ((-2147483648) : Int) ≤ 56 ∧ (56 : Int) ≤ 2147483647; decide) (fun c_3 => ?_) (fun c_3 => ?_)
  · refine lv_aload_n hx hb dX6_addDrain_21 rfl (lv_at hlv 1 rfl) ?_
    refine va_get (D := D) (ci := 6) (v := vR s6) (C := RX6) (T := TX6) (N := 19) hx hb hts hi6 hown hG.1 hP 0 rfl rfl 6 (by decide) lf16 (fun _ h9 => h9) rfl dX6_addDrain_22 ?_
    refine lv_iload hx hb dX6_addDrain_25 (lv_at hlv 0 rfl) ?_
    refine lv_iload_n hx hb dX6_addDrain_27 rfl (lv_at hlv 2 rfl) ?_
    refine va_iast hx hb hG.1 hP hD hS 1 0 rfl rfl (iI_in (by omega) (by decide)) dX6_addDrain_28 (fun H locs hP hD hS => ?_)
    have ⟨f_4, hdf_4, hP, hD⟩ : ∃ f_4 : Nat → Int32, f_4 = upd df (iI z_1).toNatClampNeg (iI x) ∧ va_P D vwCl [zO sA 6 [vI wi, vI ro, vR s2, vR s3, vI dr, vI dt, vR s6, vI pe, vR s8, vI gu, vI sh, vR s11, vI wo, vR s13, vI dn, vI mi, vI fl, vI tk, vI go], zI s6 (cy 0) 56 f_4] H ∧ va_D A [zO sA 6 [vI wi, vI ro, vR s2, vR s3, vI dr, vI dt, vR s6, vI pe, vR s8, vI gu, vI sh, vR s11, vI wo, vR s13, vI dn, vI mi, vI fl, vI tk, vI go], zI s6 (cy 0) 56 f_4] := ⟨_, rfl, hP, hD⟩
    have hif_4 : tab_ 4 14 [0, 0, 0, 0] [15, 5, 99, 16] f_4 := by rw [hdf_4]; exact tab_wr hdf (e := z_1) (k := dr) (c := 0) (a := 0) (b := 15) (by omega) (by omega) (by decide) (by omega) rfl rfl (by omega)
    refine lv_aload_n hx hb dX6_addDrain_29 rfl (lv_at hlv 1 rfl) ?_
    refine va_get (D := D) (ci := 6) (v := vR s6) (C := RX6) (T := TX6) (N := 19) hx hb hts hi6 hown hG.1 hP 0 rfl rfl 6 (by decide) lf16 (fun _ h9 => h9) rfl dX6_addDrain_30 ?_
    refine lv_iload hx hb dX6_addDrain_33 (lv_at hlv 0 rfl) ?_
    refine lv_iconst (v := iI 1) hx hb dX6_addDrain_35 (by decide) ?_
    refine lv_iadd hx hb dX6_addDrain_36 ?_
    refine lt_e (e0 := z_1 + 1) (Int32.ofInt_add _ _).symm (fun z_5 hz_5 => ?_)
    refine lv_iload_n hx hb dX6_addDrain_37 rfl (lv_at hlv 3 rfl) ?_
    refine va_iast hx hb hG.1 hP hD hS 1 0 rfl rfl (iI_in (by omega) (by decide)) dX6_addDrain_38 (fun H locs hP hD hS => ?_)
    have ⟨f_6, hdf_6, hP, hD⟩ : ∃ f_6 : Nat → Int32, f_6 = upd f_4 (iI z_5).toNatClampNeg (iI y) ∧ va_P D vwCl [zO sA 6 [vI wi, vI ro, vR s2, vR s3, vI dr, vI dt, vR s6, vI pe, vR s8, vI gu, vI sh, vR s11, vI wo, vR s13, vI dn, vI mi, vI fl, vI tk, vI go], zI s6 (cy 0) 56 f_6] H ∧ va_D A [zO sA 6 [vI wi, vI ro, vR s2, vR s3, vI dr, vI dt, vR s6, vI pe, vR s8, vI gu, vI sh, vR s11, vI wo, vR s13, vI dn, vI mi, vI fl, vI tk, vI go], zI s6 (cy 0) 56 f_6] := ⟨_, rfl, hP, hD⟩
    have hif_6 : tab_ 4 14 [0, 0, 0, 0] [15, 5, 99, 16] f_6 := by rw [hdf_6]; exact tab_wr hif_4 (e := z_5) (k := dr) (c := 1) (a := 0) (b := 5) (by omega) (by omega) (by decide) (by omega) rfl rfl (by omega)
    refine lv_aload_n hx hb dX6_addDrain_39 rfl (lv_at hlv 1 rfl) ?_
    refine va_get (D := D) (ci := 6) (v := vR s6) (C := RX6) (T := TX6) (N := 19) hx hb hts hi6 hown hG.1 hP 0 rfl rfl 6 (by decide) lf16 (fun _ h9 => h9) rfl dX6_addDrain_40 ?_
    refine lv_iload hx hb dX6_addDrain_43 (lv_at hlv 0 rfl) ?_
    refine lv_iconst (v := iI 2) hx hb dX6_addDrain_45 (by decide) ?_
    refine lv_iadd hx hb dX6_addDrain_46 ?_
    refine lt_e (e0 := z_1 + 2) (Int32.ofInt_add _ _).symm (fun z_7 hz_7 => ?_)
    refine lv_iload_n hx hb dX6_addDrain_47 rfl (lv_at hlv 4 rfl) ?_
    refine va_iast hx hb hG.1 hP hD hS 1 0 rfl rfl (iI_in (by omega) (by decide)) dX6_addDrain_48 (fun H locs hP hD hS => ?_)
    have ⟨f_8, hdf_8, hP, hD⟩ : ∃ f_8 : Nat → Int32, f_8 = upd f_6 (iI z_7).toNatClampNeg (iI ra) ∧ va_P D vwCl [zO sA 6 [vI wi, vI ro, vR s2, vR s3, vI dr, vI dt, vR s6, vI pe, vR s8, vI gu, vI sh, vR s11, vI wo, vR s13, vI dn, vI mi, vI fl, vI tk, vI go], zI s6 (cy 0) 56 f_8] H ∧ va_D A [zO sA 6 [vI wi, vI ro, vR s2, vR s3, vI dr, vI dt, vR s6, vI pe, vR s8, vI gu, vI sh, vR s11, vI wo, vR s13, vI dn, vI mi, vI fl, vI tk, vI go], zI s6 (cy 0) 56 f_8] := ⟨_, rfl, hP, hD⟩
    have hif_8 : tab_ 4 14 [0, 0, 0, 0] [15, 5, 99, 16] f_8 := by rw [hdf_8]; exact tab_wr hif_6 (e := z_7) (k := dr) (c := 2) (a := 0) (b := 99) (by omega) (by omega) (by decide) (by omega) rfl rfl (by omega)
    refine lv_aload_n hx hb dX6_addDrain_49 rfl (lv_at hlv 1 rfl) ?_
    refine va_get (D := D) (ci := 6) (v := vR s6) (C := RX6) (T := TX6) (N := 19) hx hb hts hi6 hown hG.1 hP 0 rfl rfl 6 (by decide) lf16 (fun _ h9 => h9) rfl dX6_addDrain_50 ?_
    refine lv_iload hx hb dX6_addDrain_53 (lv_at hlv 0 rfl) ?_
    refine lv_iconst (v := iI 3) hx hb dX6_addDrain_55 (by decide) ?_
    refine lv_iadd hx hb dX6_addDrain_56 ?_
    refine lt_e (e0 := z_1 + 3) (Int32.ofInt_add _ _).symm (fun z_9 hz_9 => ?_)
    refine lv_iload hx hb dX6_addDrain_57 (lv_at hlv 5 rfl) ?_
    refine va_iast hx hb hG.1 hP hD hS 1 0 rfl rfl (iI_in (by omega) (by decide)) dX6_addDrain_59 (fun H locs hP hD hS => ?_)
    have ⟨f_10, hdf_10, hP, hD⟩ : ∃ f_10 : Nat → Int32, f_10 = upd f_8 (iI z_9).toNatClampNeg (iI lv) ∧ va_P D vwCl [zO sA 6 [vI wi, vI ro, vR s2, vR s3, vI dr, vI dt, vR s6, vI pe, vR s8, vI gu, vI sh, vR s11, vI wo, vR s13, vI dn, vI mi, vI fl, vI tk, vI go], zI s6 (cy 0) 56 f_10] H ∧ va_D A [zO sA 6 [vI wi, vI ro, vR s2, vR s3, vI dr, vI dt, vR s6, vI pe, vR s8, vI gu, vI sh, vR s11, vI wo, vR s13, vI dn, vI mi, vI fl, vI tk, vI go], zI s6 (cy 0) 56 f_10] := ⟨_, rfl, hP, hD⟩
    have hif_10 : tab_ 4 14 [0, 0, 0, 0] [15, 5, 99, 16] f_10 := by rw [hdf_10]; exact tab_wr hif_8 (e := z_9) (k := dr) (c := 3) (a := 0) (b := 16) (by omega) (by omega) (by decide) (by omega) rfl rfl (by omega)
    refine lv_aload_n hx hb dX6_addDrain_60 rfl (lv_at hlv 1 rfl) ?_
    refine lv_dup hx hb dX6_addDrain_61 rfl ?_
    refine va_get (D := D) (ci := 6) (v := vI dr) (C := RX6) (T := TX6) (N := 19) hx hb hts hi6 hown hG.1 hP 0 rfl rfl 4 (by decide) lf41 (fun _ h9 => h9) rfl dX6_addDrain_62 ?_
    refine lv_iconst (v := iI 1) hx hb dX6_addDrain_65 (by decide) ?_
    refine lv_iadd hx hb dX6_addDrain_66 ?_
    refine lt_e (e0 := dr + 1) (Int32.ofInt_add _ _).symm (fun z_11 hz_11 => ?_)
    refine va_put (D := D) (ci := 6) (v := vI z_11) (ty := .int) (C := RX6) (T := TX6) (N := 19) hx hb hts hi6 tyX6 tyX6_ok nmX6 hown hG.1 hP hD hS 0 rfl rfl 4 (by decide) lf41 (fun _ h9 => h9) rfl (by decide +kernel) rfl rfl (Nat.le_of_ble_eq_true rfl) dX6_addDrain_67 (fun H locs hP hD hS => ?_)
    have hP : va_P D vwCl [zO sA 6 [vI wi, vI ro, vR s2, vR s3, vI z_11, vI dt, vR s6, vI pe, vR s8, vI gu, vI sh, vR s11, vI wo, vR s13, vI dn, vI mi, vI fl, vI tk, vI go], zI s6 (cy 0) 56 f_10] H := hP
    have hD : va_D A [zO sA 6 [vI wi, vI ro, vR s2, vR s3, vI z_11, vI dt, vR s6, vI pe, vR s8, vI gu, vI sh, vR s11, vI wo, vR s13, vI dn, vI mi, vI fl, vI tk, vI go], zI s6 (cy 0) 56 f_10] := hD
    refine W.widen (k := 0) (n := 0) (Nat.le_of_ble_eq_true rfl) (Nat.le_of_ble_eq_true rfl) ?_
    exact W.vret hx hb hr (fun t ht hW => ⟨⟨((fun k => ([] : List Nat).getD k 0), (fun k => ([z_11] : List Int).getD k 0), (fun k => ([f_10] : List (Nat → Int32)).getD k (fun _ => 0))), rfl, ⟨(by show (0 ≤ z_11 ∧ z_11 ≤ 14); omega), (by show (z_11 = dr + 1); omega), (by show (nz (f_10) = (upz (upz (upz (upz (nz df) (4 * dr) x) (4 * dr + 1) y) (4 * dr + 2) ra) (4 * dr + 3) lv)); exact (upz_c (upz_c (upz_c (upz_c rfl hdf_4 (by omega) (by omega) (by omega) (by omega)) hdf_6 (by omega) (by omega) (by omega) (by omega)) hdf_8 (by omega) (by omega) (by omega) (by omega)) hdf_10 (by omega) (by omega) (by omega) (by omega))), hif_10⟩, by rw [ht]; exact hP.sub [0, 1] rfl, hD.sub [0, 1] (by decide) rfl⟩, hS.F ht⟩) hS.2.2 dX6_addDrain_70
  · refine W.widen (k := 0) (n := 0) (Nat.le_of_ble_eq_true rfl) (Nat.le_of_ble_eq_true rfl) ?_
    exact W.vret hx hb hr (fun t ht hW => ⟨⟨((fun k => ([] : List Nat).getD k 0), (fun k => ([dr] : List Int).getD k 0), (fun k => ([df] : List (Nat → Int32)).getD k (fun _ => 0))), rfl, ⟨(by show (0 ≤ dr ∧ dr ≤ 14); first | exact hr_dr | omega), (by show (dr = dr + 1); omega), (by show (nz (df) = (upz (upz (upz (upz (nz df) (4 * dr) x) (4 * dr + 1) y) (4 * dr + 2) ra) (4 * dr + 3) lv)); exact (by exfalso; omega)), hdf⟩, by rw [ht]; exact hP.sub [0, 1] rfl, hD.sub [0, 1] (by decide) rfl⟩, hS.F ht⟩) hS.2.2 dX6_addDrain_20
def vs_e_addShelter : List Cond := .code yX6_addShelter cX6_addShelter 4 none :: (([.fieldLink RX6 53 "KerbSplash$Street" "shelters" "I", .fieldLink RX6 22 "KerbSplash$Street" "shelter" "[I"] : List Cond) ++ ((wsX60) ++ ([])))
theorem gd_e_addShelter : vs_e_addShelter.all goodWord = true := gd_C (by decide +kernel) (gd_A (by decide +kernel) (gd_A (by decide +kernel) rfl))
set_option maxHeartbeats 4000000 in
set_option maxRecDepth 100000 in
theorem e_addShelter (l : Launch) (hl : l.stackTraces = false) (D : va_G) (cy : Nat → ClassId) (sa : Nat → Nat) (sA s2 s3 s6 s8 s11 s13 : Nat) (wi ro dr dt pe gu sh wo dn mi fl tk go : Int) (sf : Nat → Int32) (a b : Int) (sz : Nat) (hr_wi : 0 ≤ wi ∧ wi ≤ 16) (hr_ro : 0 ≤ ro ∧ ro ≤ 6) (hr_dr : 0 ≤ dr ∧ dr ≤ 14) (hr_dt : 0 ≤ dt ∧ dt ≤ 6) (hr_pe : 0 ≤ pe ∧ pe ≤ 8) (hr_gu : 0 ≤ gu ∧ gu ≤ 20) (hr_sh : 0 ≤ sh ∧ sh ≤ 2) (hr_wo : 0 ≤ wo ∧ wo ≤ 8) (hr_dn : (-2147483648) ≤ dn ∧ dn ≤ 2147483647) (hr_mi : 0 ≤ mi ∧ mi ≤ 600) (hr_fl : (-2147483648) ≤ fl ∧ fl ≤ 2147483647) (hr_tk : (-2147483648) ≤ tk ∧ tk ≤ 2147483647) (hr_go : (-2147483648) ≤ go ∧ go ≤ 2147483647) (hr_a : (-2147483648) ≤ a ∧ a ≤ 2147483647) (hr_b : (-2147483648) ≤ b ∧ b ≤ 2147483647) (hp0 : sh < 2) : Met l yX6_addShelter vs_e_addShelter ({ frames := 0, cells := 0, slots := 0, locals := 0 }) (va_Pc [vR sA, vI a, vI b] (pcW D cy sa sz [zO sA 6 [vI wi, vI ro, vR s2, vR s3, vI dr, vI dt, vR s6, vI pe, vR s8, vI gu, vI sh, vR s11, vI wo, vR s13, vI dn, vI mi, vI fl, vI tk, vI go], zI s11 (cy 0) 4 sf])) (va_Qv (fun u : SV => (0 ≤ u.2.1 0 ∧ u.2.1 0 ≤ 2) ∧ (u.2.1 0 = sh + 1) ∧ (nz (u.2.2 0) = (upz (upz (nz sf) (2 * sh) a) (2 * sh + 1) b))) (fun u t => atW D (va_A [zO sA 6 [vI wi, vI ro, vR s2, vR s3, vI dr, vI dt, vR s6, vI pe, vR s8, vI gu, vI sh, vR s11, vI wo, vR s13, vI dn, vI mi, vI fl, vI tk, vI go], zI s11 (cy 0) 4 sf] sz) [zO sA 6 [vI wi, vI ro, vR s2, vR s3, vI dr, vI dt, vR s6, vI pe, vR s8, vI gu, vI (u.2.1 0), vR s11, vI wo, vR s13, vI dn, vI mi, vI fl, vI tk, vI go], zI s11 (cy 0) 4 (u.2.2 0)] t) (va_A [zO sA 6 [vI wi, vI ro, vR s2, vR s3, vI dr, vI dt, vR s6, vI pe, vR s8, vI gu, vI sh, vR s11, vI wo, vR s13, vI dn, vI mi, vI fl, vI tk, vI go], zI s11 (cy 0) 4 sf] sz)) 0 0 (va_A [zO sA 6 [vI wi, vI ro, vR s2, vR s3, vI dr, vI dt, vR s6, vI pe, vR s8, vI gu, vI sh, vR s11, vI wo, vR s13, vI dn, vI mi, vI fl, vI tk, vI go], zI s11 (cy 0) 4 sf] sz) := by
  refine Met.ofW (cc := cX6_addShelter) (maxL := 4) (ret := none) (by decide) rfl ?_
  intro p e s m args below meth c s₁ B hml hv
  obtain ⟨rfl, hsz, hP, hG, hD0, hT⟩ := hv
  have hx := B.exec
  have hb := B.bytes
  have hr := B.returns
  have hts := atoms_spec (ws := vs_e_addShelter) B.pre
  have hown : s.vm.findClass RX6 = some m.cls := findClass_of_methodNamed B.named
  have hlocks := B.notSynchronized
  subst hsz
  have hD := hD0.self (sz := s.heap.size)
  generalize hAe : va_A [zO sA 6 [vI wi, vI ro, vR s2, vR s3, vI dr, vI dt, vR s6, vI pe, vR s8, vI gu, vI sh, vR s11, vI wo, vR s13, vI dn, vI mi, vI fl, vI tk, vI go], zI s11 (cy 0) 4 sf] s.heap.size = A at hD hT ⊢
  have hA : ∀ q : Nat, s.heap.size ≤ q → A q := fun q h => by rw [← hAe]; exact Or.inr h
  have hS : va_S A s.heap s.heap [] := va_S.rf
  have hl0 := lv_entry ([vR sA, vI a, vI b]) (n := 4) (Nat.le_of_ble_eq_true rfl)
  rw [lg_entry_eq]
  generalize (lg_sl ([vR sA, vI a, vI b]) ++ List.replicate (4 - (lg_sl ([vR sA, vI a, vI b])).length) Slot.unset).toArray = ls at hl0 ⊢
  have hlv : lv_has ls 4 [(0, vR sA), (1, vI a), (2, vI b)] := hl0
  have lf53 := hts (.fieldLink RX6 53 "KerbSplash$Street" "shelters" "I") (List.mem_of_getElem? (i := 1) rfl)
  have hi6 : ∀ w ∈ wsX60, w ∈ vs_e_addShelter := fun w h => List.mem_cons_of_mem _ (List.mem_append_right _ (List.mem_append_left _ h))
  have lf22 := hts (.fieldLink RX6 22 "KerbSplash$Street" "shelter" "[I") (List.mem_of_getElem? (i := 2) rfl)
  refine lv_iconst (v := iI 2) hx hb dX6_addShelter_0 (by decide) ?_
  refine lv_aload_n hx hb dX6_addShelter_1 rfl (lv_at hlv 0 rfl) ?_
  refine va_get (D := D) (ci := 6) (v := vI sh) (C := RX6) (T := TX6) (N := 19) hx hb hts hi6 hown hG.1 hP 0 rfl rfl 10 (by decide) lf53 (fun _ h9 => h9) rfl dX6_addShelter_2 ?_
  refine lv_imul hx hb dX6_addShelter_5 ?_
  refine lt_e (e0 := 2 * sh) (Int32.ofInt_mul _ _).symm (fun z_1 hz_1 => ?_)
  refine lv_istore_n (lv' := [(3, vI z_1), (0, vR sA), (1, vI a), (2, vI b)]) hx hb dX6_addShelter_6 rfl hlv (by decide) rfl (fun ls hlv => ?_)
  refine lv_iload_n hx hb dX6_addShelter_7 rfl (lv_at hlv 0 rfl) ?_
  refine lv_iconst (v := iI 2) hx hb dX6_addShelter_8 (by decide) ?_
  refine lv_iadd hx hb dX6_addShelter_9 ?_
  refine lt_e (e0 := z_1 + 2) (Int32.ofInt_add _ _).symm (fun z_2 hz_2 => ?_)
  refine lv_aload_n hx hb dX6_addShelter_10 rfl (lv_at hlv 1 rfl) ?_
  refine va_get (D := D) (ci := 6) (v := vR s11) (C := RX6) (T := TX6) (N := 19) hx hb hts hi6 hown hG.1 hP 0 rfl rfl 11 (by decide) lf22 (fun _ h9 => h9) rfl dX6_addShelter_11 ?_
  refine va_alen (v := iI 4) hx hb hG.1 hP 1 0 rfl rfl (iI_nI _) dX6_addShelter_14 ?_
  refine ir_le (tgt := 19) hx hb dX6_addShelter_15 (by decide) (by omega) (by show ((-2147483648) : Int) ≤ 4 ∧ (4 : Int) ≤ 2147483647; decide) (fun c_3 => ?_) (fun c_3 => ?_)
  · refine lv_aload_n hx hb dX6_addShelter_19 rfl (lv_at hlv 1 rfl) ?_
    refine va_get (D := D) (ci := 6) (v := vR s11) (C := RX6) (T := TX6) (N := 19) hx hb hts hi6 hown hG.1 hP 0 rfl rfl 11 (by decide) lf22 (fun _ h9 => h9) rfl dX6_addShelter_20 ?_
    refine lv_iload_n hx hb dX6_addShelter_23 rfl (lv_at hlv 0 rfl) ?_
    refine lv_iload_n hx hb dX6_addShelter_24 rfl (lv_at hlv 2 rfl) ?_
    refine va_iast hx hb hG.1 hP hD hS 1 0 rfl rfl (iI_in (by omega) (by decide)) dX6_addShelter_25 (fun H locs hP hD hS => ?_)
    have ⟨f_4, hdf_4, hP, hD⟩ : ∃ f_4 : Nat → Int32, f_4 = upd sf (iI z_1).toNatClampNeg (iI a) ∧ va_P D vwCl [zO sA 6 [vI wi, vI ro, vR s2, vR s3, vI dr, vI dt, vR s6, vI pe, vR s8, vI gu, vI sh, vR s11, vI wo, vR s13, vI dn, vI mi, vI fl, vI tk, vI go], zI s11 (cy 0) 4 f_4] H ∧ va_D A [zO sA 6 [vI wi, vI ro, vR s2, vR s3, vI dr, vI dt, vR s6, vI pe, vR s8, vI gu, vI sh, vR s11, vI wo, vR s13, vI dn, vI mi, vI fl, vI tk, vI go], zI s11 (cy 0) 4 f_4] := ⟨_, rfl, hP, hD⟩
    refine lv_aload_n hx hb dX6_addShelter_26 rfl (lv_at hlv 1 rfl) ?_
    refine va_get (D := D) (ci := 6) (v := vR s11) (C := RX6) (T := TX6) (N := 19) hx hb hts hi6 hown hG.1 hP 0 rfl rfl 11 (by decide) lf22 (fun _ h9 => h9) rfl dX6_addShelter_27 ?_
    refine lv_iload_n hx hb dX6_addShelter_30 rfl (lv_at hlv 0 rfl) ?_
    refine lv_iconst (v := iI 1) hx hb dX6_addShelter_31 (by decide) ?_
    refine lv_iadd hx hb dX6_addShelter_32 ?_
    refine lt_e (e0 := z_1 + 1) (Int32.ofInt_add _ _).symm (fun z_5 hz_5 => ?_)
    refine lv_iload_n hx hb dX6_addShelter_33 rfl (lv_at hlv 3 rfl) ?_
    refine va_iast hx hb hG.1 hP hD hS 1 0 rfl rfl (iI_in (by omega) (by decide)) dX6_addShelter_34 (fun H locs hP hD hS => ?_)
    have ⟨f_6, hdf_6, hP, hD⟩ : ∃ f_6 : Nat → Int32, f_6 = upd f_4 (iI z_5).toNatClampNeg (iI b) ∧ va_P D vwCl [zO sA 6 [vI wi, vI ro, vR s2, vR s3, vI dr, vI dt, vR s6, vI pe, vR s8, vI gu, vI sh, vR s11, vI wo, vR s13, vI dn, vI mi, vI fl, vI tk, vI go], zI s11 (cy 0) 4 f_6] H ∧ va_D A [zO sA 6 [vI wi, vI ro, vR s2, vR s3, vI dr, vI dt, vR s6, vI pe, vR s8, vI gu, vI sh, vR s11, vI wo, vR s13, vI dn, vI mi, vI fl, vI tk, vI go], zI s11 (cy 0) 4 f_6] := ⟨_, rfl, hP, hD⟩
    refine lv_aload_n hx hb dX6_addShelter_35 rfl (lv_at hlv 1 rfl) ?_
    refine lv_dup hx hb dX6_addShelter_36 rfl ?_
    refine va_get (D := D) (ci := 6) (v := vI sh) (C := RX6) (T := TX6) (N := 19) hx hb hts hi6 hown hG.1 hP 0 rfl rfl 10 (by decide) lf53 (fun _ h9 => h9) rfl dX6_addShelter_37 ?_
    refine lv_iconst (v := iI 1) hx hb dX6_addShelter_40 (by decide) ?_
    refine lv_iadd hx hb dX6_addShelter_41 ?_
    refine lt_e (e0 := sh + 1) (Int32.ofInt_add _ _).symm (fun z_7 hz_7 => ?_)
    refine va_put (D := D) (ci := 6) (v := vI z_7) (ty := .int) (C := RX6) (T := TX6) (N := 19) hx hb hts hi6 tyX6 tyX6_ok nmX6 hown hG.1 hP hD hS 0 rfl rfl 10 (by decide) lf53 (fun _ h9 => h9) rfl (by decide +kernel) rfl rfl (Nat.le_of_ble_eq_true rfl) dX6_addShelter_42 (fun H locs hP hD hS => ?_)
    have hP : va_P D vwCl [zO sA 6 [vI wi, vI ro, vR s2, vR s3, vI dr, vI dt, vR s6, vI pe, vR s8, vI gu, vI z_7, vR s11, vI wo, vR s13, vI dn, vI mi, vI fl, vI tk, vI go], zI s11 (cy 0) 4 f_6] H := hP
    have hD : va_D A [zO sA 6 [vI wi, vI ro, vR s2, vR s3, vI dr, vI dt, vR s6, vI pe, vR s8, vI gu, vI z_7, vR s11, vI wo, vR s13, vI dn, vI mi, vI fl, vI tk, vI go], zI s11 (cy 0) 4 f_6] := hD
    refine W.widen (k := 0) (n := 0) (Nat.le_of_ble_eq_true rfl) (Nat.le_of_ble_eq_true rfl) ?_
    exact W.vret hx hb hr (fun t ht hW => ⟨⟨((fun k => ([] : List Nat).getD k 0), (fun k => ([z_7] : List Int).getD k 0), (fun k => ([f_6] : List (Nat → Int32)).getD k (fun _ => 0))), rfl, ⟨(by show (0 ≤ z_7 ∧ z_7 ≤ 2); omega), (by show (z_7 = sh + 1); omega), (by show (nz (f_6) = (upz (upz (nz sf) (2 * sh) a) (2 * sh + 1) b)); exact (upz_c (upz_c rfl hdf_4 (by omega) (by omega) (by omega) (by omega)) hdf_6 (by omega) (by omega) (by omega) (by omega)))⟩, by rw [ht]; exact hP.sub [0, 1] rfl, hD.sub [0, 1] (by decide) rfl⟩, hS.F ht⟩) hS.2.2 dX6_addShelter_45
  · refine W.widen (k := 0) (n := 0) (Nat.le_of_ble_eq_true rfl) (Nat.le_of_ble_eq_true rfl) ?_
    exact W.vret hx hb hr (fun t ht hW => ⟨⟨((fun k => ([] : List Nat).getD k 0), (fun k => ([sh] : List Int).getD k 0), (fun k => ([sf] : List (Nat → Int32)).getD k (fun _ => 0))), rfl, ⟨(by show (0 ≤ sh ∧ sh ≤ 2); first | exact hr_sh | omega), (by show (sh = sh + 1); omega), (by show (nz (sf) = (upz (upz (nz sf) (2 * sh) a) (2 * sh + 1) b)); exact (by exfalso; omega))⟩, by rw [ht]; exact hP.sub [0, 1] rfl, hD.sub [0, 1] (by decide) rfl⟩, hS.F ht⟩) hS.2.2 dX6_addShelter_18
def vs_e_addWork : List Cond := .code yX6_addWork cX6_addWork 7 none :: (([.fieldLink RX6 56 "KerbSplash$Street" "works" "I", .fieldLink RX6 25 "KerbSplash$Street" "work" "[I"] : List Cond) ++ ((wsX60) ++ ([])))
theorem gd_e_addWork : vs_e_addWork.all goodWord = true := gd_C (by decide +kernel) (gd_A (by decide +kernel) (gd_A (by decide +kernel) rfl))
set_option maxHeartbeats 4000000 in
set_option maxRecDepth 100000 in
theorem e_addWork (l : Launch) (hl : l.stackTraces = false) (D : va_G) (cy : Nat → ClassId) (sa : Nat → Nat) (sA s2 s3 s6 s8 s11 s13 : Nat) (wi ro dr dt pe gu sh wo dn mi fl tk go : Int) (kf : Nat → Int32) (k co x y b : Int) (sz : Nat) (hr_wi : 0 ≤ wi ∧ wi ≤ 16) (hr_ro : 0 ≤ ro ∧ ro ≤ 6) (hr_dr : 0 ≤ dr ∧ dr ≤ 14) (hr_dt : 0 ≤ dt ∧ dt ≤ 6) (hr_pe : 0 ≤ pe ∧ pe ≤ 8) (hr_gu : 0 ≤ gu ∧ gu ≤ 20) (hr_sh : 0 ≤ sh ∧ sh ≤ 2) (hr_wo : 0 ≤ wo ∧ wo ≤ 8) (hr_dn : (-2147483648) ≤ dn ∧ dn ≤ 2147483647) (hr_mi : 0 ≤ mi ∧ mi ≤ 600) (hr_fl : (-2147483648) ≤ fl ∧ fl ≤ 2147483647) (hr_tk : (-2147483648) ≤ tk ∧ tk ≤ 2147483647) (hr_go : (-2147483648) ≤ go ∧ go ≤ 2147483647) (hr_k : 0 ≤ k ∧ k ≤ 3) (hr_co : 0 ≤ co ∧ co ≤ 99) (hr_x : 0 ≤ x ∧ x ≤ 15) (hr_y : 0 ≤ y ∧ y ≤ 5) (hr_b : 0 ≤ b ∧ b ≤ 99) (hp0 : k = 0 → x ≤ 13) (hp1 : wo < 8) (hkf : tw_ kf) : Met l yX6_addWork vs_e_addWork ({ frames := 0, cells := 0, slots := 0, locals := 0 }) (va_Pc [vR sA, vI k, vI co, vI x, vI y, vI b] (pcW D cy sa sz [zO sA 6 [vI wi, vI ro, vR s2, vR s3, vI dr, vI dt, vR s6, vI pe, vR s8, vI gu, vI sh, vR s11, vI wo, vR s13, vI dn, vI mi, vI fl, vI tk, vI go], zI s13 (cy 0) 40 kf])) (va_Qv (fun u : SV => (0 ≤ u.2.1 0 ∧ u.2.1 0 ≤ 8) ∧ (u.2.1 0 = wo + 1) ∧ (nz (u.2.2 0) = (upz (upz (upz (upz (upz (nz kf) (5 * wo) k) (5 * wo + 1) co) (5 * wo + 2) x) (5 * wo + 3) y) (5 * wo + 4) b)) ∧ tw_ (u.2.2 0)) (fun u t => atW D (va_A [zO sA 6 [vI wi, vI ro, vR s2, vR s3, vI dr, vI dt, vR s6, vI pe, vR s8, vI gu, vI sh, vR s11, vI wo, vR s13, vI dn, vI mi, vI fl, vI tk, vI go], zI s13 (cy 0) 40 kf] sz) [zO sA 6 [vI wi, vI ro, vR s2, vR s3, vI dr, vI dt, vR s6, vI pe, vR s8, vI gu, vI sh, vR s11, vI (u.2.1 0), vR s13, vI dn, vI mi, vI fl, vI tk, vI go], zI s13 (cy 0) 40 (u.2.2 0)] t) (va_A [zO sA 6 [vI wi, vI ro, vR s2, vR s3, vI dr, vI dt, vR s6, vI pe, vR s8, vI gu, vI sh, vR s11, vI wo, vR s13, vI dn, vI mi, vI fl, vI tk, vI go], zI s13 (cy 0) 40 kf] sz)) 0 0 (va_A [zO sA 6 [vI wi, vI ro, vR s2, vR s3, vI dr, vI dt, vR s6, vI pe, vR s8, vI gu, vI sh, vR s11, vI wo, vR s13, vI dn, vI mi, vI fl, vI tk, vI go], zI s13 (cy 0) 40 kf] sz) := by
  refine Met.ofW (cc := cX6_addWork) (maxL := 7) (ret := none) (by decide) rfl ?_
  intro p e s m args below meth c s₁ B hml hv
  obtain ⟨rfl, hsz, hP, hG, hD0, hT⟩ := hv
  have hx := B.exec
  have hb := B.bytes
  have hr := B.returns
  have hts := atoms_spec (ws := vs_e_addWork) B.pre
  have hown : s.vm.findClass RX6 = some m.cls := findClass_of_methodNamed B.named
  have hlocks := B.notSynchronized
  subst hsz
  have hD := hD0.self (sz := s.heap.size)
  generalize hAe : va_A [zO sA 6 [vI wi, vI ro, vR s2, vR s3, vI dr, vI dt, vR s6, vI pe, vR s8, vI gu, vI sh, vR s11, vI wo, vR s13, vI dn, vI mi, vI fl, vI tk, vI go], zI s13 (cy 0) 40 kf] s.heap.size = A at hD hT ⊢
  have hA : ∀ q : Nat, s.heap.size ≤ q → A q := fun q h => by rw [← hAe]; exact Or.inr h
  have hS : va_S A s.heap s.heap [] := va_S.rf
  have hl0 := lv_entry ([vR sA, vI k, vI co, vI x, vI y, vI b]) (n := 7) (Nat.le_of_ble_eq_true rfl)
  rw [lg_entry_eq]
  generalize (lg_sl ([vR sA, vI k, vI co, vI x, vI y, vI b]) ++ List.replicate (7 - (lg_sl ([vR sA, vI k, vI co, vI x, vI y, vI b])).length) Slot.unset).toArray = ls at hl0 ⊢
  have hlv : lv_has ls 7 [(0, vR sA), (1, vI k), (2, vI co), (3, vI x), (4, vI y), (5, vI b)] := hl0
  have lf56 := hts (.fieldLink RX6 56 "KerbSplash$Street" "works" "I") (List.mem_of_getElem? (i := 1) rfl)
  have hi6 : ∀ w ∈ wsX60, w ∈ vs_e_addWork := fun w h => List.mem_cons_of_mem _ (List.mem_append_right _ (List.mem_append_left _ h))
  have lf25 := hts (.fieldLink RX6 25 "KerbSplash$Street" "work" "[I") (List.mem_of_getElem? (i := 2) rfl)
  refine lv_iconst (v := iI 5) hx hb dX6_addWork_0 (by decide) ?_
  refine lv_aload_n hx hb dX6_addWork_1 rfl (lv_at hlv 0 rfl) ?_
  refine va_get (D := D) (ci := 6) (v := vI wo) (C := RX6) (T := TX6) (N := 19) hx hb hts hi6 hown hG.1 hP 0 rfl rfl 12 (by decide) lf56 (fun _ h9 => h9) rfl dX6_addWork_2 ?_
  refine lv_imul hx hb dX6_addWork_5 ?_
  refine lt_e (e0 := 5 * wo) (Int32.ofInt_mul _ _).symm (fun z_1 hz_1 => ?_)
  refine lv_istore (lv' := [(6, vI z_1), (0, vR sA), (1, vI k), (2, vI co), (3, vI x), (4, vI y), (5, vI b)]) hx hb dX6_addWork_6 hlv (by decide) rfl (fun ls hlv => ?_)
  refine lv_iload hx hb dX6_addWork_8 (lv_at hlv 0 rfl) ?_
  refine lv_iconst (v := iI 5) hx hb dX6_addWork_10 (by decide) ?_
  refine lv_iadd hx hb dX6_addWork_11 ?_
  refine lt_e (e0 := z_1 + 5) (Int32.ofInt_add _ _).symm (fun z_2 hz_2 => ?_)
  refine lv_aload_n hx hb dX6_addWork_12 rfl (lv_at hlv 1 rfl) ?_
  refine va_get (D := D) (ci := 6) (v := vR s13) (C := RX6) (T := TX6) (N := 19) hx hb hts hi6 hown hG.1 hP 0 rfl rfl 13 (by decide) lf25 (fun _ h9 => h9) rfl dX6_addWork_13 ?_
  refine va_alen (v := iI 40) hx hb hG.1 hP 1 0 rfl rfl (iI_nI _) dX6_addWork_16 ?_
  refine ir_le (tgt := 21) hx hb dX6_addWork_17 (by decide) (by omega) (by show ((-2147483648) : Int) ≤ 40 ∧ (40 : Int) ≤ 2147483647; decide) (fun c_3 => ?_) (fun c_3 => ?_)
  · refine lv_aload_n hx hb dX6_addWork_21 rfl (lv_at hlv 1 rfl) ?_
    refine va_get (D := D) (ci := 6) (v := vR s13) (C := RX6) (T := TX6) (N := 19) hx hb hts hi6 hown hG.1 hP 0 rfl rfl 13 (by decide) lf25 (fun _ h9 => h9) rfl dX6_addWork_22 ?_
    refine lv_iload hx hb dX6_addWork_25 (lv_at hlv 0 rfl) ?_
    refine lv_iload_n hx hb dX6_addWork_27 rfl (lv_at hlv 2 rfl) ?_
    refine va_iast hx hb hG.1 hP hD hS 1 0 rfl rfl (iI_in (by omega) (by decide)) dX6_addWork_28 (fun H locs hP hD hS => ?_)
    have ⟨f_4, hdf_4, hP, hD⟩ : ∃ f_4 : Nat → Int32, f_4 = upd kf (iI z_1).toNatClampNeg (iI k) ∧ va_P D vwCl [zO sA 6 [vI wi, vI ro, vR s2, vR s3, vI dr, vI dt, vR s6, vI pe, vR s8, vI gu, vI sh, vR s11, vI wo, vR s13, vI dn, vI mi, vI fl, vI tk, vI go], zI s13 (cy 0) 40 f_4] H ∧ va_D A [zO sA 6 [vI wi, vI ro, vR s2, vR s3, vI dr, vI dt, vR s6, vI pe, vR s8, vI gu, vI sh, vR s11, vI wo, vR s13, vI dn, vI mi, vI fl, vI tk, vI go], zI s13 (cy 0) 40 f_4] := ⟨_, rfl, hP, hD⟩
    refine lv_aload_n hx hb dX6_addWork_29 rfl (lv_at hlv 1 rfl) ?_
    refine va_get (D := D) (ci := 6) (v := vR s13) (C := RX6) (T := TX6) (N := 19) hx hb hts hi6 hown hG.1 hP 0 rfl rfl 13 (by decide) lf25 (fun _ h9 => h9) rfl dX6_addWork_30 ?_
    refine lv_iload hx hb dX6_addWork_33 (lv_at hlv 0 rfl) ?_
    refine lv_iconst (v := iI 1) hx hb dX6_addWork_35 (by decide) ?_
    refine lv_iadd hx hb dX6_addWork_36 ?_
    refine lt_e (e0 := z_1 + 1) (Int32.ofInt_add _ _).symm (fun z_5 hz_5 => ?_)
    refine lv_iload_n hx hb dX6_addWork_37 rfl (lv_at hlv 3 rfl) ?_
    refine va_iast hx hb hG.1 hP hD hS 1 0 rfl rfl (iI_in (by omega) (by decide)) dX6_addWork_38 (fun H locs hP hD hS => ?_)
    have ⟨f_6, hdf_6, hP, hD⟩ : ∃ f_6 : Nat → Int32, f_6 = upd f_4 (iI z_5).toNatClampNeg (iI co) ∧ va_P D vwCl [zO sA 6 [vI wi, vI ro, vR s2, vR s3, vI dr, vI dt, vR s6, vI pe, vR s8, vI gu, vI sh, vR s11, vI wo, vR s13, vI dn, vI mi, vI fl, vI tk, vI go], zI s13 (cy 0) 40 f_6] H ∧ va_D A [zO sA 6 [vI wi, vI ro, vR s2, vR s3, vI dr, vI dt, vR s6, vI pe, vR s8, vI gu, vI sh, vR s11, vI wo, vR s13, vI dn, vI mi, vI fl, vI tk, vI go], zI s13 (cy 0) 40 f_6] := ⟨_, rfl, hP, hD⟩
    refine lv_aload_n hx hb dX6_addWork_39 rfl (lv_at hlv 1 rfl) ?_
    refine va_get (D := D) (ci := 6) (v := vR s13) (C := RX6) (T := TX6) (N := 19) hx hb hts hi6 hown hG.1 hP 0 rfl rfl 13 (by decide) lf25 (fun _ h9 => h9) rfl dX6_addWork_40 ?_
    refine lv_iload hx hb dX6_addWork_43 (lv_at hlv 0 rfl) ?_
    refine lv_iconst (v := iI 2) hx hb dX6_addWork_45 (by decide) ?_
    refine lv_iadd hx hb dX6_addWork_46 ?_
    refine lt_e (e0 := z_1 + 2) (Int32.ofInt_add _ _).symm (fun z_7 hz_7 => ?_)
    refine lv_iload_n hx hb dX6_addWork_47 rfl (lv_at hlv 4 rfl) ?_
    refine va_iast hx hb hG.1 hP hD hS 1 0 rfl rfl (iI_in (by omega) (by decide)) dX6_addWork_48 (fun H locs hP hD hS => ?_)
    have ⟨f_8, hdf_8, hP, hD⟩ : ∃ f_8 : Nat → Int32, f_8 = upd f_6 (iI z_7).toNatClampNeg (iI x) ∧ va_P D vwCl [zO sA 6 [vI wi, vI ro, vR s2, vR s3, vI dr, vI dt, vR s6, vI pe, vR s8, vI gu, vI sh, vR s11, vI wo, vR s13, vI dn, vI mi, vI fl, vI tk, vI go], zI s13 (cy 0) 40 f_8] H ∧ va_D A [zO sA 6 [vI wi, vI ro, vR s2, vR s3, vI dr, vI dt, vR s6, vI pe, vR s8, vI gu, vI sh, vR s11, vI wo, vR s13, vI dn, vI mi, vI fl, vI tk, vI go], zI s13 (cy 0) 40 f_8] := ⟨_, rfl, hP, hD⟩
    refine lv_aload_n hx hb dX6_addWork_49 rfl (lv_at hlv 1 rfl) ?_
    refine va_get (D := D) (ci := 6) (v := vR s13) (C := RX6) (T := TX6) (N := 19) hx hb hts hi6 hown hG.1 hP 0 rfl rfl 13 (by decide) lf25 (fun _ h9 => h9) rfl dX6_addWork_50 ?_
    refine lv_iload hx hb dX6_addWork_53 (lv_at hlv 0 rfl) ?_
    refine lv_iconst (v := iI 3) hx hb dX6_addWork_55 (by decide) ?_
    refine lv_iadd hx hb dX6_addWork_56 ?_
    refine lt_e (e0 := z_1 + 3) (Int32.ofInt_add _ _).symm (fun z_9 hz_9 => ?_)
    refine lv_iload hx hb dX6_addWork_57 (lv_at hlv 5 rfl) ?_
    refine va_iast hx hb hG.1 hP hD hS 1 0 rfl rfl (iI_in (by omega) (by decide)) dX6_addWork_59 (fun H locs hP hD hS => ?_)
    have ⟨f_10, hdf_10, hP, hD⟩ : ∃ f_10 : Nat → Int32, f_10 = upd f_8 (iI z_9).toNatClampNeg (iI y) ∧ va_P D vwCl [zO sA 6 [vI wi, vI ro, vR s2, vR s3, vI dr, vI dt, vR s6, vI pe, vR s8, vI gu, vI sh, vR s11, vI wo, vR s13, vI dn, vI mi, vI fl, vI tk, vI go], zI s13 (cy 0) 40 f_10] H ∧ va_D A [zO sA 6 [vI wi, vI ro, vR s2, vR s3, vI dr, vI dt, vR s6, vI pe, vR s8, vI gu, vI sh, vR s11, vI wo, vR s13, vI dn, vI mi, vI fl, vI tk, vI go], zI s13 (cy 0) 40 f_10] := ⟨_, rfl, hP, hD⟩
    refine lv_aload_n hx hb dX6_addWork_60 rfl (lv_at hlv 1 rfl) ?_
    refine va_get (D := D) (ci := 6) (v := vR s13) (C := RX6) (T := TX6) (N := 19) hx hb hts hi6 hown hG.1 hP 0 rfl rfl 13 (by decide) lf25 (fun _ h9 => h9) rfl dX6_addWork_61 ?_
    refine lv_iload hx hb dX6_addWork_64 (lv_at hlv 0 rfl) ?_
    refine lv_iconst (v := iI 4) hx hb dX6_addWork_66 (by decide) ?_
    refine lv_iadd hx hb dX6_addWork_67 ?_
    refine lt_e (e0 := z_1 + 4) (Int32.ofInt_add _ _).symm (fun z_11 hz_11 => ?_)
    refine lv_iload hx hb dX6_addWork_68 (lv_at hlv 6 rfl) ?_
    refine va_iast hx hb hG.1 hP hD hS 1 0 rfl rfl (iI_in (by omega) (by decide)) dX6_addWork_70 (fun H locs hP hD hS => ?_)
    have ⟨f_12, hdf_12, hP, hD⟩ : ∃ f_12 : Nat → Int32, f_12 = upd f_10 (iI z_11).toNatClampNeg (iI b) ∧ va_P D vwCl [zO sA 6 [vI wi, vI ro, vR s2, vR s3, vI dr, vI dt, vR s6, vI pe, vR s8, vI gu, vI sh, vR s11, vI wo, vR s13, vI dn, vI mi, vI fl, vI tk, vI go], zI s13 (cy 0) 40 f_12] H ∧ va_D A [zO sA 6 [vI wi, vI ro, vR s2, vR s3, vI dr, vI dt, vR s6, vI pe, vR s8, vI gu, vI sh, vR s11, vI wo, vR s13, vI dn, vI mi, vI fl, vI tk, vI go], zI s13 (cy 0) 40 f_12] := ⟨_, rfl, hP, hD⟩
    refine lv_aload_n hx hb dX6_addWork_71 rfl (lv_at hlv 1 rfl) ?_
    refine lv_dup hx hb dX6_addWork_72 rfl ?_
    refine va_get (D := D) (ci := 6) (v := vI wo) (C := RX6) (T := TX6) (N := 19) hx hb hts hi6 hown hG.1 hP 0 rfl rfl 12 (by decide) lf56 (fun _ h9 => h9) rfl dX6_addWork_73 ?_
    refine lv_iconst (v := iI 1) hx hb dX6_addWork_76 (by decide) ?_
    refine lv_iadd hx hb dX6_addWork_77 ?_
    refine lt_e (e0 := wo + 1) (Int32.ofInt_add _ _).symm (fun z_13 hz_13 => ?_)
    refine va_put (D := D) (ci := 6) (v := vI z_13) (ty := .int) (C := RX6) (T := TX6) (N := 19) hx hb hts hi6 tyX6 tyX6_ok nmX6 hown hG.1 hP hD hS 0 rfl rfl 12 (by decide) lf56 (fun _ h9 => h9) rfl (by decide +kernel) rfl rfl (Nat.le_of_ble_eq_true rfl) dX6_addWork_78 (fun H locs hP hD hS => ?_)
    have hP : va_P D vwCl [zO sA 6 [vI wi, vI ro, vR s2, vR s3, vI dr, vI dt, vR s6, vI pe, vR s8, vI gu, vI sh, vR s11, vI z_13, vR s13, vI dn, vI mi, vI fl, vI tk, vI go], zI s13 (cy 0) 40 f_12] H := hP
    have hD : va_D A [zO sA 6 [vI wi, vI ro, vR s2, vR s3, vI dr, vI dt, vR s6, vI pe, vR s8, vI gu, vI sh, vR s11, vI z_13, vR s13, vI dn, vI mi, vI fl, vI tk, vI go], zI s13 (cy 0) 40 f_12] := hD
    refine W.widen (k := 0) (n := 0) (Nat.le_of_ble_eq_true rfl) (Nat.le_of_ble_eq_true rfl) ?_
    exact W.vret hx hb hr (fun t ht hW => ⟨⟨((fun k => ([] : List Nat).getD k 0), (fun k => ([z_13] : List Int).getD k 0), (fun k => ([f_12] : List (Nat → Int32)).getD k (fun _ => 0))), rfl, ⟨(by show (0 ≤ z_13 ∧ z_13 ≤ 8); omega), (by show (z_13 = wo + 1); omega), (by show (nz (f_12) = (upz (upz (upz (upz (upz (nz kf) (5 * wo) k) (5 * wo + 1) co) (5 * wo + 2) x) (5 * wo + 3) y) (5 * wo + 4) b)); exact (upz_c (upz_c (upz_c (upz_c (upz_c rfl hdf_4 (by omega) (by omega) (by omega) (by omega)) hdf_6 (by omega) (by omega) (by omega) (by omega)) hdf_8 (by omega) (by omega) (by omega) (by omega)) hdf_10 (by omega) (by omega) (by omega) (by omega)) hdf_12 (by omega) (by omega) (by omega) (by omega))), (tw_set (k := wo) hkf (by omega) (by omega) (by omega) (by omega) (by omega) (by omega) hdf_4 hdf_6 hdf_8 hdf_10 hdf_12 (by omega) (by omega) (by omega) (by omega) (by omega) (by omega))⟩, by rw [ht]; exact hP.sub [0, 1] rfl, hD.sub [0, 1] (by decide) rfl⟩, hS.F ht⟩) hS.2.2 dX6_addWork_81
  · refine W.widen (k := 0) (n := 0) (Nat.le_of_ble_eq_true rfl) (Nat.le_of_ble_eq_true rfl) ?_
    exact W.vret hx hb hr (fun t ht hW => ⟨⟨((fun k => ([] : List Nat).getD k 0), (fun k => ([wo] : List Int).getD k 0), (fun k => ([kf] : List (Nat → Int32)).getD k (fun _ => 0))), rfl, ⟨(by show (0 ≤ wo ∧ wo ≤ 8); first | exact hr_wo | omega), (by show (wo = wo + 1); omega), (by show (nz (kf) = (upz (upz (upz (upz (upz (nz kf) (5 * wo) k) (5 * wo + 1) co) (5 * wo + 2) x) (5 * wo + 3) y) (5 * wo + 4) b)); exact (by exfalso; omega)), hkf⟩, by rw [ht]; exact hP.sub [0, 1] rfl, hD.sub [0, 1] (by decide) rfl⟩, hS.F ht⟩) hS.2.2 dX6_addWork_20
