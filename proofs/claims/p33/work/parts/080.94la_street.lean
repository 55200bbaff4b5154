
def vs_e_index : List Cond := .code yX6_index cX6_index 3 (some .int) :: (([.fieldLink RX6 28 "KerbSplash$Street" "wide" "I"] : List Cond) ++ ((wsX60) ++ ([])))
theorem gd_e_index : vs_e_index.all goodWord = true := gd_C (by decide +kernel) (gd_A (by decide +kernel) (gd_A (by decide +kernel) rfl))
set_option maxHeartbeats 4000000 in
set_option maxRecDepth 100000 in
theorem e_index (l : Launch) (hl : l.stackTraces = false) (D : va_G) (cy : Nat → ClassId) (sa : Nat → Nat) (sA s2 s3 s6 s8 s11 s13 : Nat) (wi ro dr dt pe gu sh wo dn mi fl tk go : Int) (x y : Int) (sz : Nat) (hr_wi : 0 ≤ wi ∧ wi ≤ 16) (hr_ro : 0 ≤ ro ∧ ro ≤ 6) (hr_dr : 0 ≤ dr ∧ dr ≤ 14) (hr_dt : 0 ≤ dt ∧ dt ≤ 6) (hr_pe : 0 ≤ pe ∧ pe ≤ 8) (hr_gu : 0 ≤ gu ∧ gu ≤ 20) (hr_sh : 0 ≤ sh ∧ sh ≤ 2) (hr_wo : 0 ≤ wo ∧ wo ≤ 8) (hr_dn : (-2147483648) ≤ dn ∧ dn ≤ 2147483647) (hr_mi : 0 ≤ mi ∧ mi ≤ 600) (hr_fl : (-2147483648) ≤ fl ∧ fl ≤ 2147483647) (hr_tk : (-2147483648) ≤ tk ∧ tk ≤ 2147483647) (hr_go : (-2147483648) ≤ go ∧ go ≤ 2147483647) (hr_x : 0 ≤ x ∧ x ≤ 15) (hr_y : 0 ≤ y ∧ y ≤ 5) : Met l yX6_index vs_e_index ({ frames := 0, cells := 0, slots := 0, locals := 0 }) (va_Pc [vR sA, vI x, vI y] (pcW D cy sa sz [zO sA 6 [vI wi, vI ro, vR s2, vR s3, vI dr, vI dt, vR s6, vI pe, vR s8, vI gu, vI sh, vR s11, vI wo, vR s13, vI dn, vI mi, vI fl, vI tk, vI go]])) (va_Qi (fun (r : Int32) (u : SV) => r = iI (u.2.1 0) ∧ (0 ≤ u.2.1 0 ∧ u.2.1 0 ≤ 95) ∧ (u.2.1 0 = y * wi + x)) (fun u t => atW D (va_A [zO sA 6 [vI wi, vI ro, vR s2, vR s3, vI dr, vI dt, vR s6, vI pe, vR s8, vI gu, vI sh, vR s11, vI wo, vR s13, vI dn, vI mi, vI fl, vI tk, vI go]] sz) [zO sA 6 [vI wi, vI ro, vR s2, vR s3, vI dr, vI dt, vR s6, vI pe, vR s8, vI gu, vI sh, vR s11, vI wo, vR s13, vI dn, vI mi, vI fl, vI tk, vI go]] t) (va_A [zO sA 6 [vI wi, vI ro, vR s2, vR s3, vI dr, vI dt, vR s6, vI pe, vR s8, vI gu, vI sh, vR s11, vI wo, vR s13, vI dn, vI mi, vI fl, vI tk, vI go]] sz)) 0 0 (va_A [zO sA 6 [vI wi, vI ro, vR s2, vR s3, vI dr, vI dt, vR s6, vI pe, vR s8, vI gu, vI sh, vR s11, vI wo, vR s13, vI dn, vI mi, vI fl, vI tk, vI go]] sz) := by
  refine Met.ofW (cc := cX6_index) (maxL := 3) (ret := (some .int)) (by decide) rfl ?_
  intro p e s m args below meth c s₁ B hml hv
  obtain ⟨rfl, hsz, hP, hG, hD0, hT⟩ := hv
  have hx := B.exec
  have hb := B.bytes
  have hr := B.returns
  have hts := atoms_spec (ws := vs_e_index) B.pre
  have hown : s.vm.findClass RX6 = some m.cls := findClass_of_methodNamed B.named
  have hlocks := B.notSynchronized
  subst hsz
  have hD := hD0.self (sz := s.heap.size)
  generalize hAe : va_A [zO sA 6 [vI wi, vI ro, vR s2, vR s3, vI dr, vI dt, vR s6, vI pe, vR s8, vI gu, vI sh, vR s11, vI wo, vR s13, vI dn, vI mi, vI fl, vI tk, vI go]] s.heap.size = A at hD hT ⊢
  have hA : ∀ q : Nat, s.heap.size ≤ q → A q := fun q h => by rw [← hAe]; exact Or.inr h
  have hS : va_S A s.heap s.heap [] := va_S.rf
  have hl0 := lv_entry ([vR sA, vI x, vI y]) (n := 3) (Nat.le_of_ble_eq_true rfl)
  rw [lg_entry_eq]
  generalize (lg_sl ([vR sA, vI x, vI y]) ++ List.replicate (3 - (lg_sl ([vR sA, vI x, vI y])).length) Slot.unset).toArray = ls at hl0 ⊢
  have hlv : lv_has ls 3 [(0, vR sA), (1, vI x), (2, vI y)] := hl0
  have lf28 := hts (.fieldLink RX6 28 "KerbSplash$Street" "wide" "I") (List.mem_of_getElem? (i := 1) rfl)
  have hi6 : ∀ w ∈ wsX60, w ∈ vs_e_index := fun w h => List.mem_cons_of_mem _ (List.mem_append_right _ (List.mem_append_left _ h))
  refine lv_iload_n hx hb dX6_index_0 rfl (lv_at hlv 2 rfl) ?_
  refine lv_aload_n hx hb dX6_index_1 rfl (lv_at hlv 0 rfl) ?_
  refine va_get (D := D) (ci := 6) (v := vI wi) (C := RX6) (T := TX6) (N := 19) hx hb hts hi6 hown hG.1 hP 0 rfl rfl 0 (by decide) lf28 (fun _ h9 => h9) rfl dX6_index_2 ?_
  refine lv_imul hx hb dX6_index_5 ?_
  refine lt_e (e0 := y * wi) (Int32.ofInt_mul _ _).symm (fun z_1 hz_1 => ?_)
  have bz_1 : 0 ≤ z_1 ∧ z_1 ≤ 80 := by rw [hz_1]; exact mul_bd (x := 5) (y := 16) (by omega) (by omega) (by decide)
  refine lv_iload_n hx hb dX6_index_6 rfl (lv_at hlv 1 rfl) ?_
  refine lv_iadd hx hb dX6_index_7 ?_
  refine lt_e (e0 := z_1 + x) (Int32.ofInt_add _ _).symm (fun z_2 hz_2 => ?_)
  refine W.widen (k := 0) (n := 0) (Nat.le_of_ble_eq_true rfl) (Nat.le_of_ble_eq_true rfl) ?_
  exact W.iret (v := iI z_2) hx hb hr (fun t ht hW => ⟨⟨iI z_2, ((fun k => ([] : List Nat).getD k 0), (fun k => ([z_2] : List Int).getD k 0), (fun k => ([] : List (Nat → Int32)).getD k (fun _ => 0))), rfl, ⟨rfl, (by show (0 ≤ z_2 ∧ z_2 ≤ 95); omega), (by show (z_2 = y * wi + x); omega)⟩, by rw [ht]; exact hP.sub [0] rfl, hD.sub [0] (by decide) rfl⟩, hS.F ht⟩) hS.2.2 dX6_index_8
def vs_e_fill96a : List Cond := .code yJ7_fill_53178 cJ7_fill_53178 4 none :: (([] : List Cond) ++ ([]))
theorem gd_e_fill96a : vs_e_fill96a.all goodWord = true := gd_C (by decide +kernel) (gd_A (by decide +kernel) rfl)
set_option maxHeartbeats 4000000 in
set_option maxRecDepth 100000 in
theorem e_fill96a (l : Launch) (hl : l.stackTraces = false) (D : va_G) (cy : Nat → ClassId) (sa : Nat → Nat) (fa : Nat) (ff : Nat → Int32) (v : Int) (sz : Nat) (hr_v : (-2147483648) ≤ v ∧ v ≤ 2147483647) : Met l yJ7_fill_53178 vs_e_fill96a ({ frames := 0, cells := 0, slots := 0, locals := 0 }) (va_Pc [vR fa, vI v] (pcW D cy sa sz [zI fa (cy 0) 96 ff])) (va_Qv (fun u : SV => (∀ j : Nat, j < 96 → nz (u.2.2 0) j = v)) (fun u t => atW D (va_A [zI fa (cy 0) 96 ff] sz) [zI fa (cy 0) 96 (u.2.2 0)] t) (va_A [zI fa (cy 0) 96 ff] sz)) 0 0 (va_A [zI fa (cy 0) 96 ff] sz) := by
  refine Met.ofW (cc := cJ7_fill_53178) (maxL := 4) (ret := none) (by decide) rfl ?_
  intro p e s m args below meth c s₁ B hml hv
  obtain ⟨rfl, hsz, hP, hG, hD0, hT⟩ := hv
  have hx := B.exec
  have hb := B.bytes
  have hr := B.returns
  have hts := atoms_spec (ws := vs_e_fill96a) B.pre
  have hown : s.vm.findClass RJ7 = some m.cls := findClass_of_methodNamed B.named
  have hlocks := B.notSynchronized
  subst hsz
  have hD := hD0.self (sz := s.heap.size)
  generalize hAe : va_A [zI fa (cy 0) 96 ff] s.heap.size = A at hD hT ⊢
  have hA : ∀ q : Nat, s.heap.size ≤ q → A q := fun q h => by rw [← hAe]; exact Or.inr h
  have hS : va_S A s.heap s.heap [] := va_S.rf
  have hl0 := lv_entry ([vR fa, vI v]) (n := 4) (Nat.le_of_ble_eq_true rfl)
  rw [lg_entry_eq]
  generalize (lg_sl ([vR fa, vI v]) ++ List.replicate (4 - (lg_sl ([vR fa, vI v])).length) Slot.unset).toArray = ls at hl0 ⊢
  have hlv : lv_has ls 4 [(0, vR fa), (1, vI v)] := hl0
  refine lv_iconst (v := iI 0) hx hb dJ7_fill_53178_0 (by decide) ?_
  refine lv_istore_n (lv' := [(2, vI 0), (0, vR fa), (1, vI v)]) hx hb dJ7_fill_53178_1 rfl hlv (by decide) rfl (fun ls hlv => ?_)
  refine lv_aload_n hx hb dJ7_fill_53178_2 rfl (lv_at hlv 1 rfl) ?_
  refine va_alen (v := iI 96) hx hb hG.1 hP 0 0 rfl rfl (iI_nI _) dJ7_fill_53178_3 ?_
  refine lv_istore_n (lv' := [(3, vI 96), (2, vI 0), (0, vR fa), (1, vI v)]) hx hb dJ7_fill_53178_4 rfl hlv (by decide) rfl (fun ls hlv => ?_)
  refine (?_ : ∀ (fu : Nat) (x : Int) (fg : Nat → Int32) (H : Heap) (locs : List Loc) (ls : Array Slot), 96 - x < (fu : Int) → (0 ≤ x ∧ x ≤ 96) → (∀ j : Nat, (j : Int) < x → nz fg j = v) → va_P D vwCl [zI fa (cy 0) 96 fg] H → va_D A [zI fa (cy 0) 96 fg] → va_S A s.heap H locs → lv_has ls 4 [(3, vI 96), (2, vI x), (0, vR fa), (1, vI v)] → W p l e _ s m _ below meth c H locs _ _ _ (F0 m 5 ls [])) (((96 - 0) + 1 : Int)).toNat 0 ff _ _ _ (by omega) (by show (0 : Int) ≤ 0 ∧ (0 : Int) ≤ 96; decide) (fun j h9 => absurd h9 (by omega))  hP hD hS hlv
  clear hP hD hS hlv
  intro fu
  induction fu with
  | zero => intro x fg H locs ls hm5 hl5_0 hl5_1  hP hD hS hlv; omega
  | succ fu ih5 =>
    intro x fg H locs ls hm5 hl5_0 hl5_1  hP hD hS hlv
    refine lv_iload_n hx hb dJ7_fill_53178_5 rfl (lv_at hlv 1 rfl) ?_
    refine lv_iload_n hx hb dJ7_fill_53178_6 rfl (lv_at hlv 0 rfl) ?_
    refine ir_ge (tgt := 20) hx hb dJ7_fill_53178_7 (by decide) (by first | exact rgw hl5_0 (by decide) (by decide) | omega) (by show ((-2147483648) : Int) ≤ 96 ∧ (96 : Int) ≤ 2147483647; decide) (fun c_1 => ?_) (fun c_1 => ?_)
    · refine W.widen (k := 0) (n := 0) (Nat.le_of_ble_eq_true rfl) (Nat.le_of_ble_eq_true rfl) ?_
      exact W.vret hx hb hr (fun t ht hW => ⟨⟨((fun k => ([] : List Nat).getD k 0), (fun k => ([] : List Int).getD k 0), (fun k => ([fg] : List (Nat → Int32)).getD k (fun _ => 0))), rfl, (by show (∀ j : Nat, j < 96 → nz (fg) j = v); exact (fun j h9 => hl5_1 j (by omega))), by rw [ht]; exact hP.sub [0] rfl, hD.sub [0] (by decide) rfl⟩, hS.F ht⟩) hS.2.2 dJ7_fill_53178_20
    · refine lv_aload_n hx hb dJ7_fill_53178_10 rfl (lv_at hlv 2 rfl) ?_
      refine lv_iload_n hx hb dJ7_fill_53178_11 rfl (lv_at hlv 1 rfl) ?_
      refine lv_iload_n hx hb dJ7_fill_53178_12 rfl (lv_at hlv 3 rfl) ?_
      refine va_iast hx hb hG.1 hP hD hS 0 0 rfl rfl (iI_in (by omega) (by decide)) dJ7_fill_53178_13 (fun H locs hP hD hS => ?_)
      have ⟨f_2, hdf_2, hP, hD⟩ : ∃ f_2 : Nat → Int32, f_2 = upd fg (iI x).toNatClampNeg (iI v) ∧ va_P D vwCl [zI fa (cy 0) 96 f_2] H ∧ va_D A [zI fa (cy 0) 96 f_2] := ⟨_, rfl, hP, hD⟩
      obtain ⟨z_3, hz_3⟩ : ∃ z : Int, z = x + 1 := ⟨_, rfl⟩
      refine lv_iinc (v := iI z_3) (lv' := [(2, vI z_3), (3, vI 96), (0, vR fa), (1, vI v)]) hx hb dJ7_fill_53178_14 hlv (k := 1) rfl (by rw [hz_3]; exact (Int32.ofInt_add _ _).symm) (by decide) rfl (fun ls hlv => ?_)
      refine lv_goto (tgt := 5) hx hb dJ7_fill_53178_17 (by decide) ?_
      exact ih5 z_3 f_2 H locs ls (by omega) (by omega) (fun j h9 => by by_cases q9 : (j : Int) = x; exact nz_us hdf_2 (by omega) (by omega) q9; rw [nz_un hdf_2 (by omega) q9]; exact hl5_1 j (by omega))  (hP.sub [0] rfl) (hD.sub [0] (by decide) rfl) hS (lv_sub hlv [1, 0, 2, 3] rfl)
def vs_e_fill96 : List Cond := .code yJ7_fill_53178 cJ7_fill_53178 4 none :: (([] : List Cond) ++ ([]))
theorem gd_e_fill96 : vs_e_fill96.all goodWord = true := gd_C (by decide +kernel) (gd_A (by decide +kernel) rfl)
set_option maxHeartbeats 4000000 in
set_option maxRecDepth 100000 in
theorem e_fill96 (l : Launch) (hl : l.stackTraces = false) (D : va_G) (cy : Nat → ClassId) (sa : Nat → Nat) (fa : Nat) (ff : Nat → Int32) (v : Int) (sz : Nat) (hr_v : 0 ≤ v ∧ v ≤ 99) (hff : inv_ 96 0 99 ff) : Met l yJ7_fill_53178 vs_e_fill96 ({ frames := 0, cells := 0, slots := 0, locals := 0 }) (va_Pc [vR fa, vI v] (pcW D cy sa sz [zI fa (cy 0) 96 ff])) (va_Qv (fun u : SV => (∀ j : Nat, j < 96 → nz (u.2.2 0) j = v) ∧ inv_ 96 0 99 (u.2.2 0)) (fun u t => atW D (va_A [zI fa (cy 0) 96 ff] sz) [zI fa (cy 0) 96 (u.2.2 0)] t) (va_A [zI fa (cy 0) 96 ff] sz)) 0 0 (va_A [zI fa (cy 0) 96 ff] sz) := by
  refine Met.ofW (cc := cJ7_fill_53178) (maxL := 4) (ret := none) (by decide) rfl ?_
  intro p e s m args below meth c s₁ B hml hv
  obtain ⟨rfl, hsz, hP, hG, hD0, hT⟩ := hv
  have hx := B.exec
  have hb := B.bytes
  have hr := B.returns
  have hts := atoms_spec (ws := vs_e_fill96) B.pre
  have hown : s.vm.findClass RJ7 = some m.cls := findClass_of_methodNamed B.named
  have hlocks := B.notSynchronized
  subst hsz
  have hD := hD0.self (sz := s.heap.size)
  generalize hAe : va_A [zI fa (cy 0) 96 ff] s.heap.size = A at hD hT ⊢
  have hA : ∀ q : Nat, s.heap.size ≤ q → A q := fun q h => by rw [← hAe]; exact Or.inr h
  have hS : va_S A s.heap s.heap [] := va_S.rf
  have hl0 := lv_entry ([vR fa, vI v]) (n := 4) (Nat.le_of_ble_eq_true rfl)
  rw [lg_entry_eq]
  generalize (lg_sl ([vR fa, vI v]) ++ List.replicate (4 - (lg_sl ([vR fa, vI v])).length) Slot.unset).toArray = ls at hl0 ⊢
  have hlv : lv_has ls 4 [(0, vR fa), (1, vI v)] := hl0
  refine lv_iconst (v := iI 0) hx hb dJ7_fill_53178_0 (by decide) ?_
  refine lv_istore_n (lv' := [(2, vI 0), (0, vR fa), (1, vI v)]) hx hb dJ7_fill_53178_1 rfl hlv (by decide) rfl (fun ls hlv => ?_)
  refine lv_aload_n hx hb dJ7_fill_53178_2 rfl (lv_at hlv 1 rfl) ?_
  refine va_alen (v := iI 96) hx hb hG.1 hP 0 0 rfl rfl (iI_nI _) dJ7_fill_53178_3 ?_
  refine lv_istore_n (lv' := [(3, vI 96), (2, vI 0), (0, vR fa), (1, vI v)]) hx hb dJ7_fill_53178_4 rfl hlv (by decide) rfl (fun ls hlv => ?_)
  refine (?_ : ∀ (fu : Nat) (x : Int) (fg : Nat → Int32) (H : Heap) (locs : List Loc) (ls : Array Slot), 96 - x < (fu : Int) → (0 ≤ x ∧ x ≤ 96) → (∀ j : Nat, (j : Int) < x → nz fg j = v) → inv_ 96 0 99 fg → va_P D vwCl [zI fa (cy 0) 96 fg] H → va_D A [zI fa (cy 0) 96 fg] → va_S A s.heap H locs → lv_has ls 4 [(3, vI 96), (2, vI x), (0, vR fa), (1, vI v)] → W p l e _ s m _ below meth c H locs _ _ _ (F0 m 5 ls [])) (((96 - 0) + 1 : Int)).toNat 0 ff _ _ _ (by omega) (by show (0 : Int) ≤ 0 ∧ (0 : Int) ≤ 96; decide) (fun j h9 => absurd h9 (by omega)) hff hP hD hS hlv
  clear hP hD hS hlv
  intro fu
  induction fu with
  | zero => intro x fg H locs ls hm5 hl5_0 hl5_1 hifg hP hD hS hlv; omega
  | succ fu ih5 =>
    intro x fg H locs ls hm5 hl5_0 hl5_1 hifg hP hD hS hlv
    refine lv_iload_n hx hb dJ7_fill_53178_5 rfl (lv_at hlv 1 rfl) ?_
    refine lv_iload_n hx hb dJ7_fill_53178_6 rfl (lv_at hlv 0 rfl) ?_
    refine ir_ge (tgt := 20) hx hb dJ7_fill_53178_7 (by decide) (by first | exact rgw hl5_0 (by decide) (by decide) | omega) (by show ((-2147483648) : Int) ≤ 96 ∧ (96 : Int) ≤ 2147483647; decide) (fun c_1 => ?_) (fun c_1 => ?_)
    · refine W.widen (k := 0) (n := 0) (Nat.le_of_ble_eq_true rfl) (Nat.le_of_ble_eq_true rfl) ?_
      exact W.vret hx hb hr (fun t ht hW => ⟨⟨((fun k => ([] : List Nat).getD k 0), (fun k => ([] : List Int).getD k 0), (fun k => ([fg] : List (Nat → Int32)).getD k (fun _ => 0))), rfl, ⟨(by show (∀ j : Nat, j < 96 → nz (fg) j = v); exact (fun j h9 => hl5_1 j (by omega))), hifg⟩, by rw [ht]; exact hP.sub [0] rfl, hD.sub [0] (by decide) rfl⟩, hS.F ht⟩) hS.2.2 dJ7_fill_53178_20
    · refine lv_aload_n hx hb dJ7_fill_53178_10 rfl (lv_at hlv 2 rfl) ?_
      refine lv_iload_n hx hb dJ7_fill_53178_11 rfl (lv_at hlv 1 rfl) ?_
      refine lv_iload_n hx hb dJ7_fill_53178_12 rfl (lv_at hlv 3 rfl) ?_
      refine va_iast hx hb hG.1 hP hD hS 0 0 rfl rfl (iI_in (by omega) (by decide)) dJ7_fill_53178_13 (fun H locs hP hD hS => ?_)
      have ⟨f_2, hdf_2, hP, hD⟩ : ∃ f_2 : Nat → Int32, f_2 = upd fg (iI x).toNatClampNeg (iI v) ∧ va_P D vwCl [zI fa (cy 0) 96 f_2] H ∧ va_D A [zI fa (cy 0) 96 f_2] := ⟨_, rfl, hP, hD⟩
      have hif_2 : inv_ 96 0 99 f_2 := by rw [hdf_2]; exact inv_wr hifg (by omega)
      obtain ⟨z_3, hz_3⟩ : ∃ z : Int, z = x + 1 := ⟨_, rfl⟩
      refine lv_iinc (v := iI z_3) (lv' := [(2, vI z_3), (3, vI 96), (0, vR fa), (1, vI v)]) hx hb dJ7_fill_53178_14 hlv (k := 1) rfl (by rw [hz_3]; exact (Int32.ofInt_add _ _).symm) (by decide) rfl (fun ls hlv => ?_)
      refine lv_goto (tgt := 5) hx hb dJ7_fill_53178_17 (by decide) ?_
      exact ih5 z_3 f_2 H locs ls (by omega) (by omega) (fun j h9 => by by_cases q9 : (j : Int) = x; exact nz_us hdf_2 (by omega) (by omega) q9; rw [nz_un hdf_2 (by omega) q9]; exact hl5_1 j (by omega)) hif_2 (hP.sub [0] rfl) (hD.sub [0] (by decide) rfl) hS (lv_sub hlv [1, 0, 2, 3] rfl)
def vs_e_sreset : List Cond := .code yX6_reset cX6_reset 1 none :: (([.fieldLink RX6 28 "KerbSplash$Street" "wide" "I", .fieldLink RX6 32 "KerbSplash$Street" "rows" "I", .fieldLink RX6 9 "KerbSplash$Street" "height" "[I", .fieldLink RX6 13 "KerbSplash$Street" "water" "[I", .fieldLink RX6 41 "KerbSplash$Street" "drains" "I", .fieldLink RX6 44 "KerbSplash$Street" "drainsTold" "I", .fieldLink RX6 47 "KerbSplash$Street" "persons" "I", .fieldLink RX6 50 "KerbSplash$Street" "guesses" "I", .fieldLink RX6 53 "KerbSplash$Street" "shelters" "I", .fieldLink RX6 56 "KerbSplash$Street" "works" "I", .fieldLink RX6 59 "KerbSplash$Street" "done" "I", .fieldLink RX6 62 "KerbSplash$Street" "minutes" "I", .fieldLink RX6 65 "KerbSplash$Street" "fallen" "I", .fieldLink RX6 68 "KerbSplash$Street" "taken" "I", .fieldLink RX6 71 "KerbSplash$Street" "gone" "I"] : List Cond) ++ ((wsX60) ++ ((va_wsS RX6 35 yJ7_fill_53178 vs_e_fill96) ++ ((va_wsS RX6 35 yJ7_fill_53178 vs_e_fill96a) ++ ([])))))
theorem gd_e_sreset : vs_e_sreset.all goodWord = true := gd_C (by decide +kernel) (gd_A (by decide +kernel) (gd_A (by decide +kernel) (gd_A (gd_S gd_e_fill96 (by decide +kernel)) (gd_A (gd_S gd_e_fill96a (by decide +kernel)) rfl))))
set_option maxHeartbeats 4000000 in
set_option maxRecDepth 100000 in
theorem e_sreset (l : Launch) (hl : l.stackTraces = false) (D : va_G) (cy : Nat → ClassId) (sa : Nat → Nat) (sA s2 s3 s6 s8 s11 s13 : Nat) (wi ro dr dt pe gu sh wo dn mi fl tk go : Int) (hf wf : Nat → Int32) (sz : Nat) (hr_wi : 0 ≤ wi ∧ wi ≤ 16) (hr_ro : 0 ≤ ro ∧ ro ≤ 6) (hr_dr : 0 ≤ dr ∧ dr ≤ 14) (hr_dt : 0 ≤ dt ∧ dt ≤ 6) (hr_pe : 0 ≤ pe ∧ pe ≤ 8) (hr_gu : 0 ≤ gu ∧ gu ≤ 20) (hr_sh : 0 ≤ sh ∧ sh ≤ 2) (hr_wo : 0 ≤ wo ∧ wo ≤ 8) (hr_dn : (-2147483648) ≤ dn ∧ dn ≤ 2147483647) (hr_mi : 0 ≤ mi ∧ mi ≤ 600) (hr_fl : (-2147483648) ≤ fl ∧ fl ≤ 2147483647) (hr_tk : (-2147483648) ≤ tk ∧ tk ≤ 2147483647) (hr_go : (-2147483648) ≤ go ∧ go ≤ 2147483647) (hhf : inv_ 96 0 99 hf) : Met l yX6_reset vs_e_sreset ({ frames := 1, cells := 0, slots := 0, locals := 23 }) (va_Pc [vR sA] (pcW D cy sa sz [zO sA 6 [vI wi, vI ro, vR s2, vR s3, vI dr, vI dt, vR s6, vI pe, vR s8, vI gu, vI sh, vR s11, vI wo, vR s13, vI dn, vI mi, vI fl, vI tk, vI go], zI s2 (cy 0) 96 hf, zI s3 (cy 0) 96 wf])) (va_Qv (fun u : SV => (∀ j : Nat, j < 96 → nz (u.2.2 0) j = 50) ∧ (∀ j : Nat, j < 96 → nz (u.2.2 1) j = 0) ∧ inv_ 96 0 99 (u.2.2 0)) (fun u t => atW D (va_A [zO sA 6 [vI wi, vI ro, vR s2, vR s3, vI dr, vI dt, vR s6, vI pe, vR s8, vI gu, vI sh, vR s11, vI wo, vR s13, vI dn, vI mi, vI fl, vI tk, vI go], zI s2 (cy 0) 96 hf, zI s3 (cy 0) 96 wf] sz) [zO sA 6 [vI 8, vI 3, vR s2, vR s3, vI 0, vI 0, vR s6, vI 0, vR s8, vI 0, vI 0, vR s11, vI 0, vR s13, vI 0, vI 0, vI 0, vI 0, vI 0], zI s2 (cy 0) 96 (u.2.2 0), zI s3 (cy 0) 96 (u.2.2 1)] t) (va_A [zO sA 6 [vI wi, vI ro, vR s2, vR s3, vI dr, vI dt, vR s6, vI pe, vR s8, vI gu, vI sh, vR s11, vI wo, vR s13, vI dn, vI mi, vI fl, vI tk, vI go], zI s2 (cy 0) 96 hf, zI s3 (cy 0) 96 wf] sz)) 0 0 (va_A [zO sA 6 [vI wi, vI ro, vR s2, vR s3, vI dr, vI dt, vR s6, vI pe, vR s8, vI gu, vI sh, vR s11, vI wo, vR s13, vI dn, vI mi, vI fl, vI tk, vI go], zI s2 (cy 0) 96 hf, zI s3 (cy 0) 96 wf] sz) := by
  refine Met.ofW (cc := cX6_reset) (maxL := 1) (ret := none) (by decide) rfl ?_
  intro p e s m args below meth c s₁ B hml hv
  obtain ⟨rfl, hsz, hP, hG, hD0, hT⟩ := hv
  have hx := B.exec
  have hb := B.bytes
  have hr := B.returns
  have hts := atoms_spec (ws := vs_e_sreset) B.pre
  have hown : s.vm.findClass RX6 = some m.cls := findClass_of_methodNamed B.named
  have hlocks := B.notSynchronized
  subst hsz
  have hD := hD0.self (sz := s.heap.size)
  generalize hAe : va_A [zO sA 6 [vI wi, vI ro, vR s2, vR s3, vI dr, vI dt, vR s6, vI pe, vR s8, vI gu, vI sh, vR s11, vI wo, vR s13, vI dn, vI mi, vI fl, vI tk, vI go], zI s2 (cy 0) 96 hf, zI s3 (cy 0) 96 wf] s.heap.size = A at hD hT ⊢
  have hA : ∀ q : Nat, s.heap.size ≤ q → A q := fun q h => by rw [← hAe]; exact Or.inr h
  have hS : va_S A s.heap s.heap [] := va_S.rf
  have hl0 := lv_entry ([vR sA]) (n := 1) (Nat.le_of_ble_eq_true rfl)
  rw [lg_entry_eq]
  generalize (lg_sl ([vR sA]) ++ List.replicate (1 - (lg_sl ([vR sA])).length) Slot.unset).toArray = ls at hl0 ⊢
  have hlv : lv_has ls 1 [(0, vR sA)] := hl0
  have lf28 := hts (.fieldLink RX6 28 "KerbSplash$Street" "wide" "I") (List.mem_of_getElem? (i := 1) rfl)
  have hi6 : ∀ w ∈ wsX60, w ∈ vs_e_sreset := fun w h => List.mem_cons_of_mem _ (List.mem_append_right _ (List.mem_append_left _ h))
  have lf32 := hts (.fieldLink RX6 32 "KerbSplash$Street" "rows" "I") (List.mem_of_getElem? (i := 2) rfl)
  have lf9 := hts (.fieldLink RX6 9 "KerbSplash$Street" "height" "[I") (List.mem_of_getElem? (i := 3) rfl)
  have gg_1 : GoodIn vs_e_sreset (va_wsS RX6 35 yJ7_fill_53178 vs_e_fill96) := goodIn_sub (fun w h => List.mem_cons_of_mem _ (List.mem_append_right _ (List.mem_append_right _ (List.mem_append_left _ h)))) (gd_S gd_e_fill96 (by decide +kernel))
  have lf13 := hts (.fieldLink RX6 13 "KerbSplash$Street" "water" "[I") (List.mem_of_getElem? (i := 4) rfl)
  have gg_2 : GoodIn vs_e_sreset (va_wsS RX6 35 yJ7_fill_53178 vs_e_fill96a) := goodIn_sub (fun w h => List.mem_cons_of_mem _ (List.mem_append_right _ (List.mem_append_right _ (List.mem_append_right _ (List.mem_append_left _ h))))) (gd_S gd_e_fill96a (by decide +kernel))
  have lf41 := hts (.fieldLink RX6 41 "KerbSplash$Street" "drains" "I") (List.mem_of_getElem? (i := 5) rfl)
  have lf44 := hts (.fieldLink RX6 44 "KerbSplash$Street" "drainsTold" "I") (List.mem_of_getElem? (i := 6) rfl)
  have lf47 := hts (.fieldLink RX6 47 "KerbSplash$Street" "persons" "I") (List.mem_of_getElem? (i := 7) rfl)
  have lf50 := hts (.fieldLink RX6 50 "KerbSplash$Street" "guesses" "I") (List.mem_of_getElem? (i := 8) rfl)
  have lf53 := hts (.fieldLink RX6 53 "KerbSplash$Street" "shelters" "I") (List.mem_of_getElem? (i := 9) rfl)
  have lf56 := hts (.fieldLink RX6 56 "KerbSplash$Street" "works" "I") (List.mem_of_getElem? (i := 10) rfl)
  have lf59 := hts (.fieldLink RX6 59 "KerbSplash$Street" "done" "I") (List.mem_of_getElem? (i := 11) rfl)
  have lf62 := hts (.fieldLink RX6 62 "KerbSplash$Street" "minutes" "I") (List.mem_of_getElem? (i := 12) rfl)
  have lf65 := hts (.fieldLink RX6 65 "KerbSplash$Street" "fallen" "I") (List.mem_of_getElem? (i := 13) rfl)
  have lf68 := hts (.fieldLink RX6 68 "KerbSplash$Street" "taken" "I") (List.mem_of_getElem? (i := 14) rfl)
  have lf71 := hts (.fieldLink RX6 71 "KerbSplash$Street" "gone" "I") (List.mem_of_getElem? (i := 15) rfl)
  refine lv_aload_n hx hb dX6_reset_0 rfl (lv_at hlv 0 rfl) ?_
  refine lv_bipush (v := iI 8) hx hb dX6_reset_1 (by decide) ?_
  refine va_put (D := D) (ci := 6) (v := vI 8) (ty := .int) (C := RX6) (T := TX6) (N := 19) hx hb hts hi6 tyX6 tyX6_ok nmX6 hown hG.1 hP hD hS 0 rfl rfl 0 (by decide) lf28 (fun _ h9 => h9) rfl (by decide +kernel) rfl rfl (Nat.le_of_ble_eq_true rfl) dX6_reset_3 (fun H locs hP hD hS => ?_)
  have hP : va_P D vwCl [zO sA 6 [vI 8, vI ro, vR s2, vR s3, vI dr, vI dt, vR s6, vI pe, vR s8, vI gu, vI sh, vR s11, vI wo, vR s13, vI dn, vI mi, vI fl, vI tk, vI go], zI s2 (cy 0) 96 hf, zI s3 (cy 0) 96 wf] H := hP
  have hD : va_D A [zO sA 6 [vI 8, vI ro, vR s2, vR s3, vI dr, vI dt, vR s6, vI pe, vR s8, vI gu, vI sh, vR s11, vI wo, vR s13, vI dn, vI mi, vI fl, vI tk, vI go], zI s2 (cy 0) 96 hf, zI s3 (cy 0) 96 wf] := hD
  refine lv_aload_n hx hb dX6_reset_6 rfl (lv_at hlv 0 rfl) ?_
  refine lv_iconst (v := iI 3) hx hb dX6_reset_7 (by decide) ?_
  refine va_put (D := D) (ci := 6) (v := vI 3) (ty := .int) (C := RX6) (T := TX6) (N := 19) hx hb hts hi6 tyX6 tyX6_ok nmX6 hown hG.1 hP hD hS 0 rfl rfl 1 (by decide) lf32 (fun _ h9 => h9) rfl (by decide +kernel) rfl rfl (Nat.le_of_ble_eq_true rfl) dX6_reset_8 (fun H locs hP hD hS => ?_)
  have hP : va_P D vwCl [zO sA 6 [vI 8, vI 3, vR s2, vR s3, vI dr, vI dt, vR s6, vI pe, vR s8, vI gu, vI sh, vR s11, vI wo, vR s13, vI dn, vI mi, vI fl, vI tk, vI go], zI s2 (cy 0) 96 hf, zI s3 (cy 0) 96 wf] H := hP
  have hD : va_D A [zO sA 6 [vI 8, vI 3, vR s2, vR s3, vI dr, vI dt, vR s6, vI pe, vR s8, vI gu, vI sh, vR s11, vI wo, vR s13, vI dn, vI mi, vI fl, vI tk, vI go], zI s2 (cy 0) 96 hf, zI s3 (cy 0) 96 wf] := hD
  refine lv_aload_n hx hb dX6_reset_11 rfl (lv_at hlv 0 rfl) ?_
  refine va_get (D := D) (ci := 6) (v := vR s2) (C := RX6) (T := TX6) (N := 19) hx hb hts hi6 hown hG.1 hP 0 rfl rfl 2 (by decide) lf9 (fun _ h9 => h9) rfl dX6_reset_12 ?_
  refine lv_bipush (v := iI 50) hx hb dX6_reset_15 (by decide) ?_
  refine cj_v (wr := [zO sA 6 [vI 8, vI 3, vR s2, vR s3, vI dr, vI dt, vR s6, vI pe, vR s8, vI gu, vI sh, vR s11, vI wo, vR s13, vI dn, vI mi, vI fl, vI tk, vI go], zI s3 (cy 0) 96 wf]) (va_runS (As := [vR s2, vI 50]) (rest := []) ⟨hx, hb, hml, hown, hts⟩ (e_fill96 l hl D cy sa s2 hf 50 H.size (by show (0 : Int) ≤ 50 ∧ (50 : Int) ≤ 99; decide) hhf) (va_cwS 2 hts gg_1 rfl rfl rfl (by decide +kernel) ⟨Nat.le_of_ble_eq_true rfl, Nat.le_of_ble_eq_true rfl⟩) ⟨pcW.blind, (pcW.mk hP hD hS hA hG hT [1] rfl (by decide))⟩ rfl rfl hlv.1 rfl (lv_room (Nat.le_of_ble_eq_true rfl)) dX6_reset_17 ⟨Nat.le_of_ble_eq_true rfl, Nat.le_of_ble_eq_true rfl⟩) hP hD hS hA [1] [0, 2] rfl rfl (by decide) (by decide) (fun u1 H locs hw1 hP hD hS => ?_)
  obtain ⟨hq1_0, hq1_1⟩ := hw1
  have hP : va_P D vwCl [zO sA 6 [vI 8, vI 3, vR s2, vR s3, vI dr, vI dt, vR s6, vI pe, vR s8, vI gu, vI sh, vR s11, vI wo, vR s13, vI dn, vI mi, vI fl, vI tk, vI go], zI s3 (cy 0) 96 wf, zI s2 (cy 0) 96 (u1.2.2 0)] H := hP
  have hD : va_D A [zO sA 6 [vI 8, vI 3, vR s2, vR s3, vI dr, vI dt, vR s6, vI pe, vR s8, vI gu, vI sh, vR s11, vI wo, vR s13, vI dn, vI mi, vI fl, vI tk, vI go], zI s3 (cy 0) 96 wf, zI s2 (cy 0) 96 (u1.2.2 0)] := hD
  refine lv_aload_n hx hb dX6_reset_20 rfl (lv_at hlv 0 rfl) ?_
  refine va_get (D := D) (ci := 6) (v := vR s3) (C := RX6) (T := TX6) (N := 19) hx hb hts hi6 hown hG.1 hP 0 rfl rfl 3 (by decide) lf13 (fun _ h9 => h9) rfl dX6_reset_21 ?_
  refine lv_iconst (v := iI 0) hx hb dX6_reset_24 (by decide) ?_
  refine cj_v (wr := [zO sA 6 [vI 8, vI 3, vR s2, vR s3, vI dr, vI dt, vR s6, vI pe, vR s8, vI gu, vI sh, vR s11, vI wo, vR s13, vI dn, vI mi, vI fl, vI tk, vI go], zI s2 (cy 0) 96 (u1.2.2 0)]) (va_runS (As := [vR s3, vI 0]) (rest := []) ⟨hx, hb, hml, hown, hts⟩ (e_fill96a l hl D cy sa s3 wf 0 H.size (by show ((-2147483648) : Int) ≤ 0 ∧ (0 : Int) ≤ 2147483647; decide)) (va_cwS 2 hts gg_2 rfl rfl rfl (by decide +kernel) ⟨Nat.le_of_ble_eq_true rfl, Nat.le_of_ble_eq_true rfl⟩) ⟨pcW.blind, (pcW.mk hP hD hS hA hG hT [1] rfl (by decide))⟩ rfl rfl hlv.1 rfl (lv_room (Nat.le_of_ble_eq_true rfl)) dX6_reset_25 ⟨Nat.le_of_ble_eq_true rfl, Nat.le_of_ble_eq_true rfl⟩) hP hD hS hA [1] [0, 2] rfl rfl (by decide) (by decide) (fun u2 H locs hw2 hP hD hS => ?_)
  have hq2_0 : (∀ j : Nat, j < 96 → nz (u2.2.2 0) j = 0) := hw2
  have hP : va_P D vwCl [zO sA 6 [vI 8, vI 3, vR s2, vR s3, vI dr, vI dt, vR s6, vI pe, vR s8, vI gu, vI sh, vR s11, vI wo, vR s13, vI dn, vI mi, vI fl, vI tk, vI go], zI s2 (cy 0) 96 (u1.2.2 0), zI s3 (cy 0) 96 (u2.2.2 0)] H := hP
  have hD : va_D A [zO sA 6 [vI 8, vI 3, vR s2, vR s3, vI dr, vI dt, vR s6, vI pe, vR s8, vI gu, vI sh, vR s11, vI wo, vR s13, vI dn, vI mi, vI fl, vI tk, vI go], zI s2 (cy 0) 96 (u1.2.2 0), zI s3 (cy 0) 96 (u2.2.2 0)] := hD
  refine lv_aload_n hx hb dX6_reset_28 rfl (lv_at hlv 0 rfl) ?_
  refine lv_iconst (v := iI 0) hx hb dX6_reset_29 (by decide) ?_
  refine va_put (D := D) (ci := 6) (v := vI 0) (ty := .int) (C := RX6) (T := TX6) (N := 19) hx hb hts hi6 tyX6 tyX6_ok nmX6 hown hG.1 hP hD hS 0 rfl rfl 4 (by decide) lf41 (fun _ h9 => h9) rfl (by decide +kernel) rfl rfl (Nat.le_of_ble_eq_true rfl) dX6_reset_30 (fun H locs hP hD hS => ?_)
  have hP : va_P D vwCl [zO sA 6 [vI 8, vI 3, vR s2, vR s3, vI 0, vI dt, vR s6, vI pe, vR s8, vI gu, vI sh, vR s11, vI wo, vR s13, vI dn, vI mi, vI fl, vI tk, vI go], zI s2 (cy 0) 96 (u1.2.2 0), zI s3 (cy 0) 96 (u2.2.2 0)] H := hP
  have hD : va_D A [zO sA 6 [vI 8, vI 3, vR s2, vR s3, vI 0, vI dt, vR s6, vI pe, vR s8, vI gu, vI sh, vR s11, vI wo, vR s13, vI dn, vI mi, vI fl, vI tk, vI go], zI s2 (cy 0) 96 (u1.2.2 0), zI s3 (cy 0) 96 (u2.2.2 0)] := hD
  refine lv_aload_n hx hb dX6_reset_33 rfl (lv_at hlv 0 rfl) ?_
  refine lv_iconst (v := iI 0) hx hb dX6_reset_34 (by decide) ?_
  refine va_put (D := D) (ci := 6) (v := vI 0) (ty := .int) (C := RX6) (T := TX6) (N := 19) hx hb hts hi6 tyX6 tyX6_ok nmX6 hown hG.1 hP hD hS 0 rfl rfl 5 (by decide) lf44 (fun _ h9 => h9) rfl (by decide +kernel) rfl rfl (Nat.le_of_ble_eq_true rfl) dX6_reset_35 (fun H locs hP hD hS => ?_)
  have hP : va_P D vwCl [zO sA 6 [vI 8, vI 3, vR s2, vR s3, vI 0, vI 0, vR s6, vI pe, vR s8, vI gu, vI sh, vR s11, vI wo, vR s13, vI dn, vI mi, vI fl, vI tk, vI go], zI s2 (cy 0) 96 (u1.2.2 0), zI s3 (cy 0) 96 (u2.2.2 0)] H := hP
  have hD : va_D A [zO sA 6 [vI 8, vI 3, vR s2, vR s3, vI 0, vI 0, vR s6, vI pe, vR s8, vI gu, vI sh, vR s11, vI wo, vR s13, vI dn, vI mi, vI fl, vI tk, vI go], zI s2 (cy 0) 96 (u1.2.2 0), zI s3 (cy 0) 96 (u2.2.2 0)] := hD
  refine lv_aload_n hx hb dX6_reset_38 rfl (lv_at hlv 0 rfl) ?_
  refine lv_iconst (v := iI 0) hx hb dX6_reset_39 (by decide) ?_
  refine va_put (D := D) (ci := 6) (v := vI 0) (ty := .int) (C := RX6) (T := TX6) (N := 19) hx hb hts hi6 tyX6 tyX6_ok nmX6 hown hG.1 hP hD hS 0 rfl rfl 7 (by decide) lf47 (fun _ h9 => h9) rfl (by decide +kernel) rfl rfl (Nat.le_of_ble_eq_true rfl) dX6_reset_40 (fun H locs hP hD hS => ?_)
  have hP : va_P D vwCl [zO sA 6 [vI 8, vI 3, vR s2, vR s3, vI 0, vI 0, vR s6, vI 0, vR s8, vI gu, vI sh, vR s11, vI wo, vR s13, vI dn, vI mi, vI fl, vI tk, vI go], zI s2 (cy 0) 96 (u1.2.2 0), zI s3 (cy 0) 96 (u2.2.2 0)] H := hP
  have hD : va_D A [zO sA 6 [vI 8, vI 3, vR s2, vR s3, vI 0, vI 0, vR s6, vI 0, vR s8, vI gu, vI sh, vR s11, vI wo, vR s13, vI dn, vI mi, vI fl, vI tk, vI go], zI s2 (cy 0) 96 (u1.2.2 0), zI s3 (cy 0) 96 (u2.2.2 0)] := hD
  refine lv_aload_n hx hb dX6_reset_43 rfl (lv_at hlv 0 rfl) ?_
  refine lv_iconst (v := iI 0) hx hb dX6_reset_44 (by decide) ?_
  refine va_put (D := D) (ci := 6) (v := vI 0) (ty := .int) (C := RX6) (T := TX6) (N := 19) hx hb hts hi6 tyX6 tyX6_ok nmX6 hown hG.1 hP hD hS 0 rfl rfl 9 (by decide) lf50 (fun _ h9 => h9) rfl (by decide +kernel) rfl rfl (Nat.le_of_ble_eq_true rfl) dX6_reset_45 (fun H locs hP hD hS => ?_)
  have hP : va_P D vwCl [zO sA 6 [vI 8, vI 3, vR s2, vR s3, vI 0, vI 0, vR s6, vI 0, vR s8, vI 0, vI sh, vR s11, vI wo, vR s13, vI dn, vI mi, vI fl, vI tk, vI go], zI s2 (cy 0) 96 (u1.2.2 0), zI s3 (cy 0) 96 (u2.2.2 0)] H := hP
  have hD : va_D A [zO sA 6 [vI 8, vI 3, vR s2, vR s3, vI 0, vI 0, vR s6, vI 0, vR s8, vI 0, vI sh, vR s11, vI wo, vR s13, vI dn, vI mi, vI fl, vI tk, vI go], zI s2 (cy 0) 96 (u1.2.2 0), zI s3 (cy 0) 96 (u2.2.2 0)] := hD
  refine lv_aload_n hx hb dX6_reset_48 rfl (lv_at hlv 0 rfl) ?_
  refine lv_iconst (v := iI 0) hx hb dX6_reset_49 (by decide) ?_
  refine va_put (D := D) (ci := 6) (v := vI 0) (ty := .int) (C := RX6) (T := TX6) (N := 19) hx hb hts hi6 tyX6 tyX6_ok nmX6 hown hG.1 hP hD hS 0 rfl rfl 10 (by decide) lf53 (fun _ h9 => h9) rfl (by decide +kernel) rfl rfl (Nat.le_of_ble_eq_true rfl) dX6_reset_50 (fun H locs hP hD hS => ?_)
  have hP : va_P D vwCl [zO sA 6 [vI 8, vI 3, vR s2, vR s3, vI 0, vI 0, vR s6, vI 0, vR s8, vI 0, vI 0, vR s11, vI wo, vR s13, vI dn, vI mi, vI fl, vI tk, vI go], zI s2 (cy 0) 96 (u1.2.2 0), zI s3 (cy 0) 96 (u2.2.2 0)] H := hP
  have hD : va_D A [zO sA 6 [vI 8, vI 3, vR s2, vR s3, vI 0, vI 0, vR s6, vI 0, vR s8, vI 0, vI 0, vR s11, vI wo, vR s13, vI dn, vI mi, vI fl, vI tk, vI go], zI s2 (cy 0) 96 (u1.2.2 0), zI s3 (cy 0) 96 (u2.2.2 0)] := hD
  refine lv_aload_n hx hb dX6_reset_53 rfl (lv_at hlv 0 rfl) ?_
  refine lv_iconst (v := iI 0) hx hb dX6_reset_54 (by decide) ?_
  refine va_put (D := D) (ci := 6) (v := vI 0) (ty := .int) (C := RX6) (T := TX6) (N := 19) hx hb hts hi6 tyX6 tyX6_ok nmX6 hown hG.1 hP hD hS 0 rfl rfl 12 (by decide) lf56 (fun _ h9 => h9) rfl (by decide +kernel) rfl rfl (Nat.le_of_ble_eq_true rfl) dX6_reset_55 (fun H locs hP hD hS => ?_)
  have hP : va_P D vwCl [zO sA 6 [vI 8, vI 3, vR s2, vR s3, vI 0, vI 0, vR s6, vI 0, vR s8, vI 0, vI 0, vR s11, vI 0, vR s13, vI dn, vI mi, vI fl, vI tk, vI go], zI s2 (cy 0) 96 (u1.2.2 0), zI s3 (cy 0) 96 (u2.2.2 0)] H := hP
  have hD : va_D A [zO sA 6 [vI 8, vI 3, vR s2, vR s3, vI 0, vI 0, vR s6, vI 0, vR s8, vI 0, vI 0, vR s11, vI 0, vR s13, vI dn, vI mi, vI fl, vI tk, vI go], zI s2 (cy 0) 96 (u1.2.2 0), zI s3 (cy 0) 96 (u2.2.2 0)] := hD
  refine lv_aload_n hx hb dX6_reset_58 rfl (lv_at hlv 0 rfl) ?_
  refine lv_iconst (v := iI 0) hx hb dX6_reset_59 (by decide) ?_
  refine va_put (D := D) (ci := 6) (v := vI 0) (ty := .int) (C := RX6) (T := TX6) (N := 19) hx hb hts hi6 tyX6 tyX6_ok nmX6 hown hG.1 hP hD hS 0 rfl rfl 14 (by decide) lf59 (fun _ h9 => h9) rfl (by decide +kernel) rfl rfl (Nat.le_of_ble_eq_true rfl) dX6_reset_60 (fun H locs hP hD hS => ?_)
  have hP : va_P D vwCl [zO sA 6 [vI 8, vI 3, vR s2, vR s3, vI 0, vI 0, vR s6, vI 0, vR s8, vI 0, vI 0, vR s11, vI 0, vR s13, vI 0, vI mi, vI fl, vI tk, vI go], zI s2 (cy 0) 96 (u1.2.2 0), zI s3 (cy 0) 96 (u2.2.2 0)] H := hP
  have hD : va_D A [zO sA 6 [vI 8, vI 3, vR s2, vR s3, vI 0, vI 0, vR s6, vI 0, vR s8, vI 0, vI 0, vR s11, vI 0, vR s13, vI 0, vI mi, vI fl, vI tk, vI go], zI s2 (cy 0) 96 (u1.2.2 0), zI s3 (cy 0) 96 (u2.2.2 0)] := hD
  refine lv_aload_n hx hb dX6_reset_63 rfl (lv_at hlv 0 rfl) ?_
  refine lv_iconst (v := iI 0) hx hb dX6_reset_64 (by decide) ?_
  refine va_put (D := D) (ci := 6) (v := vI 0) (ty := .int) (C := RX6) (T := TX6) (N := 19) hx hb hts hi6 tyX6 tyX6_ok nmX6 hown hG.1 hP hD hS 0 rfl rfl 15 (by decide) lf62 (fun _ h9 => h9) rfl (by decide +kernel) rfl rfl (Nat.le_of_ble_eq_true rfl) dX6_reset_65 (fun H locs hP hD hS => ?_)
  have hP : va_P D vwCl [zO sA 6 [vI 8, vI 3, vR s2, vR s3, vI 0, vI 0, vR s6, vI 0, vR s8, vI 0, vI 0, vR s11, vI 0, vR s13, vI 0, vI 0, vI fl, vI tk, vI go], zI s2 (cy 0) 96 (u1.2.2 0), zI s3 (cy 0) 96 (u2.2.2 0)] H := hP
  have hD : va_D A [zO sA 6 [vI 8, vI 3, vR s2, vR s3, vI 0, vI 0, vR s6, vI 0, vR s8, vI 0, vI 0, vR s11, vI 0, vR s13, vI 0, vI 0, vI fl, vI tk, vI go], zI s2 (cy 0) 96 (u1.2.2 0), zI s3 (cy 0) 96 (u2.2.2 0)] := hD
  refine lv_aload_n hx hb dX6_reset_68 rfl (lv_at hlv 0 rfl) ?_
  refine lv_iconst (v := iI 0) hx hb dX6_reset_69 (by decide) ?_
  refine va_put (D := D) (ci := 6) (v := vI 0) (ty := .int) (C := RX6) (T := TX6) (N := 19) hx hb hts hi6 tyX6 tyX6_ok nmX6 hown hG.1 hP hD hS 0 rfl rfl 16 (by decide) lf65 (fun _ h9 => h9) rfl (by decide +kernel) rfl rfl (Nat.le_of_ble_eq_true rfl) dX6_reset_70 (fun H locs hP hD hS => ?_)
  have hP : va_P D vwCl [zO sA 6 [vI 8, vI 3, vR s2, vR s3, vI 0, vI 0, vR s6, vI 0, vR s8, vI 0, vI 0, vR s11, vI 0, vR s13, vI 0, vI 0, vI 0, vI tk, vI go], zI s2 (cy 0) 96 (u1.2.2 0), zI s3 (cy 0) 96 (u2.2.2 0)] H := hP
  have hD : va_D A [zO sA 6 [vI 8, vI 3, vR s2, vR s3, vI 0, vI 0, vR s6, vI 0, vR s8, vI 0, vI 0, vR s11, vI 0, vR s13, vI 0, vI 0, vI 0, vI tk, vI go], zI s2 (cy 0) 96 (u1.2.2 0), zI s3 (cy 0) 96 (u2.2.2 0)] := hD
  refine lv_aload_n hx hb dX6_reset_73 rfl (lv_at hlv 0 rfl) ?_
  refine lv_iconst (v := iI 0) hx hb dX6_reset_74 (by decide) ?_
  refine va_put (D := D) (ci := 6) (v := vI 0) (ty := .int) (C := RX6) (T := TX6) (N := 19) hx hb hts hi6 tyX6 tyX6_ok nmX6 hown hG.1 hP hD hS 0 rfl rfl 17 (by decide) lf68 (fun _ h9 => h9) rfl (by decide +kernel) rfl rfl (Nat.le_of_ble_eq_true rfl) dX6_reset_75 (fun H locs hP hD hS => ?_)
  have hP : va_P D vwCl [zO sA 6 [vI 8, vI 3, vR s2, vR s3, vI 0, vI 0, vR s6, vI 0, vR s8, vI 0, vI 0, vR s11, vI 0, vR s13, vI 0, vI 0, vI 0, vI 0, vI go], zI s2 (cy 0) 96 (u1.2.2 0), zI s3 (cy 0) 96 (u2.2.2 0)] H := hP
  have hD : va_D A [zO sA 6 [vI 8, vI 3, vR s2, vR s3, vI 0, vI 0, vR s6, vI 0, vR s8, vI 0, vI 0, vR s11, vI 0, vR s13, vI 0, vI 0, vI 0, vI 0, vI go], zI s2 (cy 0) 96 (u1.2.2 0), zI s3 (cy 0) 96 (u2.2.2 0)] := hD
  refine lv_aload_n hx hb dX6_reset_78 rfl (lv_at hlv 0 rfl) ?_
  refine lv_iconst (v := iI 0) hx hb dX6_reset_79 (by decide) ?_
  refine va_put (D := D) (ci := 6) (v := vI 0) (ty := .int) (C := RX6) (T := TX6) (N := 19) hx hb hts hi6 tyX6 tyX6_ok nmX6 hown hG.1 hP hD hS 0 rfl rfl 18 (by decide) lf71 (fun _ h9 => h9) rfl (by decide +kernel) rfl rfl (Nat.le_of_ble_eq_true rfl) dX6_reset_80 (fun H locs hP hD hS => ?_)
  have hP : va_P D vwCl [zO sA 6 [vI 8, vI 3, vR s2, vR s3, vI 0, vI 0, vR s6, vI 0, vR s8, vI 0, vI 0, vR s11, vI 0, vR s13, vI 0, vI 0, vI 0, vI 0, vI 0], zI s2 (cy 0) 96 (u1.2.2 0), zI s3 (cy 0) 96 (u2.2.2 0)] H := hP
  have hD : va_D A [zO sA 6 [vI 8, vI 3, vR s2, vR s3, vI 0, vI 0, vR s6, vI 0, vR s8, vI 0, vI 0, vR s11, vI 0, vR s13, vI 0, vI 0, vI 0, vI 0, vI 0], zI s2 (cy 0) 96 (u1.2.2 0), zI s3 (cy 0) 96 (u2.2.2 0)] := hD
  refine W.widen (k := 0) (n := 0) (Nat.le_of_ble_eq_true rfl) (Nat.le_of_ble_eq_true rfl) ?_
  exact W.vret hx hb hr (fun t ht hW => ⟨⟨((fun k => ([] : List Nat).getD k 0), (fun k => ([] : List Int).getD k 0), (fun k => ([(u1.2.2 0), (u2.2.2 0)] : List (Nat → Int32)).getD k (fun _ => 0))), rfl, ⟨(by show (∀ j : Nat, j < 96 → nz ((u1.2.2 0)) j = 50); exact hq1_0), (by show (∀ j : Nat, j < 96 → nz ((u2.2.2 0)) j = 0); exact hq2_0), hq1_1⟩, by rw [ht]; exact hP.sub [0, 1, 2] rfl, hD.sub [0, 1, 2] (by decide) rfl⟩, hS.F ht⟩) hS.2.2 dX6_reset_83
