
def vs_e_refuse : List Cond := .code yX8_refuse cX8_refuse 2 none :: (([.fieldLink RX8 31 "KerbSplash$Tape" "fault" "I", .fieldLink RX8 25 "KerbSplash$Tape" "at" "I", .fieldLink RX8 15 "KerbSplash$Tape" "faultAt" "I"] : List Cond) ++ ((wsX80) ++ ([])))
theorem gd_e_refuse : vs_e_refuse.all goodWord = true := gd_C (by decide +kernel) (gd_A (by decide +kernel) (gd_A (by decide +kernel) rfl))
set_option maxHeartbeats 4000000 in
set_option maxRecDepth 100000 in
theorem e_refuse (l : Launch) (hl : l.stackTraces = false) (D : va_G) (cy : Nat → ClassId) (sa : Nat → Nat) (ta tb : Nat) (fed len at_ we fa fp : Int) (n : Int) (sz : Nat) (hr_fed : 0 ≤ fed ∧ fed ≤ 600) (hr_len : 0 ≤ len ∧ len ≤ 600) (hr_at_ : 0 ≤ at_ ∧ at_ ≤ 600) (hr_we : 0 ≤ we ∧ we ≤ 600) (hr_fa : 0 ≤ fa ∧ fa ≤ 4) (hr_fp : (-1) ≤ fp ∧ fp ≤ 600) (hr_n : 1 ≤ n ∧ n ≤ 4) : Met l yX8_refuse vs_e_refuse ({ frames := 0, cells := 0, slots := 0, locals := 0 }) (va_Pc [vR ta, vI n] (pcW D cy sa sz [zO ta 8 [vR tb, vI fed, vI len, vI at_, vI we, vI fa, vI fp]])) (va_Qv (fun u : SV => (1 ≤ u.2.1 0 ∧ u.2.1 0 ≤ 4) ∧ ((-1) ≤ u.2.1 1 ∧ u.2.1 1 ≤ 600) ∧ (fa ≠ 0 → u.2.1 0 = fa ∧ u.2.1 1 = fp) ∧ (fa = 0 → u.2.1 0 = n ∧ u.2.1 1 = at_)) (fun u t => atW D (va_A [zO ta 8 [vR tb, vI fed, vI len, vI at_, vI we, vI fa, vI fp]] sz) [zO ta 8 [vR tb, vI fed, vI len, vI at_, vI we, vI (u.2.1 0), vI (u.2.1 1)]] t) (va_A [zO ta 8 [vR tb, vI fed, vI len, vI at_, vI we, vI fa, vI fp]] sz)) 0 0 (va_A [zO ta 8 [vR tb, vI fed, vI len, vI at_, vI we, vI fa, vI fp]] sz) := by
  refine Met.ofW (cc := cX8_refuse) (maxL := 2) (ret := none) (by decide) rfl ?_
  intro p e s m args below meth c s₁ B hml hv
  obtain ⟨rfl, hsz, hP, hG, hD0, hT⟩ := hv
  have hx := B.exec
  have hb := B.bytes
  have hr := B.returns
  have hts := atoms_spec (ws := vs_e_refuse) B.pre
  have hown : s.vm.findClass RX8 = some m.cls := findClass_of_methodNamed B.named
  have hlocks := B.notSynchronized
  subst hsz
  have hD := hD0.self (sz := s.heap.size)
  generalize hAe : va_A [zO ta 8 [vR tb, vI fed, vI len, vI at_, vI we, vI fa, vI fp]] s.heap.size = A at hD hT ⊢
  have hA : ∀ q : Nat, s.heap.size ≤ q → A q := fun q h => by rw [← hAe]; exact Or.inr h
  have hS : va_S A s.heap s.heap [] := va_S.rf
  have hl0 := lv_entry ([vR ta, vI n]) (n := 2) (Nat.le_of_ble_eq_true rfl)
  rw [lg_entry_eq]
  generalize (lg_sl ([vR ta, vI n]) ++ List.replicate (2 - (lg_sl ([vR ta, vI n])).length) Slot.unset).toArray = ls at hl0 ⊢
  have hlv : lv_has ls 2 [(0, vR ta), (1, vI n)] := hl0
  have lf31 := hts (.fieldLink RX8 31 "KerbSplash$Tape" "fault" "I") (List.mem_of_getElem? (i := 1) rfl)
  have hi8 : ∀ w ∈ wsX80, w ∈ vs_e_refuse := fun w h => List.mem_cons_of_mem _ (List.mem_append_right _ (List.mem_append_left _ h))
  have lf25 := hts (.fieldLink RX8 25 "KerbSplash$Tape" "at" "I") (List.mem_of_getElem? (i := 2) rfl)
  have lf15 := hts (.fieldLink RX8 15 "KerbSplash$Tape" "faultAt" "I") (List.mem_of_getElem? (i := 3) rfl)
  refine lv_aload_n hx hb dX8_refuse_0 rfl (lv_at hlv 0 rfl) ?_
  refine va_get (D := D) (ci := 8) (v := vI fa) (C := RX8) (T := TX8) (N := 7) hx hb hts hi8 hown hG.1 hP 0 rfl rfl 5 (by decide) lf31 (fun _ h9 => h9) rfl dX8_refuse_1 ?_
  refine iz_ne (tgt := 20) hx hb dX8_refuse_4 (by decide) (by first | exact rgw hr_fa (by decide) (by decide) | omega) (fun c_1 => ?_) (fun c_1 => ?_)
  · refine W.widen (k := 0) (n := 0) (Nat.le_of_ble_eq_true rfl) (Nat.le_of_ble_eq_true rfl) ?_
    exact W.vret hx hb hr (fun t ht hW => ⟨⟨((fun k => ([] : List Nat).getD k 0), (fun k => ([fa, fp] : List Int).getD k 0), (fun k => ([] : List (Nat → Int32)).getD k (fun _ => 0))), rfl, ⟨(by show (1 ≤ fa ∧ fa ≤ 4); omega), (by show ((-1) ≤ fp ∧ fp ≤ 600); first | exact hr_fp | omega), (by show (fa ≠ 0 → fa = fa ∧ fp = fp); omega), (by show (fa = 0 → fa = n ∧ fp = at_); omega)⟩, by rw [ht]; exact hP.sub [0] rfl, hD.sub [0] (by decide) rfl⟩, hS.F ht⟩) hS.2.2 dX8_refuse_20
  · refine lv_aload_n hx hb dX8_refuse_7 rfl (lv_at hlv 0 rfl) ?_
    refine lv_iload_n hx hb dX8_refuse_8 rfl (lv_at hlv 1 rfl) ?_
    refine va_put (D := D) (ci := 8) (v := vI n) (ty := .int) (C := RX8) (T := TX8) (N := 7) hx hb hts hi8 tyX8 tyX8_ok nmX8 hown hG.1 hP hD hS 0 rfl rfl 5 (by decide) lf31 (fun _ h9 => h9) rfl (by decide +kernel) rfl rfl (Nat.le_of_ble_eq_true rfl) dX8_refuse_9 (fun H locs hP hD hS => ?_)
    have hP : va_P D vwCl [zO ta 8 [vR tb, vI fed, vI len, vI at_, vI we, vI n, vI fp]] H := hP
    have hD : va_D A [zO ta 8 [vR tb, vI fed, vI len, vI at_, vI we, vI n, vI fp]] := hD
    refine lv_aload_n hx hb dX8_refuse_12 rfl (lv_at hlv 0 rfl) ?_
    refine lv_aload_n hx hb dX8_refuse_13 rfl (lv_at hlv 0 rfl) ?_
    refine va_get (D := D) (ci := 8) (v := vI at_) (C := RX8) (T := TX8) (N := 7) hx hb hts hi8 hown hG.1 hP 0 rfl rfl 3 (by decide) lf25 (fun _ h9 => h9) rfl dX8_refuse_14 ?_
    refine va_put (D := D) (ci := 8) (v := vI at_) (ty := .int) (C := RX8) (T := TX8) (N := 7) hx hb hts hi8 tyX8 tyX8_ok nmX8 hown hG.1 hP hD hS 0 rfl rfl 6 (by decide) lf15 (fun _ h9 => h9) rfl (by decide +kernel) rfl rfl (Nat.le_of_ble_eq_true rfl) dX8_refuse_17 (fun H locs hP hD hS => ?_)
    have hP : va_P D vwCl [zO ta 8 [vR tb, vI fed, vI len, vI at_, vI we, vI n, vI at_]] H := hP
    have hD : va_D A [zO ta 8 [vR tb, vI fed, vI len, vI at_, vI we, vI n, vI at_]] := hD
    refine W.widen (k := 0) (n := 0) (Nat.le_of_ble_eq_true rfl) (Nat.le_of_ble_eq_true rfl) ?_
    exact W.vret hx hb hr (fun t ht hW => ⟨⟨((fun k => ([] : List Nat).getD k 0), (fun k => ([n, at_] : List Int).getD k 0), (fun k => ([] : List (Nat → Int32)).getD k (fun _ => 0))), rfl, ⟨(by show (1 ≤ n ∧ n ≤ 4); first | exact hr_n | omega), (by show ((-1) ≤ at_ ∧ at_ ≤ 600); first | exact rgw hr_at_ (by decide) (by decide) | omega), (by show (fa ≠ 0 → n = fa ∧ at_ = fp); omega), (by show (fa = 0 → n = n ∧ at_ = at_); omega)⟩, by rw [ht]; exact hP.sub [0] rfl, hD.sub [0] (by decide) rfl⟩, hS.F ht⟩) hS.2.2 dX8_refuse_20
def vs_e_sign : List Cond := .code yX8_sign cX8_sign 1 (some .int) :: (([.fieldLink RX8 31 "KerbSplash$Tape" "fault" "I", .fieldLink RX8 25 "KerbSplash$Tape" "at" "I", .fieldLink RX8 22 "KerbSplash$Tape" "length" "I", .fieldLink RX8 11 "KerbSplash$Tape" "bytes" "[B"] : List Cond) ++ ((wsX80) ++ ([])))
theorem gd_e_sign : vs_e_sign.all goodWord = true := gd_C (by decide +kernel) (gd_A (by decide +kernel) (gd_A (by decide +kernel) rfl))
set_option maxHeartbeats 4000000 in
set_option maxRecDepth 100000 in
theorem e_sign (l : Launch) (hl : l.stackTraces = false) (D : va_G) (cy : Nat → ClassId) (sa : Nat → Nat) (ta tb : Nat) (fed len at_ we fa fp : Int) (bf : Nat → Int32) (gq : Nat → Int) (sz : Nat) (hr_fed : 0 ≤ fed ∧ fed ≤ 600) (hr_len : 0 ≤ len ∧ len ≤ 600) (hr_at_ : 0 ≤ at_ ∧ at_ ≤ 600) (hr_we : 0 ≤ we ∧ we ≤ 600) (hr_fa : 0 ≤ fa ∧ fa ≤ 4) (hr_fp : (-1) ≤ fp ∧ fp ≤ 600) (hn_br : TPg bf gq) : Met l yX8_sign vs_e_sign ({ frames := 0, cells := 0, slots := 0, locals := 0 }) (va_Pc [vR ta] (pcW D cy sa sz [zO ta 8 [vR tb, vI fed, vI len, vI at_, vI we, vI fa, vI fp], zI tb (cy 1) 600 bf])) (va_Qi (fun (r : Int32) (u : SV) => r = iI (u.2.1 0) ∧ ((-1) ≤ u.2.1 0 ∧ u.2.1 0 ≤ 255) ∧ (0 ≤ u.2.1 1 ∧ u.2.1 1 ≤ 600) ∧ (at_ ≤ u.2.1 1) ∧ (fa ≠ 0 → u.2.1 0 = -1) ∧ (u.2.1 0 ≠ -1 → u.2.1 1 < len) ∧ (SiS gq len at_ fa (u.2.1 0) (u.2.1 1))) (fun u t => atW D (va_A [zO ta 8 [vR tb, vI fed, vI len, vI at_, vI we, vI fa, vI fp], zI tb (cy 1) 600 bf] sz) [zO ta 8 [vR tb, vI fed, vI len, vI (u.2.1 1), vI we, vI fa, vI fp], zI tb (cy 1) 600 bf] t) (va_A [zO ta 8 [vR tb, vI fed, vI len, vI at_, vI we, vI fa, vI fp], zI tb (cy 1) 600 bf] sz)) 0 0 (va_A [zO ta 8 [vR tb, vI fed, vI len, vI at_, vI we, vI fa, vI fp], zI tb (cy 1) 600 bf] sz) := by
  refine Met.ofW (cc := cX8_sign) (maxL := 1) (ret := (some .int)) (by decide) rfl ?_
  intro p e s m args below meth c s₁ B hml hv
  obtain ⟨rfl, hsz, hP, hG, hD0, hT⟩ := hv
  have hx := B.exec
  have hb := B.bytes
  have hr := B.returns
  have hts := atoms_spec (ws := vs_e_sign) B.pre
  have hown : s.vm.findClass RX8 = some m.cls := findClass_of_methodNamed B.named
  have hlocks := B.notSynchronized
  subst hsz
  have hD := hD0.self (sz := s.heap.size)
  generalize hAe : va_A [zO ta 8 [vR tb, vI fed, vI len, vI at_, vI we, vI fa, vI fp], zI tb (cy 1) 600 bf] s.heap.size = A at hD hT ⊢
  have hA : ∀ q : Nat, s.heap.size ≤ q → A q := fun q h => by rw [← hAe]; exact Or.inr h
  have hS : va_S A s.heap s.heap [] := va_S.rf
  have hl0 := lv_entry ([vR ta]) (n := 1) (Nat.le_of_ble_eq_true rfl)
  rw [lg_entry_eq]
  generalize (lg_sl ([vR ta]) ++ List.replicate (1 - (lg_sl ([vR ta])).length) Slot.unset).toArray = ls at hl0 ⊢
  have hlv : lv_has ls 1 [(0, vR ta)] := hl0
  have lf31 := hts (.fieldLink RX8 31 "KerbSplash$Tape" "fault" "I") (List.mem_of_getElem? (i := 1) rfl)
  have hi8 : ∀ w ∈ wsX80, w ∈ vs_e_sign := fun w h => List.mem_cons_of_mem _ (List.mem_append_right _ (List.mem_append_left _ h))
  have lf25 := hts (.fieldLink RX8 25 "KerbSplash$Tape" "at" "I") (List.mem_of_getElem? (i := 2) rfl)
  have lf22 := hts (.fieldLink RX8 22 "KerbSplash$Tape" "length" "I") (List.mem_of_getElem? (i := 3) rfl)
  have lf11 := hts (.fieldLink RX8 11 "KerbSplash$Tape" "bytes" "[B") (List.mem_of_getElem? (i := 4) rfl)
  refine lv_aload_n hx hb dX8_sign_0 rfl (lv_at hlv 0 rfl) ?_
  refine va_get (D := D) (ci := 8) (v := vI fa) (C := RX8) (T := TX8) (N := 7) hx hb hts hi8 hown hG.1 hP 0 rfl rfl 5 (by decide) lf31 (fun _ h9 => h9) rfl dX8_sign_1 ?_
  refine iz_eq (tgt := 9) hx hb dX8_sign_4 (by decide) (by first | exact rgw hr_fa (by decide) (by decide) | omega) (fun c_1 => ?_) (fun c_1 => ?_)
  · refine (?_ : ∀ (fu : Nat) (x : Int) (H : Heap) (locs : List Loc) (ls : Array Slot), 600 - x < (fu : Int) → (0 ≤ x ∧ x ≤ 600) → (at_ ≤ x) → (rnI pSp gq len x = rnI pSp gq len at_) → va_P D vwCl [zO ta 8 [vR tb, vI fed, vI len, vI x, vI we, vI fa, vI fp], zI tb (cy 1) 600 bf] H → va_D A [zO ta 8 [vR tb, vI fed, vI len, vI x, vI we, vI fa, vI fp], zI tb (cy 1) 600 bf] → va_S A s.heap H locs → lv_has ls 1 [(0, vR ta)] → W p l e _ s m _ below meth c H locs _ _ _ (F0 m 9 ls [])) (((600 - at_) + 1 : Int)).toNat at_ _ _ _ (by omega) (by first | exact hr_at_ | omega) (by omega) rfl  hP hD hS hlv
    clear hP hD hS hlv
    intro fu
    induction fu with
    | zero => intro x H locs ls hm9 hl9_0 hl9_1 hl9_2  hP hD hS hlv; omega
    | succ fu ih9 =>
      intro x H locs ls hm9 hl9_0 hl9_1 hl9_2  hP hD hS hlv
      refine lv_aload_n hx hb dX8_sign_9 rfl (lv_at hlv 0 rfl) ?_
      refine va_get (D := D) (ci := 8) (v := vI x) (C := RX8) (T := TX8) (N := 7) hx hb hts hi8 hown hG.1 hP 0 rfl rfl 3 (by decide) lf25 (fun _ h9 => h9) rfl dX8_sign_10 ?_
      refine lv_aload_n hx hb dX8_sign_13 rfl (lv_at hlv 0 rfl) ?_
      refine va_get (D := D) (ci := 8) (v := vI len) (C := RX8) (T := TX8) (N := 7) hx hb hts hi8 hown hG.1 hP 0 rfl rfl 2 (by decide) lf22 (fun _ h9 => h9) rfl dX8_sign_14 ?_
      refine ir_ge (tgt := 47) hx hb dX8_sign_17 (by decide) (by first | exact rgw hl9_0 (by decide) (by decide) | omega) (by first | exact rgw hr_len (by decide) (by decide) | omega) (fun c_2 => ?_) (fun c_2 => ?_)
      · refine lv_aload_n hx hb dX8_sign_47 rfl (lv_at hlv 0 rfl) ?_
        refine va_get (D := D) (ci := 8) (v := vI x) (C := RX8) (T := TX8) (N := 7) hx hb hts hi8 hown hG.1 hP 0 rfl rfl 3 (by decide) lf25 (fun _ h9 => h9) rfl dX8_sign_48 ?_
        refine lv_aload_n hx hb dX8_sign_51 rfl (lv_at hlv 0 rfl) ?_
        refine va_get (D := D) (ci := 8) (v := vI len) (C := RX8) (T := TX8) (N := 7) hx hb hts hi8 hown hG.1 hP 0 rfl rfl 2 (by decide) lf22 (fun _ h9 => h9) rfl dX8_sign_52 ?_
        refine ir_ge (tgt := 74) hx hb dX8_sign_55 (by decide) (by first | exact rgw hl9_0 (by decide) (by decide) | omega) (by first | exact rgw hr_len (by decide) (by decide) | omega) (fun c_3 => ?_) (fun c_3 => ?_)
        · refine lv_iconst (v := iI (-1)) hx hb dX8_sign_74 (by decide) ?_
          refine W.widen (k := 0) (n := 0) (Nat.le_of_ble_eq_true rfl) (Nat.le_of_ble_eq_true rfl) ?_
          exact W.iret (v := iI (-1)) hx hb hr (fun t ht hW => ⟨⟨iI (-1), ((fun k => ([] : List Nat).getD k 0), (fun k => ([(-1), x] : List Int).getD k 0), (fun k => ([] : List (Nat → Int32)).getD k (fun _ => 0))), rfl, ⟨rfl, (by show ((-1) ≤ (-1) ∧ (-1) ≤ 255); show ((-1) : Int) ≤ (-1) ∧ ((-1) : Int) ≤ 255; decide), (by show (0 ≤ x ∧ x ≤ 600); first | exact hl9_0 | omega), (by show (at_ ≤ x); omega), (by show (fa ≠ 0 → (-1) = -1); omega), (by show ((-1) ≠ -1 → x < len); omega), (by show (SiS gq len at_ fa ((-1)) (x)); exact (by first | exact (SiS_2 (by omega) hl9_2 (by omega) (by omega)) | (exfalso; omega)))⟩, by rw [ht]; exact hP.sub [0, 1] rfl, hD.sub [0, 1] (by decide) rfl⟩, hS.F ht⟩) hS.2.2 dX8_sign_75
        · refine lv_aload_n hx hb dX8_sign_58 rfl (lv_at hlv 0 rfl) ?_
          refine va_get (D := D) (ci := 8) (v := vR tb) (C := RX8) (T := TX8) (N := 7) hx hb hts hi8 hown hG.1 hP 0 rfl rfl 0 (by decide) lf11 (fun _ h9 => h9) rfl dX8_sign_59 ?_
          refine lv_aload_n hx hb dX8_sign_62 rfl (lv_at hlv 0 rfl) ?_
          refine va_get (D := D) (ci := 8) (v := vI x) (C := RX8) (T := TX8) (N := 7) hx hb hts hi8 hown hG.1 hP 0 rfl rfl 3 (by decide) lf25 (fun _ h9 => h9) rfl dX8_sign_63 ?_
          refine va_bald hx hb hG.1 hP 1 1 rfl rfl (iI_in (by omega) (by decide)) dX8_sign_66 ?_
          refine lt_nz (i := x) (by omega) (fun z_4 hz_4 lz_4 uz_4 => ?_)
          refine lv_sipush (v := iI 255) hx hb dX8_sign_67 (by decide) ?_
          refine lv_iand hx hb dX8_sign_70 ?_
          refine lt_aE 8 (by decide) (by decide) (hi := 255) (by decide) (fun z_5 ez_5 lz_5 hz_5 => ?_)
          refine lv_goto (tgt := 75) hx hb dX8_sign_71 (by decide) ?_
          refine W.widen (k := 0) (n := 0) (Nat.le_of_ble_eq_true rfl) (Nat.le_of_ble_eq_true rfl) ?_
          exact W.iret (v := iI z_5) hx hb hr (fun t ht hW => ⟨⟨iI z_5, ((fun k => ([] : List Nat).getD k 0), (fun k => ([z_5, x] : List Int).getD k 0), (fun k => ([] : List (Nat → Int32)).getD k (fun _ => 0))), rfl, ⟨rfl, (by show ((-1) ≤ z_5 ∧ z_5 ≤ 255); omega), (by show (0 ≤ x ∧ x ≤ 600); first | exact hl9_0 | omega), (by show (at_ ≤ x); omega), (by show (fa ≠ 0 → z_5 = -1); omega), (by show (z_5 ≠ -1 → x < len); omega), (by show (SiS gq len at_ fa (z_5) (x)); exact (by first | exact SiS_3 (by omega) hl9_2 (by omega) (by omega) (by have q3 := TPg.at hn_br (x := x) (by omega); omega) (by have q3 := TPg.at hn_br (x := x) (by omega); have q4 := am_eq ez_5 (by decide) (by omega); omega) | (exfalso; omega)))⟩, by rw [ht]; exact hP.sub [0, 1] rfl, hD.sub [0, 1] (by decide) rfl⟩, hS.F ht⟩) hS.2.2 dX8_sign_75
      · refine lv_aload_n hx hb dX8_sign_20 rfl (lv_at hlv 0 rfl) ?_
        refine va_get (D := D) (ci := 8) (v := vR tb) (C := RX8) (T := TX8) (N := 7) hx hb hts hi8 hown hG.1 hP 0 rfl rfl 0 (by decide) lf11 (fun _ h9 => h9) rfl dX8_sign_21 ?_
        refine lv_aload_n hx hb dX8_sign_24 rfl (lv_at hlv 0 rfl) ?_
        refine va_get (D := D) (ci := 8) (v := vI x) (C := RX8) (T := TX8) (N := 7) hx hb hts hi8 hown hG.1 hP 0 rfl rfl 3 (by decide) lf25 (fun _ h9 => h9) rfl dX8_sign_25 ?_
        refine va_bald hx hb hG.1 hP 1 1 rfl rfl (iI_in (by omega) (by decide)) dX8_sign_28 ?_
        refine lt_nz (i := x) (by omega) (fun z_6 hz_6 lz_6 uz_6 => ?_)
        refine lv_bipush (v := iI 32) hx hb dX8_sign_29 (by decide) ?_
        refine ir_ne (tgt := 47) hx hb dX8_sign_31 (by decide) (by omega) (by show ((-2147483648) : Int) ≤ 32 ∧ (32 : Int) ≤ 2147483647; decide) (fun c_7 => ?_) (fun c_7 => ?_)
        · refine lv_aload_n hx hb dX8_sign_47 rfl (lv_at hlv 0 rfl) ?_
          refine va_get (D := D) (ci := 8) (v := vI x) (C := RX8) (T := TX8) (N := 7) hx hb hts hi8 hown hG.1 hP 0 rfl rfl 3 (by decide) lf25 (fun _ h9 => h9) rfl dX8_sign_48 ?_
          refine lv_aload_n hx hb dX8_sign_51 rfl (lv_at hlv 0 rfl) ?_
          refine va_get (D := D) (ci := 8) (v := vI len) (C := RX8) (T := TX8) (N := 7) hx hb hts hi8 hown hG.1 hP 0 rfl rfl 2 (by decide) lf22 (fun _ h9 => h9) rfl dX8_sign_52 ?_
          refine ir_ge (tgt := 74) hx hb dX8_sign_55 (by decide) (by first | exact rgw hl9_0 (by decide) (by decide) | omega) (by first | exact rgw hr_len (by decide) (by decide) | omega) (fun c_8 => ?_) (fun c_8 => ?_)
          · refine lv_iconst (v := iI (-1)) hx hb dX8_sign_74 (by decide) ?_
            refine W.widen (k := 0) (n := 0) (Nat.le_of_ble_eq_true rfl) (Nat.le_of_ble_eq_true rfl) ?_
            exact W.iret (v := iI (-1)) hx hb hr (fun t ht hW => ⟨⟨iI (-1), ((fun k => ([] : List Nat).getD k 0), (fun k => ([(-1), x] : List Int).getD k 0), (fun k => ([] : List (Nat → Int32)).getD k (fun _ => 0))), rfl, ⟨rfl, (by show ((-1) ≤ (-1) ∧ (-1) ≤ 255); show ((-1) : Int) ≤ (-1) ∧ ((-1) : Int) ≤ 255; decide), (by show (0 ≤ x ∧ x ≤ 600); first | exact hl9_0 | omega), (by show (at_ ≤ x); omega), (by show (fa ≠ 0 → (-1) = -1); omega), (by show ((-1) ≠ -1 → x < len); omega), (by show (SiS gq len at_ fa ((-1)) (x)); exact (by first | exact (SiS_2 (by omega) hl9_2 (by omega) (by omega)) | (exfalso; omega)))⟩, by rw [ht]; exact hP.sub [0, 1] rfl, hD.sub [0, 1] (by decide) rfl⟩, hS.F ht⟩) hS.2.2 dX8_sign_75
          · refine lv_aload_n hx hb dX8_sign_58 rfl (lv_at hlv 0 rfl) ?_
            refine va_get (D := D) (ci := 8) (v := vR tb) (C := RX8) (T := TX8) (N := 7) hx hb hts hi8 hown hG.1 hP 0 rfl rfl 0 (by decide) lf11 (fun _ h9 => h9) rfl dX8_sign_59 ?_
            refine lv_aload_n hx hb dX8_sign_62 rfl (lv_at hlv 0 rfl) ?_
            refine va_get (D := D) (ci := 8) (v := vI x) (C := RX8) (T := TX8) (N := 7) hx hb hts hi8 hown hG.1 hP 0 rfl rfl 3 (by decide) lf25 (fun _ h9 => h9) rfl dX8_sign_63 ?_
            refine va_bald hx hb hG.1 hP 1 1 rfl rfl (iI_in (by omega) (by decide)) dX8_sign_66 ?_
            refine lt_i (y := iI z_6) (nz_rd hz_6 (by omega)) ?_
            refine lv_sipush (v := iI 255) hx hb dX8_sign_67 (by decide) ?_
            refine lv_iand hx hb dX8_sign_70 ?_
            refine lt_aE 8 (by decide) (by decide) (hi := 255) (by decide) (fun z_9 ez_9 lz_9 hz_9 => ?_)
            refine lv_goto (tgt := 75) hx hb dX8_sign_71 (by decide) ?_
            refine W.widen (k := 0) (n := 0) (Nat.le_of_ble_eq_true rfl) (Nat.le_of_ble_eq_true rfl) ?_
            exact W.iret (v := iI z_9) hx hb hr (fun t ht hW => ⟨⟨iI z_9, ((fun k => ([] : List Nat).getD k 0), (fun k => ([z_9, x] : List Int).getD k 0), (fun k => ([] : List (Nat → Int32)).getD k (fun _ => 0))), rfl, ⟨rfl, (by show ((-1) ≤ z_9 ∧ z_9 ≤ 255); omega), (by show (0 ≤ x ∧ x ≤ 600); first | exact hl9_0 | omega), (by show (at_ ≤ x); omega), (by show (fa ≠ 0 → z_9 = -1); omega), (by show (z_9 ≠ -1 → x < len); omega), (by show (SiS gq len at_ fa (z_9) (x)); exact (by first | exact SiS_3 (by omega) hl9_2 (by omega) (by omega) (by have q3 := TPg.at hn_br (x := x) (by omega); omega) (by have q3 := TPg.at hn_br (x := x) (by omega); have q4 := am_eq ez_9 (by decide) (by omega); omega) | (exfalso; omega)))⟩, by rw [ht]; exact hP.sub [0, 1] rfl, hD.sub [0, 1] (by decide) rfl⟩, hS.F ht⟩) hS.2.2 dX8_sign_75
        · refine lv_aload_n hx hb dX8_sign_34 rfl (lv_at hlv 0 rfl) ?_
          refine lv_dup hx hb dX8_sign_35 rfl ?_
          refine va_get (D := D) (ci := 8) (v := vI x) (C := RX8) (T := TX8) (N := 7) hx hb hts hi8 hown hG.1 hP 0 rfl rfl 3 (by decide) lf25 (fun _ h9 => h9) rfl dX8_sign_36 ?_
          refine lv_iconst (v := iI 1) hx hb dX8_sign_39 (by decide) ?_
          refine lv_iadd hx hb dX8_sign_40 ?_
          refine lt_e (e0 := x + 1) (Int32.ofInt_add _ _).symm (fun z_10 hz_10 => ?_)
          refine va_put (D := D) (ci := 8) (v := vI z_10) (ty := .int) (C := RX8) (T := TX8) (N := 7) hx hb hts hi8 tyX8 tyX8_ok nmX8 hown hG.1 hP hD hS 0 rfl rfl 3 (by decide) lf25 (fun _ h9 => h9) rfl (by decide +kernel) rfl rfl (Nat.le_of_ble_eq_true rfl) dX8_sign_41 (fun H locs hP hD hS => ?_)
          have hP : va_P D vwCl [zO ta 8 [vR tb, vI fed, vI len, vI z_10, vI we, vI fa, vI fp], zI tb (cy 1) 600 bf] H := hP
          have hD : va_D A [zO ta 8 [vR tb, vI fed, vI len, vI z_10, vI we, vI fa, vI fp], zI tb (cy 1) 600 bf] := hD
          refine lv_goto (tgt := 9) hx hb dX8_sign_44 (by decide) ?_
          exact ih9 z_10 H locs ls (by omega) (by omega) (by omega) ((rnI_go (a := x) (by omega) (by omega) (pSp_t (by have q3 := TPg.at hn_br (x := x) (by omega); omega)) (by omega)).trans hl9_2)  (hP.sub [0, 1] rfl) (hD.sub [0, 1] (by decide) rfl) hS (lv_sub hlv [0] rfl)
  · refine lv_iconst (v := iI (-1)) hx hb dX8_sign_7 (by decide) ?_
    refine W.widen (k := 0) (n := 0) (Nat.le_of_ble_eq_true rfl) (Nat.le_of_ble_eq_true rfl) ?_
    exact W.iret (v := iI (-1)) hx hb hr (fun t ht hW => ⟨⟨iI (-1), ((fun k => ([] : List Nat).getD k 0), (fun k => ([(-1), at_] : List Int).getD k 0), (fun k => ([] : List (Nat → Int32)).getD k (fun _ => 0))), rfl, ⟨rfl, (by show ((-1) ≤ (-1) ∧ (-1) ≤ 255); show ((-1) : Int) ≤ (-1) ∧ ((-1) : Int) ≤ 255; decide), (by show (0 ≤ at_ ∧ at_ ≤ 600); first | exact hr_at_ | omega), (by show (at_ ≤ at_); omega), (by show (fa ≠ 0 → (-1) = -1); omega), (by show ((-1) ≠ -1 → at_ < len); omega), (by show (SiS gq len at_ fa ((-1)) (at_)); exact (SiS_1 (by omega)))⟩, by rw [ht]; exact hP.sub [0, 1] rfl, hD.sub [0, 1] (by decide) rfl⟩, hS.F ht⟩) hS.2.2 dX8_sign_8
def vs_e_hasMore : List Cond := .code yX8_hasMore cX8_hasMore 1 (some .boolean) :: (([] : List Cond) ++ ((wsV RX8 34 RX8 yX8_sign vs_e_sign) ++ ([])))
theorem gd_e_hasMore : vs_e_hasMore.all goodWord = true := gd_C (by decide +kernel) (gd_A (by decide +kernel) (gd_A (gd_V gd_e_sign (by decide +kernel)) rfl))
set_option maxHeartbeats 4000000 in
set_option maxRecDepth 100000 in
theorem e_hasMore (l : Launch) (hl : l.stackTraces = false) (D : va_G) (cy : Nat → ClassId) (sa : Nat → Nat) (ta tb : Nat) (fed len at_ we fa fp : Int) (bf : Nat → Int32) (gq : Nat → Int) (sz : Nat) (hr_fed : 0 ≤ fed ∧ fed ≤ 600) (hr_len : 0 ≤ len ∧ len ≤ 600) (hr_at_ : 0 ≤ at_ ∧ at_ ≤ 600) (hr_we : 0 ≤ we ∧ we ≤ 600) (hr_fa : 0 ≤ fa ∧ fa ≤ 4) (hr_fp : (-1) ≤ fp ∧ fp ≤ 600) (hn_br : TPg bf gq) : Met l yX8_hasMore vs_e_hasMore ({ frames := 1, cells := 0, slots := 0, locals := 20 }) (va_Pc [vR ta] (pcW D cy sa sz [zO ta 8 [vR tb, vI fed, vI len, vI at_, vI we, vI fa, vI fp], zI tb (cy 1) 600 bf])) (va_Qi (fun (r : Int32) (u : SV) => r = iI (u.2.1 0) ∧ (0 ≤ u.2.1 0 ∧ u.2.1 0 ≤ 1) ∧ (0 ≤ u.2.1 1 ∧ u.2.1 1 ≤ 600) ∧ (at_ ≤ u.2.1 1) ∧ (fa ≠ 0 → u.2.1 0 = 0) ∧ (u.2.1 0 = 1 → u.2.1 1 < len) ∧ (HmS gq len at_ fa (u.2.1 0) (u.2.1 1))) (fun u t => atW D (va_A [zO ta 8 [vR tb, vI fed, vI len, vI at_, vI we, vI fa, vI fp], zI tb (cy 1) 600 bf] sz) [zO ta 8 [vR tb, vI fed, vI len, vI (u.2.1 1), vI we, vI fa, vI fp], zI tb (cy 1) 600 bf] t) (va_A [zO ta 8 [vR tb, vI fed, vI len, vI at_, vI we, vI fa, vI fp], zI tb (cy 1) 600 bf] sz)) 0 0 (va_A [zO ta 8 [vR tb, vI fed, vI len, vI at_, vI we, vI fa, vI fp], zI tb (cy 1) 600 bf] sz) := by
  refine Met.ofW (cc := cX8_hasMore) (maxL := 1) (ret := (some .boolean)) (by decide) rfl ?_
  intro p e s m args below meth c s₁ B hml hv
  obtain ⟨rfl, hsz, hP, hG, hD0, hT⟩ := hv
  have hx := B.exec
  have hb := B.bytes
  have hr := B.returns
  have hts := atoms_spec (ws := vs_e_hasMore) B.pre
  have hown : s.vm.findClass RX8 = some m.cls := findClass_of_methodNamed B.named
  have hlocks := B.notSynchronized
  subst hsz
  have hD := hD0.self (sz := s.heap.size)
  generalize hAe : va_A [zO ta 8 [vR tb, vI fed, vI len, vI at_, vI we, vI fa, vI fp], zI tb (cy 1) 600 bf] s.heap.size = A at hD hT ⊢
  have hA : ∀ q : Nat, s.heap.size ≤ q → A q := fun q h => by rw [← hAe]; exact Or.inr h
  have hS : va_S A s.heap s.heap [] := va_S.rf
  have hl0 := lv_entry ([vR ta]) (n := 1) (Nat.le_of_ble_eq_true rfl)
  rw [lg_entry_eq]
  generalize (lg_sl ([vR ta]) ++ List.replicate (1 - (lg_sl ([vR ta])).length) Slot.unset).toArray = ls at hl0 ⊢
  have hlv : lv_has ls 1 [(0, vR ta)] := hl0
  have gg_0 : GoodIn vs_e_hasMore (wsV RX8 34 RX8 yX8_sign vs_e_sign) := goodIn_sub (fun w h => List.mem_cons_of_mem _ (List.mem_append_right _ (List.mem_append_left _ h))) (gd_V gd_e_sign (by decide +kernel))
  refine lv_aload_n hx hb dX8_hasMore_0 rfl (lv_at hlv 0 rfl) ?_
  refine cj_i (wr := []) (va_runV (As := []) (rest := []) ⟨hx, hb, hml, hown, hts⟩ (e_sign l hl D cy sa ta tb fed len at_ we fa fp bf gq s.heap.size (by first | exact hr_fed | omega) (by first | exact hr_len | omega) (by first | exact hr_at_ | omega) (by first | exact hr_we | omega) (by first | exact hr_fa | omega) (by first | exact hr_fp | omega) hn_br) (cwV 0 hts gg_0 rfl rfl rfl (by decide +kernel) ⟨Nat.le_of_ble_eq_true rfl, Nat.le_of_ble_eq_true rfl⟩) ⟨pcW.blind, (va_recv hG.1 hP (ci := 8) (q0 := 0) rfl rfl), (pcW.mk hP hD hS hA hG hT [0, 1] rfl (by decide))⟩ rfl rfl hlv.1 rfl (lv_room (Nat.le_of_ble_eq_true rfl)) dX8_hasMore_1 ⟨Nat.le_of_ble_eq_true rfl, Nat.le_of_ble_eq_true rfl⟩) hP hD hS hA [0, 1] [] rfl rfl (by decide) (by decide) (fun r1 u1 H locs hw1 hP hD hS => ?_)
  obtain ⟨rfl, hq1_1, hq1_2, hq1_3, hq1_4, hq1_5, hq1_6⟩ := hw1
  have hP : va_P D vwCl [zO ta 8 [vR tb, vI fed, vI len, vI (u1.2.1 1), vI we, vI fa, vI fp], zI tb (cy 1) 600 bf] H := hP
  have hD : va_D A [zO ta 8 [vR tb, vI fed, vI len, vI (u1.2.1 1), vI we, vI fa, vI fp], zI tb (cy 1) 600 bf] := hD
  refine lv_iconst (v := iI (-1)) hx hb dX8_hasMore_4 (by decide) ?_
  refine ir_eq (tgt := 12) hx hb dX8_hasMore_5 (by decide) (by first | exact rgw hq1_1 (by decide) (by decide) | omega) (by show ((-2147483648) : Int) ≤ (-1) ∧ ((-1) : Int) ≤ 2147483647; decide) (fun c_1 => ?_) (fun c_1 => ?_)
  · refine lv_iconst (v := iI 0) hx hb dX8_hasMore_12 (by decide) ?_
    refine W.widen (k := 0) (n := 0) (Nat.le_of_ble_eq_true rfl) (Nat.le_of_ble_eq_true rfl) ?_
    exact W.zret (v := iI 0) hx hb hr (by first | rfl | decide) (fun t ht hW => ⟨⟨iI 0, ((fun k => ([] : List Nat).getD k 0), (fun k => ([0, (u1.2.1 1)] : List Int).getD k 0), (fun k => ([] : List (Nat → Int32)).getD k (fun _ => 0))), rfl, ⟨rfl, (by show (0 ≤ 0 ∧ 0 ≤ 1); show (0 : Int) ≤ 0 ∧ (0 : Int) ≤ 1; decide), (by show (0 ≤ (u1.2.1 1) ∧ (u1.2.1 1) ≤ 600); first | exact hq1_2 | omega), (by show (at_ ≤ (u1.2.1 1)); omega), (by show (fa ≠ 0 → 0 = 0); omega), (by show (0 = 1 → (u1.2.1 1) < len); omega), (by show (HmS gq len at_ fa (0) ((u1.2.1 1))); exact (HmS_of (TPg.nn hn_br (by omega)) hq1_6 (by omega) (by omega)))⟩, by rw [ht]; exact hP.sub [0, 1] rfl, hD.sub [0, 1] (by decide) rfl⟩, hS.F ht⟩) hS.2.2 dX8_hasMore_13
  · refine lv_iconst (v := iI 1) hx hb dX8_hasMore_8 (by decide) ?_
    refine lv_goto (tgt := 13) hx hb dX8_hasMore_9 (by decide) ?_
    refine W.widen (k := 0) (n := 0) (Nat.le_of_ble_eq_true rfl) (Nat.le_of_ble_eq_true rfl) ?_
    exact W.zret (v := iI 1) hx hb hr (by first | rfl | decide) (fun t ht hW => ⟨⟨iI 1, ((fun k => ([] : List Nat).getD k 0), (fun k => ([1, (u1.2.1 1)] : List Int).getD k 0), (fun k => ([] : List (Nat → Int32)).getD k (fun _ => 0))), rfl, ⟨rfl, (by show (0 ≤ 1 ∧ 1 ≤ 1); show (0 : Int) ≤ 1 ∧ (1 : Int) ≤ 1; decide), (by show (0 ≤ (u1.2.1 1) ∧ (u1.2.1 1) ≤ 600); first | exact hq1_2 | omega), (by show (at_ ≤ (u1.2.1 1)); omega), (by show (fa ≠ 0 → 1 = 0); omega), (by show (1 = 1 → (u1.2.1 1) < len); omega), (by show (HmS gq len at_ fa (1) ((u1.2.1 1))); exact (HmS_of (TPg.nn hn_br (by omega)) hq1_6 (by omega) (by omega)))⟩, by rw [ht]; exact hP.sub [0, 1] rfl, hD.sub [0, 1] (by decide) rfl⟩, hS.F ht⟩) hS.2.2 dX8_hasMore_13
