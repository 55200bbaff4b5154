section

def vs_e_number : List Cond := .code yX8_number cX8_number 5 (some .int) :: (([.fieldLink RX8 25 "KerbSplash$Tape" "at" "I", .fieldLink RX8 22 "KerbSplash$Tape" "length" "I", .initialized RX11, .static yX11_isWithin, .fieldLink RX8 11 "KerbSplash$Tape" "bytes" "[B", .methodLink RX8 60 Lib.Math.min.name, .static Lib.Math.min.name, .initialized "java/lang/Math", .code Lib.Math.min.name Lib.Math.min.code 2 (some .int)] : List Cond) ++ ((wsV RX8 34 RX8 yX8_sign vs_e_sign) ++ ((va_wsS RX8 56 yX8_isDigit vs_s_isDigit) ++ ((wsX80) ++ ((vs_s_within) ++ ((wsV RX8 38 RX8 yX8_refuse vs_e_refuse) ++ ([])))))))
theorem gd_e_number : vs_e_number.all goodWord = true := gd_C (by decide +kernel) (gd_A (by decide +kernel) (gd_A (gd_V gd_e_sign (by decide +kernel)) (gd_A (gd_S gd_s_isDigit (by decide +kernel)) (gd_A (by decide +kernel) (gd_A gd_s_within (gd_A (gd_V gd_e_refuse (by decide +kernel)) rfl))))))
set_option maxHeartbeats 4000000 in
set_option maxRecDepth 100000 in
theorem e_number (l : Launch) (hl : l.stackTraces = false) (D : va_G) (cy : Nat → ClassId) (sa : Nat → Nat) (ta tb : Nat) (fed len at_ we fa fp : Int) (bf : Nat → Int32) (gq : Nat → Int) (lo hi : Int) (sz : Nat) (hr_fed : 0 ≤ fed ∧ fed ≤ 600) (hr_len : 0 ≤ len ∧ len ≤ 600) (hr_at_ : 0 ≤ at_ ∧ at_ ≤ 600) (hr_we : 0 ≤ we ∧ we ≤ 600) (hr_fa : 0 ≤ fa ∧ fa ≤ 4) (hr_fp : (-1) ≤ fp ∧ fp ≤ 600) (hr_lo : (-1) ≤ lo ∧ lo ≤ 10000) (hr_hi : (-1) ≤ hi ∧ hi ≤ 9999) (hn_br : TPg bf gq) : mI9 l yX8_number vs_e_number ({ frames := 1, cells := 0, slots := 0, locals := 30 }) D cy sa sz [vR ta, vI lo, vI hi] [zO ta 8 [vR tb, vI fed, vI len, vI at_, vI we, vI fa, vI fp], zI tb (cy 1) 600 bf] (fun (r : Int32) (u : SV) => r = iI (u.2.1 0) ∧ ((-1) ≤ u.2.1 0 ∧ u.2.1 0 ≤ 10000) ∧ (0 ≤ u.2.1 1 ∧ u.2.1 1 ≤ 600) ∧ (0 ≤ u.2.1 2 ∧ u.2.1 2 ≤ 4) ∧ ((-1) ≤ u.2.1 3 ∧ u.2.1 3 ≤ 600) ∧ (at_ ≤ u.2.1 1) ∧ (u.2.1 2 = 0 → fa = 0 ∧ lo ≤ u.2.1 0 ∧ u.2.1 0 ≤ hi) ∧ (0 ≤ lo → 0 ≤ u.2.1 0) ∧ (NuP gq len lo hi at_ fa fp (u.2.1 0) (u.2.1 1) (u.2.1 2) (u.2.1 3))) (fun u : SV => [zO ta 8 [vR tb, vI fed, vI len, vI (u.2.1 1), vI we, vI (u.2.1 2), vI (u.2.1 3)], zI tb (cy 1) 600 bf]) 0 0 := by
  refine Met.ofW (cc := cX8_number) (maxL := 5) (ret := (some .int)) (by decide) rfl ?_
  intro p e s m args below meth c s₁ B hml hv
  obtain ⟨rfl, hsz, hP, hG, hD0, hT⟩ := hv
  have hx := B.exec
  have hb := B.bytes
  have hr := B.returns
  have hts := atoms_spec (ws := vs_e_number) B.pre
  have hown : s.vm.findClass RX8 = some m.cls := findClass_of_methodNamed B.named
  have hlocks := B.notSynchronized
  subst hsz
  have hD := hD0.self (sz := s.heap.size)
  generalize hAe : va_A [zO ta 8 [vR tb, vI fed, vI len, vI at_, vI we, vI fa, vI fp], zI tb (cy 1) 600 bf] s.heap.size = A at hD hT ⊢
  have hA : ∀ q : Nat, s.heap.size ≤ q → A q := fun q h => by rw [← hAe]; exact Or.inr h
  have hS : va_S A s.heap s.heap [] := va_S.rf
  have hl0 := lv_entry ([vR ta, vI lo, vI hi]) (n := 5) (Nat.le_of_ble_eq_true rfl)
  rw [lg_entry_eq]
  generalize (lg_sl ([vR ta, vI lo, vI hi]) ++ List.replicate (5 - (lg_sl ([vR ta, vI lo, vI hi])).length) Slot.unset).toArray = ls at hl0 ⊢
  have hlv : lv_has ls 5 [(0, vR ta), (1, vI lo), (2, vI hi)] := hl0
  have gg_0 : GoodIn vs_e_number (wsV RX8 34 RX8 yX8_sign vs_e_sign) := goodIn_sub (fun w h => List.mem_cons_of_mem _ (List.mem_append_right _ (List.mem_append_left _ h))) (gd_V gd_e_sign (by decide +kernel))
  have gg_1 : GoodIn vs_e_number (va_wsS RX8 56 yX8_isDigit vs_s_isDigit) := goodIn_sub (fun w h => List.mem_cons_of_mem _ (List.mem_append_right _ (List.mem_append_right _ (List.mem_append_left _ h)))) (gd_S gd_s_isDigit (by decide +kernel))
  have lf25 := hts (.fieldLink RX8 25 "KerbSplash$Tape" "at" "I") (List.mem_of_getElem? (i := 1) rfl)
  have hi8 : ∀ w ∈ wsX80, w ∈ vs_e_number := fun w h => List.mem_cons_of_mem _ (List.mem_append_right _ (List.mem_append_right _ (List.mem_append_right _ (List.mem_append_left _ h))))
  have lf22 := hts (.fieldLink RX8 22 "KerbSplash$Tape" "length" "I") (List.mem_of_getElem? (i := 2) rfl)
  have gg_3 : GoodIn vs_e_number (vs_s_within) := goodIn_sub (fun w h => List.mem_cons_of_mem _ (List.mem_append_right _ (List.mem_append_right _ (List.mem_append_right _ (List.mem_append_right _ (List.mem_append_left _ h)))))) gd_s_within
  have ini_RX11 := hts (.initialized RX11) (List.mem_of_getElem? (i := 3) rfl)
  have st_X11_isWithin := hts (.static yX11_isWithin) (List.mem_of_getElem? (i := 4) rfl)
  have gg_4 : GoodIn vs_e_number (wsV RX8 38 RX8 yX8_refuse vs_e_refuse) := goodIn_sub (fun w h => List.mem_cons_of_mem _ (List.mem_append_right _ (List.mem_append_right _ (List.mem_append_right _ (List.mem_append_right _ (List.mem_append_right _ (List.mem_append_left _ h))))))) (gd_V gd_e_refuse (by decide +kernel))
  have lf11 := hts (.fieldLink RX8 11 "KerbSplash$Tape" "bytes" "[B") (List.mem_of_getElem? (i := 5) rfl)
  have mk60 := hts (.methodLink RX8 60 Lib.Math.min.name) (List.mem_of_getElem? (i := 6) rfl)
  have ms_min := hts (.static Lib.Math.min.name) (List.mem_of_getElem? (i := 7) rfl)
  have mi_ := hts (.initialized "java/lang/Math") (List.mem_of_getElem? (i := 8) rfl)
  have mc_min := hts (.code Lib.Math.min.name Lib.Math.min.code 2 (some .int)) (List.mem_of_getElem? (i := 9) rfl)
  refine lv_aload_n hx hb dX8_number_0 rfl (lv_at hlv 0 rfl) ?_
  refine cjr_i [false, false] (fun pre9 => (va_runV (As := []) (rest := []) ⟨hx, hb, hml, hown, hts⟩ (e_sign l hl D cy sa ta tb fed len at_ we fa fp bf gq s.heap.size (by first | exact hr_fed | omega) (by first | exact hr_len | omega) (by first | exact hr_at_ | omega) (by first | exact hr_we | omega) (by first | exact hr_fa | omega) (by first | exact hr_fp | omega) hn_br) (cwV 0 hts gg_0 rfl rfl rfl (by decide +kernel) ⟨Nat.le_of_ble_eq_true rfl, Nat.le_of_ble_eq_true rfl⟩) ⟨pcW.blind, (va_recv hG.1 hP (ci := 8) (q0 := 0) rfl rfl), pre9⟩ rfl rfl hlv.1 rfl (lv_room (Nat.le_of_ble_eq_true rfl)) dX8_number_1 ⟨Nat.le_of_ble_eq_true rfl, Nat.le_of_ble_eq_true rfl⟩)) hP hD hS hA hG hT [0, 1] rfl (by decide +kernel) (fun r1 u1 H locs hw1 hq9 hS => ?_)
  obtain ⟨rfl, hq1_1, hq1_2, hq1_3, hq1_4, hq1_5, hq1_6⟩ := hw1
  obtain ⟨hP, hD⟩ := pd9 [zO ta 8 [vR tb, vI fed, vI len, vI (u1.2.1 1), vI we, vI fa, vI fp], zI tb (cy 1) 600 bf] hq9
  refine cjr_i [true, true] (fun pre9 => (va_runS (As := [vI (u1.2.1 0)]) (rest := []) ⟨hx, hb, hml, hown, hts⟩ (s_isDigit l hl D cy sa (u1.2.1 0) H.size (by first | exact rgw hq1_1 (by decide) (by decide) | omega)) (va_cwS 1 hts gg_1 rfl rfl rfl (by decide +kernel) ⟨Nat.le_of_ble_eq_true rfl, Nat.le_of_ble_eq_true rfl⟩) ⟨pcW.blind, pre9⟩ rfl rfl hlv.1 rfl (lv_room (Nat.le_of_ble_eq_true rfl)) dX8_number_4 ⟨Nat.le_of_ble_eq_true rfl, Nat.le_of_ble_eq_true rfl⟩)) hP hD hS hA hG hT [] rfl (by decide +kernel) (fun r2 u2 H locs hw2 hq9 hS => ?_)
  obtain ⟨rfl, hq2_1, hq2_2, hq2_3⟩ := hw2
  obtain ⟨hP, hD⟩ := pd9 [zO ta 8 [vR tb, vI fed, vI len, vI (u1.2.1 1), vI we, vI fa, vI fp], zI tb (cy 1) 600 bf] hq9
  refine iz_ne (tgt := 17) hx hb dX8_number_7 (by decide) (by first | exact rgw hq2_1 (by decide) (by decide) | omega) (fun c_1 => ?_) (fun c_1 => ?_)
  · refine lv_aload_n hx hb dX8_number_17 rfl (lv_at hlv 0 rfl) ?_
    refine va_get (D := D) (ci := 8) (v := vI (u1.2.1 1)) (C := RX8) (T := TX8) (N := 7) hx hb hts hi8 hown hG.1 hP 0 rfl rfl 3 (by decide) lf25 (fun _ h9 => h9) rfl dX8_number_18 ?_
    refine lv_istore_n (lv' := [(3, vI (u1.2.1 1)), (0, vR ta), (1, vI lo), (2, vI hi)]) hx hb dX8_number_21 rfl hlv (by decide) rfl (fun ls hlv => ?_)
    refine lv_iconst (v := iI 0) hx hb dX8_number_22 (by decide) ?_
    refine lv_istore (lv' := [(4, vI 0), (3, vI (u1.2.1 1)), (0, vR ta), (1, vI lo), (2, vI hi)]) hx hb dX8_number_23 hlv (by decide) rfl (fun ls hlv => ?_)
    refine (?_ : ∀ (fu : Nat) (x : Int) (v : Int) (H : Heap) (locs : List Loc) (ls : Array Slot), 600 - x < (fu : Int) → (0 ≤ x ∧ x ≤ 600) → (0 ≤ v ∧ v ≤ 10000) → (at_ ≤ x) → (rnI pDg gq len x = rnI pDg gq len (u1.2.1 1)) → (vlI gq len x v = vlI gq len (u1.2.1 1) 0) → va_P D vwCl [zO ta 8 [vR tb, vI fed, vI len, vI (u1.2.1 1), vI we, vI fa, vI fp], zI tb (cy 1) 600 bf] H → va_D A [zO ta 8 [vR tb, vI fed, vI len, vI (u1.2.1 1), vI we, vI fa, vI fp], zI tb (cy 1) 600 bf] → va_S A s.heap H locs → lv_has ls 5 [(4, vI v), (3, vI x), (0, vR ta), (1, vI lo), (2, vI hi)] → W p l e _ s m _ below meth c H locs _ _ _ (F0 m 25 ls [])) (((600 - (u1.2.1 1)) + 1 : Int)).toNat (u1.2.1 1) 0 _ _ _ (by omega) (by first | exact hq1_2 | omega) (by show (0 : Int) ≤ 0 ∧ (0 : Int) ≤ 10000; decide) (by omega) rfl rfl  hP hD hS hlv
    clear hP hD hS hlv
    intro fu
    induction fu with
    | zero => intro x v H locs ls hm25 hl25_0 hl25_1 hl25_2 hl25_3 hl25_4  hP hD hS hlv; omega
    | succ fu ih25 =>
      intro x v H locs ls hm25 hl25_0 hl25_1 hl25_2 hl25_3 hl25_4  hP hD hS hlv
      refine lv_iload_n hx hb dX8_number_25 rfl (lv_at hlv 1 rfl) ?_
      refine lv_aload_n hx hb dX8_number_26 rfl (lv_at hlv 2 rfl) ?_
      refine va_get (D := D) (ci := 8) (v := vI len) (C := RX8) (T := TX8) (N := 7) hx hb hts hi8 hown hG.1 hP 0 rfl rfl 2 (by decide) lf22 (fun _ h9 => h9) rfl dX8_number_27 ?_
      refine ir_ge (tgt := 74) hx hb dX8_number_30 (by decide) (by first | exact rgw hl25_0 (by decide) (by decide) | omega) (by first | exact rgw hr_len (by decide) (by decide) | omega) (fun c_2 => ?_) (fun c_2 => ?_)
      · refine lv_iload hx hb dX8_number_74 (lv_at hlv 0 rfl) ?_
        refine lv_iload_n hx hb dX8_number_76 rfl (lv_at hlv 3 rfl) ?_
        refine lv_iload_n hx hb dX8_number_77 rfl (lv_at hlv 4 rfl) ?_
        refine cjr_i [true, true] (fun pre9 => (va_runSN (host := "KerbSplash") (As := [vI v, vI lo, vI hi]) (rest := []) ⟨hx, hb, hml, hown, hts⟩ (s_within l hl D cy sa v lo hi H.size (by first | exact rgw hl25_1 (by decide) (by decide) | omega) (by first | exact rgw hr_lo (by decide) (by decide) | omega) (by first | exact rgw hr_hi (by decide) (by decide) | omega)) ⟨va_cnB 3 hts gg_3 rfl rfl rfl (nM_Tape_66 hG.2.1) ini_RX11 (by decide +kernel) ⟨Nat.le_of_ble_eq_true rfl, Nat.le_of_ble_eq_true rfl⟩, st_X11_isWithin, trivial⟩ ⟨pcW.blind, pre9⟩ rfl rfl hlv.1 rfl (lv_room (Nat.le_of_ble_eq_true rfl)) dX8_number_78 ⟨Nat.le_of_ble_eq_true rfl, Nat.le_of_ble_eq_true rfl⟩)) hP hD hS hA hG hT [] rfl (by decide +kernel) (fun r3 u3 H locs hw3 hq9 hS => ?_)
        obtain ⟨rfl, hq3_1, hq3_2, hq3_3⟩ := hw3
        obtain ⟨hP, hD⟩ := pd9 [zO ta 8 [vR tb, vI fed, vI len, vI (u1.2.1 1), vI we, vI fa, vI fp], zI tb (cy 1) 600 bf] hq9
        refine iz_eq (tgt := 92) hx hb dX8_number_81 (by decide) (by first | exact rgw hq3_1 (by decide) (by decide) | omega) (fun c_3 => ?_) (fun c_3 => ?_)
        · refine lv_aload_n hx hb dX8_number_92 rfl (lv_at hlv 2 rfl) ?_
          refine lv_iconst (v := iI 2) hx hb dX8_number_93 (by decide) ?_
          refine cjr_v [false, true] (fun pre9 => (va_runV (As := [vI 2]) (rest := []) ⟨hx, hb, hml, hown, hts⟩ (e_refuse l hl D cy sa ta tb fed len (u1.2.1 1) we fa fp 2 H.size (by first | exact hr_fed | omega) (by first | exact hr_len | omega) (by first | exact hq1_2 | omega) (by first | exact hr_we | omega) (by first | exact hr_fa | omega) (by first | exact hr_fp | omega) (by show (1 : Int) ≤ 2 ∧ (2 : Int) ≤ 4; decide)) (cwV 1 hts gg_4 rfl rfl rfl (by decide +kernel) ⟨Nat.le_of_ble_eq_true rfl, Nat.le_of_ble_eq_true rfl⟩) ⟨pcW.blind, (va_recv hG.1 hP (ci := 8) (q0 := 0) rfl rfl), pre9⟩ rfl rfl hlv.1 rfl (lv_room (Nat.le_of_ble_eq_true rfl)) dX8_number_94 ⟨Nat.le_of_ble_eq_true rfl, Nat.le_of_ble_eq_true rfl⟩)) hP hD hS hA hG hT [0] rfl (by decide +kernel) (fun u4 H locs hw4 hq9 hS => ?_)
          obtain ⟨hq4_0, hq4_1, hq4_2, hq4_3⟩ := hw4
          obtain ⟨hP, hD⟩ := pd9 [zI tb (cy 1) 600 bf, zO ta 8 [vR tb, vI fed, vI len, vI (u1.2.1 1), vI we, vI (u4.2.1 0), vI (u4.2.1 1)]] hq9
          refine lv_iload hx hb dX8_number_97 (lv_at hlv 0 rfl) ?_
          refine W.widen (k := 0) (n := 0) (Nat.le_of_ble_eq_true rfl) (Nat.le_of_ble_eq_true rfl) ?_
          exact W.iret (v := iI v) hx hb hr (fun t ht hW => ⟨⟨iI v, ((fun k => ([] : List Nat).getD k 0), (fun k => ([v, (u1.2.1 1), (u4.2.1 0), (u4.2.1 1)] : List Int).getD k 0), (fun k => ([] : List (Nat → Int32)).getD k (fun _ => 0))), rfl, ⟨rfl, (by show ((-1) ≤ v ∧ v ≤ 10000); first | exact rgw hl25_1 (by decide) (by decide) | omega), (by show (0 ≤ (u1.2.1 1) ∧ (u1.2.1 1) ≤ 600); first | exact hq1_2 | omega), (by show (0 ≤ (u4.2.1 0) ∧ (u4.2.1 0) ≤ 4); first | exact rgw hq4_0 (by decide) (by decide) | omega), (by show ((-1) ≤ (u4.2.1 1) ∧ (u4.2.1 1) ≤ 600); first | exact hq4_1 | omega), (by show (at_ ≤ (u1.2.1 1)); omega), (by show ((u4.2.1 0) = 0 → fa = 0 ∧ lo ≤ v ∧ v ≤ hi); omega), (by show (0 ≤ lo → 0 ≤ v); omega), (by show (NuP gq len lo hi at_ fa fp (v) ((u1.2.1 1)) ((u4.2.1 0)) ((u4.2.1 1))); exact (NuP_2 (x := x) (v := v) hq1_6 (by omega) hl25_3 hl25_4 (by omega) (fun q => by have q1 := q.1; have q2 := q.2; have q3 := TPg.at hn_br (x := x) (by omega); omega) (by omega)))⟩, at9 ht hP hD [1, 0] (by decide +kernel) rfl⟩, hS.F ht⟩) hS.2.2 dX8_number_99
        · refine lv_aload_n hx hb dX8_number_84 rfl (lv_at hlv 2 rfl) ?_
          refine lv_iload_n hx hb dX8_number_85 rfl (lv_at hlv 1 rfl) ?_
          refine va_put (D := D) (ci := 8) (v := vI x) (ty := .int) (C := RX8) (T := TX8) (N := 7) hx hb hts hi8 tyX8 tyX8_ok nmX8 hown hG.1 hP hD hS 0 rfl rfl 3 (by decide) lf25 (fun _ h9 => h9) rfl (by decide +kernel) rfl rfl (Nat.le_of_ble_eq_true rfl) dX8_number_86 (fun H locs hP hD hS => ?_)
          obtain ⟨hP, hD⟩ := pw9 [zO ta 8 [vR tb, vI fed, vI len, vI x, vI we, vI fa, vI fp], zI tb (cy 1) 600 bf] hP hD
          refine lv_goto (tgt := 97) hx hb dX8_number_89 (by decide) ?_
          refine lv_iload hx hb dX8_number_97 (lv_at hlv 0 rfl) ?_
          refine W.widen (k := 0) (n := 0) (Nat.le_of_ble_eq_true rfl) (Nat.le_of_ble_eq_true rfl) ?_
          exact W.iret (v := iI v) hx hb hr (fun t ht hW => ⟨⟨iI v, ((fun k => ([] : List Nat).getD k 0), (fun k => ([v, x, fa, fp] : List Int).getD k 0), (fun k => ([] : List (Nat → Int32)).getD k (fun _ => 0))), rfl, ⟨rfl, (by show ((-1) ≤ v ∧ v ≤ 10000); first | exact rgw hl25_1 (by decide) (by decide) | omega), (by show (0 ≤ x ∧ x ≤ 600); first | exact hl25_0 | omega), (by show (0 ≤ fa ∧ fa ≤ 4); first | exact hr_fa | omega), (by show ((-1) ≤ fp ∧ fp ≤ 600); first | exact hr_fp | omega), (by show (at_ ≤ x); omega), (by show (fa = 0 → fa = 0 ∧ lo ≤ v ∧ v ≤ hi); omega), (by show (0 ≤ lo → 0 ≤ v); omega), (by show (NuP gq len lo hi at_ fa fp (v) (x) (fa) (fp)); exact (NuP_2 (x := x) (v := v) hq1_6 (by omega) hl25_3 hl25_4 (by omega) (fun q => by have q1 := q.1; have q2 := q.2; have q3 := TPg.at hn_br (x := x) (by omega); omega) (by omega)))⟩, at9 ht hP hD [0, 1] (by decide +kernel) rfl⟩, hS.F ht⟩) hS.2.2 dX8_number_99
      · refine lv_aload_n hx hb dX8_number_33 rfl (lv_at hlv 2 rfl) ?_
        refine va_get (D := D) (ci := 8) (v := vR tb) (C := RX8) (T := TX8) (N := 7) hx hb hts hi8 hown hG.1 hP 0 rfl rfl 0 (by decide) lf11 (fun _ h9 => h9) rfl dX8_number_34 ?_
        refine lv_iload_n hx hb dX8_number_37 rfl (lv_at hlv 1 rfl) ?_
        refine va_bald hx hb hG.1 hP 1 1 rfl rfl (iI_in (by omega) (by decide)) dX8_number_38 ?_
        refine lt_nz (i := x) (by omega) (fun z_4 hz_4 lz_4 uz_4 => ?_)
        refine cjr_i [true, true] (fun pre9 => (va_runS (As := [vI z_4]) (rest := []) ⟨hx, hb, hml, hown, hts⟩ (s_isDigit l hl D cy sa z_4 H.size (by omega)) (va_cwS 1 hts gg_1 rfl rfl rfl (by decide +kernel) ⟨Nat.le_of_ble_eq_true rfl, Nat.le_of_ble_eq_true rfl⟩) ⟨pcW.blind, pre9⟩ rfl rfl hlv.1 rfl (lv_room (Nat.le_of_ble_eq_true rfl)) dX8_number_39 ⟨Nat.le_of_ble_eq_true rfl, Nat.le_of_ble_eq_true rfl⟩)) hP hD hS hA hG hT [] rfl (by decide +kernel) (fun r5 u5 H locs hw5 hq9 hS => ?_)
        obtain ⟨rfl, hq5_1, hq5_2, hq5_3⟩ := hw5
        obtain ⟨hP, hD⟩ := pd9 [zO ta 8 [vR tb, vI fed, vI len, vI (u1.2.1 1), vI we, vI fa, vI fp], zI tb (cy 1) 600 bf] hq9
        refine iz_eq (tgt := 74) hx hb dX8_number_42 (by decide) (by first | exact rgw hq5_1 (by decide) (by decide) | omega) (fun c_5 => ?_) (fun c_5 => ?_)
        · refine lv_iload hx hb dX8_number_74 (lv_at hlv 0 rfl) ?_
          refine lv_iload_n hx hb dX8_number_76 rfl (lv_at hlv 3 rfl) ?_
          refine lv_iload_n hx hb dX8_number_77 rfl (lv_at hlv 4 rfl) ?_
          refine cjr_i [true, true] (fun pre9 => (va_runSN (host := "KerbSplash") (As := [vI v, vI lo, vI hi]) (rest := []) ⟨hx, hb, hml, hown, hts⟩ (s_within l hl D cy sa v lo hi H.size (by first | exact rgw hl25_1 (by decide) (by decide) | omega) (by first | exact rgw hr_lo (by decide) (by decide) | omega) (by first | exact rgw hr_hi (by decide) (by decide) | omega)) ⟨va_cnB 3 hts gg_3 rfl rfl rfl (nM_Tape_66 hG.2.1) ini_RX11 (by decide +kernel) ⟨Nat.le_of_ble_eq_true rfl, Nat.le_of_ble_eq_true rfl⟩, st_X11_isWithin, trivial⟩ ⟨pcW.blind, pre9⟩ rfl rfl hlv.1 rfl (lv_room (Nat.le_of_ble_eq_true rfl)) dX8_number_78 ⟨Nat.le_of_ble_eq_true rfl, Nat.le_of_ble_eq_true rfl⟩)) hP hD hS hA hG hT [] rfl (by decide +kernel) (fun r6 u6 H locs hw6 hq9 hS => ?_)
          obtain ⟨rfl, hq6_1, hq6_2, hq6_3⟩ := hw6
          obtain ⟨hP, hD⟩ := pd9 [zO ta 8 [vR tb, vI fed, vI len, vI (u1.2.1 1), vI we, vI fa, vI fp], zI tb (cy 1) 600 bf] hq9
          refine iz_eq (tgt := 92) hx hb dX8_number_81 (by decide) (by first | exact rgw hq6_1 (by decide) (by decide) | omega) (fun c_6 => ?_) (fun c_6 => ?_)
          · refine lv_aload_n hx hb dX8_number_92 rfl (lv_at hlv 2 rfl) ?_
            refine lv_iconst (v := iI 2) hx hb dX8_number_93 (by decide) ?_
            refine cjr_v [false, true] (fun pre9 => (va_runV (As := [vI 2]) (rest := []) ⟨hx, hb, hml, hown, hts⟩ (e_refuse l hl D cy sa ta tb fed len (u1.2.1 1) we fa fp 2 H.size (by first | exact hr_fed | omega) (by first | exact hr_len | omega) (by first | exact hq1_2 | omega) (by first | exact hr_we | omega) (by first | exact hr_fa | omega) (by first | exact hr_fp | omega) (by show (1 : Int) ≤ 2 ∧ (2 : Int) ≤ 4; decide)) (cwV 1 hts gg_4 rfl rfl rfl (by decide +kernel) ⟨Nat.le_of_ble_eq_true rfl, Nat.le_of_ble_eq_true rfl⟩) ⟨pcW.blind, (va_recv hG.1 hP (ci := 8) (q0 := 0) rfl rfl), pre9⟩ rfl rfl hlv.1 rfl (lv_room (Nat.le_of_ble_eq_true rfl)) dX8_number_94 ⟨Nat.le_of_ble_eq_true rfl, Nat.le_of_ble_eq_true rfl⟩)) hP hD hS hA hG hT [0] rfl (by decide +kernel) (fun u7 H locs hw7 hq9 hS => ?_)
            obtain ⟨hq7_0, hq7_1, hq7_2, hq7_3⟩ := hw7
            obtain ⟨hP, hD⟩ := pd9 [zI tb (cy 1) 600 bf, zO ta 8 [vR tb, vI fed, vI len, vI (u1.2.1 1), vI we, vI (u7.2.1 0), vI (u7.2.1 1)]] hq9
            refine lv_iload hx hb dX8_number_97 (lv_at hlv 0 rfl) ?_
            refine W.widen (k := 0) (n := 0) (Nat.le_of_ble_eq_true rfl) (Nat.le_of_ble_eq_true rfl) ?_
            exact W.iret (v := iI v) hx hb hr (fun t ht hW => ⟨⟨iI v, ((fun k => ([] : List Nat).getD k 0), (fun k => ([v, (u1.2.1 1), (u7.2.1 0), (u7.2.1 1)] : List Int).getD k 0), (fun k => ([] : List (Nat → Int32)).getD k (fun _ => 0))), rfl, ⟨rfl, (by show ((-1) ≤ v ∧ v ≤ 10000); first | exact rgw hl25_1 (by decide) (by decide) | omega), (by show (0 ≤ (u1.2.1 1) ∧ (u1.2.1 1) ≤ 600); first | exact hq1_2 | omega), (by show (0 ≤ (u7.2.1 0) ∧ (u7.2.1 0) ≤ 4); first | exact rgw hq7_0 (by decide) (by decide) | omega), (by show ((-1) ≤ (u7.2.1 1) ∧ (u7.2.1 1) ≤ 600); first | exact hq7_1 | omega), (by show (at_ ≤ (u1.2.1 1)); omega), (by show ((u7.2.1 0) = 0 → fa = 0 ∧ lo ≤ v ∧ v ≤ hi); omega), (by show (0 ≤ lo → 0 ≤ v); omega), (by show (NuP gq len lo hi at_ fa fp (v) ((u1.2.1 1)) ((u7.2.1 0)) ((u7.2.1 1))); exact (NuP_2 (x := x) (v := v) hq1_6 (by omega) hl25_3 hl25_4 (by omega) (fun q => by have q1 := q.1; have q2 := q.2; have q3 := TPg.at hn_br (x := x) (by omega); omega) (by omega)))⟩, at9 ht hP hD [1, 0] (by decide +kernel) rfl⟩, hS.F ht⟩) hS.2.2 dX8_number_99
          · refine lv_aload_n hx hb dX8_number_84 rfl (lv_at hlv 2 rfl) ?_
            refine lv_iload_n hx hb dX8_number_85 rfl (lv_at hlv 1 rfl) ?_
            refine va_put (D := D) (ci := 8) (v := vI x) (ty := .int) (C := RX8) (T := TX8) (N := 7) hx hb hts hi8 tyX8 tyX8_ok nmX8 hown hG.1 hP hD hS 0 rfl rfl 3 (by decide) lf25 (fun _ h9 => h9) rfl (by decide +kernel) rfl rfl (Nat.le_of_ble_eq_true rfl) dX8_number_86 (fun H locs hP hD hS => ?_)
            obtain ⟨hP, hD⟩ := pw9 [zO ta 8 [vR tb, vI fed, vI len, vI x, vI we, vI fa, vI fp], zI tb (cy 1) 600 bf] hP hD
            refine lv_goto (tgt := 97) hx hb dX8_number_89 (by decide) ?_
            refine lv_iload hx hb dX8_number_97 (lv_at hlv 0 rfl) ?_
            refine W.widen (k := 0) (n := 0) (Nat.le_of_ble_eq_true rfl) (Nat.le_of_ble_eq_true rfl) ?_
            exact W.iret (v := iI v) hx hb hr (fun t ht hW => ⟨⟨iI v, ((fun k => ([] : List Nat).getD k 0), (fun k => ([v, x, fa, fp] : List Int).getD k 0), (fun k => ([] : List (Nat → Int32)).getD k (fun _ => 0))), rfl, ⟨rfl, (by show ((-1) ≤ v ∧ v ≤ 10000); first | exact rgw hl25_1 (by decide) (by decide) | omega), (by show (0 ≤ x ∧ x ≤ 600); first | exact hl25_0 | omega), (by show (0 ≤ fa ∧ fa ≤ 4); first | exact hr_fa | omega), (by show ((-1) ≤ fp ∧ fp ≤ 600); first | exact hr_fp | omega), (by show (at_ ≤ x); omega), (by show (fa = 0 → fa = 0 ∧ lo ≤ v ∧ v ≤ hi); omega), (by show (0 ≤ lo → 0 ≤ v); omega), (by show (NuP gq len lo hi at_ fa fp (v) (x) (fa) (fp)); exact (NuP_2 (x := x) (v := v) hq1_6 (by omega) hl25_3 hl25_4 (by omega) (fun q => by have q1 := q.1; have q2 := q.2; have q3 := TPg.at hn_br (x := x) (by omega); omega) (by omega)))⟩, at9 ht hP hD [0, 1] (by decide +kernel) rfl⟩, hS.F ht⟩) hS.2.2 dX8_number_99
        · refine lv_iload hx hb dX8_number_45 (lv_at hlv 0 rfl) ?_
          refine lv_bipush (v := iI 10) hx hb dX8_number_47 (by decide) ?_
          refine lv_imul hx hb dX8_number_49 ?_
          refine lt_e (e0 := v * 10) (Int32.ofInt_mul _ _).symm (fun z_7 hz_7 => ?_)
          refine lv_aload_n hx hb dX8_number_50 rfl (lv_at hlv 2 rfl) ?_
          refine va_get (D := D) (ci := 8) (v := vR tb) (C := RX8) (T := TX8) (N := 7) hx hb hts hi8 hown hG.1 hP 0 rfl rfl 0 (by decide) lf11 (fun _ h9 => h9) rfl dX8_number_51 ?_
          refine lv_iload_n hx hb dX8_number_54 rfl (lv_at hlv 1 rfl) ?_
          refine va_bald hx hb hG.1 hP 1 1 rfl rfl (iI_in (by omega) (by decide)) dX8_number_55 ?_
          refine lt_i (y := iI z_4) (nz_rd hz_4 (by omega)) ?_
          refine lv_iadd hx hb dX8_number_56 ?_
          refine lt_e (e0 := z_7 + z_4) (Int32.ofInt_add _ _).symm (fun z_8 hz_8 => ?_)
          refine lv_bipush (v := iI 48) hx hb dX8_number_57 (by decide) ?_
          refine lv_isub hx hb dX8_number_59 ?_
          refine lt_e (e0 := z_8 - 48) (Int32.ofInt_sub _ _).symm (fun z_9 hz_9 => ?_)
          refine lv_sipush (v := iI 10000) hx hb dX8_number_60 (by decide) ?_
          refine va_mmin hx hb (hml.trans hlv.1.symm) hown mk60 ms_min mi_ mc_min (Nat.le_of_ble_eq_true rfl) (Nat.le_of_ble_eq_true rfl) (Nat.le_of_ble_eq_true rfl) (Nat.le_of_ble_eq_true rfl) dX8_number_63 ?_
          refine lt_mn (by omega) (by omega) (fun z_10 hz_10 => ?_)
          refine lv_istore (lv' := [(4, vI z_10), (3, vI x), (0, vR ta), (1, vI lo), (2, vI hi)]) hx hb dX8_number_66 hlv (by decide) rfl (fun ls hlv => ?_)
          obtain ⟨z_11, hz_11⟩ : ∃ z : Int, z = x + 1 := ⟨_, rfl⟩
          refine lv_iinc (v := iI z_11) (lv' := [(3, vI z_11), (4, vI z_10), (0, vR ta), (1, vI lo), (2, vI hi)]) hx hb dX8_number_68 hlv (k := 1) rfl (by rw [hz_11]; exact (Int32.ofInt_add _ _).symm) (by decide) rfl (fun ls hlv => ?_)
          refine lv_goto (tgt := 25) hx hb dX8_number_71 (by decide) ?_
          exact ih25 z_11 z_10 H locs ls (by omega) (by omega) (by omega) (by omega) ((rnI_go (a := x) (by omega) (by omega) (pDg_t (by have q3 := TPg.at hn_br (x := x) (by omega); omega)) (by omega)).trans hl25_3) ((vlI_go (a := x) (v := v) (by omega) (by omega) (by have q3 := TPg.at hn_br (x := x) (by omega); omega) (by omega) (by have q3 := TPg.at hn_br (x := x) (by omega); omega)).trans hl25_4)  (hP.sub [0, 1] rfl) (hD.sub [0, 1] (by decide) rfl) hS (lv_sub hlv [1, 0, 2, 3, 4] rfl)
  · refine lv_aload_n hx hb dX8_number_10 rfl (lv_at hlv 0 rfl) ?_
    refine lv_iconst (v := iI 1) hx hb dX8_number_11 (by decide) ?_
    refine cjr_v [false, true] (fun pre9 => (va_runV (As := [vI 1]) (rest := []) ⟨hx, hb, hml, hown, hts⟩ (e_refuse l hl D cy sa ta tb fed len (u1.2.1 1) we fa fp 1 H.size (by first | exact hr_fed | omega) (by first | exact hr_len | omega) (by first | exact hq1_2 | omega) (by first | exact hr_we | omega) (by first | exact hr_fa | omega) (by first | exact hr_fp | omega) (by show (1 : Int) ≤ 1 ∧ (1 : Int) ≤ 4; decide)) (cwV 1 hts gg_4 rfl rfl rfl (by decide +kernel) ⟨Nat.le_of_ble_eq_true rfl, Nat.le_of_ble_eq_true rfl⟩) ⟨pcW.blind, (va_recv hG.1 hP (ci := 8) (q0 := 0) rfl rfl), pre9⟩ rfl rfl hlv.1 rfl (lv_room (Nat.le_of_ble_eq_true rfl)) dX8_number_12 ⟨Nat.le_of_ble_eq_true rfl, Nat.le_of_ble_eq_true rfl⟩)) hP hD hS hA hG hT [0] rfl (by decide +kernel) (fun u8 H locs hw8 hq9 hS => ?_)
    obtain ⟨hq8_0, hq8_1, hq8_2, hq8_3⟩ := hw8
    obtain ⟨hP, hD⟩ := pd9 [zI tb (cy 1) 600 bf, zO ta 8 [vR tb, vI fed, vI len, vI (u1.2.1 1), vI we, vI (u8.2.1 0), vI (u8.2.1 1)]] hq9
    refine lv_iload_n hx hb dX8_number_15 rfl (lv_at hlv 1 rfl) ?_
    refine W.widen (k := 0) (n := 0) (Nat.le_of_ble_eq_true rfl) (Nat.le_of_ble_eq_true rfl) ?_
    exact W.iret (v := iI lo) hx hb hr (fun t ht hW => ⟨⟨iI lo, ((fun k => ([] : List Nat).getD k 0), (fun k => ([lo, (u1.2.1 1), (u8.2.1 0), (u8.2.1 1)] : List Int).getD k 0), (fun k => ([] : List (Nat → Int32)).getD k (fun _ => 0))), rfl, ⟨rfl, (by show ((-1) ≤ lo ∧ lo ≤ 10000); first | exact hr_lo | omega), (by show (0 ≤ (u1.2.1 1) ∧ (u1.2.1 1) ≤ 600); first | exact hq1_2 | omega), (by show (0 ≤ (u8.2.1 0) ∧ (u8.2.1 0) ≤ 4); first | exact rgw hq8_0 (by decide) (by decide) | omega), (by show ((-1) ≤ (u8.2.1 1) ∧ (u8.2.1 1) ≤ 600); first | exact hq8_1 | omega), (by show (at_ ≤ (u1.2.1 1)); omega), (by show ((u8.2.1 0) = 0 → fa = 0 ∧ lo ≤ lo ∧ lo ≤ hi); omega), (by show (0 ≤ lo → 0 ≤ lo); omega), (by show (NuP gq len lo hi at_ fa fp (lo) ((u1.2.1 1)) ((u8.2.1 0)) ((u8.2.1 1))); exact (NuP_1 hq1_6 (by omega) (by omega) (by omega)))⟩, at9 ht hP hD [1, 0] (by decide +kernel) rfl⟩, hS.F ht⟩) hS.2.2 dX8_number_16
def vs_e_want : List Cond := .code yX8_want cX8_want 2 none :: (([.fieldLink RX8 25 "KerbSplash$Tape" "at" "I"] : List Cond) ++ ((wsV RX8 34 RX8 yX8_sign vs_e_sign) ++ ((wsV RX8 38 RX8 yX8_refuse vs_e_refuse) ++ ((wsX80) ++ ([])))))
theorem gd_e_want : vs_e_want.all goodWord = true := gd_C (by decide +kernel) (gd_A (by decide +kernel) (gd_A (gd_V gd_e_sign (by decide +kernel)) (gd_A (gd_V gd_e_refuse (by decide +kernel)) (gd_A (by decide +kernel) rfl))))
set_option maxHeartbeats 4000000 in
set_option maxRecDepth 100000 in
theorem e_want (l : Launch) (hl : l.stackTraces = false) (D : va_G) (cy : Nat → ClassId) (sa : Nat → Nat) (ta tb : Nat) (fed len at_ we fa fp : Int) (bf : Nat → Int32) (gq : Nat → Int) (n : Int) (sz : Nat) (hr_fed : 0 ≤ fed ∧ fed ≤ 600) (hr_len : 0 ≤ len ∧ len ≤ 600) (hr_at_ : 0 ≤ at_ ∧ at_ ≤ 600) (hr_we : 0 ≤ we ∧ we ≤ 600) (hr_fa : 0 ≤ fa ∧ fa ≤ 4) (hr_fp : (-1) ≤ fp ∧ fp ≤ 600) (hr_n : 0 ≤ n ∧ n ≤ 65535) (hn_br : TPg bf gq) : mV9 l yX8_want vs_e_want ({ frames := 1, cells := 0, slots := 0, locals := 21 }) D cy sa sz [vR ta, vI n] [zO ta 8 [vR tb, vI fed, vI len, vI at_, vI we, vI fa, vI fp], zI tb (cy 1) 600 bf] (fun u : SV => (0 ≤ u.2.1 0 ∧ u.2.1 0 ≤ 600) ∧ (0 ≤ u.2.1 1 ∧ u.2.1 1 ≤ 4) ∧ ((-1) ≤ u.2.1 2 ∧ u.2.1 2 ≤ 600) ∧ (at_ ≤ u.2.1 0) ∧ (fa ≠ 0 → u.2.1 1 ≠ 0) ∧ (SgP gq len n at_ fa fp (u.2.1 0) (u.2.1 1) (u.2.1 2))) (fun u : SV => [zO ta 8 [vR tb, vI fed, vI len, vI (u.2.1 0), vI we, vI (u.2.1 1), vI (u.2.1 2)], zI tb (cy 1) 600 bf]) 0 0 := by
  refine Met.ofW (cc := cX8_want) (maxL := 2) (ret := none) (by decide) rfl ?_
  intro p e s m args below meth c s₁ B hml hv
  obtain ⟨rfl, hsz, hP, hG, hD0, hT⟩ := hv
  have hx := B.exec
  have hb := B.bytes
  have hr := B.returns
  have hts := atoms_spec (ws := vs_e_want) B.pre
  have hown : s.vm.findClass RX8 = some m.cls := findClass_of_methodNamed B.named
  have hlocks := B.notSynchronized
  subst hsz
  have hD := hD0.self (sz := s.heap.size)
  generalize hAe : va_A [zO ta 8 [vR tb, vI fed, vI len, vI at_, vI we, vI fa, vI fp], zI tb (cy 1) 600 bf] s.heap.size = A at hD hT ⊢
  have hA : ∀ q : Nat, s.heap.size ≤ q → A q := fun q h => by rw [← hAe]; exact Or.inr h
  have hS : va_S A s.heap s.heap [] := va_S.rf
  have hl0 := lv_entry ([vR ta, vI n]) (n := 2) (Nat.le_of_ble_eq_true rfl)
  rw [lg_entry_eq]
  generalize (lg_sl ([vR ta, vI n]) ++ List.replicate (2 - (lg_sl ([vR ta, vI n])).length) Slot.unset).toArray = ls at hl0 ⊢
  have hlv : lv_has ls 2 [(0, vR ta), (1, vI n)] := hl0
  have gg_0 : GoodIn vs_e_want (wsV RX8 34 RX8 yX8_sign vs_e_sign) := goodIn_sub (fun w h => List.mem_cons_of_mem _ (List.mem_append_right _ (List.mem_append_left _ h))) (gd_V gd_e_sign (by decide +kernel))
  have gg_1 : GoodIn vs_e_want (wsV RX8 38 RX8 yX8_refuse vs_e_refuse) := goodIn_sub (fun w h => List.mem_cons_of_mem _ (List.mem_append_right _ (List.mem_append_right _ (List.mem_append_left _ h)))) (gd_V gd_e_refuse (by decide +kernel))
  have lf25 := hts (.fieldLink RX8 25 "KerbSplash$Tape" "at" "I") (List.mem_of_getElem? (i := 1) rfl)
  have hi8 : ∀ w ∈ wsX80, w ∈ vs_e_want := fun w h => List.mem_cons_of_mem _ (List.mem_append_right _ (List.mem_append_right _ (List.mem_append_right _ (List.mem_append_left _ h))))
  refine lv_aload_n hx hb dX8_want_0 rfl (lv_at hlv 0 rfl) ?_
  refine cjr_i [false, false] (fun pre9 => (va_runV (As := []) (rest := []) ⟨hx, hb, hml, hown, hts⟩ (e_sign l hl D cy sa ta tb fed len at_ we fa fp bf gq s.heap.size (by first | exact hr_fed | omega) (by first | exact hr_len | omega) (by first | exact hr_at_ | omega) (by first | exact hr_we | omega) (by first | exact hr_fa | omega) (by first | exact hr_fp | omega) hn_br) (cwV 0 hts gg_0 rfl rfl rfl (by decide +kernel) ⟨Nat.le_of_ble_eq_true rfl, Nat.le_of_ble_eq_true rfl⟩) ⟨pcW.blind, (va_recv hG.1 hP (ci := 8) (q0 := 0) rfl rfl), pre9⟩ rfl rfl hlv.1 rfl (lv_room (Nat.le_of_ble_eq_true rfl)) dX8_want_1 ⟨Nat.le_of_ble_eq_true rfl, Nat.le_of_ble_eq_true rfl⟩)) hP hD hS hA hG hT [0, 1] rfl (by decide +kernel) (fun r1 u1 H locs hw1 hq9 hS => ?_)
  obtain ⟨rfl, hq1_1, hq1_2, hq1_3, hq1_4, hq1_5, hq1_6⟩ := hw1
  obtain ⟨hP, hD⟩ := pd9 [zO ta 8 [vR tb, vI fed, vI len, vI (u1.2.1 1), vI we, vI fa, vI fp], zI tb (cy 1) 600 bf] hq9
  refine lv_iload_n hx hb dX8_want_4 rfl (lv_at hlv 1 rfl) ?_
  refine ir_ne (tgt := 21) hx hb dX8_want_5 (by decide) (by first | exact rgw hq1_1 (by decide) (by decide) | omega) (by first | exact rgw hr_n (by decide) (by decide) | omega) (fun c_1 => ?_) (fun c_1 => ?_)
  · refine lv_aload_n hx hb dX8_want_21 rfl (lv_at hlv 0 rfl) ?_
    refine lv_iconst (v := iI 1) hx hb dX8_want_22 (by decide) ?_
    refine cjr_v [false, true] (fun pre9 => (va_runV (As := [vI 1]) (rest := []) ⟨hx, hb, hml, hown, hts⟩ (e_refuse l hl D cy sa ta tb fed len (u1.2.1 1) we fa fp 1 H.size (by first | exact hr_fed | omega) (by first | exact hr_len | omega) (by first | exact hq1_2 | omega) (by first | exact hr_we | omega) (by first | exact hr_fa | omega) (by first | exact hr_fp | omega) (by show (1 : Int) ≤ 1 ∧ (1 : Int) ≤ 4; decide)) (cwV 1 hts gg_1 rfl rfl rfl (by decide +kernel) ⟨Nat.le_of_ble_eq_true rfl, Nat.le_of_ble_eq_true rfl⟩) ⟨pcW.blind, (va_recv hG.1 hP (ci := 8) (q0 := 0) rfl rfl), pre9⟩ rfl rfl hlv.1 rfl (lv_room (Nat.le_of_ble_eq_true rfl)) dX8_want_23 ⟨Nat.le_of_ble_eq_true rfl, Nat.le_of_ble_eq_true rfl⟩)) hP hD hS hA hG hT [0] rfl (by decide +kernel) (fun u2 H locs hw2 hq9 hS => ?_)
    obtain ⟨hq2_0, hq2_1, hq2_2, hq2_3⟩ := hw2
    obtain ⟨hP, hD⟩ := pd9 [zI tb (cy 1) 600 bf, zO ta 8 [vR tb, vI fed, vI len, vI (u1.2.1 1), vI we, vI (u2.2.1 0), vI (u2.2.1 1)]] hq9
    refine W.widen (k := 0) (n := 0) (Nat.le_of_ble_eq_true rfl) (Nat.le_of_ble_eq_true rfl) ?_
    exact W.vret hx hb hr (fun t ht hW => ⟨⟨((fun k => ([] : List Nat).getD k 0), (fun k => ([(u1.2.1 1), (u2.2.1 0), (u2.2.1 1)] : List Int).getD k 0), (fun k => ([] : List (Nat → Int32)).getD k (fun _ => 0))), rfl, ⟨(by show (0 ≤ (u1.2.1 1) ∧ (u1.2.1 1) ≤ 600); first | exact hq1_2 | omega), (by show (0 ≤ (u2.2.1 0) ∧ (u2.2.1 0) ≤ 4); first | exact rgw hq2_0 (by decide) (by decide) | omega), (by show ((-1) ≤ (u2.2.1 1) ∧ (u2.2.1 1) ≤ 600); first | exact hq2_1 | omega), (by show (at_ ≤ (u1.2.1 1)); omega), (by show (fa ≠ 0 → (u2.2.1 0) ≠ 0); omega), (by show (SgP gq len n at_ fa fp ((u1.2.1 1)) ((u2.2.1 0)) ((u2.2.1 1))); exact (SgP_2 hq1_6 (by omega) (by omega) (by omega)))⟩, at9 ht hP hD [1, 0] (by decide +kernel) rfl⟩, hS.F ht⟩) hS.2.2 dX8_want_26
  · refine lv_aload_n hx hb dX8_want_8 rfl (lv_at hlv 0 rfl) ?_
    refine lv_dup hx hb dX8_want_9 rfl ?_
    refine va_get (D := D) (ci := 8) (v := vI (u1.2.1 1)) (C := RX8) (T := TX8) (N := 7) hx hb hts hi8 hown hG.1 hP 0 rfl rfl 3 (by decide) lf25 (fun _ h9 => h9) rfl dX8_want_10 ?_
    refine lv_iconst (v := iI 1) hx hb dX8_want_13 (by decide) ?_
    refine lv_iadd hx hb dX8_want_14 ?_
    refine lt_e (e0 := (u1.2.1 1) + 1) (Int32.ofInt_add _ _).symm (fun z_2 hz_2 => ?_)
    refine va_put (D := D) (ci := 8) (v := vI z_2) (ty := .int) (C := RX8) (T := TX8) (N := 7) hx hb hts hi8 tyX8 tyX8_ok nmX8 hown hG.1 hP hD hS 0 rfl rfl 3 (by decide) lf25 (fun _ h9 => h9) rfl (by decide +kernel) rfl rfl (Nat.le_of_ble_eq_true rfl) dX8_want_15 (fun H locs hP hD hS => ?_)
    obtain ⟨hP, hD⟩ := pw9 [zO ta 8 [vR tb, vI fed, vI len, vI z_2, vI we, vI fa, vI fp], zI tb (cy 1) 600 bf] hP hD
    refine lv_goto (tgt := 26) hx hb dX8_want_18 (by decide) ?_
    refine W.widen (k := 0) (n := 0) (Nat.le_of_ble_eq_true rfl) (Nat.le_of_ble_eq_true rfl) ?_
    exact W.vret hx hb hr (fun t ht hW => ⟨⟨((fun k => ([] : List Nat).getD k 0), (fun k => ([z_2, fa, fp] : List Int).getD k 0), (fun k => ([] : List (Nat → Int32)).getD k (fun _ => 0))), rfl, ⟨(by show (0 ≤ z_2 ∧ z_2 ≤ 600); omega), (by show (0 ≤ fa ∧ fa ≤ 4); first | exact hr_fa | omega), (by show ((-1) ≤ fp ∧ fp ≤ 600); first | exact hr_fp | omega), (by show (at_ ≤ z_2); omega), (by show (fa ≠ 0 → fa ≠ 0); omega), (by show (SgP gq len n at_ fa fp (z_2) (fa) (fp)); exact (SgP_1 hq1_6 (by omega) (by omega) (by omega) (by omega)))⟩, at9 ht hP hD [0, 1] (by decide +kernel) rfl⟩, hS.F ht⟩) hS.2.2 dX8_want_26
end
section

def vs_e_wordOf : List Cond := .code yX10_of cX10_of 6 (some (.object "KerbSplash$Word")) :: (([.fieldLink RX10 123 "KerbSplash$Word" "ALL" "[LKerbSplash$Word;", .fieldLink RX10 5 "KerbSplash$Word" "NO" "LKerbSplash$Word;", .fieldLink RX10 109 "KerbSplash$Word" "letters" "Ljava/lang/String;"] : List Cond) ++ ((wsV RX10 126 RJ0 yJ0_length_8abf5 vs_s_length) ++ ((wsV RX10 132 RJ0 yJ0_charAt_5068e vs_s_charAt) ++ ([]))))
theorem gd_e_wordOf : vs_e_wordOf.all goodWord = true := gd_C (by decide +kernel) (gd_A (by decide +kernel) (gd_A (gd_V gd_s_length (by decide +kernel)) (gd_A (gd_V gd_s_charAt (by decide +kernel)) rfl)))
set_option maxHeartbeats 4000000 in
set_option maxRecDepth 100000 in
theorem e_wordOf (l : Launch) (hl : l.stackTraces = false) (D : va_G) (cy : Nat → ClassId) (sa : Nat → Nat) (tb : Nat) (bf : Nat → Int32) (fr en : Int) (sz : Nat) (hr_fr : 0 ≤ fr ∧ fr ≤ 600) (hr_en : 0 ≤ en ∧ en ≤ 600) : mR9 l yX10_of vs_e_wordOf ({ frames := 4, cells := 0, slots := 0, locals := 85 }) D cy sa sz [vR tb, vI fr, vI en] [zI tb (cy 1) 600 bf] (fun u : SV => (0 ≤ u.2.1 0 ∧ u.2.1 0 ≤ 27) ∧ (FMr bf fr en (u.2.1 0))) (fun u : SV => [zI tb (cy 1) 600 bf]) 0 0 0 := by
  refine Met.ofW (cc := cX10_of) (maxL := 6) (ret := (some (.object "KerbSplash$Word"))) (by decide) rfl ?_
  intro p e s m args below meth c s₁ B hml hv
  obtain ⟨rfl, hsz, hP, hG, hD0, hT⟩ := hv
  have hx := B.exec
  have hb := B.bytes
  have hr := B.returns
  have hts := atoms_spec (ws := vs_e_wordOf) B.pre
  have hown : s.vm.findClass RX10 = some m.cls := findClass_of_methodNamed B.named
  have hlocks := B.notSynchronized
  subst hsz
  have hD := hD0.self (sz := s.heap.size)
  generalize hAe : va_A [zI tb (cy 1) 600 bf] s.heap.size = A at hD hT ⊢
  have hA : ∀ q : Nat, s.heap.size ≤ q → A q := fun q h => by rw [← hAe]; exact Or.inr h
  have hS : va_S A s.heap s.heap [] := va_S.rf
  have hl0 := lv_entry ([vR tb, vI fr, vI en]) (n := 6) (Nat.le_of_ble_eq_true rfl)
  rw [lg_entry_eq]
  generalize (lg_sl ([vR tb, vI fr, vI en]) ++ List.replicate (6 - (lg_sl ([vR tb, vI fr, vI en])).length) Slot.unset).toArray = ls at hl0 ⊢
  have hlv : lv_has ls 6 [(0, vR tb), (1, vI fr), (2, vI en)] := hl0
  have lf123 := hts (.fieldLink RX10 123 "KerbSplash$Word" "ALL" "[LKerbSplash$Word;") (List.mem_of_getElem? (i := 1) rfl)
  have lf5 := hts (.fieldLink RX10 5 "KerbSplash$Word" "NO" "LKerbSplash$Word;") (List.mem_of_getElem? (i := 2) rfl)
  have lf109 := hts (.fieldLink RX10 109 "KerbSplash$Word" "letters" "Ljava/lang/String;") (List.mem_of_getElem? (i := 3) rfl)
  have gg_0 : GoodIn vs_e_wordOf (wsV RX10 126 RJ0 yJ0_length_8abf5 vs_s_length) := goodIn_sub (fun w h => List.mem_cons_of_mem _ (List.mem_append_right _ (List.mem_append_left _ h))) (gd_V gd_s_length (by decide +kernel))
  have gg_1 : GoodIn vs_e_wordOf (wsV RX10 132 RJ0 yJ0_charAt_5068e vs_s_charAt) := goodIn_sub (fun w h => List.mem_cons_of_mem _ (List.mem_append_right _ (List.mem_append_right _ (List.mem_append_left _ h)))) (gd_V gd_s_charAt (by decide +kernel))
  refine lv_iconst (v := iI 0) hx hb dX10_of_0 (by decide) ?_
  refine lv_istore_n (lv' := [(3, vI 0), (0, vR tb), (1, vI fr), (2, vI en)]) hx hb dX10_of_1 rfl hlv (by decide) rfl (fun ls hlv => ?_)
  refine (?_ : ∀ (fu : Nat) (q3 : Int) (H : Heap) (locs : List Loc) (ls : Array Slot), 28 - q3 < (fu : Int) → (0 ≤ q3 ∧ q3 ≤ 28) → (FMn bf fr en q3) → va_P D vwCl [zI tb (cy 1) 600 bf] H → va_D A [zI tb (cy 1) 600 bf] → va_S A s.heap H locs → lv_has ls 6 [(3, vI q3), (0, vR tb), (1, vI fr), (2, vI en)] → W p l e _ s m _ below meth c H locs _ _ _ (F0 m 2 ls [])) (((28 - 0) + 1 : Int)).toNat 0 _ _ _ (by omega) (by show (0 : Int) ≤ 0 ∧ (0 : Int) ≤ 28; decide) FMn_0  hP hD hS hlv
  clear hP hD hS hlv
  intro fu
  induction fu with
  | zero => intro q3 H locs ls hm2 hl2_0 hl2_1  hP hD hS hlv; omega
  | succ fu ih2 =>
    intro q3 H locs ls hm2 hl2_0 hl2_1  hP hD hS hlv
    refine lv_iload_n hx hb dX10_of_2 rfl (lv_at hlv 0 rfl) ?_
    refine va_gets (C := "KerbSplash$Word") (n := "ALL") (d := "[LKerbSplash$Word;") (ref := "KerbSplash$Word") (v := .ref (sa 99)) hx hb hT.2.2.2.2.1 hS hown lf123 (fun _ h9 => h9) dX10_of_3 ?_
    refine va_tlen (v := iI 28) hx hb hT.2.2.2.2.2.1 hS rfl dX10_of_6 ?_
    refine ir_ge (tgt := 93) hx hb dX10_of_7 (by decide) (by first | exact rgw hl2_0 (by decide) (by decide) | omega) (by show ((-2147483648) : Int) ≤ 28 ∧ (28 : Int) ≤ 2147483647; decide) (fun c_1 => ?_) (fun c_1 => ?_)
    · refine va_gets (C := "KerbSplash$Word") (n := "NO") (d := "LKerbSplash$Word;") (ref := "KerbSplash$Word") (v := .ref (wd sa 0)) hx hb (hT.2.2.1 0 (by decide)).1.1 hS hown lf5 (fun _ h9 => h9) dX10_of_93 ?_
      refine W.widen (k := 0) (n := 0) (Nat.le_of_ble_eq_true rfl) (Nat.le_of_ble_eq_true rfl) ?_
      exact W.aret (v := .ref (wd sa 0)) hx hb hr (Or.inl ⟨_, rfl⟩) (Or.inr ⟨_, rfl⟩) (fun t ht hW => ⟨⟨((fun k => ([] : List Nat).getD k 0), (fun k => ([0] : List Int).getD k 0), (fun k => ([] : List (Nat → Int32)).getD k (fun _ => 0))), _, rfl, ⟨(by show (0 ≤ 0 ∧ 0 ≤ 27); show (0 : Int) ≤ 0 ∧ (0 : Int) ≤ 27; decide), (by show (FMr bf fr en (0)); exact (FMr_n hl2_1 (by omega)))⟩, rfl, at9 ht hP hD [0] (by decide +kernel) rfl⟩, hS.F ht⟩) hS.2.2 dX10_of_96
    · refine va_gets (C := "KerbSplash$Word") (n := "ALL") (d := "[LKerbSplash$Word;") (ref := "KerbSplash$Word") (v := .ref (sa 99)) hx hb hT.2.2.2.2.1 hS hown lf123 (fun _ h9 => h9) dX10_of_10 ?_
      refine lv_iload_n hx hb dX10_of_13 rfl (lv_at hlv 0 rfl) ?_
      refine vb_tq (v := .ref (wd sa q3)) hx hb hT.2.2.2.2.2.1 hS (iI_in (by omega) (by decide)) (wa_rd (by omega)) dX10_of_14 ?_
      refine vk_getf (o := "KerbSplash$Word") (n := "letters") (d := "Ljava/lang/String;") (ref := "KerbSplash$Word") (v := .ref (sn sa q3)) hx hb (hT.2.2.1 (q3 : Int).toNat (by omega)).1.2.2.2.2.2 hS hown lf109 (fun _ h9 => h9) dX10_of_15 ?_
      refine lv_astore (lv' := [(4, .ref (sn sa q3)), (3, vI q3), (0, vR tb), (1, vI fr), (2, vI en)]) hx hb dX10_of_18 hlv (by decide) rfl (fun ls hlv => ?_)
      refine lv_iconst (v := iI 0) hx hb dX10_of_20 (by decide) ?_
      refine lv_istore (lv' := [(5, vI 0), (4, .ref (sn sa q3)), (3, vI q3), (0, vR tb), (1, vI fr), (2, vI en)]) hx hb dX10_of_21 hlv (by decide) rfl (fun ls hlv => ?_)
      have hsl_ := sl_b (k := q3) (by omega)
      refine (?_ : ∀ (fu : Nat) (q5 : Int) (H : Heap) (locs : List Loc) (ls : Array Slot), 7 - q5 < (fu : Int) → (0 ≤ q5 ∧ q5 ≤ 7) → (q5 ≤ slen q3) → (∀ t : Int, 0 ≤ t → t < q5 → nz bf (fr + t).toNat = sch q3 t) → va_P D vwCl [zI tb (cy 1) 600 bf] H → va_D A [zI tb (cy 1) 600 bf] → va_S A s.heap H locs → lv_has ls 6 [(5, vI q5), (4, .ref (sn sa q3)), (3, vI q3), (0, vR tb), (1, vI fr), (2, vI en)] → W p l e _ s m _ below meth c H locs _ _ _ (F0 m 23 ls [])) (((7 - 0) + 1 : Int)).toNat 0 _ _ _ (by omega) (by show (0 : Int) ≤ 0 ∧ (0 : Int) ≤ 7; decide) (by omega) (fun t ht0 ht1 => absurd ht1 (by omega))  hP hD hS hlv
      clear hP hD hS hlv
      intro fu
      induction fu with
      | zero => intro q5 H locs ls hm23 hl23_0 hl23_1 hl23_2  hP hD hS hlv; omega
      | succ fu ih23 =>
        intro q5 H locs ls hm23 hl23_0 hl23_1 hl23_2  hP hD hS hlv
        refine lv_iload hx hb dX10_of_23 (lv_at hlv 0 rfl) ?_
        refine lv_aload hx hb dX10_of_25 (lv_at hlv 1 rfl) ?_
        refine cjr_i [true] (fun pre9 => (va_runV (As := []) (rest := [vI q5]) ⟨hx, hb, hml, hown, hts⟩ (s_length l hl D cy sa q3 H.size (by first | exact rgw hl2_0 (by decide) (by decide) | omega)) (cwV 0 hts gg_0 rfl rfl rfl (by decide +kernel) ⟨Nat.le_of_ble_eq_true rfl, Nat.le_of_ble_eq_true rfl⟩) ⟨pcW.blind, (wo_recv (WD.tx hT.2.2 (q3 : Int).toNat (by omega)).1 hS), pre9⟩ rfl rfl hlv.1 rfl (lv_room (Nat.le_of_ble_eq_true rfl)) dX10_of_27 ⟨Nat.le_of_ble_eq_true rfl, Nat.le_of_ble_eq_true rfl⟩)) hP hD hS hA hG hT [] rfl (by decide +kernel) (fun r1 u1 H locs hw1 hq9 hS => ?_)
        obtain ⟨rfl, hq1_1, hq1_2⟩ := hw1
        obtain ⟨hP, hD⟩ := pd9 [zI tb (cy 1) 600 bf] hq9
        refine ir_ge (tgt := 63) hx hb dX10_of_30 (by decide) (by first | exact rgw hl23_0 (by decide) (by decide) | omega) (by first | exact rgw hq1_1 (by decide) (by decide) | omega) (fun c_2 => ?_) (fun c_2 => ?_)
        · refine lv_iload hx hb dX10_of_63 (lv_at hlv 0 rfl) ?_
          refine lv_aload hx hb dX10_of_65 (lv_at hlv 1 rfl) ?_
          refine cjr_i [true] (fun pre9 => (va_runV (As := []) (rest := [vI q5]) ⟨hx, hb, hml, hown, hts⟩ (s_length l hl D cy sa q3 H.size (by first | exact rgw hl2_0 (by decide) (by decide) | omega)) (cwV 0 hts gg_0 rfl rfl rfl (by decide +kernel) ⟨Nat.le_of_ble_eq_true rfl, Nat.le_of_ble_eq_true rfl⟩) ⟨pcW.blind, (wo_recv (WD.tx hT.2.2 (q3 : Int).toNat (by omega)).1 hS), pre9⟩ rfl rfl hlv.1 rfl (lv_room (Nat.le_of_ble_eq_true rfl)) dX10_of_67 ⟨Nat.le_of_ble_eq_true rfl, Nat.le_of_ble_eq_true rfl⟩)) hP hD hS hA hG hT [] rfl (by decide +kernel) (fun r2 u2 H locs hw2 hq9 hS => ?_)
          obtain ⟨rfl, hq2_1, hq2_2⟩ := hw2
          obtain ⟨hP, hD⟩ := pd9 [zI tb (cy 1) 600 bf] hq9
          refine ir_ne (tgt := 87) hx hb dX10_of_70 (by decide) (by first | exact rgw hl23_0 (by decide) (by decide) | omega) (by first | exact rgw hq2_1 (by decide) (by decide) | omega) (fun c_3 => ?_) (fun c_3 => ?_)
          · obtain ⟨z_4, hz_4⟩ : ∃ z : Int, z = q3 + 1 := ⟨_, rfl⟩
            refine lv_iinc (v := iI z_4) (lv' := [(3, vI z_4), (5, vI q5), (4, .ref (sn sa q3)), (0, vR tb), (1, vI fr), (2, vI en)]) hx hb dX10_of_87 hlv (k := 2) rfl (by rw [hz_4]; exact (Int32.ofInt_add _ _).symm) (by decide) rfl (fun ls hlv => ?_)
            refine lv_goto (tgt := 2) hx hb dX10_of_90 (by decide) ?_
            exact ih2 z_4 H locs ls (by omega) (by omega) (FMn_s (q := q3) hl2_1 (fun q => by have q1 := q.1; first | omega | (have q2 := q.2 q5 (by omega) (by omega); rw [show fr + q5 = fr by omega] at q2; omega)) (by omega))  (hP.sub [0] rfl) (hD.sub [0] (by decide) rfl) hS (lv_sub hlv [0, 3, 4, 5] rfl)
          · refine lv_iload_n hx hb dX10_of_73 rfl (lv_at hlv 4 rfl) ?_
            refine lv_iload hx hb dX10_of_74 (lv_at hlv 0 rfl) ?_
            refine lv_iadd hx hb dX10_of_76 ?_
            refine lt_e (e0 := fr + q5) (Int32.ofInt_add _ _).symm (fun z_5 hz_5 => ?_)
            refine lv_iload_n hx hb dX10_of_77 rfl (lv_at hlv 5 rfl) ?_
            refine ir_ne (tgt := 87) hx hb dX10_of_78 (by decide) (by omega) (by first | exact rgw hr_en (by decide) (by decide) | omega) (fun c_6 => ?_) (fun c_6 => ?_)
            · obtain ⟨z_7, hz_7⟩ : ∃ z : Int, z = q3 + 1 := ⟨_, rfl⟩
              refine lv_iinc (v := iI z_7) (lv' := [(3, vI z_7), (5, vI q5), (4, .ref (sn sa q3)), (0, vR tb), (1, vI fr), (2, vI en)]) hx hb dX10_of_87 hlv (k := 2) rfl (by rw [hz_7]; exact (Int32.ofInt_add _ _).symm) (by decide) rfl (fun ls hlv => ?_)
              refine lv_goto (tgt := 2) hx hb dX10_of_90 (by decide) ?_
              exact ih2 z_7 H locs ls (by omega) (by omega) (FMn_s (q := q3) hl2_1 (fun q => by have q1 := q.1; first | omega | (have q2 := q.2 q5 (by omega) (by omega); rw [show fr + q5 = fr by omega] at q2; omega)) (by omega))  (hP.sub [0] rfl) (hD.sub [0] (by decide) rfl) hS (lv_sub hlv [0, 3, 4, 5] rfl)
            · refine va_gets (C := "KerbSplash$Word") (n := "ALL") (d := "[LKerbSplash$Word;") (ref := "KerbSplash$Word") (v := .ref (sa 99)) hx hb hT.2.2.2.2.1 hS hown lf123 (fun _ h9 => h9) dX10_of_81 ?_
              refine lv_iload_n hx hb dX10_of_84 rfl (lv_at hlv 2 rfl) ?_
              refine vb_tq (v := .ref (wd sa q3)) hx hb hT.2.2.2.2.2.1 hS (iI_in (by omega) (by decide)) (wa_rd (by omega)) dX10_of_85 ?_
              refine W.widen (k := 0) (n := 0) (Nat.le_of_ble_eq_true rfl) (Nat.le_of_ble_eq_true rfl) ?_
              exact W.aret (v := .ref (wd sa q3)) hx hb hr (Or.inl ⟨_, rfl⟩) (Or.inr ⟨_, rfl⟩) (fun t ht hW => ⟨⟨((fun k => ([] : List Nat).getD k 0), (fun k => ([q3] : List Int).getD k 0), (fun k => ([] : List (Nat → Int32)).getD k (fun _ => 0))), _, rfl, ⟨(by show (0 ≤ q3 ∧ q3 ≤ 27); omega), (by show (FMr bf fr en (q3)); exact (FMr_f (by omega) ⟨by omega, fun t a9 b9 => hl23_2 t a9 (by omega)⟩))⟩, rfl, at9 ht hP hD [0] (by decide +kernel) rfl⟩, hS.F ht⟩) hS.2.2 dX10_of_86
        · refine lv_iload_n hx hb dX10_of_33 rfl (lv_at hlv 4 rfl) ?_
          refine lv_iload hx hb dX10_of_34 (lv_at hlv 0 rfl) ?_
          refine lv_iadd hx hb dX10_of_36 ?_
          refine lt_e (e0 := fr + q5) (Int32.ofInt_add _ _).symm (fun z_8 hz_8 => ?_)
          refine lv_iload_n hx hb dX10_of_37 rfl (lv_at hlv 5 rfl) ?_
          refine ir_ge (tgt := 63) hx hb dX10_of_38 (by decide) (by omega) (by first | exact rgw hr_en (by decide) (by decide) | omega) (fun c_9 => ?_) (fun c_9 => ?_)
          · refine lv_iload hx hb dX10_of_63 (lv_at hlv 0 rfl) ?_
            refine lv_aload hx hb dX10_of_65 (lv_at hlv 1 rfl) ?_
            refine cjr_i [true] (fun pre9 => (va_runV (As := []) (rest := [vI q5]) ⟨hx, hb, hml, hown, hts⟩ (s_length l hl D cy sa q3 H.size (by first | exact rgw hl2_0 (by decide) (by decide) | omega)) (cwV 0 hts gg_0 rfl rfl rfl (by decide +kernel) ⟨Nat.le_of_ble_eq_true rfl, Nat.le_of_ble_eq_true rfl⟩) ⟨pcW.blind, (wo_recv (WD.tx hT.2.2 (q3 : Int).toNat (by omega)).1 hS), pre9⟩ rfl rfl hlv.1 rfl (lv_room (Nat.le_of_ble_eq_true rfl)) dX10_of_67 ⟨Nat.le_of_ble_eq_true rfl, Nat.le_of_ble_eq_true rfl⟩)) hP hD hS hA hG hT [] rfl (by decide +kernel) (fun r3 u3 H locs hw3 hq9 hS => ?_)
            obtain ⟨rfl, hq3_1, hq3_2⟩ := hw3
            obtain ⟨hP, hD⟩ := pd9 [zI tb (cy 1) 600 bf] hq9
            refine ir_ne (tgt := 87) hx hb dX10_of_70 (by decide) (by first | exact rgw hl23_0 (by decide) (by decide) | omega) (by first | exact rgw hq3_1 (by decide) (by decide) | omega) (fun c_10 => ?_) (fun c_10 => ?_)
            · obtain ⟨z_11, hz_11⟩ : ∃ z : Int, z = q3 + 1 := ⟨_, rfl⟩
              refine lv_iinc (v := iI z_11) (lv' := [(3, vI z_11), (5, vI q5), (4, .ref (sn sa q3)), (0, vR tb), (1, vI fr), (2, vI en)]) hx hb dX10_of_87 hlv (k := 2) rfl (by rw [hz_11]; exact (Int32.ofInt_add _ _).symm) (by decide) rfl (fun ls hlv => ?_)
              refine lv_goto (tgt := 2) hx hb dX10_of_90 (by decide) ?_
              exact ih2 z_11 H locs ls (by omega) (by omega) (FMn_s (q := q3) hl2_1 (fun q => by have q1 := q.1; first | omega | (have q2 := q.2 q5 (by omega) (by omega); rw [show fr + q5 = fr by omega] at q2; omega)) (by omega))  (hP.sub [0] rfl) (hD.sub [0] (by decide) rfl) hS (lv_sub hlv [0, 3, 4, 5] rfl)
            · refine lv_iload_n hx hb dX10_of_73 rfl (lv_at hlv 4 rfl) ?_
              refine lv_iload hx hb dX10_of_74 (lv_at hlv 0 rfl) ?_
              refine lv_iadd hx hb dX10_of_76 ?_
              refine lt_e (e0 := fr + q5) (Int32.ofInt_add _ _).symm (fun z_12 hz_12 => ?_)
              refine lv_iload_n hx hb dX10_of_77 rfl (lv_at hlv 5 rfl) ?_
              refine ir_ne (tgt := 87) hx hb dX10_of_78 (by decide) (by omega) (by first | exact rgw hr_en (by decide) (by decide) | omega) (fun c_13 => ?_) (fun c_13 => ?_)
              · obtain ⟨z_14, hz_14⟩ : ∃ z : Int, z = q3 + 1 := ⟨_, rfl⟩
                refine lv_iinc (v := iI z_14) (lv' := [(3, vI z_14), (5, vI q5), (4, .ref (sn sa q3)), (0, vR tb), (1, vI fr), (2, vI en)]) hx hb dX10_of_87 hlv (k := 2) rfl (by rw [hz_14]; exact (Int32.ofInt_add _ _).symm) (by decide) rfl (fun ls hlv => ?_)
                refine lv_goto (tgt := 2) hx hb dX10_of_90 (by decide) ?_
                exact ih2 z_14 H locs ls (by omega) (by omega) (FMn_s (q := q3) hl2_1 (fun q => by have q1 := q.1; first | omega | (have q2 := q.2 q5 (by omega) (by omega); rw [show fr + q5 = fr by omega] at q2; omega)) (by omega))  (hP.sub [0] rfl) (hD.sub [0] (by decide) rfl) hS (lv_sub hlv [0, 3, 4, 5] rfl)
              · refine va_gets (C := "KerbSplash$Word") (n := "ALL") (d := "[LKerbSplash$Word;") (ref := "KerbSplash$Word") (v := .ref (sa 99)) hx hb hT.2.2.2.2.1 hS hown lf123 (fun _ h9 => h9) dX10_of_81 ?_
                refine lv_iload_n hx hb dX10_of_84 rfl (lv_at hlv 2 rfl) ?_
                refine vb_tq (v := .ref (wd sa q3)) hx hb hT.2.2.2.2.2.1 hS (iI_in (by omega) (by decide)) (wa_rd (by omega)) dX10_of_85 ?_
                refine W.widen (k := 0) (n := 0) (Nat.le_of_ble_eq_true rfl) (Nat.le_of_ble_eq_true rfl) ?_
                exact W.aret (v := .ref (wd sa q3)) hx hb hr (Or.inl ⟨_, rfl⟩) (Or.inr ⟨_, rfl⟩) (fun t ht hW => ⟨⟨((fun k => ([] : List Nat).getD k 0), (fun k => ([q3] : List Int).getD k 0), (fun k => ([] : List (Nat → Int32)).getD k (fun _ => 0))), _, rfl, ⟨(by show (0 ≤ q3 ∧ q3 ≤ 27); omega), (by show (FMr bf fr en (q3)); exact (FMr_f (by omega) ⟨by omega, fun t a9 b9 => hl23_2 t a9 (by omega)⟩))⟩, rfl, at9 ht hP hD [0] (by decide +kernel) rfl⟩, hS.F ht⟩) hS.2.2 dX10_of_86
          · refine lv_aload_n hx hb dX10_of_41 rfl (lv_at hlv 3 rfl) ?_
            refine lv_iload_n hx hb dX10_of_42 rfl (lv_at hlv 4 rfl) ?_
            refine lv_iload hx hb dX10_of_43 (lv_at hlv 0 rfl) ?_
            refine lv_iadd hx hb dX10_of_45 ?_
            refine lt_e (e0 := fr + q5) (Int32.ofInt_add _ _).symm (fun z_15 hz_15 => ?_)
            refine va_bald hx hb hG.1 hP 0 1 rfl rfl (iI_in (by omega) (by decide)) dX10_of_46 ?_
            refine lt_nz (i := z_15) (by omega) (fun z_16 hz_16 lz_16 uz_16 => ?_)
            refine lv_aload hx hb dX10_of_47 (lv_at hlv 1 rfl) ?_
            refine lv_iload hx hb dX10_of_49 (lv_at hlv 0 rfl) ?_
            refine cjr_i [true] (fun pre9 => (va_runV (As := [vI q5]) (rest := [vI z_16]) ⟨hx, hb, hml, hown, hts⟩ (s_charAt l hl D cy sa q3 q5 H.size (by first | exact rgw hl2_0 (by decide) (by decide) | omega) (by omega) (by omega)) (cwV 1 hts gg_1 rfl rfl rfl (by decide +kernel) ⟨Nat.le_of_ble_eq_true rfl, Nat.le_of_ble_eq_true rfl⟩) ⟨pcW.blind, (wo_recv (WD.tx hT.2.2 (q3 : Int).toNat (by omega)).1 hS), pre9⟩ rfl rfl hlv.1 rfl (lv_room (Nat.le_of_ble_eq_true rfl)) dX10_of_51 ⟨Nat.le_of_ble_eq_true rfl, Nat.le_of_ble_eq_true rfl⟩)) hP hD hS hA hG hT [] rfl (by decide +kernel) (fun r4 u4 H locs hw4 hq9 hS => ?_)
            obtain ⟨rfl, hq4_1, hq4_2⟩ := hw4
            obtain ⟨hP, hD⟩ := pd9 [zI tb (cy 1) 600 bf] hq9
            refine ir_ne (tgt := 63) hx hb dX10_of_54 (by decide) (by omega) (by first | exact rgw hq4_1 (by decide) (by decide) | omega) (fun c_17 => ?_) (fun c_17 => ?_)
            · refine lv_iload hx hb dX10_of_63 (lv_at hlv 0 rfl) ?_
              refine lv_aload hx hb dX10_of_65 (lv_at hlv 1 rfl) ?_
              refine cjr_i [true] (fun pre9 => (va_runV (As := []) (rest := [vI q5]) ⟨hx, hb, hml, hown, hts⟩ (s_length l hl D cy sa q3 H.size (by first | exact rgw hl2_0 (by decide) (by decide) | omega)) (cwV 0 hts gg_0 rfl rfl rfl (by decide +kernel) ⟨Nat.le_of_ble_eq_true rfl, Nat.le_of_ble_eq_true rfl⟩) ⟨pcW.blind, (wo_recv (WD.tx hT.2.2 (q3 : Int).toNat (by omega)).1 hS), pre9⟩ rfl rfl hlv.1 rfl (lv_room (Nat.le_of_ble_eq_true rfl)) dX10_of_67 ⟨Nat.le_of_ble_eq_true rfl, Nat.le_of_ble_eq_true rfl⟩)) hP hD hS hA hG hT [] rfl (by decide +kernel) (fun r5 u5 H locs hw5 hq9 hS => ?_)
              obtain ⟨rfl, hq5_1, hq5_2⟩ := hw5
              obtain ⟨hP, hD⟩ := pd9 [zI tb (cy 1) 600 bf] hq9
              refine ir_ne (tgt := 87) hx hb dX10_of_70 (by decide) (by first | exact rgw hl23_0 (by decide) (by decide) | omega) (by first | exact rgw hq5_1 (by decide) (by decide) | omega) (fun c_18 => ?_) (fun c_18 => ?_)
              · obtain ⟨z_19, hz_19⟩ : ∃ z : Int, z = q3 + 1 := ⟨_, rfl⟩
                refine lv_iinc (v := iI z_19) (lv' := [(3, vI z_19), (5, vI q5), (4, .ref (sn sa q3)), (0, vR tb), (1, vI fr), (2, vI en)]) hx hb dX10_of_87 hlv (k := 2) rfl (by rw [hz_19]; exact (Int32.ofInt_add _ _).symm) (by decide) rfl (fun ls hlv => ?_)
                refine lv_goto (tgt := 2) hx hb dX10_of_90 (by decide) ?_
                exact ih2 z_19 H locs ls (by omega) (by omega) (FMn_s (q := q3) hl2_1 (fun q => by have q1 := q.1; first | omega | (have q2 := q.2 q5 (by omega) (by omega); rw [show fr + q5 = z_15 by omega] at q2; omega)) (by omega))  (hP.sub [0] rfl) (hD.sub [0] (by decide) rfl) hS (lv_sub hlv [0, 3, 4, 5] rfl)
              · refine lv_iload_n hx hb dX10_of_73 rfl (lv_at hlv 4 rfl) ?_
                refine lv_iload hx hb dX10_of_74 (lv_at hlv 0 rfl) ?_
                refine lv_iadd hx hb dX10_of_76 ?_
                refine lt_e (e0 := fr + q5) (Int32.ofInt_add _ _).symm (fun z_20 hz_20 => ?_)
                refine lv_iload_n hx hb dX10_of_77 rfl (lv_at hlv 5 rfl) ?_
                refine ir_ne (tgt := 87) hx hb dX10_of_78 (by decide) (by omega) (by first | exact rgw hr_en (by decide) (by decide) | omega) (fun c_21 => ?_) (fun c_21 => ?_)
                · obtain ⟨z_22, hz_22⟩ : ∃ z : Int, z = q3 + 1 := ⟨_, rfl⟩
                  refine lv_iinc (v := iI z_22) (lv' := [(3, vI z_22), (5, vI q5), (4, .ref (sn sa q3)), (0, vR tb), (1, vI fr), (2, vI en)]) hx hb dX10_of_87 hlv (k := 2) rfl (by rw [hz_22]; exact (Int32.ofInt_add _ _).symm) (by decide) rfl (fun ls hlv => ?_)
                  refine lv_goto (tgt := 2) hx hb dX10_of_90 (by decide) ?_
                  exact ih2 z_22 H locs ls (by omega) (by omega) (FMn_s (q := q3) hl2_1 (fun q => by have q1 := q.1; first | omega | (have q2 := q.2 q5 (by omega) (by omega); rw [show fr + q5 = z_15 by omega] at q2; omega)) (by omega))  (hP.sub [0] rfl) (hD.sub [0] (by decide) rfl) hS (lv_sub hlv [0, 3, 4, 5] rfl)
                · refine va_gets (C := "KerbSplash$Word") (n := "ALL") (d := "[LKerbSplash$Word;") (ref := "KerbSplash$Word") (v := .ref (sa 99)) hx hb hT.2.2.2.2.1 hS hown lf123 (fun _ h9 => h9) dX10_of_81 ?_
                  refine lv_iload_n hx hb dX10_of_84 rfl (lv_at hlv 2 rfl) ?_
                  refine vb_tq (v := .ref (wd sa q3)) hx hb hT.2.2.2.2.2.1 hS (iI_in (by omega) (by decide)) (wa_rd (by omega)) dX10_of_85 ?_
                  refine W.widen (k := 0) (n := 0) (Nat.le_of_ble_eq_true rfl) (Nat.le_of_ble_eq_true rfl) ?_
                  exact W.aret (v := .ref (wd sa q3)) hx hb hr (Or.inl ⟨_, rfl⟩) (Or.inr ⟨_, rfl⟩) (fun t ht hW => ⟨⟨((fun k => ([] : List Nat).getD k 0), (fun k => ([q3] : List Int).getD k 0), (fun k => ([] : List (Nat → Int32)).getD k (fun _ => 0))), _, rfl, ⟨(by show (0 ≤ q3 ∧ q3 ≤ 27); omega), (by show (FMr bf fr en (q3)); exact (FMr_f (by omega) ⟨by omega, fun t a9 b9 => hl23_2 t a9 (by omega)⟩))⟩, rfl, at9 ht hP hD [0] (by decide +kernel) rfl⟩, hS.F ht⟩) hS.2.2 dX10_of_86
            · obtain ⟨z_23, hz_23⟩ : ∃ z : Int, z = q5 + 1 := ⟨_, rfl⟩
              refine lv_iinc (v := iI z_23) (lv' := [(5, vI z_23), (4, .ref (sn sa q3)), (3, vI q3), (0, vR tb), (1, vI fr), (2, vI en)]) hx hb dX10_of_57 hlv (k := 0) rfl (by rw [hz_23]; exact (Int32.ofInt_add _ _).symm) (by decide) rfl (fun ls hlv => ?_)
              refine lv_goto (tgt := 23) hx hb dX10_of_60 (by decide) ?_
              exact ih23 z_23 H locs ls (by omega) (by omega) (by omega) (fun t ht0 ht1 => by by_cases q9 : t = q5; (subst q9; rw [show fr + t = z_15 by omega]; omega); exact hl23_2 t ht0 (by omega))  (hP.sub [0] rfl) (hD.sub [0] (by decide) rfl) hS (lv_sub hlv [0, 1, 2, 3, 4, 5] rfl)
def vs_e_word : List Cond := .code yX8_word cX8_word 1 (some (.object "KerbSplash$Word")) :: (([.fieldLink RX8 25 "KerbSplash$Tape" "at" "I", .fieldLink RX8 28 "KerbSplash$Tape" "wordEnd" "I", .fieldLink RX8 22 "KerbSplash$Tape" "length" "I", .fieldLink RX8 11 "KerbSplash$Tape" "bytes" "[B", .initialized RX10, .static yX10_of, .fieldLink RX8 42 "KerbSplash$Word" "NO" "LKerbSplash$Word;"] : List Cond) ++ ((wsV RX8 34 RX8 yX8_sign vs_e_sign) ++ ((wsX80) ++ ((vs_e_wordOf) ++ ([])))))
theorem gd_e_word : vs_e_word.all goodWord = true := gd_C (by decide +kernel) (gd_A (by decide +kernel) (gd_A (gd_V gd_e_sign (by decide +kernel)) (gd_A (by decide +kernel) (gd_A gd_e_wordOf rfl))))
set_option maxHeartbeats 4000000 in
set_option maxRecDepth 100000 in
theorem e_word (l : Launch) (hl : l.stackTraces = false) (D : va_G) (cy : Nat → ClassId) (sa : Nat → Nat) (ta tb : Nat) (fed len at_ we fa fp : Int) (bf : Nat → Int32) (gq : Nat → Int) (sz : Nat) (hr_fed : 0 ≤ fed ∧ fed ≤ 600) (hr_len : 0 ≤ len ∧ len ≤ 600) (hr_at_ : 0 ≤ at_ ∧ at_ ≤ 600) (hr_we : 0 ≤ we ∧ we ≤ 600) (hr_fa : 0 ≤ fa ∧ fa ≤ 4) (hr_fp : (-1) ≤ fp ∧ fp ≤ 600) (hn_br : TPg bf gq) : mR9 l yX8_word vs_e_word ({ frames := 5, cells := 0, slots := 0, locals := 110 }) D cy sa sz [vR ta] [zO ta 8 [vR tb, vI fed, vI len, vI at_, vI we, vI fa, vI fp], zI tb (cy 1) 600 bf] (fun u : SV => (0 ≤ u.2.1 0 ∧ u.2.1 0 ≤ 27) ∧ (0 ≤ u.2.1 1 ∧ u.2.1 1 ≤ 600) ∧ (0 ≤ u.2.1 2 ∧ u.2.1 2 ≤ 600) ∧ (at_ ≤ u.2.1 1) ∧ (WoP gq len at_ fa (u.2.1 0) (u.2.1 1) (u.2.1 2))) (fun u : SV => [zO ta 8 [vR tb, vI fed, vI len, vI (u.2.1 1), vI (u.2.1 2), vI fa, vI fp], zI tb (cy 1) 600 bf]) 0 0 0 := by
  refine Met.ofW (cc := cX8_word) (maxL := 1) (ret := (some (.object "KerbSplash$Word"))) (by decide) rfl ?_
  intro p e s m args below meth c s₁ B hml hv
  obtain ⟨rfl, hsz, hP, hG, hD0, hT⟩ := hv
  have hx := B.exec
  have hb := B.bytes
  have hr := B.returns
  have hts := atoms_spec (ws := vs_e_word) B.pre
  have hown : s.vm.findClass RX8 = some m.cls := findClass_of_methodNamed B.named
  have hlocks := B.notSynchronized
  subst hsz
  have hD := hD0.self (sz := s.heap.size)
  generalize hAe : va_A [zO ta 8 [vR tb, vI fed, vI len, vI at_, vI we, vI fa, vI fp], zI tb (cy 1) 600 bf] s.heap.size = A at hD hT ⊢
  have hA : ∀ q : Nat, s.heap.size ≤ q → A q := fun q h => by rw [← hAe]; exact Or.inr h
  have hS : va_S A s.heap s.heap [] := va_S.rf
  have hl0 := lv_entry ([vR ta]) (n := 1) (Nat.le_of_ble_eq_true rfl)
  rw [lg_entry_eq]
  generalize (lg_sl ([vR ta]) ++ List.replicate (1 - (lg_sl ([vR ta])).length) Slot.unset).toArray = ls at hl0 ⊢
  have hlv : lv_has ls 1 [(0, vR ta)] := hl0
  have gg_0 : GoodIn vs_e_word (wsV RX8 34 RX8 yX8_sign vs_e_sign) := goodIn_sub (fun w h => List.mem_cons_of_mem _ (List.mem_append_right _ (List.mem_append_left _ h))) (gd_V gd_e_sign (by decide +kernel))
  have lf25 := hts (.fieldLink RX8 25 "KerbSplash$Tape" "at" "I") (List.mem_of_getElem? (i := 1) rfl)
  have hi8 : ∀ w ∈ wsX80, w ∈ vs_e_word := fun w h => List.mem_cons_of_mem _ (List.mem_append_right _ (List.mem_append_right _ (List.mem_append_left _ h)))
  have lf28 := hts (.fieldLink RX8 28 "KerbSplash$Tape" "wordEnd" "I") (List.mem_of_getElem? (i := 2) rfl)
  have lf22 := hts (.fieldLink RX8 22 "KerbSplash$Tape" "length" "I") (List.mem_of_getElem? (i := 3) rfl)
  have lf11 := hts (.fieldLink RX8 11 "KerbSplash$Tape" "bytes" "[B") (List.mem_of_getElem? (i := 4) rfl)
  have gg_2 : GoodIn vs_e_word (vs_e_wordOf) := goodIn_sub (fun w h => List.mem_cons_of_mem _ (List.mem_append_right _ (List.mem_append_right _ (List.mem_append_right _ (List.mem_append_left _ h))))) gd_e_wordOf
  have ini_RX10 := hts (.initialized RX10) (List.mem_of_getElem? (i := 5) rfl)
  have st_X10_of := hts (.static yX10_of) (List.mem_of_getElem? (i := 6) rfl)
  have lf42 := hts (.fieldLink RX8 42 "KerbSplash$Word" "NO" "LKerbSplash$Word;") (List.mem_of_getElem? (i := 7) rfl)
  refine lv_aload_n hx hb dX8_word_0 rfl (lv_at hlv 0 rfl) ?_
  refine cjr_i [false, false] (fun pre9 => (va_runV (As := []) (rest := []) ⟨hx, hb, hml, hown, hts⟩ (e_sign l hl D cy sa ta tb fed len at_ we fa fp bf gq s.heap.size (by first | exact hr_fed | omega) (by first | exact hr_len | omega) (by first | exact hr_at_ | omega) (by first | exact hr_we | omega) (by first | exact hr_fa | omega) (by first | exact hr_fp | omega) hn_br) (cwV 0 hts gg_0 rfl rfl rfl (by decide +kernel) ⟨Nat.le_of_ble_eq_true rfl, Nat.le_of_ble_eq_true rfl⟩) ⟨pcW.blind, (va_recv hG.1 hP (ci := 8) (q0 := 0) rfl rfl), pre9⟩ rfl rfl hlv.1 rfl (lv_room (Nat.le_of_ble_eq_true rfl)) dX8_word_1 ⟨Nat.le_of_ble_eq_true rfl, Nat.le_of_ble_eq_true rfl⟩)) hP hD hS hA hG hT [0, 1] rfl (by decide +kernel) (fun r1 u1 H locs hw1 hq9 hS => ?_)
  obtain ⟨rfl, hq1_1, hq1_2, hq1_3, hq1_4, hq1_5, hq1_6⟩ := hw1
  obtain ⟨hP, hD⟩ := pd9 [zO ta 8 [vR tb, vI fed, vI len, vI (u1.2.1 1), vI we, vI fa, vI fp], zI tb (cy 1) 600 bf] hq9
  refine lv_iconst (v := iI (-1)) hx hb dX8_word_4 (by decide) ?_
  refine ir_ne (tgt := 12) hx hb dX8_word_5 (by decide) (by first | exact rgw hq1_1 (by decide) (by decide) | omega) (by show ((-2147483648) : Int) ≤ (-1) ∧ ((-1) : Int) ≤ 2147483647; decide) (fun c_1 => ?_) (fun c_1 => ?_)
  · refine lv_aload_n hx hb dX8_word_12 rfl (lv_at hlv 0 rfl) ?_
    refine lv_aload_n hx hb dX8_word_13 rfl (lv_at hlv 0 rfl) ?_
    refine va_get (D := D) (ci := 8) (v := vI (u1.2.1 1)) (C := RX8) (T := TX8) (N := 7) hx hb hts hi8 hown hG.1 hP 0 rfl rfl 3 (by decide) lf25 (fun _ h9 => h9) rfl dX8_word_14 ?_
    refine va_put (D := D) (ci := 8) (v := vI (u1.2.1 1)) (ty := .int) (C := RX8) (T := TX8) (N := 7) hx hb hts hi8 tyX8 tyX8_ok nmX8 hown hG.1 hP hD hS 0 rfl rfl 4 (by decide) lf28 (fun _ h9 => h9) rfl (by decide +kernel) rfl rfl (Nat.le_of_ble_eq_true rfl) dX8_word_17 (fun H locs hP hD hS => ?_)
    obtain ⟨hP, hD⟩ := pw9 [zO ta 8 [vR tb, vI fed, vI len, vI (u1.2.1 1), vI (u1.2.1 1), vI fa, vI fp], zI tb (cy 1) 600 bf] hP hD
    refine (?_ : ∀ (fu : Nat) (x : Int) (H : Heap) (locs : List Loc) (ls : Array Slot), 600 - x < (fu : Int) → (0 ≤ x ∧ x ≤ 600) → (rnI pSm gq len x = rnI pSm gq len (u1.2.1 1)) → va_P D vwCl [zO ta 8 [vR tb, vI fed, vI len, vI (u1.2.1 1), vI x, vI fa, vI fp], zI tb (cy 1) 600 bf] H → va_D A [zO ta 8 [vR tb, vI fed, vI len, vI (u1.2.1 1), vI x, vI fa, vI fp], zI tb (cy 1) 600 bf] → va_S A s.heap H locs → lv_has ls 1 [(0, vR ta)] → W p l e _ s m _ below meth c H locs _ _ _ (F0 m 20 ls [])) (((600 - (u1.2.1 1)) + 1 : Int)).toNat (u1.2.1 1) _ _ _ (by omega) (by first | exact hq1_2 | omega) rfl  hP hD hS hlv
    clear hP hD hS hlv
    intro fu
    induction fu with
    | zero => intro x H locs ls hm20 hl20_0 hl20_1  hP hD hS hlv; omega
    | succ fu ih20 =>
      intro x H locs ls hm20 hl20_0 hl20_1  hP hD hS hlv
      refine lv_aload_n hx hb dX8_word_20 rfl (lv_at hlv 0 rfl) ?_
      refine va_get (D := D) (ci := 8) (v := vI x) (C := RX8) (T := TX8) (N := 7) hx hb hts hi8 hown hG.1 hP 0 rfl rfl 4 (by decide) lf28 (fun _ h9 => h9) rfl dX8_word_21 ?_
      refine lv_aload_n hx hb dX8_word_24 rfl (lv_at hlv 0 rfl) ?_
      refine va_get (D := D) (ci := 8) (v := vI len) (C := RX8) (T := TX8) (N := 7) hx hb hts hi8 hown hG.1 hP 0 rfl rfl 2 (by decide) lf22 (fun _ h9 => h9) rfl dX8_word_25 ?_
      refine ir_ge (tgt := 72) hx hb dX8_word_28 (by decide) (by first | exact rgw hl20_0 (by decide) (by decide) | omega) (by first | exact rgw hr_len (by decide) (by decide) | omega) (fun c_2 => ?_) (fun c_2 => ?_)
      · refine lv_aload_n hx hb dX8_word_72 rfl (lv_at hlv 0 rfl) ?_
        refine va_get (D := D) (ci := 8) (v := vR tb) (C := RX8) (T := TX8) (N := 7) hx hb hts hi8 hown hG.1 hP 0 rfl rfl 0 (by decide) lf11 (fun _ h9 => h9) rfl dX8_word_73 ?_
        refine lv_aload_n hx hb dX8_word_76 rfl (lv_at hlv 0 rfl) ?_
        refine va_get (D := D) (ci := 8) (v := vI (u1.2.1 1)) (C := RX8) (T := TX8) (N := 7) hx hb hts hi8 hown hG.1 hP 0 rfl rfl 3 (by decide) lf25 (fun _ h9 => h9) rfl dX8_word_77 ?_
        refine lv_aload_n hx hb dX8_word_80 rfl (lv_at hlv 0 rfl) ?_
        refine va_get (D := D) (ci := 8) (v := vI x) (C := RX8) (T := TX8) (N := 7) hx hb hts hi8 hown hG.1 hP 0 rfl rfl 4 (by decide) lf28 (fun _ h9 => h9) rfl dX8_word_81 ?_
        refine cjr_r (ra := fun u : SV => wd sa (u.2.1 0)) [true, false] (fun pre9 => (va_runSN (host := "KerbSplash") (As := [vR tb, vI (u1.2.1 1), vI x]) (rest := []) ⟨hx, hb, hml, hown, hts⟩ (e_wordOf l hl D cy sa tb bf (u1.2.1 1) x H.size (by first | exact hq1_2 | omega) (by first | exact hl20_0 | omega)) ⟨va_cnB 3 hts gg_2 rfl rfl rfl (nM_Tape_48 hG.2.1) ini_RX10 (by decide +kernel) ⟨Nat.le_of_ble_eq_true rfl, Nat.le_of_ble_eq_true rfl⟩, st_X10_of, trivial⟩ ⟨pcW.blind, pre9⟩ rfl rfl hlv.1 rfl (lv_room (Nat.le_of_ble_eq_true rfl)) dX8_word_84 ⟨Nat.le_of_ble_eq_true rfl, Nat.le_of_ble_eq_true rfl⟩)) hP hD hS hA hG hT [1] rfl (by decide +kernel) (fun u2 H locs hw2 hq9 hS => ?_)
        obtain ⟨hq2_0, hq2_1⟩ := hw2
        obtain ⟨hP, hD⟩ := pd9 [zO ta 8 [vR tb, vI fed, vI len, vI (u1.2.1 1), vI x, vI fa, vI fp], zI tb (cy 1) 600 bf] hq9
        refine W.widen (k := 0) (n := 0) (Nat.le_of_ble_eq_true rfl) (Nat.le_of_ble_eq_true rfl) ?_
        exact W.aret (v := .ref (wd sa (u2.2.1 0))) hx hb hr (Or.inl ⟨_, rfl⟩) (Or.inr ⟨_, rfl⟩) (fun t ht hW => ⟨⟨((fun k => ([] : List Nat).getD k 0), (fun k => ([(u2.2.1 0), (u1.2.1 1), x] : List Int).getD k 0), (fun k => ([] : List (Nat → Int32)).getD k (fun _ => 0))), _, rfl, ⟨(by show (0 ≤ (u2.2.1 0) ∧ (u2.2.1 0) ≤ 27); first | exact hq2_0 | omega), (by show (0 ≤ (u1.2.1 1) ∧ (u1.2.1 1) ≤ 600); first | exact hq1_2 | omega), (by show (0 ≤ x ∧ x ≤ 600); first | exact hl20_0 | omega), (by show (at_ ≤ (u1.2.1 1)); omega), (by show (WoP gq len at_ fa ((u2.2.1 0)) ((u1.2.1 1)) (x)); exact (WoP_2 hn_br (by omega) hq1_6 (by omega) (by omega) hl20_1 (by omega) (fun q => by have q1 := q.1; have q2 := q.2; have q3 := TPg.at hn_br (x := x) (by omega); omega) (by omega) hq2_1))⟩, rfl, at9 ht hP hD [0, 1] (by decide +kernel) rfl⟩, hS.F ht⟩) hS.2.2 dX8_word_87
      · refine lv_aload_n hx hb dX8_word_31 rfl (lv_at hlv 0 rfl) ?_
        refine va_get (D := D) (ci := 8) (v := vR tb) (C := RX8) (T := TX8) (N := 7) hx hb hts hi8 hown hG.1 hP 0 rfl rfl 0 (by decide) lf11 (fun _ h9 => h9) rfl dX8_word_32 ?_
        refine lv_aload_n hx hb dX8_word_35 rfl (lv_at hlv 0 rfl) ?_
        refine va_get (D := D) (ci := 8) (v := vI x) (C := RX8) (T := TX8) (N := 7) hx hb hts hi8 hown hG.1 hP 0 rfl rfl 4 (by decide) lf28 (fun _ h9 => h9) rfl dX8_word_36 ?_
        refine va_bald hx hb hG.1 hP 1 1 rfl rfl (iI_in (by omega) (by decide)) dX8_word_39 ?_
        refine lt_nz (i := x) (by omega) (fun z_3 hz_3 lz_3 uz_3 => ?_)
        refine lv_bipush (v := iI 97) hx hb dX8_word_40 (by decide) ?_
        refine ir_lt (tgt := 72) hx hb dX8_word_42 (by decide) (by omega) (by show ((-2147483648) : Int) ≤ 97 ∧ (97 : Int) ≤ 2147483647; decide) (fun c_4 => ?_) (fun c_4 => ?_)
        · refine lv_aload_n hx hb dX8_word_72 rfl (lv_at hlv 0 rfl) ?_
          refine va_get (D := D) (ci := 8) (v := vR tb) (C := RX8) (T := TX8) (N := 7) hx hb hts hi8 hown hG.1 hP 0 rfl rfl 0 (by decide) lf11 (fun _ h9 => h9) rfl dX8_word_73 ?_
          refine lv_aload_n hx hb dX8_word_76 rfl (lv_at hlv 0 rfl) ?_
          refine va_get (D := D) (ci := 8) (v := vI (u1.2.1 1)) (C := RX8) (T := TX8) (N := 7) hx hb hts hi8 hown hG.1 hP 0 rfl rfl 3 (by decide) lf25 (fun _ h9 => h9) rfl dX8_word_77 ?_
          refine lv_aload_n hx hb dX8_word_80 rfl (lv_at hlv 0 rfl) ?_
          refine va_get (D := D) (ci := 8) (v := vI x) (C := RX8) (T := TX8) (N := 7) hx hb hts hi8 hown hG.1 hP 0 rfl rfl 4 (by decide) lf28 (fun _ h9 => h9) rfl dX8_word_81 ?_
          refine cjr_r (ra := fun u : SV => wd sa (u.2.1 0)) [true, false] (fun pre9 => (va_runSN (host := "KerbSplash") (As := [vR tb, vI (u1.2.1 1), vI x]) (rest := []) ⟨hx, hb, hml, hown, hts⟩ (e_wordOf l hl D cy sa tb bf (u1.2.1 1) x H.size (by first | exact hq1_2 | omega) (by first | exact hl20_0 | omega)) ⟨va_cnB 3 hts gg_2 rfl rfl rfl (nM_Tape_48 hG.2.1) ini_RX10 (by decide +kernel) ⟨Nat.le_of_ble_eq_true rfl, Nat.le_of_ble_eq_true rfl⟩, st_X10_of, trivial⟩ ⟨pcW.blind, pre9⟩ rfl rfl hlv.1 rfl (lv_room (Nat.le_of_ble_eq_true rfl)) dX8_word_84 ⟨Nat.le_of_ble_eq_true rfl, Nat.le_of_ble_eq_true rfl⟩)) hP hD hS hA hG hT [1] rfl (by decide +kernel) (fun u3 H locs hw3 hq9 hS => ?_)
          obtain ⟨hq3_0, hq3_1⟩ := hw3
          obtain ⟨hP, hD⟩ := pd9 [zO ta 8 [vR tb, vI fed, vI len, vI (u1.2.1 1), vI x, vI fa, vI fp], zI tb (cy 1) 600 bf] hq9
          refine W.widen (k := 0) (n := 0) (Nat.le_of_ble_eq_true rfl) (Nat.le_of_ble_eq_true rfl) ?_
          exact W.aret (v := .ref (wd sa (u3.2.1 0))) hx hb hr (Or.inl ⟨_, rfl⟩) (Or.inr ⟨_, rfl⟩) (fun t ht hW => ⟨⟨((fun k => ([] : List Nat).getD k 0), (fun k => ([(u3.2.1 0), (u1.2.1 1), x] : List Int).getD k 0), (fun k => ([] : List (Nat → Int32)).getD k (fun _ => 0))), _, rfl, ⟨(by show (0 ≤ (u3.2.1 0) ∧ (u3.2.1 0) ≤ 27); first | exact hq3_0 | omega), (by show (0 ≤ (u1.2.1 1) ∧ (u1.2.1 1) ≤ 600); first | exact hq1_2 | omega), (by show (0 ≤ x ∧ x ≤ 600); first | exact hl20_0 | omega), (by show (at_ ≤ (u1.2.1 1)); omega), (by show (WoP gq len at_ fa ((u3.2.1 0)) ((u1.2.1 1)) (x)); exact (WoP_2 hn_br (by omega) hq1_6 (by omega) (by omega) hl20_1 (by omega) (fun q => by have q1 := q.1; have q2 := q.2; have q3 := TPg.at hn_br (x := x) (by omega); omega) (by omega) hq3_1))⟩, rfl, at9 ht hP hD [0, 1] (by decide +kernel) rfl⟩, hS.F ht⟩) hS.2.2 dX8_word_87
        · refine lv_aload_n hx hb dX8_word_45 rfl (lv_at hlv 0 rfl) ?_
          refine va_get (D := D) (ci := 8) (v := vR tb) (C := RX8) (T := TX8) (N := 7) hx hb hts hi8 hown hG.1 hP 0 rfl rfl 0 (by decide) lf11 (fun _ h9 => h9) rfl dX8_word_46 ?_
          refine lv_aload_n hx hb dX8_word_49 rfl (lv_at hlv 0 rfl) ?_
          refine va_get (D := D) (ci := 8) (v := vI x) (C := RX8) (T := TX8) (N := 7) hx hb hts hi8 hown hG.1 hP 0 rfl rfl 4 (by decide) lf28 (fun _ h9 => h9) rfl dX8_word_50 ?_
          refine va_bald hx hb hG.1 hP 1 1 rfl rfl (iI_in (by omega) (by decide)) dX8_word_53 ?_
          refine lt_i (y := iI z_3) (nz_rd hz_3 (by omega)) ?_
          refine lv_bipush (v := iI 122) hx hb dX8_word_54 (by decide) ?_
          refine ir_gt (tgt := 72) hx hb dX8_word_56 (by decide) (by omega) (by show ((-2147483648) : Int) ≤ 122 ∧ (122 : Int) ≤ 2147483647; decide) (fun c_5 => ?_) (fun c_5 => ?_)
          · refine lv_aload_n hx hb dX8_word_72 rfl (lv_at hlv 0 rfl) ?_
            refine va_get (D := D) (ci := 8) (v := vR tb) (C := RX8) (T := TX8) (N := 7) hx hb hts hi8 hown hG.1 hP 0 rfl rfl 0 (by decide) lf11 (fun _ h9 => h9) rfl dX8_word_73 ?_
            refine lv_aload_n hx hb dX8_word_76 rfl (lv_at hlv 0 rfl) ?_
            refine va_get (D := D) (ci := 8) (v := vI (u1.2.1 1)) (C := RX8) (T := TX8) (N := 7) hx hb hts hi8 hown hG.1 hP 0 rfl rfl 3 (by decide) lf25 (fun _ h9 => h9) rfl dX8_word_77 ?_
            refine lv_aload_n hx hb dX8_word_80 rfl (lv_at hlv 0 rfl) ?_
            refine va_get (D := D) (ci := 8) (v := vI x) (C := RX8) (T := TX8) (N := 7) hx hb hts hi8 hown hG.1 hP 0 rfl rfl 4 (by decide) lf28 (fun _ h9 => h9) rfl dX8_word_81 ?_
            refine cjr_r (ra := fun u : SV => wd sa (u.2.1 0)) [true, false] (fun pre9 => (va_runSN (host := "KerbSplash") (As := [vR tb, vI (u1.2.1 1), vI x]) (rest := []) ⟨hx, hb, hml, hown, hts⟩ (e_wordOf l hl D cy sa tb bf (u1.2.1 1) x H.size (by first | exact hq1_2 | omega) (by first | exact hl20_0 | omega)) ⟨va_cnB 3 hts gg_2 rfl rfl rfl (nM_Tape_48 hG.2.1) ini_RX10 (by decide +kernel) ⟨Nat.le_of_ble_eq_true rfl, Nat.le_of_ble_eq_true rfl⟩, st_X10_of, trivial⟩ ⟨pcW.blind, pre9⟩ rfl rfl hlv.1 rfl (lv_room (Nat.le_of_ble_eq_true rfl)) dX8_word_84 ⟨Nat.le_of_ble_eq_true rfl, Nat.le_of_ble_eq_true rfl⟩)) hP hD hS hA hG hT [1] rfl (by decide +kernel) (fun u4 H locs hw4 hq9 hS => ?_)
            obtain ⟨hq4_0, hq4_1⟩ := hw4
            obtain ⟨hP, hD⟩ := pd9 [zO ta 8 [vR tb, vI fed, vI len, vI (u1.2.1 1), vI x, vI fa, vI fp], zI tb (cy 1) 600 bf] hq9
            refine W.widen (k := 0) (n := 0) (Nat.le_of_ble_eq_true rfl) (Nat.le_of_ble_eq_true rfl) ?_
            exact W.aret (v := .ref (wd sa (u4.2.1 0))) hx hb hr (Or.inl ⟨_, rfl⟩) (Or.inr ⟨_, rfl⟩) (fun t ht hW => ⟨⟨((fun k => ([] : List Nat).getD k 0), (fun k => ([(u4.2.1 0), (u1.2.1 1), x] : List Int).getD k 0), (fun k => ([] : List (Nat → Int32)).getD k (fun _ => 0))), _, rfl, ⟨(by show (0 ≤ (u4.2.1 0) ∧ (u4.2.1 0) ≤ 27); first | exact hq4_0 | omega), (by show (0 ≤ (u1.2.1 1) ∧ (u1.2.1 1) ≤ 600); first | exact hq1_2 | omega), (by show (0 ≤ x ∧ x ≤ 600); first | exact hl20_0 | omega), (by show (at_ ≤ (u1.2.1 1)); omega), (by show (WoP gq len at_ fa ((u4.2.1 0)) ((u1.2.1 1)) (x)); exact (WoP_2 hn_br (by omega) hq1_6 (by omega) (by omega) hl20_1 (by omega) (fun q => by have q1 := q.1; have q2 := q.2; have q3 := TPg.at hn_br (x := x) (by omega); omega) (by omega) hq4_1))⟩, rfl, at9 ht hP hD [0, 1] (by decide +kernel) rfl⟩, hS.F ht⟩) hS.2.2 dX8_word_87
          · refine lv_aload_n hx hb dX8_word_59 rfl (lv_at hlv 0 rfl) ?_
            refine lv_dup hx hb dX8_word_60 rfl ?_
            refine va_get (D := D) (ci := 8) (v := vI x) (C := RX8) (T := TX8) (N := 7) hx hb hts hi8 hown hG.1 hP 0 rfl rfl 4 (by decide) lf28 (fun _ h9 => h9) rfl dX8_word_61 ?_
            refine lv_iconst (v := iI 1) hx hb dX8_word_64 (by decide) ?_
            refine lv_iadd hx hb dX8_word_65 ?_
            refine lt_e (e0 := x + 1) (Int32.ofInt_add _ _).symm (fun z_6 hz_6 => ?_)
            refine va_put (D := D) (ci := 8) (v := vI z_6) (ty := .int) (C := RX8) (T := TX8) (N := 7) hx hb hts hi8 tyX8 tyX8_ok nmX8 hown hG.1 hP hD hS 0 rfl rfl 4 (by decide) lf28 (fun _ h9 => h9) rfl (by decide +kernel) rfl rfl (Nat.le_of_ble_eq_true rfl) dX8_word_66 (fun H locs hP hD hS => ?_)
            obtain ⟨hP, hD⟩ := pw9 [zO ta 8 [vR tb, vI fed, vI len, vI (u1.2.1 1), vI z_6, vI fa, vI fp], zI tb (cy 1) 600 bf] hP hD
            refine lv_goto (tgt := 20) hx hb dX8_word_69 (by decide) ?_
            exact ih20 z_6 H locs ls (by omega) (by omega) ((rnI_go (a := x) (by omega) (by omega) (pSm_t (by have q3 := TPg.at hn_br (x := x) (by omega); omega)) (by omega)).trans hl20_1)  (hP.sub [0, 1] rfl) (hD.sub [0, 1] (by decide) rfl) hS (lv_sub hlv [0] rfl)
  · refine va_gets (C := "KerbSplash$Word") (n := "NO") (d := "LKerbSplash$Word;") (ref := "KerbSplash$Word") (v := .ref (wd sa 0)) hx hb (hT.2.2.1 0 (by decide)).1.1 hS hown lf42 (fun _ h9 => h9) dX8_word_8 ?_
    refine W.widen (k := 0) (n := 0) (Nat.le_of_ble_eq_true rfl) (Nat.le_of_ble_eq_true rfl) ?_
    exact W.aret (v := .ref (wd sa 0)) hx hb hr (Or.inl ⟨_, rfl⟩) (Or.inr ⟨_, rfl⟩) (fun t ht hW => ⟨⟨((fun k => ([] : List Nat).getD k 0), (fun k => ([0, (u1.2.1 1), we] : List Int).getD k 0), (fun k => ([] : List (Nat → Int32)).getD k (fun _ => 0))), _, rfl, ⟨(by show (0 ≤ 0 ∧ 0 ≤ 27); show (0 : Int) ≤ 0 ∧ (0 : Int) ≤ 27; decide), (by show (0 ≤ (u1.2.1 1) ∧ (u1.2.1 1) ≤ 600); first | exact hq1_2 | omega), (by show (0 ≤ we ∧ we ≤ 600); first | exact hr_we | omega), (by show (at_ ≤ (u1.2.1 1)); omega), (by show (WoP gq len at_ fa (0) ((u1.2.1 1)) (we)); exact (WoP_1 (TPg.nn hn_br (by omega)) hq1_6 (by omega) (by omega)))⟩, rfl, at9 ht hP hD [0, 1] (by decide +kernel) rfl⟩, hS.F ht⟩) hS.2.2 dX8_word_11
def vs_e_takeWord : List Cond := .code yX8_takeWord cX8_takeWord 2 (some .boolean) :: (([.fieldLink RX8 28 "KerbSplash$Tape" "wordEnd" "I", .fieldLink RX8 25 "KerbSplash$Tape" "at" "I"] : List Cond) ++ ((wsV RX8 52 RX8 yX8_word vs_e_word) ++ ((wsX80) ++ ([]))))
theorem gd_e_takeWord : vs_e_takeWord.all goodWord = true := gd_C (by decide +kernel) (gd_A (by decide +kernel) (gd_A (gd_V gd_e_word (by decide +kernel)) (gd_A (by decide +kernel) rfl)))
set_option maxHeartbeats 4000000 in
set_option maxRecDepth 100000 in
theorem e_takeWord (l : Launch) (hl : l.stackTraces = false) (D : va_G) (cy : Nat → ClassId) (sa : Nat → Nat) (ta tb : Nat) (fed len at_ we fa fp : Int) (bf : Nat → Int32) (gq : Nat → Int) (k : Int) (sz : Nat) (hr_fed : 0 ≤ fed ∧ fed ≤ 600) (hr_len : 0 ≤ len ∧ len ≤ 600) (hr_at_ : 0 ≤ at_ ∧ at_ ≤ 600) (hr_we : 0 ≤ we ∧ we ≤ 600) (hr_fa : 0 ≤ fa ∧ fa ≤ 4) (hr_fp : (-1) ≤ fp ∧ fp ≤ 600) (hr_k : 0 ≤ k ∧ k ≤ 27) (hn_br : TPg bf gq) : mI9 l yX8_takeWord vs_e_takeWord ({ frames := 6, cells := 0, slots := 0, locals := 130 }) D cy sa sz [vR ta, .ref (wd sa k)] [zO ta 8 [vR tb, vI fed, vI len, vI at_, vI we, vI fa, vI fp], zI tb (cy 1) 600 bf] (fun (r : Int32) (u : SV) => r = iI (u.2.1 0) ∧ (0 ≤ u.2.1 0 ∧ u.2.1 0 ≤ 1) ∧ (0 ≤ u.2.1 1 ∧ u.2.1 1 ≤ 600) ∧ (0 ≤ u.2.1 2 ∧ u.2.1 2 ≤ 600) ∧ (fa = 0 → k = wk gq len (rnI pSp gq len at_) → rnI pSp gq len at_ < len → u.2.1 1 = rnI pSm gq len (rnI pSp gq len at_))) (fun u : SV => [zO ta 8 [vR tb, vI fed, vI len, vI (u.2.1 1), vI (u.2.1 2), vI fa, vI fp], zI tb (cy 1) 600 bf]) 0 0 := by
  refine Met.ofW (cc := cX8_takeWord) (maxL := 2) (ret := (some .boolean)) (by decide) rfl ?_
  intro p e s m args below meth c s₁ B hml hv
  obtain ⟨rfl, hsz, hP, hG, hD0, hT⟩ := hv
  have hx := B.exec
  have hb := B.bytes
  have hr := B.returns
  have hts := atoms_spec (ws := vs_e_takeWord) B.pre
  have hown : s.vm.findClass RX8 = some m.cls := findClass_of_methodNamed B.named
  have hlocks := B.notSynchronized
  subst hsz
  have hD := hD0.self (sz := s.heap.size)
  generalize hAe : va_A [zO ta 8 [vR tb, vI fed, vI len, vI at_, vI we, vI fa, vI fp], zI tb (cy 1) 600 bf] s.heap.size = A at hD hT ⊢
  have hA : ∀ q : Nat, s.heap.size ≤ q → A q := fun q h => by rw [← hAe]; exact Or.inr h
  have hS : va_S A s.heap s.heap [] := va_S.rf
  have hl0 := lv_entry ([vR ta, .ref (wd sa k)]) (n := 2) (Nat.le_of_ble_eq_true rfl)
  rw [lg_entry_eq]
  generalize (lg_sl ([vR ta, .ref (wd sa k)]) ++ List.replicate (2 - (lg_sl ([vR ta, .ref (wd sa k)])).length) Slot.unset).toArray = ls at hl0 ⊢
  have hlv : lv_has ls 2 [(0, vR ta), (1, .ref (wd sa k))] := hl0
  have gg_0 : GoodIn vs_e_takeWord (wsV RX8 52 RX8 yX8_word vs_e_word) := goodIn_sub (fun w h => List.mem_cons_of_mem _ (List.mem_append_right _ (List.mem_append_left _ h))) (gd_V gd_e_word (by decide +kernel))
  have lf28 := hts (.fieldLink RX8 28 "KerbSplash$Tape" "wordEnd" "I") (List.mem_of_getElem? (i := 1) rfl)
  have hi8 : ∀ w ∈ wsX80, w ∈ vs_e_takeWord := fun w h => List.mem_cons_of_mem _ (List.mem_append_right _ (List.mem_append_right _ (List.mem_append_left _ h)))
  have lf25 := hts (.fieldLink RX8 25 "KerbSplash$Tape" "at" "I") (List.mem_of_getElem? (i := 2) rfl)
  refine lv_aload_n hx hb dX8_takeWord_0 rfl (lv_at hlv 0 rfl) ?_
  refine cjr_r (ra := fun u : SV => wd sa (u.2.1 0)) [false, false] (fun pre9 => (va_runV (As := []) (rest := []) ⟨hx, hb, hml, hown, hts⟩ (e_word l hl D cy sa ta tb fed len at_ we fa fp bf gq s.heap.size (by first | exact hr_fed | omega) (by first | exact hr_len | omega) (by first | exact hr_at_ | omega) (by first | exact hr_we | omega) (by first | exact hr_fa | omega) (by first | exact hr_fp | omega) hn_br) (cwV 0 hts gg_0 rfl rfl rfl (by decide +kernel) ⟨Nat.le_of_ble_eq_true rfl, Nat.le_of_ble_eq_true rfl⟩) ⟨pcW.blind, (va_recv hG.1 hP (ci := 8) (q0 := 0) rfl rfl), pre9⟩ rfl rfl hlv.1 rfl (lv_room (Nat.le_of_ble_eq_true rfl)) dX8_takeWord_1 ⟨Nat.le_of_ble_eq_true rfl, Nat.le_of_ble_eq_true rfl⟩)) hP hD hS hA hG hT [0, 1] rfl (by decide +kernel) (fun u1 H locs hw1 hq9 hS => ?_)
  obtain ⟨hq1_0, hq1_1, hq1_2, hq1_3, hq1_4⟩ := hw1
  obtain ⟨hP, hD⟩ := pd9 [zO ta 8 [vR tb, vI fed, vI len, vI (u1.2.1 1), vI (u1.2.1 2), vI fa, vI fp], zI tb (cy 1) 600 bf] hq9
  refine lv_aload_n hx hb dX8_takeWord_4 rfl (lv_at hlv 1 rfl) ?_
  refine aw_eq (tgt := 10) hx hb hT.2.2 dX8_takeWord_5 (by decide) (by omega) (by omega) (fun c_1 => ?_) (fun c_1 => ?_)
  · refine lv_aload_n hx hb dX8_takeWord_10 rfl (lv_at hlv 0 rfl) ?_
    refine lv_aload_n hx hb dX8_takeWord_11 rfl (lv_at hlv 0 rfl) ?_
    refine va_get (D := D) (ci := 8) (v := vI (u1.2.1 2)) (C := RX8) (T := TX8) (N := 7) hx hb hts hi8 hown hG.1 hP 0 rfl rfl 4 (by decide) lf28 (fun _ h9 => h9) rfl dX8_takeWord_12 ?_
    refine va_put (D := D) (ci := 8) (v := vI (u1.2.1 2)) (ty := .int) (C := RX8) (T := TX8) (N := 7) hx hb hts hi8 tyX8 tyX8_ok nmX8 hown hG.1 hP hD hS 0 rfl rfl 3 (by decide) lf25 (fun _ h9 => h9) rfl (by decide +kernel) rfl rfl (Nat.le_of_ble_eq_true rfl) dX8_takeWord_15 (fun H locs hP hD hS => ?_)
    obtain ⟨hP, hD⟩ := pw9 [zO ta 8 [vR tb, vI fed, vI len, vI (u1.2.1 2), vI (u1.2.1 2), vI fa, vI fp], zI tb (cy 1) 600 bf] hP hD
    refine lv_iconst (v := iI 1) hx hb dX8_takeWord_18 (by decide) ?_
    refine W.widen (k := 0) (n := 0) (Nat.le_of_ble_eq_true rfl) (Nat.le_of_ble_eq_true rfl) ?_
    exact W.zret (v := iI 1) hx hb hr (by first | rfl | decide) (fun t ht hW => ⟨⟨iI 1, ((fun k => ([] : List Nat).getD k 0), (fun k => ([1, (u1.2.1 2), (u1.2.1 2)] : List Int).getD k 0), (fun k => ([] : List (Nat → Int32)).getD k (fun _ => 0))), rfl, ⟨rfl, (by show (0 ≤ 1 ∧ 1 ≤ 1); show (0 : Int) ≤ 1 ∧ (1 : Int) ≤ 1; decide), (by show (0 ≤ (u1.2.1 2) ∧ (u1.2.1 2) ≤ 600); first | exact hq1_2 | omega), (by show (0 ≤ (u1.2.1 2) ∧ (u1.2.1 2) ≤ 600); first | exact hq1_2 | omega), (by show (fa = 0 → k = wk gq len (rnI pSp gq len at_) → rnI pSp gq len at_ < len → (u1.2.1 2) = rnI pSm gq len (rnI pSp gq len at_)); exact (fun h9 h8 h7 => by have q1 := WoP_e hq1_4 h9; first | (exfalso; omega) | exact q1.2.2 h7))⟩, at9 ht hP hD [0, 1] (by decide +kernel) rfl⟩, hS.F ht⟩) hS.2.2 dX8_takeWord_19
  · refine lv_iconst (v := iI 0) hx hb dX8_takeWord_8 (by decide) ?_
    refine W.widen (k := 0) (n := 0) (Nat.le_of_ble_eq_true rfl) (Nat.le_of_ble_eq_true rfl) ?_
    exact W.zret (v := iI 0) hx hb hr (by first | rfl | decide) (fun t ht hW => ⟨⟨iI 0, ((fun k => ([] : List Nat).getD k 0), (fun k => ([0, (u1.2.1 1), (u1.2.1 2)] : List Int).getD k 0), (fun k => ([] : List (Nat → Int32)).getD k (fun _ => 0))), rfl, ⟨rfl, (by show (0 ≤ 0 ∧ 0 ≤ 1); show (0 : Int) ≤ 0 ∧ (0 : Int) ≤ 1; decide), (by show (0 ≤ (u1.2.1 1) ∧ (u1.2.1 1) ≤ 600); first | exact hq1_1 | omega), (by show (0 ≤ (u1.2.1 2) ∧ (u1.2.1 2) ≤ 600); first | exact hq1_2 | omega), (by show (fa = 0 → k = wk gq len (rnI pSp gq len at_) → rnI pSp gq len at_ < len → (u1.2.1 1) = rnI pSm gq len (rnI pSp gq len at_)); exact (fun h9 h8 h7 => by have q1 := WoP_e hq1_4 h9; first | (exfalso; omega) | exact q1.2.2 h7))⟩, at9 ht hP hD [0, 1] (by decide +kernel) rfl⟩, hS.F ht⟩) hS.2.2 dX8_takeWord_9
def vs_e_begins : List Cond := .code yX10_beginsClause cX10_beginsClause 1 (some .boolean) :: (([.fieldLink RX10 113 "KerbSplash$Word" "work" "I", .fieldLink RX10 9 "KerbSplash$Word" "SIZE" "LKerbSplash$Word;", .fieldLink RX10 12 "KerbSplash$Word" "HIGH" "LKerbSplash$Word;", .fieldLink RX10 15 "KerbSplash$Word" "DRAIN" "LKerbSplash$Word;", .fieldLink RX10 18 "KerbSplash$Word" "PERSON" "LKerbSplash$Word;", .fieldLink RX10 21 "KerbSplash$Word" "SHELTER" "LKerbSplash$Word;"] : List Cond) ++ ([]))
theorem gd_e_begins : vs_e_begins.all goodWord = true := gd_C (by decide +kernel) (gd_A (by decide +kernel) rfl)
set_option maxHeartbeats 4000000 in
set_option maxRecDepth 100000 in
theorem e_begins (l : Launch) (hl : l.stackTraces = false) (D : va_G) (cy : Nat → ClassId) (sa : Nat → Nat) (k : Int) (sz : Nat) (hr_k : 0 ≤ k ∧ k ≤ 27) : mI9 l yX10_beginsClause vs_e_begins ({ frames := 0, cells := 0, slots := 0, locals := 0 }) D cy sa sz [.ref (wd sa k)] [] (fun (r : Int32) (u : SV) => r = iI (u.2.1 0) ∧ (0 ≤ u.2.1 0 ∧ u.2.1 0 ≤ 1) ∧ (u.2.1 0 = 1 → 1 ≤ k ∧ k ≤ 9) ∧ (u.2.1 0 = 0 → ¬ (1 ≤ k ∧ k ≤ 9))) (fun u : SV => []) 0 0 := by
  refine Met.ofW (cc := cX10_beginsClause) (maxL := 1) (ret := (some .boolean)) (by decide) rfl ?_
  intro p e s m args below meth c s₁ B hml hv
  obtain ⟨rfl, hsz, hP, hG, hD0, hT⟩ := hv
  have hx := B.exec
  have hb := B.bytes
  have hr := B.returns
  have hts := atoms_spec (ws := vs_e_begins) B.pre
  have hown : s.vm.findClass RX10 = some m.cls := findClass_of_methodNamed B.named
  have hlocks := B.notSynchronized
  subst hsz
  have hD := hD0.self (sz := s.heap.size)
  generalize hAe : va_A [] s.heap.size = A at hD hT ⊢
  have hA : ∀ q : Nat, s.heap.size ≤ q → A q := fun q h => by rw [← hAe]; exact Or.inr h
  have hS : va_S A s.heap s.heap [] := va_S.rf
  have hl0 := lv_entry ([.ref (wd sa k)]) (n := 1) (Nat.le_of_ble_eq_true rfl)
  rw [lg_entry_eq]
  generalize (lg_sl ([.ref (wd sa k)]) ++ List.replicate (1 - (lg_sl ([.ref (wd sa k)])).length) Slot.unset).toArray = ls at hl0 ⊢
  have hlv : lv_has ls 1 [(0, .ref (wd sa k))] := hl0
  have lf113 := hts (.fieldLink RX10 113 "KerbSplash$Word" "work" "I") (List.mem_of_getElem? (i := 1) rfl)
  have lf9 := hts (.fieldLink RX10 9 "KerbSplash$Word" "SIZE" "LKerbSplash$Word;") (List.mem_of_getElem? (i := 2) rfl)
  have lf12 := hts (.fieldLink RX10 12 "KerbSplash$Word" "HIGH" "LKerbSplash$Word;") (List.mem_of_getElem? (i := 3) rfl)
  have lf15 := hts (.fieldLink RX10 15 "KerbSplash$Word" "DRAIN" "LKerbSplash$Word;") (List.mem_of_getElem? (i := 4) rfl)
  have lf18 := hts (.fieldLink RX10 18 "KerbSplash$Word" "PERSON" "LKerbSplash$Word;") (List.mem_of_getElem? (i := 5) rfl)
  have lf21 := hts (.fieldLink RX10 21 "KerbSplash$Word" "SHELTER" "LKerbSplash$Word;") (List.mem_of_getElem? (i := 6) rfl)
  refine lv_aload_n hx hb dX10_beginsClause_0 rfl (lv_at hlv 0 rfl) ?_
  refine vk_getf (o := "KerbSplash$Word") (n := "work") (d := "I") (ref := "KerbSplash$Word") (v := .int (iI (fW k))) hx hb (hT.2.2.1 (k : Int).toNat (by omega)).1.2.2.1 hS hown lf113 (fun _ h9 => h9) dX10_beginsClause_1 ?_
  have hbfW_ := fW_b (k := k) (by omega)
  refine lt_e (e0 := fW k) rfl (fun z_1 hz_1 => ?_)
  refine lv_iconst (v := iI (-1)) hx hb dX10_beginsClause_4 (by decide) ?_
  refine ir_ne (tgt := 43) hx hb dX10_beginsClause_5 (by decide) (by omega) (by show ((-2147483648) : Int) ≤ (-1) ∧ ((-1) : Int) ≤ 2147483647; decide) (fun c_2 => ?_) (fun c_2 => ?_)
  · refine lv_iconst (v := iI 1) hx hb dX10_beginsClause_43 (by decide) ?_
    refine lv_goto (tgt := 48) hx hb dX10_beginsClause_44 (by decide) ?_
    refine W.widen (k := 0) (n := 0) (Nat.le_of_ble_eq_true rfl) (Nat.le_of_ble_eq_true rfl) ?_
    exact W.zret (v := iI 1) hx hb hr (by first | rfl | decide) (fun t ht hW => ⟨⟨iI 1, ((fun k => ([] : List Nat).getD k 0), (fun k => ([1] : List Int).getD k 0), (fun k => ([] : List (Nat → Int32)).getD k (fun _ => 0))), rfl, ⟨rfl, (by show (0 ≤ 1 ∧ 1 ≤ 1); show (0 : Int) ≤ 1 ∧ (1 : Int) ≤ 1; decide), (by show (1 = 1 → 1 ≤ k ∧ k ≤ 9); omega), (by show (1 = 0 → ¬ (1 ≤ k ∧ k ≤ 9)); omega)⟩, at9 ht hP hD [] (by decide +kernel) rfl⟩, hS.F ht⟩) hS.2.2 dX10_beginsClause_48
  · refine lv_aload_n hx hb dX10_beginsClause_8 rfl (lv_at hlv 0 rfl) ?_
    refine va_gets (C := "KerbSplash$Word") (n := "SIZE") (d := "LKerbSplash$Word;") (ref := "KerbSplash$Word") (v := .ref (wd sa 1)) hx hb (hT.2.2.1 1 (by decide)).1.1 hS hown lf9 (fun _ h9 => h9) dX10_beginsClause_9 ?_
    refine aw_eq (tgt := 43) hx hb hT.2.2 dX10_beginsClause_12 (by decide) (by omega) (by omega) (fun c_3 => ?_) (fun c_3 => ?_)
    · refine lv_iconst (v := iI 1) hx hb dX10_beginsClause_43 (by decide) ?_
      refine lv_goto (tgt := 48) hx hb dX10_beginsClause_44 (by decide) ?_
      refine W.widen (k := 0) (n := 0) (Nat.le_of_ble_eq_true rfl) (Nat.le_of_ble_eq_true rfl) ?_
      exact W.zret (v := iI 1) hx hb hr (by first | rfl | decide) (fun t ht hW => ⟨⟨iI 1, ((fun k => ([] : List Nat).getD k 0), (fun k => ([1] : List Int).getD k 0), (fun k => ([] : List (Nat → Int32)).getD k (fun _ => 0))), rfl, ⟨rfl, (by show (0 ≤ 1 ∧ 1 ≤ 1); show (0 : Int) ≤ 1 ∧ (1 : Int) ≤ 1; decide), (by show (1 = 1 → 1 ≤ k ∧ k ≤ 9); omega), (by show (1 = 0 → ¬ (1 ≤ k ∧ k ≤ 9)); omega)⟩, at9 ht hP hD [] (by decide +kernel) rfl⟩, hS.F ht⟩) hS.2.2 dX10_beginsClause_48
    · refine lv_aload_n hx hb dX10_beginsClause_15 rfl (lv_at hlv 0 rfl) ?_
      refine va_gets (C := "KerbSplash$Word") (n := "HIGH") (d := "LKerbSplash$Word;") (ref := "KerbSplash$Word") (v := .ref (wd sa 2)) hx hb (hT.2.2.1 2 (by decide)).1.1 hS hown lf12 (fun _ h9 => h9) dX10_beginsClause_16 ?_
      refine aw_eq (tgt := 43) hx hb hT.2.2 dX10_beginsClause_19 (by decide) (by omega) (by omega) (fun c_4 => ?_) (fun c_4 => ?_)
      · refine lv_iconst (v := iI 1) hx hb dX10_beginsClause_43 (by decide) ?_
        refine lv_goto (tgt := 48) hx hb dX10_beginsClause_44 (by decide) ?_
        refine W.widen (k := 0) (n := 0) (Nat.le_of_ble_eq_true rfl) (Nat.le_of_ble_eq_true rfl) ?_
        exact W.zret (v := iI 1) hx hb hr (by first | rfl | decide) (fun t ht hW => ⟨⟨iI 1, ((fun k => ([] : List Nat).getD k 0), (fun k => ([1] : List Int).getD k 0), (fun k => ([] : List (Nat → Int32)).getD k (fun _ => 0))), rfl, ⟨rfl, (by show (0 ≤ 1 ∧ 1 ≤ 1); show (0 : Int) ≤ 1 ∧ (1 : Int) ≤ 1; decide), (by show (1 = 1 → 1 ≤ k ∧ k ≤ 9); omega), (by show (1 = 0 → ¬ (1 ≤ k ∧ k ≤ 9)); omega)⟩, at9 ht hP hD [] (by decide +kernel) rfl⟩, hS.F ht⟩) hS.2.2 dX10_beginsClause_48
      · refine lv_aload_n hx hb dX10_beginsClause_22 rfl (lv_at hlv 0 rfl) ?_
        refine va_gets (C := "KerbSplash$Word") (n := "DRAIN") (d := "LKerbSplash$Word;") (ref := "KerbSplash$Word") (v := .ref (wd sa 3)) hx hb (hT.2.2.1 3 (by decide)).1.1 hS hown lf15 (fun _ h9 => h9) dX10_beginsClause_23 ?_
        refine aw_eq (tgt := 43) hx hb hT.2.2 dX10_beginsClause_26 (by decide) (by omega) (by omega) (fun c_5 => ?_) (fun c_5 => ?_)
        · refine lv_iconst (v := iI 1) hx hb dX10_beginsClause_43 (by decide) ?_
          refine lv_goto (tgt := 48) hx hb dX10_beginsClause_44 (by decide) ?_
          refine W.widen (k := 0) (n := 0) (Nat.le_of_ble_eq_true rfl) (Nat.le_of_ble_eq_true rfl) ?_
          exact W.zret (v := iI 1) hx hb hr (by first | rfl | decide) (fun t ht hW => ⟨⟨iI 1, ((fun k => ([] : List Nat).getD k 0), (fun k => ([1] : List Int).getD k 0), (fun k => ([] : List (Nat → Int32)).getD k (fun _ => 0))), rfl, ⟨rfl, (by show (0 ≤ 1 ∧ 1 ≤ 1); show (0 : Int) ≤ 1 ∧ (1 : Int) ≤ 1; decide), (by show (1 = 1 → 1 ≤ k ∧ k ≤ 9); omega), (by show (1 = 0 → ¬ (1 ≤ k ∧ k ≤ 9)); omega)⟩, at9 ht hP hD [] (by decide +kernel) rfl⟩, hS.F ht⟩) hS.2.2 dX10_beginsClause_48
        · refine lv_aload_n hx hb dX10_beginsClause_29 rfl (lv_at hlv 0 rfl) ?_
          refine va_gets (C := "KerbSplash$Word") (n := "PERSON") (d := "LKerbSplash$Word;") (ref := "KerbSplash$Word") (v := .ref (wd sa 4)) hx hb (hT.2.2.1 4 (by decide)).1.1 hS hown lf18 (fun _ h9 => h9) dX10_beginsClause_30 ?_
          refine aw_eq (tgt := 43) hx hb hT.2.2 dX10_beginsClause_33 (by decide) (by omega) (by omega) (fun c_6 => ?_) (fun c_6 => ?_)
          · refine lv_iconst (v := iI 1) hx hb dX10_beginsClause_43 (by decide) ?_
            refine lv_goto (tgt := 48) hx hb dX10_beginsClause_44 (by decide) ?_
            refine W.widen (k := 0) (n := 0) (Nat.le_of_ble_eq_true rfl) (Nat.le_of_ble_eq_true rfl) ?_
            exact W.zret (v := iI 1) hx hb hr (by first | rfl | decide) (fun t ht hW => ⟨⟨iI 1, ((fun k => ([] : List Nat).getD k 0), (fun k => ([1] : List Int).getD k 0), (fun k => ([] : List (Nat → Int32)).getD k (fun _ => 0))), rfl, ⟨rfl, (by show (0 ≤ 1 ∧ 1 ≤ 1); show (0 : Int) ≤ 1 ∧ (1 : Int) ≤ 1; decide), (by show (1 = 1 → 1 ≤ k ∧ k ≤ 9); omega), (by show (1 = 0 → ¬ (1 ≤ k ∧ k ≤ 9)); omega)⟩, at9 ht hP hD [] (by decide +kernel) rfl⟩, hS.F ht⟩) hS.2.2 dX10_beginsClause_48
          · refine lv_aload_n hx hb dX10_beginsClause_36 rfl (lv_at hlv 0 rfl) ?_
            refine va_gets (C := "KerbSplash$Word") (n := "SHELTER") (d := "LKerbSplash$Word;") (ref := "KerbSplash$Word") (v := .ref (wd sa 5)) hx hb (hT.2.2.1 5 (by decide)).1.1 hS hown lf21 (fun _ h9 => h9) dX10_beginsClause_37 ?_
            refine aw_ne (tgt := 47) hx hb hT.2.2 dX10_beginsClause_40 (by decide) (by omega) (by omega) (fun c_7 => ?_) (fun c_7 => ?_)
            · refine lv_iconst (v := iI 0) hx hb dX10_beginsClause_47 (by decide) ?_
              refine W.widen (k := 0) (n := 0) (Nat.le_of_ble_eq_true rfl) (Nat.le_of_ble_eq_true rfl) ?_
              exact W.zret (v := iI 0) hx hb hr (by first | rfl | decide) (fun t ht hW => ⟨⟨iI 0, ((fun k => ([] : List Nat).getD k 0), (fun k => ([0] : List Int).getD k 0), (fun k => ([] : List (Nat → Int32)).getD k (fun _ => 0))), rfl, ⟨rfl, (by show (0 ≤ 0 ∧ 0 ≤ 1); show (0 : Int) ≤ 0 ∧ (0 : Int) ≤ 1; decide), (by show (0 = 1 → 1 ≤ k ∧ k ≤ 9); omega), (by show (0 = 0 → ¬ (1 ≤ k ∧ k ≤ 9)); omega)⟩, at9 ht hP hD [] (by decide +kernel) rfl⟩, hS.F ht⟩) hS.2.2 dX10_beginsClause_48
            · refine lv_iconst (v := iI 1) hx hb dX10_beginsClause_43 (by decide) ?_
              refine lv_goto (tgt := 48) hx hb dX10_beginsClause_44 (by decide) ?_
              refine W.widen (k := 0) (n := 0) (Nat.le_of_ble_eq_true rfl) (Nat.le_of_ble_eq_true rfl) ?_
              exact W.zret (v := iI 1) hx hb hr (by first | rfl | decide) (fun t ht hW => ⟨⟨iI 1, ((fun k => ([] : List Nat).getD k 0), (fun k => ([1] : List Int).getD k 0), (fun k => ([] : List (Nat → Int32)).getD k (fun _ => 0))), rfl, ⟨rfl, (by show (0 ≤ 1 ∧ 1 ≤ 1); show (0 : Int) ≤ 1 ∧ (1 : Int) ≤ 1; decide), (by show (1 = 1 → 1 ≤ k ∧ k ≤ 9); omega), (by show (1 = 0 → ¬ (1 ≤ k ∧ k ≤ 9)); omega)⟩, at9 ht hP hD [] (by decide +kernel) rfl⟩, hS.F ht⟩) hS.2.2 dX10_beginsClause_48
end
section

theorem NuP.v {g : Nat → Int} {n lo hi a f p v a' f' p' : Int} (h : NuP g n lo hi a f p v a' f' p') (q : f' = 0) : v = nV g n a ∧ a' = nA g n a ∧ f = 0 := ⟨h.2 q, (h.1.ok q).2.2, (h.1.ok q).1⟩
/-- a work's numbers -/
def wkL (k wi ro dr : Int) : List (Int × Int) := if k = 0 then [(0, dr - 1), (1, 99)] else if k = 3 then [(0, wi - 1), (0, ro - 1), (1, 99), (1, 99)] else [(0, wi - 1), (0, ro - 1), (1, 50), (1, 99)]
theorem wkL_0 {k wi ro dr : Int} (h : k = 0) : wkL k wi ro dr = [(0, dr - 1), (1, 99)] := if_pos h
theorem wkL_3 {k wi ro dr : Int} (h : k = 3) : wkL k wi ro dr = [(0, wi - 1), (0, ro - 1), (1, 99), (1, 99)] := by unfold wkL; rw [if_neg (by omega), if_pos h]
theorem wkL_1 {k wi ro dr : Int} (h : k ≠ 0 ∧ k ≠ 3) : wkL k wi ro dr = [(0, wi - 1), (0, ro - 1), (1, 50), (1, 99)] := by unfold wkL; rw [if_neg h.1, if_neg h.2]
def yw (k : Int) (g : Nat → Int) (n a : Int) : Int := if k = 0 then 0 else v2 g n a
def bw (k : Int) (g : Nat → Int) (n a : Int) : Int := if k = 0 then 0 else v3 g n a
def cw (k : Int) (g : Nat → Int) (n a : Int) : Int := if k = 0 then v2 g n a else v4 g n a
def wkU (K : Nat → Int) (wo k : Int) (g : Nat → Int) (n a : Int) : Nat → Int := upz (upz (upz (upz (upz K (5 * wo) k) (5 * wo + 1) (cw k g n a)) (5 * wo + 2) (v1 g n a)) (5 * wo + 3) (yw k g n a)) (5 * wo + 4) (bw k g n a)
theorem wkU_0 {K : Nat → Int} {wo k : Int} {g : Nat → Int} {n a : Int} (h : k = 0) : wkU K wo k g n a = upz (upz (upz (upz (upz K (5 * wo) k) (5 * wo + 1) (nV g n (nA g n a))) (5 * wo + 2) (nV g n a)) (5 * wo + 3) 0) (5 * wo + 4) 0 := by
  unfold wkU cw yw bw
  rw [if_pos h, if_pos h, if_pos h]
theorem wkU_1 {K : Nat → Int} {wo k : Int} {g : Nat → Int} {n a : Int} (h : k ≠ 0) : wkU K wo k g n a = upz (upz (upz (upz (upz K (5 * wo) k) (5 * wo + 1) (nV g n (nA g n (nA g n (nA g n a))))) (5 * wo + 2) (nV g n a)) (5 * wo + 3) (nV g n (nA g n a))) (5 * wo + 4) (nV g n (nA g n (nA g n a))) := by
  unfold wkU cw yw bw
  rw [if_neg h, if_neg h, if_neg h]
/-- a cell's, a drain's numbers -/
def ceL (k wi ro : Int) : List (Int × Int) := if k = 2 then [(0, wi - 1), (0, ro - 1), (0, 99)] else [(0, wi - 1), (0, ro - 1), (1, 99), (0, 16)]
theorem ceL_2 {k wi ro : Int} (h : k = 2) : ceL k wi ro = [(0, wi - 1), (0, ro - 1), (0, 99)] := if_pos h
theorem ceL_3 {k wi ro : Int} (h : k ≠ 2) : ceL k wi ro = [(0, wi - 1), (0, ro - 1), (1, 99), (0, 16)] := if_neg h
theorem fW_k {k : Int} (h : 6 ≤ k ∧ k ≤ 9) : fW k = k - 6 := by
  rcases (show k = 6 ∨ k = 7 ∨ k = 8 ∨ k = 9 by omega) with rfl | rfl | rfl | rfl <;> decide
theorem clL_w {nb : Nat → Int} {k : Int} {g : Nat → Int} {n a : Int} (h : 6 ≤ k ∧ k ≤ 9) : clL nb k g n a = wkL (k - 6) (nb 0) (nb 1) (nb 2) := by
  rcases (show k = 6 ∨ k = 7 ∨ k = 8 ∨ k = 9 by omega) with rfl | rfl | rfl | rfl <;> rfl
theorem clL_c {nb : Nat → Int} {k : Int} {g : Nat → Int} {n a : Int} (h : 2 ≤ k ∧ k ≤ 3) : clL nb k g n a = ceL k (nb 0) (nb 1) := by
  rcases (show k = 2 ∨ k = 3 by omega) with rfl | rfl <;> rfl
theorem clB_w {nb : Nat → Int} {k : Int} {g : Nat → Int} {n a : Int} (h : 6 ≤ k ∧ k ≤ 9) : clB nb k g n a = wkB nb (k - 6) (v1 g n a) (yw (k - 6) g n a) (bw (k - 6) g n a) (cw (k - 6) g n a) := by
  rcases (show k = 6 ∨ k = 7 ∨ k = 8 ∨ k = 9 by omega) with rfl | rfl | rfl | rfl <;> rfl
theorem clT_w {nb ns : Nat → Int} {k : Int} {g : Nat → Int} {n a : Int} (h : k ≠ 2 ∧ k ≠ 3 ∧ k ≠ 4) : clT nb ns k g n a = ns := by
  unfold clT
  rw [if_neg h.1, if_neg h.2.1, if_neg h.2.2]
section CLS
variable {nb ns : Nat → Int} {wi ro dr dt pe sh wo : Int} {hf df pf sf kf : Nat → Int32} {g : Nat → Int} {n a f p a' f' p' : Int}
theorem rd_w {k wk : Int} (hd : DRL nb ns wi ro dr dt pe sh wo hf df pf sf kf) (hk : 6 ≤ k ∧ k ≤ 9) (hw : wk = fW k) (h : RdS (chF g n (wkL wk wi ro dr) a) (chP g n (wkL wk wi ro dr) a) (chA g n (wkL wk wi ro dr) a) f p a' f' p') : RdS (chF g n (clL nb k g n a) a) (chP g n (clL nb k g n a) a) (chA g n (clL nb k g n a) a) f p a' f' p' := by
  obtain ⟨⟨z0, z1, z2, z3, z4, z5, z6⟩, -⟩ := hd
  rw [clL_w hk, ← z0, ← z1, ← z2, ← fW_k hk, ← hw]
  exact h
theorem dl_w {k wk wo1 : Int} {kf1 : Nat → Int32} (hd : DRL nb ns wi ro dr dt pe sh wo hf df pf sf kf) (hk : 6 ≤ k ∧ k ≤ 9) (hw : wk = fW k) (h8 : wo < 8) (h : wo1 = wo + 1 ∧ nz kf1 = wkU (nz kf) wo wk g n a) : DRL (clB nb k g n a) (clT nb ns k g n a) wi ro dr dt pe sh wo1 hf df pf sf kf1 := by
  rw [clB_w hk, clT_w (by omega)]
  rw [fW_k hk] at hw
  subst hw
  exact DRL_work hd h8 h.2 h.1
theorem rd_c {k : Int} (hd : DRL nb ns wi ro dr dt pe sh wo hf df pf sf kf) (hk : 2 ≤ k ∧ k ≤ 3) (h : RdS (chF g n (ceL k wi ro) a) (chP g n (ceL k wi ro) a) (chA g n (ceL k wi ro) a) f p a' f' p') : RdS (chF g n (clL nb k g n a) a) (chP g n (clL nb k g n a) a) (chA g n (clL nb k g n a) a) f p a' f' p' := by
  obtain ⟨⟨z0, z1, z2, z3, z4, z5, z6⟩, -⟩ := hd
  rw [clL_c hk, ← z0, ← z1]
  exact h
theorem rd_1 {k : Int} (hk : k = 1) (h : RdS (chF g n [(2, 16), (1, 6)] a) (chP g n [(2, 16), (1, 6)] a) (chA g n [(2, 16), (1, 6)] a) f p a' f' p') : RdS (chF g n (clL nb k g n a) a) (chP g n (clL nb k g n a) a) (chA g n (clL nb k g n a) a) f p a' f' p' := by
  subst hk
  exact h
theorem rd_4 {k : Int} (hd : DRL nb ns wi ro dr dt pe sh wo hf df pf sf kf) (hk : k = 4) (h : RdS (chF g n [(0, wi - 1), (0, 19)] a) (chP g n [(0, wi - 1), (0, 19)] a) (chA g n [(0, wi - 1), (0, 19)] a) f p a' f' p') : RdS (chF g n (clL nb k g n a) a) (chP g n (clL nb k g n a) a) (chA g n (clL nb k g n a) a) f p a' f' p' := by
  obtain ⟨⟨z0, z1, z2, z3, z4, z5, z6⟩, -⟩ := hd
  subst hk
  rw [z0] at h
  exact h
theorem rd_5 {k : Int} (hd : DRL nb ns wi ro dr dt pe sh wo hf df pf sf kf) (hk : k = 5) (h : RdS (chF g n [(0, wi - 1), (nV g n a, wi - 1)] a) (chP g n [(0, wi - 1), (nV g n a, wi - 1)] a) (chA g n [(0, wi - 1), (nV g n a, wi - 1)] a) f p a' f' p') : RdS (chF g n (clL nb k g n a) a) (chP g n (clL nb k g n a) a) (chA g n (clL nb k g n a) a) f p a' f' p' := by
  obtain ⟨⟨z0, z1, z2, z3, z4, z5, z6⟩, -⟩ := hd
  subst hk
  rw [z0] at h
  exact h
theorem dl_1 {k w d : Int} (hd : DRL nb ns wi ro dr dt pe sh wo hf df pf sf kf) (hF : DF ns hf) (hk : k = 1) (hw : 2 ≤ w ∧ w ≤ 16) (hd1 : 1 ≤ d ∧ d ≤ 6) (h : w = v1 g n a ∧ d = v2 g n a) : DRL (clB nb k g n a) (clT nb ns k g n a) w d dr dt pe sh wo hf df pf sf kf := by
  subst hk
  rw [clT_w (by decide)]
  show DRL (upz (upz nb 0 (v1 g n a)) 1 (v2 g n a)) ns w d dr dt pe sh wo hf df pf sf kf
  rw [← h.1, ← h.2]
  exact DRL_size hd hF hw hd1
theorem dl_2 {k : Int} {hf1 : Nat → Int32} (hd : DRL nb ns wi ro dr dt pe sh wo hf df pf sf kf) (hk : k = 2) (ha : 0 ≤ v1 g n a ∧ v1 g n a ≤ wi - 1) (hb : 0 ≤ v2 g n a ∧ v2 g n a ≤ ro - 1) (h : ∃ i : Int, i = v2 g n a * wi + v1 g n a ∧ nz hf1 = upz (nz hf) i (v3 g n a)) : DRL (clB nb k g n a) (clT nb ns k g n a) wi ro dr dt pe sh wo hf1 df pf sf kf := by
  obtain ⟨i, hi, h1⟩ := h
  subst hk
  have z0 := hd.1.1
  have z1 := hd.1.2.1
  show DRL nb (clT nb ns 2 g n a) wi ro dr dt pe sh wo hf1 df pf sf kf
  exact DRL_high hd (by omega) (by omega) hi h1
theorem dl_3 {k dr1 dt1 : Int} {df1 : Nat → Int32} (hd : DRL nb ns wi ro dr dt pe sh wo hf df pf sf kf) (hk : k = 3) (h6 : dr < 6) (h : dr1 = dr + 1 ∧ dt1 = dr + 1 ∧ nz df1 = upz (upz (upz (upz (nz df) (4 * dr) (v1 g n a)) (4 * dr + 1) (v2 g n a)) (4 * dr + 2) (v3 g n a)) (4 * dr + 3) (v4 g n a)) : DRL (clB nb k g n a) (clT nb ns k g n a) wi ro dr1 dt1 pe sh wo hf df1 pf sf kf := by
  subst hk
  exact DRL_drain hd h6 h.2.2 h.1 h.2.1
theorem dl_4 {k pe1 : Int} {pf1 : Nat → Int32} (hd : DRL nb ns wi ro dr dt pe sh wo hf df pf sf kf) (hk : k = 4) (h8 : pe < 8) (h : pe1 = pe + 1 ∧ nz pf1 = upz (upz (upz (upz (nz pf) (4 * pe) (v1 g n a)) (4 * pe + 1) (v2 g n a)) (4 * pe + 2) 0) (4 * pe + 3) 0) : DRL (clB nb k g n a) (clT nb ns k g n a) wi ro dr dt pe1 sh wo hf df pf1 sf kf := by
  subst hk
  exact DRL_person hd h8 h.2 h.1
theorem dl_5 {k sh1 : Int} {sf1 : Nat → Int32} (hd : DRL nb ns wi ro dr dt pe sh wo hf df pf sf kf) (hk : k = 5) (h2 : sh < 2) (h : sh1 = sh + 1 ∧ nz sf1 = upz (upz (nz sf) (2 * sh) (v1 g n a)) (2 * sh + 1) (v2 g n a)) : DRL (clB nb k g n a) (clT nb ns k g n a) wi ro dr dt pe sh1 wo hf df pf sf1 kf := by
  subst hk
  rw [clT_w (by decide)]
  exact DRL_shelter hd h2 h.2 h.1
theorem cl_1 {m k : Int} (hk : k = wk g n (rnI pSp g n a)) (h : ¬ (1 ≤ k ∧ k ≤ 9)) (hf : f = 0) (e1 : f' = 1) (e2 : p' = rnI pSp g n a) : RdS (cF g n m a nb) (cP g n m a nb) (cA g n a nb) f p a' f' p' := by
  have eF : cF g n m a nb = 1 := by unfold cF kF; rw [← hk, if_pos h]
  have eP : cP g n m a nb = rnI pSp g n a := by unfold cP kP; rw [← hk, if_pos h]
  rw [eF, eP]
  exact ⟨fun w => absurd hf w, fun _ => ⟨e1, fun w => absurd w (by decide), fun _ => e2⟩⟩
theorem isFb_iff {k : Int} : isFb nb k = true ↔ isFl nb k := by
  unfold isFb isFl
  exact decide_eq_true_iff
theorem isFl_c {k : Int} (hd : DRL nb ns wi ro dr dt pe sh wo hf df pf sf kf) : isFl nb k ↔ (k = 3 ∧ dr = 6) ∨ (k = 4 ∧ pe = 8) ∨ (k = 5 ∧ sh = 2) ∨ (6 ≤ k ∧ k ≤ 9 ∧ wo = 8) := by
  obtain ⟨⟨z0, z1, z2, z3, z4, z5, z6⟩, -⟩ := hd
  unfold isFl
  rw [z2, z4, z5, z6]
theorem cl_3 {m k : Int} (hk : k = wk g n (rnI pSp g n a)) (h : 1 ≤ k ∧ k ≤ 9) (hm : m = 60 ∨ isFl nb k) (hf : f = 0) (e1 : f' = 3) (e2 : p' = rnI pSp g n a) : RdS (cF g n m a nb) (cP g n m a nb) (cA g n a nb) f p a' f' p' := by
  have hm2 : m = 60 ∨ isFb nb k = true := hm.imp id isFb_iff.mpr
  have eF : cF g n m a nb = 3 := by unfold cF kF; rw [← hk, if_neg (fun w => w h), if_pos hm2]
  have eP : cP g n m a nb = rnI pSp g n a := by unfold cP kP; rw [← hk, if_neg (fun w => w h), if_pos hm2]
  rw [eF, eP]
  exact ⟨fun w => absurd hf w, fun _ => ⟨e1, fun w => absurd w (by decide), fun _ => e2⟩⟩
theorem cl_4 {m k : Int} (hk : k = wk g n (rnI pSp g n a)) (h1 : k = 1) (hm : m ≠ 60) (h0 : 0 < m) (hf : f = 0) (e1 : f' = 4) (e2 : p' = rnI pSp g n a) : RdS (cF g n m a nb) (cP g n m a nb) (cA g n a nb) f p a' f' p' := by
  have h : 1 ≤ k ∧ k ≤ 9 := by omega
  have hm2 : ¬ (m = 60 ∨ isFb nb k = true) := by
    intro w
    rcases w with w | w
    · exact hm w
    · have := isFb_iff.mp w
      unfold isFl at this
      omega
  have eF : cF g n m a nb = 4 := by unfold cF kF; rw [← hk, if_neg (fun w => w h), if_neg hm2, if_pos ⟨h1, h0⟩]
  have eP : cP g n m a nb = rnI pSp g n a := by unfold cP kP; rw [← hk, if_neg (fun w => w h), if_neg hm2, if_pos ⟨h1, h0⟩]
  rw [eF, eP]
  exact ⟨fun w => absurd hf w, fun _ => ⟨e1, fun w => absurd w (by decide), fun _ => e2⟩⟩
theorem cl_ok {m k a1 a2 f2 p2 : Int} (hk : k = wk g n (rnI pSp g n a)) (h : 1 ≤ k ∧ k ≤ 9) (hm : m ≠ 60) (hn : ¬ isFl nb k) (h1 : ¬ (k = 1 ∧ 0 < m)) (ha : a1 = rnI pSm g n (rnI pSp g n a)) (hr : RdS (chF g n (clL nb k g n a1) a1) (chP g n (clL nb k g n a1) a1) (chA g n (clL nb k g n a1) a1) f p a2 f2 p2) (hs : SgP g n 59 a2 f2 p2 a' f' p') : RdS (cF g n m a nb) (cP g n m a nb) (cA g n a nb) f p a' f' p' := by
  have hm2 : ¬ (m = 60 ∨ isFb nb k = true) := fun w => w.elim hm (fun q => hn (isFb_iff.mp q))
  subst ha
  have q := RdS.seq (sgF g n 59) (rnI pSp g n) (fun x => rnI pSp g n x + 1) hr hs
  have eF : cF g n m a nb = thF (chF g n (clL nb k g n (rnI pSm g n (rnI pSp g n a))) (rnI pSm g n (rnI pSp g n a))) (sgF g n 59 (chA g n (clL nb k g n (rnI pSm g n (rnI pSp g n a))) (rnI pSm g n (rnI pSp g n a)))) := by unfold cF kF; rw [← hk, if_neg (fun w => w h), if_neg hm2, if_neg h1]
  have eP : cP g n m a nb = thP (chF g n (clL nb k g n (rnI pSm g n (rnI pSp g n a))) (rnI pSm g n (rnI pSp g n a))) (chP g n (clL nb k g n (rnI pSm g n (rnI pSp g n a))) (rnI pSm g n (rnI pSp g n a))) (rnI pSp g n (chA g n (clL nb k g n (rnI pSm g n (rnI pSp g n a))) (rnI pSm g n (rnI pSp g n a)))) := by unfold cP kP; rw [← hk, if_neg (fun w => w h), if_neg hm2, if_neg h1]
  have eA : cA g n a nb = rnI pSp g n (chA g n (clL nb k g n (rnI pSm g n (rnI pSp g n a))) (rnI pSm g n (rnI pSp g n a))) + 1 := by unfold cA kA; rw [← hk]
  rw [eF, eP, eA]
  exact q
theorem dl_ok {k a1 a2 f2 p2 wi1 ro1 dr1 dt1 pe1 sh1 wo1 : Int} {hf1 df1 pf1 sf1 kf1 : Nat → Int32} (hk : k = wk g n (rnI pSp g n a)) (ha : a1 = rnI pSm g n (rnI pSp g n a)) (h : f2 = 0 → DRL (clB nb k g n a1) (clT nb ns k g n a1) wi1 ro1 dr1 dt1 pe1 sh1 wo1 hf1 df1 pf1 sf1 kf1) (hs : SgP g n 59 a2 f2 p2 a' f' p') (q : f' = 0) : DRL (cB g n a nb) (cT g n a nb ns) wi1 ro1 dr1 dt1 pe1 sh1 wo1 hf1 df1 pf1 sf1 kf1 := by
  have h2 := h (hs.ok q).1
  rw [hk, ha] at h2
  exact h2
/-- ahead of clause q -/
def LpI (g : Nat → Int) (n q a f p wi ro dr dt pe sh wo : Int) (hf df pf sf kf : Nat → Int32) : Prop := ∃ nb ns : Nat → Int, StL g n q a f p nb ns (STV g n) ∧ (f = 0 → DRL nb ns wi ro dr dt pe sh wo hf df pf sf kf) ∧ (q = 0 → DF ns hf)
theorem LpI_0 (h : ∀ j : Nat, j < 96 → nz hf j = 50) : LpI g n 0 0 0 (-1) 8 3 0 0 0 0 0 hf df pf sf kf := ⟨nb0, ns0, StL_0, fun _ => (DRL_0 h).1, fun _ => (DRL_0 (hf := hf) (df := df) (pf := pf) (sf := sf) (kf := kf) h).2⟩
def SvP (g : Nat → Int) (n f p wi ro dr dt pe sh wo : Int) (hf df pf sf kf : Nat → Int32) : Prop := (f ≠ 0 → (STV g n).1 = (f, p)) ∧ (f = 0 → (STV g n).1 = (0, -1) ∧ DRL (STV g n).2.1 (STV g n).2.2 wi ro dr dt pe sh wo hf df pf sf kf)
theorem SvP_of {q r b : Int} (h : LpI g n q a f p wi ro dr dt pe sh wo hf df pf sf kf) (hm : HmS g n a f r b) (hr : r = 0) : SvP g n f p wi ro dr dt pe sh wo hf df pf sf kf := by
  obtain ⟨nb, ns, h1, h2, h3⟩ := h
  have h4 := StL_end h1 (by
    by_cases w : f = 0
    · obtain ⟨e1, e2, e3⟩ := hm.2 w
      rw [← e1]
      exact Or.inr (e3 hr)
    · exact Or.inl w)
  refine ⟨h4.1, fun w => ?_⟩
  rw [h4.2 w]
  exact ⟨rfl, h2 w⟩
theorem SvP_b {q : Int} (h : LpI g n q a f p wi ro dr dt pe sh wo hf df pf sf kf) (hf0 : f ≠ 0) : SvP g n f p wi ro dr dt pe sh wo hf df pf sf kf := by
  obtain ⟨nb, ns, h1, h2, h3⟩ := h
  exact ⟨h1.1, fun w => absurd w hf0⟩
end CLS
theorem rd_sh {g : Nat → Int} {n wi lo hi hi2 a f p v a1 f1 p1 w a' f' p' : Int} (h : NuP g n 0 hi a f p v a1 f1 p1) (k : NuP g n lo hi2 a1 f1 p1 w a' f' p') (e1 : hi = wi - 1 ∧ hi2 = wi - 1) (e2 : f1 = 0 → lo = v) : RdS (chF g n [(0, wi - 1), (nV g n a, wi - 1)] a) (chP g n [(0, wi - 1), (nV g n a, wi - 1)] a) (chA g n [(0, wi - 1), (nV g n a, wi - 1)] a) f p a' f' p' := by
  obtain ⟨e1, e3⟩ := e1
  subst e1 e3
  by_cases q : f1 = 0
  · have hv := (NuP.v h q).1
    rw [← hv, ← e2 q]
    exact ch_c h (ch_c k ch_n)
  · have h1 := h.1
    have k1 := k.1.1 q
    refine ⟨fun w => ?_, fun w => ?_⟩
    · have h2 := h1.1 w
      exact ⟨by omega, by omega⟩
    · obtain ⟨e4, e5, e6⟩ := h1.2 w
      have hF : nF g n a 0 (wi - 1) ≠ 0 := by omega
      have eF : chF g n [(0, wi - 1), (nV g n a, wi - 1)] a = nF g n a 0 (wi - 1) := if_neg hF
      have eP : chP g n [(0, wi - 1), (nV g n a, wi - 1)] a = rnI pSp g n a := if_neg hF
      rw [eF, eP]
      have h3 := e6 hF
      exact ⟨by omega, fun w => absurd w hF, fun _ => by omega⟩
end
section

def vs_e_index : List Cond := .code yX6_index cX6_index 3 (some .int) :: (([.fieldLink RX6 28 "KerbSplash$Street" "wide" "I"] : List Cond) ++ ((wsX60) ++ ([])))
theorem gd_e_index : vs_e_index.all goodWord = true := gd_C (by decide +kernel) (gd_A (by decide +kernel) (gd_A (by decide +kernel) rfl))
set_option maxHeartbeats 4000000 in
set_option maxRecDepth 100000 in
theorem e_index (l : Launch) (hl : l.stackTraces = false) (D : va_G) (cy : Nat → ClassId) (sa : Nat → Nat) (sA s2 s3 s6 s8 s11 s13 : Nat) (wi ro dr dt pe gu sh wo dn mi fl tk go : Int) (x y : Int) (sz : Nat) (hr_wi : 0 ≤ wi ∧ wi ≤ 16) (hr_ro : 0 ≤ ro ∧ ro ≤ 6) (hr_dr : 0 ≤ dr ∧ dr ≤ 14) (hr_dt : 0 ≤ dt ∧ dt ≤ 6) (hr_pe : 0 ≤ pe ∧ pe ≤ 8) (hr_gu : 0 ≤ gu ∧ gu ≤ 20) (hr_sh : 0 ≤ sh ∧ sh ≤ 2) (hr_wo : 0 ≤ wo ∧ wo ≤ 8) (hr_dn : (-2147483648) ≤ dn ∧ dn ≤ 2147483647) (hr_mi : 0 ≤ mi ∧ mi ≤ 600) (hr_fl : (-2147483648) ≤ fl ∧ fl ≤ 2147483647) (hr_tk : (-2147483648) ≤ tk ∧ tk ≤ 2147483647) (hr_go : (-2147483648) ≤ go ∧ go ≤ 2147483647) (hr_x : 0 ≤ x ∧ x ≤ 15) (hr_y : 0 ≤ y ∧ y ≤ 5) : mI9 l yX6_index vs_e_index ({ frames := 0, cells := 0, slots := 0, locals := 0 }) D cy sa sz [vR sA, vI x, vI y] [zO sA 6 [vI wi, vI ro, vR s2, vR s3, vI dr, vI dt, vR s6, vI pe, vR s8, vI gu, vI sh, vR s11, vI wo, vR s13, vI dn, vI mi, vI fl, vI tk, vI go]] (fun (r : Int32) (u : SV) => r = iI (u.2.1 0) ∧ (0 ≤ u.2.1 0 ∧ u.2.1 0 ≤ 95) ∧ (u.2.1 0 = y * wi + x)) (fun u : SV => [zO sA 6 [vI wi, vI ro, vR s2, vR s3, vI dr, vI dt, vR s6, vI pe, vR s8, vI gu, vI sh, vR s11, vI wo, vR s13, vI dn, vI mi, vI fl, vI tk, vI go]]) 0 0 := by
  refine Met.ofW (cc := cX6_index) (maxL := 3) (ret := (some .int)) (by decide) rfl ?_
  intro p e s m args below meth c s₁ B hml hv
  obtain ⟨rfl, hsz, hP, hG, hD0, hT⟩ := hv
  have hx := B.exec
  have hb := B.bytes
  have hr := B.returns
  have hts := atoms_spec (ws := vs_e_index) B.pre
  have hown : s.vm.findClass RX6 = some m.cls := findClass_of_methodNamed B.named
  have hlocks := B.notSynchronized
  subst hsz
  have hD := hD0.self (sz := s.heap.size)
  generalize hAe : va_A [zO sA 6 [vI wi, vI ro, vR s2, vR s3, vI dr, vI dt, vR s6, vI pe, vR s8, vI gu, vI sh, vR s11, vI wo, vR s13, vI dn, vI mi, vI fl, vI tk, vI go]] s.heap.size = A at hD hT ⊢
  have hA : ∀ q : Nat, s.heap.size ≤ q → A q := fun q h => by rw [← hAe]; exact Or.inr h
  have hS : va_S A s.heap s.heap [] := va_S.rf
  have hl0 := lv_entry ([vR sA, vI x, vI y]) (n := 3) (Nat.le_of_ble_eq_true rfl)
  rw [lg_entry_eq]
  generalize (lg_sl ([vR sA, vI x, vI y]) ++ List.replicate (3 - (lg_sl ([vR sA, vI x, vI y])).length) Slot.unset).toArray = ls at hl0 ⊢
  have hlv : lv_has ls 3 [(0, vR sA), (1, vI x), (2, vI y)] := hl0
  have lf28 := hts (.fieldLink RX6 28 "KerbSplash$Street" "wide" "I") (List.mem_of_getElem? (i := 1) rfl)
  have hi6 : ∀ w ∈ wsX60, w ∈ vs_e_index := fun w h => List.mem_cons_of_mem _ (List.mem_append_right _ (List.mem_append_left _ h))
  refine lv_iload_n hx hb dX6_index_0 rfl (lv_at hlv 2 rfl) ?_
  refine lv_aload_n hx hb dX6_index_1 rfl (lv_at hlv 0 rfl) ?_
  refine va_get (D := D) (ci := 6) (v := vI wi) (C := RX6) (T := TX6) (N := 19) hx hb hts hi6 hown hG.1 hP 0 rfl rfl 0 (by decide) lf28 (fun _ h9 => h9) rfl dX6_index_2 ?_
  refine lv_imul hx hb dX6_index_5 ?_
  refine lt_e (e0 := y * wi) (Int32.ofInt_mul _ _).symm (fun z_1 hz_1 => ?_)
  have bz_1 : 0 ≤ z_1 ∧ z_1 ≤ 80 := by rw [hz_1]; exact mul_bd (x := 5) (y := 16) (by omega) (by omega) (by decide)
  refine lv_iload_n hx hb dX6_index_6 rfl (lv_at hlv 1 rfl) ?_
  refine lv_iadd hx hb dX6_index_7 ?_
  refine lt_e (e0 := z_1 + x) (Int32.ofInt_add _ _).symm (fun z_2 hz_2 => ?_)
  refine W.widen (k := 0) (n := 0) (Nat.le_of_ble_eq_true rfl) (Nat.le_of_ble_eq_true rfl) ?_
  exact W.iret (v := iI z_2) hx hb hr (fun t ht hW => ⟨⟨iI z_2, ((fun k => ([] : List Nat).getD k 0), (fun k => ([z_2] : List Int).getD k 0), (fun k => ([] : List (Nat → Int32)).getD k (fun _ => 0))), rfl, ⟨rfl, (by show (0 ≤ z_2 ∧ z_2 ≤ 95); omega), (by show (z_2 = y * wi + x); omega)⟩, at9 ht hP hD [0] (by decide +kernel) rfl⟩, hS.F ht⟩) hS.2.2 dX6_index_8
def vs_e_fill96a : List Cond := .code yJ7_fill_53178 cJ7_fill_53178 4 none :: (([] : List Cond) ++ ([]))
theorem gd_e_fill96a : vs_e_fill96a.all goodWord = true := gd_C (by decide +kernel) (gd_A (by decide +kernel) rfl)
set_option maxHeartbeats 4000000 in
set_option maxRecDepth 100000 in
theorem e_fill96a (l : Launch) (hl : l.stackTraces = false) (D : va_G) (cy : Nat → ClassId) (sa : Nat → Nat) (fa : Nat) (ff : Nat → Int32) (v : Int) (sz : Nat) (hr_v : (-2147483648) ≤ v ∧ v ≤ 2147483647) : mV9 l yJ7_fill_53178 vs_e_fill96a ({ frames := 0, cells := 0, slots := 0, locals := 0 }) D cy sa sz [vR fa, vI v] [zI fa (cy 0) 96 ff] (fun u : SV => (∀ j : Nat, j < 96 → nz (u.2.2 0) j = v)) (fun u : SV => [zI fa (cy 0) 96 (u.2.2 0)]) 0 0 := by
  refine Met.ofW (cc := cJ7_fill_53178) (maxL := 4) (ret := none) (by decide) rfl ?_
  intro p e s m args below meth c s₁ B hml hv
  obtain ⟨rfl, hsz, hP, hG, hD0, hT⟩ := hv
  have hx := B.exec
  have hb := B.bytes
  have hr := B.returns
  have hts := atoms_spec (ws := vs_e_fill96a) B.pre
  have hown : s.vm.findClass RJ7 = some m.cls := findClass_of_methodNamed B.named
  have hlocks := B.notSynchronized
  subst hsz
  have hD := hD0.self (sz := s.heap.size)
  generalize hAe : va_A [zI fa (cy 0) 96 ff] s.heap.size = A at hD hT ⊢
  have hA : ∀ q : Nat, s.heap.size ≤ q → A q := fun q h => by rw [← hAe]; exact Or.inr h
  have hS : va_S A s.heap s.heap [] := va_S.rf
  have hl0 := lv_entry ([vR fa, vI v]) (n := 4) (Nat.le_of_ble_eq_true rfl)
  rw [lg_entry_eq]
  generalize (lg_sl ([vR fa, vI v]) ++ List.replicate (4 - (lg_sl ([vR fa, vI v])).length) Slot.unset).toArray = ls at hl0 ⊢
  have hlv : lv_has ls 4 [(0, vR fa), (1, vI v)] := hl0
  refine lv_iconst (v := iI 0) hx hb dJ7_fill_53178_0 (by decide) ?_
  refine lv_istore_n (lv' := [(2, vI 0), (0, vR fa), (1, vI v)]) hx hb dJ7_fill_53178_1 rfl hlv (by decide) rfl (fun ls hlv => ?_)
  refine lv_aload_n hx hb dJ7_fill_53178_2 rfl (lv_at hlv 1 rfl) ?_
  refine va_alen (v := iI 96) hx hb hG.1 hP 0 0 rfl rfl (iI_nI _) dJ7_fill_53178_3 ?_
  refine lv_istore_n (lv' := [(3, vI 96), (2, vI 0), (0, vR fa), (1, vI v)]) hx hb dJ7_fill_53178_4 rfl hlv (by decide) rfl (fun ls hlv => ?_)
  refine (?_ : ∀ (fu : Nat) (x : Int) (fg : Nat → Int32) (H : Heap) (locs : List Loc) (ls : Array Slot), 96 - x < (fu : Int) → (0 ≤ x ∧ x ≤ 96) → (∀ j : Nat, (j : Int) < x → nz fg j = v) → va_P D vwCl [zI fa (cy 0) 96 fg] H → va_D A [zI fa (cy 0) 96 fg] → va_S A s.heap H locs → lv_has ls 4 [(3, vI 96), (2, vI x), (0, vR fa), (1, vI v)] → W p l e _ s m _ below meth c H locs _ _ _ (F0 m 5 ls [])) (((96 - 0) + 1 : Int)).toNat 0 ff _ _ _ (by omega) (by show (0 : Int) ≤ 0 ∧ (0 : Int) ≤ 96; decide) (fun j h9 => absurd h9 (by omega))  hP hD hS hlv
  clear hP hD hS hlv
  intro fu
  induction fu with
  | zero => intro x fg H locs ls hm5 hl5_0 hl5_1  hP hD hS hlv; omega
  | succ fu ih5 =>
    intro x fg H locs ls hm5 hl5_0 hl5_1  hP hD hS hlv
    refine lv_iload_n hx hb dJ7_fill_53178_5 rfl (lv_at hlv 1 rfl) ?_
    refine lv_iload_n hx hb dJ7_fill_53178_6 rfl (lv_at hlv 0 rfl) ?_
    refine ir_ge (tgt := 20) hx hb dJ7_fill_53178_7 (by decide) (by first | exact rgw hl5_0 (by decide) (by decide) | omega) (by show ((-2147483648) : Int) ≤ 96 ∧ (96 : Int) ≤ 2147483647; decide) (fun c_1 => ?_) (fun c_1 => ?_)
    · refine W.widen (k := 0) (n := 0) (Nat.le_of_ble_eq_true rfl) (Nat.le_of_ble_eq_true rfl) ?_
      exact W.vret hx hb hr (fun t ht hW => ⟨⟨((fun k => ([] : List Nat).getD k 0), (fun k => ([] : List Int).getD k 0), (fun k => ([fg] : List (Nat → Int32)).getD k (fun _ => 0))), rfl, (by show (∀ j : Nat, j < 96 → nz (fg) j = v); exact (fun j h9 => hl5_1 j (by omega))), at9 ht hP hD [0] (by decide +kernel) rfl⟩, hS.F ht⟩) hS.2.2 dJ7_fill_53178_20
    · refine lv_aload_n hx hb dJ7_fill_53178_10 rfl (lv_at hlv 2 rfl) ?_
      refine lv_iload_n hx hb dJ7_fill_53178_11 rfl (lv_at hlv 1 rfl) ?_
      refine lv_iload_n hx hb dJ7_fill_53178_12 rfl (lv_at hlv 3 rfl) ?_
      refine va_iast hx hb hG.1 hP hD hS 0 0 rfl rfl (iI_in (by omega) (by decide)) dJ7_fill_53178_13 (fun H locs hP hD hS => ?_)
      obtain ⟨f_2, hdf_2, hP, hD⟩ := pe9e (fun f_2 => [zI fa (cy 0) 96 f_2]) (upd fg (iI x).toNatClampNeg (iI v)) hP hD
      obtain ⟨z_3, hz_3⟩ : ∃ z : Int, z = x + 1 := ⟨_, rfl⟩
      refine lv_iinc (v := iI z_3) (lv' := [(2, vI z_3), (3, vI 96), (0, vR fa), (1, vI v)]) hx hb dJ7_fill_53178_14 hlv (k := 1) rfl (by rw [hz_3]; exact (Int32.ofInt_add _ _).symm) (by decide) rfl (fun ls hlv => ?_)
      refine lv_goto (tgt := 5) hx hb dJ7_fill_53178_17 (by decide) ?_
      exact ih5 z_3 f_2 H locs ls (by omega) (by omega) (fun j h9 => by by_cases q9 : (j : Int) = x; exact nz_us hdf_2 (by omega) (by omega) q9; rw [nz_un hdf_2 (by omega) q9]; exact hl5_1 j (by omega))  (hP.sub [0] rfl) (hD.sub [0] (by decide) rfl) hS (lv_sub hlv [1, 0, 2, 3] rfl)
def vs_e_fill96 : List Cond := .code yJ7_fill_53178 cJ7_fill_53178 4 none :: (([] : List Cond) ++ ([]))
theorem gd_e_fill96 : vs_e_fill96.all goodWord = true := gd_C (by decide +kernel) (gd_A (by decide +kernel) rfl)
set_option maxHeartbeats 4000000 in
set_option maxRecDepth 100000 in
theorem e_fill96 (l : Launch) (hl : l.stackTraces = false) (D : va_G) (cy : Nat → ClassId) (sa : Nat → Nat) (fa : Nat) (ff : Nat → Int32) (v : Int) (sz : Nat) (hr_v : 0 ≤ v ∧ v ≤ 99) (hff : inv_ 96 0 99 ff) : mV9 l yJ7_fill_53178 vs_e_fill96 ({ frames := 0, cells := 0, slots := 0, locals := 0 }) D cy sa sz [vR fa, vI v] [zI fa (cy 0) 96 ff] (fun u : SV => (∀ j : Nat, j < 96 → nz (u.2.2 0) j = v) ∧ inv_ 96 0 99 (u.2.2 0)) (fun u : SV => [zI fa (cy 0) 96 (u.2.2 0)]) 0 0 := by
  refine Met.ofW (cc := cJ7_fill_53178) (maxL := 4) (ret := none) (by decide) rfl ?_
  intro p e s m args below meth c s₁ B hml hv
  obtain ⟨rfl, hsz, hP, hG, hD0, hT⟩ := hv
  have hx := B.exec
  have hb := B.bytes
  have hr := B.returns
  have hts := atoms_spec (ws := vs_e_fill96) B.pre
  have hown : s.vm.findClass RJ7 = some m.cls := findClass_of_methodNamed B.named
  have hlocks := B.notSynchronized
  subst hsz
  have hD := hD0.self (sz := s.heap.size)
  generalize hAe : va_A [zI fa (cy 0) 96 ff] s.heap.size = A at hD hT ⊢
  have hA : ∀ q : Nat, s.heap.size ≤ q → A q := fun q h => by rw [← hAe]; exact Or.inr h
  have hS : va_S A s.heap s.heap [] := va_S.rf
  have hl0 := lv_entry ([vR fa, vI v]) (n := 4) (Nat.le_of_ble_eq_true rfl)
  rw [lg_entry_eq]
  generalize (lg_sl ([vR fa, vI v]) ++ List.replicate (4 - (lg_sl ([vR fa, vI v])).length) Slot.unset).toArray = ls at hl0 ⊢
  have hlv : lv_has ls 4 [(0, vR fa), (1, vI v)] := hl0
  refine lv_iconst (v := iI 0) hx hb dJ7_fill_53178_0 (by decide) ?_
  refine lv_istore_n (lv' := [(2, vI 0), (0, vR fa), (1, vI v)]) hx hb dJ7_fill_53178_1 rfl hlv (by decide) rfl (fun ls hlv => ?_)
  refine lv_aload_n hx hb dJ7_fill_53178_2 rfl (lv_at hlv 1 rfl) ?_
  refine va_alen (v := iI 96) hx hb hG.1 hP 0 0 rfl rfl (iI_nI _) dJ7_fill_53178_3 ?_
  refine lv_istore_n (lv' := [(3, vI 96), (2, vI 0), (0, vR fa), (1, vI v)]) hx hb dJ7_fill_53178_4 rfl hlv (by decide) rfl (fun ls hlv => ?_)
  refine (?_ : ∀ (fu : Nat) (x : Int) (fg : Nat → Int32) (H : Heap) (locs : List Loc) (ls : Array Slot), 96 - x < (fu : Int) → (0 ≤ x ∧ x ≤ 96) → (∀ j : Nat, (j : Int) < x → nz fg j = v) → inv_ 96 0 99 fg → va_P D vwCl [zI fa (cy 0) 96 fg] H → va_D A [zI fa (cy 0) 96 fg] → va_S A s.heap H locs → lv_has ls 4 [(3, vI 96), (2, vI x), (0, vR fa), (1, vI v)] → W p l e _ s m _ below meth c H locs _ _ _ (F0 m 5 ls [])) (((96 - 0) + 1 : Int)).toNat 0 ff _ _ _ (by omega) (by show (0 : Int) ≤ 0 ∧ (0 : Int) ≤ 96; decide) (fun j h9 => absurd h9 (by omega)) hff hP hD hS hlv
  clear hP hD hS hlv
  intro fu
  induction fu with
  | zero => intro x fg H locs ls hm5 hl5_0 hl5_1 hifg hP hD hS hlv; omega
  | succ fu ih5 =>
    intro x fg H locs ls hm5 hl5_0 hl5_1 hifg hP hD hS hlv
    refine lv_iload_n hx hb dJ7_fill_53178_5 rfl (lv_at hlv 1 rfl) ?_
    refine lv_iload_n hx hb dJ7_fill_53178_6 rfl (lv_at hlv 0 rfl) ?_
    refine ir_ge (tgt := 20) hx hb dJ7_fill_53178_7 (by decide) (by first | exact rgw hl5_0 (by decide) (by decide) | omega) (by show ((-2147483648) : Int) ≤ 96 ∧ (96 : Int) ≤ 2147483647; decide) (fun c_1 => ?_) (fun c_1 => ?_)
    · refine W.widen (k := 0) (n := 0) (Nat.le_of_ble_eq_true rfl) (Nat.le_of_ble_eq_true rfl) ?_
      exact W.vret hx hb hr (fun t ht hW => ⟨⟨((fun k => ([] : List Nat).getD k 0), (fun k => ([] : List Int).getD k 0), (fun k => ([fg] : List (Nat → Int32)).getD k (fun _ => 0))), rfl, ⟨(by show (∀ j : Nat, j < 96 → nz (fg) j = v); exact (fun j h9 => hl5_1 j (by omega))), hifg⟩, at9 ht hP hD [0] (by decide +kernel) rfl⟩, hS.F ht⟩) hS.2.2 dJ7_fill_53178_20
    · refine lv_aload_n hx hb dJ7_fill_53178_10 rfl (lv_at hlv 2 rfl) ?_
      refine lv_iload_n hx hb dJ7_fill_53178_11 rfl (lv_at hlv 1 rfl) ?_
      refine lv_iload_n hx hb dJ7_fill_53178_12 rfl (lv_at hlv 3 rfl) ?_
      refine va_iast hx hb hG.1 hP hD hS 0 0 rfl rfl (iI_in (by omega) (by decide)) dJ7_fill_53178_13 (fun H locs hP hD hS => ?_)
      obtain ⟨f_2, hdf_2, hP, hD⟩ := pe9e (fun f_2 => [zI fa (cy 0) 96 f_2]) (upd fg (iI x).toNatClampNeg (iI v)) hP hD
      have hif_2 : inv_ 96 0 99 f_2 := by rw [hdf_2]; exact inv_wr hifg (by omega)
      obtain ⟨z_3, hz_3⟩ : ∃ z : Int, z = x + 1 := ⟨_, rfl⟩
      refine lv_iinc (v := iI z_3) (lv' := [(2, vI z_3), (3, vI 96), (0, vR fa), (1, vI v)]) hx hb dJ7_fill_53178_14 hlv (k := 1) rfl (by rw [hz_3]; exact (Int32.ofInt_add _ _).symm) (by decide) rfl (fun ls hlv => ?_)
      refine lv_goto (tgt := 5) hx hb dJ7_fill_53178_17 (by decide) ?_
      exact ih5 z_3 f_2 H locs ls (by omega) (by omega) (fun j h9 => by by_cases q9 : (j : Int) = x; exact nz_us hdf_2 (by omega) (by omega) q9; rw [nz_un hdf_2 (by omega) q9]; exact hl5_1 j (by omega)) hif_2 (hP.sub [0] rfl) (hD.sub [0] (by decide) rfl) hS (lv_sub hlv [1, 0, 2, 3] rfl)
def vs_e_sreset : List Cond := .code yX6_reset cX6_reset 1 none :: (([.fieldLink RX6 28 "KerbSplash$Street" "wide" "I", .fieldLink RX6 32 "KerbSplash$Street" "rows" "I", .fieldLink RX6 9 "KerbSplash$Street" "height" "[I", .fieldLink RX6 13 "KerbSplash$Street" "water" "[I", .fieldLink RX6 41 "KerbSplash$Street" "drains" "I", .fieldLink RX6 44 "KerbSplash$Street" "drainsTold" "I", .fieldLink RX6 47 "KerbSplash$Street" "persons" "I", .fieldLink RX6 50 "KerbSplash$Street" "guesses" "I", .fieldLink RX6 53 "KerbSplash$Street" "shelters" "I", .fieldLink RX6 56 "KerbSplash$Street" "works" "I", .fieldLink RX6 59 "KerbSplash$Street" "done" "I", .fieldLink RX6 62 "KerbSplash$Street" "minutes" "I", .fieldLink RX6 65 "KerbSplash$Street" "fallen" "I", .fieldLink RX6 68 "KerbSplash$Street" "taken" "I", .fieldLink RX6 71 "KerbSplash$Street" "gone" "I"] : List Cond) ++ ((wsX60) ++ ((va_wsS RX6 35 yJ7_fill_53178 vs_e_fill96) ++ ((va_wsS RX6 35 yJ7_fill_53178 vs_e_fill96a) ++ ([])))))
theorem gd_e_sreset : vs_e_sreset.all goodWord = true := gd_C (by decide +kernel) (gd_A (by decide +kernel) (gd_A (by decide +kernel) (gd_A (gd_S gd_e_fill96 (by decide +kernel)) (gd_A (gd_S gd_e_fill96a (by decide +kernel)) rfl))))
set_option maxHeartbeats 4000000 in
set_option maxRecDepth 100000 in
theorem e_sreset (l : Launch) (hl : l.stackTraces = false) (D : va_G) (cy : Nat → ClassId) (sa : Nat → Nat) (sA s2 s3 s6 s8 s11 s13 : Nat) (wi ro dr dt pe gu sh wo dn mi fl tk go : Int) (hf wf : Nat → Int32) (sz : Nat) (hr_wi : 0 ≤ wi ∧ wi ≤ 16) (hr_ro : 0 ≤ ro ∧ ro ≤ 6) (hr_dr : 0 ≤ dr ∧ dr ≤ 14) (hr_dt : 0 ≤ dt ∧ dt ≤ 6) (hr_pe : 0 ≤ pe ∧ pe ≤ 8) (hr_gu : 0 ≤ gu ∧ gu ≤ 20) (hr_sh : 0 ≤ sh ∧ sh ≤ 2) (hr_wo : 0 ≤ wo ∧ wo ≤ 8) (hr_dn : (-2147483648) ≤ dn ∧ dn ≤ 2147483647) (hr_mi : 0 ≤ mi ∧ mi ≤ 600) (hr_fl : (-2147483648) ≤ fl ∧ fl ≤ 2147483647) (hr_tk : (-2147483648) ≤ tk ∧ tk ≤ 2147483647) (hr_go : (-2147483648) ≤ go ∧ go ≤ 2147483647) (hhf : inv_ 96 0 99 hf) : mV9 l yX6_reset vs_e_sreset ({ frames := 1, cells := 0, slots := 0, locals := 23 }) D cy sa sz [vR sA] [zO sA 6 [vI wi, vI ro, vR s2, vR s3, vI dr, vI dt, vR s6, vI pe, vR s8, vI gu, vI sh, vR s11, vI wo, vR s13, vI dn, vI mi, vI fl, vI tk, vI go], zI s2 (cy 0) 96 hf, zI s3 (cy 0) 96 wf] (fun u : SV => (∀ j : Nat, j < 96 → nz (u.2.2 0) j = 50) ∧ (∀ j : Nat, j < 96 → nz (u.2.2 1) j = 0) ∧ inv_ 96 0 99 (u.2.2 0)) (fun u : SV => [zO sA 6 [vI 8, vI 3, vR s2, vR s3, vI 0, vI 0, vR s6, vI 0, vR s8, vI 0, vI 0, vR s11, vI 0, vR s13, vI 0, vI 0, vI 0, vI 0, vI 0], zI s2 (cy 0) 96 (u.2.2 0), zI s3 (cy 0) 96 (u.2.2 1)]) 0 0 := by
  refine Met.ofW (cc := cX6_reset) (maxL := 1) (ret := none) (by decide) rfl ?_
  intro p e s m args below meth c s₁ B hml hv
  obtain ⟨rfl, hsz, hP, hG, hD0, hT⟩ := hv
  have hx := B.exec
  have hb := B.bytes
  have hr := B.returns
  have hts := atoms_spec (ws := vs_e_sreset) B.pre
  have hown : s.vm.findClass RX6 = some m.cls := findClass_of_methodNamed B.named
  have hlocks := B.notSynchronized
  subst hsz
  have hD := hD0.self (sz := s.heap.size)
  generalize hAe : va_A [zO sA 6 [vI wi, vI ro, vR s2, vR s3, vI dr, vI dt, vR s6, vI pe, vR s8, vI gu, vI sh, vR s11, vI wo, vR s13, vI dn, vI mi, vI fl, vI tk, vI go], zI s2 (cy 0) 96 hf, zI s3 (cy 0) 96 wf] s.heap.size = A at hD hT ⊢
  have hA : ∀ q : Nat, s.heap.size ≤ q → A q := fun q h => by rw [← hAe]; exact Or.inr h
  have hS : va_S A s.heap s.heap [] := va_S.rf
  have hl0 := lv_entry ([vR sA]) (n := 1) (Nat.le_of_ble_eq_true rfl)
  rw [lg_entry_eq]
  generalize (lg_sl ([vR sA]) ++ List.replicate (1 - (lg_sl ([vR sA])).length) Slot.unset).toArray = ls at hl0 ⊢
  have hlv : lv_has ls 1 [(0, vR sA)] := hl0
  have lf28 := hts (.fieldLink RX6 28 "KerbSplash$Street" "wide" "I") (List.mem_of_getElem? (i := 1) rfl)
  have hi6 : ∀ w ∈ wsX60, w ∈ vs_e_sreset := fun w h => List.mem_cons_of_mem _ (List.mem_append_right _ (List.mem_append_left _ h))
  have lf32 := hts (.fieldLink RX6 32 "KerbSplash$Street" "rows" "I") (List.mem_of_getElem? (i := 2) rfl)
  have lf9 := hts (.fieldLink RX6 9 "KerbSplash$Street" "height" "[I") (List.mem_of_getElem? (i := 3) rfl)
  have gg_1 : GoodIn vs_e_sreset (va_wsS RX6 35 yJ7_fill_53178 vs_e_fill96) := goodIn_sub (fun w h => List.mem_cons_of_mem _ (List.mem_append_right _ (List.mem_append_right _ (List.mem_append_left _ h)))) (gd_S gd_e_fill96 (by decide +kernel))
  have lf13 := hts (.fieldLink RX6 13 "KerbSplash$Street" "water" "[I") (List.mem_of_getElem? (i := 4) rfl)
  have gg_2 : GoodIn vs_e_sreset (va_wsS RX6 35 yJ7_fill_53178 vs_e_fill96a) := goodIn_sub (fun w h => List.mem_cons_of_mem _ (List.mem_append_right _ (List.mem_append_right _ (List.mem_append_right _ (List.mem_append_left _ h))))) (gd_S gd_e_fill96a (by decide +kernel))
  have lf41 := hts (.fieldLink RX6 41 "KerbSplash$Street" "drains" "I") (List.mem_of_getElem? (i := 5) rfl)
  have lf44 := hts (.fieldLink RX6 44 "KerbSplash$Street" "drainsTold" "I") (List.mem_of_getElem? (i := 6) rfl)
  have lf47 := hts (.fieldLink RX6 47 "KerbSplash$Street" "persons" "I") (List.mem_of_getElem? (i := 7) rfl)
  have lf50 := hts (.fieldLink RX6 50 "KerbSplash$Street" "guesses" "I") (List.mem_of_getElem? (i := 8) rfl)
  have lf53 := hts (.fieldLink RX6 53 "KerbSplash$Street" "shelters" "I") (List.mem_of_getElem? (i := 9) rfl)
  have lf56 := hts (.fieldLink RX6 56 "KerbSplash$Street" "works" "I") (List.mem_of_getElem? (i := 10) rfl)
  have lf59 := hts (.fieldLink RX6 59 "KerbSplash$Street" "done" "I") (List.mem_of_getElem? (i := 11) rfl)
  have lf62 := hts (.fieldLink RX6 62 "KerbSplash$Street" "minutes" "I") (List.mem_of_getElem? (i := 12) rfl)
  have lf65 := hts (.fieldLink RX6 65 "KerbSplash$Street" "fallen" "I") (List.mem_of_getElem? (i := 13) rfl)
  have lf68 := hts (.fieldLink RX6 68 "KerbSplash$Street" "taken" "I") (List.mem_of_getElem? (i := 14) rfl)
  have lf71 := hts (.fieldLink RX6 71 "KerbSplash$Street" "gone" "I") (List.mem_of_getElem? (i := 15) rfl)
  refine lv_aload_n hx hb dX6_reset_0 rfl (lv_at hlv 0 rfl) ?_
  refine lv_bipush (v := iI 8) hx hb dX6_reset_1 (by decide) ?_
  refine va_put (D := D) (ci := 6) (v := vI 8) (ty := .int) (C := RX6) (T := TX6) (N := 19) hx hb hts hi6 tyX6 tyX6_ok nmX6 hown hG.1 hP hD hS 0 rfl rfl 0 (by decide) lf28 (fun _ h9 => h9) rfl (by decide +kernel) rfl rfl (Nat.le_of_ble_eq_true rfl) dX6_reset_3 (fun H locs hP hD hS => ?_)
  obtain ⟨hP, hD⟩ := pw9 [zO sA 6 [vI 8, vI ro, vR s2, vR s3, vI dr, vI dt, vR s6, vI pe, vR s8, vI gu, vI sh, vR s11, vI wo, vR s13, vI dn, vI mi, vI fl, vI tk, vI go], zI s2 (cy 0) 96 hf, zI s3 (cy 0) 96 wf] hP hD
  refine lv_aload_n hx hb dX6_reset_6 rfl (lv_at hlv 0 rfl) ?_
  refine lv_iconst (v := iI 3) hx hb dX6_reset_7 (by decide) ?_
  refine va_put (D := D) (ci := 6) (v := vI 3) (ty := .int) (C := RX6) (T := TX6) (N := 19) hx hb hts hi6 tyX6 tyX6_ok nmX6 hown hG.1 hP hD hS 0 rfl rfl 1 (by decide) lf32 (fun _ h9 => h9) rfl (by decide +kernel) rfl rfl (Nat.le_of_ble_eq_true rfl) dX6_reset_8 (fun H locs hP hD hS => ?_)
  obtain ⟨hP, hD⟩ := pw9 [zO sA 6 [vI 8, vI 3, vR s2, vR s3, vI dr, vI dt, vR s6, vI pe, vR s8, vI gu, vI sh, vR s11, vI wo, vR s13, vI dn, vI mi, vI fl, vI tk, vI go], zI s2 (cy 0) 96 hf, zI s3 (cy 0) 96 wf] hP hD
  refine lv_aload_n hx hb dX6_reset_11 rfl (lv_at hlv 0 rfl) ?_
  refine va_get (D := D) (ci := 6) (v := vR s2) (C := RX6) (T := TX6) (N := 19) hx hb hts hi6 hown hG.1 hP 0 rfl rfl 2 (by decide) lf9 (fun _ h9 => h9) rfl dX6_reset_12 ?_
  refine lv_bipush (v := iI 50) hx hb dX6_reset_15 (by decide) ?_
  refine cjr_v [true, false, true] (fun pre9 => (va_runS (As := [vR s2, vI 50]) (rest := []) ⟨hx, hb, hml, hown, hts⟩ (e_fill96 l hl D cy sa s2 hf 50 H.size (by show (0 : Int) ≤ 50 ∧ (50 : Int) ≤ 99; decide) hhf) (va_cwS 2 hts gg_1 rfl rfl rfl (by decide +kernel) ⟨Nat.le_of_ble_eq_true rfl, Nat.le_of_ble_eq_true rfl⟩) ⟨pcW.blind, pre9⟩ rfl rfl hlv.1 rfl (lv_room (Nat.le_of_ble_eq_true rfl)) dX6_reset_17 ⟨Nat.le_of_ble_eq_true rfl, Nat.le_of_ble_eq_true rfl⟩)) hP hD hS hA hG hT [1] rfl (by decide +kernel) (fun u1 H locs hw1 hq9 hS => ?_)
  obtain ⟨hq1_0, hq1_1⟩ := hw1
  obtain ⟨hP, hD⟩ := pd9 [zO sA 6 [vI 8, vI 3, vR s2, vR s3, vI dr, vI dt, vR s6, vI pe, vR s8, vI gu, vI sh, vR s11, vI wo, vR s13, vI dn, vI mi, vI fl, vI tk, vI go], zI s3 (cy 0) 96 wf, zI s2 (cy 0) 96 (u1.2.2 0)] hq9
  refine lv_aload_n hx hb dX6_reset_20 rfl (lv_at hlv 0 rfl) ?_
  refine va_get (D := D) (ci := 6) (v := vR s3) (C := RX6) (T := TX6) (N := 19) hx hb hts hi6 hown hG.1 hP 0 rfl rfl 3 (by decide) lf13 (fun _ h9 => h9) rfl dX6_reset_21 ?_
  refine lv_iconst (v := iI 0) hx hb dX6_reset_24 (by decide) ?_
  refine cjr_v [true, false, true] (fun pre9 => (va_runS (As := [vR s3, vI 0]) (rest := []) ⟨hx, hb, hml, hown, hts⟩ (e_fill96a l hl D cy sa s3 wf 0 H.size (by show ((-2147483648) : Int) ≤ 0 ∧ (0 : Int) ≤ 2147483647; decide)) (va_cwS 2 hts gg_2 rfl rfl rfl (by decide +kernel) ⟨Nat.le_of_ble_eq_true rfl, Nat.le_of_ble_eq_true rfl⟩) ⟨pcW.blind, pre9⟩ rfl rfl hlv.1 rfl (lv_room (Nat.le_of_ble_eq_true rfl)) dX6_reset_25 ⟨Nat.le_of_ble_eq_true rfl, Nat.le_of_ble_eq_true rfl⟩)) hP hD hS hA hG hT [1] rfl (by decide +kernel) (fun u2 H locs hw2 hq9 hS => ?_)
  have hq2_0 : (∀ j : Nat, j < 96 → nz (u2.2.2 0) j = 0) := hw2
  obtain ⟨hP, hD⟩ := pd9 [zO sA 6 [vI 8, vI 3, vR s2, vR s3, vI dr, vI dt, vR s6, vI pe, vR s8, vI gu, vI sh, vR s11, vI wo, vR s13, vI dn, vI mi, vI fl, vI tk, vI go], zI s2 (cy 0) 96 (u1.2.2 0), zI s3 (cy 0) 96 (u2.2.2 0)] hq9
  refine lv_aload_n hx hb dX6_reset_28 rfl (lv_at hlv 0 rfl) ?_
  refine lv_iconst (v := iI 0) hx hb dX6_reset_29 (by decide) ?_
  refine va_put (D := D) (ci := 6) (v := vI 0) (ty := .int) (C := RX6) (T := TX6) (N := 19) hx hb hts hi6 tyX6 tyX6_ok nmX6 hown hG.1 hP hD hS 0 rfl rfl 4 (by decide) lf41 (fun _ h9 => h9) rfl (by decide +kernel) rfl rfl (Nat.le_of_ble_eq_true rfl) dX6_reset_30 (fun H locs hP hD hS => ?_)
  obtain ⟨hP, hD⟩ := pw9 [zO sA 6 [vI 8, vI 3, vR s2, vR s3, vI 0, vI dt, vR s6, vI pe, vR s8, vI gu, vI sh, vR s11, vI wo, vR s13, vI dn, vI mi, vI fl, vI tk, vI go], zI s2 (cy 0) 96 (u1.2.2 0), zI s3 (cy 0) 96 (u2.2.2 0)] hP hD
  refine lv_aload_n hx hb dX6_reset_33 rfl (lv_at hlv 0 rfl) ?_
  refine lv_iconst (v := iI 0) hx hb dX6_reset_34 (by decide) ?_
  refine va_put (D := D) (ci := 6) (v := vI 0) (ty := .int) (C := RX6) (T := TX6) (N := 19) hx hb hts hi6 tyX6 tyX6_ok nmX6 hown hG.1 hP hD hS 0 rfl rfl 5 (by decide) lf44 (fun _ h9 => h9) rfl (by decide +kernel) rfl rfl (Nat.le_of_ble_eq_true rfl) dX6_reset_35 (fun H locs hP hD hS => ?_)
  obtain ⟨hP, hD⟩ := pw9 [zO sA 6 [vI 8, vI 3, vR s2, vR s3, vI 0, vI 0, vR s6, vI pe, vR s8, vI gu, vI sh, vR s11, vI wo, vR s13, vI dn, vI mi, vI fl, vI tk, vI go], zI s2 (cy 0) 96 (u1.2.2 0), zI s3 (cy 0) 96 (u2.2.2 0)] hP hD
  refine lv_aload_n hx hb dX6_reset_38 rfl (lv_at hlv 0 rfl) ?_
  refine lv_iconst (v := iI 0) hx hb dX6_reset_39 (by decide) ?_
  refine va_put (D := D) (ci := 6) (v := vI 0) (ty := .int) (C := RX6) (T := TX6) (N := 19) hx hb hts hi6 tyX6 tyX6_ok nmX6 hown hG.1 hP hD hS 0 rfl rfl 7 (by decide) lf47 (fun _ h9 => h9) rfl (by decide +kernel) rfl rfl (Nat.le_of_ble_eq_true rfl) dX6_reset_40 (fun H locs hP hD hS => ?_)
  obtain ⟨hP, hD⟩ := pw9 [zO sA 6 [vI 8, vI 3, vR s2, vR s3, vI 0, vI 0, vR s6, vI 0, vR s8, vI gu, vI sh, vR s11, vI wo, vR s13, vI dn, vI mi, vI fl, vI tk, vI go], zI s2 (cy 0) 96 (u1.2.2 0), zI s3 (cy 0) 96 (u2.2.2 0)] hP hD
  refine lv_aload_n hx hb dX6_reset_43 rfl (lv_at hlv 0 rfl) ?_
  refine lv_iconst (v := iI 0) hx hb dX6_reset_44 (by decide) ?_
  refine va_put (D := D) (ci := 6) (v := vI 0) (ty := .int) (C := RX6) (T := TX6) (N := 19) hx hb hts hi6 tyX6 tyX6_ok nmX6 hown hG.1 hP hD hS 0 rfl rfl 9 (by decide) lf50 (fun _ h9 => h9) rfl (by decide +kernel) rfl rfl (Nat.le_of_ble_eq_true rfl) dX6_reset_45 (fun H locs hP hD hS => ?_)
  obtain ⟨hP, hD⟩ := pw9 [zO sA 6 [vI 8, vI 3, vR s2, vR s3, vI 0, vI 0, vR s6, vI 0, vR s8, vI 0, vI sh, vR s11, vI wo, vR s13, vI dn, vI mi, vI fl, vI tk, vI go], zI s2 (cy 0) 96 (u1.2.2 0), zI s3 (cy 0) 96 (u2.2.2 0)] hP hD
  refine lv_aload_n hx hb dX6_reset_48 rfl (lv_at hlv 0 rfl) ?_
  refine lv_iconst (v := iI 0) hx hb dX6_reset_49 (by decide) ?_
  refine va_put (D := D) (ci := 6) (v := vI 0) (ty := .int) (C := RX6) (T := TX6) (N := 19) hx hb hts hi6 tyX6 tyX6_ok nmX6 hown hG.1 hP hD hS 0 rfl rfl 10 (by decide) lf53 (fun _ h9 => h9) rfl (by decide +kernel) rfl rfl (Nat.le_of_ble_eq_true rfl) dX6_reset_50 (fun H locs hP hD hS => ?_)
  obtain ⟨hP, hD⟩ := pw9 [zO sA 6 [vI 8, vI 3, vR s2, vR s3, vI 0, vI 0, vR s6, vI 0, vR s8, vI 0, vI 0, vR s11, vI wo, vR s13, vI dn, vI mi, vI fl, vI tk, vI go], zI s2 (cy 0) 96 (u1.2.2 0), zI s3 (cy 0) 96 (u2.2.2 0)] hP hD
  refine lv_aload_n hx hb dX6_reset_53 rfl (lv_at hlv 0 rfl) ?_
  refine lv_iconst (v := iI 0) hx hb dX6_reset_54 (by decide) ?_
  refine va_put (D := D) (ci := 6) (v := vI 0) (ty := .int) (C := RX6) (T := TX6) (N := 19) hx hb hts hi6 tyX6 tyX6_ok nmX6 hown hG.1 hP hD hS 0 rfl rfl 12 (by decide) lf56 (fun _ h9 => h9) rfl (by decide +kernel) rfl rfl (Nat.le_of_ble_eq_true rfl) dX6_reset_55 (fun H locs hP hD hS => ?_)
  obtain ⟨hP, hD⟩ := pw9 [zO sA 6 [vI 8, vI 3, vR s2, vR s3, vI 0, vI 0, vR s6, vI 0, vR s8, vI 0, vI 0, vR s11, vI 0, vR s13, vI dn, vI mi, vI fl, vI tk, vI go], zI s2 (cy 0) 96 (u1.2.2 0), zI s3 (cy 0) 96 (u2.2.2 0)] hP hD
  refine lv_aload_n hx hb dX6_reset_58 rfl (lv_at hlv 0 rfl) ?_
  refine lv_iconst (v := iI 0) hx hb dX6_reset_59 (by decide) ?_
  refine va_put (D := D) (ci := 6) (v := vI 0) (ty := .int) (C := RX6) (T := TX6) (N := 19) hx hb hts hi6 tyX6 tyX6_ok nmX6 hown hG.1 hP hD hS 0 rfl rfl 14 (by decide) lf59 (fun _ h9 => h9) rfl (by decide +kernel) rfl rfl (Nat.le_of_ble_eq_true rfl) dX6_reset_60 (fun H locs hP hD hS => ?_)
  obtain ⟨hP, hD⟩ := pw9 [zO sA 6 [vI 8, vI 3, vR s2, vR s3, vI 0, vI 0, vR s6, vI 0, vR s8, vI 0, vI 0, vR s11, vI 0, vR s13, vI 0, vI mi, vI fl, vI tk, vI go], zI s2 (cy 0) 96 (u1.2.2 0), zI s3 (cy 0) 96 (u2.2.2 0)] hP hD
  refine lv_aload_n hx hb dX6_reset_63 rfl (lv_at hlv 0 rfl) ?_
  refine lv_iconst (v := iI 0) hx hb dX6_reset_64 (by decide) ?_
  refine va_put (D := D) (ci := 6) (v := vI 0) (ty := .int) (C := RX6) (T := TX6) (N := 19) hx hb hts hi6 tyX6 tyX6_ok nmX6 hown hG.1 hP hD hS 0 rfl rfl 15 (by decide) lf62 (fun _ h9 => h9) rfl (by decide +kernel) rfl rfl (Nat.le_of_ble_eq_true rfl) dX6_reset_65 (fun H locs hP hD hS => ?_)
  obtain ⟨hP, hD⟩ := pw9 [zO sA 6 [vI 8, vI 3, vR s2, vR s3, vI 0, vI 0, vR s6, vI 0, vR s8, vI 0, vI 0, vR s11, vI 0, vR s13, vI 0, vI 0, vI fl, vI tk, vI go], zI s2 (cy 0) 96 (u1.2.2 0), zI s3 (cy 0) 96 (u2.2.2 0)] hP hD
  refine lv_aload_n hx hb dX6_reset_68 rfl (lv_at hlv 0 rfl) ?_
  refine lv_iconst (v := iI 0) hx hb dX6_reset_69 (by decide) ?_
  refine va_put (D := D) (ci := 6) (v := vI 0) (ty := .int) (C := RX6) (T := TX6) (N := 19) hx hb hts hi6 tyX6 tyX6_ok nmX6 hown hG.1 hP hD hS 0 rfl rfl 16 (by decide) lf65 (fun _ h9 => h9) rfl (by decide +kernel) rfl rfl (Nat.le_of_ble_eq_true rfl) dX6_reset_70 (fun H locs hP hD hS => ?_)
  obtain ⟨hP, hD⟩ := pw9 [zO sA 6 [vI 8, vI 3, vR s2, vR s3, vI 0, vI 0, vR s6, vI 0, vR s8, vI 0, vI 0, vR s11, vI 0, vR s13, vI 0, vI 0, vI 0, vI tk, vI go], zI s2 (cy 0) 96 (u1.2.2 0), zI s3 (cy 0) 96 (u2.2.2 0)] hP hD
  refine lv_aload_n hx hb dX6_reset_73 rfl (lv_at hlv 0 rfl) ?_
  refine lv_iconst (v := iI 0) hx hb dX6_reset_74 (by decide) ?_
  refine va_put (D := D) (ci := 6) (v := vI 0) (ty := .int) (C := RX6) (T := TX6) (N := 19) hx hb hts hi6 tyX6 tyX6_ok nmX6 hown hG.1 hP hD hS 0 rfl rfl 17 (by decide) lf68 (fun _ h9 => h9) rfl (by decide +kernel) rfl rfl (Nat.le_of_ble_eq_true rfl) dX6_reset_75 (fun H locs hP hD hS => ?_)
  obtain ⟨hP, hD⟩ := pw9 [zO sA 6 [vI 8, vI 3, vR s2, vR s3, vI 0, vI 0, vR s6, vI 0, vR s8, vI 0, vI 0, vR s11, vI 0, vR s13, vI 0, vI 0, vI 0, vI 0, vI go], zI s2 (cy 0) 96 (u1.2.2 0), zI s3 (cy 0) 96 (u2.2.2 0)] hP hD
  refine lv_aload_n hx hb dX6_reset_78 rfl (lv_at hlv 0 rfl) ?_
  refine lv_iconst (v := iI 0) hx hb dX6_reset_79 (by decide) ?_
  refine va_put (D := D) (ci := 6) (v := vI 0) (ty := .int) (C := RX6) (T := TX6) (N := 19) hx hb hts hi6 tyX6 tyX6_ok nmX6 hown hG.1 hP hD hS 0 rfl rfl 18 (by decide) lf71 (fun _ h9 => h9) rfl (by decide +kernel) rfl rfl (Nat.le_of_ble_eq_true rfl) dX6_reset_80 (fun H locs hP hD hS => ?_)
  obtain ⟨hP, hD⟩ := pw9 [zO sA 6 [vI 8, vI 3, vR s2, vR s3, vI 0, vI 0, vR s6, vI 0, vR s8, vI 0, vI 0, vR s11, vI 0, vR s13, vI 0, vI 0, vI 0, vI 0, vI 0], zI s2 (cy 0) 96 (u1.2.2 0), zI s3 (cy 0) 96 (u2.2.2 0)] hP hD
  refine W.widen (k := 0) (n := 0) (Nat.le_of_ble_eq_true rfl) (Nat.le_of_ble_eq_true rfl) ?_
  exact W.vret hx hb hr (fun t ht hW => ⟨⟨((fun k => ([] : List Nat).getD k 0), (fun k => ([] : List Int).getD k 0), (fun k => ([(u1.2.2 0), (u2.2.2 0)] : List (Nat → Int32)).getD k (fun _ => 0))), rfl, ⟨(by show (∀ j : Nat, j < 96 → nz ((u1.2.2 0)) j = 50); exact hq1_0), (by show (∀ j : Nat, j < 96 → nz ((u2.2.2 0)) j = 0); exact hq2_0), hq1_1⟩, at9 ht hP hD [0, 1, 2] (by decide +kernel) rfl⟩, hS.F ht⟩) hS.2.2 dX6_reset_83
end
section

def vs_e_putPerson : List Cond := .code yX6_putPerson cX6_putPerson 5 none :: (([.fieldLink RX6 19 "KerbSplash$Street" "person" "[I"] : List Cond) ++ ((wsX60) ++ ([])))
theorem gd_e_putPerson : vs_e_putPerson.all goodWord = true := gd_C (by decide +kernel) (gd_A (by decide +kernel) (gd_A (by decide +kernel) rfl))
set_option maxHeartbeats 4000000 in
set_option maxRecDepth 100000 in
theorem e_putPerson (l : Launch) (hl : l.stackTraces = false) (D : va_G) (cy : Nat → ClassId) (sa : Nat → Nat) (sA s2 s3 s6 s8 s11 s13 : Nat) (wi ro dr dt pe gu sh wo dn mi fl tk go : Int) (pf : Nat → Int32) (k x f : Int) (sz : Nat) (hr_wi : 0 ≤ wi ∧ wi ≤ 16) (hr_ro : 0 ≤ ro ∧ ro ≤ 6) (hr_dr : 0 ≤ dr ∧ dr ≤ 14) (hr_dt : 0 ≤ dt ∧ dt ≤ 6) (hr_pe : 0 ≤ pe ∧ pe ≤ 8) (hr_gu : 0 ≤ gu ∧ gu ≤ 20) (hr_sh : 0 ≤ sh ∧ sh ≤ 2) (hr_wo : 0 ≤ wo ∧ wo ≤ 8) (hr_dn : (-2147483648) ≤ dn ∧ dn ≤ 2147483647) (hr_mi : 0 ≤ mi ∧ mi ≤ 600) (hr_fl : (-2147483648) ≤ fl ∧ fl ≤ 2147483647) (hr_tk : (-2147483648) ≤ tk ∧ tk ≤ 2147483647) (hr_go : (-2147483648) ≤ go ∧ go ≤ 2147483647) (hr_k : 0 ≤ k ∧ k ≤ 27) (hr_x : 0 ≤ x ∧ x ≤ 15) (hr_f : 0 ≤ f ∧ f ≤ 19) (hpf : tab_ 4 28 [0, 0, (-2147483648), (-2147483648)] [15, 19, 2147483647, 2147483647] pf) : mV9 l yX6_putPerson vs_e_putPerson ({ frames := 0, cells := 0, slots := 0, locals := 0 }) D cy sa sz [vR sA, vI k, vI x, vI f] [zO sA 6 [vI wi, vI ro, vR s2, vR s3, vI dr, vI dt, vR s6, vI pe, vR s8, vI gu, vI sh, vR s11, vI wo, vR s13, vI dn, vI mi, vI fl, vI tk, vI go], zI s8 (cy 0) 112 pf] (fun u : SV => (nz (u.2.2 0) = (upz (upz (upz (upz (nz pf) (4 * k) x) (4 * k + 1) f) (4 * k + 2) 0) (4 * k + 3) 0)) ∧ tab_ 4 28 [0, 0, (-2147483648), (-2147483648)] [15, 19, 2147483647, 2147483647] (u.2.2 0)) (fun u : SV => [zO sA 6 [vI wi, vI ro, vR s2, vR s3, vI dr, vI dt, vR s6, vI pe, vR s8, vI gu, vI sh, vR s11, vI wo, vR s13, vI dn, vI mi, vI fl, vI tk, vI go], zI s8 (cy 0) 112 (u.2.2 0)]) 0 0 := by
  refine Met.ofW (cc := cX6_putPerson) (maxL := 5) (ret := none) (by decide) rfl ?_
  intro p e s m args below meth c s₁ B hml hv
  obtain ⟨rfl, hsz, hP, hG, hD0, hT⟩ := hv
  have hx := B.exec
  have hb := B.bytes
  have hr := B.returns
  have hts := atoms_spec (ws := vs_e_putPerson) B.pre
  have hown : s.vm.findClass RX6 = some m.cls := findClass_of_methodNamed B.named
  have hlocks := B.notSynchronized
  subst hsz
  have hD := hD0.self (sz := s.heap.size)
  generalize hAe : va_A [zO sA 6 [vI wi, vI ro, vR s2, vR s3, vI dr, vI dt, vR s6, vI pe, vR s8, vI gu, vI sh, vR s11, vI wo, vR s13, vI dn, vI mi, vI fl, vI tk, vI go], zI s8 (cy 0) 112 pf] s.heap.size = A at hD hT ⊢
  have hA : ∀ q : Nat, s.heap.size ≤ q → A q := fun q h => by rw [← hAe]; exact Or.inr h
  have hS : va_S A s.heap s.heap [] := va_S.rf
  have hl0 := lv_entry ([vR sA, vI k, vI x, vI f]) (n := 5) (Nat.le_of_ble_eq_true rfl)
  rw [lg_entry_eq]
  generalize (lg_sl ([vR sA, vI k, vI x, vI f]) ++ List.replicate (5 - (lg_sl ([vR sA, vI k, vI x, vI f])).length) Slot.unset).toArray = ls at hl0 ⊢
  have hlv : lv_has ls 5 [(0, vR sA), (1, vI k), (2, vI x), (3, vI f)] := hl0
  have lf19 := hts (.fieldLink RX6 19 "KerbSplash$Street" "person" "[I") (List.mem_of_getElem? (i := 1) rfl)
  have hi6 : ∀ w ∈ wsX60, w ∈ vs_e_putPerson := fun w h => List.mem_cons_of_mem _ (List.mem_append_right _ (List.mem_append_left _ h))
  refine lv_iconst (v := iI 4) hx hb dX6_putPerson_0 (by decide) ?_
  refine lv_iload_n hx hb dX6_putPerson_1 rfl (lv_at hlv 1 rfl) ?_
  refine lv_imul hx hb dX6_putPerson_2 ?_
  refine lt_e (e0 := 4 * k) (Int32.ofInt_mul _ _).symm (fun z_1 hz_1 => ?_)
  refine lv_istore (lv' := [(4, vI z_1), (0, vR sA), (1, vI k), (2, vI x), (3, vI f)]) hx hb dX6_putPerson_3 hlv (by decide) rfl (fun ls hlv => ?_)
  refine lv_iload hx hb dX6_putPerson_5 (lv_at hlv 0 rfl) ?_
  refine lv_iconst (v := iI 4) hx hb dX6_putPerson_7 (by decide) ?_
  refine lv_iadd hx hb dX6_putPerson_8 ?_
  refine lt_e (e0 := z_1 + 4) (Int32.ofInt_add _ _).symm (fun z_2 hz_2 => ?_)
  refine lv_aload_n hx hb dX6_putPerson_9 rfl (lv_at hlv 1 rfl) ?_
  refine va_get (D := D) (ci := 6) (v := vR s8) (C := RX6) (T := TX6) (N := 19) hx hb hts hi6 hown hG.1 hP 0 rfl rfl 8 (by decide) lf19 (fun _ h9 => h9) rfl dX6_putPerson_10 ?_
  refine va_alen (v := iI 112) hx hb hG.1 hP 1 0 rfl rfl (iI_nI _) dX6_putPerson_13 ?_
  refine ir_le (tgt := 18) hx hb dX6_putPerson_14 (by decide) (by omega) (by show ((-2147483648) : Int) ≤ 112 ∧ (112 : Int) ≤ 2147483647; decide) (fun c_3 => ?_) (fun c_3 => by exfalso; omega)
  refine lv_aload_n hx hb dX6_putPerson_18 rfl (lv_at hlv 1 rfl) ?_
  refine va_get (D := D) (ci := 6) (v := vR s8) (C := RX6) (T := TX6) (N := 19) hx hb hts hi6 hown hG.1 hP 0 rfl rfl 8 (by decide) lf19 (fun _ h9 => h9) rfl dX6_putPerson_19 ?_
  refine lv_iload hx hb dX6_putPerson_22 (lv_at hlv 0 rfl) ?_
  refine lv_iload_n hx hb dX6_putPerson_24 rfl (lv_at hlv 3 rfl) ?_
  refine va_iast hx hb hG.1 hP hD hS 1 0 rfl rfl (iI_in (by omega) (by decide)) dX6_putPerson_25 (fun H locs hP hD hS => ?_)
  have ⟨f_4, hdf_4, hP, hD⟩ : ∃ f_4 : Nat → Int32, f_4 = upd pf (iI z_1).toNatClampNeg (iI x) ∧ va_P D vwCl [zO sA 6 [vI wi, vI ro, vR s2, vR s3, vI dr, vI dt, vR s6, vI pe, vR s8, vI gu, vI sh, vR s11, vI wo, vR s13, vI dn, vI mi, vI fl, vI tk, vI go], zI s8 (cy 0) 112 f_4] H ∧ va_D A [zO sA 6 [vI wi, vI ro, vR s2, vR s3, vI dr, vI dt, vR s6, vI pe, vR s8, vI gu, vI sh, vR s11, vI wo, vR s13, vI dn, vI mi, vI fl, vI tk, vI go], zI s8 (cy 0) 112 f_4] := ⟨_, rfl, hP, hD⟩
  have hif_4 : tab_ 4 28 [0, 0, (-2147483648), (-2147483648)] [15, 19, 2147483647, 2147483647] f_4 := by rw [hdf_4]; exact tab_wr hpf (e := z_1) (k := k) (c := 0) (a := 0) (b := 15) (by omega) (by omega) (by decide) (by omega) rfl rfl (by omega)
  refine lv_aload_n hx hb dX6_putPerson_26 rfl (lv_at hlv 1 rfl) ?_
  refine va_get (D := D) (ci := 6) (v := vR s8) (C := RX6) (T := TX6) (N := 19) hx hb hts hi6 hown hG.1 hP 0 rfl rfl 8 (by decide) lf19 (fun _ h9 => h9) rfl dX6_putPerson_27 ?_
  refine lv_iload hx hb dX6_putPerson_30 (lv_at hlv 0 rfl) ?_
  refine lv_iconst (v := iI 1) hx hb dX6_putPerson_32 (by decide) ?_
  refine lv_iadd hx hb dX6_putPerson_33 ?_
  refine lt_e (e0 := z_1 + 1) (Int32.ofInt_add _ _).symm (fun z_5 hz_5 => ?_)
  refine lv_iload_n hx hb dX6_putPerson_34 rfl (lv_at hlv 4 rfl) ?_
  refine va_iast hx hb hG.1 hP hD hS 1 0 rfl rfl (iI_in (by omega) (by decide)) dX6_putPerson_35 (fun H locs hP hD hS => ?_)
  have ⟨f_6, hdf_6, hP, hD⟩ : ∃ f_6 : Nat → Int32, f_6 = upd f_4 (iI z_5).toNatClampNeg (iI f) ∧ va_P D vwCl [zO sA 6 [vI wi, vI ro, vR s2, vR s3, vI dr, vI dt, vR s6, vI pe, vR s8, vI gu, vI sh, vR s11, vI wo, vR s13, vI dn, vI mi, vI fl, vI tk, vI go], zI s8 (cy 0) 112 f_6] H ∧ va_D A [zO sA 6 [vI wi, vI ro, vR s2, vR s3, vI dr, vI dt, vR s6, vI pe, vR s8, vI gu, vI sh, vR s11, vI wo, vR s13, vI dn, vI mi, vI fl, vI tk, vI go], zI s8 (cy 0) 112 f_6] := ⟨_, rfl, hP, hD⟩
  have hif_6 : tab_ 4 28 [0, 0, (-2147483648), (-2147483648)] [15, 19, 2147483647, 2147483647] f_6 := by rw [hdf_6]; exact tab_wr hif_4 (e := z_5) (k := k) (c := 1) (a := 0) (b := 19) (by omega) (by omega) (by decide) (by omega) rfl rfl (by omega)
  refine lv_aload_n hx hb dX6_putPerson_36 rfl (lv_at hlv 1 rfl) ?_
  refine va_get (D := D) (ci := 6) (v := vR s8) (C := RX6) (T := TX6) (N := 19) hx hb hts hi6 hown hG.1 hP 0 rfl rfl 8 (by decide) lf19 (fun _ h9 => h9) rfl dX6_putPerson_37 ?_
  refine lv_iload hx hb dX6_putPerson_40 (lv_at hlv 0 rfl) ?_
  refine lv_iconst (v := iI 2) hx hb dX6_putPerson_42 (by decide) ?_
  refine lv_iadd hx hb dX6_putPerson_43 ?_
  refine lt_e (e0 := z_1 + 2) (Int32.ofInt_add _ _).symm (fun z_7 hz_7 => ?_)
  refine lv_iconst (v := iI 0) hx hb dX6_putPerson_44 (by decide) ?_
  refine va_iast hx hb hG.1 hP hD hS 1 0 rfl rfl (iI_in (by omega) (by decide)) dX6_putPerson_45 (fun H locs hP hD hS => ?_)
  have ⟨f_8, hdf_8, hP, hD⟩ : ∃ f_8 : Nat → Int32, f_8 = upd f_6 (iI z_7).toNatClampNeg (iI 0) ∧ va_P D vwCl [zO sA 6 [vI wi, vI ro, vR s2, vR s3, vI dr, vI dt, vR s6, vI pe, vR s8, vI gu, vI sh, vR s11, vI wo, vR s13, vI dn, vI mi, vI fl, vI tk, vI go], zI s8 (cy 0) 112 f_8] H ∧ va_D A [zO sA 6 [vI wi, vI ro, vR s2, vR s3, vI dr, vI dt, vR s6, vI pe, vR s8, vI gu, vI sh, vR s11, vI wo, vR s13, vI dn, vI mi, vI fl, vI tk, vI go], zI s8 (cy 0) 112 f_8] := ⟨_, rfl, hP, hD⟩
  have hif_8 : tab_ 4 28 [0, 0, (-2147483648), (-2147483648)] [15, 19, 2147483647, 2147483647] f_8 := by rw [hdf_8]; exact tab_wr hif_6 (e := z_7) (k := k) (c := 2) (a := (-2147483648)) (b := 2147483647) (by omega) (by omega) (by decide) (by omega) rfl rfl (by omega)
  refine lv_aload_n hx hb dX6_putPerson_46 rfl (lv_at hlv 1 rfl) ?_
  refine va_get (D := D) (ci := 6) (v := vR s8) (C := RX6) (T := TX6) (N := 19) hx hb hts hi6 hown hG.1 hP 0 rfl rfl 8 (by decide) lf19 (fun _ h9 => h9) rfl dX6_putPerson_47 ?_
  refine lv_iload hx hb dX6_putPerson_50 (lv_at hlv 0 rfl) ?_
  refine lv_iconst (v := iI 3) hx hb dX6_putPerson_52 (by decide) ?_
  refine lv_iadd hx hb dX6_putPerson_53 ?_
  refine lt_e (e0 := z_1 + 3) (Int32.ofInt_add _ _).symm (fun z_9 hz_9 => ?_)
  refine lv_iconst (v := iI 0) hx hb dX6_putPerson_54 (by decide) ?_
  refine va_iast hx hb hG.1 hP hD hS 1 0 rfl rfl (iI_in (by omega) (by decide)) dX6_putPerson_55 (fun H locs hP hD hS => ?_)
  have ⟨f_10, hdf_10, hP, hD⟩ : ∃ f_10 : Nat → Int32, f_10 = upd f_8 (iI z_9).toNatClampNeg (iI 0) ∧ va_P D vwCl [zO sA 6 [vI wi, vI ro, vR s2, vR s3, vI dr, vI dt, vR s6, vI pe, vR s8, vI gu, vI sh, vR s11, vI wo, vR s13, vI dn, vI mi, vI fl, vI tk, vI go], zI s8 (cy 0) 112 f_10] H ∧ va_D A [zO sA 6 [vI wi, vI ro, vR s2, vR s3, vI dr, vI dt, vR s6, vI pe, vR s8, vI gu, vI sh, vR s11, vI wo, vR s13, vI dn, vI mi, vI fl, vI tk, vI go], zI s8 (cy 0) 112 f_10] := ⟨_, rfl, hP, hD⟩
  have hif_10 : tab_ 4 28 [0, 0, (-2147483648), (-2147483648)] [15, 19, 2147483647, 2147483647] f_10 := by rw [hdf_10]; exact tab_wr hif_8 (e := z_9) (k := k) (c := 3) (a := (-2147483648)) (b := 2147483647) (by omega) (by omega) (by decide) (by omega) rfl rfl (by omega)
  refine W.widen (k := 0) (n := 0) (Nat.le_of_ble_eq_true rfl) (Nat.le_of_ble_eq_true rfl) ?_
  exact W.vret hx hb hr (fun t ht hW => ⟨⟨((fun k => ([] : List Nat).getD k 0), (fun k => ([] : List Int).getD k 0), (fun k => ([f_10] : List (Nat → Int32)).getD k (fun _ => 0))), rfl, ⟨(by show (nz (f_10) = (upz (upz (upz (upz (nz pf) (4 * k) x) (4 * k + 1) f) (4 * k + 2) 0) (4 * k + 3) 0)); exact (upz_c (upz_c (upz_c (upz_c rfl hdf_4 (by omega) (by omega) (by omega) (by omega)) hdf_6 (by omega) (by omega) (by omega) (by omega)) hdf_8 (by omega) (by omega) (by omega) (by omega)) hdf_10 (by omega) (by omega) (by omega) (by omega))), hif_10⟩, at9 ht hP hD [0, 1] (by decide +kernel) rfl⟩, hS.F ht⟩) hS.2.2 dX6_putPerson_56
def vs_e_addPerson : List Cond := .code yX6_addPerson cX6_addPerson 3 none :: (([.fieldLink RX6 47 "KerbSplash$Street" "persons" "I"] : List Cond) ++ ((wsX60) ++ ((wsV RX6 84 RX6 yX6_putPerson vs_e_putPerson) ++ ([]))))
theorem gd_e_addPerson : vs_e_addPerson.all goodWord = true := gd_C (by decide +kernel) (gd_A (by decide +kernel) (gd_A (by decide +kernel) (gd_A (gd_V gd_e_putPerson (by decide +kernel)) rfl)))
set_option maxHeartbeats 4000000 in
set_option maxRecDepth 100000 in
theorem e_addPerson (l : Launch) (hl : l.stackTraces = false) (D : va_G) (cy : Nat → ClassId) (sa : Nat → Nat) (sA s2 s3 s6 s8 s11 s13 : Nat) (wi ro dr dt pe gu sh wo dn mi fl tk go : Int) (pf : Nat → Int32) (x f : Int) (sz : Nat) (hr_wi : 0 ≤ wi ∧ wi ≤ 16) (hr_ro : 0 ≤ ro ∧ ro ≤ 6) (hr_dr : 0 ≤ dr ∧ dr ≤ 14) (hr_dt : 0 ≤ dt ∧ dt ≤ 6) (hr_pe : 0 ≤ pe ∧ pe ≤ 8) (hr_gu : 0 ≤ gu ∧ gu ≤ 20) (hr_sh : 0 ≤ sh ∧ sh ≤ 2) (hr_wo : 0 ≤ wo ∧ wo ≤ 8) (hr_dn : (-2147483648) ≤ dn ∧ dn ≤ 2147483647) (hr_mi : 0 ≤ mi ∧ mi ≤ 600) (hr_fl : (-2147483648) ≤ fl ∧ fl ≤ 2147483647) (hr_tk : (-2147483648) ≤ tk ∧ tk ≤ 2147483647) (hr_go : (-2147483648) ≤ go ∧ go ≤ 2147483647) (hr_x : 0 ≤ x ∧ x ≤ 15) (hr_f : 0 ≤ f ∧ f ≤ 19) (hp0 : pe < 8) (hpf : tab_ 4 28 [0, 0, (-2147483648), (-2147483648)] [15, 19, 2147483647, 2147483647] pf) : mV9 l yX6_addPerson vs_e_addPerson ({ frames := 1, cells := 0, slots := 0, locals := 24 }) D cy sa sz [vR sA, vI x, vI f] [zO sA 6 [vI wi, vI ro, vR s2, vR s3, vI dr, vI dt, vR s6, vI pe, vR s8, vI gu, vI sh, vR s11, vI wo, vR s13, vI dn, vI mi, vI fl, vI tk, vI go], zI s8 (cy 0) 112 pf] (fun u : SV => (0 ≤ u.2.1 0 ∧ u.2.1 0 ≤ 8) ∧ (u.2.1 0 = pe + 1) ∧ (nz (u.2.2 0) = (upz (upz (upz (upz (nz pf) (4 * pe) x) (4 * pe + 1) f) (4 * pe + 2) 0) (4 * pe + 3) 0)) ∧ tab_ 4 28 [0, 0, (-2147483648), (-2147483648)] [15, 19, 2147483647, 2147483647] (u.2.2 0)) (fun u : SV => [zO sA 6 [vI wi, vI ro, vR s2, vR s3, vI dr, vI dt, vR s6, vI (u.2.1 0), vR s8, vI gu, vI sh, vR s11, vI wo, vR s13, vI dn, vI mi, vI fl, vI tk, vI go], zI s8 (cy 0) 112 (u.2.2 0)]) 0 0 := by
  refine Met.ofW (cc := cX6_addPerson) (maxL := 3) (ret := none) (by decide) rfl ?_
  intro p e s m args below meth c s₁ B hml hv
  obtain ⟨rfl, hsz, hP, hG, hD0, hT⟩ := hv
  have hx := B.exec
  have hb := B.bytes
  have hr := B.returns
  have hts := atoms_spec (ws := vs_e_addPerson) B.pre
  have hown : s.vm.findClass RX6 = some m.cls := findClass_of_methodNamed B.named
  have hlocks := B.notSynchronized
  subst hsz
  have hD := hD0.self (sz := s.heap.size)
  generalize hAe : va_A [zO sA 6 [vI wi, vI ro, vR s2, vR s3, vI dr, vI dt, vR s6, vI pe, vR s8, vI gu, vI sh, vR s11, vI wo, vR s13, vI dn, vI mi, vI fl, vI tk, vI go], zI s8 (cy 0) 112 pf] s.heap.size = A at hD hT ⊢
  have hA : ∀ q : Nat, s.heap.size ≤ q → A q := fun q h => by rw [← hAe]; exact Or.inr h
  have hS : va_S A s.heap s.heap [] := va_S.rf
  have hl0 := lv_entry ([vR sA, vI x, vI f]) (n := 3) (Nat.le_of_ble_eq_true rfl)
  rw [lg_entry_eq]
  generalize (lg_sl ([vR sA, vI x, vI f]) ++ List.replicate (3 - (lg_sl ([vR sA, vI x, vI f])).length) Slot.unset).toArray = ls at hl0 ⊢
  have hlv : lv_has ls 3 [(0, vR sA), (1, vI x), (2, vI f)] := hl0
  have lf47 := hts (.fieldLink RX6 47 "KerbSplash$Street" "persons" "I") (List.mem_of_getElem? (i := 1) rfl)
  have hi6 : ∀ w ∈ wsX60, w ∈ vs_e_addPerson := fun w h => List.mem_cons_of_mem _ (List.mem_append_right _ (List.mem_append_left _ h))
  have gg_1 : GoodIn vs_e_addPerson (wsV RX6 84 RX6 yX6_putPerson vs_e_putPerson) := goodIn_sub (fun w h => List.mem_cons_of_mem _ (List.mem_append_right _ (List.mem_append_right _ (List.mem_append_left _ h)))) (gd_V gd_e_putPerson (by decide +kernel))
  refine lv_aload_n hx hb dX6_addPerson_0 rfl (lv_at hlv 0 rfl) ?_
  refine lv_aload_n hx hb dX6_addPerson_1 rfl (lv_at hlv 0 rfl) ?_
  refine va_get (D := D) (ci := 6) (v := vI pe) (C := RX6) (T := TX6) (N := 19) hx hb hts hi6 hown hG.1 hP 0 rfl rfl 7 (by decide) lf47 (fun _ h9 => h9) rfl dX6_addPerson_2 ?_
  refine lv_iload_n hx hb dX6_addPerson_5 rfl (lv_at hlv 1 rfl) ?_
  refine lv_iload_n hx hb dX6_addPerson_6 rfl (lv_at hlv 2 rfl) ?_
  refine cjr_v [false, false] (fun pre9 => (va_runV (As := [vI pe, vI x, vI f]) (rest := []) ⟨hx, hb, hml, hown, hts⟩ (e_putPerson l hl D cy sa sA s2 s3 s6 s8 s11 s13 wi ro dr dt pe gu sh wo dn mi fl tk go pf pe x f s.heap.size (by first | exact hr_wi | omega) (by first | exact hr_ro | omega) (by first | exact hr_dr | omega) (by first | exact hr_dt | omega) (by first | exact hr_pe | omega) (by first | exact hr_gu | omega) (by first | exact hr_sh | omega) (by first | exact hr_wo | omega) (by first | exact hr_dn | omega) (by first | exact hr_mi | omega) (by first | exact hr_fl | omega) (by first | exact hr_tk | omega) (by first | exact hr_go | omega) (by first | exact rgw hr_pe (by decide) (by decide) | omega) (by first | exact hr_x | omega) (by first | exact hr_f | omega) hpf) (cwV 3 hts gg_1 rfl rfl rfl (by decide +kernel) ⟨Nat.le_of_ble_eq_true rfl, Nat.le_of_ble_eq_true rfl⟩) ⟨pcW.blind, (va_recv hG.1 hP (ci := 6) (q0 := 0) rfl rfl), pre9⟩ rfl rfl hlv.1 rfl (lv_room (Nat.le_of_ble_eq_true rfl)) dX6_addPerson_7 ⟨Nat.le_of_ble_eq_true rfl, Nat.le_of_ble_eq_true rfl⟩)) hP hD hS hA hG hT [0, 1] rfl (by decide +kernel) (fun u1 H locs hw1 hq9 hS => ?_)
  obtain ⟨hq1_0, hq1_1⟩ := hw1
  obtain ⟨hP, hD⟩ := pd9 [zO sA 6 [vI wi, vI ro, vR s2, vR s3, vI dr, vI dt, vR s6, vI pe, vR s8, vI gu, vI sh, vR s11, vI wo, vR s13, vI dn, vI mi, vI fl, vI tk, vI go], zI s8 (cy 0) 112 (u1.2.2 0)] hq9
  refine lv_aload_n hx hb dX6_addPerson_10 rfl (lv_at hlv 0 rfl) ?_
  refine lv_dup hx hb dX6_addPerson_11 rfl ?_
  refine va_get (D := D) (ci := 6) (v := vI pe) (C := RX6) (T := TX6) (N := 19) hx hb hts hi6 hown hG.1 hP 0 rfl rfl 7 (by decide) lf47 (fun _ h9 => h9) rfl dX6_addPerson_12 ?_
  refine lv_iconst (v := iI 1) hx hb dX6_addPerson_15 (by decide) ?_
  refine lv_iadd hx hb dX6_addPerson_16 ?_
  refine lt_e (e0 := pe + 1) (Int32.ofInt_add _ _).symm (fun z_1 hz_1 => ?_)
  refine va_put (D := D) (ci := 6) (v := vI z_1) (ty := .int) (C := RX6) (T := TX6) (N := 19) hx hb hts hi6 tyX6 tyX6_ok nmX6 hown hG.1 hP hD hS 0 rfl rfl 7 (by decide) lf47 (fun _ h9 => h9) rfl (by decide +kernel) rfl rfl (Nat.le_of_ble_eq_true rfl) dX6_addPerson_17 (fun H locs hP hD hS => ?_)
  obtain ⟨hP, hD⟩ := pw9 [zO sA 6 [vI wi, vI ro, vR s2, vR s3, vI dr, vI dt, vR s6, vI z_1, vR s8, vI gu, vI sh, vR s11, vI wo, vR s13, vI dn, vI mi, vI fl, vI tk, vI go], zI s8 (cy 0) 112 (u1.2.2 0)] hP hD
  refine W.widen (k := 0) (n := 0) (Nat.le_of_ble_eq_true rfl) (Nat.le_of_ble_eq_true rfl) ?_
  exact W.vret hx hb hr (fun t ht hW => ⟨⟨((fun k => ([] : List Nat).getD k 0), (fun k => ([z_1] : List Int).getD k 0), (fun k => ([(u1.2.2 0)] : List (Nat → Int32)).getD k (fun _ => 0))), rfl, ⟨(by show (0 ≤ z_1 ∧ z_1 ≤ 8); omega), (by show (z_1 = pe + 1); omega), (by show (nz ((u1.2.2 0)) = (upz (upz (upz (upz (nz pf) (4 * pe) x) (4 * pe + 1) f) (4 * pe + 2) 0) (4 * pe + 3) 0)); exact hq1_0), hq1_1⟩, at9 ht hP hD [0, 1] (by decide +kernel) rfl⟩, hS.F ht⟩) hS.2.2 dX6_addPerson_20
def vs_e_addDrain : List Cond := .code yX6_addDrain cX6_addDrain 6 none :: (([.fieldLink RX6 41 "KerbSplash$Street" "drains" "I", .fieldLink RX6 16 "KerbSplash$Street" "drain" "[I"] : List Cond) ++ ((wsX60) ++ ([])))
theorem gd_e_addDrain : vs_e_addDrain.all goodWord = true := gd_C (by decide +kernel) (gd_A (by decide +kernel) (gd_A (by decide +kernel) rfl))
set_option maxHeartbeats 4000000 in
set_option maxRecDepth 100000 in
theorem e_addDrain (l : Launch) (hl : l.stackTraces = false) (D : va_G) (cy : Nat → ClassId) (sa : Nat → Nat) (sA s2 s3 s6 s8 s11 s13 : Nat) (wi ro dr dt pe gu sh wo dn mi fl tk go : Int) (df : Nat → Int32) (x y ra lv : Int) (sz : Nat) (hr_wi : 0 ≤ wi ∧ wi ≤ 16) (hr_ro : 0 ≤ ro ∧ ro ≤ 6) (hr_dr : 0 ≤ dr ∧ dr ≤ 14) (hr_dt : 0 ≤ dt ∧ dt ≤ 6) (hr_pe : 0 ≤ pe ∧ pe ≤ 8) (hr_gu : 0 ≤ gu ∧ gu ≤ 20) (hr_sh : 0 ≤ sh ∧ sh ≤ 2) (hr_wo : 0 ≤ wo ∧ wo ≤ 8) (hr_dn : (-2147483648) ≤ dn ∧ dn ≤ 2147483647) (hr_mi : 0 ≤ mi ∧ mi ≤ 600) (hr_fl : (-2147483648) ≤ fl ∧ fl ≤ 2147483647) (hr_tk : (-2147483648) ≤ tk ∧ tk ≤ 2147483647) (hr_go : (-2147483648) ≤ go ∧ go ≤ 2147483647) (hr_x : 0 ≤ x ∧ x ≤ 15) (hr_y : 0 ≤ y ∧ y ≤ 5) (hr_ra : 0 ≤ ra ∧ ra ≤ 99) (hr_lv : 0 ≤ lv ∧ lv ≤ 16) (hp0 : dr < 14) (hdf : tab_ 4 14 [0, 0, 0, 0] [15, 5, 99, 16] df) : mV9 l yX6_addDrain vs_e_addDrain ({ frames := 0, cells := 0, slots := 0, locals := 0 }) D cy sa sz [vR sA, vI x, vI y, vI ra, vI lv] [zO sA 6 [vI wi, vI ro, vR s2, vR s3, vI dr, vI dt, vR s6, vI pe, vR s8, vI gu, vI sh, vR s11, vI wo, vR s13, vI dn, vI mi, vI fl, vI tk, vI go], zI s6 (cy 0) 56 df] (fun u : SV => (0 ≤ u.2.1 0 ∧ u.2.1 0 ≤ 14) ∧ (u.2.1 0 = dr + 1) ∧ (nz (u.2.2 0) = (upz (upz (upz (upz (nz df) (4 * dr) x) (4 * dr + 1) y) (4 * dr + 2) ra) (4 * dr + 3) lv)) ∧ tab_ 4 14 [0, 0, 0, 0] [15, 5, 99, 16] (u.2.2 0)) (fun u : SV => [zO sA 6 [vI wi, vI ro, vR s2, vR s3, vI (u.2.1 0), vI dt, vR s6, vI pe, vR s8, vI gu, vI sh, vR s11, vI wo, vR s13, vI dn, vI mi, vI fl, vI tk, vI go], zI s6 (cy 0) 56 (u.2.2 0)]) 0 0 := by
  refine Met.ofW (cc := cX6_addDrain) (maxL := 6) (ret := none) (by decide) rfl ?_
  intro p e s m args below meth c s₁ B hml hv
  obtain ⟨rfl, hsz, hP, hG, hD0, hT⟩ := hv
  have hx := B.exec
  have hb := B.bytes
  have hr := B.returns
  have hts := atoms_spec (ws := vs_e_addDrain) B.pre
  have hown : s.vm.findClass RX6 = some m.cls := findClass_of_methodNamed B.named
  have hlocks := B.notSynchronized
  subst hsz
  have hD := hD0.self (sz := s.heap.size)
  generalize hAe : va_A [zO sA 6 [vI wi, vI ro, vR s2, vR s3, vI dr, vI dt, vR s6, vI pe, vR s8, vI gu, vI sh, vR s11, vI wo, vR s13, vI dn, vI mi, vI fl, vI tk, vI go], zI s6 (cy 0) 56 df] s.heap.size = A at hD hT ⊢
  have hA : ∀ q : Nat, s.heap.size ≤ q → A q := fun q h => by rw [← hAe]; exact Or.inr h
  have hS : va_S A s.heap s.heap [] := va_S.rf
  have hl0 := lv_entry ([vR sA, vI x, vI y, vI ra, vI lv]) (n := 6) (Nat.le_of_ble_eq_true rfl)
  rw [lg_entry_eq]
  generalize (lg_sl ([vR sA, vI x, vI y, vI ra, vI lv]) ++ List.replicate (6 - (lg_sl ([vR sA, vI x, vI y, vI ra, vI lv])).length) Slot.unset).toArray = ls at hl0 ⊢
  have hlv : lv_has ls 6 [(0, vR sA), (1, vI x), (2, vI y), (3, vI ra), (4, vI lv)] := hl0
  have lf41 := hts (.fieldLink RX6 41 "KerbSplash$Street" "drains" "I") (List.mem_of_getElem? (i := 1) rfl)
  have hi6 : ∀ w ∈ wsX60, w ∈ vs_e_addDrain := fun w h => List.mem_cons_of_mem _ (List.mem_append_right _ (List.mem_append_left _ h))
  have lf16 := hts (.fieldLink RX6 16 "KerbSplash$Street" "drain" "[I") (List.mem_of_getElem? (i := 2) rfl)
  refine lv_iconst (v := iI 4) hx hb dX6_addDrain_0 (by decide) ?_
  refine lv_aload_n hx hb dX6_addDrain_1 rfl (lv_at hlv 0 rfl) ?_
  refine va_get (D := D) (ci := 6) (v := vI dr) (C := RX6) (T := TX6) (N := 19) hx hb hts hi6 hown hG.1 hP 0 rfl rfl 4 (by decide) lf41 (fun _ h9 => h9) rfl dX6_addDrain_2 ?_
  refine lv_imul hx hb dX6_addDrain_5 ?_
  refine lt_e (e0 := 4 * dr) (Int32.ofInt_mul _ _).symm (fun z_1 hz_1 => ?_)
  refine lv_istore (lv' := [(5, vI z_1), (0, vR sA), (1, vI x), (2, vI y), (3, vI ra), (4, vI lv)]) hx hb dX6_addDrain_6 hlv (by decide) rfl (fun ls hlv => ?_)
  refine lv_iload hx hb dX6_addDrain_8 (lv_at hlv 0 rfl) ?_
  refine lv_iconst (v := iI 4) hx hb dX6_addDrain_10 (by decide) ?_
  refine lv_iadd hx hb dX6_addDrain_11 ?_
  refine lt_e (e0 := z_1 + 4) (Int32.ofInt_add _ _).symm (fun z_2 hz_2 => ?_)
  refine lv_aload_n hx hb dX6_addDrain_12 rfl (lv_at hlv 1 rfl) ?_
  refine va_get (D := D) (ci := 6) (v := vR s6) (C := RX6) (T := TX6) (N := 19) hx hb hts hi6 hown hG.1 hP 0 rfl rfl 6 (by decide) lf16 (fun _ h9 => h9) rfl dX6_addDrain_13 ?_
  refine va_alen (v := iI 56) hx hb hG.1 hP 1 0 rfl rfl (iI_nI _) dX6_addDrain_16 ?_
  refine ir_le (tgt := 21) hx hb dX6_addDrain_17 (by decide) (by omega) (by show ((-2147483648) : Int) ≤ 56 ∧ (56 : Int) ≤ 2147483647; decide) (fun c_3 => ?_) (fun c_3 => ?_)
  · refine lv_aload_n hx hb dX6_addDrain_21 rfl (lv_at hlv 1 rfl) ?_
    refine va_get (D := D) (ci := 6) (v := vR s6) (C := RX6) (T := TX6) (N := 19) hx hb hts hi6 hown hG.1 hP 0 rfl rfl 6 (by decide) lf16 (fun _ h9 => h9) rfl dX6_addDrain_22 ?_
    refine lv_iload hx hb dX6_addDrain_25 (lv_at hlv 0 rfl) ?_
    refine lv_iload_n hx hb dX6_addDrain_27 rfl (lv_at hlv 2 rfl) ?_
    refine va_iast hx hb hG.1 hP hD hS 1 0 rfl rfl (iI_in (by omega) (by decide)) dX6_addDrain_28 (fun H locs hP hD hS => ?_)
    have ⟨f_4, hdf_4, hP, hD⟩ : ∃ f_4 : Nat → Int32, f_4 = upd df (iI z_1).toNatClampNeg (iI x) ∧ va_P D vwCl [zO sA 6 [vI wi, vI ro, vR s2, vR s3, vI dr, vI dt, vR s6, vI pe, vR s8, vI gu, vI sh, vR s11, vI wo, vR s13, vI dn, vI mi, vI fl, vI tk, vI go], zI s6 (cy 0) 56 f_4] H ∧ va_D A [zO sA 6 [vI wi, vI ro, vR s2, vR s3, vI dr, vI dt, vR s6, vI pe, vR s8, vI gu, vI sh, vR s11, vI wo, vR s13, vI dn, vI mi, vI fl, vI tk, vI go], zI s6 (cy 0) 56 f_4] := ⟨_, rfl, hP, hD⟩
    have hif_4 : tab_ 4 14 [0, 0, 0, 0] [15, 5, 99, 16] f_4 := by rw [hdf_4]; exact tab_wr hdf (e := z_1) (k := dr) (c := 0) (a := 0) (b := 15) (by omega) (by omega) (by decide) (by omega) rfl rfl (by omega)
    refine lv_aload_n hx hb dX6_addDrain_29 rfl (lv_at hlv 1 rfl) ?_
    refine va_get (D := D) (ci := 6) (v := vR s6) (C := RX6) (T := TX6) (N := 19) hx hb hts hi6 hown hG.1 hP 0 rfl rfl 6 (by decide) lf16 (fun _ h9 => h9) rfl dX6_addDrain_30 ?_
    refine lv_iload hx hb dX6_addDrain_33 (lv_at hlv 0 rfl) ?_
    refine lv_iconst (v := iI 1) hx hb dX6_addDrain_35 (by decide) ?_
    refine lv_iadd hx hb dX6_addDrain_36 ?_
    refine lt_e (e0 := z_1 + 1) (Int32.ofInt_add _ _).symm (fun z_5 hz_5 => ?_)
    refine lv_iload_n hx hb dX6_addDrain_37 rfl (lv_at hlv 3 rfl) ?_
    refine va_iast hx hb hG.1 hP hD hS 1 0 rfl rfl (iI_in (by omega) (by decide)) dX6_addDrain_38 (fun H locs hP hD hS => ?_)
    have ⟨f_6, hdf_6, hP, hD⟩ : ∃ f_6 : Nat → Int32, f_6 = upd f_4 (iI z_5).toNatClampNeg (iI y) ∧ va_P D vwCl [zO sA 6 [vI wi, vI ro, vR s2, vR s3, vI dr, vI dt, vR s6, vI pe, vR s8, vI gu, vI sh, vR s11, vI wo, vR s13, vI dn, vI mi, vI fl, vI tk, vI go], zI s6 (cy 0) 56 f_6] H ∧ va_D A [zO sA 6 [vI wi, vI ro, vR s2, vR s3, vI dr, vI dt, vR s6, vI pe, vR s8, vI gu, vI sh, vR s11, vI wo, vR s13, vI dn, vI mi, vI fl, vI tk, vI go], zI s6 (cy 0) 56 f_6] := ⟨_, rfl, hP, hD⟩
    have hif_6 : tab_ 4 14 [0, 0, 0, 0] [15, 5, 99, 16] f_6 := by rw [hdf_6]; exact tab_wr hif_4 (e := z_5) (k := dr) (c := 1) (a := 0) (b := 5) (by omega) (by omega) (by decide) (by omega) rfl rfl (by omega)
    refine lv_aload_n hx hb dX6_addDrain_39 rfl (lv_at hlv 1 rfl) ?_
    refine va_get (D := D) (ci := 6) (v := vR s6) (C := RX6) (T := TX6) (N := 19) hx hb hts hi6 hown hG.1 hP 0 rfl rfl 6 (by decide) lf16 (fun _ h9 => h9) rfl dX6_addDrain_40 ?_
    refine lv_iload hx hb dX6_addDrain_43 (lv_at hlv 0 rfl) ?_
    refine lv_iconst (v := iI 2) hx hb dX6_addDrain_45 (by decide) ?_
    refine lv_iadd hx hb dX6_addDrain_46 ?_
    refine lt_e (e0 := z_1 + 2) (Int32.ofInt_add _ _).symm (fun z_7 hz_7 => ?_)
    refine lv_iload_n hx hb dX6_addDrain_47 rfl (lv_at hlv 4 rfl) ?_
    refine va_iast hx hb hG.1 hP hD hS 1 0 rfl rfl (iI_in (by omega) (by decide)) dX6_addDrain_48 (fun H locs hP hD hS => ?_)
    have ⟨f_8, hdf_8, hP, hD⟩ : ∃ f_8 : Nat → Int32, f_8 = upd f_6 (iI z_7).toNatClampNeg (iI ra) ∧ va_P D vwCl [zO sA 6 [vI wi, vI ro, vR s2, vR s3, vI dr, vI dt, vR s6, vI pe, vR s8, vI gu, vI sh, vR s11, vI wo, vR s13, vI dn, vI mi, vI fl, vI tk, vI go], zI s6 (cy 0) 56 f_8] H ∧ va_D A [zO sA 6 [vI wi, vI ro, vR s2, vR s3, vI dr, vI dt, vR s6, vI pe, vR s8, vI gu, vI sh, vR s11, vI wo, vR s13, vI dn, vI mi, vI fl, vI tk, vI go], zI s6 (cy 0) 56 f_8] := ⟨_, rfl, hP, hD⟩
    have hif_8 : tab_ 4 14 [0, 0, 0, 0] [15, 5, 99, 16] f_8 := by rw [hdf_8]; exact tab_wr hif_6 (e := z_7) (k := dr) (c := 2) (a := 0) (b := 99) (by omega) (by omega) (by decide) (by omega) rfl rfl (by omega)
    refine lv_aload_n hx hb dX6_addDrain_49 rfl (lv_at hlv 1 rfl) ?_
    refine va_get (D := D) (ci := 6) (v := vR s6) (C := RX6) (T := TX6) (N := 19) hx hb hts hi6 hown hG.1 hP 0 rfl rfl 6 (by decide) lf16 (fun _ h9 => h9) rfl dX6_addDrain_50 ?_
    refine lv_iload hx hb dX6_addDrain_53 (lv_at hlv 0 rfl) ?_
    refine lv_iconst (v := iI 3) hx hb dX6_addDrain_55 (by decide) ?_
    refine lv_iadd hx hb dX6_addDrain_56 ?_
    refine lt_e (e0 := z_1 + 3) (Int32.ofInt_add _ _).symm (fun z_9 hz_9 => ?_)
    refine lv_iload hx hb dX6_addDrain_57 (lv_at hlv 5 rfl) ?_
    refine va_iast hx hb hG.1 hP hD hS 1 0 rfl rfl (iI_in (by omega) (by decide)) dX6_addDrain_59 (fun H locs hP hD hS => ?_)
    have ⟨f_10, hdf_10, hP, hD⟩ : ∃ f_10 : Nat → Int32, f_10 = upd f_8 (iI z_9).toNatClampNeg (iI lv) ∧ va_P D vwCl [zO sA 6 [vI wi, vI ro, vR s2, vR s3, vI dr, vI dt, vR s6, vI pe, vR s8, vI gu, vI sh, vR s11, vI wo, vR s13, vI dn, vI mi, vI fl, vI tk, vI go], zI s6 (cy 0) 56 f_10] H ∧ va_D A [zO sA 6 [vI wi, vI ro, vR s2, vR s3, vI dr, vI dt, vR s6, vI pe, vR s8, vI gu, vI sh, vR s11, vI wo, vR s13, vI dn, vI mi, vI fl, vI tk, vI go], zI s6 (cy 0) 56 f_10] := ⟨_, rfl, hP, hD⟩
    have hif_10 : tab_ 4 14 [0, 0, 0, 0] [15, 5, 99, 16] f_10 := by rw [hdf_10]; exact tab_wr hif_8 (e := z_9) (k := dr) (c := 3) (a := 0) (b := 16) (by omega) (by omega) (by decide) (by omega) rfl rfl (by omega)
    refine lv_aload_n hx hb dX6_addDrain_60 rfl (lv_at hlv 1 rfl) ?_
    refine lv_dup hx hb dX6_addDrain_61 rfl ?_
    refine va_get (D := D) (ci := 6) (v := vI dr) (C := RX6) (T := TX6) (N := 19) hx hb hts hi6 hown hG.1 hP 0 rfl rfl 4 (by decide) lf41 (fun _ h9 => h9) rfl dX6_addDrain_62 ?_
    refine lv_iconst (v := iI 1) hx hb dX6_addDrain_65 (by decide) ?_
    refine lv_iadd hx hb dX6_addDrain_66 ?_
    refine lt_e (e0 := dr + 1) (Int32.ofInt_add _ _).symm (fun z_11 hz_11 => ?_)
    refine va_put (D := D) (ci := 6) (v := vI z_11) (ty := .int) (C := RX6) (T := TX6) (N := 19) hx hb hts hi6 tyX6 tyX6_ok nmX6 hown hG.1 hP hD hS 0 rfl rfl 4 (by decide) lf41 (fun _ h9 => h9) rfl (by decide +kernel) rfl rfl (Nat.le_of_ble_eq_true rfl) dX6_addDrain_67 (fun H locs hP hD hS => ?_)
    obtain ⟨hP, hD⟩ := pw9 [zO sA 6 [vI wi, vI ro, vR s2, vR s3, vI z_11, vI dt, vR s6, vI pe, vR s8, vI gu, vI sh, vR s11, vI wo, vR s13, vI dn, vI mi, vI fl, vI tk, vI go], zI s6 (cy 0) 56 f_10] hP hD
    refine W.widen (k := 0) (n := 0) (Nat.le_of_ble_eq_true rfl) (Nat.le_of_ble_eq_true rfl) ?_
    exact W.vret hx hb hr (fun t ht hW => ⟨⟨((fun k => ([] : List Nat).getD k 0), (fun k => ([z_11] : List Int).getD k 0), (fun k => ([f_10] : List (Nat → Int32)).getD k (fun _ => 0))), rfl, ⟨(by show (0 ≤ z_11 ∧ z_11 ≤ 14); omega), (by show (z_11 = dr + 1); omega), (by show (nz (f_10) = (upz (upz (upz (upz (nz df) (4 * dr) x) (4 * dr + 1) y) (4 * dr + 2) ra) (4 * dr + 3) lv)); exact (upz_c (upz_c (upz_c (upz_c rfl hdf_4 (by omega) (by omega) (by omega) (by omega)) hdf_6 (by omega) (by omega) (by omega) (by omega)) hdf_8 (by omega) (by omega) (by omega) (by omega)) hdf_10 (by omega) (by omega) (by omega) (by omega))), hif_10⟩, at9 ht hP hD [0, 1] (by decide +kernel) rfl⟩, hS.F ht⟩) hS.2.2 dX6_addDrain_70
  · refine W.widen (k := 0) (n := 0) (Nat.le_of_ble_eq_true rfl) (Nat.le_of_ble_eq_true rfl) ?_
    exact W.vret hx hb hr (fun t ht hW => ⟨⟨((fun k => ([] : List Nat).getD k 0), (fun k => ([dr] : List Int).getD k 0), (fun k => ([df] : List (Nat → Int32)).getD k (fun _ => 0))), rfl, ⟨(by show (0 ≤ dr ∧ dr ≤ 14); first | exact hr_dr | omega), (by show (dr = dr + 1); omega), (by show (nz (df) = (upz (upz (upz (upz (nz df) (4 * dr) x) (4 * dr + 1) y) (4 * dr + 2) ra) (4 * dr + 3) lv)); exact (by exfalso; omega)), hdf⟩, at9 ht hP hD [0, 1] (by decide +kernel) rfl⟩, hS.F ht⟩) hS.2.2 dX6_addDrain_20
def vs_e_addShelter : List Cond := .code yX6_addShelter cX6_addShelter 4 none :: (([.fieldLink RX6 53 "KerbSplash$Street" "shelters" "I", .fieldLink RX6 22 "KerbSplash$Street" "shelter" "[I"] : List Cond) ++ ((wsX60) ++ ([])))
theorem gd_e_addShelter : vs_e_addShelter.all goodWord = true := gd_C (by decide +kernel) (gd_A (by decide +kernel) (gd_A (by decide +kernel) rfl))
set_option maxHeartbeats 4000000 in
set_option maxRecDepth 100000 in
theorem e_addShelter (l : Launch) (hl : l.stackTraces = false) (D : va_G) (cy : Nat → ClassId) (sa : Nat → Nat) (sA s2 s3 s6 s8 s11 s13 : Nat) (wi ro dr dt pe gu sh wo dn mi fl tk go : Int) (sf : Nat → Int32) (a b : Int) (sz : Nat) (hr_wi : 0 ≤ wi ∧ wi ≤ 16) (hr_ro : 0 ≤ ro ∧ ro ≤ 6) (hr_dr : 0 ≤ dr ∧ dr ≤ 14) (hr_dt : 0 ≤ dt ∧ dt ≤ 6) (hr_pe : 0 ≤ pe ∧ pe ≤ 8) (hr_gu : 0 ≤ gu ∧ gu ≤ 20) (hr_sh : 0 ≤ sh ∧ sh ≤ 2) (hr_wo : 0 ≤ wo ∧ wo ≤ 8) (hr_dn : (-2147483648) ≤ dn ∧ dn ≤ 2147483647) (hr_mi : 0 ≤ mi ∧ mi ≤ 600) (hr_fl : (-2147483648) ≤ fl ∧ fl ≤ 2147483647) (hr_tk : (-2147483648) ≤ tk ∧ tk ≤ 2147483647) (hr_go : (-2147483648) ≤ go ∧ go ≤ 2147483647) (hr_a : (-2147483648) ≤ a ∧ a ≤ 2147483647) (hr_b : (-2147483648) ≤ b ∧ b ≤ 2147483647) (hp0 : sh < 2) : mV9 l yX6_addShelter vs_e_addShelter ({ frames := 0, cells := 0, slots := 0, locals := 0 }) D cy sa sz [vR sA, vI a, vI b] [zO sA 6 [vI wi, vI ro, vR s2, vR s3, vI dr, vI dt, vR s6, vI pe, vR s8, vI gu, vI sh, vR s11, vI wo, vR s13, vI dn, vI mi, vI fl, vI tk, vI go], zI s11 (cy 0) 4 sf] (fun u : SV => (0 ≤ u.2.1 0 ∧ u.2.1 0 ≤ 2) ∧ (u.2.1 0 = sh + 1) ∧ (nz (u.2.2 0) = (upz (upz (nz sf) (2 * sh) a) (2 * sh + 1) b))) (fun u : SV => [zO sA 6 [vI wi, vI ro, vR s2, vR s3, vI dr, vI dt, vR s6, vI pe, vR s8, vI gu, vI (u.2.1 0), vR s11, vI wo, vR s13, vI dn, vI mi, vI fl, vI tk, vI go], zI s11 (cy 0) 4 (u.2.2 0)]) 0 0 := by
  refine Met.ofW (cc := cX6_addShelter) (maxL := 4) (ret := none) (by decide) rfl ?_
  intro p e s m args below meth c s₁ B hml hv
  obtain ⟨rfl, hsz, hP, hG, hD0, hT⟩ := hv
  have hx := B.exec
  have hb := B.bytes
  have hr := B.returns
  have hts := atoms_spec (ws := vs_e_addShelter) B.pre
  have hown : s.vm.findClass RX6 = some m.cls := findClass_of_methodNamed B.named
  have hlocks := B.notSynchronized
  subst hsz
  have hD := hD0.self (sz := s.heap.size)
  generalize hAe : va_A [zO sA 6 [vI wi, vI ro, vR s2, vR s3, vI dr, vI dt, vR s6, vI pe, vR s8, vI gu, vI sh, vR s11, vI wo, vR s13, vI dn, vI mi, vI fl, vI tk, vI go], zI s11 (cy 0) 4 sf] s.heap.size = A at hD hT ⊢
  have hA : ∀ q : Nat, s.heap.size ≤ q → A q := fun q h => by rw [← hAe]; exact Or.inr h
  have hS : va_S A s.heap s.heap [] := va_S.rf
  have hl0 := lv_entry ([vR sA, vI a, vI b]) (n := 4) (Nat.le_of_ble_eq_true rfl)
  rw [lg_entry_eq]
  generalize (lg_sl ([vR sA, vI a, vI b]) ++ List.replicate (4 - (lg_sl ([vR sA, vI a, vI b])).length) Slot.unset).toArray = ls at hl0 ⊢
  have hlv : lv_has ls 4 [(0, vR sA), (1, vI a), (2, vI b)] := hl0
  have lf53 := hts (.fieldLink RX6 53 "KerbSplash$Street" "shelters" "I") (List.mem_of_getElem? (i := 1) rfl)
  have hi6 : ∀ w ∈ wsX60, w ∈ vs_e_addShelter := fun w h => List.mem_cons_of_mem _ (List.mem_append_right _ (List.mem_append_left _ h))
  have lf22 := hts (.fieldLink RX6 22 "KerbSplash$Street" "shelter" "[I") (List.mem_of_getElem? (i := 2) rfl)
  refine lv_iconst (v := iI 2) hx hb dX6_addShelter_0 (by decide) ?_
  refine lv_aload_n hx hb dX6_addShelter_1 rfl (lv_at hlv 0 rfl) ?_
  refine va_get (D := D) (ci := 6) (v := vI sh) (C := RX6) (T := TX6) (N := 19) hx hb hts hi6 hown hG.1 hP 0 rfl rfl 10 (by decide) lf53 (fun _ h9 => h9) rfl dX6_addShelter_2 ?_
  refine lv_imul hx hb dX6_addShelter_5 ?_
  refine lt_e (e0 := 2 * sh) (Int32.ofInt_mul _ _).symm (fun z_1 hz_1 => ?_)
  refine lv_istore_n (lv' := [(3, vI z_1), (0, vR sA), (1, vI a), (2, vI b)]) hx hb dX6_addShelter_6 rfl hlv (by decide) rfl (fun ls hlv => ?_)
  refine lv_iload_n hx hb dX6_addShelter_7 rfl (lv_at hlv 0 rfl) ?_
  refine lv_iconst (v := iI 2) hx hb dX6_addShelter_8 (by decide) ?_
  refine lv_iadd hx hb dX6_addShelter_9 ?_
  refine lt_e (e0 := z_1 + 2) (Int32.ofInt_add _ _).symm (fun z_2 hz_2 => ?_)
  refine lv_aload_n hx hb dX6_addShelter_10 rfl (lv_at hlv 1 rfl) ?_
  refine va_get (D := D) (ci := 6) (v := vR s11) (C := RX6) (T := TX6) (N := 19) hx hb hts hi6 hown hG.1 hP 0 rfl rfl 11 (by decide) lf22 (fun _ h9 => h9) rfl dX6_addShelter_11 ?_
  refine va_alen (v := iI 4) hx hb hG.1 hP 1 0 rfl rfl (iI_nI _) dX6_addShelter_14 ?_
  refine ir_le (tgt := 19) hx hb dX6_addShelter_15 (by decide) (by omega) (by show ((-2147483648) : Int) ≤ 4 ∧ (4 : Int) ≤ 2147483647; decide) (fun c_3 => ?_) (fun c_3 => ?_)
  · refine lv_aload_n hx hb dX6_addShelter_19 rfl (lv_at hlv 1 rfl) ?_
    refine va_get (D := D) (ci := 6) (v := vR s11) (C := RX6) (T := TX6) (N := 19) hx hb hts hi6 hown hG.1 hP 0 rfl rfl 11 (by decide) lf22 (fun _ h9 => h9) rfl dX6_addShelter_20 ?_
    refine lv_iload_n hx hb dX6_addShelter_23 rfl (lv_at hlv 0 rfl) ?_
    refine lv_iload_n hx hb dX6_addShelter_24 rfl (lv_at hlv 2 rfl) ?_
    refine va_iast hx hb hG.1 hP hD hS 1 0 rfl rfl (iI_in (by omega) (by decide)) dX6_addShelter_25 (fun H locs hP hD hS => ?_)
    obtain ⟨f_4, hdf_4, hP, hD⟩ := pe9e (fun f_4 => [zO sA 6 [vI wi, vI ro, vR s2, vR s3, vI dr, vI dt, vR s6, vI pe, vR s8, vI gu, vI sh, vR s11, vI wo, vR s13, vI dn, vI mi, vI fl, vI tk, vI go], zI s11 (cy 0) 4 f_4]) (upd sf (iI z_1).toNatClampNeg (iI a)) hP hD
    refine lv_aload_n hx hb dX6_addShelter_26 rfl (lv_at hlv 1 rfl) ?_
    refine va_get (D := D) (ci := 6) (v := vR s11) (C := RX6) (T := TX6) (N := 19) hx hb hts hi6 hown hG.1 hP 0 rfl rfl 11 (by decide) lf22 (fun _ h9 => h9) rfl dX6_addShelter_27 ?_
    refine lv_iload_n hx hb dX6_addShelter_30 rfl (lv_at hlv 0 rfl) ?_
    refine lv_iconst (v := iI 1) hx hb dX6_addShelter_31 (by decide) ?_
    refine lv_iadd hx hb dX6_addShelter_32 ?_
    refine lt_e (e0 := z_1 + 1) (Int32.ofInt_add _ _).symm (fun z_5 hz_5 => ?_)
    refine lv_iload_n hx hb dX6_addShelter_33 rfl (lv_at hlv 3 rfl) ?_
    refine va_iast hx hb hG.1 hP hD hS 1 0 rfl rfl (iI_in (by omega) (by decide)) dX6_addShelter_34 (fun H locs hP hD hS => ?_)
    obtain ⟨f_6, hdf_6, hP, hD⟩ := pe9e (fun f_6 => [zO sA 6 [vI wi, vI ro, vR s2, vR s3, vI dr, vI dt, vR s6, vI pe, vR s8, vI gu, vI sh, vR s11, vI wo, vR s13, vI dn, vI mi, vI fl, vI tk, vI go], zI s11 (cy 0) 4 f_6]) (upd f_4 (iI z_5).toNatClampNeg (iI b)) hP hD
    refine lv_aload_n hx hb dX6_addShelter_35 rfl (lv_at hlv 1 rfl) ?_
    refine lv_dup hx hb dX6_addShelter_36 rfl ?_
    refine va_get (D := D) (ci := 6) (v := vI sh) (C := RX6) (T := TX6) (N := 19) hx hb hts hi6 hown hG.1 hP 0 rfl rfl 10 (by decide) lf53 (fun _ h9 => h9) rfl dX6_addShelter_37 ?_
    refine lv_iconst (v := iI 1) hx hb dX6_addShelter_40 (by decide) ?_
    refine lv_iadd hx hb dX6_addShelter_41 ?_
    refine lt_e (e0 := sh + 1) (Int32.ofInt_add _ _).symm (fun z_7 hz_7 => ?_)
    refine va_put (D := D) (ci := 6) (v := vI z_7) (ty := .int) (C := RX6) (T := TX6) (N := 19) hx hb hts hi6 tyX6 tyX6_ok nmX6 hown hG.1 hP hD hS 0 rfl rfl 10 (by decide) lf53 (fun _ h9 => h9) rfl (by decide +kernel) rfl rfl (Nat.le_of_ble_eq_true rfl) dX6_addShelter_42 (fun H locs hP hD hS => ?_)
    obtain ⟨hP, hD⟩ := pw9 [zO sA 6 [vI wi, vI ro, vR s2, vR s3, vI dr, vI dt, vR s6, vI pe, vR s8, vI gu, vI z_7, vR s11, vI wo, vR s13, vI dn, vI mi, vI fl, vI tk, vI go], zI s11 (cy 0) 4 f_6] hP hD
    refine W.widen (k := 0) (n := 0) (Nat.le_of_ble_eq_true rfl) (Nat.le_of_ble_eq_true rfl) ?_
    exact W.vret hx hb hr (fun t ht hW => ⟨⟨((fun k => ([] : List Nat).getD k 0), (fun k => ([z_7] : List Int).getD k 0), (fun k => ([f_6] : List (Nat → Int32)).getD k (fun _ => 0))), rfl, ⟨(by show (0 ≤ z_7 ∧ z_7 ≤ 2); omega), (by show (z_7 = sh + 1); omega), (by show (nz (f_6) = (upz (upz (nz sf) (2 * sh) a) (2 * sh + 1) b)); exact (upz_c (upz_c rfl hdf_4 (by omega) (by omega) (by omega) (by omega)) hdf_6 (by omega) (by omega) (by omega) (by omega)))⟩, at9 ht hP hD [0, 1] (by decide +kernel) rfl⟩, hS.F ht⟩) hS.2.2 dX6_addShelter_45
  · refine W.widen (k := 0) (n := 0) (Nat.le_of_ble_eq_true rfl) (Nat.le_of_ble_eq_true rfl) ?_
    exact W.vret hx hb hr (fun t ht hW => ⟨⟨((fun k => ([] : List Nat).getD k 0), (fun k => ([sh] : List Int).getD k 0), (fun k => ([sf] : List (Nat → Int32)).getD k (fun _ => 0))), rfl, ⟨(by show (0 ≤ sh ∧ sh ≤ 2); first | exact hr_sh | omega), (by show (sh = sh + 1); omega), (by show (nz (sf) = (upz (upz (nz sf) (2 * sh) a) (2 * sh + 1) b)); exact (by exfalso; omega))⟩, at9 ht hP hD [0, 1] (by decide +kernel) rfl⟩, hS.F ht⟩) hS.2.2 dX6_addShelter_18
def vs_e_addWork : List Cond := .code yX6_addWork cX6_addWork 7 none :: (([.fieldLink RX6 56 "KerbSplash$Street" "works" "I", .fieldLink RX6 25 "KerbSplash$Street" "work" "[I"] : List Cond) ++ ((wsX60) ++ ([])))
theorem gd_e_addWork : vs_e_addWork.all goodWord = true := gd_C (by decide +kernel) (gd_A (by decide +kernel) (gd_A (by decide +kernel) rfl))
set_option maxHeartbeats 4000000 in
set_option maxRecDepth 100000 in
theorem e_addWork (l : Launch) (hl : l.stackTraces = false) (D : va_G) (cy : Nat → ClassId) (sa : Nat → Nat) (sA s2 s3 s6 s8 s11 s13 : Nat) (wi ro dr dt pe gu sh wo dn mi fl tk go : Int) (kf : Nat → Int32) (k co x y b : Int) (sz : Nat) (hr_wi : 0 ≤ wi ∧ wi ≤ 16) (hr_ro : 0 ≤ ro ∧ ro ≤ 6) (hr_dr : 0 ≤ dr ∧ dr ≤ 14) (hr_dt : 0 ≤ dt ∧ dt ≤ 6) (hr_pe : 0 ≤ pe ∧ pe ≤ 8) (hr_gu : 0 ≤ gu ∧ gu ≤ 20) (hr_sh : 0 ≤ sh ∧ sh ≤ 2) (hr_wo : 0 ≤ wo ∧ wo ≤ 8) (hr_dn : (-2147483648) ≤ dn ∧ dn ≤ 2147483647) (hr_mi : 0 ≤ mi ∧ mi ≤ 600) (hr_fl : (-2147483648) ≤ fl ∧ fl ≤ 2147483647) (hr_tk : (-2147483648) ≤ tk ∧ tk ≤ 2147483647) (hr_go : (-2147483648) ≤ go ∧ go ≤ 2147483647) (hr_k : 0 ≤ k ∧ k ≤ 3) (hr_co : 0 ≤ co ∧ co ≤ 99) (hr_x : 0 ≤ x ∧ x ≤ 15) (hr_y : 0 ≤ y ∧ y ≤ 5) (hr_b : 0 ≤ b ∧ b ≤ 99) (hp0 : k = 0 → x ≤ 13) (hp1 : wo < 8) (hkf : tw_ kf) : mV9 l yX6_addWork vs_e_addWork ({ frames := 0, cells := 0, slots := 0, locals := 0 }) D cy sa sz [vR sA, vI k, vI co, vI x, vI y, vI b] [zO sA 6 [vI wi, vI ro, vR s2, vR s3, vI dr, vI dt, vR s6, vI pe, vR s8, vI gu, vI sh, vR s11, vI wo, vR s13, vI dn, vI mi, vI fl, vI tk, vI go], zI s13 (cy 0) 40 kf] (fun u : SV => (0 ≤ u.2.1 0 ∧ u.2.1 0 ≤ 8) ∧ (u.2.1 0 = wo + 1) ∧ (nz (u.2.2 0) = (upz (upz (upz (upz (upz (nz kf) (5 * wo) k) (5 * wo + 1) co) (5 * wo + 2) x) (5 * wo + 3) y) (5 * wo + 4) b)) ∧ tw_ (u.2.2 0)) (fun u : SV => [zO sA 6 [vI wi, vI ro, vR s2, vR s3, vI dr, vI dt, vR s6, vI pe, vR s8, vI gu, vI sh, vR s11, vI (u.2.1 0), vR s13, vI dn, vI mi, vI fl, vI tk, vI go], zI s13 (cy 0) 40 (u.2.2 0)]) 0 0 := by
  refine Met.ofW (cc := cX6_addWork) (maxL := 7) (ret := none) (by decide) rfl ?_
  intro p e s m args below meth c s₁ B hml hv
  obtain ⟨rfl, hsz, hP, hG, hD0, hT⟩ := hv
  have hx := B.exec
  have hb := B.bytes
  have hr := B.returns
  have hts := atoms_spec (ws := vs_e_addWork) B.pre
  have hown : s.vm.findClass RX6 = some m.cls := findClass_of_methodNamed B.named
  have hlocks := B.notSynchronized
  subst hsz
  have hD := hD0.self (sz := s.heap.size)
  generalize hAe : va_A [zO sA 6 [vI wi, vI ro, vR s2, vR s3, vI dr, vI dt, vR s6, vI pe, vR s8, vI gu, vI sh, vR s11, vI wo, vR s13, vI dn, vI mi, vI fl, vI tk, vI go], zI s13 (cy 0) 40 kf] s.heap.size = A at hD hT ⊢
  have hA : ∀ q : Nat, s.heap.size ≤ q → A q := fun q h => by rw [← hAe]; exact Or.inr h
  have hS : va_S A s.heap s.heap [] := va_S.rf
  have hl0 := lv_entry ([vR sA, vI k, vI co, vI x, vI y, vI b]) (n := 7) (Nat.le_of_ble_eq_true rfl)
  rw [lg_entry_eq]
  generalize (lg_sl ([vR sA, vI k, vI co, vI x, vI y, vI b]) ++ List.replicate (7 - (lg_sl ([vR sA, vI k, vI co, vI x, vI y, vI b])).length) Slot.unset).toArray = ls at hl0 ⊢
  have hlv : lv_has ls 7 [(0, vR sA), (1, vI k), (2, vI co), (3, vI x), (4, vI y), (5, vI b)] := hl0
  have lf56 := hts (.fieldLink RX6 56 "KerbSplash$Street" "works" "I") (List.mem_of_getElem? (i := 1) rfl)
  have hi6 : ∀ w ∈ wsX60, w ∈ vs_e_addWork := fun w h => List.mem_cons_of_mem _ (List.mem_append_right _ (List.mem_append_left _ h))
  have lf25 := hts (.fieldLink RX6 25 "KerbSplash$Street" "work" "[I") (List.mem_of_getElem? (i := 2) rfl)
  refine lv_iconst (v := iI 5) hx hb dX6_addWork_0 (by decide) ?_
  refine lv_aload_n hx hb dX6_addWork_1 rfl (lv_at hlv 0 rfl) ?_
  refine va_get (D := D) (ci := 6) (v := vI wo) (C := RX6) (T := TX6) (N := 19) hx hb hts hi6 hown hG.1 hP 0 rfl rfl 12 (by decide) lf56 (fun _ h9 => h9) rfl dX6_addWork_2 ?_
  refine lv_imul hx hb dX6_addWork_5 ?_
  refine lt_e (e0 := 5 * wo) (Int32.ofInt_mul _ _).symm (fun z_1 hz_1 => ?_)
  refine lv_istore (lv' := [(6, vI z_1), (0, vR sA), (1, vI k), (2, vI co), (3, vI x), (4, vI y), (5, vI b)]) hx hb dX6_addWork_6 hlv (by decide) rfl (fun ls hlv => ?_)
  refine lv_iload hx hb dX6_addWork_8 (lv_at hlv 0 rfl) ?_
  refine lv_iconst (v := iI 5) hx hb dX6_addWork_10 (by decide) ?_
  refine lv_iadd hx hb dX6_addWork_11 ?_
  refine lt_e (e0 := z_1 + 5) (Int32.ofInt_add _ _).symm (fun z_2 hz_2 => ?_)
  refine lv_aload_n hx hb dX6_addWork_12 rfl (lv_at hlv 1 rfl) ?_
  refine va_get (D := D) (ci := 6) (v := vR s13) (C := RX6) (T := TX6) (N := 19) hx hb hts hi6 hown hG.1 hP 0 rfl rfl 13 (by decide) lf25 (fun _ h9 => h9) rfl dX6_addWork_13 ?_
  refine va_alen (v := iI 40) hx hb hG.1 hP 1 0 rfl rfl (iI_nI _) dX6_addWork_16 ?_
  refine ir_le (tgt := 21) hx hb dX6_addWork_17 (by decide) (by omega) (by show ((-2147483648) : Int) ≤ 40 ∧ (40 : Int) ≤ 2147483647; decide) (fun c_3 => ?_) (fun c_3 => ?_)
  · refine lv_aload_n hx hb dX6_addWork_21 rfl (lv_at hlv 1 rfl) ?_
    refine va_get (D := D) (ci := 6) (v := vR s13) (C := RX6) (T := TX6) (N := 19) hx hb hts hi6 hown hG.1 hP 0 rfl rfl 13 (by decide) lf25 (fun _ h9 => h9) rfl dX6_addWork_22 ?_
    refine lv_iload hx hb dX6_addWork_25 (lv_at hlv 0 rfl) ?_
    refine lv_iload_n hx hb dX6_addWork_27 rfl (lv_at hlv 2 rfl) ?_
    refine va_iast hx hb hG.1 hP hD hS 1 0 rfl rfl (iI_in (by omega) (by decide)) dX6_addWork_28 (fun H locs hP hD hS => ?_)
    have ⟨f_4, hdf_4, hP, hD⟩ : ∃ f_4 : Nat → Int32, f_4 = upd kf (iI z_1).toNatClampNeg (iI k) ∧ va_P D vwCl [zO sA 6 [vI wi, vI ro, vR s2, vR s3, vI dr, vI dt, vR s6, vI pe, vR s8, vI gu, vI sh, vR s11, vI wo, vR s13, vI dn, vI mi, vI fl, vI tk, vI go], zI s13 (cy 0) 40 f_4] H ∧ va_D A [zO sA 6 [vI wi, vI ro, vR s2, vR s3, vI dr, vI dt, vR s6, vI pe, vR s8, vI gu, vI sh, vR s11, vI wo, vR s13, vI dn, vI mi, vI fl, vI tk, vI go], zI s13 (cy 0) 40 f_4] := ⟨_, rfl, hP, hD⟩
    refine lv_aload_n hx hb dX6_addWork_29 rfl (lv_at hlv 1 rfl) ?_
    refine va_get (D := D) (ci := 6) (v := vR s13) (C := RX6) (T := TX6) (N := 19) hx hb hts hi6 hown hG.1 hP 0 rfl rfl 13 (by decide) lf25 (fun _ h9 => h9) rfl dX6_addWork_30 ?_
    refine lv_iload hx hb dX6_addWork_33 (lv_at hlv 0 rfl) ?_
    refine lv_iconst (v := iI 1) hx hb dX6_addWork_35 (by decide) ?_
    refine lv_iadd hx hb dX6_addWork_36 ?_
    refine lt_e (e0 := z_1 + 1) (Int32.ofInt_add _ _).symm (fun z_5 hz_5 => ?_)
    refine lv_iload_n hx hb dX6_addWork_37 rfl (lv_at hlv 3 rfl) ?_
    refine va_iast hx hb hG.1 hP hD hS 1 0 rfl rfl (iI_in (by omega) (by decide)) dX6_addWork_38 (fun H locs hP hD hS => ?_)
    have ⟨f_6, hdf_6, hP, hD⟩ : ∃ f_6 : Nat → Int32, f_6 = upd f_4 (iI z_5).toNatClampNeg (iI co) ∧ va_P D vwCl [zO sA 6 [vI wi, vI ro, vR s2, vR s3, vI dr, vI dt, vR s6, vI pe, vR s8, vI gu, vI sh, vR s11, vI wo, vR s13, vI dn, vI mi, vI fl, vI tk, vI go], zI s13 (cy 0) 40 f_6] H ∧ va_D A [zO sA 6 [vI wi, vI ro, vR s2, vR s3, vI dr, vI dt, vR s6, vI pe, vR s8, vI gu, vI sh, vR s11, vI wo, vR s13, vI dn, vI mi, vI fl, vI tk, vI go], zI s13 (cy 0) 40 f_6] := ⟨_, rfl, hP, hD⟩
    refine lv_aload_n hx hb dX6_addWork_39 rfl (lv_at hlv 1 rfl) ?_
    refine va_get (D := D) (ci := 6) (v := vR s13) (C := RX6) (T := TX6) (N := 19) hx hb hts hi6 hown hG.1 hP 0 rfl rfl 13 (by decide) lf25 (fun _ h9 => h9) rfl dX6_addWork_40 ?_
    refine lv_iload hx hb dX6_addWork_43 (lv_at hlv 0 rfl) ?_
    refine lv_iconst (v := iI 2) hx hb dX6_addWork_45 (by decide) ?_
    refine lv_iadd hx hb dX6_addWork_46 ?_
    refine lt_e (e0 := z_1 + 2) (Int32.ofInt_add _ _).symm (fun z_7 hz_7 => ?_)
    refine lv_iload_n hx hb dX6_addWork_47 rfl (lv_at hlv 4 rfl) ?_
    refine va_iast hx hb hG.1 hP hD hS 1 0 rfl rfl (iI_in (by omega) (by decide)) dX6_addWork_48 (fun H locs hP hD hS => ?_)
    have ⟨f_8, hdf_8, hP, hD⟩ : ∃ f_8 : Nat → Int32, f_8 = upd f_6 (iI z_7).toNatClampNeg (iI x) ∧ va_P D vwCl [zO sA 6 [vI wi, vI ro, vR s2, vR s3, vI dr, vI dt, vR s6, vI pe, vR s8, vI gu, vI sh, vR s11, vI wo, vR s13, vI dn, vI mi, vI fl, vI tk, vI go], zI s13 (cy 0) 40 f_8] H ∧ va_D A [zO sA 6 [vI wi, vI ro, vR s2, vR s3, vI dr, vI dt, vR s6, vI pe, vR s8, vI gu, vI sh, vR s11, vI wo, vR s13, vI dn, vI mi, vI fl, vI tk, vI go], zI s13 (cy 0) 40 f_8] := ⟨_, rfl, hP, hD⟩
    refine lv_aload_n hx hb dX6_addWork_49 rfl (lv_at hlv 1 rfl) ?_
    refine va_get (D := D) (ci := 6) (v := vR s13) (C := RX6) (T := TX6) (N := 19) hx hb hts hi6 hown hG.1 hP 0 rfl rfl 13 (by decide) lf25 (fun _ h9 => h9) rfl dX6_addWork_50 ?_
    refine lv_iload hx hb dX6_addWork_53 (lv_at hlv 0 rfl) ?_
    refine lv_iconst (v := iI 3) hx hb dX6_addWork_55 (by decide) ?_
    refine lv_iadd hx hb dX6_addWork_56 ?_
    refine lt_e (e0 := z_1 + 3) (Int32.ofInt_add _ _).symm (fun z_9 hz_9 => ?_)
    refine lv_iload hx hb dX6_addWork_57 (lv_at hlv 5 rfl) ?_
    refine va_iast hx hb hG.1 hP hD hS 1 0 rfl rfl (iI_in (by omega) (by decide)) dX6_addWork_59 (fun H locs hP hD hS => ?_)
    have ⟨f_10, hdf_10, hP, hD⟩ : ∃ f_10 : Nat → Int32, f_10 = upd f_8 (iI z_9).toNatClampNeg (iI y) ∧ va_P D vwCl [zO sA 6 [vI wi, vI ro, vR s2, vR s3, vI dr, vI dt, vR s6, vI pe, vR s8, vI gu, vI sh, vR s11, vI wo, vR s13, vI dn, vI mi, vI fl, vI tk, vI go], zI s13 (cy 0) 40 f_10] H ∧ va_D A [zO sA 6 [vI wi, vI ro, vR s2, vR s3, vI dr, vI dt, vR s6, vI pe, vR s8, vI gu, vI sh, vR s11, vI wo, vR s13, vI dn, vI mi, vI fl, vI tk, vI go], zI s13 (cy 0) 40 f_10] := ⟨_, rfl, hP, hD⟩
    refine lv_aload_n hx hb dX6_addWork_60 rfl (lv_at hlv 1 rfl) ?_
    refine va_get (D := D) (ci := 6) (v := vR s13) (C := RX6) (T := TX6) (N := 19) hx hb hts hi6 hown hG.1 hP 0 rfl rfl 13 (by decide) lf25 (fun _ h9 => h9) rfl dX6_addWork_61 ?_
    refine lv_iload hx hb dX6_addWork_64 (lv_at hlv 0 rfl) ?_
    refine lv_iconst (v := iI 4) hx hb dX6_addWork_66 (by decide) ?_
    refine lv_iadd hx hb dX6_addWork_67 ?_
    refine lt_e (e0 := z_1 + 4) (Int32.ofInt_add _ _).symm (fun z_11 hz_11 => ?_)
    refine lv_iload hx hb dX6_addWork_68 (lv_at hlv 6 rfl) ?_
    refine va_iast hx hb hG.1 hP hD hS 1 0 rfl rfl (iI_in (by omega) (by decide)) dX6_addWork_70 (fun H locs hP hD hS => ?_)
    have ⟨f_12, hdf_12, hP, hD⟩ : ∃ f_12 : Nat → Int32, f_12 = upd f_10 (iI z_11).toNatClampNeg (iI b) ∧ va_P D vwCl [zO sA 6 [vI wi, vI ro, vR s2, vR s3, vI dr, vI dt, vR s6, vI pe, vR s8, vI gu, vI sh, vR s11, vI wo, vR s13, vI dn, vI mi, vI fl, vI tk, vI go], zI s13 (cy 0) 40 f_12] H ∧ va_D A [zO sA 6 [vI wi, vI ro, vR s2, vR s3, vI dr, vI dt, vR s6, vI pe, vR s8, vI gu, vI sh, vR s11, vI wo, vR s13, vI dn, vI mi, vI fl, vI tk, vI go], zI s13 (cy 0) 40 f_12] := ⟨_, rfl, hP, hD⟩
    refine lv_aload_n hx hb dX6_addWork_71 rfl (lv_at hlv 1 rfl) ?_
    refine lv_dup hx hb dX6_addWork_72 rfl ?_
    refine va_get (D := D) (ci := 6) (v := vI wo) (C := RX6) (T := TX6) (N := 19) hx hb hts hi6 hown hG.1 hP 0 rfl rfl 12 (by decide) lf56 (fun _ h9 => h9) rfl dX6_addWork_73 ?_
    refine lv_iconst (v := iI 1) hx hb dX6_addWork_76 (by decide) ?_
    refine lv_iadd hx hb dX6_addWork_77 ?_
    refine lt_e (e0 := wo + 1) (Int32.ofInt_add _ _).symm (fun z_13 hz_13 => ?_)
    refine va_put (D := D) (ci := 6) (v := vI z_13) (ty := .int) (C := RX6) (T := TX6) (N := 19) hx hb hts hi6 tyX6 tyX6_ok nmX6 hown hG.1 hP hD hS 0 rfl rfl 12 (by decide) lf56 (fun _ h9 => h9) rfl (by decide +kernel) rfl rfl (Nat.le_of_ble_eq_true rfl) dX6_addWork_78 (fun H locs hP hD hS => ?_)
    obtain ⟨hP, hD⟩ := pw9 [zO sA 6 [vI wi, vI ro, vR s2, vR s3, vI dr, vI dt, vR s6, vI pe, vR s8, vI gu, vI sh, vR s11, vI z_13, vR s13, vI dn, vI mi, vI fl, vI tk, vI go], zI s13 (cy 0) 40 f_12] hP hD
    refine W.widen (k := 0) (n := 0) (Nat.le_of_ble_eq_true rfl) (Nat.le_of_ble_eq_true rfl) ?_
    exact W.vret hx hb hr (fun t ht hW => ⟨⟨((fun k => ([] : List Nat).getD k 0), (fun k => ([z_13] : List Int).getD k 0), (fun k => ([f_12] : List (Nat → Int32)).getD k (fun _ => 0))), rfl, ⟨(by show (0 ≤ z_13 ∧ z_13 ≤ 8); omega), (by show (z_13 = wo + 1); omega), (by show (nz (f_12) = (upz (upz (upz (upz (upz (nz kf) (5 * wo) k) (5 * wo + 1) co) (5 * wo + 2) x) (5 * wo + 3) y) (5 * wo + 4) b)); exact (upz_c (upz_c (upz_c (upz_c (upz_c rfl hdf_4 (by omega) (by omega) (by omega) (by omega)) hdf_6 (by omega) (by omega) (by omega) (by omega)) hdf_8 (by omega) (by omega) (by omega) (by omega)) hdf_10 (by omega) (by omega) (by omega) (by omega)) hdf_12 (by omega) (by omega) (by omega) (by omega))), (tw_set (k := wo) hkf (by omega) (by omega) (by omega) (by omega) (by omega) (by omega) hdf_4 hdf_6 hdf_8 hdf_10 hdf_12 (by omega) (by omega) (by omega) (by omega) (by omega) (by omega))⟩, at9 ht hP hD [0, 1] (by decide +kernel) rfl⟩, hS.F ht⟩) hS.2.2 dX6_addWork_81
  · refine W.widen (k := 0) (n := 0) (Nat.le_of_ble_eq_true rfl) (Nat.le_of_ble_eq_true rfl) ?_
    exact W.vret hx hb hr (fun t ht hW => ⟨⟨((fun k => ([] : List Nat).getD k 0), (fun k => ([wo] : List Int).getD k 0), (fun k => ([kf] : List (Nat → Int32)).getD k (fun _ => 0))), rfl, ⟨(by show (0 ≤ wo ∧ wo ≤ 8); first | exact hr_wo | omega), (by show (wo = wo + 1); omega), (by show (nz (kf) = (upz (upz (upz (upz (upz (nz kf) (5 * wo) k) (5 * wo + 1) co) (5 * wo + 2) x) (5 * wo + 3) y) (5 * wo + 4) b)); exact (by exfalso; omega)), hkf⟩, at9 ht hP hD [0, 1] (by decide +kernel) rfl⟩, hS.F ht⟩) hS.2.2 dX6_addWork_20
end
