
def vs_e_wordOf : List Cond := .code yX10_of cX10_of 6 (some (.object "KerbSplash$Word")) :: (([.fieldLink RX10 123 "KerbSplash$Word" "ALL" "[LKerbSplash$Word;", .fieldLink RX10 5 "KerbSplash$Word" "NO" "LKerbSplash$Word;", .fieldLink RX10 109 "KerbSplash$Word" "letters" "Ljava/lang/String;"] : List Cond) ++ ((wsV RX10 126 RJ0 yJ0_length_8abf5 vs_s_length) ++ ((wsV RX10 132 RJ0 yJ0_charAt_5068e vs_s_charAt) ++ ([]))))
theorem gd_e_wordOf : vs_e_wordOf.all goodWord = true := gd_C (by decide +kernel) (gd_A (by decide +kernel) (gd_A (gd_V gd_s_length (by decide +kernel)) (gd_A (gd_V gd_s_charAt (by decide +kernel)) rfl)))
set_option maxHeartbeats 4000000 in
set_option maxRecDepth 100000 in
theorem e_wordOf (l : Launch) (hl : l.stackTraces = false) (D : va_G) (cy : Nat → ClassId) (sa : Nat → Nat) (tb : Nat) (bf : Nat → Int32) (fr en : Int) (sz : Nat) (hr_fr : 0 ≤ fr ∧ fr ≤ 600) (hr_en : 0 ≤ en ∧ en ≤ 600) : Met l yX10_of vs_e_wordOf ({ frames := 4, cells := 0, slots := 0, locals := 85 }) (va_Pc [vR tb, vI fr, vI en] (pcW D cy sa sz [zI tb (cy 1) 600 bf])) (va_Qr (fun u : SV => (0 ≤ u.2.1 0 ∧ u.2.1 0 ≤ 27) ∧ (FMr bf fr en (u.2.1 0))) (fun u a t => a = wd sa (u.2.1 0) ∧ atW D (va_A [zI tb (cy 1) 600 bf] sz) [zI tb (cy 1) 600 bf] t) (va_A [zI tb (cy 1) 600 bf] sz)) 0 0 (va_A [zI tb (cy 1) 600 bf] sz) := by
  refine Met.ofW (cc := cX10_of) (maxL := 6) (ret := (some (.object "KerbSplash$Word"))) (by decide) rfl ?_
  intro p e s m args below meth c s₁ B hml hv
  obtain ⟨rfl, hsz, hP, hG, hD0, hT⟩ := hv
  have hx := B.exec
  have hb := B.bytes
  have hr := B.returns
  have hts := atoms_spec (ws := vs_e_wordOf) B.pre
  have hown : s.vm.findClass RX10 = some m.cls := findClass_of_methodNamed B.named
  have hlocks := B.notSynchronized
  subst hsz
  have hD := hD0.self (sz := s.heap.size)
  generalize hAe : va_A [zI tb (cy 1) 600 bf] s.heap.size = A at hD hT ⊢
  have hA : ∀ q : Nat, s.heap.size ≤ q → A q := fun q h => by rw [← hAe]; exact Or.inr h
  have hS : va_S A s.heap s.heap [] := va_S.rf
  have hl0 := lv_entry ([vR tb, vI fr, vI en]) (n := 6) (Nat.le_of_ble_eq_true rfl)
  rw [lg_entry_eq]
  generalize (lg_sl ([vR tb, vI fr, vI en]) ++ List.replicate (6 - (lg_sl ([vR tb, vI fr, vI en])).length) Slot.unset).toArray = ls at hl0 ⊢
  have hlv : lv_has ls 6 [(0, vR tb), (1, vI fr), (2, vI en)] := hl0
  have lf123 := hts (.fieldLink RX10 123 "KerbSplash$Word" "ALL" "[LKerbSplash$Word;") (List.mem_of_getElem? (i := 1) rfl)
  have lf5 := hts (.fieldLink RX10 5 "KerbSplash$Word" "NO" "LKerbSplash$Word;") (List.mem_of_getElem? (i := 2) rfl)
  have lf109 := hts (.fieldLink RX10 109 "KerbSplash$Word" "letters" "Ljava/lang/String;") (List.mem_of_getElem? (i := 3) rfl)
  have gg_0 : GoodIn vs_e_wordOf (wsV RX10 126 RJ0 yJ0_length_8abf5 vs_s_length) := goodIn_sub (fun w h => List.mem_cons_of_mem _ (List.mem_append_right _ (List.mem_append_left _ h))) (gd_V gd_s_length (by decide +kernel))
  have gg_1 : GoodIn vs_e_wordOf (wsV RX10 132 RJ0 yJ0_charAt_5068e vs_s_charAt) := goodIn_sub (fun w h => List.mem_cons_of_mem _ (List.mem_append_right _ (List.mem_append_right _ (List.mem_append_left _ h)))) (gd_V gd_s_charAt (by decide +kernel))
  refine lv_iconst (v := iI 0) hx hb dX10_of_0 (by decide) ?_
  refine lv_istore_n (lv' := [(3, vI 0), (0, vR tb), (1, vI fr), (2, vI en)]) hx hb dX10_of_1 rfl hlv (by decide) rfl (fun ls hlv => ?_)
  refine (?_ : ∀ (fu : Nat) (q3 : Int) (H : Heap) (locs : List Loc) (ls : Array Slot), 28 - q3 < (fu : Int) → (0 ≤ q3 ∧ q3 ≤ 28) → (FMn bf fr en q3) → va_P D vwCl [zI tb (cy 1) 600 bf] H → va_D A [zI tb (cy 1) 600 bf] → va_S A s.heap H locs → lv_has ls 6 [(3, vI q3), (0, vR tb), (1, vI fr), (2, vI en)] → W p l e _ s m _ below meth c H locs _ _ _ (F0 m 2 ls [])) (((28 - 0) + 1 : Int)).toNat 0 _ _ _ (by omega) (by show (0 : Int) ≤ 0 ∧ (0 : Int) ≤ 28; decide) FMn_0  hP hD hS hlv
  clear hP hD hS hlv
  intro fu
  induction fu with
  | zero => intro q3 H locs ls hm2 hl2_0 hl2_1  hP hD hS hlv; omega
  | succ fu ih2 =>
    intro q3 H locs ls hm2 hl2_0 hl2_1  hP hD hS hlv
    refine lv_iload_n hx hb dX10_of_2 rfl (lv_at hlv 0 rfl) ?_
    refine va_gets (C := "KerbSplash$Word") (n := "ALL") (d := "[LKerbSplash$Word;") (ref := "KerbSplash$Word") (v := .ref (sa 99)) hx hb hT.2.2.2.2.1 hS hown lf123 (fun _ h9 => h9) dX10_of_3 ?_
    refine va_tlen (v := iI 28) hx hb hT.2.2.2.2.2.1 hS rfl dX10_of_6 ?_
    refine ir_ge (tgt := 93) hx hb dX10_of_7 (by decide) (by first | exact rgw hl2_0 (by decide) (by decide) | omega) (by show ((-2147483648) : Int) ≤ 28 ∧ (28 : Int) ≤ 2147483647; decide) (fun c_1 => ?_) (fun c_1 => ?_)
    · refine va_gets (C := "KerbSplash$Word") (n := "NO") (d := "LKerbSplash$Word;") (ref := "KerbSplash$Word") (v := .ref (wd sa 0)) hx hb (hT.2.2.1 0 (by decide)).1.1 hS hown lf5 (fun _ h9 => h9) dX10_of_93 ?_
      refine W.widen (k := 0) (n := 0) (Nat.le_of_ble_eq_true rfl) (Nat.le_of_ble_eq_true rfl) ?_
      exact W.aret (v := .ref (wd sa 0)) hx hb hr (Or.inl ⟨_, rfl⟩) (Or.inr ⟨_, rfl⟩) (fun t ht hW => ⟨⟨((fun k => ([] : List Nat).getD k 0), (fun k => ([0] : List Int).getD k 0), (fun k => ([] : List (Nat → Int32)).getD k (fun _ => 0))), _, rfl, ⟨(by show (0 ≤ 0 ∧ 0 ≤ 27); show (0 : Int) ≤ 0 ∧ (0 : Int) ≤ 27; decide), (by show (FMr bf fr en (0)); exact (FMr_n hl2_1 (by omega)))⟩, rfl, by rw [ht]; exact hP.sub [0] rfl, hD.sub [0] (by decide) rfl⟩, hS.F ht⟩) hS.2.2 dX10_of_96
    · refine va_gets (C := "KerbSplash$Word") (n := "ALL") (d := "[LKerbSplash$Word;") (ref := "KerbSplash$Word") (v := .ref (sa 99)) hx hb hT.2.2.2.2.1 hS hown lf123 (fun _ h9 => h9) dX10_of_10 ?_
      refine lv_iload_n hx hb dX10_of_13 rfl (lv_at hlv 0 rfl) ?_
      refine vb_tq (v := .ref (wd sa q3)) hx hb hT.2.2.2.2.2.1 hS (iI_in (by omega) (by decide)) (wa_rd (by omega)) dX10_of_14 ?_
      refine vk_getf (o := "KerbSplash$Word") (n := "letters") (d := "Ljava/lang/String;") (ref := "KerbSplash$Word") (v := .ref (sn sa q3)) hx hb (hT.2.2.1 (q3 : Int).toNat (by omega)).1.2.2.2.2.2 hS hown lf109 (fun _ h9 => h9) dX10_of_15 ?_
      refine lv_astore (lv' := [(4, .ref (sn sa q3)), (3, vI q3), (0, vR tb), (1, vI fr), (2, vI en)]) hx hb dX10_of_18 hlv (by decide) rfl (fun ls hlv => ?_)
      refine lv_iconst (v := iI 0) hx hb dX10_of_20 (by decide) ?_
      refine lv_istore (lv' := [(5, vI 0), (4, .ref (sn sa q3)), (3, vI q3), (0, vR tb), (1, vI fr), (2, vI en)]) hx hb dX10_of_21 hlv (by decide) rfl (fun ls hlv => ?_)
      have hsl_ := sl_b (k := q3) (by omega)
      refine (?_ : ∀ (fu : Nat) (q5 : Int) (H : Heap) (locs : List Loc) (ls : Array Slot), 7 - q5 < (fu : Int) → (0 ≤ q5 ∧ q5 ≤ 7) → (q5 ≤ slen q3) → (∀ t : Int, 0 ≤ t → t < q5 → nz bf (fr + t).toNat = sch q3 t) → va_P D vwCl [zI tb (cy 1) 600 bf] H → va_D A [zI tb (cy 1) 600 bf] → va_S A s.heap H locs → lv_has ls 6 [(5, vI q5), (4, .ref (sn sa q3)), (3, vI q3), (0, vR tb), (1, vI fr), (2, vI en)] → W p l e _ s m _ below meth c H locs _ _ _ (F0 m 23 ls [])) (((7 - 0) + 1 : Int)).toNat 0 _ _ _ (by omega) (by show (0 : Int) ≤ 0 ∧ (0 : Int) ≤ 7; decide) (by omega) (fun t ht0 ht1 => absurd ht1 (by omega))  hP hD hS hlv
      clear hP hD hS hlv
      intro fu
      induction fu with
      | zero => intro q5 H locs ls hm23 hl23_0 hl23_1 hl23_2  hP hD hS hlv; omega
      | succ fu ih23 =>
        intro q5 H locs ls hm23 hl23_0 hl23_1 hl23_2  hP hD hS hlv
        refine lv_iload hx hb dX10_of_23 (lv_at hlv 0 rfl) ?_
        refine lv_aload hx hb dX10_of_25 (lv_at hlv 1 rfl) ?_
        refine cj_i (wr := [zI tb (cy 1) 600 bf]) (va_runV (As := []) (rest := [vI q5]) ⟨hx, hb, hml, hown, hts⟩ (s_length l hl D cy sa q3 H.size (by first | exact rgw hl2_0 (by decide) (by decide) | omega)) (cwV 0 hts gg_0 rfl rfl rfl (by decide +kernel) ⟨Nat.le_of_ble_eq_true rfl, Nat.le_of_ble_eq_true rfl⟩) ⟨pcW.blind, (wo_recv (WD.tx hT.2.2 (q3 : Int).toNat (by omega)).1 hS), (pcW.mk hP hD hS hA hG hT [] rfl (by decide))⟩ rfl rfl hlv.1 rfl (lv_room (Nat.le_of_ble_eq_true rfl)) dX10_of_27 ⟨Nat.le_of_ble_eq_true rfl, Nat.le_of_ble_eq_true rfl⟩) hP hD hS hA [] [0] rfl rfl (by decide) (by decide) (fun r1 u1 H locs hw1 hP hD hS => ?_)
        obtain ⟨rfl, hq1_1, hq1_2⟩ := hw1
        have hP : va_P D vwCl [zI tb (cy 1) 600 bf] H := hP
        have hD : va_D A [zI tb (cy 1) 600 bf] := hD
        refine ir_ge (tgt := 63) hx hb dX10_of_30 (by decide) (by first | exact rgw hl23_0 (by decide) (by decide) | omega) (by first | exact rgw hq1_1 (by decide) (by decide) | omega) (fun c_2 => ?_) (fun c_2 => ?_)
        · refine lv_iload hx hb dX10_of_63 (lv_at hlv 0 rfl) ?_
          refine lv_aload hx hb dX10_of_65 (lv_at hlv 1 rfl) ?_
          refine cj_i (wr := [zI tb (cy 1) 600 bf]) (va_runV (As := []) (rest := [vI q5]) ⟨hx, hb, hml, hown, hts⟩ (s_length l hl D cy sa q3 H.size (by first | exact rgw hl2_0 (by decide) (by decide) | omega)) (cwV 0 hts gg_0 rfl rfl rfl (by decide +kernel) ⟨Nat.le_of_ble_eq_true rfl, Nat.le_of_ble_eq_true rfl⟩) ⟨pcW.blind, (wo_recv (WD.tx hT.2.2 (q3 : Int).toNat (by omega)).1 hS), (pcW.mk hP hD hS hA hG hT [] rfl (by decide))⟩ rfl rfl hlv.1 rfl (lv_room (Nat.le_of_ble_eq_true rfl)) dX10_of_67 ⟨Nat.le_of_ble_eq_true rfl, Nat.le_of_ble_eq_true rfl⟩) hP hD hS hA [] [0] rfl rfl (by decide) (by decide) (fun r2 u2 H locs hw2 hP hD hS => ?_)
          obtain ⟨rfl, hq2_1, hq2_2⟩ := hw2
          have hP : va_P D vwCl [zI tb (cy 1) 600 bf] H := hP
          have hD : va_D A [zI tb (cy 1) 600 bf] := hD
          refine ir_ne (tgt := 87) hx hb dX10_of_70 (by decide) (by first | exact rgw hl23_0 (by decide) (by decide) | omega) (by first | exact rgw hq2_1 (by decide) (by decide) | omega) (fun c_3 => ?_) (fun c_3 => ?_)
          · obtain ⟨z_4, hz_4⟩ : ∃ z : Int, z = q3 + 1 := ⟨_, rfl⟩
            refine lv_iinc (v := iI z_4) (lv' := [(3, vI z_4), (5, vI q5), (4, .ref (sn sa q3)), (0, vR tb), (1, vI fr), (2, vI en)]) hx hb dX10_of_87 hlv (k := 2) rfl (by rw [hz_4]; exact (Int32.ofInt_add _ _).symm) (by decide) rfl (fun ls hlv => ?_)
            refine lv_goto (tgt := 2) hx hb dX10_of_90 (by decide) ?_
            exact ih2 z_4 H locs ls (by omega) (by omega) (FMn_s (q := q3) hl2_1 (fun q => by have q1 := q.1; first | omega | (have q2 := q.2 q5 (by omega) (by omega); rw [show fr + q5 = fr by omega] at q2; omega)) (by omega))  (hP.sub [0] rfl) (hD.sub [0] (by decide) rfl) hS (lv_sub hlv [0, 3, 4, 5] rfl)
          · refine lv_iload_n hx hb dX10_of_73 rfl (lv_at hlv 4 rfl) ?_
            refine lv_iload hx hb dX10_of_74 (lv_at hlv 0 rfl) ?_
            refine lv_iadd hx hb dX10_of_76 ?_
            refine lt_e (e0 := fr + q5) (Int32.ofInt_add _ _).symm (fun z_5 hz_5 => ?_)
            refine lv_iload_n hx hb dX10_of_77 rfl (lv_at hlv 5 rfl) ?_
            refine ir_ne (tgt := 87) hx hb dX10_of_78 (by decide) (by omega) (by first | exact rgw hr_en (by decide) (by decide) | omega) (fun c_6 => ?_) (fun c_6 => ?_)
            · obtain ⟨z_7, hz_7⟩ : ∃ z : Int, z = q3 + 1 := ⟨_, rfl⟩
              refine lv_iinc (v := iI z_7) (lv' := [(3, vI z_7), (5, vI q5), (4, .ref (sn sa q3)), (0, vR tb), (1, vI fr), (2, vI en)]) hx hb dX10_of_87 hlv (k := 2) rfl (by rw [hz_7]; exact (Int32.ofInt_add _ _).symm) (by decide) rfl (fun ls hlv => ?_)
              refine lv_goto (tgt := 2) hx hb dX10_of_90 (by decide) ?_
              exact ih2 z_7 H locs ls (by omega) (by omega) (FMn_s (q := q3) hl2_1 (fun q => by have q1 := q.1; first | omega | (have q2 := q.2 q5 (by omega) (by omega); rw [show fr + q5 = fr by omega] at q2; omega)) (by omega))  (hP.sub [0] rfl) (hD.sub [0] (by decide) rfl) hS (lv_sub hlv [0, 3, 4, 5] rfl)
            · refine va_gets (C := "KerbSplash$Word") (n := "ALL") (d := "[LKerbSplash$Word;") (ref := "KerbSplash$Word") (v := .ref (sa 99)) hx hb hT.2.2.2.2.1 hS hown lf123 (fun _ h9 => h9) dX10_of_81 ?_
              refine lv_iload_n hx hb dX10_of_84 rfl (lv_at hlv 2 rfl) ?_
              refine vb_tq (v := .ref (wd sa q3)) hx hb hT.2.2.2.2.2.1 hS (iI_in (by omega) (by decide)) (wa_rd (by omega)) dX10_of_85 ?_
              refine W.widen (k := 0) (n := 0) (Nat.le_of_ble_eq_true rfl) (Nat.le_of_ble_eq_true rfl) ?_
              exact W.aret (v := .ref (wd sa q3)) hx hb hr (Or.inl ⟨_, rfl⟩) (Or.inr ⟨_, rfl⟩) (fun t ht hW => ⟨⟨((fun k => ([] : List Nat).getD k 0), (fun k => ([q3] : List Int).getD k 0), (fun k => ([] : List (Nat → Int32)).getD k (fun _ => 0))), _, rfl, ⟨(by show (0 ≤ q3 ∧ q3 ≤ 27); omega), (by show (FMr bf fr en (q3)); exact (FMr_f (by omega) ⟨by omega, fun t a9 b9 => hl23_2 t a9 (by omega)⟩))⟩, rfl, by rw [ht]; exact hP.sub [0] rfl, hD.sub [0] (by decide) rfl⟩, hS.F ht⟩) hS.2.2 dX10_of_86
        · refine lv_iload_n hx hb dX10_of_33 rfl (lv_at hlv 4 rfl) ?_
          refine lv_iload hx hb dX10_of_34 (lv_at hlv 0 rfl) ?_
          refine lv_iadd hx hb dX10_of_36 ?_
          refine lt_e (e0 := fr + q5) (Int32.ofInt_add _ _).symm (fun z_8 hz_8 => ?_)
          refine lv_iload_n hx hb dX10_of_37 rfl (lv_at hlv 5 rfl) ?_
          refine ir_ge (tgt := 63) hx hb dX10_of_38 (by decide) (by omega) (by first | exact rgw hr_en (by decide) (by decide) | omega) (fun c_9 => ?_) (fun c_9 => ?_)
          · refine lv_iload hx hb dX10_of_63 (lv_at hlv 0 rfl) ?_
            refine lv_aload hx hb dX10_of_65 (lv_at hlv 1 rfl) ?_
            refine cj_i (wr := [zI tb (cy 1) 600 bf]) (va_runV (As := []) (rest := [vI q5]) ⟨hx, hb, hml, hown, hts⟩ (s_length l hl D cy sa q3 H.size (by first | exact rgw hl2_0 (by decide) (by decide) | omega)) (cwV 0 hts gg_0 rfl rfl rfl (by decide +kernel) ⟨Nat.le_of_ble_eq_true rfl, Nat.le_of_ble_eq_true rfl⟩) ⟨pcW.blind, (wo_recv (WD.tx hT.2.2 (q3 : Int).toNat (by omega)).1 hS), (pcW.mk hP hD hS hA hG hT [] rfl (by decide))⟩ rfl rfl hlv.1 rfl (lv_room (Nat.le_of_ble_eq_true rfl)) dX10_of_67 ⟨Nat.le_of_ble_eq_true rfl, Nat.le_of_ble_eq_true rfl⟩) hP hD hS hA [] [0] rfl rfl (by decide) (by decide) (fun r3 u3 H locs hw3 hP hD hS => ?_)
            obtain ⟨rfl, hq3_1, hq3_2⟩ := hw3
            have hP : va_P D vwCl [zI tb (cy 1) 600 bf] H := hP
            have hD : va_D A [zI tb (cy 1) 600 bf] := hD
            refine ir_ne (tgt := 87) hx hb dX10_of_70 (by decide) (by first | exact rgw hl23_0 (by decide) (by decide) | omega) (by first | exact rgw hq3_1 (by decide) (by decide) | omega) (fun c_10 => ?_) (fun c_10 => ?_)
            · obtain ⟨z_11, hz_11⟩ : ∃ z : Int, z = q3 + 1 := ⟨_, rfl⟩
              refine lv_iinc (v := iI z_11) (lv' := [(3, vI z_11), (5, vI q5), (4, .ref (sn sa q3)), (0, vR tb), (1, vI fr), (2, vI en)]) hx hb dX10_of_87 hlv (k := 2) rfl (by rw [hz_11]; exact (Int32.ofInt_add _ _).symm) (by decide) rfl (fun ls hlv => ?_)
              refine lv_goto (tgt := 2) hx hb dX10_of_90 (by decide) ?_
              exact ih2 z_11 H locs ls (by omega) (by omega) (FMn_s (q := q3) hl2_1 (fun q => by have q1 := q.1; first | omega | (have q2 := q.2 q5 (by omega) (by omega); rw [show fr + q5 = fr by omega] at q2; omega)) (by omega))  (hP.sub [0] rfl) (hD.sub [0] (by decide) rfl) hS (lv_sub hlv [0, 3, 4, 5] rfl)
            · refine lv_iload_n hx hb dX10_of_73 rfl (lv_at hlv 4 rfl) ?_
              refine lv_iload hx hb dX10_of_74 (lv_at hlv 0 rfl) ?_
              refine lv_iadd hx hb dX10_of_76 ?_
              refine lt_e (e0 := fr + q5) (Int32.ofInt_add _ _).symm (fun z_12 hz_12 => ?_)
              refine lv_iload_n hx hb dX10_of_77 rfl (lv_at hlv 5 rfl) ?_
              refine ir_ne (tgt := 87) hx hb dX10_of_78 (by decide) (by omega) (by first | exact rgw hr_en (by decide) (by decide) | omega) (fun c_13 => ?_) (fun c_13 => ?_)
              · obtain ⟨z_14, hz_14⟩ : ∃ z : Int, z = q3 + 1 := ⟨_, rfl⟩
                refine lv_iinc (v := iI z_14) (lv' := [(3, vI z_14), (5, vI q5), (4, .ref (sn sa q3)), (0, vR tb), (1, vI fr), (2, vI en)]) hx hb dX10_of_87 hlv (k := 2) rfl (by rw [hz_14]; exact (Int32.ofInt_add _ _).symm) (by decide) rfl (fun ls hlv => ?_)
                refine lv_goto (tgt := 2) hx hb dX10_of_90 (by decide) ?_
                exact ih2 z_14 H locs ls (by omega) (by omega) (FMn_s (q := q3) hl2_1 (fun q => by have q1 := q.1; first | omega | (have q2 := q.2 q5 (by omega) (by omega); rw [show fr + q5 = fr by omega] at q2; omega)) (by omega))  (hP.sub [0] rfl) (hD.sub [0] (by decide) rfl) hS (lv_sub hlv [0, 3, 4, 5] rfl)
              · refine va_gets (C := "KerbSplash$Word") (n := "ALL") (d := "[LKerbSplash$Word;") (ref := "KerbSplash$Word") (v := .ref (sa 99)) hx hb hT.2.2.2.2.1 hS hown lf123 (fun _ h9 => h9) dX10_of_81 ?_
                refine lv_iload_n hx hb dX10_of_84 rfl (lv_at hlv 2 rfl) ?_
                refine vb_tq (v := .ref (wd sa q3)) hx hb hT.2.2.2.2.2.1 hS (iI_in (by omega) (by decide)) (wa_rd (by omega)) dX10_of_85 ?_
                refine W.widen (k := 0) (n := 0) (Nat.le_of_ble_eq_true rfl) (Nat.le_of_ble_eq_true rfl) ?_
                exact W.aret (v := .ref (wd sa q3)) hx hb hr (Or.inl ⟨_, rfl⟩) (Or.inr ⟨_, rfl⟩) (fun t ht hW => ⟨⟨((fun k => ([] : List Nat).getD k 0), (fun k => ([q3] : List Int).getD k 0), (fun k => ([] : List (Nat → Int32)).getD k (fun _ => 0))), _, rfl, ⟨(by show (0 ≤ q3 ∧ q3 ≤ 27); omega), (by show (FMr bf fr en (q3)); exact (FMr_f (by omega) ⟨by omega, fun t a9 b9 => hl23_2 t a9 (by omega)⟩))⟩, rfl, by rw [ht]; exact hP.sub [0] rfl, hD.sub [0] (by decide) rfl⟩, hS.F ht⟩) hS.2.2 dX10_of_86
          · refine lv_aload_n hx hb dX10_of_41 rfl (lv_at hlv 3 rfl) ?_
            refine lv_iload_n hx hb dX10_of_42 rfl (lv_at hlv 4 rfl) ?_
            refine lv_iload hx hb dX10_of_43 (lv_at hlv 0 rfl) ?_
            refine lv_iadd hx hb dX10_of_45 ?_
            refine lt_e (e0 := fr + q5) (Int32.ofInt_add _ _).symm (fun z_15 hz_15 => ?_)
            refine va_bald hx hb hG.1 hP 0 1 rfl rfl (iI_in (by omega) (by decide)) dX10_of_46 ?_
            refine lt_nz (i := z_15) (by omega) (fun z_16 hz_16 lz_16 uz_16 => ?_)
            refine lv_aload hx hb dX10_of_47 (lv_at hlv 1 rfl) ?_
            refine lv_iload hx hb dX10_of_49 (lv_at hlv 0 rfl) ?_
            refine cj_i (wr := [zI tb (cy 1) 600 bf]) (va_runV (As := [vI q5]) (rest := [vI z_16]) ⟨hx, hb, hml, hown, hts⟩ (s_charAt l hl D cy sa q3 q5 H.size (by first | exact rgw hl2_0 (by decide) (by decide) | omega) (by omega) (by omega)) (cwV 1 hts gg_1 rfl rfl rfl (by decide +kernel) ⟨Nat.le_of_ble_eq_true rfl, Nat.le_of_ble_eq_true rfl⟩) ⟨pcW.blind, (wo_recv (WD.tx hT.2.2 (q3 : Int).toNat (by omega)).1 hS), (pcW.mk hP hD hS hA hG hT [] rfl (by decide))⟩ rfl rfl hlv.1 rfl (lv_room (Nat.le_of_ble_eq_true rfl)) dX10_of_51 ⟨Nat.le_of_ble_eq_true rfl, Nat.le_of_ble_eq_true rfl⟩) hP hD hS hA [] [0] rfl rfl (by decide) (by decide) (fun r4 u4 H locs hw4 hP hD hS => ?_)
            obtain ⟨rfl, hq4_1, hq4_2⟩ := hw4
            have hP : va_P D vwCl [zI tb (cy 1) 600 bf] H := hP
            have hD : va_D A [zI tb (cy 1) 600 bf] := hD
            refine ir_ne (tgt := 63) hx hb dX10_of_54 (by decide) (by omega) (by first | exact rgw hq4_1 (by decide) (by decide) | omega) (fun c_17 => ?_) (fun c_17 => ?_)
            · refine lv_iload hx hb dX10_of_63 (lv_at hlv 0 rfl) ?_
              refine lv_aload hx hb dX10_of_65 (lv_at hlv 1 rfl) ?_
              refine cj_i (wr := [zI tb (cy 1) 600 bf]) (va_runV (As := []) (rest := [vI q5]) ⟨hx, hb, hml, hown, hts⟩ (s_length l hl D cy sa q3 H.size (by first | exact rgw hl2_0 (by decide) (by decide) | omega)) (cwV 0 hts gg_0 rfl rfl rfl (by decide +kernel) ⟨Nat.le_of_ble_eq_true rfl, Nat.le_of_ble_eq_true rfl⟩) ⟨pcW.blind, (wo_recv (WD.tx hT.2.2 (q3 : Int).toNat (by omega)).1 hS), (pcW.mk hP hD hS hA hG hT [] rfl (by decide))⟩ rfl rfl hlv.1 rfl (lv_room (Nat.le_of_ble_eq_true rfl)) dX10_of_67 ⟨Nat.le_of_ble_eq_true rfl, Nat.le_of_ble_eq_true rfl⟩) hP hD hS hA [] [0] rfl rfl (by decide) (by decide) (fun r5 u5 H locs hw5 hP hD hS => ?_)
              obtain ⟨rfl, hq5_1, hq5_2⟩ := hw5
              have hP : va_P D vwCl [zI tb (cy 1) 600 bf] H := hP
              have hD : va_D A [zI tb (cy 1) 600 bf] := hD
              refine ir_ne (tgt := 87) hx hb dX10_of_70 (by decide) (by first | exact rgw hl23_0 (by decide) (by decide) | omega) (by first | exact rgw hq5_1 (by decide) (by decide) | omega) (fun c_18 => ?_) (fun c_18 => ?_)
              · obtain ⟨z_19, hz_19⟩ : ∃ z : Int, z = q3 + 1 := ⟨_, rfl⟩
                refine lv_iinc (v := iI z_19) (lv' := [(3, vI z_19), (5, vI q5), (4, .ref (sn sa q3)), (0, vR tb), (1, vI fr), (2, vI en)]) hx hb dX10_of_87 hlv (k := 2) rfl (by rw [hz_19]; exact (Int32.ofInt_add _ _).symm) (by decide) rfl (fun ls hlv => ?_)
                refine lv_goto (tgt := 2) hx hb dX10_of_90 (by decide) ?_
                exact ih2 z_19 H locs ls (by omega) (by omega) (FMn_s (q := q3) hl2_1 (fun q => by have q1 := q.1; first | omega | (have q2 := q.2 q5 (by omega) (by omega); rw [show fr + q5 = z_15 by omega] at q2; omega)) (by omega))  (hP.sub [0] rfl) (hD.sub [0] (by decide) rfl) hS (lv_sub hlv [0, 3, 4, 5] rfl)
              · refine lv_iload_n hx hb dX10_of_73 rfl (lv_at hlv 4 rfl) ?_
                refine lv_iload hx hb dX10_of_74 (lv_at hlv 0 rfl) ?_
                refine lv_iadd hx hb dX10_of_76 ?_
                refine lt_e (e0 := fr + q5) (Int32.ofInt_add _ _).symm (fun z_20 hz_20 => ?_)
                refine lv_iload_n hx hb dX10_of_77 rfl (lv_at hlv 5 rfl) ?_
                refine ir_ne (tgt := 87) hx hb dX10_of_78 (by decide) (by omega) (by first | exact rgw hr_en (by decide) (by decide) | omega) (fun c_21 => ?_) (fun c_21 => ?_)
                · obtain ⟨z_22, hz_22⟩ : ∃ z : Int, z = q3 + 1 := ⟨_, rfl⟩
                  refine lv_iinc (v := iI z_22) (lv' := [(3, vI z_22), (5, vI q5), (4, .ref (sn sa q3)), (0, vR tb), (1, vI fr), (2, vI en)]) hx hb dX10_of_87 hlv (k := 2) rfl (by rw [hz_22]; exact (Int32.ofInt_add _ _).symm) (by decide) rfl (fun ls hlv => ?_)
                  refine lv_goto (tgt := 2) hx hb dX10_of_90 (by decide) ?_
                  exact ih2 z_22 H locs ls (by omega) (by omega) (FMn_s (q := q3) hl2_1 (fun q => by have q1 := q.1; first | omega | (have q2 := q.2 q5 (by omega) (by omega); rw [show fr + q5 = z_15 by omega] at q2; omega)) (by omega))  (hP.sub [0] rfl) (hD.sub [0] (by decide) rfl) hS (lv_sub hlv [0, 3, 4, 5] rfl)
                · refine va_gets (C := "KerbSplash$Word") (n := "ALL") (d := "[LKerbSplash$Word;") (ref := "KerbSplash$Word") (v := .ref (sa 99)) hx hb hT.2.2.2.2.1 hS hown lf123 (fun _ h9 => h9) dX10_of_81 ?_
                  refine lv_iload_n hx hb dX10_of_84 rfl (lv_at hlv 2 rfl) ?_
                  refine vb_tq (v := .ref (wd sa q3)) hx hb hT.2.2.2.2.2.1 hS (iI_in (by omega) (by decide)) (wa_rd (by omega)) dX10_of_85 ?_
                  refine W.widen (k := 0) (n := 0) (Nat.le_of_ble_eq_true rfl) (Nat.le_of_ble_eq_true rfl) ?_
                  exact W.aret (v := .ref (wd sa q3)) hx hb hr (Or.inl ⟨_, rfl⟩) (Or.inr ⟨_, rfl⟩) (fun t ht hW => ⟨⟨((fun k => ([] : List Nat).getD k 0), (fun k => ([q3] : List Int).getD k 0), (fun k => ([] : List (Nat → Int32)).getD k (fun _ => 0))), _, rfl, ⟨(by show (0 ≤ q3 ∧ q3 ≤ 27); omega), (by show (FMr bf fr en (q3)); exact (FMr_f (by omega) ⟨by omega, fun t a9 b9 => hl23_2 t a9 (by omega)⟩))⟩, rfl, by rw [ht]; exact hP.sub [0] rfl, hD.sub [0] (by decide) rfl⟩, hS.F ht⟩) hS.2.2 dX10_of_86
            · obtain ⟨z_23, hz_23⟩ : ∃ z : Int, z = q5 + 1 := ⟨_, rfl⟩
              refine lv_iinc (v := iI z_23) (lv' := [(5, vI z_23), (4, .ref (sn sa q3)), (3, vI q3), (0, vR tb), (1, vI fr), (2, vI en)]) hx hb dX10_of_57 hlv (k := 0) rfl (by rw [hz_23]; exact (Int32.ofInt_add _ _).symm) (by decide) rfl (fun ls hlv => ?_)
              refine lv_goto (tgt := 23) hx hb dX10_of_60 (by decide) ?_
              exact ih23 z_23 H locs ls (by omega) (by omega) (by omega) (fun t ht0 ht1 => by by_cases q9 : t = q5; (subst q9; rw [show fr + t = z_15 by omega]; omega); exact hl23_2 t ht0 (by omega))  (hP.sub [0] rfl) (hD.sub [0] (by decide) rfl) hS (lv_sub hlv [0, 1, 2, 3, 4, 5] rfl)
def vs_e_word : List Cond := .code yX8_word cX8_word 1 (some (.object "KerbSplash$Word")) :: (([.fieldLink RX8 25 "KerbSplash$Tape" "at" "I", .fieldLink RX8 28 "KerbSplash$Tape" "wordEnd" "I", .fieldLink RX8 22 "KerbSplash$Tape" "length" "I", .fieldLink RX8 11 "KerbSplash$Tape" "bytes" "[B", .initialized RX10, .static yX10_of, .fieldLink RX8 42 "KerbSplash$Word" "NO" "LKerbSplash$Word;"] : List Cond) ++ ((wsV RX8 34 RX8 yX8_sign vs_e_sign) ++ ((wsX80) ++ ((vs_e_wordOf) ++ ([])))))
theorem gd_e_word : vs_e_word.all goodWord = true := gd_C (by decide +kernel) (gd_A (by decide +kernel) (gd_A (gd_V gd_e_sign (by decide +kernel)) (gd_A (by decide +kernel) (gd_A gd_e_wordOf rfl))))
set_option maxHeartbeats 4000000 in
set_option maxRecDepth 100000 in
theorem e_word (l : Launch) (hl : l.stackTraces = false) (D : va_G) (cy : Nat → ClassId) (sa : Nat → Nat) (ta tb : Nat) (fed len at_ we fa fp : Int) (bf : Nat → Int32) (gq : Nat → Int) (sz : Nat) (hr_fed : 0 ≤ fed ∧ fed ≤ 600) (hr_len : 0 ≤ len ∧ len ≤ 600) (hr_at_ : 0 ≤ at_ ∧ at_ ≤ 600) (hr_we : 0 ≤ we ∧ we ≤ 600) (hr_fa : 0 ≤ fa ∧ fa ≤ 4) (hr_fp : (-1) ≤ fp ∧ fp ≤ 600) (hn_br : TPg bf gq) : Met l yX8_word vs_e_word ({ frames := 5, cells := 0, slots := 0, locals := 110 }) (va_Pc [vR ta] (pcW D cy sa sz [zO ta 8 [vR tb, vI fed, vI len, vI at_, vI we, vI fa, vI fp], zI tb (cy 1) 600 bf])) (va_Qr (fun u : SV => (0 ≤ u.2.1 0 ∧ u.2.1 0 ≤ 27) ∧ (0 ≤ u.2.1 1 ∧ u.2.1 1 ≤ 600) ∧ (0 ≤ u.2.1 2 ∧ u.2.1 2 ≤ 600) ∧ (at_ ≤ u.2.1 1) ∧ (WoP gq len at_ fa (u.2.1 0) (u.2.1 1) (u.2.1 2))) (fun u a t => a = wd sa (u.2.1 0) ∧ atW D (va_A [zO ta 8 [vR tb, vI fed, vI len, vI at_, vI we, vI fa, vI fp], zI tb (cy 1) 600 bf] sz) [zO ta 8 [vR tb, vI fed, vI len, vI (u.2.1 1), vI (u.2.1 2), vI fa, vI fp], zI tb (cy 1) 600 bf] t) (va_A [zO ta 8 [vR tb, vI fed, vI len, vI at_, vI we, vI fa, vI fp], zI tb (cy 1) 600 bf] sz)) 0 0 (va_A [zO ta 8 [vR tb, vI fed, vI len, vI at_, vI we, vI fa, vI fp], zI tb (cy 1) 600 bf] sz) := by
  refine Met.ofW (cc := cX8_word) (maxL := 1) (ret := (some (.object "KerbSplash$Word"))) (by decide) rfl ?_
  intro p e s m args below meth c s₁ B hml hv
  obtain ⟨rfl, hsz, hP, hG, hD0, hT⟩ := hv
  have hx := B.exec
  have hb := B.bytes
  have hr := B.returns
  have hts := atoms_spec (ws := vs_e_word) B.pre
  have hown : s.vm.findClass RX8 = some m.cls := findClass_of_methodNamed B.named
  have hlocks := B.notSynchronized
  subst hsz
  have hD := hD0.self (sz := s.heap.size)
  generalize hAe : va_A [zO ta 8 [vR tb, vI fed, vI len, vI at_, vI we, vI fa, vI fp], zI tb (cy 1) 600 bf] s.heap.size = A at hD hT ⊢
  have hA : ∀ q : Nat, s.heap.size ≤ q → A q := fun q h => by rw [← hAe]; exact Or.inr h
  have hS : va_S A s.heap s.heap [] := va_S.rf
  have hl0 := lv_entry ([vR ta]) (n := 1) (Nat.le_of_ble_eq_true rfl)
  rw [lg_entry_eq]
  generalize (lg_sl ([vR ta]) ++ List.replicate (1 - (lg_sl ([vR ta])).length) Slot.unset).toArray = ls at hl0 ⊢
  have hlv : lv_has ls 1 [(0, vR ta)] := hl0
  have gg_0 : GoodIn vs_e_word (wsV RX8 34 RX8 yX8_sign vs_e_sign) := goodIn_sub (fun w h => List.mem_cons_of_mem _ (List.mem_append_right _ (List.mem_append_left _ h))) (gd_V gd_e_sign (by decide +kernel))
  have lf25 := hts (.fieldLink RX8 25 "KerbSplash$Tape" "at" "I") (List.mem_of_getElem? (i := 1) rfl)
  have hi8 : ∀ w ∈ wsX80, w ∈ vs_e_word := fun w h => List.mem_cons_of_mem _ (List.mem_append_right _ (List.mem_append_right _ (List.mem_append_left _ h)))
  have lf28 := hts (.fieldLink RX8 28 "KerbSplash$Tape" "wordEnd" "I") (List.mem_of_getElem? (i := 2) rfl)
  have lf22 := hts (.fieldLink RX8 22 "KerbSplash$Tape" "length" "I") (List.mem_of_getElem? (i := 3) rfl)
  have lf11 := hts (.fieldLink RX8 11 "KerbSplash$Tape" "bytes" "[B") (List.mem_of_getElem? (i := 4) rfl)
  have gg_2 : GoodIn vs_e_word (vs_e_wordOf) := goodIn_sub (fun w h => List.mem_cons_of_mem _ (List.mem_append_right _ (List.mem_append_right _ (List.mem_append_right _ (List.mem_append_left _ h))))) gd_e_wordOf
  have ini_RX10 := hts (.initialized RX10) (List.mem_of_getElem? (i := 5) rfl)
  have st_X10_of := hts (.static yX10_of) (List.mem_of_getElem? (i := 6) rfl)
  have lf42 := hts (.fieldLink RX8 42 "KerbSplash$Word" "NO" "LKerbSplash$Word;") (List.mem_of_getElem? (i := 7) rfl)
  refine lv_aload_n hx hb dX8_word_0 rfl (lv_at hlv 0 rfl) ?_
  refine cj_i (wr := []) (va_runV (As := []) (rest := []) ⟨hx, hb, hml, hown, hts⟩ (e_sign l hl D cy sa ta tb fed len at_ we fa fp bf gq s.heap.size (by first | exact hr_fed | omega) (by first | exact hr_len | omega) (by first | exact hr_at_ | omega) (by first | exact hr_we | omega) (by first | exact hr_fa | omega) (by first | exact hr_fp | omega) hn_br) (cwV 0 hts gg_0 rfl rfl rfl (by decide +kernel) ⟨Nat.le_of_ble_eq_true rfl, Nat.le_of_ble_eq_true rfl⟩) ⟨pcW.blind, (va_recv hG.1 hP (ci := 8) (q0 := 0) rfl rfl), (pcW.mk hP hD hS hA hG hT [0, 1] rfl (by decide))⟩ rfl rfl hlv.1 rfl (lv_room (Nat.le_of_ble_eq_true rfl)) dX8_word_1 ⟨Nat.le_of_ble_eq_true rfl, Nat.le_of_ble_eq_true rfl⟩) hP hD hS hA [0, 1] [] rfl rfl (by decide) (by decide) (fun r1 u1 H locs hw1 hP hD hS => ?_)
  obtain ⟨rfl, hq1_1, hq1_2, hq1_3, hq1_4, hq1_5, hq1_6⟩ := hw1
  have hP : va_P D vwCl [zO ta 8 [vR tb, vI fed, vI len, vI (u1.2.1 1), vI we, vI fa, vI fp], zI tb (cy 1) 600 bf] H := hP
  have hD : va_D A [zO ta 8 [vR tb, vI fed, vI len, vI (u1.2.1 1), vI we, vI fa, vI fp], zI tb (cy 1) 600 bf] := hD
  refine lv_iconst (v := iI (-1)) hx hb dX8_word_4 (by decide) ?_
  refine ir_ne (tgt := 12) hx hb dX8_word_5 (by decide) (by first | exact rgw hq1_1 (by decide) (by decide) | omega) (by show ((-2147483648) : Int) ≤ (-1) ∧ ((-1) : Int) ≤ 2147483647; decide) (fun c_1 => ?_) (fun c_1 => ?_)
  · refine lv_aload_n hx hb dX8_word_12 rfl (lv_at hlv 0 rfl) ?_
    refine lv_aload_n hx hb dX8_word_13 rfl (lv_at hlv 0 rfl) ?_
    refine va_get (D := D) (ci := 8) (v := vI (u1.2.1 1)) (C := RX8) (T := TX8) (N := 7) hx hb hts hi8 hown hG.1 hP 0 rfl rfl 3 (by decide) lf25 (fun _ h9 => h9) rfl dX8_word_14 ?_
    refine va_put (D := D) (ci := 8) (v := vI (u1.2.1 1)) (ty := .int) (C := RX8) (T := TX8) (N := 7) hx hb hts hi8 tyX8 tyX8_ok nmX8 hown hG.1 hP hD hS 0 rfl rfl 4 (by decide) lf28 (fun _ h9 => h9) rfl (by decide +kernel) rfl rfl (Nat.le_of_ble_eq_true rfl) dX8_word_17 (fun H locs hP hD hS => ?_)
    have hP : va_P D vwCl [zO ta 8 [vR tb, vI fed, vI len, vI (u1.2.1 1), vI (u1.2.1 1), vI fa, vI fp], zI tb (cy 1) 600 bf] H := hP
    have hD : va_D A [zO ta 8 [vR tb, vI fed, vI len, vI (u1.2.1 1), vI (u1.2.1 1), vI fa, vI fp], zI tb (cy 1) 600 bf] := hD
    refine (?_ : ∀ (fu : Nat) (x : Int) (H : Heap) (locs : List Loc) (ls : Array Slot), 600 - x < (fu : Int) → (0 ≤ x ∧ x ≤ 600) → (rnI pSm gq len x = rnI pSm gq len (u1.2.1 1)) → va_P D vwCl [zO ta 8 [vR tb, vI fed, vI len, vI (u1.2.1 1), vI x, vI fa, vI fp], zI tb (cy 1) 600 bf] H → va_D A [zO ta 8 [vR tb, vI fed, vI len, vI (u1.2.1 1), vI x, vI fa, vI fp], zI tb (cy 1) 600 bf] → va_S A s.heap H locs → lv_has ls 1 [(0, vR ta)] → W p l e _ s m _ below meth c H locs _ _ _ (F0 m 20 ls [])) (((600 - (u1.2.1 1)) + 1 : Int)).toNat (u1.2.1 1) _ _ _ (by omega) (by first | exact hq1_2 | omega) rfl  hP hD hS hlv
    clear hP hD hS hlv
    intro fu
    induction fu with
    | zero => intro x H locs ls hm20 hl20_0 hl20_1  hP hD hS hlv; omega
    | succ fu ih20 =>
      intro x H locs ls hm20 hl20_0 hl20_1  hP hD hS hlv
      refine lv_aload_n hx hb dX8_word_20 rfl (lv_at hlv 0 rfl) ?_
      refine va_get (D := D) (ci := 8) (v := vI x) (C := RX8) (T := TX8) (N := 7) hx hb hts hi8 hown hG.1 hP 0 rfl rfl 4 (by decide) lf28 (fun _ h9 => h9) rfl dX8_word_21 ?_
      refine lv_aload_n hx hb dX8_word_24 rfl (lv_at hlv 0 rfl) ?_
      refine va_get (D := D) (ci := 8) (v := vI len) (C := RX8) (T := TX8) (N := 7) hx hb hts hi8 hown hG.1 hP 0 rfl rfl 2 (by decide) lf22 (fun _ h9 => h9) rfl dX8_word_25 ?_
      refine ir_ge (tgt := 72) hx hb dX8_word_28 (by decide) (by first | exact rgw hl20_0 (by decide) (by decide) | omega) (by first | exact rgw hr_len (by decide) (by decide) | omega) (fun c_2 => ?_) (fun c_2 => ?_)
      · refine lv_aload_n hx hb dX8_word_72 rfl (lv_at hlv 0 rfl) ?_
        refine va_get (D := D) (ci := 8) (v := vR tb) (C := RX8) (T := TX8) (N := 7) hx hb hts hi8 hown hG.1 hP 0 rfl rfl 0 (by decide) lf11 (fun _ h9 => h9) rfl dX8_word_73 ?_
        refine lv_aload_n hx hb dX8_word_76 rfl (lv_at hlv 0 rfl) ?_
        refine va_get (D := D) (ci := 8) (v := vI (u1.2.1 1)) (C := RX8) (T := TX8) (N := 7) hx hb hts hi8 hown hG.1 hP 0 rfl rfl 3 (by decide) lf25 (fun _ h9 => h9) rfl dX8_word_77 ?_
        refine lv_aload_n hx hb dX8_word_80 rfl (lv_at hlv 0 rfl) ?_
        refine va_get (D := D) (ci := 8) (v := vI x) (C := RX8) (T := TX8) (N := 7) hx hb hts hi8 hown hG.1 hP 0 rfl rfl 4 (by decide) lf28 (fun _ h9 => h9) rfl dX8_word_81 ?_
        refine cj_r (ra := fun u : SV => wd sa (u.2.1 0)) (wr := [zO ta 8 [vR tb, vI fed, vI len, vI (u1.2.1 1), vI x, vI fa, vI fp]]) (va_runSN (host := "KerbSplash") (As := [vR tb, vI (u1.2.1 1), vI x]) (rest := []) ⟨hx, hb, hml, hown, hts⟩ (e_wordOf l hl D cy sa tb bf (u1.2.1 1) x H.size (by first | exact hq1_2 | omega) (by first | exact hl20_0 | omega)) ⟨va_cnB 3 hts gg_2 rfl rfl rfl (nM_Tape_48 hG.2.1) ini_RX10 (by decide +kernel) ⟨Nat.le_of_ble_eq_true rfl, Nat.le_of_ble_eq_true rfl⟩, st_X10_of, trivial⟩ ⟨pcW.blind, (pcW.mk hP hD hS hA hG hT [1] rfl (by decide))⟩ rfl rfl hlv.1 rfl (lv_room (Nat.le_of_ble_eq_true rfl)) dX8_word_84 ⟨Nat.le_of_ble_eq_true rfl, Nat.le_of_ble_eq_true rfl⟩) hP hD hS hA [1] [0] rfl rfl (by decide) (by decide) (fun u2 H locs hw2 hP hD hS => ?_)
        obtain ⟨hq2_0, hq2_1⟩ := hw2
        have hP : va_P D vwCl [zO ta 8 [vR tb, vI fed, vI len, vI (u1.2.1 1), vI x, vI fa, vI fp], zI tb (cy 1) 600 bf] H := hP
        have hD : va_D A [zO ta 8 [vR tb, vI fed, vI len, vI (u1.2.1 1), vI x, vI fa, vI fp], zI tb (cy 1) 600 bf] := hD
        refine W.widen (k := 0) (n := 0) (Nat.le_of_ble_eq_true rfl) (Nat.le_of_ble_eq_true rfl) ?_
        exact W.aret (v := .ref (wd sa (u2.2.1 0))) hx hb hr (Or.inl ⟨_, rfl⟩) (Or.inr ⟨_, rfl⟩) (fun t ht hW => ⟨⟨((fun k => ([] : List Nat).getD k 0), (fun k => ([(u2.2.1 0), (u1.2.1 1), x] : List Int).getD k 0), (fun k => ([] : List (Nat → Int32)).getD k (fun _ => 0))), _, rfl, ⟨(by show (0 ≤ (u2.2.1 0) ∧ (u2.2.1 0) ≤ 27); first | exact hq2_0 | omega), (by show (0 ≤ (u1.2.1 1) ∧ (u1.2.1 1) ≤ 600); first | exact hq1_2 | omega), (by show (0 ≤ x ∧ x ≤ 600); first | exact hl20_0 | omega), (by show (at_ ≤ (u1.2.1 1)); omega), (by show (WoP gq len at_ fa ((u2.2.1 0)) ((u1.2.1 1)) (x)); exact (WoP_2 hn_br (by omega) hq1_6 (by omega) (by omega) hl20_1 (by omega) (fun q => by have q1 := q.1; have q2 := q.2; have q3 := TPg.at hn_br (x := x) (by omega); omega) (by omega) hq2_1))⟩, rfl, by rw [ht]; exact hP.sub [0, 1] rfl, hD.sub [0, 1] (by decide) rfl⟩, hS.F ht⟩) hS.2.2 dX8_word_87
      · refine lv_aload_n hx hb dX8_word_31 rfl (lv_at hlv 0 rfl) ?_
        refine va_get (D := D) (ci := 8) (v := vR tb) (C := RX8) (T := TX8) (N := 7) hx hb hts hi8 hown hG.1 hP 0 rfl rfl 0 (by decide) lf11 (fun _ h9 => h9) rfl dX8_word_32 ?_
        refine lv_aload_n hx hb dX8_word_35 rfl (lv_at hlv 0 rfl) ?_
        refine va_get (D := D) (ci := 8) (v := vI x) (C := RX8) (T := TX8) (N := 7) hx hb hts hi8 hown hG.1 hP 0 rfl rfl 4 (by decide) lf28 (fun _ h9 => h9) rfl dX8_word_36 ?_
        refine va_bald hx hb hG.1 hP 1 1 rfl rfl (iI_in (by omega) (by decide)) dX8_word_39 ?_
        refine lt_nz (i := x) (by omega) (fun z_3 hz_3 lz_3 uz_3 => ?_)
        refine lv_bipush (v := iI 97) hx hb dX8_word_40 (by decide) ?_
        refine ir_lt (tgt := 72) hx hb dX8_word_42 (by decide) (by omega) (by show ((-2147483648) : Int) ≤ 97 ∧ (97 : Int) ≤ 2147483647; decide) (fun c_4 => ?_) (fun c_4 => ?_)
        · refine lv_aload_n hx hb dX8_word_72 rfl (lv_at hlv 0 rfl) ?_
          refine va_get (D := D) (ci := 8) (v := vR tb) (C := RX8) (T := TX8) (N := 7) hx hb hts hi8 hown hG.1 hP 0 rfl rfl 0 (by decide) lf11 (fun _ h9 => h9) rfl dX8_word_73 ?_
          refine lv_aload_n hx hb dX8_word_76 rfl (lv_at hlv 0 rfl) ?_
          refine va_get (D := D) (ci := 8) (v := vI (u1.2.1 1)) (C := RX8) (T := TX8) (N := 7) hx hb hts hi8 hown hG.1 hP 0 rfl rfl 3 (by decide) lf25 (fun _ h9 => h9) rfl dX8_word_77 ?_
          refine lv_aload_n hx hb dX8_word_80 rfl (lv_at hlv 0 rfl) ?_
          refine va_get (D := D) (ci := 8) (v := vI x) (C := RX8) (T := TX8) (N := 7) hx hb hts hi8 hown hG.1 hP 0 rfl rfl 4 (by decide) lf28 (fun _ h9 => h9) rfl dX8_word_81 ?_
          refine cj_r (ra := fun u : SV => wd sa (u.2.1 0)) (wr := [zO ta 8 [vR tb, vI fed, vI len, vI (u1.2.1 1), vI x, vI fa, vI fp]]) (va_runSN (host := "KerbSplash") (As := [vR tb, vI (u1.2.1 1), vI x]) (rest := []) ⟨hx, hb, hml, hown, hts⟩ (e_wordOf l hl D cy sa tb bf (u1.2.1 1) x H.size (by first | exact hq1_2 | omega) (by first | exact hl20_0 | omega)) ⟨va_cnB 3 hts gg_2 rfl rfl rfl (nM_Tape_48 hG.2.1) ini_RX10 (by decide +kernel) ⟨Nat.le_of_ble_eq_true rfl, Nat.le_of_ble_eq_true rfl⟩, st_X10_of, trivial⟩ ⟨pcW.blind, (pcW.mk hP hD hS hA hG hT [1] rfl (by decide))⟩ rfl rfl hlv.1 rfl (lv_room (Nat.le_of_ble_eq_true rfl)) dX8_word_84 ⟨Nat.le_of_ble_eq_true rfl, Nat.le_of_ble_eq_true rfl⟩) hP hD hS hA [1] [0] rfl rfl (by decide) (by decide) (fun u3 H locs hw3 hP hD hS => ?_)
          obtain ⟨hq3_0, hq3_1⟩ := hw3
          have hP : va_P D vwCl [zO ta 8 [vR tb, vI fed, vI len, vI (u1.2.1 1), vI x, vI fa, vI fp], zI tb (cy 1) 600 bf] H := hP
          have hD : va_D A [zO ta 8 [vR tb, vI fed, vI len, vI (u1.2.1 1), vI x, vI fa, vI fp], zI tb (cy 1) 600 bf] := hD
          refine W.widen (k := 0) (n := 0) (Nat.le_of_ble_eq_true rfl) (Nat.le_of_ble_eq_true rfl) ?_
          exact W.aret (v := .ref (wd sa (u3.2.1 0))) hx hb hr (Or.inl ⟨_, rfl⟩) (Or.inr ⟨_, rfl⟩) (fun t ht hW => ⟨⟨((fun k => ([] : List Nat).getD k 0), (fun k => ([(u3.2.1 0), (u1.2.1 1), x] : List Int).getD k 0), (fun k => ([] : List (Nat → Int32)).getD k (fun _ => 0))), _, rfl, ⟨(by show (0 ≤ (u3.2.1 0) ∧ (u3.2.1 0) ≤ 27); first | exact hq3_0 | omega), (by show (0 ≤ (u1.2.1 1) ∧ (u1.2.1 1) ≤ 600); first | exact hq1_2 | omega), (by show (0 ≤ x ∧ x ≤ 600); first | exact hl20_0 | omega), (by show (at_ ≤ (u1.2.1 1)); omega), (by show (WoP gq len at_ fa ((u3.2.1 0)) ((u1.2.1 1)) (x)); exact (WoP_2 hn_br (by omega) hq1_6 (by omega) (by omega) hl20_1 (by omega) (fun q => by have q1 := q.1; have q2 := q.2; have q3 := TPg.at hn_br (x := x) (by omega); omega) (by omega) hq3_1))⟩, rfl, by rw [ht]; exact hP.sub [0, 1] rfl, hD.sub [0, 1] (by decide) rfl⟩, hS.F ht⟩) hS.2.2 dX8_word_87
        · refine lv_aload_n hx hb dX8_word_45 rfl (lv_at hlv 0 rfl) ?_
          refine va_get (D := D) (ci := 8) (v := vR tb) (C := RX8) (T := TX8) (N := 7) hx hb hts hi8 hown hG.1 hP 0 rfl rfl 0 (by decide) lf11 (fun _ h9 => h9) rfl dX8_word_46 ?_
          refine lv_aload_n hx hb dX8_word_49 rfl (lv_at hlv 0 rfl) ?_
          refine va_get (D := D) (ci := 8) (v := vI x) (C := RX8) (T := TX8) (N := 7) hx hb hts hi8 hown hG.1 hP 0 rfl rfl 4 (by decide) lf28 (fun _ h9 => h9) rfl dX8_word_50 ?_
          refine va_bald hx hb hG.1 hP 1 1 rfl rfl (iI_in (by omega) (by decide)) dX8_word_53 ?_
          refine lt_i (y := iI z_3) (nz_rd hz_3 (by omega)) ?_
          refine lv_bipush (v := iI 122) hx hb dX8_word_54 (by decide) ?_
          refine ir_gt (tgt := 72) hx hb dX8_word_56 (by decide) (by omega) (by show ((-2147483648) : Int) ≤ 122 ∧ (122 : Int) ≤ 2147483647; decide) (fun c_5 => ?_) (fun c_5 => ?_)
          · refine lv_aload_n hx hb dX8_word_72 rfl (lv_at hlv 0 rfl) ?_
            refine va_get (D := D) (ci := 8) (v := vR tb) (C := RX8) (T := TX8) (N := 7) hx hb hts hi8 hown hG.1 hP 0 rfl rfl 0 (by decide) lf11 (fun _ h9 => h9) rfl dX8_word_73 ?_
            refine lv_aload_n hx hb dX8_word_76 rfl (lv_at hlv 0 rfl) ?_
            refine va_get (D := D) (ci := 8) (v := vI (u1.2.1 1)) (C := RX8) (T := TX8) (N := 7) hx hb hts hi8 hown hG.1 hP 0 rfl rfl 3 (by decide) lf25 (fun _ h9 => h9) rfl dX8_word_77 ?_
            refine lv_aload_n hx hb dX8_word_80 rfl (lv_at hlv 0 rfl) ?_
            refine va_get (D := D) (ci := 8) (v := vI x) (C := RX8) (T := TX8) (N := 7) hx hb hts hi8 hown hG.1 hP 0 rfl rfl 4 (by decide) lf28 (fun _ h9 => h9) rfl dX8_word_81 ?_
            refine cj_r (ra := fun u : SV => wd sa (u.2.1 0)) (wr := [zO ta 8 [vR tb, vI fed, vI len, vI (u1.2.1 1), vI x, vI fa, vI fp]]) (va_runSN (host := "KerbSplash") (As := [vR tb, vI (u1.2.1 1), vI x]) (rest := []) ⟨hx, hb, hml, hown, hts⟩ (e_wordOf l hl D cy sa tb bf (u1.2.1 1) x H.size (by first | exact hq1_2 | omega) (by first | exact hl20_0 | omega)) ⟨va_cnB 3 hts gg_2 rfl rfl rfl (nM_Tape_48 hG.2.1) ini_RX10 (by decide +kernel) ⟨Nat.le_of_ble_eq_true rfl, Nat.le_of_ble_eq_true rfl⟩, st_X10_of, trivial⟩ ⟨pcW.blind, (pcW.mk hP hD hS hA hG hT [1] rfl (by decide))⟩ rfl rfl hlv.1 rfl (lv_room (Nat.le_of_ble_eq_true rfl)) dX8_word_84 ⟨Nat.le_of_ble_eq_true rfl, Nat.le_of_ble_eq_true rfl⟩) hP hD hS hA [1] [0] rfl rfl (by decide) (by decide) (fun u4 H locs hw4 hP hD hS => ?_)
            obtain ⟨hq4_0, hq4_1⟩ := hw4
            have hP : va_P D vwCl [zO ta 8 [vR tb, vI fed, vI len, vI (u1.2.1 1), vI x, vI fa, vI fp], zI tb (cy 1) 600 bf] H := hP
            have hD : va_D A [zO ta 8 [vR tb, vI fed, vI len, vI (u1.2.1 1), vI x, vI fa, vI fp], zI tb (cy 1) 600 bf] := hD
            refine W.widen (k := 0) (n := 0) (Nat.le_of_ble_eq_true rfl) (Nat.le_of_ble_eq_true rfl) ?_
            exact W.aret (v := .ref (wd sa (u4.2.1 0))) hx hb hr (Or.inl ⟨_, rfl⟩) (Or.inr ⟨_, rfl⟩) (fun t ht hW => ⟨⟨((fun k => ([] : List Nat).getD k 0), (fun k => ([(u4.2.1 0), (u1.2.1 1), x] : List Int).getD k 0), (fun k => ([] : List (Nat → Int32)).getD k (fun _ => 0))), _, rfl, ⟨(by show (0 ≤ (u4.2.1 0) ∧ (u4.2.1 0) ≤ 27); first | exact hq4_0 | omega), (by show (0 ≤ (u1.2.1 1) ∧ (u1.2.1 1) ≤ 600); first | exact hq1_2 | omega), (by show (0 ≤ x ∧ x ≤ 600); first | exact hl20_0 | omega), (by show (at_ ≤ (u1.2.1 1)); omega), (by show (WoP gq len at_ fa ((u4.2.1 0)) ((u1.2.1 1)) (x)); exact (WoP_2 hn_br (by omega) hq1_6 (by omega) (by omega) hl20_1 (by omega) (fun q => by have q1 := q.1; have q2 := q.2; have q3 := TPg.at hn_br (x := x) (by omega); omega) (by omega) hq4_1))⟩, rfl, by rw [ht]; exact hP.sub [0, 1] rfl, hD.sub [0, 1] (by decide) rfl⟩, hS.F ht⟩) hS.2.2 dX8_word_87
          · refine lv_aload_n hx hb dX8_word_59 rfl (lv_at hlv 0 rfl) ?_
            refine lv_dup hx hb dX8_word_60 rfl ?_
            refine va_get (D := D) (ci := 8) (v := vI x) (C := RX8) (T := TX8) (N := 7) hx hb hts hi8 hown hG.1 hP 0 rfl rfl 4 (by decide) lf28 (fun _ h9 => h9) rfl dX8_word_61 ?_
            refine lv_iconst (v := iI 1) hx hb dX8_word_64 (by decide) ?_
            refine lv_iadd hx hb dX8_word_65 ?_
            refine lt_e (e0 := x + 1) (Int32.ofInt_add _ _).symm (fun z_6 hz_6 => ?_)
            refine va_put (D := D) (ci := 8) (v := vI z_6) (ty := .int) (C := RX8) (T := TX8) (N := 7) hx hb hts hi8 tyX8 tyX8_ok nmX8 hown hG.1 hP hD hS 0 rfl rfl 4 (by decide) lf28 (fun _ h9 => h9) rfl (by decide +kernel) rfl rfl (Nat.le_of_ble_eq_true rfl) dX8_word_66 (fun H locs hP hD hS => ?_)
            have hP : va_P D vwCl [zO ta 8 [vR tb, vI fed, vI len, vI (u1.2.1 1), vI z_6, vI fa, vI fp], zI tb (cy 1) 600 bf] H := hP
            have hD : va_D A [zO ta 8 [vR tb, vI fed, vI len, vI (u1.2.1 1), vI z_6, vI fa, vI fp], zI tb (cy 1) 600 bf] := hD
            refine lv_goto (tgt := 20) hx hb dX8_word_69 (by decide) ?_
            exact ih20 z_6 H locs ls (by omega) (by omega) ((rnI_go (a := x) (by omega) (by omega) (pSm_t (by have q3 := TPg.at hn_br (x := x) (by omega); omega)) (by omega)).trans hl20_1)  (hP.sub [0, 1] rfl) (hD.sub [0, 1] (by decide) rfl) hS (lv_sub hlv [0] rfl)
  · refine va_gets (C := "KerbSplash$Word") (n := "NO") (d := "LKerbSplash$Word;") (ref := "KerbSplash$Word") (v := .ref (wd sa 0)) hx hb (hT.2.2.1 0 (by decide)).1.1 hS hown lf42 (fun _ h9 => h9) dX8_word_8 ?_
    refine W.widen (k := 0) (n := 0) (Nat.le_of_ble_eq_true rfl) (Nat.le_of_ble_eq_true rfl) ?_
    exact W.aret (v := .ref (wd sa 0)) hx hb hr (Or.inl ⟨_, rfl⟩) (Or.inr ⟨_, rfl⟩) (fun t ht hW => ⟨⟨((fun k => ([] : List Nat).getD k 0), (fun k => ([0, (u1.2.1 1), we] : List Int).getD k 0), (fun k => ([] : List (Nat → Int32)).getD k (fun _ => 0))), _, rfl, ⟨(by show (0 ≤ 0 ∧ 0 ≤ 27); show (0 : Int) ≤ 0 ∧ (0 : Int) ≤ 27; decide), (by show (0 ≤ (u1.2.1 1) ∧ (u1.2.1 1) ≤ 600); first | exact hq1_2 | omega), (by show (0 ≤ we ∧ we ≤ 600); first | exact hr_we | omega), (by show (at_ ≤ (u1.2.1 1)); omega), (by show (WoP gq len at_ fa (0) ((u1.2.1 1)) (we)); exact (WoP_1 (TPg.nn hn_br (by omega)) hq1_6 (by omega) (by omega)))⟩, rfl, by rw [ht]; exact hP.sub [0, 1] rfl, hD.sub [0, 1] (by decide) rfl⟩, hS.F ht⟩) hS.2.2 dX8_word_11
def vs_e_takeWord : List Cond := .code yX8_takeWord cX8_takeWord 2 (some .boolean) :: (([.fieldLink RX8 28 "KerbSplash$Tape" "wordEnd" "I", .fieldLink RX8 25 "KerbSplash$Tape" "at" "I"] : List Cond) ++ ((wsV RX8 52 RX8 yX8_word vs_e_word) ++ ((wsX80) ++ ([]))))
theorem gd_e_takeWord : vs_e_takeWord.all goodWord = true := gd_C (by decide +kernel) (gd_A (by decide +kernel) (gd_A (gd_V gd_e_word (by decide +kernel)) (gd_A (by decide +kernel) rfl)))
set_option maxHeartbeats 4000000 in
set_option maxRecDepth 100000 in
theorem e_takeWord (l : Launch) (hl : l.stackTraces = false) (D : va_G) (cy : Nat → ClassId) (sa : Nat → Nat) (ta tb : Nat) (fed len at_ we fa fp : Int) (bf : Nat → Int32) (gq : Nat → Int) (k : Int) (sz : Nat) (hr_fed : 0 ≤ fed ∧ fed ≤ 600) (hr_len : 0 ≤ len ∧ len ≤ 600) (hr_at_ : 0 ≤ at_ ∧ at_ ≤ 600) (hr_we : 0 ≤ we ∧ we ≤ 600) (hr_fa : 0 ≤ fa ∧ fa ≤ 4) (hr_fp : (-1) ≤ fp ∧ fp ≤ 600) (hr_k : 0 ≤ k ∧ k ≤ 27) (hn_br : TPg bf gq) : Met l yX8_takeWord vs_e_takeWord ({ frames := 6, cells := 0, slots := 0, locals := 130 }) (va_Pc [vR ta, .ref (wd sa k)] (pcW D cy sa sz [zO ta 8 [vR tb, vI fed, vI len, vI at_, vI we, vI fa, vI fp], zI tb (cy 1) 600 bf])) (va_Qi (fun (r : Int32) (u : SV) => r = iI (u.2.1 0) ∧ (0 ≤ u.2.1 0 ∧ u.2.1 0 ≤ 1) ∧ (0 ≤ u.2.1 1 ∧ u.2.1 1 ≤ 600) ∧ (0 ≤ u.2.1 2 ∧ u.2.1 2 ≤ 600) ∧ (fa = 0 → k = wk gq len (rnI pSp gq len at_) → rnI pSp gq len at_ < len → u.2.1 1 = rnI pSm gq len (rnI pSp gq len at_))) (fun u t => atW D (va_A [zO ta 8 [vR tb, vI fed, vI len, vI at_, vI we, vI fa, vI fp], zI tb (cy 1) 600 bf] sz) [zO ta 8 [vR tb, vI fed, vI len, vI (u.2.1 1), vI (u.2.1 2), vI fa, vI fp], zI tb (cy 1) 600 bf] t) (va_A [zO ta 8 [vR tb, vI fed, vI len, vI at_, vI we, vI fa, vI fp], zI tb (cy 1) 600 bf] sz)) 0 0 (va_A [zO ta 8 [vR tb, vI fed, vI len, vI at_, vI we, vI fa, vI fp], zI tb (cy 1) 600 bf] sz) := by
  refine Met.ofW (cc := cX8_takeWord) (maxL := 2) (ret := (some .boolean)) (by decide) rfl ?_
  intro p e s m args below meth c s₁ B hml hv
  obtain ⟨rfl, hsz, hP, hG, hD0, hT⟩ := hv
  have hx := B.exec
  have hb := B.bytes
  have hr := B.returns
  have hts := atoms_spec (ws := vs_e_takeWord) B.pre
  have hown : s.vm.findClass RX8 = some m.cls := findClass_of_methodNamed B.named
  have hlocks := B.notSynchronized
  subst hsz
  have hD := hD0.self (sz := s.heap.size)
  generalize hAe : va_A [zO ta 8 [vR tb, vI fed, vI len, vI at_, vI we, vI fa, vI fp], zI tb (cy 1) 600 bf] s.heap.size = A at hD hT ⊢
  have hA : ∀ q : Nat, s.heap.size ≤ q → A q := fun q h => by rw [← hAe]; exact Or.inr h
  have hS : va_S A s.heap s.heap [] := va_S.rf
  have hl0 := lv_entry ([vR ta, .ref (wd sa k)]) (n := 2) (Nat.le_of_ble_eq_true rfl)
  rw [lg_entry_eq]
  generalize (lg_sl ([vR ta, .ref (wd sa k)]) ++ List.replicate (2 - (lg_sl ([vR ta, .ref (wd sa k)])).length) Slot.unset).toArray = ls at hl0 ⊢
  have hlv : lv_has ls 2 [(0, vR ta), (1, .ref (wd sa k))] := hl0
  have gg_0 : GoodIn vs_e_takeWord (wsV RX8 52 RX8 yX8_word vs_e_word) := goodIn_sub (fun w h => List.mem_cons_of_mem _ (List.mem_append_right _ (List.mem_append_left _ h))) (gd_V gd_e_word (by decide +kernel))
  have lf28 := hts (.fieldLink RX8 28 "KerbSplash$Tape" "wordEnd" "I") (List.mem_of_getElem? (i := 1) rfl)
  have hi8 : ∀ w ∈ wsX80, w ∈ vs_e_takeWord := fun w h => List.mem_cons_of_mem _ (List.mem_append_right _ (List.mem_append_right _ (List.mem_append_left _ h)))
  have lf25 := hts (.fieldLink RX8 25 "KerbSplash$Tape" "at" "I") (List.mem_of_getElem? (i := 2) rfl)
  refine lv_aload_n hx hb dX8_takeWord_0 rfl (lv_at hlv 0 rfl) ?_
  refine cj_r (ra := fun u : SV => wd sa (u.2.1 0)) (wr := []) (va_runV (As := []) (rest := []) ⟨hx, hb, hml, hown, hts⟩ (e_word l hl D cy sa ta tb fed len at_ we fa fp bf gq s.heap.size (by first | exact hr_fed | omega) (by first | exact hr_len | omega) (by first | exact hr_at_ | omega) (by first | exact hr_we | omega) (by first | exact hr_fa | omega) (by first | exact hr_fp | omega) hn_br) (cwV 0 hts gg_0 rfl rfl rfl (by decide +kernel) ⟨Nat.le_of_ble_eq_true rfl, Nat.le_of_ble_eq_true rfl⟩) ⟨pcW.blind, (va_recv hG.1 hP (ci := 8) (q0 := 0) rfl rfl), (pcW.mk hP hD hS hA hG hT [0, 1] rfl (by decide))⟩ rfl rfl hlv.1 rfl (lv_room (Nat.le_of_ble_eq_true rfl)) dX8_takeWord_1 ⟨Nat.le_of_ble_eq_true rfl, Nat.le_of_ble_eq_true rfl⟩) hP hD hS hA [0, 1] [] rfl rfl (by decide) (by decide) (fun u1 H locs hw1 hP hD hS => ?_)
  obtain ⟨hq1_0, hq1_1, hq1_2, hq1_3, hq1_4⟩ := hw1
  have hP : va_P D vwCl [zO ta 8 [vR tb, vI fed, vI len, vI (u1.2.1 1), vI (u1.2.1 2), vI fa, vI fp], zI tb (cy 1) 600 bf] H := hP
  have hD : va_D A [zO ta 8 [vR tb, vI fed, vI len, vI (u1.2.1 1), vI (u1.2.1 2), vI fa, vI fp], zI tb (cy 1) 600 bf] := hD
  refine lv_aload_n hx hb dX8_takeWord_4 rfl (lv_at hlv 1 rfl) ?_
  refine aw_eq (tgt := 10) hx hb hT.2.2 dX8_takeWord_5 (by decide) (by omega) (by omega) (fun c_1 => ?_) (fun c_1 => ?_)
  · refine lv_aload_n hx hb dX8_takeWord_10 rfl (lv_at hlv 0 rfl) ?_
    refine lv_aload_n hx hb dX8_takeWord_11 rfl (lv_at hlv 0 rfl) ?_
    refine va_get (D := D) (ci := 8) (v := vI (u1.2.1 2)) (C := RX8) (T := TX8) (N := 7) hx hb hts hi8 hown hG.1 hP 0 rfl rfl 4 (by decide) lf28 (fun _ h9 => h9) rfl dX8_takeWord_12 ?_
    refine va_put (D := D) (ci := 8) (v := vI (u1.2.1 2)) (ty := .int) (C := RX8) (T := TX8) (N := 7) hx hb hts hi8 tyX8 tyX8_ok nmX8 hown hG.1 hP hD hS 0 rfl rfl 3 (by decide) lf25 (fun _ h9 => h9) rfl (by decide +kernel) rfl rfl (Nat.le_of_ble_eq_true rfl) dX8_takeWord_15 (fun H locs hP hD hS => ?_)
    have hP : va_P D vwCl [zO ta 8 [vR tb, vI fed, vI len, vI (u1.2.1 2), vI (u1.2.1 2), vI fa, vI fp], zI tb (cy 1) 600 bf] H := hP
    have hD : va_D A [zO ta 8 [vR tb, vI fed, vI len, vI (u1.2.1 2), vI (u1.2.1 2), vI fa, vI fp], zI tb (cy 1) 600 bf] := hD
    refine lv_iconst (v := iI 1) hx hb dX8_takeWord_18 (by decide) ?_
    refine W.widen (k := 0) (n := 0) (Nat.le_of_ble_eq_true rfl) (Nat.le_of_ble_eq_true rfl) ?_
    exact W.zret (v := iI 1) hx hb hr (by first | rfl | decide) (fun t ht hW => ⟨⟨iI 1, ((fun k => ([] : List Nat).getD k 0), (fun k => ([1, (u1.2.1 2), (u1.2.1 2)] : List Int).getD k 0), (fun k => ([] : List (Nat → Int32)).getD k (fun _ => 0))), rfl, ⟨rfl, (by show (0 ≤ 1 ∧ 1 ≤ 1); show (0 : Int) ≤ 1 ∧ (1 : Int) ≤ 1; decide), (by show (0 ≤ (u1.2.1 2) ∧ (u1.2.1 2) ≤ 600); first | exact hq1_2 | omega), (by show (0 ≤ (u1.2.1 2) ∧ (u1.2.1 2) ≤ 600); first | exact hq1_2 | omega), (by show (fa = 0 → k = wk gq len (rnI pSp gq len at_) → rnI pSp gq len at_ < len → (u1.2.1 2) = rnI pSm gq len (rnI pSp gq len at_)); exact (fun h9 h8 h7 => by have q1 := WoP_e hq1_4 h9; first | (exfalso; omega) | exact q1.2.2 h7))⟩, by rw [ht]; exact hP.sub [0, 1] rfl, hD.sub [0, 1] (by decide) rfl⟩, hS.F ht⟩) hS.2.2 dX8_takeWord_19
  · refine lv_iconst (v := iI 0) hx hb dX8_takeWord_8 (by decide) ?_
    refine W.widen (k := 0) (n := 0) (Nat.le_of_ble_eq_true rfl) (Nat.le_of_ble_eq_true rfl) ?_
    exact W.zret (v := iI 0) hx hb hr (by first | rfl | decide) (fun t ht hW => ⟨⟨iI 0, ((fun k => ([] : List Nat).getD k 0), (fun k => ([0, (u1.2.1 1), (u1.2.1 2)] : List Int).getD k 0), (fun k => ([] : List (Nat → Int32)).getD k (fun _ => 0))), rfl, ⟨rfl, (by show (0 ≤ 0 ∧ 0 ≤ 1); show (0 : Int) ≤ 0 ∧ (0 : Int) ≤ 1; decide), (by show (0 ≤ (u1.2.1 1) ∧ (u1.2.1 1) ≤ 600); first | exact hq1_1 | omega), (by show (0 ≤ (u1.2.1 2) ∧ (u1.2.1 2) ≤ 600); first | exact hq1_2 | omega), (by show (fa = 0 → k = wk gq len (rnI pSp gq len at_) → rnI pSp gq len at_ < len → (u1.2.1 1) = rnI pSm gq len (rnI pSp gq len at_)); exact (fun h9 h8 h7 => by have q1 := WoP_e hq1_4 h9; first | (exfalso; omega) | exact q1.2.2 h7))⟩, by rw [ht]; exact hP.sub [0, 1] rfl, hD.sub [0, 1] (by decide) rfl⟩, hS.F ht⟩) hS.2.2 dX8_takeWord_9
def vs_e_begins : List Cond := .code yX10_beginsClause cX10_beginsClause 1 (some .boolean) :: (([.fieldLink RX10 113 "KerbSplash$Word" "work" "I", .fieldLink RX10 9 "KerbSplash$Word" "SIZE" "LKerbSplash$Word;", .fieldLink RX10 12 "KerbSplash$Word" "HIGH" "LKerbSplash$Word;", .fieldLink RX10 15 "KerbSplash$Word" "DRAIN" "LKerbSplash$Word;", .fieldLink RX10 18 "KerbSplash$Word" "PERSON" "LKerbSplash$Word;", .fieldLink RX10 21 "KerbSplash$Word" "SHELTER" "LKerbSplash$Word;"] : List Cond) ++ ([]))
theorem gd_e_begins : vs_e_begins.all goodWord = true := gd_C (by decide +kernel) (gd_A (by decide +kernel) rfl)
set_option maxHeartbeats 4000000 in
set_option maxRecDepth 100000 in
theorem e_begins (l : Launch) (hl : l.stackTraces = false) (D : va_G) (cy : Nat → ClassId) (sa : Nat → Nat) (k : Int) (sz : Nat) (hr_k : 0 ≤ k ∧ k ≤ 27) : Met l yX10_beginsClause vs_e_begins ({ frames := 0, cells := 0, slots := 0, locals := 0 }) (va_Pc [.ref (wd sa k)] (pcW D cy sa sz [])) (va_Qi (fun (r : Int32) (u : SV) => r = iI (u.2.1 0) ∧ (0 ≤ u.2.1 0 ∧ u.2.1 0 ≤ 1) ∧ (u.2.1 0 = 1 → 1 ≤ k ∧ k ≤ 9) ∧ (u.2.1 0 = 0 → ¬ (1 ≤ k ∧ k ≤ 9))) (fun u t => atW D (va_A [] sz) [] t) (va_A [] sz)) 0 0 (va_A [] sz) := by
  refine Met.ofW (cc := cX10_beginsClause) (maxL := 1) (ret := (some .boolean)) (by decide) rfl ?_
  intro p e s m args below meth c s₁ B hml hv
  obtain ⟨rfl, hsz, hP, hG, hD0, hT⟩ := hv
  have hx := B.exec
  have hb := B.bytes
  have hr := B.returns
  have hts := atoms_spec (ws := vs_e_begins) B.pre
  have hown : s.vm.findClass RX10 = some m.cls := findClass_of_methodNamed B.named
  have hlocks := B.notSynchronized
  subst hsz
  have hD := hD0.self (sz := s.heap.size)
  generalize hAe : va_A [] s.heap.size = A at hD hT ⊢
  have hA : ∀ q : Nat, s.heap.size ≤ q → A q := fun q h => by rw [← hAe]; exact Or.inr h
  have hS : va_S A s.heap s.heap [] := va_S.rf
  have hl0 := lv_entry ([.ref (wd sa k)]) (n := 1) (Nat.le_of_ble_eq_true rfl)
  rw [lg_entry_eq]
  generalize (lg_sl ([.ref (wd sa k)]) ++ List.replicate (1 - (lg_sl ([.ref (wd sa k)])).length) Slot.unset).toArray = ls at hl0 ⊢
  have hlv : lv_has ls 1 [(0, .ref (wd sa k))] := hl0
  have lf113 := hts (.fieldLink RX10 113 "KerbSplash$Word" "work" "I") (List.mem_of_getElem? (i := 1) rfl)
  have lf9 := hts (.fieldLink RX10 9 "KerbSplash$Word" "SIZE" "LKerbSplash$Word;") (List.mem_of_getElem? (i := 2) rfl)
  have lf12 := hts (.fieldLink RX10 12 "KerbSplash$Word" "HIGH" "LKerbSplash$Word;") (List.mem_of_getElem? (i := 3) rfl)
  have lf15 := hts (.fieldLink RX10 15 "KerbSplash$Word" "DRAIN" "LKerbSplash$Word;") (List.mem_of_getElem? (i := 4) rfl)
  have lf18 := hts (.fieldLink RX10 18 "KerbSplash$Word" "PERSON" "LKerbSplash$Word;") (List.mem_of_getElem? (i := 5) rfl)
  have lf21 := hts (.fieldLink RX10 21 "KerbSplash$Word" "SHELTER" "LKerbSplash$Word;") (List.mem_of_getElem? (i := 6) rfl)
  refine lv_aload_n hx hb dX10_beginsClause_0 rfl (lv_at hlv 0 rfl) ?_
  refine vk_getf (o := "KerbSplash$Word") (n := "work") (d := "I") (ref := "KerbSplash$Word") (v := .int (iI (fW k))) hx hb (hT.2.2.1 (k : Int).toNat (by omega)).1.2.2.1 hS hown lf113 (fun _ h9 => h9) dX10_beginsClause_1 ?_
  have hbfW_ := fW_b (k := k) (by omega)
  refine lt_e (e0 := fW k) rfl (fun z_1 hz_1 => ?_)
  refine lv_iconst (v := iI (-1)) hx hb dX10_beginsClause_4 (by decide) ?_
  refine ir_ne (tgt := 43) hx hb dX10_beginsClause_5 (by decide) (by omega) (by show ((-2147483648) : Int) ≤ (-1) ∧ ((-1) : Int) ≤ 2147483647; decide) (fun c_2 => ?_) (fun c_2 => ?_)
  · refine lv_iconst (v := iI 1) hx hb dX10_beginsClause_43 (by decide) ?_
    refine lv_goto (tgt := 48) hx hb dX10_beginsClause_44 (by decide) ?_
    refine W.widen (k := 0) (n := 0) (Nat.le_of_ble_eq_true rfl) (Nat.le_of_ble_eq_true rfl) ?_
    exact W.zret (v := iI 1) hx hb hr (by first | rfl | decide) (fun t ht hW => ⟨⟨iI 1, ((fun k => ([] : List Nat).getD k 0), (fun k => ([1] : List Int).getD k 0), (fun k => ([] : List (Nat → Int32)).getD k (fun _ => 0))), rfl, ⟨rfl, (by show (0 ≤ 1 ∧ 1 ≤ 1); show (0 : Int) ≤ 1 ∧ (1 : Int) ≤ 1; decide), (by show (1 = 1 → 1 ≤ k ∧ k ≤ 9); omega), (by show (1 = 0 → ¬ (1 ≤ k ∧ k ≤ 9)); omega)⟩, by rw [ht]; exact hP.sub [] rfl, hD.sub [] (by decide) rfl⟩, hS.F ht⟩) hS.2.2 dX10_beginsClause_48
  · refine lv_aload_n hx hb dX10_beginsClause_8 rfl (lv_at hlv 0 rfl) ?_
    refine va_gets (C := "KerbSplash$Word") (n := "SIZE") (d := "LKerbSplash$Word;") (ref := "KerbSplash$Word") (v := .ref (wd sa 1)) hx hb (hT.2.2.1 1 (by decide)).1.1 hS hown lf9 (fun _ h9 => h9) dX10_beginsClause_9 ?_
    refine aw_eq (tgt := 43) hx hb hT.2.2 dX10_beginsClause_12 (by decide) (by omega) (by omega) (fun c_3 => ?_) (fun c_3 => ?_)
    · refine lv_iconst (v := iI 1) hx hb dX10_beginsClause_43 (by decide) ?_
      refine lv_goto (tgt := 48) hx hb dX10_beginsClause_44 (by decide) ?_
      refine W.widen (k := 0) (n := 0) (Nat.le_of_ble_eq_true rfl) (Nat.le_of_ble_eq_true rfl) ?_
      exact W.zret (v := iI 1) hx hb hr (by first | rfl | decide) (fun t ht hW => ⟨⟨iI 1, ((fun k => ([] : List Nat).getD k 0), (fun k => ([1] : List Int).getD k 0), (fun k => ([] : List (Nat → Int32)).getD k (fun _ => 0))), rfl, ⟨rfl, (by show (0 ≤ 1 ∧ 1 ≤ 1); show (0 : Int) ≤ 1 ∧ (1 : Int) ≤ 1; decide), (by show (1 = 1 → 1 ≤ k ∧ k ≤ 9); omega), (by show (1 = 0 → ¬ (1 ≤ k ∧ k ≤ 9)); omega)⟩, by rw [ht]; exact hP.sub [] rfl, hD.sub [] (by decide) rfl⟩, hS.F ht⟩) hS.2.2 dX10_beginsClause_48
    · refine lv_aload_n hx hb dX10_beginsClause_15 rfl (lv_at hlv 0 rfl) ?_
      refine va_gets (C := "KerbSplash$Word") (n := "HIGH") (d := "LKerbSplash$Word;") (ref := "KerbSplash$Word") (v := .ref (wd sa 2)) hx hb (hT.2.2.1 2 (by decide)).1.1 hS hown lf12 (fun _ h9 => h9) dX10_beginsClause_16 ?_
      refine aw_eq (tgt := 43) hx hb hT.2.2 dX10_beginsClause_19 (by decide) (by omega) (by omega) (fun c_4 => ?_) (fun c_4 => ?_)
      · refine lv_iconst (v := iI 1) hx hb dX10_beginsClause_43 (by decide) ?_
        refine lv_goto (tgt := 48) hx hb dX10_beginsClause_44 (by decide) ?_
        refine W.widen (k := 0) (n := 0) (Nat.le_of_ble_eq_true rfl) (Nat.le_of_ble_eq_true rfl) ?_
        exact W.zret (v := iI 1) hx hb hr (by first | rfl | decide) (fun t ht hW => ⟨⟨iI 1, ((fun k => ([] : List Nat).getD k 0), (fun k => ([1] : List Int).getD k 0), (fun k => ([] : List (Nat → Int32)).getD k (fun _ => 0))), rfl, ⟨rfl, (by show (0 ≤ 1 ∧ 1 ≤ 1); show (0 : Int) ≤ 1 ∧ (1 : Int) ≤ 1; decide), (by show (1 = 1 → 1 ≤ k ∧ k ≤ 9); omega), (by show (1 = 0 → ¬ (1 ≤ k ∧ k ≤ 9)); omega)⟩, by rw [ht]; exact hP.sub [] rfl, hD.sub [] (by decide) rfl⟩, hS.F ht⟩) hS.2.2 dX10_beginsClause_48
      · refine lv_aload_n hx hb dX10_beginsClause_22 rfl (lv_at hlv 0 rfl) ?_
        refine va_gets (C := "KerbSplash$Word") (n := "DRAIN") (d := "LKerbSplash$Word;") (ref := "KerbSplash$Word") (v := .ref (wd sa 3)) hx hb (hT.2.2.1 3 (by decide)).1.1 hS hown lf15 (fun _ h9 => h9) dX10_beginsClause_23 ?_
        refine aw_eq (tgt := 43) hx hb hT.2.2 dX10_beginsClause_26 (by decide) (by omega) (by omega) (fun c_5 => ?_) (fun c_5 => ?_)
        · refine lv_iconst (v := iI 1) hx hb dX10_beginsClause_43 (by decide) ?_
          refine lv_goto (tgt := 48) hx hb dX10_beginsClause_44 (by decide) ?_
          refine W.widen (k := 0) (n := 0) (Nat.le_of_ble_eq_true rfl) (Nat.le_of_ble_eq_true rfl) ?_
          exact W.zret (v := iI 1) hx hb hr (by first | rfl | decide) (fun t ht hW => ⟨⟨iI 1, ((fun k => ([] : List Nat).getD k 0), (fun k => ([1] : List Int).getD k 0), (fun k => ([] : List (Nat → Int32)).getD k (fun _ => 0))), rfl, ⟨rfl, (by show (0 ≤ 1 ∧ 1 ≤ 1); show (0 : Int) ≤ 1 ∧ (1 : Int) ≤ 1; decide), (by show (1 = 1 → 1 ≤ k ∧ k ≤ 9); omega), (by show (1 = 0 → ¬ (1 ≤ k ∧ k ≤ 9)); omega)⟩, by rw [ht]; exact hP.sub [] rfl, hD.sub [] (by decide) rfl⟩, hS.F ht⟩) hS.2.2 dX10_beginsClause_48
        · refine lv_aload_n hx hb dX10_beginsClause_29 rfl (lv_at hlv 0 rfl) ?_
          refine va_gets (C := "KerbSplash$Word") (n := "PERSON") (d := "LKerbSplash$Word;") (ref := "KerbSplash$Word") (v := .ref (wd sa 4)) hx hb (hT.2.2.1 4 (by decide)).1.1 hS hown lf18 (fun _ h9 => h9) dX10_beginsClause_30 ?_
          refine aw_eq (tgt := 43) hx hb hT.2.2 dX10_beginsClause_33 (by decide) (by omega) (by omega) (fun c_6 => ?_) (fun c_6 => ?_)
          · refine lv_iconst (v := iI 1) hx hb dX10_beginsClause_43 (by decide) ?_
            refine lv_goto (tgt := 48) hx hb dX10_beginsClause_44 (by decide) ?_
            refine W.widen (k := 0) (n := 0) (Nat.le_of_ble_eq_true rfl) (Nat.le_of_ble_eq_true rfl) ?_
            exact W.zret (v := iI 1) hx hb hr (by first | rfl | decide) (fun t ht hW => ⟨⟨iI 1, ((fun k => ([] : List Nat).getD k 0), (fun k => ([1] : List Int).getD k 0), (fun k => ([] : List (Nat → Int32)).getD k (fun _ => 0))), rfl, ⟨rfl, (by show (0 ≤ 1 ∧ 1 ≤ 1); show (0 : Int) ≤ 1 ∧ (1 : Int) ≤ 1; decide), (by show (1 = 1 → 1 ≤ k ∧ k ≤ 9); omega), (by show (1 = 0 → ¬ (1 ≤ k ∧ k ≤ 9)); omega)⟩, by rw [ht]; exact hP.sub [] rfl, hD.sub [] (by decide) rfl⟩, hS.F ht⟩) hS.2.2 dX10_beginsClause_48
          · refine lv_aload_n hx hb dX10_beginsClause_36 rfl (lv_at hlv 0 rfl) ?_
            refine va_gets (C := "KerbSplash$Word") (n := "SHELTER") (d := "LKerbSplash$Word;") (ref := "KerbSplash$Word") (v := .ref (wd sa 5)) hx hb (hT.2.2.1 5 (by decide)).1.1 hS hown lf21 (fun _ h9 => h9) dX10_beginsClause_37 ?_
            refine aw_ne (tgt := 47) hx hb hT.2.2 dX10_beginsClause_40 (by decide) (by omega) (by omega) (fun c_7 => ?_) (fun c_7 => ?_)
            · refine lv_iconst (v := iI 0) hx hb dX10_beginsClause_47 (by decide) ?_
              refine W.widen (k := 0) (n := 0) (Nat.le_of_ble_eq_true rfl) (Nat.le_of_ble_eq_true rfl) ?_
              exact W.zret (v := iI 0) hx hb hr (by first | rfl | decide) (fun t ht hW => ⟨⟨iI 0, ((fun k => ([] : List Nat).getD k 0), (fun k => ([0] : List Int).getD k 0), (fun k => ([] : List (Nat → Int32)).getD k (fun _ => 0))), rfl, ⟨rfl, (by show (0 ≤ 0 ∧ 0 ≤ 1); show (0 : Int) ≤ 0 ∧ (0 : Int) ≤ 1; decide), (by show (0 = 1 → 1 ≤ k ∧ k ≤ 9); omega), (by show (0 = 0 → ¬ (1 ≤ k ∧ k ≤ 9)); omega)⟩, by rw [ht]; exact hP.sub [] rfl, hD.sub [] (by decide) rfl⟩, hS.F ht⟩) hS.2.2 dX10_beginsClause_48
            · refine lv_iconst (v := iI 1) hx hb dX10_beginsClause_43 (by decide) ?_
              refine lv_goto (tgt := 48) hx hb dX10_beginsClause_44 (by decide) ?_
              refine W.widen (k := 0) (n := 0) (Nat.le_of_ble_eq_true rfl) (Nat.le_of_ble_eq_true rfl) ?_
              exact W.zret (v := iI 1) hx hb hr (by first | rfl | decide) (fun t ht hW => ⟨⟨iI 1, ((fun k => ([] : List Nat).getD k 0), (fun k => ([1] : List Int).getD k 0), (fun k => ([] : List (Nat → Int32)).getD k (fun _ => 0))), rfl, ⟨rfl, (by show (0 ≤ 1 ∧ 1 ≤ 1); show (0 : Int) ≤ 1 ∧ (1 : Int) ≤ 1; decide), (by show (1 = 1 → 1 ≤ k ∧ k ≤ 9); omega), (by show (1 = 0 → ¬ (1 ≤ k ∧ k ≤ 9)); omega)⟩, by rw [ht]; exact hP.sub [] rfl, hD.sub [] (by decide) rfl⟩, hS.F ht⟩) hS.2.2 dX10_beginsClause_48
