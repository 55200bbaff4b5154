
def vs_e_bestNext : List Cond := .code yX3_bestNext cX3_bestNext 7 (some .int) :: (([.constant RX3 47 (iI 2147483647)] : List Cond) ++ ((wsX40) ++ ((wsV RX3 25 RX3 yX3_weigh vs_e_weigh) ++ ([]))))
theorem gd_e_bestNext : vs_e_bestNext.all goodWord = true := gd_C (by decide +kernel) (gd_A (by decide +kernel) (gd_A (by decide +kernel) (gd_A (gd_V gd_e_weigh (by decide +kernel)) rfl)))
set_option maxHeartbeats 4000000 in
set_option maxRecDepth 100000 in
theorem e_bestNext (l : Launch) (hl : l.stackTraces = false) (D : va_G) (cy : Nat → ClassId) (sa : Nat → Nat) (or_ be : Nat) (late lea ord : Int) (bf : Nat → Int32) (pa pt pd ps : Nat) (cars dips : Int) (df : Nat → Int32) (dn : Int) (sz : Nat) (hr_late : (-2147483648) ≤ late ∧ late ≤ 2147483647) (hr_lea : (-2147483648) ≤ lea ∧ lea ≤ 2147483647) (hr_ord : (-2147483648) ≤ ord ∧ ord ≤ 2147483647) (hr_cars : 0 ≤ cars ∧ cars ≤ 20) (hr_dips : 0 ≤ dips ∧ dips ≤ 9) (hr_dn : 0 ≤ dn ∧ dn ≤ 511) (hp0 : dn < ((2 ^ dips.toNat : Nat) : Int)) (hn_dp : DPR (nz df) dips.toNat) (hn_bb : ∀ j : Nat, dn < (j : Int) → (j : Int) < ((2 ^ dips.toNat : Nat) : Int) → 0 ≤ nz bf j ∧ nz bf j ≤ 9240570) : Met l yX3_bestNext vs_e_bestNext ({ frames := 1, cells := 0, slots := 0, locals := 27 }) (va_Pc [vR or_, vR pa, vI dn] (pcW D cy sa sz [zO or_ 3 [vI late, vI lea, vI ord, vR be], zI be (cy 0) 512 bf, zO pa 4 [vI cars, vR pt, vI dips, vR pd, vR ps], zI pd (cy 0) 27 df])) (va_Qi (fun (r : Int32) (u : SV) => r = iI (u.2.1 0) ∧ ((-1) ≤ u.2.1 0 ∧ u.2.1 0 ≤ 8) ∧ ((u.2.1 0) = (bnN (Yc (nz df) dips.toNat) (nz bf) dn dips.toNat).1)) (fun u t => atW D (va_A [zO or_ 3 [vI late, vI lea, vI ord, vR be], zI be (cy 0) 512 bf, zO pa 4 [vI cars, vR pt, vI dips, vR pd, vR ps], zI pd (cy 0) 27 df] sz) [zO or_ 3 [vI late, vI lea, vI ord, vR be], zI be (cy 0) 512 bf, zO pa 4 [vI cars, vR pt, vI dips, vR pd, vR ps], zI pd (cy 0) 27 df] t) (va_A [zO or_ 3 [vI late, vI lea, vI ord, vR be], zI be (cy 0) 512 bf, zO pa 4 [vI cars, vR pt, vI dips, vR pd, vR ps], zI pd (cy 0) 27 df] sz)) 0 0 (va_A [zO or_ 3 [vI late, vI lea, vI ord, vR be], zI be (cy 0) 512 bf, zO pa 4 [vI cars, vR pt, vI dips, vR pd, vR ps], zI pd (cy 0) 27 df] sz) := by
  refine Met.ofW (cc := cX3_bestNext) (maxL := 7) (ret := (some .int)) (by decide) rfl ?_
  intro p e s m args below meth c s₁ B hml hv
  obtain ⟨rfl, hsz, hP, hG, hD0, hT⟩ := hv
  have hx := B.exec
  have hb := B.bytes
  have hr := B.returns
  have hts := atoms_spec (ws := vs_e_bestNext) B.pre
  have hown : s.vm.findClass RX3 = some m.cls := findClass_of_methodNamed B.named
  have hlocks := B.notSynchronized
  subst hsz
  have hD := hD0.self (sz := s.heap.size)
  generalize hAe : va_A [zO or_ 3 [vI late, vI lea, vI ord, vR be], zI be (cy 0) 512 bf, zO pa 4 [vI cars, vR pt, vI dips, vR pd, vR ps], zI pd (cy 0) 27 df] s.heap.size = A at hD hT ⊢
  have hA : ∀ q : Nat, s.heap.size ≤ q → A q := fun q h => by rw [← hAe]; exact Or.inr h
  have hS : va_S A s.heap s.heap [] := va_S.rf
  have hl0 := lv_entry ([vR or_, vR pa, vI dn]) (n := 7) (Nat.le_of_ble_eq_true rfl)
  rw [lg_entry_eq]
  generalize (lg_sl ([vR or_, vR pa, vI dn]) ++ List.replicate (7 - (lg_sl ([vR or_, vR pa, vI dn])).length) Slot.unset).toArray = ls at hl0 ⊢
  have hlv : lv_has ls 7 [(0, vR or_), (1, vR pa), (2, vI dn)] := hl0
  have ld47 := hts (.constant RX3 47 (iI 2147483647)) (List.mem_of_getElem? (i := 1) rfl)
  have hi4 : ∀ w ∈ wsX40, w ∈ vs_e_bestNext := fun w h => List.mem_cons_of_mem _ (List.mem_append_right _ (List.mem_append_left _ h))
  have gg_1 : GoodIn vs_e_bestNext (wsV RX3 25 RX3 yX3_weigh vs_e_weigh) := goodIn_sub (fun w h => List.mem_cons_of_mem _ (List.mem_append_right _ (List.mem_append_right _ (List.mem_append_left _ h)))) (gd_V gd_e_weigh (by decide +kernel))
  refine lv_iconst (v := iI (-1)) hx hb dX3_bestNext_0 (by decide) ?_
  refine lv_istore_n (lv' := [(3, vI (-1)), (0, vR or_), (1, vR pa), (2, vI dn)]) hx hb dX3_bestNext_1 rfl hlv (by decide) rfl (fun ls hlv => ?_)
  refine lv_ldc (v := iI 2147483647) hx hb hown ld47 dX3_bestNext_2 ?_
  refine lv_istore (lv' := [(4, vI 2147483647), (3, vI (-1)), (0, vR or_), (1, vR pa), (2, vI dn)]) hx hb dX3_bestNext_4 hlv (by decide) rfl (fun ls hlv => ?_)
  refine lv_iconst (v := iI 0) hx hb dX3_bestNext_6 (by decide) ?_
  refine lv_istore (lv' := [(5, vI 0), (4, vI 2147483647), (3, vI (-1)), (0, vR or_), (1, vR pa), (2, vI dn)]) hx hb dX3_bestNext_7 hlv (by decide) rfl (fun ls hlv => ?_)
  refine (?_ : ∀ (fu : Nat) (q3 : Int) (q4 : Int) (q5 : Int) (H : Heap) (locs : List Loc) (ls : Array Slot), 9 - q5 < (fu : Int) → ((-1) ≤ q3 ∧ q3 ≤ 8) → ((-2147483648) ≤ q4 ∧ q4 ≤ 2147483647) → (0 ≤ q5 ∧ q5 ≤ 9) → (q5 ≤ dips) → (BNs (Yc (nz df) dips.toNat) (nz bf) dn q5 q3 q4) → va_P D vwCl [zO or_ 3 [vI late, vI lea, vI ord, vR be], zI be (cy 0) 512 bf, zO pa 4 [vI cars, vR pt, vI dips, vR pd, vR ps], zI pd (cy 0) 27 df] H → va_D A [zO or_ 3 [vI late, vI lea, vI ord, vR be], zI be (cy 0) 512 bf, zO pa 4 [vI cars, vR pt, vI dips, vR pd, vR ps], zI pd (cy 0) 27 df] → va_S A s.heap H locs → lv_has ls 7 [(5, vI q5), (4, vI q4), (3, vI q3), (0, vR or_), (1, vR pa), (2, vI dn)] → W p l e _ s m _ below meth c H locs _ _ _ (F0 m 9 ls [])) (((9 - 0) + 1 : Int)).toNat (-1) 2147483647 0 _ _ _ (by omega) (by show ((-1) : Int) ≤ (-1) ∧ ((-1) : Int) ≤ 8; decide) (by show ((-2147483648) : Int) ≤ 2147483647 ∧ (2147483647 : Int) ≤ 2147483647; decide) (by show (0 : Int) ≤ 0 ∧ (0 : Int) ≤ 9; decide) (by omega) BNs_0  hP hD hS hlv
  clear hP hD hS hlv
  intro fu
  induction fu with
  | zero => intro q3 q4 q5 H locs ls hm9 hl9_0 hl9_1 hl9_2 hl9_3 hl9_4  hP hD hS hlv; omega
  | succ fu ih9 =>
    intro q3 q4 q5 H locs ls hm9 hl9_0 hl9_1 hl9_2 hl9_3 hl9_4  hP hD hS hlv
    refine lv_iload hx hb dX3_bestNext_9 (lv_at hlv 0 rfl) ?_
    refine lv_aload_n hx hb dX3_bestNext_11 rfl (lv_at hlv 4 rfl) ?_
    refine va_getN (D := D) (ci := 4) (v := vI dips) (C := RX4) (T := TX4) (N := 5) hx hb hts hi4 hown hG.1 hP 2 rfl rfl 2 (by decide) (va_Nw.use rfl (nF_Orders_17 hG.2.1)) (fun _ h9 => h9) rfl dX3_bestNext_12 ?_
    refine ir_ge (tgt := 57) hx hb dX3_bestNext_15 (by decide) (by first | exact rgw hl9_2 (by decide) (by decide) | omega) (by first | exact rgw hr_dips (by decide) (by decide) | omega) (fun c_1 => ?_) (fun c_1 => ?_)
    · refine lv_iload_n hx hb dX3_bestNext_57 rfl (lv_at hlv 2 rfl) ?_
      refine W.widen (k := 0) (n := 0) (Nat.le_of_ble_eq_true rfl) (Nat.le_of_ble_eq_true rfl) ?_
      exact W.iret (v := iI q3) hx hb hr (fun t ht hW => ⟨⟨iI q3, ((fun k => ([] : List Nat).getD k 0), (fun k => ([q3] : List Int).getD k 0), (fun k => ([] : List (Nat → Int32)).getD k (fun _ => 0))), rfl, ⟨rfl, (by show ((-1) ≤ q3 ∧ q3 ≤ 8); first | exact hl9_0 | omega), (by show ((q3) = (bnN (Yc (nz df) dips.toNat) (nz bf) dn dips.toNat).1); exact (by have q9 : q5.toNat = dips.toNat := (by omega); have q8 := hl9_4.1; rw [q9] at q8; exact q8))⟩, by rw [ht]; exact hP.sub [0, 1, 2, 3] rfl, hD.sub [0, 1, 2, 3] (by decide) rfl⟩, hS.F ht⟩) hS.2.2 dX3_bestNext_58
    · refine lv_iload_n hx hb dX3_bestNext_18 rfl (lv_at hlv 5 rfl) ?_
      refine lv_iload hx hb dX3_bestNext_19 (lv_at hlv 0 rfl) ?_
      refine lv_ishr hx hb dX3_bestNext_21 ?_
      refine lt_z (fun z_2 ez_2 lz_2 hz_2 => ?_)
      refine lv_iconst (v := iI 1) hx hb dX3_bestNext_22 (by decide) ?_
      refine lv_iand hx hb dX3_bestNext_23 ?_
      refine lt_aE 1 (by decide) (by decide) (hi := 1) (by decide) (fun z_3 ez_3 lz_3 hz_3 => ?_)
      refine iz_ne (tgt := 51) hx hb dX3_bestNext_24 (by decide) (by omega) (fun c_4 => ?_) (fun c_4 => ?_)
      · obtain ⟨z_5, hz_5⟩ : ∃ z : Int, z = q5 + 1 := ⟨_, rfl⟩
        refine lv_iinc (v := iI z_5) (lv' := [(5, vI z_5), (4, vI q4), (3, vI q3), (0, vR or_), (1, vR pa), (2, vI dn)]) hx hb dX3_bestNext_51 hlv (k := 0) rfl (by rw [hz_5]; exact (Int32.ofInt_add _ _).symm) (by decide) rfl (fun ls hlv => ?_)
        refine lv_goto (tgt := 9) hx hb dX3_bestNext_54 (by decide) ?_
        exact ih9 q3 q4 z_5 H locs ls (by omega) (by first | exact hl9_0 | omega) (by first | exact hl9_1 | omega) (by omega) (by omega) (BNs_s hl9_4 (by omega) (by omega) (by rw [bt_e ez_2 ez_3]; rw [show z_3 = 1 by omega]))  (hP.sub [0, 1, 2, 3] rfl) (hD.sub [0, 1, 2, 3] (by decide) rfl) hS (lv_sub hlv [0, 1, 2, 3, 4, 5] rfl)
      · have hnb_ := nb_e ez_2 ez_3 (by omega)
        refine lv_aload_n hx hb dX3_bestNext_27 rfl (lv_at hlv 3 rfl) ?_
        refine lv_aload_n hx hb dX3_bestNext_28 rfl (lv_at hlv 4 rfl) ?_
        refine lv_iload_n hx hb dX3_bestNext_29 rfl (lv_at hlv 5 rfl) ?_
        refine lv_iload hx hb dX3_bestNext_30 (lv_at hlv 0 rfl) ?_
        refine cj_i (wr := []) (va_runV (As := [vR pa, vI dn, vI q5]) (rest := []) ⟨hx, hb, hml, hown, hts⟩ (e_weigh l hl D cy sa or_ be late lea ord bf pa pt pd ps cars dips df dn q5 H.size (by first | exact hr_late | omega) (by first | exact hr_lea | omega) (by first | exact hr_ord | omega) (by first | exact hr_cars | omega) (by first | exact hr_dips | omega) (by first | exact hr_dn | omega) (by omega) (by omega) hp0 hn_dp hn_bb hnb_) (cwV 3 hts gg_1 rfl rfl rfl (by decide +kernel) ⟨Nat.le_of_ble_eq_true rfl, Nat.le_of_ble_eq_true rfl⟩) ⟨pcW.blind, (va_recv hG.1 hP (ci := 3) (q0 := 0) rfl rfl), (pcW.mk hP hD hS hA hG hT [0, 1, 2, 3] rfl (by decide))⟩ rfl rfl hlv.1 rfl (lv_room (Nat.le_of_ble_eq_true rfl)) dX3_bestNext_32 ⟨Nat.le_of_ble_eq_true rfl, Nat.le_of_ble_eq_true rfl⟩) hP hD hS hA [0, 1, 2, 3] [] rfl rfl (by decide) (by decide) (fun r1 u1 H locs hw1 hP hD hS => ?_)
        obtain ⟨rfl, hq1_1, hq1_2⟩ := hw1
        have hP : va_P D vwCl [zO or_ 3 [vI late, vI lea, vI ord, vR be], zI be (cy 0) 512 bf, zO pa 4 [vI cars, vR pt, vI dips, vR pd, vR ps], zI pd (cy 0) 27 df] H := hP
        have hD : va_D A [zO or_ 3 [vI late, vI lea, vI ord, vR be], zI be (cy 0) 512 bf, zO pa 4 [vI cars, vR pt, vI dips, vR pd, vR ps], zI pd (cy 0) 27 df] := hD
        refine lv_istore (lv' := [(6, vI (u1.2.1 0)), (5, vI q5), (4, vI q4), (3, vI q3), (0, vR or_), (1, vR pa), (2, vI dn)]) hx hb dX3_bestNext_35 hlv (by decide) rfl (fun ls hlv => ?_)
        refine lv_iload hx hb dX3_bestNext_37 (lv_at hlv 0 rfl) ?_
        refine lv_iload hx hb dX3_bestNext_39 (lv_at hlv 2 rfl) ?_
        refine ir_ge (tgt := 51) hx hb dX3_bestNext_41 (by decide) (by first | exact rgw hq1_1 (by decide) (by decide) | omega) (by first | exact hl9_1 | omega) (fun c_6 => ?_) (fun c_6 => ?_)
        · obtain ⟨z_7, hz_7⟩ : ∃ z : Int, z = q5 + 1 := ⟨_, rfl⟩
          refine lv_iinc (v := iI z_7) (lv' := [(5, vI z_7), (6, vI (u1.2.1 0)), (4, vI q4), (3, vI q3), (0, vR or_), (1, vR pa), (2, vI dn)]) hx hb dX3_bestNext_51 hlv (k := 1) rfl (by rw [hz_7]; exact (Int32.ofInt_add _ _).symm) (by decide) rfl (fun ls hlv => ?_)
          refine lv_goto (tgt := 9) hx hb dX3_bestNext_54 (by decide) ?_
          exact ih9 q3 q4 z_7 H locs ls (by omega) (by first | exact hl9_0 | omega) (by first | exact hl9_1 | omega) (by omega) (by omega) (BNs_n hl9_4 (by omega) (by omega) (nb_e ez_2 ez_3 (by omega)) hq1_2 (by omega) (by omega))  (hP.sub [0, 1, 2, 3] rfl) (hD.sub [0, 1, 2, 3] (by decide) rfl) hS (lv_sub hlv [0, 2, 3, 4, 5, 6] rfl)
        · refine lv_iload hx hb dX3_bestNext_44 (lv_at hlv 0 rfl) ?_
          refine lv_istore (lv' := [(4, vI (u1.2.1 0)), (6, vI (u1.2.1 0)), (5, vI q5), (3, vI q3), (0, vR or_), (1, vR pa), (2, vI dn)]) hx hb dX3_bestNext_46 hlv (by decide) rfl (fun ls hlv => ?_)
          refine lv_iload hx hb dX3_bestNext_48 (lv_at hlv 2 rfl) ?_
          refine lv_istore_n (lv' := [(3, vI q5), (4, vI (u1.2.1 0)), (6, vI (u1.2.1 0)), (5, vI q5), (0, vR or_), (1, vR pa), (2, vI dn)]) hx hb dX3_bestNext_50 rfl hlv (by decide) rfl (fun ls hlv => ?_)
          obtain ⟨z_8, hz_8⟩ : ∃ z : Int, z = q5 + 1 := ⟨_, rfl⟩
          refine lv_iinc (v := iI z_8) (lv' := [(5, vI z_8), (3, vI q5), (4, vI (u1.2.1 0)), (6, vI (u1.2.1 0)), (0, vR or_), (1, vR pa), (2, vI dn)]) hx hb dX3_bestNext_51 hlv (k := 3) rfl (by rw [hz_8]; exact (Int32.ofInt_add _ _).symm) (by decide) rfl (fun ls hlv => ?_)
          refine lv_goto (tgt := 9) hx hb dX3_bestNext_54 (by decide) ?_
          exact ih9 q5 (u1.2.1 0) z_8 H locs ls (by omega) (by omega) (by first | exact rgw hq1_1 (by decide) (by decide) | omega) (by omega) (by omega) (BNs_l hl9_4 (by omega) (by omega) (nb_e ez_2 ez_3 (by omega)) hq1_2 (by omega))  (hP.sub [0, 1, 2, 3] rfl) (hD.sub [0, 1, 2, 3] (by decide) rfl) hS (lv_sub hlv [0, 2, 1, 4, 5, 6] rfl)
