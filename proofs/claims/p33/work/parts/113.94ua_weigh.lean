
def vs_e_weigh : List Cond := .code yX3_weigh cX3_weigh 8 (some .int) :: (([.fieldLink RX3 11 "KerbSplash$Orders" "best" "[I", .constant RX3 29 (iI 1000000)] : List Cond) ++ ((wsX40) ++ ((wsX30) ++ ([]))))
theorem gd_e_weigh : vs_e_weigh.all goodWord = true := gd_C (by decide +kernel) (gd_A (by decide +kernel) (gd_A (by decide +kernel) (gd_A (by decide +kernel) rfl)))
set_option maxHeartbeats 4000000 in
set_option maxRecDepth 100000 in
theorem e_weigh (l : Launch) (hl : l.stackTraces = false) (D : va_G) (cy : Nat → ClassId) (sa : Nat → Nat) (or_ be : Nat) (late lea ord : Int) (bf : Nat → Int32) (pa pt pd ps : Nat) (cars dips : Int) (df : Nat → Int32) (dn nx : Int) (sz : Nat) (hr_late : (-2147483648) ≤ late ∧ late ≤ 2147483647) (hr_lea : (-2147483648) ≤ lea ∧ lea ≤ 2147483647) (hr_ord : (-2147483648) ≤ ord ∧ ord ≤ 2147483647) (hr_cars : 0 ≤ cars ∧ cars ≤ 20) (hr_dips : 0 ≤ dips ∧ dips ≤ 9) (hr_dn : 0 ≤ dn ∧ dn ≤ 511) (hr_nx : 0 ≤ nx ∧ nx ≤ 8) (hp0 : nx < dips) (hp1 : dn < ((2 ^ dips.toNat : Nat) : Int)) (hn_dp : DPR (nz df) dips.toNat) (hn_bb : ∀ j : Nat, dn < (j : Int) → (j : Int) < ((2 ^ dips.toNat : Nat) : Int) → 0 ≤ nz bf j ∧ nz bf j ≤ 9240570) (hn_nb : ¬ bt dn nx = iI 1) : Met l yX3_weigh vs_e_weigh ({ frames := 0, cells := 0, slots := 0, locals := 0 }) (va_Pc [vR or_, vR pa, vI dn, vI nx] (pcW D cy sa sz [zO or_ 3 [vI late, vI lea, vI ord, vR be], zI be (cy 0) 512 bf, zO pa 4 [vI cars, vR pt, vI dips, vR pd, vR ps], zI pd (cy 0) 27 df])) (va_Qi (fun (r : Int32) (u : SV) => r = iI (u.2.1 0) ∧ (0 ≤ u.2.1 0 ∧ u.2.1 0 ≤ 10267300) ∧ ((u.2.1 0) = Wt (Yc (nz df) dips.toNat) (nz bf) dn nx)) (fun u t => atW D (va_A [zO or_ 3 [vI late, vI lea, vI ord, vR be], zI be (cy 0) 512 bf, zO pa 4 [vI cars, vR pt, vI dips, vR pd, vR ps], zI pd (cy 0) 27 df] sz) [zO or_ 3 [vI late, vI lea, vI ord, vR be], zI be (cy 0) 512 bf, zO pa 4 [vI cars, vR pt, vI dips, vR pd, vR ps], zI pd (cy 0) 27 df] t) (va_A [zO or_ 3 [vI late, vI lea, vI ord, vR be], zI be (cy 0) 512 bf, zO pa 4 [vI cars, vR pt, vI dips, vR pd, vR ps], zI pd (cy 0) 27 df] sz)) 0 0 (va_A [zO or_ 3 [vI late, vI lea, vI ord, vR be], zI be (cy 0) 512 bf, zO pa 4 [vI cars, vR pt, vI dips, vR pd, vR ps], zI pd (cy 0) 27 df] sz) := by
  refine Met.ofW (cc := cX3_weigh) (maxL := 8) (ret := (some .int)) (by decide) rfl ?_
  intro p e s m args below meth c s₁ B hml hv
  obtain ⟨rfl, hsz, hP, hG, hD0, hT⟩ := hv
  have hx := B.exec
  have hb := B.bytes
  have hr := B.returns
  have hts := atoms_spec (ws := vs_e_weigh) B.pre
  have hown : s.vm.findClass RX3 = some m.cls := findClass_of_methodNamed B.named
  have hlocks := B.notSynchronized
  subst hsz
  have hD := hD0.self (sz := s.heap.size)
  generalize hAe : va_A [zO or_ 3 [vI late, vI lea, vI ord, vR be], zI be (cy 0) 512 bf, zO pa 4 [vI cars, vR pt, vI dips, vR pd, vR ps], zI pd (cy 0) 27 df] s.heap.size = A at hD hT ⊢
  have hA : ∀ q : Nat, s.heap.size ≤ q → A q := fun q h => by rw [← hAe]; exact Or.inr h
  have hS : va_S A s.heap s.heap [] := va_S.rf
  have hl0 := lv_entry ([vR or_, vR pa, vI dn, vI nx]) (n := 8) (Nat.le_of_ble_eq_true rfl)
  rw [lg_entry_eq]
  generalize (lg_sl ([vR or_, vR pa, vI dn, vI nx]) ++ List.replicate (8 - (lg_sl ([vR or_, vR pa, vI dn, vI nx])).length) Slot.unset).toArray = ls at hl0 ⊢
  have hlv : lv_has ls 8 [(0, vR or_), (1, vR pa), (2, vI dn), (3, vI nx)] := hl0
  have hi4 : ∀ w ∈ wsX40, w ∈ vs_e_weigh := fun w h => List.mem_cons_of_mem _ (List.mem_append_right _ (List.mem_append_left _ h))
  have lf11 := hts (.fieldLink RX3 11 "KerbSplash$Orders" "best" "[I") (List.mem_of_getElem? (i := 1) rfl)
  have hi3 : ∀ w ∈ wsX30, w ∈ vs_e_weigh := fun w h => List.mem_cons_of_mem _ (List.mem_append_right _ (List.mem_append_right _ (List.mem_append_left _ h)))
  have ld29 := hts (.constant RX3 29 (iI 1000000)) (List.mem_of_getElem? (i := 2) rfl)
  refine lv_iload_n hx hb dX3_weigh_0 rfl (lv_at hlv 2 rfl) ?_
  refine lv_iconst (v := iI 1) hx hb dX3_weigh_1 (by decide) ?_
  refine lv_iload_n hx hb dX3_weigh_2 rfl (lv_at hlv 3 rfl) ?_
  refine lv_ishl hx hb dX3_weigh_3 ?_
  refine lt_sh2 (n := 8) (M := 256) (by decide) (by decide) (by omega) (fun z_1 ez_1 lz_1 hz_1 => ?_)
  refine lv_ior hx hb dX3_weigh_4 ?_
  obtain ⟨z_2, ez_2, wz_2, hz_2⟩ := so_ex (a := dn) (k := nx) (by omega) (by omega) ez_1
  refine lt_i (y := iI z_2) ez_2 ?_
  have hso := so_b (a := dn) (k := nx) (n := dips.toNat) (by omega) (by omega) (by omega) (by omega) hn_nb
  rw [← wz_2] at hso
  refine lv_istore (lv' := [(4, vI z_2), (0, vR or_), (1, vR pa), (2, vI dn), (3, vI nx)]) hx hb dX3_weigh_5 hlv (by decide) rfl (fun ls hlv => ?_)
  refine lv_iconst (v := iI 0) hx hb dX3_weigh_7 (by decide) ?_
  refine lv_istore (lv' := [(5, vI 0), (4, vI z_2), (0, vR or_), (1, vR pa), (2, vI dn), (3, vI nx)]) hx hb dX3_weigh_8 hlv (by decide) rfl (fun ls hlv => ?_)
  refine lv_iconst (v := iI 0) hx hb dX3_weigh_10 (by decide) ?_
  refine lv_istore (lv' := [(6, vI 0), (5, vI 0), (4, vI z_2), (0, vR or_), (1, vR pa), (2, vI dn), (3, vI nx)]) hx hb dX3_weigh_11 hlv (by decide) rfl (fun ls hlv => ?_)
  refine (?_ : ∀ (fu : Nat) (q5 : Int) (q6 : Int) (H : Heap) (locs : List Loc) (ls : Array Slot), 9 - q6 < (fu : Int) → (0 ≤ q5 ∧ q5 ≤ 270) → (0 ≤ q6 ∧ q6 ≤ 9) → (q6 ≤ dips) → (q5 ≤ 30 * q6) → (q5 = dyS (nz df) z_2 q6.toNat) → va_P D vwCl [zO or_ 3 [vI late, vI lea, vI ord, vR be], zI be (cy 0) 512 bf, zO pa 4 [vI cars, vR pt, vI dips, vR pd, vR ps], zI pd (cy 0) 27 df] H → va_D A [zO or_ 3 [vI late, vI lea, vI ord, vR be], zI be (cy 0) 512 bf, zO pa 4 [vI cars, vR pt, vI dips, vR pd, vR ps], zI pd (cy 0) 27 df] → va_S A s.heap H locs → lv_has ls 8 [(6, vI q6), (5, vI q5), (4, vI z_2), (0, vR or_), (1, vR pa), (2, vI dn), (3, vI nx)] → W p l e _ s m _ below meth c H locs _ _ _ (F0 m 13 ls [])) (((9 - 0) + 1 : Int)).toNat 0 0 _ _ _ (by omega) (by show (0 : Int) ≤ 0 ∧ (0 : Int) ≤ 270; decide) (by show (0 : Int) ≤ 0 ∧ (0 : Int) ≤ 9; decide) (by omega) (by omega) rfl  hP hD hS hlv
  clear hP hD hS hlv
  intro fu
  induction fu with
  | zero => intro q5 q6 H locs ls hm13 hl13_0 hl13_1 hl13_2 hl13_3 hl13_4  hP hD hS hlv; omega
  | succ fu ih13 =>
    intro q5 q6 H locs ls hm13 hl13_0 hl13_1 hl13_2 hl13_3 hl13_4  hP hD hS hlv
    refine lv_iload hx hb dX3_weigh_13 (lv_at hlv 0 rfl) ?_
    refine lv_aload_n hx hb dX3_weigh_15 rfl (lv_at hlv 4 rfl) ?_
    refine va_getN (D := D) (ci := 4) (v := vI dips) (C := RX4) (T := TX4) (N := 5) hx hb hts hi4 hown hG.1 hP 2 rfl rfl 2 (by decide) (va_Nw.use rfl (nF_Orders_17 hG.2.1)) (fun _ h9 => h9) rfl dX3_weigh_16 ?_
    refine ir_ge (tgt := 54) hx hb dX3_weigh_19 (by decide) (by first | exact rgw hl13_1 (by decide) (by decide) | omega) (by first | exact rgw hr_dips (by decide) (by decide) | omega) (fun c_3 => ?_) (fun c_3 => ?_)
    · refine lv_iconst (v := iI 3) hx hb dX3_weigh_54 (by decide) ?_
      refine lv_iload_n hx hb dX3_weigh_55 rfl (lv_at hlv 6 rfl) ?_
      refine lv_imul hx hb dX3_weigh_56 ?_
      refine lt_e (e0 := 3 * nx) (Int32.ofInt_mul _ _).symm (fun z_4 hz_4 => ?_)
      refine lv_istore (lv' := [(6, vI z_4), (5, vI q5), (4, vI z_2), (0, vR or_), (1, vR pa), (2, vI dn), (3, vI nx)]) hx hb dX3_weigh_57 hlv (by decide) rfl (fun ls hlv => ?_)
      refine lv_aload_n hx hb dX3_weigh_59 rfl (lv_at hlv 4 rfl) ?_
      refine va_getN (D := D) (ci := 4) (v := vR pd) (C := RX4) (T := TX4) (N := 5) hx hb hts hi4 hown hG.1 hP 2 rfl rfl 3 (by decide) (va_Nw.use rfl (nF_Orders_48 hG.2.1)) (fun _ h9 => h9) rfl dX3_weigh_60 ?_
      refine lv_iload hx hb dX3_weigh_63 (lv_at hlv 0 rfl) ?_
      refine va_iald hx hb hG.1 hP 3 0 rfl rfl (iI_in (by omega) (by decide)) dX3_weigh_65 ?_
      refine lt_nz (i := z_4) (by omega) (fun z_5 hz_5 lz_5 uz_5 => ?_)
      have hdz_5_ : 0 ≤ z_5 ∧ z_5 ≤ 99 := by have q9 := (hn_dp nx.toNat (by omega)).1; rw [show 3 * nx.toNat = z_4.toNat by omega] at q9; omega
      refine lv_iload hx hb dX3_weigh_66 (lv_at hlv 1 rfl) ?_
      refine lv_imul hx hb dX3_weigh_68 ?_
      refine lt_e (e0 := z_5 * q5) (Int32.ofInt_mul _ _).symm (fun z_6 hz_6 => ?_)
      have bz_6 : 0 ≤ z_6 ∧ z_6 ≤ 26730 := by rw [hz_6]; exact mul_bd (x := 99) (y := 270) (by omega) (by omega) (by decide)
      have hpe := hz_6
      refine lv_aload_n hx hb dX3_weigh_69 rfl (lv_at hlv 3 rfl) ?_
      refine va_get (D := D) (ci := 3) (v := vR be) (C := RX3) (T := TX3) (N := 4) hx hb hts hi3 hown hG.1 hP 0 rfl rfl 3 (by decide) lf11 (fun _ h9 => h9) rfl dX3_weigh_70 ?_
      refine lv_iload hx hb dX3_weigh_73 (lv_at hlv 2 rfl) ?_
      refine va_iald hx hb hG.1 hP 1 0 rfl rfl (iI_in (by omega) (by decide)) dX3_weigh_75 ?_
      refine lt_nz (i := z_2) (by omega) (fun z_7 hz_7 lz_7 uz_7 => ?_)
      have hbz_7_ : 0 ≤ z_7 ∧ z_7 ≤ 9240570 := by have q9 := hn_bb z_2.toNat (by omega) (by omega); omega
      refine lv_iadd hx hb dX3_weigh_76 ?_
      refine lt_e (e0 := z_6 + z_7) (Int32.ofInt_add _ _).symm (fun z_8 hz_8 => ?_)
      refine lv_istore (lv' := [(7, vI z_8), (6, vI z_4), (5, vI q5), (4, vI z_2), (0, vR or_), (1, vR pa), (2, vI dn), (3, vI nx)]) hx hb dX3_weigh_77 hlv (by decide) rfl (fun ls hlv => ?_)
      refine lv_iload hx hb dX3_weigh_79 (lv_at hlv 2 rfl) ?_
      refine lv_aload_n hx hb dX3_weigh_81 rfl (lv_at hlv 5 rfl) ?_
      refine va_getN (D := D) (ci := 4) (v := vR pd) (C := RX4) (T := TX4) (N := 5) hx hb hts hi4 hown hG.1 hP 2 rfl rfl 3 (by decide) (va_Nw.use rfl (nF_Orders_48 hG.2.1)) (fun _ h9 => h9) rfl dX3_weigh_82 ?_
      refine lv_iload hx hb dX3_weigh_85 (lv_at hlv 1 rfl) ?_
      refine lv_iconst (v := iI 2) hx hb dX3_weigh_87 (by decide) ?_
      refine lv_iadd hx hb dX3_weigh_88 ?_
      refine lt_e (e0 := z_4 + 2) (Int32.ofInt_add _ _).symm (fun z_9 hz_9 => ?_)
      refine va_iald hx hb hG.1 hP 3 0 rfl rfl (iI_in (by omega) (by decide)) dX3_weigh_89 ?_
      refine lt_nz (i := z_9) (by omega) (fun z_10 hz_10 lz_10 uz_10 => ?_)
      have hdz_10_ : 0 ≤ z_10 ∧ z_10 ≤ 99 := by have q9 := (hn_dp nx.toNat (by omega)).2.2; rw [show 3 * nx.toNat + 2 = z_9.toNat by omega] at q9; omega
      refine ir_le (tgt := 101) hx hb dX3_weigh_90 (by decide) (by first | exact rgw hl13_0 (by decide) (by decide) | omega) (by omega) (fun c_11 => ?_) (fun c_11 => ?_)
      · refine lv_iload hx hb dX3_weigh_101 (lv_at hlv 0 rfl) ?_
        refine W.widen (k := 0) (n := 0) (Nat.le_of_ble_eq_true rfl) (Nat.le_of_ble_eq_true rfl) ?_
        exact W.iret (v := iI z_8) hx hb hr (fun t ht hW => ⟨⟨iI z_8, ((fun k => ([] : List Nat).getD k 0), (fun k => ([z_8] : List Int).getD k 0), (fun k => ([] : List (Nat → Int32)).getD k (fun _ => 0))), rfl, ⟨rfl, (by show (0 ≤ z_8 ∧ z_8 ≤ 10267300); omega), (by show ((z_8) = Wt (Yc (nz df) dips.toNat) (nz bf) dn nx); exact (wg_e (n := dips.toNat) (k := nx) (z := z_2) (dd := q5) (w := z_5) (dl := z_10) (y := z_7) (p := z_6) (T1 := z_4) (T2 := z_9) (T3 := z_2) (by omega) wz_2 (by rw [show dips.toNat = q6.toNat by omega]; exact hl13_4) (by omega) (by omega) (by omega) (by omega) (by omega) (by omega) hpe (by omega)))⟩, by rw [ht]; exact hP.sub [0, 1, 2, 3] rfl, hD.sub [0, 1, 2, 3] (by decide) rfl⟩, hS.F ht⟩) hS.2.2 dX3_weigh_103
      · refine lv_iload hx hb dX3_weigh_93 (lv_at hlv 0 rfl) ?_
        refine lv_ldc (v := iI 1000000) hx hb hown ld29 dX3_weigh_95 ?_
        refine lv_iadd hx hb dX3_weigh_97 ?_
        refine lt_e (e0 := z_8 + 1000000) (Int32.ofInt_add _ _).symm (fun z_12 hz_12 => ?_)
        refine lv_goto (tgt := 103) hx hb dX3_weigh_98 (by decide) ?_
        refine W.widen (k := 0) (n := 0) (Nat.le_of_ble_eq_true rfl) (Nat.le_of_ble_eq_true rfl) ?_
        exact W.iret (v := iI z_12) hx hb hr (fun t ht hW => ⟨⟨iI z_12, ((fun k => ([] : List Nat).getD k 0), (fun k => ([z_12] : List Int).getD k 0), (fun k => ([] : List (Nat → Int32)).getD k (fun _ => 0))), rfl, ⟨rfl, (by show (0 ≤ z_12 ∧ z_12 ≤ 10267300); omega), (by show ((z_12) = Wt (Yc (nz df) dips.toNat) (nz bf) dn nx); exact (wg_e (n := dips.toNat) (k := nx) (z := z_2) (dd := q5) (w := z_5) (dl := z_10) (y := z_7) (p := z_6) (T1 := z_4) (T2 := z_9) (T3 := z_2) (by omega) wz_2 (by rw [show dips.toNat = q6.toNat by omega]; exact hl13_4) (by omega) (by omega) (by omega) (by omega) (by omega) (by omega) hpe (by omega)))⟩, by rw [ht]; exact hP.sub [0, 1, 2, 3] rfl, hD.sub [0, 1, 2, 3] (by decide) rfl⟩, hS.F ht⟩) hS.2.2 dX3_weigh_103
    · refine lv_iload hx hb dX3_weigh_22 (lv_at hlv 2 rfl) ?_
      refine lv_iload hx hb dX3_weigh_24 (lv_at hlv 0 rfl) ?_
      refine lv_ishr hx hb dX3_weigh_26 ?_
      refine lt_z (fun z_13 ez_13 lz_13 hz_13 => ?_)
      refine lv_iconst (v := iI 1) hx hb dX3_weigh_27 (by decide) ?_
      refine lv_iand hx hb dX3_weigh_28 ?_
      refine lt_aE 1 (by decide) (by decide) (hi := 1) (by decide) (fun z_14 ez_14 lz_14 hz_14 => ?_)
      refine iz_eq (tgt := 48) hx hb dX3_weigh_29 (by decide) (by omega) (fun c_15 => ?_) (fun c_15 => ?_)
      · obtain ⟨z_16, hz_16⟩ : ∃ z : Int, z = q6 + 1 := ⟨_, rfl⟩
        refine lv_iinc (v := iI z_16) (lv' := [(6, vI z_16), (5, vI q5), (4, vI z_2), (0, vR or_), (1, vR pa), (2, vI dn), (3, vI nx)]) hx hb dX3_weigh_48 hlv (k := 0) rfl (by rw [hz_16]; exact (Int32.ofInt_add _ _).symm) (by decide) rfl (fun ls hlv => ?_)
        refine lv_goto (tgt := 13) hx hb dX3_weigh_51 (by decide) ?_
        exact ih13 q5 z_16 H locs ls (by omega) (by first | exact hl13_0 | omega) (by omega) (by omega) (by omega) (dyS_0 hl13_4 (by omega) ez_13 ez_14 (by omega) (by omega))  (hP.sub [0, 1, 2, 3] rfl) (hD.sub [0, 1, 2, 3] (by decide) rfl) hS (lv_sub hlv [0, 1, 2, 3, 4, 5, 6] rfl)
      · refine lv_iload hx hb dX3_weigh_32 (lv_at hlv 1 rfl) ?_
        refine lv_aload_n hx hb dX3_weigh_34 rfl (lv_at hlv 4 rfl) ?_
        refine va_getN (D := D) (ci := 4) (v := vR pd) (C := RX4) (T := TX4) (N := 5) hx hb hts hi4 hown hG.1 hP 2 rfl rfl 3 (by decide) (va_Nw.use rfl (nF_Orders_48 hG.2.1)) (fun _ h9 => h9) rfl dX3_weigh_35 ?_
        refine lv_iconst (v := iI 3) hx hb dX3_weigh_38 (by decide) ?_
        refine lv_iload hx hb dX3_weigh_39 (lv_at hlv 0 rfl) ?_
        refine lv_imul hx hb dX3_weigh_41 ?_
        refine lt_e (e0 := 3 * q6) (Int32.ofInt_mul _ _).symm (fun z_17 hz_17 => ?_)
        refine lv_iconst (v := iI 1) hx hb dX3_weigh_42 (by decide) ?_
        refine lv_iadd hx hb dX3_weigh_43 ?_
        refine lt_e (e0 := z_17 + 1) (Int32.ofInt_add _ _).symm (fun z_18 hz_18 => ?_)
        refine va_iald hx hb hG.1 hP 3 0 rfl rfl (iI_in (by omega) (by decide)) dX3_weigh_44 ?_
        refine lt_nz (i := z_18) (by omega) (fun z_19 hz_19 lz_19 uz_19 => ?_)
        have hdz_19_ : 0 ≤ z_19 ∧ z_19 ≤ 30 := by have q9 := (hn_dp q6.toNat (by omega)).2.1; rw [show 3 * q6.toNat + 1 = z_18.toNat by omega] at q9; omega
        refine lv_iadd hx hb dX3_weigh_45 ?_
        refine lt_e (e0 := q5 + z_19) (Int32.ofInt_add _ _).symm (fun z_20 hz_20 => ?_)
        refine lv_istore (lv' := [(5, vI z_20), (6, vI q6), (4, vI z_2), (0, vR or_), (1, vR pa), (2, vI dn), (3, vI nx)]) hx hb dX3_weigh_46 hlv (by decide) rfl (fun ls hlv => ?_)
        obtain ⟨z_21, hz_21⟩ : ∃ z : Int, z = q6 + 1 := ⟨_, rfl⟩
        refine lv_iinc (v := iI z_21) (lv' := [(6, vI z_21), (5, vI z_20), (4, vI z_2), (0, vR or_), (1, vR pa), (2, vI dn), (3, vI nx)]) hx hb dX3_weigh_48 hlv (k := 1) rfl (by rw [hz_21]; exact (Int32.ofInt_add _ _).symm) (by decide) rfl (fun ls hlv => ?_)
        refine lv_goto (tgt := 13) hx hb dX3_weigh_51 (by decide) ?_
        exact ih13 z_20 z_21 H locs ls (by omega) (by omega) (by omega) (by omega) (by omega) (dyS_1 (T := z_18) hl13_4 (by omega) ez_13 ez_14 (by omega) (by omega) (by omega) (by omega) (by omega))  (hP.sub [0, 1, 2, 3] rfl) (hD.sub [0, 1, 2, 3] (by decide) rfl) hS (lv_sub hlv [0, 1, 2, 3, 4, 5, 6] rfl)
