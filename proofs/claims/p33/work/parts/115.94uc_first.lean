
def vs_e_first : List Cond := .code yX3_findFirst cX3_findFirst 6 none :: (([.fieldLink RX3 11 "KerbSplash$Orders" "best" "[I", .constant RX3 29 (iI 1000000), .fieldLink RX3 30 "KerbSplash$Orders" "late" "I", .fieldLink RX3 33 "KerbSplash$Orders" "least" "I", .fieldLink RX3 36 "KerbSplash$Orders" "order" "I", .methodLink RX3 39 Lib.Math.max.name, .static Lib.Math.max.name, .initialized "java/lang/Math", .code Lib.Math.max.name Lib.Math.max.code 2 (some .int)] : List Cond) ++ ((wsX40) ++ ((wsX30) ++ ((wsV RX3 21 RX3 yX3_bestNext vs_e_bestNext) ++ ((wsV RX3 25 RX3 yX3_weigh vs_e_weigh) ++ ([]))))))
theorem gd_e_first : vs_e_first.all goodWord = true := gd_C (by decide +kernel) (gd_A (by decide +kernel) (gd_A (by decide +kernel) (gd_A (by decide +kernel) (gd_A (gd_V gd_e_bestNext (by decide +kernel)) (gd_A (gd_V gd_e_weigh (by decide +kernel)) rfl)))))
set_option maxHeartbeats 4000000 in
set_option maxRecDepth 100000 in
theorem e_first (l : Launch) (hl : l.stackTraces = false) (D : va_G) (cy : Nat → ClassId) (sa : Nat → Nat) (or_ be : Nat) (late lea ord : Int) (bf : Nat → Int32) (pa pt pd ps : Nat) (cars dips : Int) (df : Nat → Int32) (sz : Nat) (hr_late : (-2147483648) ≤ late ∧ late ≤ 2147483647) (hr_lea : (-2147483648) ≤ lea ∧ lea ≤ 2147483647) (hr_ord : (-2147483648) ≤ ord ∧ ord ≤ 2147483647) (hr_cars : 0 ≤ cars ∧ cars ≤ 20) (hr_dips : 0 ≤ dips ∧ dips ≤ 9) (hn_dp : DPR (nz df) dips.toNat) : Met l yX3_findFirst vs_e_first ({ frames := 2, cells := 0, slots := 0, locals := 53 }) (va_Pc [vR or_, vR pa] (pcW D cy sa sz [zO or_ 3 [vI late, vI lea, vI ord, vR be], zI be (cy 0) 512 bf, zO pa 4 [vI cars, vR pt, vI dips, vR pd, vR ps], zI pd (cy 0) 27 df])) (va_Qv (fun u : SV => ((-2147483648) ≤ u.2.1 0 ∧ u.2.1 0 ≤ 2147483647) ∧ ((-2147483648) ≤ u.2.1 1 ∧ u.2.1 1 ≤ 2147483647) ∧ ((-2147483648) ≤ u.2.1 2 ∧ u.2.1 2 ≤ 2147483647) ∧ ((u.2.1 0) = TB (Yc (nz df) dips.toNat) dips.toNat 0 / 1000000) ∧ ((u.2.1 1) = TB (Yc (nz df) dips.toNat) dips.toNat 0 % 1000000) ∧ ((u.2.1 2) = (ptN (Yc (nz df) dips.toNat) dips.toNat dips.toNat).2)) (fun u t => atW D (va_A [zO or_ 3 [vI late, vI lea, vI ord, vR be], zI be (cy 0) 512 bf, zO pa 4 [vI cars, vR pt, vI dips, vR pd, vR ps], zI pd (cy 0) 27 df] sz) [zO or_ 3 [vI (u.2.1 0), vI (u.2.1 1), vI (u.2.1 2), vR be], zI be (cy 0) 512 (u.2.2 0), zO pa 4 [vI cars, vR pt, vI dips, vR pd, vR ps], zI pd (cy 0) 27 df] t) (va_A [zO or_ 3 [vI late, vI lea, vI ord, vR be], zI be (cy 0) 512 bf, zO pa 4 [vI cars, vR pt, vI dips, vR pd, vR ps], zI pd (cy 0) 27 df] sz)) 0 0 (va_A [zO or_ 3 [vI late, vI lea, vI ord, vR be], zI be (cy 0) 512 bf, zO pa 4 [vI cars, vR pt, vI dips, vR pd, vR ps], zI pd (cy 0) 27 df] sz) := by
  refine Met.ofW (cc := cX3_findFirst) (maxL := 6) (ret := none) (by decide) rfl ?_
  intro p e s m args below meth c s₁ B hml hv
  obtain ⟨rfl, hsz, hP, hG, hD0, hT⟩ := hv
  have hx := B.exec
  have hb := B.bytes
  have hr := B.returns
  have hts := atoms_spec (ws := vs_e_first) B.pre
  have hown : s.vm.findClass RX3 = some m.cls := findClass_of_methodNamed B.named
  have hlocks := B.notSynchronized
  subst hsz
  have hD := hD0.self (sz := s.heap.size)
  generalize hAe : va_A [zO or_ 3 [vI late, vI lea, vI ord, vR be], zI be (cy 0) 512 bf, zO pa 4 [vI cars, vR pt, vI dips, vR pd, vR ps], zI pd (cy 0) 27 df] s.heap.size = A at hD hT ⊢
  have hA : ∀ q : Nat, s.heap.size ≤ q → A q := fun q h => by rw [← hAe]; exact Or.inr h
  have hS : va_S A s.heap s.heap [] := va_S.rf
  have hl0 := lv_entry ([vR or_, vR pa]) (n := 6) (Nat.le_of_ble_eq_true rfl)
  rw [lg_entry_eq]
  generalize (lg_sl ([vR or_, vR pa]) ++ List.replicate (6 - (lg_sl ([vR or_, vR pa])).length) Slot.unset).toArray = ls at hl0 ⊢
  have hlv : lv_has ls 6 [(0, vR or_), (1, vR pa)] := hl0
  have hi4 : ∀ w ∈ wsX40, w ∈ vs_e_first := fun w h => List.mem_cons_of_mem _ (List.mem_append_right _ (List.mem_append_left _ h))
  have lf11 := hts (.fieldLink RX3 11 "KerbSplash$Orders" "best" "[I") (List.mem_of_getElem? (i := 1) rfl)
  have hi3 : ∀ w ∈ wsX30, w ∈ vs_e_first := fun w h => List.mem_cons_of_mem _ (List.mem_append_right _ (List.mem_append_right _ (List.mem_append_left _ h)))
  have ld29 := hts (.constant RX3 29 (iI 1000000)) (List.mem_of_getElem? (i := 2) rfl)
  have lf30 := hts (.fieldLink RX3 30 "KerbSplash$Orders" "late" "I") (List.mem_of_getElem? (i := 3) rfl)
  have lf33 := hts (.fieldLink RX3 33 "KerbSplash$Orders" "least" "I") (List.mem_of_getElem? (i := 4) rfl)
  have lf36 := hts (.fieldLink RX3 36 "KerbSplash$Orders" "order" "I") (List.mem_of_getElem? (i := 5) rfl)
  have gg_2 : GoodIn vs_e_first (wsV RX3 21 RX3 yX3_bestNext vs_e_bestNext) := goodIn_sub (fun w h => List.mem_cons_of_mem _ (List.mem_append_right _ (List.mem_append_right _ (List.mem_append_right _ (List.mem_append_left _ h))))) (gd_V gd_e_bestNext (by decide +kernel))
  have mk39 := hts (.methodLink RX3 39 Lib.Math.max.name) (List.mem_of_getElem? (i := 6) rfl)
  have ms_max := hts (.static Lib.Math.max.name) (List.mem_of_getElem? (i := 7) rfl)
  have mi_ := hts (.initialized "java/lang/Math") (List.mem_of_getElem? (i := 8) rfl)
  have mc_max := hts (.code Lib.Math.max.name Lib.Math.max.code 2 (some .int)) (List.mem_of_getElem? (i := 9) rfl)
  have gg_3 : GoodIn vs_e_first (wsV RX3 25 RX3 yX3_weigh vs_e_weigh) := goodIn_sub (fun w h => List.mem_cons_of_mem _ (List.mem_append_right _ (List.mem_append_right _ (List.mem_append_right _ (List.mem_append_right _ (List.mem_append_left _ h)))))) (gd_V gd_e_weigh (by decide +kernel))
  refine lv_iconst (v := iI 1) hx hb dX3_findFirst_0 (by decide) ?_
  refine lv_aload_n hx hb dX3_findFirst_1 rfl (lv_at hlv 1 rfl) ?_
  refine va_getN (D := D) (ci := 4) (v := vI dips) (C := RX4) (T := TX4) (N := 5) hx hb hts hi4 hown hG.1 hP 2 rfl rfl 2 (by decide) (va_Nw.use rfl (nF_Orders_17 hG.2.1)) (fun _ h9 => h9) rfl dX3_findFirst_2 ?_
  refine lv_ishl hx hb dX3_findFirst_5 ?_
  refine lt_sh2 (n := 9) (M := 512) (by decide) (by decide) (by omega) (fun z_1 ez_1 lz_1 hz_1 => ?_)
  have hzz : z_1 = ((2 ^ dips.toNat : Nat) : Int) := so_p (N := dips) (zz := z_1) (by omega) ez_1 (by omega)
  refine lv_iconst (v := iI 1) hx hb dX3_findFirst_6 (by decide) ?_
  refine lv_isub hx hb dX3_findFirst_7 ?_
  refine lt_e (e0 := z_1 - 1) (Int32.ofInt_sub _ _).symm (fun z_2 hz_2 => ?_)
  refine lv_istore_n (lv' := [(2, vI z_2), (0, vR or_), (1, vR pa)]) hx hb dX3_findFirst_8 rfl hlv (by decide) rfl (fun ls hlv => ?_)
  refine lv_aload_n hx hb dX3_findFirst_9 rfl (lv_at hlv 1 rfl) ?_
  refine va_get (D := D) (ci := 3) (v := vR be) (C := RX3) (T := TX3) (N := 4) hx hb hts hi3 hown hG.1 hP 0 rfl rfl 3 (by decide) lf11 (fun _ h9 => h9) rfl dX3_findFirst_10 ?_
  refine lv_iload_n hx hb dX3_findFirst_13 rfl (lv_at hlv 0 rfl) ?_
  refine lv_iconst (v := iI 0) hx hb dX3_findFirst_14 (by decide) ?_
  refine va_iast hx hb hG.1 hP hD hS 1 0 rfl rfl (iI_in (by omega) (by decide)) dX3_findFirst_15 (fun H locs hP hD hS => ?_)
  have ⟨f_3, hdf_3, hP, hD⟩ : ∃ f_3 : Nat → Int32, f_3 = upd bf (iI z_2).toNatClampNeg (iI 0) ∧ va_P D vwCl [zO or_ 3 [vI late, vI lea, vI ord, vR be], zI be (cy 0) 512 f_3, zO pa 4 [vI cars, vR pt, vI dips, vR pd, vR ps], zI pd (cy 0) 27 df] H ∧ va_D A [zO or_ 3 [vI late, vI lea, vI ord, vR be], zI be (cy 0) 512 f_3, zO pa 4 [vI cars, vR pt, vI dips, vR pd, vR ps], zI pd (cy 0) 27 df] := ⟨_, rfl, hP, hD⟩
  refine lv_iload_n hx hb dX3_findFirst_16 rfl (lv_at hlv 0 rfl) ?_
  refine lv_iconst (v := iI 1) hx hb dX3_findFirst_17 (by decide) ?_
  refine lv_isub hx hb dX3_findFirst_18 ?_
  refine lt_e (e0 := z_2 - 1) (Int32.ofInt_sub _ _).symm (fun z_4 hz_4 => ?_)
  refine lv_istore_n (lv' := [(3, vI z_4), (2, vI z_2), (0, vR or_), (1, vR pa)]) hx hb dX3_findFirst_19 rfl hlv (by decide) rfl (fun ls hlv => ?_)
  refine (?_ : ∀ (fu : Nat) (q3 : Int) (bg : Nat → Int32) (H : Heap) (locs : List Loc) (ls : Array Slot), q3 + 1 < (fu : Int) → ((-1) ≤ q3 ∧ q3 ≤ 511) → (q3 + 2 ≤ z_1) → (TBS (Yc (nz df) dips.toNat) dips.toNat q3 bg) → va_P D vwCl [zO or_ 3 [vI late, vI lea, vI ord, vR be], zI be (cy 0) 512 bg, zO pa 4 [vI cars, vR pt, vI dips, vR pd, vR ps], zI pd (cy 0) 27 df] H → va_D A [zO or_ 3 [vI late, vI lea, vI ord, vR be], zI be (cy 0) 512 bg, zO pa 4 [vI cars, vR pt, vI dips, vR pd, vR ps], zI pd (cy 0) 27 df] → va_S A s.heap H locs → lv_has ls 6 [(3, vI q3), (2, vI z_2), (0, vR or_), (1, vR pa)] → W p l e _ s m _ below meth c H locs _ _ _ (F0 m 20 ls [])) (((z_4 + 1) + 1 : Int)).toNat z_4 f_3 _ _ _ (by omega) (by omega) (by omega) (TBS_0 hdf_3 (by omega) (by omega) (by omega))  hP hD hS hlv
  clear hP hD hS hlv
  intro fu
  induction fu with
  | zero => intro q3 bg H locs ls hm20 hl20_0 hl20_1 hl20_2  hP hD hS hlv; omega
  | succ fu ih20 =>
    intro q3 bg H locs ls hm20 hl20_0 hl20_1 hl20_2  hP hD hS hlv
    refine lv_iload_n hx hb dX3_findFirst_20 rfl (lv_at hlv 0 rfl) ?_
    refine iz_lt (tgt := 62) hx hb dX3_findFirst_21 (by decide) (by first | exact rgw hl20_0 (by decide) (by decide) | omega) (fun c_5 => ?_) (fun c_5 => ?_)
    · have hTA : TBS (Yc (nz df) dips.toNat) dips.toNat (-1) bg := by have q9 : q3 = -1 := (by omega); rw [← q9]; exact hl20_2
      refine lv_aload_n hx hb dX3_findFirst_62 rfl (lv_at hlv 2 rfl) ?_
      refine lv_aload_n hx hb dX3_findFirst_63 rfl (lv_at hlv 2 rfl) ?_
      refine va_get (D := D) (ci := 3) (v := vR be) (C := RX3) (T := TX3) (N := 4) hx hb hts hi3 hown hG.1 hP 0 rfl rfl 3 (by decide) lf11 (fun _ h9 => h9) rfl dX3_findFirst_64 ?_
      refine lv_iconst (v := iI 0) hx hb dX3_findFirst_67 (by decide) ?_
      refine va_iald hx hb hG.1 hP 1 0 rfl rfl (iI_in (by omega) (by decide)) dX3_findFirst_68 ?_
      refine lt_nz (i := 0) (by omega) (fun z_6 hz_6 lz_6 uz_6 => ?_)
      have hz_6 : z_6 = nz bg 0 := hz_6
      have hTz_6 : z_6 = TB (Yc (nz df) dips.toNat) dips.toNat 0 := hz_6.trans (TBS.all hTA (j := 0) (Nat.pow_pos (by decide)))
      have hTbz_6 : 0 ≤ z_6 ∧ z_6 ≤ 9240570 := by have q9 := TBS.b hTA hn_dp (by omega) (m := -1) (by decide) (by decide) 0 (by decide) (by omega); omega
      refine lv_ldc (v := iI 1000000) hx hb hown ld29 dX3_findFirst_69 ?_
      refine lv_idiv hx hb dX3_findFirst_71 (fun q => absurd ((iI_eq (a := 1000000) (b := 0) (by omega) (by omega)).mp q) (by omega)) ?_
      refine lt_e (e0 := z_6 / 1000000) (dv_eq (by omega) (by omega)) (fun z_7 hz_7 => ?_)
      refine va_put (D := D) (ci := 3) (v := vI z_7) (ty := .int) (C := RX3) (T := TX3) (N := 4) hx hb hts hi3 tyX3 tyX3_ok nmX3 hown hG.1 hP hD hS 0 rfl rfl 0 (by decide) lf30 (fun _ h9 => h9) rfl (by decide +kernel) rfl rfl (Nat.le_of_ble_eq_true rfl) dX3_findFirst_72 (fun H locs hP hD hS => ?_)
      have hP : va_P D vwCl [zO or_ 3 [vI z_7, vI lea, vI ord, vR be], zI be (cy 0) 512 bg, zO pa 4 [vI cars, vR pt, vI dips, vR pd, vR ps], zI pd (cy 0) 27 df] H := hP
      have hD : va_D A [zO or_ 3 [vI z_7, vI lea, vI ord, vR be], zI be (cy 0) 512 bg, zO pa 4 [vI cars, vR pt, vI dips, vR pd, vR ps], zI pd (cy 0) 27 df] := hD
      refine lv_aload_n hx hb dX3_findFirst_75 rfl (lv_at hlv 2 rfl) ?_
      refine lv_aload_n hx hb dX3_findFirst_76 rfl (lv_at hlv 2 rfl) ?_
      refine va_get (D := D) (ci := 3) (v := vR be) (C := RX3) (T := TX3) (N := 4) hx hb hts hi3 hown hG.1 hP 0 rfl rfl 3 (by decide) lf11 (fun _ h9 => h9) rfl dX3_findFirst_77 ?_
      refine lv_iconst (v := iI 0) hx hb dX3_findFirst_80 (by decide) ?_
      refine va_iald hx hb hG.1 hP 1 0 rfl rfl (iI_in (by omega) (by decide)) dX3_findFirst_81 ?_
      refine lt_nz (i := 0) (by omega) (fun z_8 hz_8 lz_8 uz_8 => ?_)
      have hz_8 : z_8 = nz bg 0 := hz_8
      have hTz_8 : z_8 = TB (Yc (nz df) dips.toNat) dips.toNat 0 := hz_8.trans (TBS.all hTA (j := 0) (Nat.pow_pos (by decide)))
      have hTbz_8 : 0 ≤ z_8 ∧ z_8 ≤ 9240570 := by have q9 := TBS.b hTA hn_dp (by omega) (m := -1) (by decide) (by decide) 0 (by decide) (by omega); omega
      refine lv_ldc (v := iI 1000000) hx hb hown ld29 dX3_findFirst_82 ?_
      refine lv_irem hx hb dX3_findFirst_84 (fun q => absurd ((iI_eq (a := 1000000) (b := 0) (by omega) (by omega)).mp q) (by omega)) ?_
      refine lt_z (fun z_9 ez_9 lz_9 hz_9 => ?_)
      refine va_put (D := D) (ci := 3) (v := vI z_9) (ty := .int) (C := RX3) (T := TX3) (N := 4) hx hb hts hi3 tyX3 tyX3_ok nmX3 hown hG.1 hP hD hS 0 rfl rfl 1 (by decide) lf33 (fun _ h9 => h9) rfl (by decide +kernel) rfl rfl (Nat.le_of_ble_eq_true rfl) dX3_findFirst_85 (fun H locs hP hD hS => ?_)
      have hP : va_P D vwCl [zO or_ 3 [vI z_7, vI z_9, vI ord, vR be], zI be (cy 0) 512 bg, zO pa 4 [vI cars, vR pt, vI dips, vR pd, vR ps], zI pd (cy 0) 27 df] H := hP
      have hD : va_D A [zO or_ 3 [vI z_7, vI z_9, vI ord, vR be], zI be (cy 0) 512 bg, zO pa 4 [vI cars, vR pt, vI dips, vR pd, vR ps], zI pd (cy 0) 27 df] := hD
      refine lv_aload_n hx hb dX3_findFirst_88 rfl (lv_at hlv 2 rfl) ?_
      refine lv_iconst (v := iI 0) hx hb dX3_findFirst_89 (by decide) ?_
      refine va_put (D := D) (ci := 3) (v := vI 0) (ty := .int) (C := RX3) (T := TX3) (N := 4) hx hb hts hi3 tyX3 tyX3_ok nmX3 hown hG.1 hP hD hS 0 rfl rfl 2 (by decide) lf36 (fun _ h9 => h9) rfl (by decide +kernel) rfl rfl (Nat.le_of_ble_eq_true rfl) dX3_findFirst_90 (fun H locs hP hD hS => ?_)
      have hP : va_P D vwCl [zO or_ 3 [vI z_7, vI z_9, vI 0, vR be], zI be (cy 0) 512 bg, zO pa 4 [vI cars, vR pt, vI dips, vR pd, vR ps], zI pd (cy 0) 27 df] H := hP
      have hD : va_D A [zO or_ 3 [vI z_7, vI z_9, vI 0, vR be], zI be (cy 0) 512 bg, zO pa 4 [vI cars, vR pt, vI dips, vR pd, vR ps], zI pd (cy 0) 27 df] := hD
      refine lv_iconst (v := iI 0) hx hb dX3_findFirst_93 (by decide) ?_
      refine lv_istore_n (lv' := [(3, vI 0), (2, vI z_2), (0, vR or_), (1, vR pa)]) hx hb dX3_findFirst_94 rfl hlv (by decide) rfl (fun ls hlv => ?_)
      refine lv_iconst (v := iI 0) hx hb dX3_findFirst_95 (by decide) ?_
      refine lv_istore (lv' := [(4, vI 0), (3, vI 0), (2, vI z_2), (0, vR or_), (1, vR pa)]) hx hb dX3_findFirst_96 hlv (by decide) rfl (fun ls hlv => ?_)
      refine (?_ : ∀ (fu : Nat) (r3 : Int) (r4 : Int) (ro4 : Int) (H : Heap) (locs : List Loc) (ls : Array Slot), 9 - r4 < (fu : Int) → (0 ≤ r3 ∧ r3 ≤ 511) → (0 ≤ r4 ∧ r4 ≤ 9) → ((-2147483648) ≤ ro4 ∧ ro4 ≤ 2147483647) → (r4 ≤ dips) → (r3 = (ptN (Yc (nz df) dips.toNat) dips.toNat r4.toNat).1) → (ro4 = (ptN (Yc (nz df) dips.toNat) dips.toNat r4.toNat).2) → va_P D vwCl [zO or_ 3 [vI z_7, vI z_9, vI ro4, vR be], zI be (cy 0) 512 bg, zO pa 4 [vI cars, vR pt, vI dips, vR pd, vR ps], zI pd (cy 0) 27 df] H → va_D A [zO or_ 3 [vI z_7, vI z_9, vI ro4, vR be], zI be (cy 0) 512 bg, zO pa 4 [vI cars, vR pt, vI dips, vR pd, vR ps], zI pd (cy 0) 27 df] → va_S A s.heap H locs → lv_has ls 6 [(4, vI r4), (3, vI r3), (2, vI z_2), (0, vR or_), (1, vR pa)] → W p l e _ s m _ below meth c H locs _ _ _ (F0 m 98 ls [])) (((9 - 0) + 1 : Int)).toNat 0 0 0 _ _ _ (by omega) (by show (0 : Int) ≤ 0 ∧ (0 : Int) ≤ 511; decide) (by show (0 : Int) ≤ 0 ∧ (0 : Int) ≤ 9; decide) (by show ((-2147483648) : Int) ≤ 0 ∧ (0 : Int) ≤ 2147483647; decide) (by omega) rfl rfl  hP hD hS hlv
      clear hP hD hS hlv
      intro fu
      induction fu with
      | zero => intro r3 r4 ro4 H locs ls hm98 hl98_0 hl98_1 hl98_2 hl98_3 hl98_4 hl98_5  hP hD hS hlv; omega
      | succ fu ih98 =>
        intro r3 r4 ro4 H locs ls hm98 hl98_0 hl98_1 hl98_2 hl98_3 hl98_4 hl98_5  hP hD hS hlv
        refine lv_iload hx hb dX3_findFirst_98 (lv_at hlv 0 rfl) ?_
        refine lv_aload_n hx hb dX3_findFirst_100 rfl (lv_at hlv 4 rfl) ?_
        refine va_getN (D := D) (ci := 4) (v := vI dips) (C := RX4) (T := TX4) (N := 5) hx hb hts hi4 hown hG.1 hP 2 rfl rfl 2 (by decide) (va_Nw.use rfl (nF_Orders_17 hG.2.1)) (fun _ h9 => h9) rfl dX3_findFirst_101 ?_
        refine ir_ge (tgt := 146) hx hb dX3_findFirst_104 (by decide) (by first | exact rgw hl98_1 (by decide) (by decide) | omega) (by first | exact rgw hr_dips (by decide) (by decide) | omega) (fun c_10 => ?_) (fun c_10 => ?_)
        · refine W.widen (k := 0) (n := 0) (Nat.le_of_ble_eq_true rfl) (Nat.le_of_ble_eq_true rfl) ?_
          exact W.vret hx hb hr (fun t ht hW => ⟨⟨((fun k => ([] : List Nat).getD k 0), (fun k => ([z_7, z_9, ro4] : List Int).getD k 0), (fun k => ([bg] : List (Nat → Int32)).getD k (fun _ => 0))), rfl, ⟨(by show ((-2147483648) ≤ z_7 ∧ z_7 ≤ 2147483647); omega), (by show ((-2147483648) ≤ z_9 ∧ z_9 ≤ 2147483647); omega), (by show ((-2147483648) ≤ ro4 ∧ ro4 ≤ 2147483647); first | exact hl98_2 | omega), (by show ((z_7) = TB (Yc (nz df) dips.toNat) dips.toNat 0 / 1000000); exact (hz_7.trans (by rw [hTz_6]))), (by show ((z_9) = TB (Yc (nz df) dips.toNat) dips.toNat 0 % 1000000); exact ((rm_e (by omega) (by omega) ez_9).trans (by rw [hTz_8]))), (by show ((ro4) = (ptN (Yc (nz df) dips.toNat) dips.toNat dips.toNat).2); exact (by have q9 : r4 = dips := (by omega); rw [q9] at hl98_5; exact hl98_5))⟩, by rw [ht]; exact hP.sub [0, 1, 2, 3] rfl, hD.sub [0, 1, 2, 3] (by decide) rfl⟩, hS.F ht⟩) hS.2.2 dX3_findFirst_146
        · have hpb := ptN_b (n := dips.toNat) (r := r4) (by omega) ⟨by omega, by omega⟩ hl98_4 hl98_5
          have hpb1 := hpb.1.2
          have hpb2 := hpb.2
          clear hpb
          refine lv_aload_n hx hb dX3_findFirst_107 rfl (lv_at hlv 3 rfl) ?_
          refine lv_aload_n hx hb dX3_findFirst_108 rfl (lv_at hlv 4 rfl) ?_
          refine lv_iload_n hx hb dX3_findFirst_109 rfl (lv_at hlv 1 rfl) ?_
          refine cj_i (wr := []) (va_runV (As := [vR pa, vI r3]) (rest := []) ⟨hx, hb, hml, hown, hts⟩ (e_bestNext l hl D cy sa or_ be z_7 z_9 ro4 bg pa pt pd ps cars dips df r3 H.size (by omega) (by omega) (by first | exact hl98_2 | omega) (by first | exact hr_cars | omega) (by first | exact hr_dips | omega) (by first | exact hl98_0 | omega) (by omega) hn_dp (TBS.b hTA hn_dp (by omega) (by omega) (by omega))) (cwV 2 hts gg_2 rfl rfl rfl (by decide +kernel) ⟨Nat.le_of_ble_eq_true rfl, Nat.le_of_ble_eq_true rfl⟩) ⟨pcW.blind, (va_recv hG.1 hP (ci := 3) (q0 := 0) rfl rfl), (pcW.mk hP hD hS hA hG hT [0, 1, 2, 3] rfl (by decide))⟩ rfl rfl hlv.1 rfl (lv_room (Nat.le_of_ble_eq_true rfl)) dX3_findFirst_110 ⟨Nat.le_of_ble_eq_true rfl, Nat.le_of_ble_eq_true rfl⟩) hP hD hS hA [0, 1, 2, 3] [] rfl rfl (by decide) (by decide) (fun r1 u1 H locs hw1 hP hD hS => ?_)
          obtain ⟨rfl, hq1_1, hq1_2⟩ := hw1
          have hP : va_P D vwCl [zO or_ 3 [vI z_7, vI z_9, vI ro4, vR be], zI be (cy 0) 512 bg, zO pa 4 [vI cars, vR pt, vI dips, vR pd, vR ps], zI pd (cy 0) 27 df] H := hP
          have hD : va_D A [zO or_ 3 [vI z_7, vI z_9, vI ro4, vR be], zI be (cy 0) 512 bg, zO pa 4 [vI cars, vR pt, vI dips, vR pd, vR ps], zI pd (cy 0) 27 df] := hD
          have hbi := bn_in (Y := (Yc (nz df) dips.toNat)) (B := nz bg) (m := r3) (n := dips.toNat) (by omega) (by omega) (by omega)
          rw [← hq1_2] at hbi
          have hbi1 : 0 ≤ (u1.2.1 0) := hbi.1
          have hbi2 : (u1.2.1 0) < (dips.toNat : Int) := hbi.2.1
          clear hbi
          refine lv_iconst (v := iI 0) hx hb dX3_findFirst_113 (by decide) ?_
          refine va_mmax hx hb (hml.trans hlv.1.symm) hown mk39 ms_max mi_ mc_max (Nat.le_of_ble_eq_true rfl) (Nat.le_of_ble_eq_true rfl) (Nat.le_of_ble_eq_true rfl) (Nat.le_of_ble_eq_true rfl) dX3_findFirst_114 ?_
          refine lt_mx (by omega) (by omega) (fun z_11 hz_11 => ?_)
          refine lv_istore (lv' := [(5, vI z_11), (4, vI r4), (3, vI r3), (2, vI z_2), (0, vR or_), (1, vR pa)]) hx hb dX3_findFirst_117 hlv (by decide) rfl (fun ls hlv => ?_)
          refine lv_aload_n hx hb dX3_findFirst_119 rfl (lv_at hlv 4 rfl) ?_
          refine lv_aload_n hx hb dX3_findFirst_120 rfl (lv_at hlv 4 rfl) ?_
          refine va_get (D := D) (ci := 3) (v := vI ro4) (C := RX3) (T := TX3) (N := 4) hx hb hts hi3 hown hG.1 hP 0 rfl rfl 2 (by decide) lf36 (fun _ h9 => h9) rfl dX3_findFirst_121 ?_
          refine lv_bipush (v := iI 10) hx hb dX3_findFirst_124 (by decide) ?_
          refine lv_imul hx hb dX3_findFirst_126 ?_
          refine lt_e (e0 := ro4 * 10) (Int32.ofInt_mul _ _).symm (fun z_12 hz_12 => ?_)
          refine lv_iload hx hb dX3_findFirst_127 (lv_at hlv 0 rfl) ?_
          refine lv_iadd hx hb dX3_findFirst_129 ?_
          refine lt_e (e0 := z_12 + z_11) (Int32.ofInt_add _ _).symm (fun z_13 hz_13 => ?_)
          refine va_put (D := D) (ci := 3) (v := vI z_13) (ty := .int) (C := RX3) (T := TX3) (N := 4) hx hb hts hi3 tyX3 tyX3_ok nmX3 hown hG.1 hP hD hS 0 rfl rfl 2 (by decide) lf36 (fun _ h9 => h9) rfl (by decide +kernel) rfl rfl (Nat.le_of_ble_eq_true rfl) dX3_findFirst_130 (fun H locs hP hD hS => ?_)
          have hP : va_P D vwCl [zO or_ 3 [vI z_7, vI z_9, vI z_13, vR be], zI be (cy 0) 512 bg, zO pa 4 [vI cars, vR pt, vI dips, vR pd, vR ps], zI pd (cy 0) 27 df] H := hP
          have hD : va_D A [zO or_ 3 [vI z_7, vI z_9, vI z_13, vR be], zI be (cy 0) 512 bg, zO pa 4 [vI cars, vR pt, vI dips, vR pd, vR ps], zI pd (cy 0) 27 df] := hD
          refine lv_iload_n hx hb dX3_findFirst_133 rfl (lv_at hlv 2 rfl) ?_
          refine lv_iconst (v := iI 1) hx hb dX3_findFirst_134 (by decide) ?_
          refine lv_iload hx hb dX3_findFirst_135 (lv_at hlv 0 rfl) ?_
          refine lv_ishl hx hb dX3_findFirst_137 ?_
          refine lt_sh2 (n := 8) (M := 256) (by decide) (by decide) (by omega) (fun z_14 ez_14 lz_14 hz_14 => ?_)
          refine lv_ior hx hb dX3_findFirst_138 ?_
          obtain ⟨z_15, ez_15, wz_15, hz_15⟩ := so_ex (a := r3) (k := z_11) (by omega) (by omega) ez_14
          refine lt_i (y := iI z_15) ez_15 ?_
          refine lv_istore_n (lv' := [(3, vI z_15), (5, vI z_11), (4, vI r4), (2, vI z_2), (0, vR or_), (1, vR pa)]) hx hb dX3_findFirst_139 rfl hlv (by decide) rfl (fun ls hlv => ?_)
          obtain ⟨z_16, hz_16⟩ : ∃ z : Int, z = r4 + 1 := ⟨_, rfl⟩
          refine lv_iinc (v := iI z_16) (lv' := [(4, vI z_16), (3, vI z_15), (5, vI z_11), (2, vI z_2), (0, vR or_), (1, vR pa)]) hx hb dX3_findFirst_140 hlv (k := 2) rfl (by rw [hz_16]; exact (Int32.ofInt_add _ _).symm) (by decide) rfl (fun ls hlv => ?_)
          refine lv_goto (tgt := 98) hx hb dX3_findFirst_143 (by decide) ?_
          exact ih98 z_15 z_16 z_13 H locs ls (by omega) (by omega) (by omega) (by omega) (by omega) (ptN_s (f := bg) (s := z_15) (t := z_13) hTA (by omega) ⟨by omega, by omega⟩ hl98_4 hl98_5 (by rw [show z_11 = (u1.2.1 0) by omega]; exact hq1_2) wz_15 (by omega) (by omega)).1 (ptN_s (f := bg) (s := z_15) (t := z_13) hTA (by omega) ⟨by omega, by omega⟩ hl98_4 hl98_5 (by rw [show z_11 = (u1.2.1 0) by omega]; exact hq1_2) wz_15 (by omega) (by omega)).2  (hP.sub [0, 1, 2, 3] rfl) (hD.sub [0, 1, 2, 3] (by decide) rfl) hS (lv_sub hlv [0, 1, 3, 4, 5] rfl)
    · refine lv_aload_n hx hb dX3_findFirst_24 rfl (lv_at hlv 2 rfl) ?_
      refine lv_aload_n hx hb dX3_findFirst_25 rfl (lv_at hlv 3 rfl) ?_
      refine lv_iload_n hx hb dX3_findFirst_26 rfl (lv_at hlv 0 rfl) ?_
      refine cj_i (wr := []) (va_runV (As := [vR pa, vI q3]) (rest := []) ⟨hx, hb, hml, hown, hts⟩ (e_bestNext l hl D cy sa or_ be late lea ord bg pa pt pd ps cars dips df q3 H.size (by first | exact hr_late | omega) (by first | exact hr_lea | omega) (by first | exact hr_ord | omega) (by first | exact hr_cars | omega) (by first | exact hr_dips | omega) (by omega) (by omega) hn_dp (TBS.b hl20_2 hn_dp (by omega) (by omega) (by omega))) (cwV 2 hts gg_2 rfl rfl rfl (by decide +kernel) ⟨Nat.le_of_ble_eq_true rfl, Nat.le_of_ble_eq_true rfl⟩) ⟨pcW.blind, (va_recv hG.1 hP (ci := 3) (q0 := 0) rfl rfl), (pcW.mk hP hD hS hA hG hT [0, 1, 2, 3] rfl (by decide))⟩ rfl rfl hlv.1 rfl (lv_room (Nat.le_of_ble_eq_true rfl)) dX3_findFirst_27 ⟨Nat.le_of_ble_eq_true rfl, Nat.le_of_ble_eq_true rfl⟩) hP hD hS hA [0, 1, 2, 3] [] rfl rfl (by decide) (by decide) (fun r2 u2 H locs hw2 hP hD hS => ?_)
      obtain ⟨rfl, hq2_1, hq2_2⟩ := hw2
      have hP : va_P D vwCl [zO or_ 3 [vI late, vI lea, vI ord, vR be], zI be (cy 0) 512 bg, zO pa 4 [vI cars, vR pt, vI dips, vR pd, vR ps], zI pd (cy 0) 27 df] H := hP
      have hD : va_D A [zO or_ 3 [vI late, vI lea, vI ord, vR be], zI be (cy 0) 512 bg, zO pa 4 [vI cars, vR pt, vI dips, vR pd, vR ps], zI pd (cy 0) 27 df] := hD
      refine lv_istore (lv' := [(4, vI (u2.2.1 0)), (3, vI q3), (2, vI z_2), (0, vR or_), (1, vR pa)]) hx hb dX3_findFirst_30 hlv (by decide) rfl (fun ls hlv => ?_)
      have hbi := bn_in (Y := (Yc (nz df) dips.toNat)) (B := nz bg) (m := q3) (n := dips.toNat) (by omega) (by omega) (by omega)
      rw [← hq2_2] at hbi
      have hbi1 : 0 ≤ (u2.2.1 0) := hbi.1
      have hbi2 : (u2.2.1 0) < (dips.toNat : Int) := hbi.2.1
      have hbi3 : ¬ bt q3 (u2.2.1 0) = iI 1 := hbi.2.2.1
      clear hbi
      refine lv_aload_n hx hb dX3_findFirst_32 rfl (lv_at hlv 3 rfl) ?_
      refine va_get (D := D) (ci := 3) (v := vR be) (C := RX3) (T := TX3) (N := 4) hx hb hts hi3 hown hG.1 hP 0 rfl rfl 3 (by decide) lf11 (fun _ h9 => h9) rfl dX3_findFirst_33 ?_
      refine lv_iload_n hx hb dX3_findFirst_36 rfl (lv_at hlv 1 rfl) ?_
      refine lv_iload hx hb dX3_findFirst_37 (lv_at hlv 0 rfl) ?_
      refine lv_iconst (v := iI (-1)) hx hb dX3_findFirst_39 (by decide) ?_
      refine ir_ne (tgt := 47) hx hb dX3_findFirst_40 (by decide) (by first | exact rgw hq2_1 (by decide) (by decide) | omega) (by show ((-2147483648) : Int) ≤ (-1) ∧ ((-1) : Int) ≤ 2147483647; decide) (fun c_17 => ?_) (fun c_17 => by exfalso; omega)
      refine lv_aload_n hx hb dX3_findFirst_47 rfl (lv_at hlv 3 rfl) ?_
      refine lv_aload_n hx hb dX3_findFirst_48 rfl (lv_at hlv 4 rfl) ?_
      refine lv_iload_n hx hb dX3_findFirst_49 rfl (lv_at hlv 1 rfl) ?_
      refine lv_iload hx hb dX3_findFirst_50 (lv_at hlv 0 rfl) ?_
      refine cj_i (wr := []) (va_runV (As := [vR pa, vI q3, vI (u2.2.1 0)]) (rest := [vI q3, vR be]) ⟨hx, hb, hml, hown, hts⟩ (e_weigh l hl D cy sa or_ be late lea ord bg pa pt pd ps cars dips df q3 (u2.2.1 0) H.size (by first | exact hr_late | omega) (by first | exact hr_lea | omega) (by first | exact hr_ord | omega) (by first | exact hr_cars | omega) (by first | exact hr_dips | omega) (by omega) (by omega) (by omega) (by omega) hn_dp (TBS.b hl20_2 hn_dp (by omega) (by omega) (by omega)) hbi3) (cwV 3 hts gg_3 rfl rfl rfl (by decide +kernel) ⟨Nat.le_of_ble_eq_true rfl, Nat.le_of_ble_eq_true rfl⟩) ⟨pcW.blind, (va_recv hG.1 hP (ci := 3) (q0 := 0) rfl rfl), (pcW.mk hP hD hS hA hG hT [0, 1, 2, 3] rfl (by decide))⟩ rfl rfl hlv.1 rfl (lv_room (Nat.le_of_ble_eq_true rfl)) dX3_findFirst_52 ⟨Nat.le_of_ble_eq_true rfl, Nat.le_of_ble_eq_true rfl⟩) hP hD hS hA [0, 1, 2, 3] [] rfl rfl (by decide) (by decide) (fun r3 u3 H locs hw3 hP hD hS => ?_)
      obtain ⟨rfl, hq3_1, hq3_2⟩ := hw3
      have hP : va_P D vwCl [zO or_ 3 [vI late, vI lea, vI ord, vR be], zI be (cy 0) 512 bg, zO pa 4 [vI cars, vR pt, vI dips, vR pd, vR ps], zI pd (cy 0) 27 df] H := hP
      have hD : va_D A [zO or_ 3 [vI late, vI lea, vI ord, vR be], zI be (cy 0) 512 bg, zO pa 4 [vI cars, vR pt, vI dips, vR pd, vR ps], zI pd (cy 0) 27 df] := hD
      refine va_iast hx hb hG.1 hP hD hS 1 0 rfl rfl (iI_in (by omega) (by decide)) dX3_findFirst_55 (fun H locs hP hD hS => ?_)
      have ⟨f_18, hdf_18, hP, hD⟩ : ∃ f_18 : Nat → Int32, f_18 = upd bg (iI q3).toNatClampNeg (iI (u3.2.1 0)) ∧ va_P D vwCl [zO or_ 3 [vI late, vI lea, vI ord, vR be], zI be (cy 0) 512 f_18, zO pa 4 [vI cars, vR pt, vI dips, vR pd, vR ps], zI pd (cy 0) 27 df] H ∧ va_D A [zO or_ 3 [vI late, vI lea, vI ord, vR be], zI be (cy 0) 512 f_18, zO pa 4 [vI cars, vR pt, vI dips, vR pd, vR ps], zI pd (cy 0) 27 df] := ⟨_, rfl, hP, hD⟩
      obtain ⟨z_19, hz_19⟩ : ∃ z : Int, z = q3 + (-1) := ⟨_, rfl⟩
      refine lv_iinc (v := iI z_19) (lv' := [(3, vI z_19), (4, vI (u2.2.1 0)), (2, vI z_2), (0, vR or_), (1, vR pa)]) hx hb dX3_findFirst_56 hlv (k := 1) rfl (by rw [hz_19]; exact (Int32.ofInt_add _ _).symm) (by decide) rfl (fun ls hlv => ?_)
      refine lv_goto (tgt := 20) hx hb dX3_findFirst_59 (by decide) ?_
      exact ih20 z_19 f_18 H locs ls (by omega) (by omega) (by omega) (TBS_s (q := q3) hl20_2 (by omega) ⟨by omega, by omega⟩ hdf_18 (by omega) (by omega) hq3_2 hq2_2 (by omega))  (hP.sub [0, 1, 2, 3] rfl) (hD.sub [0, 1, 2, 3] (by decide) rfl) hS (lv_sub hlv [0, 2, 3, 4] rfl)
