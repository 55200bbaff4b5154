theorem dX1_add_0 : decode cX1_add 0 = .ok (.aload_n 0, 1) := by decide +kernel
theorem dX1_add_1 : decode cX1_add 1 = .ok (.getfield 23, 3) := by decide +kernel
theorem dX1_add_12 : decode cX1_add 12 = .ok (.aload_n 0, 1) := by decide +kernel
theorem dX1_add_13 : decode cX1_add 13 = .ok (.getfield 11, 3) := by decide +kernel
theorem dX1_add_16 : decode cX1_add 16 = .ok (.aload_n 0, 1) := by decide +kernel
theorem dX1_add_17 : decode cX1_add 17 = .ok (.getfield 23, 3) := by decide +kernel
theorem dX1_add_20 : decode cX1_add 20 = .ok (.iload_n 2, 1) := by decide +kernel
theorem dX1_add_21 : decode cX1_add 21 = .ok (.iconst 4, 1) := by decide +kernel
theorem dX1_add_22 : decode cX1_add 22 = .ok (.ishl, 1) := by decide +kernel
theorem dX1_add_23 : decode cX1_add 23 = .ok (.iload_n 1, 1) := by decide +kernel
theorem dX1_add_24 : decode cX1_add 24 = .ok (.ior, 1) := by decide +kernel
theorem dX1_add_25 : decode cX1_add 25 = .ok (.iastore, 1) := by decide +kernel
theorem dX1_add_26 : decode cX1_add 26 = .ok (.aload_n 0, 1) := by decide +kernel
theorem dX1_add_27 : decode cX1_add 27 = .ok (.dup, 1) := by decide +kernel
theorem dX1_add_28 : decode cX1_add 28 = .ok (.getfield 23, 3) := by decide +kernel
theorem dX1_add_31 : decode cX1_add 31 = .ok (.iconst 1, 1) := by decide +kernel
theorem dX1_add_32 : decode cX1_add 32 = .ok (.iadd, 1) := by decide +kernel
theorem dX1_add_33 : decode cX1_add 33 = .ok (.putfield 23, 3) := by decide +kernel
theorem dX1_add_36 : decode cX1_add 36 = .ok (.aload_n 0, 1) := by decide +kernel
theorem dX1_add_37 : decode cX1_add 37 = .ok (.getfield 23, 3) := by decide +kernel
theorem dX1_add_4 : decode cX1_add 4 = .ok (.aload_n 0, 1) := by decide +kernel
theorem dX1_add_40 : decode cX1_add 40 = .ok (.iconst 1, 1) := by decide +kernel
theorem dX1_add_41 : decode cX1_add 41 = .ok (.isub, 1) := by decide +kernel
theorem dX1_add_42 : decode cX1_add 42 = .ok (.ireturn, 1) := by decide +kernel
theorem dX1_add_5 : decode cX1_add 5 = .ok (.getfield 11, 3) := by decide +kernel
theorem dX1_add_8 : decode cX1_add 8 = .ok (.arraylength, 1) := by decide +kernel
theorem dX1_add_9 : decode cX1_add 9 = .ok (.if_icmp .ge 27, 3) := by decide +kernel
theorem dX1_aim_0 : decode cX1_aim 0 = .ok (.iload_n 1, 1) := by decide +kernel
theorem dX1_aim_1 : decode cX1_aim 1 = .ok (.ifCond .lt 33, 3) := by decide +kernel
theorem dX1_aim_12 : decode cX1_aim 12 = .ok (.aload_n 0, 1) := by decide +kernel
theorem dX1_aim_13 : decode cX1_aim 13 = .ok (.getfield 11, 3) := by decide +kernel
theorem dX1_aim_16 : decode cX1_aim 16 = .ok (.iload_n 1, 1) := by decide +kernel
theorem dX1_aim_17 : decode cX1_aim 17 = .ok (.aload_n 0, 1) := by decide +kernel
theorem dX1_aim_18 : decode cX1_aim 18 = .ok (.getfield 23, 3) := by decide +kernel
theorem dX1_aim_21 : decode cX1_aim 21 = .ok (.iconst 4, 1) := by decide +kernel
theorem dX1_aim_22 : decode cX1_aim 22 = .ok (.ishl, 1) := by decide +kernel
theorem dX1_aim_23 : decode cX1_aim 23 = .ok (.aload_n 0, 1) := by decide +kernel
theorem dX1_aim_24 : decode cX1_aim 24 = .ok (.getfield 11, 3) := by decide +kernel
theorem dX1_aim_27 : decode cX1_aim 27 = .ok (.iload_n 1, 1) := by decide +kernel
theorem dX1_aim_28 : decode cX1_aim 28 = .ok (.iaload, 1) := by decide +kernel
theorem dX1_aim_29 : decode cX1_aim 29 = .ok (.bipush 15, 2) := by decide +kernel
theorem dX1_aim_31 : decode cX1_aim 31 = .ok (.iand, 1) := by decide +kernel
theorem dX1_aim_32 : decode cX1_aim 32 = .ok (.ior, 1) := by decide +kernel
theorem dX1_aim_33 : decode cX1_aim 33 = .ok (.iastore, 1) := by decide +kernel
theorem dX1_aim_34 : decode cX1_aim 34 = .ok (.return_, 1) := by decide +kernel
theorem dX1_aim_4 : decode cX1_aim 4 = .ok (.iload_n 1, 1) := by decide +kernel
theorem dX1_aim_5 : decode cX1_aim 5 = .ok (.aload_n 0, 1) := by decide +kernel
theorem dX1_aim_6 : decode cX1_aim 6 = .ok (.getfield 23, 3) := by decide +kernel
theorem dX1_aim_9 : decode cX1_aim 9 = .ok (.if_icmp .ge 25, 3) := by decide +kernel
theorem dX1_joined_0 : decode cX1_joined 0 = .ok (.iload_n 0, 1) := by decide +kernel
theorem dX1_joined_1 : decode cX1_joined 1 = .ok (.tableswitch 108 2 9 #[47, 51, 55, 59, 71, 82, 93, 104], 47) := by decide +kernel
theorem dX1_joined_100 : decode cX1_joined 100 = .ok (.goto 4, 3) := by decide +kernel
theorem dX1_joined_103 : decode cX1_joined 103 = .ok (.iconst 0, 1) := by decide +kernel
theorem dX1_joined_104 : decode cX1_joined 104 = .ok (.ireturn, 1) := by decide +kernel
theorem dX1_joined_105 : decode cX1_joined 105 = .ok (.iload_n 1, 1) := by decide +kernel
theorem dX1_joined_106 : decode cX1_joined 106 = .ok (.iload_n 2, 1) := by decide +kernel
theorem dX1_joined_107 : decode cX1_joined 107 = .ok (.iand, 1) := by decide +kernel
theorem dX1_joined_108 : decode cX1_joined 108 = .ok (.ireturn, 1) := by decide +kernel
theorem dX1_joined_109 : decode cX1_joined 109 = .ok (.iload_n 1, 1) := by decide +kernel
theorem dX1_joined_110 : decode cX1_joined 110 = .ok (.iload_n 2, 1) := by decide +kernel
theorem dX1_joined_111 : decode cX1_joined 111 = .ok (.ior, 1) := by decide +kernel
theorem dX1_joined_112 : decode cX1_joined 112 = .ok (.ireturn, 1) := by decide +kernel
theorem dX1_joined_48 : decode cX1_joined 48 = .ok (.iload_n 1, 1) := by decide +kernel
theorem dX1_joined_49 : decode cX1_joined 49 = .ok (.iload_n 2, 1) := by decide +kernel
theorem dX1_joined_50 : decode cX1_joined 50 = .ok (.iadd, 1) := by decide +kernel
theorem dX1_joined_51 : decode cX1_joined 51 = .ok (.ireturn, 1) := by decide +kernel
theorem dX1_joined_52 : decode cX1_joined 52 = .ok (.iload_n 1, 1) := by decide +kernel
theorem dX1_joined_53 : decode cX1_joined 53 = .ok (.iload_n 2, 1) := by decide +kernel
theorem dX1_joined_54 : decode cX1_joined 54 = .ok (.isub, 1) := by decide +kernel
theorem dX1_joined_55 : decode cX1_joined 55 = .ok (.ireturn, 1) := by decide +kernel
theorem dX1_joined_56 : decode cX1_joined 56 = .ok (.iload_n 1, 1) := by decide +kernel
theorem dX1_joined_57 : decode cX1_joined 57 = .ok (.iload_n 2, 1) := by decide +kernel
theorem dX1_joined_58 : decode cX1_joined 58 = .ok (.imul, 1) := by decide +kernel
theorem dX1_joined_59 : decode cX1_joined 59 = .ok (.ireturn, 1) := by decide +kernel
theorem dX1_joined_60 : decode cX1_joined 60 = .ok (.iload_n 2, 1) := by decide +kernel
theorem dX1_joined_61 : decode cX1_joined 61 = .ok (.ifCond .ne 7, 3) := by decide +kernel
theorem dX1_joined_64 : decode cX1_joined 64 = .ok (.iconst 0, 1) := by decide +kernel
theorem dX1_joined_65 : decode cX1_joined 65 = .ok (.goto 6, 3) := by decide +kernel
theorem dX1_joined_68 : decode cX1_joined 68 = .ok (.iload_n 1, 1) := by decide +kernel
theorem dX1_joined_69 : decode cX1_joined 69 = .ok (.iload_n 2, 1) := by decide +kernel
theorem dX1_joined_70 : decode cX1_joined 70 = .ok (.idiv, 1) := by decide +kernel
theorem dX1_joined_71 : decode cX1_joined 71 = .ok (.ireturn, 1) := by decide +kernel
theorem dX1_joined_72 : decode cX1_joined 72 = .ok (.iload_n 1, 1) := by decide +kernel
theorem dX1_joined_73 : decode cX1_joined 73 = .ok (.iload_n 2, 1) := by decide +kernel
theorem dX1_joined_74 : decode cX1_joined 74 = .ok (.if_icmp .ge 7, 3) := by decide +kernel
theorem dX1_joined_77 : decode cX1_joined 77 = .ok (.iconst 1, 1) := by decide +kernel
theorem dX1_joined_78 : decode cX1_joined 78 = .ok (.goto 4, 3) := by decide +kernel
theorem dX1_joined_81 : decode cX1_joined 81 = .ok (.iconst 0, 1) := by decide +kernel
theorem dX1_joined_82 : decode cX1_joined 82 = .ok (.ireturn, 1) := by decide +kernel
theorem dX1_joined_83 : decode cX1_joined 83 = .ok (.iload_n 1, 1) := by decide +kernel
theorem dX1_joined_84 : decode cX1_joined 84 = .ok (.iload_n 2, 1) := by decide +kernel
theorem dX1_joined_85 : decode cX1_joined 85 = .ok (.if_icmp .le 7, 3) := by decide +kernel
theorem dX1_joined_88 : decode cX1_joined 88 = .ok (.iconst 1, 1) := by decide +kernel
theorem dX1_joined_89 : decode cX1_joined 89 = .ok (.goto 4, 3) := by decide +kernel
theorem dX1_joined_92 : decode cX1_joined 92 = .ok (.iconst 0, 1) := by decide +kernel
theorem dX1_joined_93 : decode cX1_joined 93 = .ok (.ireturn, 1) := by decide +kernel
theorem dX1_joined_94 : decode cX1_joined 94 = .ok (.iload_n 1, 1) := by decide +kernel
theorem dX1_joined_95 : decode cX1_joined 95 = .ok (.iload_n 2, 1) := by decide +kernel
theorem dX1_joined_96 : decode cX1_joined 96 = .ok (.if_icmp .ne 7, 3) := by decide +kernel
theorem dX1_joined_99 : decode cX1_joined 99 = .ok (.iconst 1, 1) := by decide +kernel
def vs_s_ladd : List Cond := .code yX1_add cX1_add 3 (some .int) :: (([.fieldLink RX1 23 "KerbSplash$Law" "size" "I", .fieldLink RX1 11 "KerbSplash$Law" "steps" "[I"] : List Cond) ++ ((wsX10) ++ ([])))
theorem gd_s_ladd : vs_s_ladd.all goodWord = true := gd_C (by decide +kernel) (gd_A (by decide +kernel) (gd_A (by decide +kernel) rfl))
set_option maxHeartbeats 4000000 in
set_option maxRecDepth 100000 in
theorem s_ladd (l : Launch) (hl : l.stackTraces = false) (D : va_G) (cy : Nat → ClassId) (sa : Nat → Nat) (la l0 l2 l3 : Nat) (size : Int) (st : Nat → Int32) (k n : Int) (sz : Nat) (hr_size : 0 ≤ size ∧ size ≤ 600) (hr_k : 0 ≤ k ∧ k ≤ 15) (hr_n : 0 ≤ n ∧ n ≤ 10000) (hst : inv_ 600 0 2147483647 st) : Met l yX1_add vs_s_ladd ({ frames := 0, cells := 0, slots := 0, locals := 0 }) (va_Pc [vR la, vI k, vI n] (pcW D cy sa sz [zO la 1 [vR l0, vI size, vR l2, vR l3], zI l0 (cy 0) 600 st])) (va_Qi (fun (r : Int32) (u : SV) => r = iI (u.2.1 0) ∧ ((-1) ≤ u.2.1 0 ∧ u.2.1 0 ≤ 599) ∧ (0 ≤ u.2.1 1 ∧ u.2.1 1 ≤ 600) ∧ (size ≤ u.2.1 1) ∧ inv_ 600 0 2147483647 (u.2.2 0)) (fun u t => atW D (va_A [zO la 1 [vR l0, vI size, vR l2, vR l3], zI l0 (cy 0) 600 st] sz) [zO la 1 [vR l0, vI (u.2.1 1), vR l2, vR l3], zI l0 (cy 0) 600 (u.2.2 0)] t) (va_A [zO la 1 [vR l0, vI size, vR l2, vR l3], zI l0 (cy 0) 600 st] sz)) 0 0 (va_A [zO la 1 [vR l0, vI size, vR l2, vR l3], zI l0 (cy 0) 600 st] sz) := by
  refine Met.ofW (cc := cX1_add) (maxL := 3) (ret := (some .int)) (by decide) rfl ?_
  intro p e s m args below meth c s₁ B hml hv
  obtain ⟨rfl, hsz, hP, hG, hD0, hT⟩ := hv
  have hx := B.exec
  have hb := B.bytes
  have hr := B.returns
  have hts := atoms_spec (ws := vs_s_ladd) B.pre
  have hown : s.vm.findClass RX1 = some m.cls := findClass_of_methodNamed B.named
  have hlocks := B.notSynchronized
  subst hsz
  have hD := hD0.self (sz := s.heap.size)
  generalize hAe : va_A [zO la 1 [vR l0, vI size, vR l2, vR l3], zI l0 (cy 0) 600 st] s.heap.size = A at hD hT ⊢
  have hA : ∀ q : Nat, s.heap.size ≤ q → A q := fun q h => by rw [← hAe]; exact Or.inr h
  have hS : va_S A s.heap s.heap [] := va_S.rf
  have hl0 := lv_entry ([vR la, vI k, vI n]) (n := 3) (Nat.le_of_ble_eq_true rfl)
  rw [lg_entry_eq]
  generalize (lg_sl ([vR la, vI k, vI n]) ++ List.replicate (3 - (lg_sl ([vR la, vI k, vI n])).length) Slot.unset).toArray = ls at hl0 ⊢
  have hlv : lv_has ls 3 [(0, vR la), (1, vI k), (2, vI n)] := hl0
  have lf23 := hts (.fieldLink RX1 23 "KerbSplash$Law" "size" "I") (List.mem_of_getElem? (i := 1) rfl)
  have hi1 : ∀ w ∈ wsX10, w ∈ vs_s_ladd := fun w h => List.mem_cons_of_mem _ (List.mem_append_right _ (List.mem_append_left _ h))
  have lf11 := hts (.fieldLink RX1 11 "KerbSplash$Law" "steps" "[I") (List.mem_of_getElem? (i := 2) rfl)
  refine lv_aload_n hx hb dX1_add_0 rfl (lv_at hlv 0 rfl) ?_
  refine va_get (D := D) (ci := 1) (v := vI size) (C := RX1) (T := TX1) (N := 4) hx hb hts hi1 hown hG.1 hP 0 rfl rfl 1 (by decide) lf23 (fun _ h9 => h9) rfl dX1_add_1 ?_
  refine lv_aload_n hx hb dX1_add_4 rfl (lv_at hlv 0 rfl) ?_
  refine va_get (D := D) (ci := 1) (v := vR l0) (C := RX1) (T := TX1) (N := 4) hx hb hts hi1 hown hG.1 hP 0 rfl rfl 0 (by decide) lf11 (fun _ h9 => h9) rfl dX1_add_5 ?_
  refine va_alen (v := iI 600) hx hb hG.1 hP 1 0 rfl rfl (iI_nI _) dX1_add_8 ?_
  refine ir_ge (tgt := 36) hx hb dX1_add_9 (by decide) (by first | exact rgw hr_size (by decide) (by decide) | omega) (by show ((-2147483648) : Int) ≤ 600 ∧ (600 : Int) ≤ 2147483647; decide) (fun c_1 => ?_) (fun c_1 => ?_)
  · refine lv_aload_n hx hb dX1_add_36 rfl (lv_at hlv 0 rfl) ?_
    refine va_get (D := D) (ci := 1) (v := vI size) (C := RX1) (T := TX1) (N := 4) hx hb hts hi1 hown hG.1 hP 0 rfl rfl 1 (by decide) lf23 (fun _ h9 => h9) rfl dX1_add_37 ?_
    refine lv_iconst (v := iI 1) hx hb dX1_add_40 (by decide) ?_
    refine lv_isub hx hb dX1_add_41 ?_
    refine lt_e (e0 := size - 1) (Int32.ofInt_sub _ _).symm (fun z_2 hz_2 => ?_)
    refine W.widen (k := 0) (n := 0) (Nat.le_of_ble_eq_true rfl) (Nat.le_of_ble_eq_true rfl) ?_
    exact W.iret (v := iI z_2) hx hb hr (fun t ht hW => ⟨⟨iI z_2, ((fun k => ([] : List Nat).getD k 0), (fun k => ([z_2, size] : List Int).getD k 0), (fun k => ([st] : List (Nat → Int32)).getD k (fun _ => 0))), rfl, ⟨rfl, (by show ((-1) ≤ z_2 ∧ z_2 ≤ 599); omega), (by show (0 ≤ size ∧ size ≤ 600); first | exact hr_size | omega), (by show (size ≤ size); omega), hst⟩, by rw [ht]; exact hP.sub [0, 1] rfl, hD.sub [0, 1] (by decide) rfl⟩, hS.F ht⟩) hS.2.2 dX1_add_42
  · refine lv_aload_n hx hb dX1_add_12 rfl (lv_at hlv 0 rfl) ?_
    refine va_get (D := D) (ci := 1) (v := vR l0) (C := RX1) (T := TX1) (N := 4) hx hb hts hi1 hown hG.1 hP 0 rfl rfl 0 (by decide) lf11 (fun _ h9 => h9) rfl dX1_add_13 ?_
    refine lv_aload_n hx hb dX1_add_16 rfl (lv_at hlv 0 rfl) ?_
    refine va_get (D := D) (ci := 1) (v := vI size) (C := RX1) (T := TX1) (N := 4) hx hb hts hi1 hown hG.1 hP 0 rfl rfl 1 (by decide) lf23 (fun _ h9 => h9) rfl dX1_add_17 ?_
    refine lv_iload_n hx hb dX1_add_20 rfl (lv_at hlv 2 rfl) ?_
    refine lv_iconst (v := iI 4) hx hb dX1_add_21 (by decide) ?_
    refine lv_ishl hx hb dX1_add_22 ?_
    refine lt_e (e0 := n * 16) (sl_eq 4 (by decide) (by omega)) (fun z_3 hz_3 => ?_)
    refine lv_iload_n hx hb dX1_add_23 rfl (lv_at hlv 1 rfl) ?_
    refine lv_ior hx hb dX1_add_24 ?_
    refine lt_o2 18 (M := 262143) (by decide) (by omega) (by omega) (fun z_4 lz_4 hz_4 => ?_)
    refine va_iast hx hb hG.1 hP hD hS 1 0 rfl rfl (iI_in (by omega) (by decide)) dX1_add_25 (fun H locs hP hD hS => ?_)
    have ⟨f_5, hf_5, hP, hD⟩ : ∃ f_5 : Nat → Int32, inv_ 600 0 2147483647 f_5 ∧ va_P D vwCl [zO la 1 [vR l0, vI size, vR l2, vR l3], zI l0 (cy 0) 600 f_5] H ∧ va_D A [zO la 1 [vR l0, vI size, vR l2, vR l3], zI l0 (cy 0) 600 f_5] := ⟨_, inv_wr hst (by omega), hP, hD⟩
    refine lv_aload_n hx hb dX1_add_26 rfl (lv_at hlv 0 rfl) ?_
    refine lv_dup hx hb dX1_add_27 rfl ?_
    refine va_get (D := D) (ci := 1) (v := vI size) (C := RX1) (T := TX1) (N := 4) hx hb hts hi1 hown hG.1 hP 0 rfl rfl 1 (by decide) lf23 (fun _ h9 => h9) rfl dX1_add_28 ?_
    refine lv_iconst (v := iI 1) hx hb dX1_add_31 (by decide) ?_
    refine lv_iadd hx hb dX1_add_32 ?_
    refine lt_e (e0 := size + 1) (Int32.ofInt_add _ _).symm (fun z_6 hz_6 => ?_)
    refine va_put (D := D) (ci := 1) (v := vI z_6) (ty := .int) (C := RX1) (T := TX1) (N := 4) hx hb hts hi1 tyX1 tyX1_ok nmX1 hown hG.1 hP hD hS 0 rfl rfl 1 (by decide) lf23 (fun _ h9 => h9) rfl (by decide +kernel) rfl rfl (Nat.le_of_ble_eq_true rfl) dX1_add_33 (fun H locs hP hD hS => ?_)
    have hP : va_P D vwCl [zO la 1 [vR l0, vI z_6, vR l2, vR l3], zI l0 (cy 0) 600 f_5] H := hP
    have hD : va_D A [zO la 1 [vR l0, vI z_6, vR l2, vR l3], zI l0 (cy 0) 600 f_5] := hD
    refine lv_aload_n hx hb dX1_add_36 rfl (lv_at hlv 0 rfl) ?_
    refine va_get (D := D) (ci := 1) (v := vI z_6) (C := RX1) (T := TX1) (N := 4) hx hb hts hi1 hown hG.1 hP 0 rfl rfl 1 (by decide) lf23 (fun _ h9 => h9) rfl dX1_add_37 ?_
    refine lv_iconst (v := iI 1) hx hb dX1_add_40 (by decide) ?_
    refine lv_isub hx hb dX1_add_41 ?_
    refine lt_e (e0 := z_6 - 1) (Int32.ofInt_sub _ _).symm (fun z_7 hz_7 => ?_)
    refine W.widen (k := 0) (n := 0) (Nat.le_of_ble_eq_true rfl) (Nat.le_of_ble_eq_true rfl) ?_
    exact W.iret (v := iI z_7) hx hb hr (fun t ht hW => ⟨⟨iI z_7, ((fun k => ([] : List Nat).getD k 0), (fun k => ([z_7, z_6] : List Int).getD k 0), (fun k => ([f_5] : List (Nat → Int32)).getD k (fun _ => 0))), rfl, ⟨rfl, (by show ((-1) ≤ z_7 ∧ z_7 ≤ 599); omega), (by show (0 ≤ z_6 ∧ z_6 ≤ 600); omega), (by show (size ≤ z_6); omega), hf_5⟩, by rw [ht]; exact hP.sub [0, 1] rfl, hD.sub [0, 1] (by decide) rfl⟩, hS.F ht⟩) hS.2.2 dX1_add_42
def vs_s_aim : List Cond := .code yX1_aim cX1_aim 2 none :: (([.fieldLink RX1 23 "KerbSplash$Law" "size" "I", .fieldLink RX1 11 "KerbSplash$Law" "steps" "[I"] : List Cond) ++ ((wsX10) ++ ([])))
theorem gd_s_aim : vs_s_aim.all goodWord = true := gd_C (by decide +kernel) (gd_A (by decide +kernel) (gd_A (by decide +kernel) rfl))
set_option maxHeartbeats 4000000 in
set_option maxRecDepth 100000 in
theorem s_aim (l : Launch) (hl : l.stackTraces = false) (D : va_G) (cy : Nat → ClassId) (sa : Nat → Nat) (la l0 l2 l3 : Nat) (size : Int) (st : Nat → Int32) (n : Int) (sz : Nat) (hr_size : 0 ≤ size ∧ size ≤ 600) (hr_n : (-2147483648) ≤ n ∧ n ≤ 2147483647) (hst : inv_ 600 0 2147483647 st) : Met l yX1_aim vs_s_aim ({ frames := 0, cells := 0, slots := 0, locals := 0 }) (va_Pc [vR la, vI n] (pcW D cy sa sz [zO la 1 [vR l0, vI size, vR l2, vR l3], zI l0 (cy 0) 600 st])) (va_Qv (fun u : SV => inv_ 600 0 2147483647 (u.2.2 0)) (fun u t => atW D (va_A [zO la 1 [vR l0, vI size, vR l2, vR l3], zI l0 (cy 0) 600 st] sz) [zO la 1 [vR l0, vI size, vR l2, vR l3], zI l0 (cy 0) 600 (u.2.2 0)] t) (va_A [zO la 1 [vR l0, vI size, vR l2, vR l3], zI l0 (cy 0) 600 st] sz)) 0 0 (va_A [zO la 1 [vR l0, vI size, vR l2, vR l3], zI l0 (cy 0) 600 st] sz) := by
  refine Met.ofW (cc := cX1_aim) (maxL := 2) (ret := none) (by decide) rfl ?_
  intro p e s m args below meth c s₁ B hml hv
  obtain ⟨rfl, hsz, hP, hG, hD0, hT⟩ := hv
  have hx := B.exec
  have hb := B.bytes
  have hr := B.returns
  have hts := atoms_spec (ws := vs_s_aim) B.pre
  have hown : s.vm.findClass RX1 = some m.cls := findClass_of_methodNamed B.named
  have hlocks := B.notSynchronized
  subst hsz
  have hD := hD0.self (sz := s.heap.size)
  generalize hAe : va_A [zO la 1 [vR l0, vI size, vR l2, vR l3], zI l0 (cy 0) 600 st] s.heap.size = A at hD hT ⊢
  have hA : ∀ q : Nat, s.heap.size ≤ q → A q := fun q h => by rw [← hAe]; exact Or.inr h
  have hS : va_S A s.heap s.heap [] := va_S.rf
  have hl0 := lv_entry ([vR la, vI n]) (n := 2) (Nat.le_of_ble_eq_true rfl)
  rw [lg_entry_eq]
  generalize (lg_sl ([vR la, vI n]) ++ List.replicate (2 - (lg_sl ([vR la, vI n])).length) Slot.unset).toArray = ls at hl0 ⊢
  have hlv : lv_has ls 2 [(0, vR la), (1, vI n)] := hl0
  have lf23 := hts (.fieldLink RX1 23 "KerbSplash$Law" "size" "I") (List.mem_of_getElem? (i := 1) rfl)
  have hi1 : ∀ w ∈ wsX10, w ∈ vs_s_aim := fun w h => List.mem_cons_of_mem _ (List.mem_append_right _ (List.mem_append_left _ h))
  have lf11 := hts (.fieldLink RX1 11 "KerbSplash$Law" "steps" "[I") (List.mem_of_getElem? (i := 2) rfl)
  refine lv_iload_n hx hb dX1_aim_0 rfl (lv_at hlv 1 rfl) ?_
  refine iz_lt (tgt := 34) hx hb dX1_aim_1 (by decide) (by first | exact hr_n | omega) (fun c_1 => ?_) (fun c_1 => ?_)
  · refine W.widen (k := 0) (n := 0) (Nat.le_of_ble_eq_true rfl) (Nat.le_of_ble_eq_true rfl) ?_
    exact W.vret hx hb hr (fun t ht hW => ⟨⟨((fun k => ([] : List Nat).getD k 0), (fun k => ([] : List Int).getD k 0), (fun k => ([st] : List (Nat → Int32)).getD k (fun _ => 0))), rfl, hst, by rw [ht]; exact hP.sub [0, 1] rfl, hD.sub [0, 1] (by decide) rfl⟩, hS.F ht⟩) hS.2.2 dX1_aim_34
  · refine lv_iload_n hx hb dX1_aim_4 rfl (lv_at hlv 1 rfl) ?_
    refine lv_aload_n hx hb dX1_aim_5 rfl (lv_at hlv 0 rfl) ?_
    refine va_get (D := D) (ci := 1) (v := vI size) (C := RX1) (T := TX1) (N := 4) hx hb hts hi1 hown hG.1 hP 0 rfl rfl 1 (by decide) lf23 (fun _ h9 => h9) rfl dX1_aim_6 ?_
    refine ir_ge (tgt := 34) hx hb dX1_aim_9 (by decide) (by first | exact hr_n | omega) (by first | exact rgw hr_size (by decide) (by decide) | omega) (fun c_2 => ?_) (fun c_2 => ?_)
    · refine W.widen (k := 0) (n := 0) (Nat.le_of_ble_eq_true rfl) (Nat.le_of_ble_eq_true rfl) ?_
      exact W.vret hx hb hr (fun t ht hW => ⟨⟨((fun k => ([] : List Nat).getD k 0), (fun k => ([] : List Int).getD k 0), (fun k => ([st] : List (Nat → Int32)).getD k (fun _ => 0))), rfl, hst, by rw [ht]; exact hP.sub [0, 1] rfl, hD.sub [0, 1] (by decide) rfl⟩, hS.F ht⟩) hS.2.2 dX1_aim_34
    · refine lv_aload_n hx hb dX1_aim_12 rfl (lv_at hlv 0 rfl) ?_
      refine va_get (D := D) (ci := 1) (v := vR l0) (C := RX1) (T := TX1) (N := 4) hx hb hts hi1 hown hG.1 hP 0 rfl rfl 0 (by decide) lf11 (fun _ h9 => h9) rfl dX1_aim_13 ?_
      refine lv_iload_n hx hb dX1_aim_16 rfl (lv_at hlv 1 rfl) ?_
      refine lv_aload_n hx hb dX1_aim_17 rfl (lv_at hlv 0 rfl) ?_
      refine va_get (D := D) (ci := 1) (v := vI size) (C := RX1) (T := TX1) (N := 4) hx hb hts hi1 hown hG.1 hP 0 rfl rfl 1 (by decide) lf23 (fun _ h9 => h9) rfl dX1_aim_18 ?_
      refine lv_iconst (v := iI 4) hx hb dX1_aim_21 (by decide) ?_
      refine lv_ishl hx hb dX1_aim_22 ?_
      refine lt_e (e0 := size * 16) (sl_eq 4 (by decide) (by omega)) (fun z_3 hz_3 => ?_)
      refine lv_aload_n hx hb dX1_aim_23 rfl (lv_at hlv 0 rfl) ?_
      refine va_get (D := D) (ci := 1) (v := vR l0) (C := RX1) (T := TX1) (N := 4) hx hb hts hi1 hown hG.1 hP 0 rfl rfl 0 (by decide) lf11 (fun _ h9 => h9) rfl dX1_aim_24 ?_
      refine lv_iload_n hx hb dX1_aim_27 rfl (lv_at hlv 1 rfl) ?_
      refine va_iald hx hb hG.1 hP 1 0 rfl rfl (iI_in (by omega) (by decide)) dX1_aim_28 ?_
      obtain ⟨z_4, ez_4, hz_4, lz_4⟩ := inv_rd hst (e := n) (by omega) (by decide)
      refine lt_i (y := iI z_4) ez_4 ?_
      refine lv_bipush (v := iI 15) hx hb dX1_aim_29 (by decide) ?_
      refine lv_iand hx hb dX1_aim_31 ?_
      refine lt_aE 4 (by decide) (by decide) (hi := 15) (by decide) (fun z_5 ez_5 lz_5 hz_5 => ?_)
      refine lv_ior hx hb dX1_aim_32 ?_
      refine lt_o2 14 (M := 16383) (by decide) (by omega) (by omega) (fun z_6 lz_6 hz_6 => ?_)
      refine va_iast hx hb hG.1 hP hD hS 1 0 rfl rfl (iI_in (by omega) (by decide)) dX1_aim_33 (fun H locs hP hD hS => ?_)
      have ⟨f_7, hf_7, hP, hD⟩ : ∃ f_7 : Nat → Int32, inv_ 600 0 2147483647 f_7 ∧ va_P D vwCl [zO la 1 [vR l0, vI size, vR l2, vR l3], zI l0 (cy 0) 600 f_7] H ∧ va_D A [zO la 1 [vR l0, vI size, vR l2, vR l3], zI l0 (cy 0) 600 f_7] := ⟨_, inv_wr hst (by omega), hP, hD⟩
      refine W.widen (k := 0) (n := 0) (Nat.le_of_ble_eq_true rfl) (Nat.le_of_ble_eq_true rfl) ?_
      exact W.vret hx hb hr (fun t ht hW => ⟨⟨((fun k => ([] : List Nat).getD k 0), (fun k => ([] : List Int).getD k 0), (fun k => ([f_7] : List (Nat → Int32)).getD k (fun _ => 0))), rfl, hf_7, by rw [ht]; exact hP.sub [0, 1] rfl, hD.sub [0, 1] (by decide) rfl⟩, hS.F ht⟩) hS.2.2 dX1_aim_34
def vs_s_joined : List Cond := .code yX1_joined cX1_joined 3 (some .int) :: (([] : List Cond) ++ ([]))
theorem gd_s_joined : vs_s_joined.all goodWord = true := gd_C (by decide +kernel) (gd_A (by decide +kernel) rfl)
set_option maxHeartbeats 4000000 in
set_option maxRecDepth 100000 in
theorem s_joined (l : Launch) (hl : l.stackTraces = false) (D : va_G) (cy : Nat → ClassId) (sa : Nat → Nat) (k a b : Int) (sz : Nat) (hr_k : 0 ≤ k ∧ k ≤ 15) (hr_a : (-2147483648) ≤ a ∧ a ≤ 2147483647) (hr_b : (-2147483648) ≤ b ∧ b ≤ 2147483647) : Met l yX1_joined vs_s_joined ({ frames := 0, cells := 0, slots := 0, locals := 0 }) (va_Pc [vI k, vI a, vI b] (pcW D cy sa sz [])) (va_Qi (fun (r : Int32) (u : SV) => r = iI (u.2.1 0) ∧ ((-2147483648) ≤ u.2.1 0 ∧ u.2.1 0 ≤ 2147483647)) (fun u t => atW D (va_A [] sz) [] t) (va_A [] sz)) 0 0 (va_A [] sz) := by
  refine Met.ofW (cc := cX1_joined) (maxL := 3) (ret := (some .int)) (by decide) rfl ?_
  intro p e s m args below meth c s₁ B hml hv
  obtain ⟨rfl, hsz, hP, hG, hD0, hT⟩ := hv
  have hx := B.exec
  have hb := B.bytes
  have hr := B.returns
  have hts := atoms_spec (ws := vs_s_joined) B.pre
  have hown : s.vm.findClass RX1 = some m.cls := findClass_of_methodNamed B.named
  have hlocks := B.notSynchronized
  subst hsz
  have hD := hD0.self (sz := s.heap.size)
  generalize hAe : va_A [] s.heap.size = A at hD hT ⊢
  have hA : ∀ q : Nat, s.heap.size ≤ q → A q := fun q h => by rw [← hAe]; exact Or.inr h
  have hS : va_S A s.heap s.heap [] := va_S.rf
  have hl0 := lv_entry ([vI k, vI a, vI b]) (n := 3) (Nat.le_of_ble_eq_true rfl)
  rw [lg_entry_eq]
  generalize (lg_sl ([vI k, vI a, vI b]) ++ List.replicate (3 - (lg_sl ([vI k, vI a, vI b])).length) Slot.unset).toArray = ls at hl0 ⊢
  have hlv : lv_has ls 3 [(0, vI k), (1, vI a), (2, vI b)] := hl0
  refine lv_iload_n hx hb dX1_joined_0 rfl (lv_at hlv 0 rfl) ?_
  by_cases k_1 : k = 2
  · refine lt_i (y := iI 2) (by rw [k_1]) ?_
    refine lv_tableIn (tgt := 48) hx hb dX1_joined_1 (by decide) (by decide) rfl (by decide) ?_
    refine lv_iload_n hx hb dX1_joined_48 rfl (lv_at hlv 1 rfl) ?_
    refine lv_iload_n hx hb dX1_joined_49 rfl (lv_at hlv 2 rfl) ?_
    refine lv_iadd hx hb dX1_joined_50 ?_
    refine lt_z (fun z_2 ez_2 lz_2 hz_2 => ?_)
    refine W.widen (k := 0) (n := 0) (Nat.le_of_ble_eq_true rfl) (Nat.le_of_ble_eq_true rfl) ?_
    exact W.iret (v := iI z_2) hx hb hr (fun t ht hW => ⟨⟨iI z_2, ((fun k => ([] : List Nat).getD k 0), (fun k => ([z_2] : List Int).getD k 0), (fun k => ([] : List (Nat → Int32)).getD k (fun _ => 0))), rfl, ⟨rfl, (by show ((-2147483648) ≤ z_2 ∧ z_2 ≤ 2147483647); omega)⟩, by rw [ht]; exact hP.sub [] rfl, hD.sub [] (by decide) rfl⟩, hS.F ht⟩) hS.2.2 dX1_joined_51
  by_cases k_3 : k = 3
  · refine lt_i (y := iI 3) (by rw [k_3]) ?_
    refine lv_tableIn (tgt := 52) hx hb dX1_joined_1 (by decide) (by decide) rfl (by decide) ?_
    refine lv_iload_n hx hb dX1_joined_52 rfl (lv_at hlv 1 rfl) ?_
    refine lv_iload_n hx hb dX1_joined_53 rfl (lv_at hlv 2 rfl) ?_
    refine lv_isub hx hb dX1_joined_54 ?_
    refine lt_z (fun z_4 ez_4 lz_4 hz_4 => ?_)
    refine W.widen (k := 0) (n := 0) (Nat.le_of_ble_eq_true rfl) (Nat.le_of_ble_eq_true rfl) ?_
    exact W.iret (v := iI z_4) hx hb hr (fun t ht hW => ⟨⟨iI z_4, ((fun k => ([] : List Nat).getD k 0), (fun k => ([z_4] : List Int).getD k 0), (fun k => ([] : List (Nat → Int32)).getD k (fun _ => 0))), rfl, ⟨rfl, (by show ((-2147483648) ≤ z_4 ∧ z_4 ≤ 2147483647); omega)⟩, by rw [ht]; exact hP.sub [] rfl, hD.sub [] (by decide) rfl⟩, hS.F ht⟩) hS.2.2 dX1_joined_55
  by_cases k_5 : k = 4
  · refine lt_i (y := iI 4) (by rw [k_5]) ?_
    refine lv_tableIn (tgt := 56) hx hb dX1_joined_1 (by decide) (by decide) rfl (by decide) ?_
    refine lv_iload_n hx hb dX1_joined_56 rfl (lv_at hlv 1 rfl) ?_
    refine lv_iload_n hx hb dX1_joined_57 rfl (lv_at hlv 2 rfl) ?_
    refine lv_imul hx hb dX1_joined_58 ?_
    refine lt_z (fun z_6 ez_6 lz_6 hz_6 => ?_)
    refine W.widen (k := 0) (n := 0) (Nat.le_of_ble_eq_true rfl) (Nat.le_of_ble_eq_true rfl) ?_
    exact W.iret (v := iI z_6) hx hb hr (fun t ht hW => ⟨⟨iI z_6, ((fun k => ([] : List Nat).getD k 0), (fun k => ([z_6] : List Int).getD k 0), (fun k => ([] : List (Nat → Int32)).getD k (fun _ => 0))), rfl, ⟨rfl, (by show ((-2147483648) ≤ z_6 ∧ z_6 ≤ 2147483647); omega)⟩, by rw [ht]; exact hP.sub [] rfl, hD.sub [] (by decide) rfl⟩, hS.F ht⟩) hS.2.2 dX1_joined_59
  by_cases k_7 : k = 5
  · refine lt_i (y := iI 5) (by rw [k_7]) ?_
    refine lv_tableIn (tgt := 60) hx hb dX1_joined_1 (by decide) (by decide) rfl (by decide) ?_
    refine lv_iload_n hx hb dX1_joined_60 rfl (lv_at hlv 2 rfl) ?_
    refine iz_ne (tgt := 68) hx hb dX1_joined_61 (by decide) (by first | exact hr_b | omega) (fun c_8 => ?_) (fun c_8 => ?_)
    · refine lv_iload_n hx hb dX1_joined_68 rfl (lv_at hlv 1 rfl) ?_
      refine lv_iload_n hx hb dX1_joined_69 rfl (lv_at hlv 2 rfl) ?_
      refine lv_idiv hx hb dX1_joined_70 (fun q => absurd ((iI_eq (a := b) (b := 0) (by omega) (by omega)).mp q) (by omega)) ?_
      refine lt_z (fun z_9 ez_9 lz_9 hz_9 => ?_)
      refine W.widen (k := 0) (n := 0) (Nat.le_of_ble_eq_true rfl) (Nat.le_of_ble_eq_true rfl) ?_
      exact W.iret (v := iI z_9) hx hb hr (fun t ht hW => ⟨⟨iI z_9, ((fun k => ([] : List Nat).getD k 0), (fun k => ([z_9] : List Int).getD k 0), (fun k => ([] : List (Nat → Int32)).getD k (fun _ => 0))), rfl, ⟨rfl, (by show ((-2147483648) ≤ z_9 ∧ z_9 ≤ 2147483647); omega)⟩, by rw [ht]; exact hP.sub [] rfl, hD.sub [] (by decide) rfl⟩, hS.F ht⟩) hS.2.2 dX1_joined_71
    · refine lv_iconst (v := iI 0) hx hb dX1_joined_64 (by decide) ?_
      refine lv_goto (tgt := 71) hx hb dX1_joined_65 (by decide) ?_
      refine W.widen (k := 0) (n := 0) (Nat.le_of_ble_eq_true rfl) (Nat.le_of_ble_eq_true rfl) ?_
      exact W.iret (v := iI 0) hx hb hr (fun t ht hW => ⟨⟨iI 0, ((fun k => ([] : List Nat).getD k 0), (fun k => ([0] : List Int).getD k 0), (fun k => ([] : List (Nat → Int32)).getD k (fun _ => 0))), rfl, ⟨rfl, (by show ((-2147483648) ≤ 0 ∧ 0 ≤ 2147483647); show ((-2147483648) : Int) ≤ 0 ∧ (0 : Int) ≤ 2147483647; decide)⟩, by rw [ht]; exact hP.sub [] rfl, hD.sub [] (by decide) rfl⟩, hS.F ht⟩) hS.2.2 dX1_joined_71
  by_cases k_10 : k = 6
  · refine lt_i (y := iI 6) (by rw [k_10]) ?_
    refine lv_tableIn (tgt := 72) hx hb dX1_joined_1 (by decide) (by decide) rfl (by decide) ?_
    refine lv_iload_n hx hb dX1_joined_72 rfl (lv_at hlv 1 rfl) ?_
    refine lv_iload_n hx hb dX1_joined_73 rfl (lv_at hlv 2 rfl) ?_
    refine ir_ge (tgt := 81) hx hb dX1_joined_74 (by decide) (by first | exact hr_a | omega) (by first | exact hr_b | omega) (fun c_11 => ?_) (fun c_11 => ?_)
    · refine lv_iconst (v := iI 0) hx hb dX1_joined_81 (by decide) ?_
      refine W.widen (k := 0) (n := 0) (Nat.le_of_ble_eq_true rfl) (Nat.le_of_ble_eq_true rfl) ?_
      exact W.iret (v := iI 0) hx hb hr (fun t ht hW => ⟨⟨iI 0, ((fun k => ([] : List Nat).getD k 0), (fun k => ([0] : List Int).getD k 0), (fun k => ([] : List (Nat → Int32)).getD k (fun _ => 0))), rfl, ⟨rfl, (by show ((-2147483648) ≤ 0 ∧ 0 ≤ 2147483647); show ((-2147483648) : Int) ≤ 0 ∧ (0 : Int) ≤ 2147483647; decide)⟩, by rw [ht]; exact hP.sub [] rfl, hD.sub [] (by decide) rfl⟩, hS.F ht⟩) hS.2.2 dX1_joined_82
    · refine lv_iconst (v := iI 1) hx hb dX1_joined_77 (by decide) ?_
      refine lv_goto (tgt := 82) hx hb dX1_joined_78 (by decide) ?_
      refine W.widen (k := 0) (n := 0) (Nat.le_of_ble_eq_true rfl) (Nat.le_of_ble_eq_true rfl) ?_
      exact W.iret (v := iI 1) hx hb hr (fun t ht hW => ⟨⟨iI 1, ((fun k => ([] : List Nat).getD k 0), (fun k => ([1] : List Int).getD k 0), (fun k => ([] : List (Nat → Int32)).getD k (fun _ => 0))), rfl, ⟨rfl, (by show ((-2147483648) ≤ 1 ∧ 1 ≤ 2147483647); show ((-2147483648) : Int) ≤ 1 ∧ (1 : Int) ≤ 2147483647; decide)⟩, by rw [ht]; exact hP.sub [] rfl, hD.sub [] (by decide) rfl⟩, hS.F ht⟩) hS.2.2 dX1_joined_82
  by_cases k_12 : k = 7
  · refine lt_i (y := iI 7) (by rw [k_12]) ?_
    refine lv_tableIn (tgt := 83) hx hb dX1_joined_1 (by decide) (by decide) rfl (by decide) ?_
    refine lv_iload_n hx hb dX1_joined_83 rfl (lv_at hlv 1 rfl) ?_
    refine lv_iload_n hx hb dX1_joined_84 rfl (lv_at hlv 2 rfl) ?_
    refine ir_le (tgt := 92) hx hb dX1_joined_85 (by decide) (by first | exact hr_a | omega) (by first | exact hr_b | omega) (fun c_13 => ?_) (fun c_13 => ?_)
    · refine lv_iconst (v := iI 0) hx hb dX1_joined_92 (by decide) ?_
      refine W.widen (k := 0) (n := 0) (Nat.le_of_ble_eq_true rfl) (Nat.le_of_ble_eq_true rfl) ?_
      exact W.iret (v := iI 0) hx hb hr (fun t ht hW => ⟨⟨iI 0, ((fun k => ([] : List Nat).getD k 0), (fun k => ([0] : List Int).getD k 0), (fun k => ([] : List (Nat → Int32)).getD k (fun _ => 0))), rfl, ⟨rfl, (by show ((-2147483648) ≤ 0 ∧ 0 ≤ 2147483647); show ((-2147483648) : Int) ≤ 0 ∧ (0 : Int) ≤ 2147483647; decide)⟩, by rw [ht]; exact hP.sub [] rfl, hD.sub [] (by decide) rfl⟩, hS.F ht⟩) hS.2.2 dX1_joined_93
    · refine lv_iconst (v := iI 1) hx hb dX1_joined_88 (by decide) ?_
      refine lv_goto (tgt := 93) hx hb dX1_joined_89 (by decide) ?_
      refine W.widen (k := 0) (n := 0) (Nat.le_of_ble_eq_true rfl) (Nat.le_of_ble_eq_true rfl) ?_
      exact W.iret (v := iI 1) hx hb hr (fun t ht hW => ⟨⟨iI 1, ((fun k => ([] : List Nat).getD k 0), (fun k => ([1] : List Int).getD k 0), (fun k => ([] : List (Nat → Int32)).getD k (fun _ => 0))), rfl, ⟨rfl, (by show ((-2147483648) ≤ 1 ∧ 1 ≤ 2147483647); show ((-2147483648) : Int) ≤ 1 ∧ (1 : Int) ≤ 2147483647; decide)⟩, by rw [ht]; exact hP.sub [] rfl, hD.sub [] (by decide) rfl⟩, hS.F ht⟩) hS.2.2 dX1_joined_93
  by_cases k_14 : k = 8
  · refine lt_i (y := iI 8) (by rw [k_14]) ?_
    refine lv_tableIn (tgt := 94) hx hb dX1_joined_1 (by decide) (by decide) rfl (by decide) ?_
    refine lv_iload_n hx hb dX1_joined_94 rfl (lv_at hlv 1 rfl) ?_
    refine lv_iload_n hx hb dX1_joined_95 rfl (lv_at hlv 2 rfl) ?_
    refine ir_ne (tgt := 103) hx hb dX1_joined_96 (by decide) (by first | exact hr_a | omega) (by first | exact hr_b | omega) (fun c_15 => ?_) (fun c_15 => ?_)
    · refine lv_iconst (v := iI 0) hx hb dX1_joined_103 (by decide) ?_
      refine W.widen (k := 0) (n := 0) (Nat.le_of_ble_eq_true rfl) (Nat.le_of_ble_eq_true rfl) ?_
      exact W.iret (v := iI 0) hx hb hr (fun t ht hW => ⟨⟨iI 0, ((fun k => ([] : List Nat).getD k 0), (fun k => ([0] : List Int).getD k 0), (fun k => ([] : List (Nat → Int32)).getD k (fun _ => 0))), rfl, ⟨rfl, (by show ((-2147483648) ≤ 0 ∧ 0 ≤ 2147483647); show ((-2147483648) : Int) ≤ 0 ∧ (0 : Int) ≤ 2147483647; decide)⟩, by rw [ht]; exact hP.sub [] rfl, hD.sub [] (by decide) rfl⟩, hS.F ht⟩) hS.2.2 dX1_joined_104
    · refine lv_iconst (v := iI 1) hx hb dX1_joined_99 (by decide) ?_
      refine lv_goto (tgt := 104) hx hb dX1_joined_100 (by decide) ?_
      refine W.widen (k := 0) (n := 0) (Nat.le_of_ble_eq_true rfl) (Nat.le_of_ble_eq_true rfl) ?_
      exact W.iret (v := iI 1) hx hb hr (fun t ht hW => ⟨⟨iI 1, ((fun k => ([] : List Nat).getD k 0), (fun k => ([1] : List Int).getD k 0), (fun k => ([] : List (Nat → Int32)).getD k (fun _ => 0))), rfl, ⟨rfl, (by show ((-2147483648) ≤ 1 ∧ 1 ≤ 2147483647); show ((-2147483648) : Int) ≤ 1 ∧ (1 : Int) ≤ 2147483647; decide)⟩, by rw [ht]; exact hP.sub [] rfl, hD.sub [] (by decide) rfl⟩, hS.F ht⟩) hS.2.2 dX1_joined_104
  by_cases k_16 : k = 9
  · refine lt_i (y := iI 9) (by rw [k_16]) ?_
    refine lv_tableIn (tgt := 105) hx hb dX1_joined_1 (by decide) (by decide) rfl (by decide) ?_
    refine lv_iload_n hx hb dX1_joined_105 rfl (lv_at hlv 1 rfl) ?_
    refine lv_iload_n hx hb dX1_joined_106 rfl (lv_at hlv 2 rfl) ?_
    refine lv_iand hx hb dX1_joined_107 ?_
    refine lt_z (fun z_17 ez_17 lz_17 hz_17 => ?_)
    refine W.widen (k := 0) (n := 0) (Nat.le_of_ble_eq_true rfl) (Nat.le_of_ble_eq_true rfl) ?_
    exact W.iret (v := iI z_17) hx hb hr (fun t ht hW => ⟨⟨iI z_17, ((fun k => ([] : List Nat).getD k 0), (fun k => ([z_17] : List Int).getD k 0), (fun k => ([] : List (Nat → Int32)).getD k (fun _ => 0))), rfl, ⟨rfl, (by show ((-2147483648) ≤ z_17 ∧ z_17 ≤ 2147483647); omega)⟩, by rw [ht]; exact hP.sub [] rfl, hD.sub [] (by decide) rfl⟩, hS.F ht⟩) hS.2.2 dX1_joined_108
  refine lv_tableOut (tgt := 109) hx hb dX1_joined_1 (by rw [iI_to (by omega) (by omega)]; omega) (by decide) ?_
  refine lv_iload_n hx hb dX1_joined_109 rfl (lv_at hlv 1 rfl) ?_
  refine lv_iload_n hx hb dX1_joined_110 rfl (lv_at hlv 2 rfl) ?_
  refine lv_ior hx hb dX1_joined_111 ?_
  refine lt_z (fun z_18 ez_18 lz_18 hz_18 => ?_)
  refine W.widen (k := 0) (n := 0) (Nat.le_of_ble_eq_true rfl) (Nat.le_of_ble_eq_true rfl) ?_
  exact W.iret (v := iI z_18) hx hb hr (fun t ht hW => ⟨⟨iI z_18, ((fun k => ([] : List Nat).getD k 0), (fun k => ([z_18] : List Int).getD k 0), (fun k => ([] : List (Nat → Int32)).getD k (fun _ => 0))), rfl, ⟨rfl, (by show ((-2147483648) ≤ z_18 ∧ z_18 ≤ 2147483647); omega)⟩, by rw [ht]; exact hP.sub [] rfl, hD.sub [] (by decide) rfl⟩, hS.F ht⟩) hS.2.2 dX1_joined_112
