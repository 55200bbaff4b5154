theorem dX6_longestIce_0 : decode cX6_longestIce 0 = .ok (.iconst 0, 1) := by decide +kernel
theorem dX6_longestIce_1 : decode cX6_longestIce 1 = .ok (.istore_n 2, 1) := by decide +kernel
theorem dX6_longestIce_12 : decode cX6_longestIce 12 = .ok (.iconst 0, 1) := by decide +kernel
theorem dX6_longestIce_13 : decode cX6_longestIce 13 = .ok (.istore 4, 2) := by decide +kernel
theorem dX6_longestIce_15 : decode cX6_longestIce 15 = .ok (.iconst 0, 1) := by decide +kernel
theorem dX6_longestIce_16 : decode cX6_longestIce 16 = .ok (.istore 5, 2) := by decide +kernel
theorem dX6_longestIce_18 : decode cX6_longestIce 18 = .ok (.iload 5, 2) := by decide +kernel
theorem dX6_longestIce_2 : decode cX6_longestIce 2 = .ok (.iconst 0, 1) := by decide +kernel
theorem dX6_longestIce_20 : decode cX6_longestIce 20 = .ok (.aload_n 0, 1) := by decide +kernel
theorem dX6_longestIce_21 : decode cX6_longestIce 21 = .ok (.getfield 28, 3) := by decide +kernel
theorem dX6_longestIce_24 : decode cX6_longestIce 24 = .ok (.if_icmp .ge 42, 3) := by decide +kernel
theorem dX6_longestIce_27 : decode cX6_longestIce 27 = .ok (.aload_n 0, 1) := by decide +kernel
theorem dX6_longestIce_28 : decode cX6_longestIce 28 = .ok (.getfield 13, 3) := by decide +kernel
theorem dX6_longestIce_3 : decode cX6_longestIce 3 = .ok (.istore_n 3, 1) := by decide +kernel
theorem dX6_longestIce_31 : decode cX6_longestIce 31 = .ok (.aload_n 0, 1) := by decide +kernel
theorem dX6_longestIce_32 : decode cX6_longestIce 32 = .ok (.iload 5, 2) := by decide +kernel
theorem dX6_longestIce_34 : decode cX6_longestIce 34 = .ok (.iload_n 3, 1) := by decide +kernel
theorem dX6_longestIce_35 : decode cX6_longestIce 35 = .ok (.invokevirtual 88, 3) := by decide +kernel
theorem dX6_longestIce_38 : decode cX6_longestIce 38 = .ok (.iaload, 1) := by decide +kernel
theorem dX6_longestIce_39 : decode cX6_longestIce 39 = .ok (.iload_n 1, 1) := by decide +kernel
theorem dX6_longestIce_4 : decode cX6_longestIce 4 = .ok (.iload_n 3, 1) := by decide +kernel
theorem dX6_longestIce_40 : decode cX6_longestIce 40 = .ok (.if_icmp .lt 10, 3) := by decide +kernel
theorem dX6_longestIce_43 : decode cX6_longestIce 43 = .ok (.iload 4, 2) := by decide +kernel
theorem dX6_longestIce_45 : decode cX6_longestIce 45 = .ok (.iconst 1, 1) := by decide +kernel
theorem dX6_longestIce_46 : decode cX6_longestIce 46 = .ok (.iadd, 1) := by decide +kernel
theorem dX6_longestIce_47 : decode cX6_longestIce 47 = .ok (.goto 4, 3) := by decide +kernel
theorem dX6_longestIce_5 : decode cX6_longestIce 5 = .ok (.aload_n 0, 1) := by decide +kernel
theorem dX6_longestIce_50 : decode cX6_longestIce 50 = .ok (.iconst 0, 1) := by decide +kernel
theorem dX6_longestIce_51 : decode cX6_longestIce 51 = .ok (.istore 4, 2) := by decide +kernel
theorem dX6_longestIce_53 : decode cX6_longestIce 53 = .ok (.iload_n 2, 1) := by decide +kernel
theorem dX6_longestIce_54 : decode cX6_longestIce 54 = .ok (.iload 4, 2) := by decide +kernel
theorem dX6_longestIce_56 : decode cX6_longestIce 56 = .ok (.invokestatic 142, 3) := by decide +kernel
theorem dX6_longestIce_59 : decode cX6_longestIce 59 = .ok (.istore_n 2, 1) := by decide +kernel
theorem dX6_longestIce_6 : decode cX6_longestIce 6 = .ok (.getfield 32, 3) := by decide +kernel
theorem dX6_longestIce_60 : decode cX6_longestIce 60 = .ok (.iinc 5 1, 3) := by decide +kernel
theorem dX6_longestIce_63 : decode cX6_longestIce 63 = .ok (.goto (-45), 3) := by decide +kernel
theorem dX6_longestIce_66 : decode cX6_longestIce 66 = .ok (.iinc 3 1, 3) := by decide +kernel
theorem dX6_longestIce_69 : decode cX6_longestIce 69 = .ok (.goto (-65), 3) := by decide +kernel
theorem dX6_longestIce_72 : decode cX6_longestIce 72 = .ok (.iload_n 2, 1) := by decide +kernel
theorem dX6_longestIce_73 : decode cX6_longestIce 73 = .ok (.ireturn, 1) := by decide +kernel
theorem dX6_longestIce_9 : decode cX6_longestIce 9 = .ok (.if_icmp .ge 63, 3) := by decide +kernel
theorem dX6_passMinutes_0 : decode cX6_passMinutes 0 = .ok (.iload_n 1, 1) := by decide +kernel
theorem dX6_passMinutes_1 : decode cX6_passMinutes 1 = .ok (.sipush 600, 3) := by decide +kernel
theorem dX6_passMinutes_12 : decode cX6_passMinutes 12 = .ok (.istore_n 3, 1) := by decide +kernel
theorem dX6_passMinutes_13 : decode cX6_passMinutes 13 = .ok (.iconst 0, 1) := by decide +kernel
theorem dX6_passMinutes_14 : decode cX6_passMinutes 14 = .ok (.istore 4, 2) := by decide +kernel
theorem dX6_passMinutes_16 : decode cX6_passMinutes 16 = .ok (.iload 4, 2) := by decide +kernel
theorem dX6_passMinutes_18 : decode cX6_passMinutes 18 = .ok (.iload_n 3, 1) := by decide +kernel
theorem dX6_passMinutes_19 : decode cX6_passMinutes 19 = .ok (.if_icmp .ge 14, 3) := by decide +kernel
theorem dX6_passMinutes_22 : decode cX6_passMinutes 22 = .ok (.aload_n 0, 1) := by decide +kernel
theorem dX6_passMinutes_23 : decode cX6_passMinutes 23 = .ok (.iload_n 2, 1) := by decide +kernel
theorem dX6_passMinutes_24 : decode cX6_passMinutes 24 = .ok (.invokevirtual 115, 3) := by decide +kernel
theorem dX6_passMinutes_27 : decode cX6_passMinutes 27 = .ok (.iinc 4 1, 3) := by decide +kernel
theorem dX6_passMinutes_30 : decode cX6_passMinutes 30 = .ok (.goto (-14), 3) := by decide +kernel
theorem dX6_passMinutes_33 : decode cX6_passMinutes 33 = .ok (.iload_n 3, 1) := by decide +kernel
theorem dX6_passMinutes_34 : decode cX6_passMinutes 34 = .ok (.ireturn, 1) := by decide +kernel
theorem dX6_passMinutes_4 : decode cX6_passMinutes 4 = .ok (.aload_n 0, 1) := by decide +kernel
theorem dX6_passMinutes_5 : decode cX6_passMinutes 5 = .ok (.getfield 62, 3) := by decide +kernel
theorem dX6_passMinutes_8 : decode cX6_passMinutes 8 = .ok (.isub, 1) := by decide +kernel
theorem dX6_passMinutes_9 : decode cX6_passMinutes 9 = .ok (.invokestatic 110, 3) := by decide +kernel
theorem dX6_personsOnIce_0 : decode cX6_personsOnIce 0 = .ok (.iconst 0, 1) := by decide +kernel
theorem dX6_personsOnIce_1 : decode cX6_personsOnIce 1 = .ok (.istore_n 2, 1) := by decide +kernel
theorem dX6_personsOnIce_12 : decode cX6_personsOnIce 12 = .ok (.aload_n 0, 1) := by decide +kernel
theorem dX6_personsOnIce_13 : decode cX6_personsOnIce 13 = .ok (.getfield 13, 3) := by decide +kernel
theorem dX6_personsOnIce_16 : decode cX6_personsOnIce 16 = .ok (.aload_n 0, 1) := by decide +kernel
theorem dX6_personsOnIce_17 : decode cX6_personsOnIce 17 = .ok (.aload_n 0, 1) := by decide +kernel
theorem dX6_personsOnIce_18 : decode cX6_personsOnIce 18 = .ok (.getfield 19, 3) := by decide +kernel
theorem dX6_personsOnIce_2 : decode cX6_personsOnIce 2 = .ok (.iconst 0, 1) := by decide +kernel
theorem dX6_personsOnIce_21 : decode cX6_personsOnIce 21 = .ok (.iconst 4, 1) := by decide +kernel
theorem dX6_personsOnIce_22 : decode cX6_personsOnIce 22 = .ok (.iload_n 3, 1) := by decide +kernel
theorem dX6_personsOnIce_23 : decode cX6_personsOnIce 23 = .ok (.imul, 1) := by decide +kernel
theorem dX6_personsOnIce_24 : decode cX6_personsOnIce 24 = .ok (.iaload, 1) := by decide +kernel
theorem dX6_personsOnIce_25 : decode cX6_personsOnIce 25 = .ok (.iconst 0, 1) := by decide +kernel
theorem dX6_personsOnIce_26 : decode cX6_personsOnIce 26 = .ok (.invokevirtual 88, 3) := by decide +kernel
theorem dX6_personsOnIce_29 : decode cX6_personsOnIce 29 = .ok (.iaload, 1) := by decide +kernel
theorem dX6_personsOnIce_3 : decode cX6_personsOnIce 3 = .ok (.istore_n 3, 1) := by decide +kernel
theorem dX6_personsOnIce_30 : decode cX6_personsOnIce 30 = .ok (.iload_n 1, 1) := by decide +kernel
theorem dX6_personsOnIce_31 : decode cX6_personsOnIce 31 = .ok (.if_icmp .lt 6, 3) := by decide +kernel
theorem dX6_personsOnIce_34 : decode cX6_personsOnIce 34 = .ok (.iinc 2 1, 3) := by decide +kernel
theorem dX6_personsOnIce_37 : decode cX6_personsOnIce 37 = .ok (.iinc 3 1, 3) := by decide +kernel
theorem dX6_personsOnIce_4 : decode cX6_personsOnIce 4 = .ok (.iload_n 3, 1) := by decide +kernel
theorem dX6_personsOnIce_40 : decode cX6_personsOnIce 40 = .ok (.goto (-36), 3) := by decide +kernel
theorem dX6_personsOnIce_43 : decode cX6_personsOnIce 43 = .ok (.iload_n 2, 1) := by decide +kernel
theorem dX6_personsOnIce_44 : decode cX6_personsOnIce 44 = .ok (.ireturn, 1) := by decide +kernel
theorem dX6_personsOnIce_5 : decode cX6_personsOnIce 5 = .ok (.aload_n 0, 1) := by decide +kernel
theorem dX6_personsOnIce_6 : decode cX6_personsOnIce 6 = .ok (.getfield 47, 3) := by decide +kernel
theorem dX6_personsOnIce_9 : decode cX6_personsOnIce 9 = .ok (.if_icmp .ge 34, 3) := by decide +kernel
def vs_s_passMinutes : List Cond := .code yX6_passMinutes cX6_passMinutes 5 (some .int) :: (([.fieldLink RX6 62 "KerbSplash$Street" "minutes" "I", .methodLink RX6 110 Lib.Math.min.name, .static Lib.Math.min.name, .initialized "java/lang/Math", .code Lib.Math.min.name Lib.Math.min.code 2 (some .int)] : List Cond) ++ ((wsX60) ++ ((wsV RX6 115 RX6 yX6_passMinute vs_s_passMinute) ++ ([]))))
theorem gd_s_passMinutes : vs_s_passMinutes.all goodWord = true := gd_C (by decide +kernel) (gd_A (by decide +kernel) (gd_A (by decide +kernel) (gd_A (gd_V gd_s_passMinute (by decide +kernel)) rfl)))
set_option maxHeartbeats 4000000 in
set_option maxRecDepth 100000 in
theorem s_passMinutes (l : Launch) (hl : l.stackTraces = false) (D : va_G) (cy : Nat → ClassId) (sa : Nat → Nat) (sA s2 s3 s6 s8 s11 s13 : Nat) (wi ro dr dt pe gu sh wo dn mi fl tk go : Int) (hf wf df : Nat → Int32) (n f : Int) (sz : Nat) (hr_wi : 0 ≤ wi ∧ wi ≤ 16) (hr_ro : 0 ≤ ro ∧ ro ≤ 6) (hr_dr : 0 ≤ dr ∧ dr ≤ 14) (hr_dt : 0 ≤ dt ∧ dt ≤ 6) (hr_pe : 0 ≤ pe ∧ pe ≤ 8) (hr_gu : 0 ≤ gu ∧ gu ≤ 20) (hr_sh : 0 ≤ sh ∧ sh ≤ 2) (hr_wo : 0 ≤ wo ∧ wo ≤ 8) (hr_dn : (-2147483648) ≤ dn ∧ dn ≤ 2147483647) (hr_mi : 0 ≤ mi ∧ mi ≤ 600) (hr_fl : (-2147483648) ≤ fl ∧ fl ≤ 2147483647) (hr_tk : (-2147483648) ≤ tk ∧ tk ≤ 2147483647) (hr_go : (-2147483648) ≤ go ∧ go ≤ 2147483647) (hr_n : 0 ≤ n ∧ n ≤ 60) (hr_f : 0 ≤ f ∧ f ≤ 20) (hhf : inv_ 96 0 99 hf) (hdf : tab_ 4 14 [0, 0, 0, 0] [15, 5, 99, 16] df) : Met l yX6_passMinutes vs_s_passMinutes ({ frames := 4, cells := 0, slots := 0, locals := 98 }) (va_Pc [vR sA, vI n, vI f] (pcW D cy sa sz [zO sA 6 [vI wi, vI ro, vR s2, vR s3, vI dr, vI dt, vR s6, vI pe, vR s8, vI gu, vI sh, vR s11, vI wo, vR s13, vI dn, vI mi, vI fl, vI tk, vI go], zI s2 (cy 0) 96 hf, zI s3 (cy 0) 96 wf, zI s6 (cy 0) 56 df])) (va_Qi (fun (r : Int32) (u : SV) => r = iI (u.2.1 3) ∧ (0 ≤ u.2.1 0 ∧ u.2.1 0 ≤ 600) ∧ ((-2147483648) ≤ u.2.1 1 ∧ u.2.1 1 ≤ 2147483647) ∧ ((-2147483648) ≤ u.2.1 2 ∧ u.2.1 2 ≤ 2147483647) ∧ (0 ≤ u.2.1 3 ∧ u.2.1 3 ≤ 60) ∧ inv_ 96 0 99 hf ∧ tab_ 4 14 [0, 0, 0, 0] [15, 5, 99, 16] df) (fun u t => atW D (va_A [zO sA 6 [vI wi, vI ro, vR s2, vR s3, vI dr, vI dt, vR s6, vI pe, vR s8, vI gu, vI sh, vR s11, vI wo, vR s13, vI dn, vI mi, vI fl, vI tk, vI go], zI s2 (cy 0) 96 hf, zI s3 (cy 0) 96 wf, zI s6 (cy 0) 56 df] sz) [zO sA 6 [vI wi, vI ro, vR s2, vR s3, vI dr, vI dt, vR s6, vI pe, vR s8, vI gu, vI sh, vR s11, vI wo, vR s13, vI dn, vI (u.2.1 0), vI (u.2.1 1), vI (u.2.1 2), vI go], zI s2 (cy 0) 96 hf, zI s3 (cy 0) 96 (u.2.2 0), zI s6 (cy 0) 56 df] t) (va_A [zO sA 6 [vI wi, vI ro, vR s2, vR s3, vI dr, vI dt, vR s6, vI pe, vR s8, vI gu, vI sh, vR s11, vI wo, vR s13, vI dn, vI mi, vI fl, vI tk, vI go], zI s2 (cy 0) 96 hf, zI s3 (cy 0) 96 wf, zI s6 (cy 0) 56 df] sz)) 0 0 (va_A [zO sA 6 [vI wi, vI ro, vR s2, vR s3, vI dr, vI dt, vR s6, vI pe, vR s8, vI gu, vI sh, vR s11, vI wo, vR s13, vI dn, vI mi, vI fl, vI tk, vI go], zI s2 (cy 0) 96 hf, zI s3 (cy 0) 96 wf, zI s6 (cy 0) 56 df] sz) := by
  refine Met.ofW (cc := cX6_passMinutes) (maxL := 5) (ret := (some .int)) (by decide) rfl ?_
  intro p e s m args below meth c s₁ B hml hv
  obtain ⟨rfl, hsz, hP, hG, hD0, hT⟩ := hv
  have hx := B.exec
  have hb := B.bytes
  have hr := B.returns
  have hts := atoms_spec (ws := vs_s_passMinutes) B.pre
  have hown : s.vm.findClass RX6 = some m.cls := findClass_of_methodNamed B.named
  have hlocks := B.notSynchronized
  subst hsz
  have hD := hD0.self (sz := s.heap.size)
  generalize hAe : va_A [zO sA 6 [vI wi, vI ro, vR s2, vR s3, vI dr, vI dt, vR s6, vI pe, vR s8, vI gu, vI sh, vR s11, vI wo, vR s13, vI dn, vI mi, vI fl, vI tk, vI go], zI s2 (cy 0) 96 hf, zI s3 (cy 0) 96 wf, zI s6 (cy 0) 56 df] s.heap.size = A at hD hT ⊢
  have hA : ∀ q : Nat, s.heap.size ≤ q → A q := fun q h => by rw [← hAe]; exact Or.inr h
  have hS : va_S A s.heap s.heap [] := va_S.rf
  have hl0 := lv_entry ([vR sA, vI n, vI f]) (n := 5) (Nat.le_of_ble_eq_true rfl)
  rw [lg_entry_eq]
  generalize (lg_sl ([vR sA, vI n, vI f]) ++ List.replicate (5 - (lg_sl ([vR sA, vI n, vI f])).length) Slot.unset).toArray = ls at hl0 ⊢
  have hlv : lv_has ls 5 [(0, vR sA), (1, vI n), (2, vI f)] := hl0
  have lf62 := hts (.fieldLink RX6 62 "KerbSplash$Street" "minutes" "I") (List.mem_of_getElem? (i := 1) rfl)
  have hi6 : ∀ w ∈ wsX60, w ∈ vs_s_passMinutes := fun w h => List.mem_cons_of_mem _ (List.mem_append_right _ (List.mem_append_left _ h))
  have mk110 := hts (.methodLink RX6 110 Lib.Math.min.name) (List.mem_of_getElem? (i := 2) rfl)
  have ms_min := hts (.static Lib.Math.min.name) (List.mem_of_getElem? (i := 3) rfl)
  have mi_ := hts (.initialized "java/lang/Math") (List.mem_of_getElem? (i := 4) rfl)
  have mc_min := hts (.code Lib.Math.min.name Lib.Math.min.code 2 (some .int)) (List.mem_of_getElem? (i := 5) rfl)
  have gg_1 : GoodIn vs_s_passMinutes (wsV RX6 115 RX6 yX6_passMinute vs_s_passMinute) := goodIn_sub (fun w h => List.mem_cons_of_mem _ (List.mem_append_right _ (List.mem_append_right _ (List.mem_append_left _ h)))) (gd_V gd_s_passMinute (by decide +kernel))
  refine lv_iload_n hx hb dX6_passMinutes_0 rfl (lv_at hlv 1 rfl) ?_
  refine lv_sipush (v := iI 600) hx hb dX6_passMinutes_1 (by decide) ?_
  refine lv_aload_n hx hb dX6_passMinutes_4 rfl (lv_at hlv 0 rfl) ?_
  refine va_get (D := D) (ci := 6) (v := vI mi) (C := RX6) (T := TX6) (N := 19) hx hb hts hi6 hown hG.1 hP 0 rfl rfl 15 (by decide) lf62 (fun _ h9 => h9) rfl dX6_passMinutes_5 ?_
  refine lv_isub hx hb dX6_passMinutes_8 ?_
  refine lt_e (e0 := 600 - mi) (Int32.ofInt_sub _ _).symm (fun z_1 hz_1 => ?_)
  refine va_mmin hx hb (hml.trans hlv.1.symm) hown mk110 ms_min mi_ mc_min (Nat.le_of_ble_eq_true rfl) (Nat.le_of_ble_eq_true rfl) (Nat.le_of_ble_eq_true rfl) (Nat.le_of_ble_eq_true rfl) dX6_passMinutes_9 ?_
  refine lt_mn (by omega) (by omega) (fun z_2 hz_2 => ?_)
  refine lv_istore_n (lv' := [(3, vI z_2), (0, vR sA), (1, vI n), (2, vI f)]) hx hb dX6_passMinutes_12 rfl hlv (by decide) rfl (fun ls hlv => ?_)
  refine lv_iconst (v := iI 0) hx hb dX6_passMinutes_13 (by decide) ?_
  refine lv_istore (lv' := [(4, vI 0), (3, vI z_2), (0, vR sA), (1, vI n), (2, vI f)]) hx hb dX6_passMinutes_14 hlv (by decide) rfl (fun ls hlv => ?_)
  refine (?_ : ∀ (fu : Nat) (q4 : Int) (qm : Int) (qf : Int) (qt : Int) (wg : Nat → Int32) (H : Heap) (locs : List Loc) (ls : Array Slot), 60 - q4 < (fu : Int) → (0 ≤ q4 ∧ q4 ≤ 60) → (0 ≤ qm ∧ qm ≤ 600) → ((-2147483648) ≤ qf ∧ qf ≤ 2147483647) → ((-2147483648) ≤ qt ∧ qt ≤ 2147483647) → (qm = mi + q4) → va_P D vwCl [zO sA 6 [vI wi, vI ro, vR s2, vR s3, vI dr, vI dt, vR s6, vI pe, vR s8, vI gu, vI sh, vR s11, vI wo, vR s13, vI dn, vI qm, vI qf, vI qt, vI go], zI s2 (cy 0) 96 hf, zI s3 (cy 0) 96 wg, zI s6 (cy 0) 56 df] H → va_D A [zO sA 6 [vI wi, vI ro, vR s2, vR s3, vI dr, vI dt, vR s6, vI pe, vR s8, vI gu, vI sh, vR s11, vI wo, vR s13, vI dn, vI qm, vI qf, vI qt, vI go], zI s2 (cy 0) 96 hf, zI s3 (cy 0) 96 wg, zI s6 (cy 0) 56 df] → va_S A s.heap H locs → lv_has ls 5 [(4, vI q4), (3, vI z_2), (0, vR sA), (1, vI n), (2, vI f)] → W p l e _ s m _ below meth c H locs _ _ _ (F0 m 16 ls [])) (((60 - 0) + 1 : Int)).toNat 0 mi fl tk wf _ _ _ (by omega) (by show (0 : Int) ≤ 0 ∧ (0 : Int) ≤ 60; decide) (by first | exact hr_mi | omega) (by first | exact hr_fl | omega) (by first | exact hr_tk | omega) (by omega)  hP hD hS hlv
  clear hP hD hS hlv
  intro fu
  induction fu with
  | zero => intro q4 qm qf qt wg H locs ls hm16 hl16_0 hl16_1 hl16_2 hl16_3 hl16_4  hP hD hS hlv; omega
  | succ fu ih16 =>
    intro q4 qm qf qt wg H locs ls hm16 hl16_0 hl16_1 hl16_2 hl16_3 hl16_4  hP hD hS hlv
    refine lv_iload hx hb dX6_passMinutes_16 (lv_at hlv 0 rfl) ?_
    refine lv_iload_n hx hb dX6_passMinutes_18 rfl (lv_at hlv 1 rfl) ?_
    refine ir_ge (tgt := 33) hx hb dX6_passMinutes_19 (by decide) (by first | exact rgw hl16_0 (by decide) (by decide) | omega) (by omega) (fun c_3 => ?_) (fun c_3 => ?_)
    · refine lv_iload_n hx hb dX6_passMinutes_33 rfl (lv_at hlv 1 rfl) ?_
      refine W.widen (k := 0) (n := 0) (Nat.le_of_ble_eq_true rfl) (Nat.le_of_ble_eq_true rfl) ?_
      exact W.iret (v := iI z_2) hx hb hr (fun t ht hW => ⟨⟨iI z_2, ((fun k => ([] : List Nat).getD k 0), (fun k => ([qm, qf, qt, z_2] : List Int).getD k 0), (fun k => ([wg] : List (Nat → Int32)).getD k (fun _ => 0))), rfl, ⟨rfl, (by show (0 ≤ qm ∧ qm ≤ 600); first | exact hl16_1 | omega), (by show ((-2147483648) ≤ qf ∧ qf ≤ 2147483647); first | exact hl16_2 | omega), (by show ((-2147483648) ≤ qt ∧ qt ≤ 2147483647); first | exact hl16_3 | omega), (by show (0 ≤ z_2 ∧ z_2 ≤ 60); omega), hhf, hdf⟩, by rw [ht]; exact hP.sub [0, 1, 2, 3] rfl, hD.sub [0, 1, 2, 3] (by decide) rfl⟩, hS.F ht⟩) hS.2.2 dX6_passMinutes_34
    · refine lv_aload_n hx hb dX6_passMinutes_22 rfl (lv_at hlv 2 rfl) ?_
      refine lv_iload_n hx hb dX6_passMinutes_23 rfl (lv_at hlv 4 rfl) ?_
      refine cj_v (wr := []) (va_runV (As := [vI f]) (rest := []) ⟨hx, hb, hml, hown, hts⟩ (s_passMinute l hl D cy sa sA s2 s3 s6 s8 s11 s13 wi ro dr dt pe gu sh wo dn qm qf qt go hf wg df f H.size (by first | exact hr_wi | omega) (by first | exact hr_ro | omega) (by first | exact hr_dr | omega) (by first | exact hr_dt | omega) (by first | exact hr_pe | omega) (by first | exact hr_gu | omega) (by first | exact hr_sh | omega) (by first | exact hr_wo | omega) (by first | exact hr_dn | omega) (by first | exact hl16_1 | omega) (by first | exact hl16_2 | omega) (by first | exact hl16_3 | omega) (by first | exact hr_go | omega) (by first | exact hr_f | omega) (by omega) hhf hdf) (cwV 1 hts gg_1 rfl rfl rfl (by decide +kernel) ⟨Nat.le_of_ble_eq_true rfl, Nat.le_of_ble_eq_true rfl⟩) ⟨pcW.blind, (va_recv hG.1 hP (ci := 6) (q0 := 0) rfl rfl), (pcW.mk hP hD hS hA hG hT [0, 1, 2, 3] rfl (by decide))⟩ rfl rfl hlv.1 rfl (lv_room (Nat.le_of_ble_eq_true rfl)) dX6_passMinutes_24 ⟨Nat.le_of_ble_eq_true rfl, Nat.le_of_ble_eq_true rfl⟩) hP hD hS hA [0, 1, 2, 3] [] rfl rfl (by decide) (by decide) (fun u1 H locs hw1 hP hD hS => ?_)
      obtain ⟨hq1_0, hq1_1, hq1_2, hq1_3, hq1_4, hq1_5⟩ := hw1
      have hP : va_P D vwCl [zO sA 6 [vI wi, vI ro, vR s2, vR s3, vI dr, vI dt, vR s6, vI pe, vR s8, vI gu, vI sh, vR s11, vI wo, vR s13, vI dn, vI (u1.2.1 0), vI (u1.2.1 1), vI (u1.2.1 2), vI go], zI s2 (cy 0) 96 hf, zI s3 (cy 0) 96 (u1.2.2 0), zI s6 (cy 0) 56 df] H := hP
      have hD : va_D A [zO sA 6 [vI wi, vI ro, vR s2, vR s3, vI dr, vI dt, vR s6, vI pe, vR s8, vI gu, vI sh, vR s11, vI wo, vR s13, vI dn, vI (u1.2.1 0), vI (u1.2.1 1), vI (u1.2.1 2), vI go], zI s2 (cy 0) 96 hf, zI s3 (cy 0) 96 (u1.2.2 0), zI s6 (cy 0) 56 df] := hD
      obtain ⟨z_4, hz_4⟩ : ∃ z : Int, z = q4 + 1 := ⟨_, rfl⟩
      refine lv_iinc (v := iI z_4) (lv' := [(4, vI z_4), (3, vI z_2), (0, vR sA), (1, vI n), (2, vI f)]) hx hb dX6_passMinutes_27 hlv (k := 0) rfl (by rw [hz_4]; exact (Int32.ofInt_add _ _).symm) (by decide) rfl (fun ls hlv => ?_)
      refine lv_goto (tgt := 16) hx hb dX6_passMinutes_30 (by decide) ?_
      exact ih16 z_4 (u1.2.1 0) (u1.2.1 1) (u1.2.1 2) (u1.2.2 0) H locs ls (by omega) (by omega) (by first | exact hq1_0 | omega) (by first | exact hq1_1 | omega) (by first | exact hq1_2 | omega) (by omega)  (hP.sub [0, 1, 2, 3] rfl) (hD.sub [0, 1, 2, 3] (by decide) rfl) hS (lv_sub hlv [0, 1, 2, 3, 4] rfl)
def vs_s_longestIce : List Cond := .code yX6_longestIce cX6_longestIce 6 (some .int) :: (([.fieldLink RX6 32 "KerbSplash$Street" "rows" "I", .fieldLink RX6 28 "KerbSplash$Street" "wide" "I", .fieldLink RX6 13 "KerbSplash$Street" "water" "[I", .methodLink RX6 142 Lib.Math.max.name, .static Lib.Math.max.name, .initialized "java/lang/Math", .code Lib.Math.max.name Lib.Math.max.code 2 (some .int)] : List Cond) ++ ((wsX60) ++ ((wsV RX6 88 RX6 yX6_index vs_s_index) ++ ([]))))
theorem gd_s_longestIce : vs_s_longestIce.all goodWord = true := gd_C (by decide +kernel) (gd_A (by decide +kernel) (gd_A (by decide +kernel) (gd_A (gd_V gd_s_index (by decide +kernel)) rfl)))
set_option maxHeartbeats 4000000 in
set_option maxRecDepth 100000 in
theorem s_longestIce (l : Launch) (hl : l.stackTraces = false) (D : va_G) (cy : Nat → ClassId) (sa : Nat → Nat) (sA s2 s3 s6 s8 s11 s13 : Nat) (wi ro dr dt pe gu sh wo dn mi fl tk go : Int) (wf : Nat → Int32) (n : Int) (sz : Nat) (hr_wi : 0 ≤ wi ∧ wi ≤ 16) (hr_ro : 0 ≤ ro ∧ ro ≤ 6) (hr_dr : 0 ≤ dr ∧ dr ≤ 14) (hr_dt : 0 ≤ dt ∧ dt ≤ 6) (hr_pe : 0 ≤ pe ∧ pe ≤ 8) (hr_gu : 0 ≤ gu ∧ gu ≤ 20) (hr_sh : 0 ≤ sh ∧ sh ≤ 2) (hr_wo : 0 ≤ wo ∧ wo ≤ 8) (hr_dn : (-2147483648) ≤ dn ∧ dn ≤ 2147483647) (hr_mi : 0 ≤ mi ∧ mi ≤ 600) (hr_fl : (-2147483648) ≤ fl ∧ fl ≤ 2147483647) (hr_tk : (-2147483648) ≤ tk ∧ tk ≤ 2147483647) (hr_go : (-2147483648) ≤ go ∧ go ≤ 2147483647) (hr_n : (-2147483648) ≤ n ∧ n ≤ 2147483647) : Met l yX6_longestIce vs_s_longestIce ({ frames := 1, cells := 0, slots := 0, locals := 30 }) (va_Pc [vR sA, vI n] (pcW D cy sa sz [zO sA 6 [vI wi, vI ro, vR s2, vR s3, vI dr, vI dt, vR s6, vI pe, vR s8, vI gu, vI sh, vR s11, vI wo, vR s13, vI dn, vI mi, vI fl, vI tk, vI go], zI s3 (cy 0) 96 wf])) (va_Qi (fun (r : Int32) (u : SV) => r = iI (u.2.1 0) ∧ (0 ≤ u.2.1 0 ∧ u.2.1 0 ≤ 16)) (fun u t => atW D (va_A [zO sA 6 [vI wi, vI ro, vR s2, vR s3, vI dr, vI dt, vR s6, vI pe, vR s8, vI gu, vI sh, vR s11, vI wo, vR s13, vI dn, vI mi, vI fl, vI tk, vI go], zI s3 (cy 0) 96 wf] sz) [zO sA 6 [vI wi, vI ro, vR s2, vR s3, vI dr, vI dt, vR s6, vI pe, vR s8, vI gu, vI sh, vR s11, vI wo, vR s13, vI dn, vI mi, vI fl, vI tk, vI go], zI s3 (cy 0) 96 wf] t) (va_A [zO sA 6 [vI wi, vI ro, vR s2, vR s3, vI dr, vI dt, vR s6, vI pe, vR s8, vI gu, vI sh, vR s11, vI wo, vR s13, vI dn, vI mi, vI fl, vI tk, vI go], zI s3 (cy 0) 96 wf] sz)) 0 0 (va_A [zO sA 6 [vI wi, vI ro, vR s2, vR s3, vI dr, vI dt, vR s6, vI pe, vR s8, vI gu, vI sh, vR s11, vI wo, vR s13, vI dn, vI mi, vI fl, vI tk, vI go], zI s3 (cy 0) 96 wf] sz) := by
  refine Met.ofW (cc := cX6_longestIce) (maxL := 6) (ret := (some .int)) (by decide) rfl ?_
  intro p e s m args below meth c s₁ B hml hv
  obtain ⟨rfl, hsz, hP, hG, hD0, hT⟩ := hv
  have hx := B.exec
  have hb := B.bytes
  have hr := B.returns
  have hts := atoms_spec (ws := vs_s_longestIce) B.pre
  have hown : s.vm.findClass RX6 = some m.cls := findClass_of_methodNamed B.named
  have hlocks := B.notSynchronized
  subst hsz
  have hD := hD0.self (sz := s.heap.size)
  generalize hAe : va_A [zO sA 6 [vI wi, vI ro, vR s2, vR s3, vI dr, vI dt, vR s6, vI pe, vR s8, vI gu, vI sh, vR s11, vI wo, vR s13, vI dn, vI mi, vI fl, vI tk, vI go], zI s3 (cy 0) 96 wf] s.heap.size = A at hD hT ⊢
  have hA : ∀ q : Nat, s.heap.size ≤ q → A q := fun q h => by rw [← hAe]; exact Or.inr h
  have hS : va_S A s.heap s.heap [] := va_S.rf
  have hl0 := lv_entry ([vR sA, vI n]) (n := 6) (Nat.le_of_ble_eq_true rfl)
  rw [lg_entry_eq]
  generalize (lg_sl ([vR sA, vI n]) ++ List.replicate (6 - (lg_sl ([vR sA, vI n])).length) Slot.unset).toArray = ls at hl0 ⊢
  have hlv : lv_has ls 6 [(0, vR sA), (1, vI n)] := hl0
  have lf32 := hts (.fieldLink RX6 32 "KerbSplash$Street" "rows" "I") (List.mem_of_getElem? (i := 1) rfl)
  have hi6 : ∀ w ∈ wsX60, w ∈ vs_s_longestIce := fun w h => List.mem_cons_of_mem _ (List.mem_append_right _ (List.mem_append_left _ h))
  have lf28 := hts (.fieldLink RX6 28 "KerbSplash$Street" "wide" "I") (List.mem_of_getElem? (i := 2) rfl)
  have lf13 := hts (.fieldLink RX6 13 "KerbSplash$Street" "water" "[I") (List.mem_of_getElem? (i := 3) rfl)
  have gg_1 : GoodIn vs_s_longestIce (wsV RX6 88 RX6 yX6_index vs_s_index) := goodIn_sub (fun w h => List.mem_cons_of_mem _ (List.mem_append_right _ (List.mem_append_right _ (List.mem_append_left _ h)))) (gd_V gd_s_index (by decide +kernel))
  have mk142 := hts (.methodLink RX6 142 Lib.Math.max.name) (List.mem_of_getElem? (i := 4) rfl)
  have ms_max := hts (.static Lib.Math.max.name) (List.mem_of_getElem? (i := 5) rfl)
  have mi_ := hts (.initialized "java/lang/Math") (List.mem_of_getElem? (i := 6) rfl)
  have mc_max := hts (.code Lib.Math.max.name Lib.Math.max.code 2 (some .int)) (List.mem_of_getElem? (i := 7) rfl)
  refine lv_iconst (v := iI 0) hx hb dX6_longestIce_0 (by decide) ?_
  refine lv_istore_n (lv' := [(2, vI 0), (0, vR sA), (1, vI n)]) hx hb dX6_longestIce_1 rfl hlv (by decide) rfl (fun ls hlv => ?_)
  refine lv_iconst (v := iI 0) hx hb dX6_longestIce_2 (by decide) ?_
  refine lv_istore_n (lv' := [(3, vI 0), (2, vI 0), (0, vR sA), (1, vI n)]) hx hb dX6_longestIce_3 rfl hlv (by decide) rfl (fun ls hlv => ?_)
  refine (?_ : ∀ (fu : Nat) (q2 : Int) (q3 : Int) (H : Heap) (locs : List Loc) (ls : Array Slot), 6 - q3 < (fu : Int) → (0 ≤ q2 ∧ q2 ≤ 16) → (0 ≤ q3 ∧ q3 ≤ 6) → (q3 ≤ ro) → va_P D vwCl [zO sA 6 [vI wi, vI ro, vR s2, vR s3, vI dr, vI dt, vR s6, vI pe, vR s8, vI gu, vI sh, vR s11, vI wo, vR s13, vI dn, vI mi, vI fl, vI tk, vI go], zI s3 (cy 0) 96 wf] H → va_D A [zO sA 6 [vI wi, vI ro, vR s2, vR s3, vI dr, vI dt, vR s6, vI pe, vR s8, vI gu, vI sh, vR s11, vI wo, vR s13, vI dn, vI mi, vI fl, vI tk, vI go], zI s3 (cy 0) 96 wf] → va_S A s.heap H locs → lv_has ls 6 [(3, vI q3), (2, vI q2), (0, vR sA), (1, vI n)] → W p l e _ s m _ below meth c H locs _ _ _ (F0 m 4 ls [])) (((6 - 0) + 1 : Int)).toNat 0 0 _ _ _ (by omega) (by show (0 : Int) ≤ 0 ∧ (0 : Int) ≤ 16; decide) (by show (0 : Int) ≤ 0 ∧ (0 : Int) ≤ 6; decide) (by omega)  hP hD hS hlv
  clear hP hD hS hlv
  intro fu
  induction fu with
  | zero => intro q2 q3 H locs ls hm4 hl4_0 hl4_1 hl4_2  hP hD hS hlv; omega
  | succ fu ih4 =>
    intro q2 q3 H locs ls hm4 hl4_0 hl4_1 hl4_2  hP hD hS hlv
    refine lv_iload_n hx hb dX6_longestIce_4 rfl (lv_at hlv 0 rfl) ?_
    refine lv_aload_n hx hb dX6_longestIce_5 rfl (lv_at hlv 2 rfl) ?_
    refine va_get (D := D) (ci := 6) (v := vI ro) (C := RX6) (T := TX6) (N := 19) hx hb hts hi6 hown hG.1 hP 0 rfl rfl 1 (by decide) lf32 (fun _ h9 => h9) rfl dX6_longestIce_6 ?_
    refine ir_ge (tgt := 72) hx hb dX6_longestIce_9 (by decide) (by first | exact rgw hl4_1 (by decide) (by decide) | omega) (by first | exact rgw hr_ro (by decide) (by decide) | omega) (fun c_1 => ?_) (fun c_1 => ?_)
    · refine lv_iload_n hx hb dX6_longestIce_72 rfl (lv_at hlv 1 rfl) ?_
      refine W.widen (k := 0) (n := 0) (Nat.le_of_ble_eq_true rfl) (Nat.le_of_ble_eq_true rfl) ?_
      exact W.iret (v := iI q2) hx hb hr (fun t ht hW => ⟨⟨iI q2, ((fun k => ([] : List Nat).getD k 0), (fun k => ([q2] : List Int).getD k 0), (fun k => ([] : List (Nat → Int32)).getD k (fun _ => 0))), rfl, ⟨rfl, (by show (0 ≤ q2 ∧ q2 ≤ 16); first | exact hl4_0 | omega)⟩, by rw [ht]; exact hP.sub [0, 1] rfl, hD.sub [0, 1] (by decide) rfl⟩, hS.F ht⟩) hS.2.2 dX6_longestIce_73
    · refine lv_iconst (v := iI 0) hx hb dX6_longestIce_12 (by decide) ?_
      refine lv_istore (lv' := [(4, vI 0), (3, vI q3), (2, vI q2), (0, vR sA), (1, vI n)]) hx hb dX6_longestIce_13 hlv (by decide) rfl (fun ls hlv => ?_)
      refine lv_iconst (v := iI 0) hx hb dX6_longestIce_15 (by decide) ?_
      refine lv_istore (lv' := [(5, vI 0), (4, vI 0), (3, vI q3), (2, vI q2), (0, vR sA), (1, vI n)]) hx hb dX6_longestIce_16 hlv (by decide) rfl (fun ls hlv => ?_)
      refine (?_ : ∀ (fu : Nat) (r2 : Int) (r4 : Int) (r5 : Int) (H : Heap) (locs : List Loc) (ls : Array Slot), 16 - r5 < (fu : Int) → (0 ≤ r2 ∧ r2 ≤ 16) → (0 ≤ r4 ∧ r4 ≤ 16) → (0 ≤ r5 ∧ r5 ≤ 16) → (r4 ≤ r5) → (r5 ≤ wi) → va_P D vwCl [zO sA 6 [vI wi, vI ro, vR s2, vR s3, vI dr, vI dt, vR s6, vI pe, vR s8, vI gu, vI sh, vR s11, vI wo, vR s13, vI dn, vI mi, vI fl, vI tk, vI go], zI s3 (cy 0) 96 wf] H → va_D A [zO sA 6 [vI wi, vI ro, vR s2, vR s3, vI dr, vI dt, vR s6, vI pe, vR s8, vI gu, vI sh, vR s11, vI wo, vR s13, vI dn, vI mi, vI fl, vI tk, vI go], zI s3 (cy 0) 96 wf] → va_S A s.heap H locs → lv_has ls 6 [(5, vI r5), (4, vI r4), (3, vI q3), (2, vI r2), (0, vR sA), (1, vI n)] → W p l e _ s m _ below meth c H locs _ _ _ (F0 m 18 ls [])) (((16 - 0) + 1 : Int)).toNat q2 0 0 _ _ _ (by omega) (by first | exact hl4_0 | omega) (by show (0 : Int) ≤ 0 ∧ (0 : Int) ≤ 16; decide) (by show (0 : Int) ≤ 0 ∧ (0 : Int) ≤ 16; decide) (by omega) (by omega)  hP hD hS hlv
      clear hP hD hS hlv
      intro fu
      induction fu with
      | zero => intro r2 r4 r5 H locs ls hm18 hl18_0 hl18_1 hl18_2 hl18_3 hl18_4  hP hD hS hlv; omega
      | succ fu ih18 =>
        intro r2 r4 r5 H locs ls hm18 hl18_0 hl18_1 hl18_2 hl18_3 hl18_4  hP hD hS hlv
        refine lv_iload hx hb dX6_longestIce_18 (lv_at hlv 0 rfl) ?_
        refine lv_aload_n hx hb dX6_longestIce_20 rfl (lv_at hlv 4 rfl) ?_
        refine va_get (D := D) (ci := 6) (v := vI wi) (C := RX6) (T := TX6) (N := 19) hx hb hts hi6 hown hG.1 hP 0 rfl rfl 0 (by decide) lf28 (fun _ h9 => h9) rfl dX6_longestIce_21 ?_
        refine ir_ge (tgt := 66) hx hb dX6_longestIce_24 (by decide) (by first | exact rgw hl18_2 (by decide) (by decide) | omega) (by first | exact rgw hr_wi (by decide) (by decide) | omega) (fun c_2 => ?_) (fun c_2 => ?_)
        · obtain ⟨z_3, hz_3⟩ : ∃ z : Int, z = q3 + 1 := ⟨_, rfl⟩
          refine lv_iinc (v := iI z_3) (lv' := [(3, vI z_3), (5, vI r5), (4, vI r4), (2, vI r2), (0, vR sA), (1, vI n)]) hx hb dX6_longestIce_66 hlv (k := 2) rfl (by rw [hz_3]; exact (Int32.ofInt_add _ _).symm) (by decide) rfl (fun ls hlv => ?_)
          refine lv_goto (tgt := 4) hx hb dX6_longestIce_69 (by decide) ?_
          exact ih4 r2 z_3 H locs ls (by omega) (by first | exact hl18_0 | omega) (by omega) (by omega)  (hP.sub [0, 1] rfl) (hD.sub [0, 1] (by decide) rfl) hS (lv_sub hlv [0, 3, 4, 5] rfl)
        · refine lv_aload_n hx hb dX6_longestIce_27 rfl (lv_at hlv 4 rfl) ?_
          refine va_get (D := D) (ci := 6) (v := vR s3) (C := RX6) (T := TX6) (N := 19) hx hb hts hi6 hown hG.1 hP 0 rfl rfl 3 (by decide) lf13 (fun _ h9 => h9) rfl dX6_longestIce_28 ?_
          refine lv_aload_n hx hb dX6_longestIce_31 rfl (lv_at hlv 4 rfl) ?_
          refine lv_iload hx hb dX6_longestIce_32 (lv_at hlv 0 rfl) ?_
          refine lv_iload_n hx hb dX6_longestIce_34 rfl (lv_at hlv 2 rfl) ?_
          refine cj_i (wr := [zI s3 (cy 0) 96 wf]) (va_runV (As := [vI r5, vI q3]) (rest := [vR s3]) ⟨hx, hb, hml, hown, hts⟩ (s_index l hl D cy sa sA s2 s3 s6 s8 s11 s13 wi ro dr dt pe gu sh wo dn mi fl tk go r5 q3 H.size (by first | exact hr_wi | omega) (by first | exact hr_ro | omega) (by first | exact hr_dr | omega) (by first | exact hr_dt | omega) (by first | exact hr_pe | omega) (by first | exact hr_gu | omega) (by first | exact hr_sh | omega) (by first | exact hr_wo | omega) (by first | exact hr_dn | omega) (by first | exact hr_mi | omega) (by first | exact hr_fl | omega) (by first | exact hr_tk | omega) (by first | exact hr_go | omega) (by omega) (by omega)) (cwV 2 hts gg_1 rfl rfl rfl (by decide +kernel) ⟨Nat.le_of_ble_eq_true rfl, Nat.le_of_ble_eq_true rfl⟩) ⟨pcW.blind, (va_recv hG.1 hP (ci := 6) (q0 := 0) rfl rfl), (pcW.mk hP hD hS hA hG hT [0] rfl (by decide))⟩ rfl rfl hlv.1 rfl (lv_room (Nat.le_of_ble_eq_true rfl)) dX6_longestIce_35 ⟨Nat.le_of_ble_eq_true rfl, Nat.le_of_ble_eq_true rfl⟩) hP hD hS hA [0] [1] rfl rfl (by decide) (by decide) (fun r1 u1 H locs hw1 hP hD hS => ?_)
          obtain ⟨rfl, hq1_1⟩ := hw1
          have hP : va_P D vwCl [zI s3 (cy 0) 96 wf, zO sA 6 [vI wi, vI ro, vR s2, vR s3, vI dr, vI dt, vR s6, vI pe, vR s8, vI gu, vI sh, vR s11, vI wo, vR s13, vI dn, vI mi, vI fl, vI tk, vI go]] H := hP
          have hD : va_D A [zI s3 (cy 0) 96 wf, zO sA 6 [vI wi, vI ro, vR s2, vR s3, vI dr, vI dt, vR s6, vI pe, vR s8, vI gu, vI sh, vR s11, vI wo, vR s13, vI dn, vI mi, vI fl, vI tk, vI go]] := hD
          refine va_iald hx hb hG.1 hP 0 0 rfl rfl (iI_in (by omega) (by decide)) dX6_longestIce_38 ?_
          refine lt_z (fun z_4 ez_4 lz_4 hz_4 => ?_)
          refine lv_iload_n hx hb dX6_longestIce_39 rfl (lv_at hlv 5 rfl) ?_
          refine ir_lt (tgt := 50) hx hb dX6_longestIce_40 (by decide) (by omega) (by first | exact hr_n | omega) (fun c_5 => ?_) (fun c_5 => ?_)
          · refine lv_iconst (v := iI 0) hx hb dX6_longestIce_50 (by decide) ?_
            refine lv_istore (lv' := [(4, vI 0), (5, vI r5), (3, vI q3), (2, vI r2), (0, vR sA), (1, vI n)]) hx hb dX6_longestIce_51 hlv (by decide) rfl (fun ls hlv => ?_)
            refine lv_iload_n hx hb dX6_longestIce_53 rfl (lv_at hlv 3 rfl) ?_
            refine lv_iload hx hb dX6_longestIce_54 (lv_at hlv 0 rfl) ?_
            refine va_mmax hx hb (hml.trans hlv.1.symm) hown mk142 ms_max mi_ mc_max (Nat.le_of_ble_eq_true rfl) (Nat.le_of_ble_eq_true rfl) (Nat.le_of_ble_eq_true rfl) (Nat.le_of_ble_eq_true rfl) dX6_longestIce_56 ?_
            refine lt_mx (by omega) (by omega) (fun z_6 hz_6 => ?_)
            refine lv_istore_n (lv' := [(2, vI z_6), (4, vI 0), (5, vI r5), (3, vI q3), (0, vR sA), (1, vI n)]) hx hb dX6_longestIce_59 rfl hlv (by decide) rfl (fun ls hlv => ?_)
            obtain ⟨z_7, hz_7⟩ : ∃ z : Int, z = r5 + 1 := ⟨_, rfl⟩
            refine lv_iinc (v := iI z_7) (lv' := [(5, vI z_7), (2, vI z_6), (4, vI 0), (3, vI q3), (0, vR sA), (1, vI n)]) hx hb dX6_longestIce_60 hlv (k := 2) rfl (by rw [hz_7]; exact (Int32.ofInt_add _ _).symm) (by decide) rfl (fun ls hlv => ?_)
            refine lv_goto (tgt := 18) hx hb dX6_longestIce_63 (by decide) ?_
            exact ih18 z_6 0 z_7 H locs ls (by omega) (by omega) (by show (0 : Int) ≤ 0 ∧ (0 : Int) ≤ 16; decide) (by omega) (by omega) (by omega)  (hP.sub [1, 0] rfl) (hD.sub [1, 0] (by decide) rfl) hS (lv_sub hlv [0, 2, 3, 1, 4, 5] rfl)
          · refine lv_iload hx hb dX6_longestIce_43 (lv_at hlv 1 rfl) ?_
            refine lv_iconst (v := iI 1) hx hb dX6_longestIce_45 (by decide) ?_
            refine lv_iadd hx hb dX6_longestIce_46 ?_
            refine lt_e (e0 := r4 + 1) (Int32.ofInt_add _ _).symm (fun z_8 hz_8 => ?_)
            refine lv_goto (tgt := 51) hx hb dX6_longestIce_47 (by decide) ?_
            refine lv_istore (lv' := [(4, vI z_8), (5, vI r5), (3, vI q3), (2, vI r2), (0, vR sA), (1, vI n)]) hx hb dX6_longestIce_51 hlv (by decide) rfl (fun ls hlv => ?_)
            refine lv_iload_n hx hb dX6_longestIce_53 rfl (lv_at hlv 3 rfl) ?_
            refine lv_iload hx hb dX6_longestIce_54 (lv_at hlv 0 rfl) ?_
            refine va_mmax hx hb (hml.trans hlv.1.symm) hown mk142 ms_max mi_ mc_max (Nat.le_of_ble_eq_true rfl) (Nat.le_of_ble_eq_true rfl) (Nat.le_of_ble_eq_true rfl) (Nat.le_of_ble_eq_true rfl) dX6_longestIce_56 ?_
            refine lt_mx (by omega) (by omega) (fun z_9 hz_9 => ?_)
            refine lv_istore_n (lv' := [(2, vI z_9), (4, vI z_8), (5, vI r5), (3, vI q3), (0, vR sA), (1, vI n)]) hx hb dX6_longestIce_59 rfl hlv (by decide) rfl (fun ls hlv => ?_)
            obtain ⟨z_10, hz_10⟩ : ∃ z : Int, z = r5 + 1 := ⟨_, rfl⟩
            refine lv_iinc (v := iI z_10) (lv' := [(5, vI z_10), (2, vI z_9), (4, vI z_8), (3, vI q3), (0, vR sA), (1, vI n)]) hx hb dX6_longestIce_60 hlv (k := 2) rfl (by rw [hz_10]; exact (Int32.ofInt_add _ _).symm) (by decide) rfl (fun ls hlv => ?_)
            refine lv_goto (tgt := 18) hx hb dX6_longestIce_63 (by decide) ?_
            exact ih18 z_9 z_8 z_10 H locs ls (by omega) (by omega) (by omega) (by omega) (by omega) (by omega)  (hP.sub [1, 0] rfl) (hD.sub [1, 0] (by decide) rfl) hS (lv_sub hlv [0, 2, 3, 1, 4, 5] rfl)
def vs_s_personsOnIce : List Cond := .code yX6_personsOnIce cX6_personsOnIce 4 (some .int) :: (([.fieldLink RX6 47 "KerbSplash$Street" "persons" "I", .fieldLink RX6 13 "KerbSplash$Street" "water" "[I", .fieldLink RX6 19 "KerbSplash$Street" "person" "[I"] : List Cond) ++ ((wsX60) ++ ((wsV RX6 88 RX6 yX6_index vs_s_index) ++ ([]))))
theorem gd_s_personsOnIce : vs_s_personsOnIce.all goodWord = true := gd_C (by decide +kernel) (gd_A (by decide +kernel) (gd_A (by decide +kernel) (gd_A (gd_V gd_s_index (by decide +kernel)) rfl)))
set_option maxHeartbeats 4000000 in
set_option maxRecDepth 100000 in
theorem s_personsOnIce (l : Launch) (hl : l.stackTraces = false) (D : va_G) (cy : Nat → ClassId) (sa : Nat → Nat) (sA s2 s3 s6 s8 s11 s13 : Nat) (wi ro dr dt pe gu sh wo dn mi fl tk go : Int) (wf pf : Nat → Int32) (n : Int) (sz : Nat) (hr_wi : 0 ≤ wi ∧ wi ≤ 16) (hr_ro : 0 ≤ ro ∧ ro ≤ 6) (hr_dr : 0 ≤ dr ∧ dr ≤ 14) (hr_dt : 0 ≤ dt ∧ dt ≤ 6) (hr_pe : 0 ≤ pe ∧ pe ≤ 8) (hr_gu : 0 ≤ gu ∧ gu ≤ 20) (hr_sh : 0 ≤ sh ∧ sh ≤ 2) (hr_wo : 0 ≤ wo ∧ wo ≤ 8) (hr_dn : (-2147483648) ≤ dn ∧ dn ≤ 2147483647) (hr_mi : 0 ≤ mi ∧ mi ≤ 600) (hr_fl : (-2147483648) ≤ fl ∧ fl ≤ 2147483647) (hr_tk : (-2147483648) ≤ tk ∧ tk ≤ 2147483647) (hr_go : (-2147483648) ≤ go ∧ go ≤ 2147483647) (hr_n : (-2147483648) ≤ n ∧ n ≤ 2147483647) (hpf : tab_ 4 28 [0, 0, (-2147483648), (-2147483648)] [15, 19, 2147483647, 2147483647] pf) : Met l yX6_personsOnIce vs_s_personsOnIce ({ frames := 1, cells := 0, slots := 0, locals := 22 }) (va_Pc [vR sA, vI n] (pcW D cy sa sz [zO sA 6 [vI wi, vI ro, vR s2, vR s3, vI dr, vI dt, vR s6, vI pe, vR s8, vI gu, vI sh, vR s11, vI wo, vR s13, vI dn, vI mi, vI fl, vI tk, vI go], zI s3 (cy 0) 96 wf, zI s8 (cy 0) 112 pf])) (va_Qi (fun (r : Int32) (u : SV) => r = iI (u.2.1 0) ∧ (0 ≤ u.2.1 0 ∧ u.2.1 0 ≤ 8) ∧ tab_ 4 28 [0, 0, (-2147483648), (-2147483648)] [15, 19, 2147483647, 2147483647] pf) (fun u t => atW D (va_A [zO sA 6 [vI wi, vI ro, vR s2, vR s3, vI dr, vI dt, vR s6, vI pe, vR s8, vI gu, vI sh, vR s11, vI wo, vR s13, vI dn, vI mi, vI fl, vI tk, vI go], zI s3 (cy 0) 96 wf, zI s8 (cy 0) 112 pf] sz) [zO sA 6 [vI wi, vI ro, vR s2, vR s3, vI dr, vI dt, vR s6, vI pe, vR s8, vI gu, vI sh, vR s11, vI wo, vR s13, vI dn, vI mi, vI fl, vI tk, vI go], zI s3 (cy 0) 96 wf, zI s8 (cy 0) 112 pf] t) (va_A [zO sA 6 [vI wi, vI ro, vR s2, vR s3, vI dr, vI dt, vR s6, vI pe, vR s8, vI gu, vI sh, vR s11, vI wo, vR s13, vI dn, vI mi, vI fl, vI tk, vI go], zI s3 (cy 0) 96 wf, zI s8 (cy 0) 112 pf] sz)) 0 0 (va_A [zO sA 6 [vI wi, vI ro, vR s2, vR s3, vI dr, vI dt, vR s6, vI pe, vR s8, vI gu, vI sh, vR s11, vI wo, vR s13, vI dn, vI mi, vI fl, vI tk, vI go], zI s3 (cy 0) 96 wf, zI s8 (cy 0) 112 pf] sz) := by
  refine Met.ofW (cc := cX6_personsOnIce) (maxL := 4) (ret := (some .int)) (by decide) rfl ?_
  intro p e s m args below meth c s₁ B hml hv
  obtain ⟨rfl, hsz, hP, hG, hD0, hT⟩ := hv
  have hx := B.exec
  have hb := B.bytes
  have hr := B.returns
  have hts := atoms_spec (ws := vs_s_personsOnIce) B.pre
  have hown : s.vm.findClass RX6 = some m.cls := findClass_of_methodNamed B.named
  have hlocks := B.notSynchronized
  subst hsz
  have hD := hD0.self (sz := s.heap.size)
  generalize hAe : va_A [zO sA 6 [vI wi, vI ro, vR s2, vR s3, vI dr, vI dt, vR s6, vI pe, vR s8, vI gu, vI sh, vR s11, vI wo, vR s13, vI dn, vI mi, vI fl, vI tk, vI go], zI s3 (cy 0) 96 wf, zI s8 (cy 0) 112 pf] s.heap.size = A at hD hT ⊢
  have hA : ∀ q : Nat, s.heap.size ≤ q → A q := fun q h => by rw [← hAe]; exact Or.inr h
  have hS : va_S A s.heap s.heap [] := va_S.rf
  have hl0 := lv_entry ([vR sA, vI n]) (n := 4) (Nat.le_of_ble_eq_true rfl)
  rw [lg_entry_eq]
  generalize (lg_sl ([vR sA, vI n]) ++ List.replicate (4 - (lg_sl ([vR sA, vI n])).length) Slot.unset).toArray = ls at hl0 ⊢
  have hlv : lv_has ls 4 [(0, vR sA), (1, vI n)] := hl0
  have lf47 := hts (.fieldLink RX6 47 "KerbSplash$Street" "persons" "I") (List.mem_of_getElem? (i := 1) rfl)
  have hi6 : ∀ w ∈ wsX60, w ∈ vs_s_personsOnIce := fun w h => List.mem_cons_of_mem _ (List.mem_append_right _ (List.mem_append_left _ h))
  have lf13 := hts (.fieldLink RX6 13 "KerbSplash$Street" "water" "[I") (List.mem_of_getElem? (i := 2) rfl)
  have lf19 := hts (.fieldLink RX6 19 "KerbSplash$Street" "person" "[I") (List.mem_of_getElem? (i := 3) rfl)
  have gg_1 : GoodIn vs_s_personsOnIce (wsV RX6 88 RX6 yX6_index vs_s_index) := goodIn_sub (fun w h => List.mem_cons_of_mem _ (List.mem_append_right _ (List.mem_append_right _ (List.mem_append_left _ h)))) (gd_V gd_s_index (by decide +kernel))
  refine lv_iconst (v := iI 0) hx hb dX6_personsOnIce_0 (by decide) ?_
  refine lv_istore_n (lv' := [(2, vI 0), (0, vR sA), (1, vI n)]) hx hb dX6_personsOnIce_1 rfl hlv (by decide) rfl (fun ls hlv => ?_)
  refine lv_iconst (v := iI 0) hx hb dX6_personsOnIce_2 (by decide) ?_
  refine lv_istore_n (lv' := [(3, vI 0), (2, vI 0), (0, vR sA), (1, vI n)]) hx hb dX6_personsOnIce_3 rfl hlv (by decide) rfl (fun ls hlv => ?_)
  refine (?_ : ∀ (fu : Nat) (q2 : Int) (q3 : Int) (H : Heap) (locs : List Loc) (ls : Array Slot), 8 - q3 < (fu : Int) → (0 ≤ q2 ∧ q2 ≤ 8) → (0 ≤ q3 ∧ q3 ≤ 8) → (q2 ≤ q3) → (q3 ≤ pe) → va_P D vwCl [zO sA 6 [vI wi, vI ro, vR s2, vR s3, vI dr, vI dt, vR s6, vI pe, vR s8, vI gu, vI sh, vR s11, vI wo, vR s13, vI dn, vI mi, vI fl, vI tk, vI go], zI s3 (cy 0) 96 wf, zI s8 (cy 0) 112 pf] H → va_D A [zO sA 6 [vI wi, vI ro, vR s2, vR s3, vI dr, vI dt, vR s6, vI pe, vR s8, vI gu, vI sh, vR s11, vI wo, vR s13, vI dn, vI mi, vI fl, vI tk, vI go], zI s3 (cy 0) 96 wf, zI s8 (cy 0) 112 pf] → va_S A s.heap H locs → lv_has ls 4 [(3, vI q3), (2, vI q2), (0, vR sA), (1, vI n)] → W p l e _ s m _ below meth c H locs _ _ _ (F0 m 4 ls [])) (((8 - 0) + 1 : Int)).toNat 0 0 _ _ _ (by omega) (by show (0 : Int) ≤ 0 ∧ (0 : Int) ≤ 8; decide) (by show (0 : Int) ≤ 0 ∧ (0 : Int) ≤ 8; decide) (by omega) (by omega)  hP hD hS hlv
  clear hP hD hS hlv
  intro fu
  induction fu with
  | zero => intro q2 q3 H locs ls hm4 hl4_0 hl4_1 hl4_2 hl4_3  hP hD hS hlv; omega
  | succ fu ih4 =>
    intro q2 q3 H locs ls hm4 hl4_0 hl4_1 hl4_2 hl4_3  hP hD hS hlv
    refine lv_iload_n hx hb dX6_personsOnIce_4 rfl (lv_at hlv 0 rfl) ?_
    refine lv_aload_n hx hb dX6_personsOnIce_5 rfl (lv_at hlv 2 rfl) ?_
    refine va_get (D := D) (ci := 6) (v := vI pe) (C := RX6) (T := TX6) (N := 19) hx hb hts hi6 hown hG.1 hP 0 rfl rfl 7 (by decide) lf47 (fun _ h9 => h9) rfl dX6_personsOnIce_6 ?_
    refine ir_ge (tgt := 43) hx hb dX6_personsOnIce_9 (by decide) (by first | exact rgw hl4_1 (by decide) (by decide) | omega) (by first | exact rgw hr_pe (by decide) (by decide) | omega) (fun c_1 => ?_) (fun c_1 => ?_)
    · refine lv_iload_n hx hb dX6_personsOnIce_43 rfl (lv_at hlv 1 rfl) ?_
      refine W.widen (k := 0) (n := 0) (Nat.le_of_ble_eq_true rfl) (Nat.le_of_ble_eq_true rfl) ?_
      exact W.iret (v := iI q2) hx hb hr (fun t ht hW => ⟨⟨iI q2, ((fun k => ([] : List Nat).getD k 0), (fun k => ([q2] : List Int).getD k 0), (fun k => ([] : List (Nat → Int32)).getD k (fun _ => 0))), rfl, ⟨rfl, (by show (0 ≤ q2 ∧ q2 ≤ 8); first | exact hl4_0 | omega), hpf⟩, by rw [ht]; exact hP.sub [0, 1, 2] rfl, hD.sub [0, 1, 2] (by decide) rfl⟩, hS.F ht⟩) hS.2.2 dX6_personsOnIce_44
    · refine lv_aload_n hx hb dX6_personsOnIce_12 rfl (lv_at hlv 2 rfl) ?_
      refine va_get (D := D) (ci := 6) (v := vR s3) (C := RX6) (T := TX6) (N := 19) hx hb hts hi6 hown hG.1 hP 0 rfl rfl 3 (by decide) lf13 (fun _ h9 => h9) rfl dX6_personsOnIce_13 ?_
      refine lv_aload_n hx hb dX6_personsOnIce_16 rfl (lv_at hlv 2 rfl) ?_
      refine lv_aload_n hx hb dX6_personsOnIce_17 rfl (lv_at hlv 2 rfl) ?_
      refine va_get (D := D) (ci := 6) (v := vR s8) (C := RX6) (T := TX6) (N := 19) hx hb hts hi6 hown hG.1 hP 0 rfl rfl 8 (by decide) lf19 (fun _ h9 => h9) rfl dX6_personsOnIce_18 ?_
      refine lv_iconst (v := iI 4) hx hb dX6_personsOnIce_21 (by decide) ?_
      refine lv_iload_n hx hb dX6_personsOnIce_22 rfl (lv_at hlv 0 rfl) ?_
      refine lv_imul hx hb dX6_personsOnIce_23 ?_
      refine lt_e (e0 := 4 * q3) (Int32.ofInt_mul _ _).symm (fun z_2 hz_2 => ?_)
      refine va_iald hx hb hG.1 hP 2 0 rfl rfl (iI_in (by omega) (by decide)) dX6_personsOnIce_24 ?_
      obtain ⟨z_3, ez_3, hz_3, lz_3⟩ := tab_rd hpf (e := z_2) (k := q3) (c := 0) (a := 0) (b := 15) (by omega) (by omega) (by decide) (by omega) rfl rfl
      refine lt_i (y := iI z_3) ez_3 ?_
      refine lv_iconst (v := iI 0) hx hb dX6_personsOnIce_25 (by decide) ?_
      refine cj_i (wr := [zI s3 (cy 0) 96 wf, zI s8 (cy 0) 112 pf]) (va_runV (As := [vI z_3, vI 0]) (rest := [vR s3]) ⟨hx, hb, hml, hown, hts⟩ (s_index l hl D cy sa sA s2 s3 s6 s8 s11 s13 wi ro dr dt pe gu sh wo dn mi fl tk go z_3 0 H.size (by first | exact hr_wi | omega) (by first | exact hr_ro | omega) (by first | exact hr_dr | omega) (by first | exact hr_dt | omega) (by first | exact hr_pe | omega) (by first | exact hr_gu | omega) (by first | exact hr_sh | omega) (by first | exact hr_wo | omega) (by first | exact hr_dn | omega) (by first | exact hr_mi | omega) (by first | exact hr_fl | omega) (by first | exact hr_tk | omega) (by first | exact hr_go | omega) (by first | exact lz_3 | omega) (by show (0 : Int) ≤ 0 ∧ (0 : Int) ≤ 5; decide)) (cwV 2 hts gg_1 rfl rfl rfl (by decide +kernel) ⟨Nat.le_of_ble_eq_true rfl, Nat.le_of_ble_eq_true rfl⟩) ⟨pcW.blind, (va_recv hG.1 hP (ci := 6) (q0 := 0) rfl rfl), (pcW.mk hP hD hS hA hG hT [0] rfl (by decide))⟩ rfl rfl hlv.1 rfl (lv_room (Nat.le_of_ble_eq_true rfl)) dX6_personsOnIce_26 ⟨Nat.le_of_ble_eq_true rfl, Nat.le_of_ble_eq_true rfl⟩) hP hD hS hA [0] [1, 2] rfl rfl (by decide) (by decide) (fun r1 u1 H locs hw1 hP hD hS => ?_)
      obtain ⟨rfl, hq1_1⟩ := hw1
      have hP : va_P D vwCl [zI s3 (cy 0) 96 wf, zI s8 (cy 0) 112 pf, zO sA 6 [vI wi, vI ro, vR s2, vR s3, vI dr, vI dt, vR s6, vI pe, vR s8, vI gu, vI sh, vR s11, vI wo, vR s13, vI dn, vI mi, vI fl, vI tk, vI go]] H := hP
      have hD : va_D A [zI s3 (cy 0) 96 wf, zI s8 (cy 0) 112 pf, zO sA 6 [vI wi, vI ro, vR s2, vR s3, vI dr, vI dt, vR s6, vI pe, vR s8, vI gu, vI sh, vR s11, vI wo, vR s13, vI dn, vI mi, vI fl, vI tk, vI go]] := hD
      refine va_iald hx hb hG.1 hP 0 0 rfl rfl (iI_in (by omega) (by decide)) dX6_personsOnIce_29 ?_
      refine lt_z (fun z_4 ez_4 lz_4 hz_4 => ?_)
      refine lv_iload_n hx hb dX6_personsOnIce_30 rfl (lv_at hlv 3 rfl) ?_
      refine ir_lt (tgt := 37) hx hb dX6_personsOnIce_31 (by decide) (by omega) (by first | exact hr_n | omega) (fun c_5 => ?_) (fun c_5 => ?_)
      · obtain ⟨z_6, hz_6⟩ : ∃ z : Int, z = q3 + 1 := ⟨_, rfl⟩
        refine lv_iinc (v := iI z_6) (lv' := [(3, vI z_6), (2, vI q2), (0, vR sA), (1, vI n)]) hx hb dX6_personsOnIce_37 hlv (k := 0) rfl (by rw [hz_6]; exact (Int32.ofInt_add _ _).symm) (by decide) rfl (fun ls hlv => ?_)
        refine lv_goto (tgt := 4) hx hb dX6_personsOnIce_40 (by decide) ?_
        exact ih4 q2 z_6 H locs ls (by omega) (by first | exact hl4_0 | omega) (by omega) (by omega) (by omega)  (hP.sub [2, 0, 1] rfl) (hD.sub [2, 0, 1] (by decide) rfl) hS (lv_sub hlv [0, 1, 2, 3] rfl)
      · obtain ⟨z_7, hz_7⟩ : ∃ z : Int, z = q2 + 1 := ⟨_, rfl⟩
        refine lv_iinc (v := iI z_7) (lv' := [(2, vI z_7), (3, vI q3), (0, vR sA), (1, vI n)]) hx hb dX6_personsOnIce_34 hlv (k := 1) rfl (by rw [hz_7]; exact (Int32.ofInt_add _ _).symm) (by decide) rfl (fun ls hlv => ?_)
        obtain ⟨z_8, hz_8⟩ : ∃ z : Int, z = q3 + 1 := ⟨_, rfl⟩
        refine lv_iinc (v := iI z_8) (lv' := [(3, vI z_8), (2, vI z_7), (0, vR sA), (1, vI n)]) hx hb dX6_personsOnIce_37 hlv (k := 1) rfl (by rw [hz_8]; exact (Int32.ofInt_add _ _).symm) (by decide) rfl (fun ls hlv => ?_)
        refine lv_goto (tgt := 4) hx hb dX6_personsOnIce_40 (by decide) ?_
        exact ih4 z_7 z_8 H locs ls (by omega) (by omega) (by omega) (by omega) (by omega)  (hP.sub [2, 0, 1] rfl) (hD.sub [2, 0, 1] (by decide) rfl) hS (lv_sub hlv [0, 1, 2, 3] rfl)
