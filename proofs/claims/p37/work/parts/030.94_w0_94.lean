section
theorem dL_cell_0 : decode cL_cell 0 = .ok (.aload 4, 2) := by decide +kernel
theorem dL_cell_10 : decode cL_cell 10 = .ok (.i2l, 1) := by decide +kernel
theorem dL_cell_11 : decode cL_cell 11 = .ok (.lastore, 1) := by decide +kernel
theorem dL_cell_12 : decode cL_cell 12 = .ok (.goto 11, 3) := by decide +kernel
theorem dL_cell_15 : decode cL_cell 15 = .ok (.astore 5, 2) := by decide +kernel
theorem dL_cell_17 : decode cL_cell 17 = .ok (.iconst 1, 1) := by decide +kernel
theorem dL_cell_18 : decode cL_cell 18 = .ok (.ireturn, 1) := by decide +kernel
theorem dL_cell_19 : decode cL_cell 19 = .ok (.astore 5, 2) := by decide +kernel
theorem dL_cell_2 : decode cL_cell 2 = .ok (.iconst 0, 1) := by decide +kernel
theorem dL_cell_21 : decode cL_cell 21 = .ok (.iconst 2, 1) := by decide +kernel
theorem dL_cell_22 : decode cL_cell 22 = .ok (.ireturn, 1) := by decide +kernel
theorem dL_cell_23 : decode cL_cell 23 = .ok (.iconst 0, 1) := by decide +kernel
theorem dL_cell_24 : decode cL_cell 24 = .ok (.ireturn, 1) := by decide +kernel
theorem dL_cell_3 : decode cL_cell 3 = .ok (.aload_n 0, 1) := by decide +kernel
theorem dL_cell_4 : decode cL_cell 4 = .ok (.iload_n 1, 1) := by decide +kernel
theorem dL_cell_5 : decode cL_cell 5 = .ok (.iload_n 2, 1) := by decide +kernel
theorem dL_cell_6 : decode cL_cell 6 = .ok (.iload_n 3, 1) := by decide +kernel
theorem dL_cell_7 : decode cL_cell 7 = .ok (.invokevirtual 24, 3) := by decide +kernel
theorem dL_does_0 : decode cL_does 0 = .ok (.aload_n 2, 1) := by decide +kernel
theorem dL_does_1 : decode cL_does 1 = .ok (.iconst 0, 1) := by decide +kernel
theorem dL_does_12 : decode cL_does 12 = .ok (.astore_n 3, 1) := by decide +kernel
theorem dL_does_13 : decode cL_does 13 = .ok (.iconst 1, 1) := by decide +kernel
theorem dL_does_14 : decode cL_does 14 = .ok (.ireturn, 1) := by decide +kernel
theorem dL_does_15 : decode cL_does 15 = .ok (.iconst 0, 1) := by decide +kernel
theorem dL_does_16 : decode cL_does 16 = .ok (.ireturn, 1) := by decide +kernel
theorem dL_does_2 : decode cL_does 2 = .ok (.aload_n 0, 1) := by decide +kernel
theorem dL_does_3 : decode cL_does 3 = .ok (.iload_n 1, 1) := by decide +kernel
theorem dL_does_4 : decode cL_does 4 = .ok (.invokevirtual 45, 3) := by decide +kernel
theorem dL_does_7 : decode cL_does 7 = .ok (.i2l, 1) := by decide +kernel
theorem dL_does_8 : decode cL_does 8 = .ok (.lastore, 1) := by decide +kernel
theorem dL_does_9 : decode cL_does 9 = .ok (.goto 6, 3) := by decide +kernel
theorem dL_drain_0 : decode cL_drain 0 = .ok (.aload_n 3, 1) := by decide +kernel
theorem dL_drain_1 : decode cL_drain 1 = .ok (.iconst 0, 1) := by decide +kernel
theorem dL_drain_10 : decode cL_drain 10 = .ok (.goto 11, 3) := by decide +kernel
theorem dL_drain_13 : decode cL_drain 13 = .ok (.astore 4, 2) := by decide +kernel
theorem dL_drain_15 : decode cL_drain 15 = .ok (.iconst 1, 1) := by decide +kernel
theorem dL_drain_16 : decode cL_drain 16 = .ok (.ireturn, 1) := by decide +kernel
theorem dL_drain_17 : decode cL_drain 17 = .ok (.astore 4, 2) := by decide +kernel
theorem dL_drain_19 : decode cL_drain 19 = .ok (.iconst 2, 1) := by decide +kernel
theorem dL_drain_2 : decode cL_drain 2 = .ok (.aload_n 0, 1) := by decide +kernel
theorem dL_drain_20 : decode cL_drain 20 = .ok (.ireturn, 1) := by decide +kernel
theorem dL_drain_21 : decode cL_drain 21 = .ok (.iconst 0, 1) := by decide +kernel
theorem dL_drain_22 : decode cL_drain 22 = .ok (.ireturn, 1) := by decide +kernel
theorem dL_drain_3 : decode cL_drain 3 = .ok (.iload_n 1, 1) := by decide +kernel
theorem dL_drain_4 : decode cL_drain 4 = .ok (.iload_n 2, 1) := by decide +kernel
theorem dL_drain_5 : decode cL_drain 5 = .ok (.invokevirtual 30, 3) := by decide +kernel
theorem dL_drain_8 : decode cL_drain 8 = .ok (.i2l, 1) := by decide +kernel
theorem dL_drain_9 : decode cL_drain 9 = .ok (.lastore, 1) := by decide +kernel
theorem dL_leaves_0 : decode cL_leaves 0 = .ok (.aload_n 3, 1) := by decide +kernel
theorem dL_leaves_1 : decode cL_leaves 1 = .ok (.iconst 0, 1) := by decide +kernel
theorem dL_leaves_10 : decode cL_leaves 10 = .ok (.goto 11, 3) := by decide +kernel
theorem dL_leaves_13 : decode cL_leaves 13 = .ok (.astore 4, 2) := by decide +kernel
theorem dL_leaves_15 : decode cL_leaves 15 = .ok (.iconst 1, 1) := by decide +kernel
theorem dL_leaves_16 : decode cL_leaves 16 = .ok (.ireturn, 1) := by decide +kernel
theorem dL_leaves_17 : decode cL_leaves 17 = .ok (.astore 4, 2) := by decide +kernel
theorem dL_leaves_19 : decode cL_leaves 19 = .ok (.iconst 2, 1) := by decide +kernel
theorem dL_leaves_2 : decode cL_leaves 2 = .ok (.aload_n 0, 1) := by decide +kernel
theorem dL_leaves_20 : decode cL_leaves 20 = .ok (.ireturn, 1) := by decide +kernel
theorem dL_leaves_21 : decode cL_leaves 21 = .ok (.iconst 0, 1) := by decide +kernel
theorem dL_leaves_22 : decode cL_leaves 22 = .ok (.ireturn, 1) := by decide +kernel
theorem dL_leaves_3 : decode cL_leaves 3 = .ok (.iload_n 1, 1) := by decide +kernel
theorem dL_leaves_4 : decode cL_leaves 4 = .ok (.iload_n 2, 1) := by decide +kernel
theorem dL_leaves_5 : decode cL_leaves 5 = .ok (.invokevirtual 36, 3) := by decide +kernel
theorem dL_leaves_8 : decode cL_leaves 8 = .ok (.i2l, 1) := by decide +kernel
theorem dL_leaves_9 : decode cL_leaves 9 = .ok (.lastore, 1) := by decide +kernel
theorem dL_person_0 : decode cL_person 0 = .ok (.aload_n 3, 1) := by decide +kernel
theorem dL_person_1 : decode cL_person 1 = .ok (.iconst 0, 1) := by decide +kernel
theorem dL_person_10 : decode cL_person 10 = .ok (.goto 11, 3) := by decide +kernel
theorem dL_person_13 : decode cL_person 13 = .ok (.astore 4, 2) := by decide +kernel
theorem dL_person_15 : decode cL_person 15 = .ok (.iconst 1, 1) := by decide +kernel
theorem dL_person_16 : decode cL_person 16 = .ok (.ireturn, 1) := by decide +kernel
theorem dL_person_17 : decode cL_person 17 = .ok (.astore 4, 2) := by decide +kernel
theorem dL_person_19 : decode cL_person 19 = .ok (.iconst 2, 1) := by decide +kernel
theorem dL_person_2 : decode cL_person 2 = .ok (.aload_n 0, 1) := by decide +kernel
theorem dL_person_20 : decode cL_person 20 = .ok (.ireturn, 1) := by decide +kernel
theorem dL_person_21 : decode cL_person 21 = .ok (.iconst 0, 1) := by decide +kernel
theorem dL_person_22 : decode cL_person 22 = .ok (.ireturn, 1) := by decide +kernel
theorem dL_person_3 : decode cL_person 3 = .ok (.iload_n 1, 1) := by decide +kernel
theorem dL_person_4 : decode cL_person 4 = .ok (.iload_n 2, 1) := by decide +kernel
theorem dL_person_5 : decode cL_person 5 = .ok (.invokevirtual 39, 3) := by decide +kernel
theorem dL_person_8 : decode cL_person 8 = .ok (.i2l, 1) := by decide +kernel
theorem dL_person_9 : decode cL_person 9 = .ok (.lastore, 1) := by decide +kernel
theorem dL_told_0 : decode cL_told 0 = .ok (.aload_n 2, 1) := by decide +kernel
theorem dL_told_1 : decode cL_told 1 = .ok (.iconst 0, 1) := by decide +kernel
theorem dL_told_12 : decode cL_told 12 = .ok (.astore_n 3, 1) := by decide +kernel
theorem dL_told_13 : decode cL_told 13 = .ok (.iconst 1, 1) := by decide +kernel
theorem dL_told_14 : decode cL_told 14 = .ok (.ireturn, 1) := by decide +kernel
theorem dL_told_15 : decode cL_told 15 = .ok (.iconst 0, 1) := by decide +kernel
theorem dL_told_16 : decode cL_told 16 = .ok (.ireturn, 1) := by decide +kernel
theorem dL_told_2 : decode cL_told 2 = .ok (.aload_n 0, 1) := by decide +kernel
theorem dL_told_3 : decode cL_told 3 = .ok (.iload_n 1, 1) := by decide +kernel
theorem dL_told_4 : decode cL_told 4 = .ok (.invokevirtual 21, 3) := by decide +kernel
theorem dL_told_7 : decode cL_told 7 = .ok (.i2l, 1) := by decide +kernel
theorem dL_told_8 : decode cL_told 8 = .ok (.lastore, 1) := by decide +kernel
theorem dL_told_9 : decode cL_told 9 = .ok (.goto 6, 3) := by decide +kernel
theorem dL_work_0 : decode cL_work 0 = .ok (.aload_n 3, 1) := by decide +kernel
theorem dL_work_1 : decode cL_work 1 = .ok (.iconst 0, 1) := by decide +kernel
theorem dL_work_10 : decode cL_work 10 = .ok (.goto 11, 3) := by decide +kernel
theorem dL_work_13 : decode cL_work 13 = .ok (.astore 4, 2) := by decide +kernel
theorem dL_work_15 : decode cL_work 15 = .ok (.iconst 1, 1) := by decide +kernel
theorem dL_work_16 : decode cL_work 16 = .ok (.ireturn, 1) := by decide +kernel
theorem dL_work_17 : decode cL_work 17 = .ok (.astore 4, 2) := by decide +kernel
theorem dL_work_19 : decode cL_work 19 = .ok (.iconst 2, 1) := by decide +kernel
theorem dL_work_2 : decode cL_work 2 = .ok (.aload_n 0, 1) := by decide +kernel
theorem dL_work_20 : decode cL_work 20 = .ok (.ireturn, 1) := by decide +kernel
theorem dL_work_21 : decode cL_work 21 = .ok (.iconst 0, 1) := by decide +kernel
theorem dL_work_22 : decode cL_work 22 = .ok (.ireturn, 1) := by decide +kernel
theorem dL_work_3 : decode cL_work 3 = .ok (.iload_n 1, 1) := by decide +kernel
theorem dL_work_4 : decode cL_work 4 = .ok (.iload_n 2, 1) := by decide +kernel
theorem dL_work_5 : decode cL_work 5 = .ok (.invokevirtual 42, 3) := by decide +kernel
theorem dL_work_8 : decode cL_work 8 = .ok (.i2l, 1) := by decide +kernel
theorem dL_work_9 : decode cL_work 9 = .ok (.lastore, 1) := by decide +kernel
def vs_w_told : List Cond := .codeWith yL_told cL_told 4 (some .int) [(0, 9, 12, 13)] :: (([.classLink RL 13 "java/lang/IllegalArgumentException"] : List Cond) ++ ((wsV RL 21 RX11 yX11_told vs_k_told) ++ ([])))
set_option maxHeartbeats 4000000 in
set_option maxRecDepth 100000 in
theorem w_told (l : Launch) (hl : l.stackTraces = false) (D : va_G) (cy : Nat → ClassId) (sa : Nat → Nat) (kk ta kr kl sA dA pa ki kp wa or_ rq : Nat) (nr nw im : Int) (qf : Nat → Int32) (s2 s3 s6 s8 s11 s13 : Nat) (wi ro dr dt pe gu sh wo dn mi fl tk go : Int) (n : Int) (ao : Nat) (av : Int) (sz : Nat) (hr_nr : 0 ≤ nr ∧ nr ≤ 4) (hr_nw : 0 ≤ nw ∧ nw ≤ 4) (hr_im : 0 ≤ im ∧ im ≤ 3) (hr_wi : 0 ≤ wi ∧ wi ≤ 16) (hr_ro : 0 ≤ ro ∧ ro ≤ 6) (hr_dr : 0 ≤ dr ∧ dr ≤ 14) (hr_dt : 0 ≤ dt ∧ dt ≤ 6) (hr_pe : 0 ≤ pe ∧ pe ≤ 8) (hr_gu : 0 ≤ gu ∧ gu ≤ 20) (hr_sh : 0 ≤ sh ∧ sh ≤ 2) (hr_wo : 0 ≤ wo ∧ wo ≤ 8) (hr_dn : (-2147483648) ≤ dn ∧ dn ≤ 2147483647) (hr_mi : 0 ≤ mi ∧ mi ≤ 600) (hr_fl : (-2147483648) ≤ fl ∧ fl ≤ 2147483647) (hr_tk : (-2147483648) ≤ tk ∧ tk ≤ 2147483647) (hr_go : (-2147483648) ≤ go ∧ go ≤ 2147483647) (hr_n : (-2147483648) ≤ n ∧ n ≤ 2147483647) (hr_av : (-2147483648) ≤ av ∧ av ≤ 2147483647) : mI9 l yL_told vs_w_told ({ frames := 8, cells := 1, slots := 6, locals := 142 }) D cy sa sz [vR kk, vI n, vR ao] [zO kk 11 [vR ta, vR kr, vR kl, vI nr, vI nw, vR sA, vR dA, vR pa, vR ki, vR kp, vI im, vR wa, vR or_, vR rq], zI rq (cy 0) 4 qf, zO sA 6 [vI wi, vI ro, vR s2, vR s3, vI dr, vI dt, vR s6, vI pe, vR s8, vI gu, vI sh, vR s11, vI wo, vR s13, vI dn, vI mi, vI fl, vI tk, vI go], zL ao (cy 2) 1 (fun _ => (iI av).toInt64)] (fun (r : Int32) (u : SV) => r = iI (u.2.1 1) ∧ (0 ≤ u.2.1 1 ∧ u.2.1 1 ≤ 1) ∧ ((-2147483648) ≤ u.2.1 2 ∧ u.2.1 2 ≤ 2147483647)) (fun u : SV => [zO kk 11 [vR ta, vR kr, vR kl, vI nr, vI nw, vR sA, vR dA, vR pa, vR ki, vR kp, vI im, vR wa, vR or_, vR rq], zI rq (cy 0) 4 (u.2.2 0), zO sA 6 [vI wi, vI ro, vR s2, vR s3, vI dr, vI dt, vR s6, vI pe, vR s8, vI gu, vI sh, vR s11, vI wo, vR s13, vI dn, vI mi, vI fl, vI tk, vI go], zL ao (cy 2) 1 (fun _ => (iI (u.2.1 2)).toInt64)]) 1 6 := by
  refine va_MetW (cc := cL_told) (maxL := 4) (ret := (some .int)) (by decide) rfl ?_
  intro p e s m args below meth c s₁ B hml hv
  obtain ⟨rfl, hsz, hP, hG, hD0, hT⟩ := hv
  have hx := B.exec
  have hb := B.bytes
  have hr := B.returns
  have hts := atoms_spec (ws := vs_w_told) B.pre
  have hown : s.vm.findClass RL = some m.cls := findClass_of_methodNamed B.named
  have hlocks := B.notSynchronized
  subst hsz
  have hD := hD0.self (sz := s.heap.size)
  generalize hAe : va_A [zO kk 11 [vR ta, vR kr, vR kl, vI nr, vI nw, vR sA, vR dA, vR pa, vR ki, vR kp, vI im, vR wa, vR or_, vR rq], zI rq (cy 0) 4 qf, zO sA 6 [vI wi, vI ro, vR s2, vR s3, vI dr, vI dt, vR s6, vI pe, vR s8, vI gu, vI sh, vR s11, vI wo, vR s13, vI dn, vI mi, vI fl, vI tk, vI go], zL ao (cy 2) 1 (fun _ => (iI av).toInt64)] s.heap.size = A at hD hT ⊢
  have hA : ∀ q : Nat, s.heap.size ≤ q → A q := fun q h => by rw [← hAe]; exact Or.inr h
  have hS : va_S A s.heap s.heap [] := va_S.rf
  have hl0 := lv_entry ([vR kk, vI n, vR ao]) (n := 4) (Nat.le_of_ble_eq_true rfl)
  rw [lg_entry_eq]
  generalize (lg_sl ([vR kk, vI n, vR ao]) ++ List.replicate (4 - (lg_sl ([vR kk, vI n, vR ao])).length) Slot.unset).toArray = ls at hl0 ⊢
  have hlv : lv_has ls 4 [(0, vR kk), (1, vI n), (2, vR ao)] := hl0
  have gg_0 : GoodIn vs_w_told (wsV RL 21 RX11 yX11_told vs_k_told) := goodIn_sub (fun w h => List.mem_cons_of_mem _ (List.mem_append_right _ (List.mem_append_left _ h))) (gd_V gd_k_told (by decide +kernel))
  have xc13 := hts (.classLink RL 13 "java/lang/IllegalArgumentException") (List.mem_of_getElem? (i := 1) rfl)
  have htab : c.exceptionTable.toList = [(⟨0, 9, 12, 13⟩ : ExceptionTableEntry)] := vx_table (x := yL_told) B (hts (.codeWith yL_told cL_told 4 (some .int) [(0, 9, 12, 13)]) List.mem_cons_self)
  refine lv_aload_n hx hb dL_told_0 rfl (lv_at hlv 2 rfl) ?_
  refine lv_iconst (v := iI 0) hx hb dL_told_1 (by decide) ?_
  refine lv_aload_n hx hb dL_told_2 rfl (lv_at hlv 0 rfl) ?_
  refine lv_iload_n hx hb dL_told_3 rfl (lv_at hlv 1 rfl) ?_
  refine cjrx_i [false, false, false, true] (fun pre9 => (vx_runV (As := [vI n]) (rest := [vI 0, vR ao]) ⟨hx, hb, hml, hown, hts⟩ (k_told l hl D cy sa kk ta kr kl sA dA pa ki kp wa or_ rq nr nw im qf s2 s3 s6 s8 s11 s13 wi ro dr dt pe gu sh wo dn mi fl tk go n s.heap.size (by first | exact hr_nr | omega) (by first | exact hr_nw | omega) (by first | exact hr_im | omega) (by first | exact hr_wi | omega) (by first | exact hr_ro | omega) (by first | exact hr_dr | omega) (by first | exact hr_dt | omega) (by first | exact hr_pe | omega) (by first | exact hr_gu | omega) (by first | exact hr_sh | omega) (by first | exact hr_wo | omega) (by first | exact hr_dn | omega) (by first | exact hr_mi | omega) (by first | exact hr_fl | omega) (by first | exact hr_tk | omega) (by first | exact hr_go | omega) (by first | exact hr_n | omega)) (cwV 1 hts gg_0 rfl rfl rfl (by decide +kernel) ⟨Nat.le_of_ble_eq_true rfl, Nat.le_of_ble_eq_true rfl⟩) ⟨pcW.blind, (va_recv hG.1 hP (ci := 11) (q0 := 0) rfl rfl), pre9⟩ rfl rfl hlv.1 rfl (lv_room (Nat.le_of_ble_eq_true rfl)) dL_told_4 ⟨Nat.le_of_ble_eq_true rfl, Nat.le_of_ble_eq_true rfl⟩)) hP hD hS hA hG hT [0, 1, 2] rfl (by decide +kernel) (fun E ux1 ce q9 H locs hp hq9 hS h1 h2 h3 => ?_) (fun r1 u1 H locs hw1 hq9 hS => ?_)
  · obtain ⟨hP, hD⟩ := pd9 [zL ao (cy 2) 1 (fun _ => (iI av).toInt64), zO kk 11 [vR ta, vR kr, vR kl, vI nr, vI nw, vR sA, vR dA, vR pa, vR ki, vR kp, vI im, vR wa, vR or_, vR rq], zI rq (cy 0) 4 (ux1.2.2 0), zO sA 6 [vI wi, vI ro, vR s2, vR s3, vI dr, vI dt, vR s6, vI pe, vR s8, vI gu, vI sh, vR s11, vI wo, vR s13, vI dn, vI mi, vI fl, vI tk, vI go]] hq9
    obtain rfl := hp
    refine vx_catch (name := "java/lang/IllegalArgumentException") hown [] (⟨0, 9, 12, 13⟩ : ExceptionTableEntry) [] htab (fun z hz => absurd hz List.not_mem_nil) (by decide) (by decide) xc13 (va_Nw.use rfl (hG.2.2.2.1 _ (List.mem_of_getElem? (i := 2) rfl))) h1 h2 h3 ?_
    refine lv_astore_n (lv' := [(3, vR q9), (0, vR kk), (1, vI n), (2, vR ao)]) hx hb dL_told_12 rfl hlv (by decide) rfl (fun ls hlv => ?_)
    refine lv_iconst (v := iI 1) hx hb dL_told_13 (by decide) ?_
    refine W.widen (k := 1) (n := 6) (Nat.le_of_ble_eq_true rfl) (Nat.le_of_ble_eq_true rfl) ?_
    exact W.iret (v := iI 1) hx hb hr (fun t ht hW => ⟨⟨iI 1, ((fun k => ([] : List Nat).getD k 0), (fun k => ([0, 1, av] : List Int).getD k 0), (fun k => ([(ux1.2.2 0)] : List (Nat → Int32)).getD k (fun _ => 0))), rfl, ⟨rfl, (by show (0 ≤ 1 ∧ 1 ≤ 1); show (0 : Int) ≤ 1 ∧ (1 : Int) ≤ 1; decide), (by show ((-2147483648) ≤ av ∧ av ≤ 2147483647); first | exact hr_av | omega)⟩, at9 ht hP hD [1, 2, 3, 0] (by decide +kernel) rfl⟩, hS.F ht⟩) hS.2.2 dL_told_14
  obtain ⟨rfl, hq1_1⟩ := hw1
  obtain ⟨hP, hD⟩ := pd9 [zL ao (cy 2) 1 (fun _ => (iI av).toInt64), zO kk 11 [vR ta, vR kr, vR kl, vI nr, vI nw, vR sA, vR dA, vR pa, vR ki, vR kp, vI im, vR wa, vR or_, vR rq], zI rq (cy 0) 4 qf, zO sA 6 [vI wi, vI ro, vR s2, vR s3, vI dr, vI dt, vR s6, vI pe, vR s8, vI gu, vI sh, vR s11, vI wo, vR s13, vI dn, vI mi, vI fl, vI tk, vI go]] hq9
  refine lv_i2l (v := jJ (u1.2.1 0)) hx hb dL_told_7 (jJ_i (by omega)) ?_
  refine va_last hx hb hG.1 hP hD hS 0 2 rfl rfl (iI_in (by omega) (by decide)) dL_told_8 (fun H locs hP hD hS => ?_)
  obtain ⟨hP, hD⟩ := arl 0 (fun _ => (iI (u1.2.1 0)).toInt64) hP hD rfl (arl_2 (by omega))
  obtain ⟨hP, hD⟩ := pw9 [zL ao (cy 2) 1 (fun _ => (iI (u1.2.1 0)).toInt64), zO kk 11 [vR ta, vR kr, vR kl, vI nr, vI nw, vR sA, vR dA, vR pa, vR ki, vR kp, vI im, vR wa, vR or_, vR rq], zI rq (cy 0) 4 qf, zO sA 6 [vI wi, vI ro, vR s2, vR s3, vI dr, vI dt, vR s6, vI pe, vR s8, vI gu, vI sh, vR s11, vI wo, vR s13, vI dn, vI mi, vI fl, vI tk, vI go]] hP hD
  refine lv_goto (tgt := 15) hx hb dL_told_9 (by decide) ?_
  refine lv_iconst (v := iI 0) hx hb dL_told_15 (by decide) ?_
  refine W.widen (k := 1) (n := 6) (Nat.le_of_ble_eq_true rfl) (Nat.le_of_ble_eq_true rfl) ?_
  exact W.iret (v := iI 0) hx hb hr (fun t ht hW => ⟨⟨iI 0, ((fun k => ([] : List Nat).getD k 0), (fun k => ([0, 0, (u1.2.1 0)] : List Int).getD k 0), (fun k => ([qf] : List (Nat → Int32)).getD k (fun _ => 0))), rfl, ⟨rfl, (by show (0 ≤ 0 ∧ 0 ≤ 1); show (0 : Int) ≤ 0 ∧ (0 : Int) ≤ 1; decide), (by show ((-2147483648) ≤ (u1.2.1 0) ∧ (u1.2.1 0) ≤ 2147483647); first | exact hq1_1 | omega)⟩, at9 ht hP hD [1, 2, 3, 0] (by decide +kernel) rfl⟩, hS.F ht⟩) hS.2.2 dL_told_16
def vs_w_cell : List Cond := .codeWith yL_cell cL_cell 6 (some .int) [(0, 12, 15, 28), (0, 12, 19, 13)] :: (([.classLink RL 28 "java/lang/IndexOutOfBoundsException", .classLink RL 13 "java/lang/IllegalArgumentException"] : List Cond) ++ ((wsV RL 24 RX11 yX11_cell vs_k_cell) ++ ([])))
set_option maxHeartbeats 4000000 in
set_option maxRecDepth 100000 in
theorem w_cell (l : Launch) (hl : l.stackTraces = false) (D : va_G) (cy : Nat → ClassId) (sa : Nat → Nat) (kk ta kr kl sA dA pa ki kp wa or_ rq : Nat) (nr nw im : Int) (qf : Nat → Int32) (s2 s3 s6 s8 s11 s13 : Nat) (wi ro dr dt pe gu sh wo dn mi fl tk go : Int) (hf wf : Nat → Int32) (x y n : Int) (ao : Nat) (av : Int) (sz : Nat) (hr_nr : 0 ≤ nr ∧ nr ≤ 4) (hr_nw : 0 ≤ nw ∧ nw ≤ 4) (hr_im : 0 ≤ im ∧ im ≤ 3) (hr_wi : 0 ≤ wi ∧ wi ≤ 16) (hr_ro : 0 ≤ ro ∧ ro ≤ 6) (hr_dr : 0 ≤ dr ∧ dr ≤ 14) (hr_dt : 0 ≤ dt ∧ dt ≤ 6) (hr_pe : 0 ≤ pe ∧ pe ≤ 8) (hr_gu : 0 ≤ gu ∧ gu ≤ 20) (hr_sh : 0 ≤ sh ∧ sh ≤ 2) (hr_wo : 0 ≤ wo ∧ wo ≤ 8) (hr_dn : (-2147483648) ≤ dn ∧ dn ≤ 2147483647) (hr_mi : 0 ≤ mi ∧ mi ≤ 600) (hr_fl : (-2147483648) ≤ fl ∧ fl ≤ 2147483647) (hr_tk : (-2147483648) ≤ tk ∧ tk ≤ 2147483647) (hr_go : (-2147483648) ≤ go ∧ go ≤ 2147483647) (hr_x : (-2147483648) ≤ x ∧ x ≤ 2147483647) (hr_y : (-2147483648) ≤ y ∧ y ≤ 2147483647) (hr_n : (-2147483648) ≤ n ∧ n ≤ 2147483647) (hr_av : (-2147483648) ≤ av ∧ av ≤ 2147483647) (hhf : inv_ 96 0 99 hf) : mI9 l yL_cell vs_w_cell ({ frames := 8, cells := 2, slots := 12, locals := 146 }) D cy sa sz [vR kk, vI x, vI y, vI n, vR ao] [zO kk 11 [vR ta, vR kr, vR kl, vI nr, vI nw, vR sA, vR dA, vR pa, vR ki, vR kp, vI im, vR wa, vR or_, vR rq], zI rq (cy 0) 4 qf, zO sA 6 [vI wi, vI ro, vR s2, vR s3, vI dr, vI dt, vR s6, vI pe, vR s8, vI gu, vI sh, vR s11, vI wo, vR s13, vI dn, vI mi, vI fl, vI tk, vI go], zI s2 (cy 0) 96 hf, zI s3 (cy 0) 96 wf, zL ao (cy 2) 1 (fun _ => (iI av).toInt64)] (fun (r : Int32) (u : SV) => r = iI (u.2.1 1) ∧ (0 ≤ u.2.1 1 ∧ u.2.1 1 ≤ 2) ∧ ((-2147483648) ≤ u.2.1 2 ∧ u.2.1 2 ≤ 2147483647) ∧ inv_ 96 0 99 hf) (fun u : SV => [zO kk 11 [vR ta, vR kr, vR kl, vI nr, vI nw, vR sA, vR dA, vR pa, vR ki, vR kp, vI im, vR wa, vR or_, vR rq], zI rq (cy 0) 4 (u.2.2 0), zO sA 6 [vI wi, vI ro, vR s2, vR s3, vI dr, vI dt, vR s6, vI pe, vR s8, vI gu, vI sh, vR s11, vI wo, vR s13, vI dn, vI mi, vI fl, vI tk, vI go], zI s2 (cy 0) 96 hf, zI s3 (cy 0) 96 wf, zL ao (cy 2) 1 (fun _ => (iI (u.2.1 2)).toInt64)]) 2 12 := by
  refine va_MetW (cc := cL_cell) (maxL := 6) (ret := (some .int)) (by decide) rfl ?_
  intro p e s m args below meth c s₁ B hml hv
  obtain ⟨rfl, hsz, hP, hG, hD0, hT⟩ := hv
  have hx := B.exec
  have hb := B.bytes
  have hr := B.returns
  have hts := atoms_spec (ws := vs_w_cell) B.pre
  have hown : s.vm.findClass RL = some m.cls := findClass_of_methodNamed B.named
  have hlocks := B.notSynchronized
  subst hsz
  have hD := hD0.self (sz := s.heap.size)
  generalize hAe : va_A [zO kk 11 [vR ta, vR kr, vR kl, vI nr, vI nw, vR sA, vR dA, vR pa, vR ki, vR kp, vI im, vR wa, vR or_, vR rq], zI rq (cy 0) 4 qf, zO sA 6 [vI wi, vI ro, vR s2, vR s3, vI dr, vI dt, vR s6, vI pe, vR s8, vI gu, vI sh, vR s11, vI wo, vR s13, vI dn, vI mi, vI fl, vI tk, vI go], zI s2 (cy 0) 96 hf, zI s3 (cy 0) 96 wf, zL ao (cy 2) 1 (fun _ => (iI av).toInt64)] s.heap.size = A at hD hT ⊢
  have hA : ∀ q : Nat, s.heap.size ≤ q → A q := fun q h => by rw [← hAe]; exact Or.inr h
  have hS : va_S A s.heap s.heap [] := va_S.rf
  have hl0 := lv_entry ([vR kk, vI x, vI y, vI n, vR ao]) (n := 6) (Nat.le_of_ble_eq_true rfl)
  rw [lg_entry_eq]
  generalize (lg_sl ([vR kk, vI x, vI y, vI n, vR ao]) ++ List.replicate (6 - (lg_sl ([vR kk, vI x, vI y, vI n, vR ao])).length) Slot.unset).toArray = ls at hl0 ⊢
  have hlv : lv_has ls 6 [(0, vR kk), (1, vI x), (2, vI y), (3, vI n), (4, vR ao)] := hl0
  have gg_0 : GoodIn vs_w_cell (wsV RL 24 RX11 yX11_cell vs_k_cell) := goodIn_sub (fun w h => List.mem_cons_of_mem _ (List.mem_append_right _ (List.mem_append_left _ h))) (gd_V gd_k_cell (by decide +kernel))
  have xc28 := hts (.classLink RL 28 "java/lang/IndexOutOfBoundsException") (List.mem_of_getElem? (i := 1) rfl)
  have xc13 := hts (.classLink RL 13 "java/lang/IllegalArgumentException") (List.mem_of_getElem? (i := 2) rfl)
  have htab : c.exceptionTable.toList = [(⟨0, 12, 15, 28⟩ : ExceptionTableEntry), (⟨0, 12, 19, 13⟩ : ExceptionTableEntry)] := vx_table (x := yL_cell) B (hts (.codeWith yL_cell cL_cell 6 (some .int) [(0, 12, 15, 28), (0, 12, 19, 13)]) List.mem_cons_self)
  refine lv_aload hx hb dL_cell_0 (lv_at hlv 4 rfl) ?_
  refine lv_iconst (v := iI 0) hx hb dL_cell_2 (by decide) ?_
  refine lv_aload_n hx hb dL_cell_3 rfl (lv_at hlv 0 rfl) ?_
  refine lv_iload_n hx hb dL_cell_4 rfl (lv_at hlv 1 rfl) ?_
  refine lv_iload_n hx hb dL_cell_5 rfl (lv_at hlv 2 rfl) ?_
  refine lv_iload_n hx hb dL_cell_6 rfl (lv_at hlv 3 rfl) ?_
  refine cjrx_i [false, false, false, false, false, true] (fun pre9 => (vx_runV (As := [vI x, vI y, vI n]) (rest := [vI 0, vR ao]) ⟨hx, hb, hml, hown, hts⟩ (k_cell l hl D cy sa kk ta kr kl sA dA pa ki kp wa or_ rq nr nw im qf s2 s3 s6 s8 s11 s13 wi ro dr dt pe gu sh wo dn mi fl tk go hf wf x y n s.heap.size (by first | exact hr_nr | omega) (by first | exact hr_nw | omega) (by first | exact hr_im | omega) (by first | exact hr_wi | omega) (by first | exact hr_ro | omega) (by first | exact hr_dr | omega) (by first | exact hr_dt | omega) (by first | exact hr_pe | omega) (by first | exact hr_gu | omega) (by first | exact hr_sh | omega) (by first | exact hr_wo | omega) (by first | exact hr_dn | omega) (by first | exact hr_mi | omega) (by first | exact hr_fl | omega) (by first | exact hr_tk | omega) (by first | exact hr_go | omega) (by first | exact hr_x | omega) (by first | exact hr_y | omega) (by first | exact hr_n | omega) hhf) (cwV 3 hts gg_0 rfl rfl rfl (by decide +kernel) ⟨Nat.le_of_ble_eq_true rfl, Nat.le_of_ble_eq_true rfl⟩) ⟨pcW.blind, (va_recv hG.1 hP (ci := 11) (q0 := 0) rfl rfl), pre9⟩ rfl rfl hlv.1 rfl (lv_room (Nat.le_of_ble_eq_true rfl)) dL_cell_7 ⟨Nat.le_of_ble_eq_true rfl, Nat.le_of_ble_eq_true rfl⟩)) hP hD hS hA hG hT [0, 1, 2, 3, 4] rfl (by decide +kernel) (fun E ux1 ce q9 H locs hp hq9 hS h1 h2 h3 => ?_) (fun r1 u1 H locs hw1 hq9 hS => ?_)
  · obtain ⟨hP, hD⟩ := pd9 [zL ao (cy 2) 1 (fun _ => (iI av).toInt64), zO kk 11 [vR ta, vR kr, vR kl, vI nr, vI nw, vR sA, vR dA, vR pa, vR ki, vR kp, vI im, vR wa, vR or_, vR rq], zI rq (cy 0) 4 (ux1.2.2 0), zO sA 6 [vI wi, vI ro, vR s2, vR s3, vI dr, vI dt, vR s6, vI pe, vR s8, vI gu, vI sh, vR s11, vI wo, vR s13, vI dn, vI mi, vI fl, vI tk, vI go], zI s2 (cy 0) 96 hf, zI s3 (cy 0) 96 wf] hq9
    rcases hp with rfl | rfl
    · refine vx_catch (name := "java/lang/IndexOutOfBoundsException") hown [] (⟨0, 12, 15, 28⟩ : ExceptionTableEntry) [(⟨0, 12, 19, 13⟩ : ExceptionTableEntry)] htab (fun z hz => absurd hz List.not_mem_nil) (by decide) (by decide) xc28 (va_Nw.use rfl (hG.2.2.2.1 _ (List.mem_of_getElem? (i := 0) rfl))) h1 h2 h3 ?_
      refine lv_astore (lv' := [(5, vR q9), (0, vR kk), (1, vI x), (2, vI y), (3, vI n), (4, vR ao)]) hx hb dL_cell_15 hlv (by decide) rfl (fun ls hlv => ?_)
      refine lv_iconst (v := iI 1) hx hb dL_cell_17 (by decide) ?_
      refine W.widen (k := 2) (n := 12) (Nat.le_of_ble_eq_true rfl) (Nat.le_of_ble_eq_true rfl) ?_
      exact W.iret (v := iI 1) hx hb hr (fun t ht hW => ⟨⟨iI 1, ((fun k => ([] : List Nat).getD k 0), (fun k => ([0, 1, av] : List Int).getD k 0), (fun k => ([(ux1.2.2 0)] : List (Nat → Int32)).getD k (fun _ => 0))), rfl, ⟨rfl, (by show (0 ≤ 1 ∧ 1 ≤ 2); show (0 : Int) ≤ 1 ∧ (1 : Int) ≤ 2; decide), (by show ((-2147483648) ≤ av ∧ av ≤ 2147483647); first | exact hr_av | omega), hhf⟩, at9 ht hP hD [1, 2, 3, 4, 5, 0] (by decide +kernel) rfl⟩, hS.F ht⟩) hS.2.2 dL_cell_18
    · refine vx_catch (name := "java/lang/IllegalArgumentException") hown [(⟨0, 12, 15, 28⟩ : ExceptionTableEntry)] (⟨0, 12, 19, 13⟩ : ExceptionTableEntry) [] htab (List.forall_mem_cons.mpr ⟨Or.inr ⟨by decide, "java/lang/IndexOutOfBoundsException", xc28, hG.2.2.2.2.1 _ (List.mem_of_getElem? (i := 2) rfl) _ (List.mem_of_getElem? (i := 0) rfl) (by decide)⟩, fun z hz => absurd hz List.not_mem_nil⟩) (by decide) (by decide) xc13 (va_Nw.use rfl (hG.2.2.2.1 _ (List.mem_of_getElem? (i := 2) rfl))) h1 h2 h3 ?_
      refine lv_astore (lv' := [(5, vR q9), (0, vR kk), (1, vI x), (2, vI y), (3, vI n), (4, vR ao)]) hx hb dL_cell_19 hlv (by decide) rfl (fun ls hlv => ?_)
      refine lv_iconst (v := iI 2) hx hb dL_cell_21 (by decide) ?_
      refine W.widen (k := 2) (n := 12) (Nat.le_of_ble_eq_true rfl) (Nat.le_of_ble_eq_true rfl) ?_
      exact W.iret (v := iI 2) hx hb hr (fun t ht hW => ⟨⟨iI 2, ((fun k => ([] : List Nat).getD k 0), (fun k => ([0, 2, av] : List Int).getD k 0), (fun k => ([(ux1.2.2 0)] : List (Nat → Int32)).getD k (fun _ => 0))), rfl, ⟨rfl, (by show (0 ≤ 2 ∧ 2 ≤ 2); show (0 : Int) ≤ 2 ∧ (2 : Int) ≤ 2; decide), (by show ((-2147483648) ≤ av ∧ av ≤ 2147483647); first | exact hr_av | omega), hhf⟩, at9 ht hP hD [1, 2, 3, 4, 5, 0] (by decide +kernel) rfl⟩, hS.F ht⟩) hS.2.2 dL_cell_22
  obtain ⟨rfl, hq1_1, hq1_2⟩ := hw1
  obtain ⟨hP, hD⟩ := pd9 [zL ao (cy 2) 1 (fun _ => (iI av).toInt64), zO kk 11 [vR ta, vR kr, vR kl, vI nr, vI nw, vR sA, vR dA, vR pa, vR ki, vR kp, vI im, vR wa, vR or_, vR rq], zI rq (cy 0) 4 qf, zO sA 6 [vI wi, vI ro, vR s2, vR s3, vI dr, vI dt, vR s6, vI pe, vR s8, vI gu, vI sh, vR s11, vI wo, vR s13, vI dn, vI mi, vI fl, vI tk, vI go], zI s2 (cy 0) 96 hf, zI s3 (cy 0) 96 wf] hq9
  refine lv_i2l (v := jJ (u1.2.1 0)) hx hb dL_cell_10 (jJ_i (by omega)) ?_
  refine va_last hx hb hG.1 hP hD hS 0 2 rfl rfl (iI_in (by omega) (by decide)) dL_cell_11 (fun H locs hP hD hS => ?_)
  obtain ⟨hP, hD⟩ := arl 0 (fun _ => (iI (u1.2.1 0)).toInt64) hP hD rfl (arl_2 (by omega))
  obtain ⟨hP, hD⟩ := pw9 [zL ao (cy 2) 1 (fun _ => (iI (u1.2.1 0)).toInt64), zO kk 11 [vR ta, vR kr, vR kl, vI nr, vI nw, vR sA, vR dA, vR pa, vR ki, vR kp, vI im, vR wa, vR or_, vR rq], zI rq (cy 0) 4 qf, zO sA 6 [vI wi, vI ro, vR s2, vR s3, vI dr, vI dt, vR s6, vI pe, vR s8, vI gu, vI sh, vR s11, vI wo, vR s13, vI dn, vI mi, vI fl, vI tk, vI go], zI s2 (cy 0) 96 hf, zI s3 (cy 0) 96 wf] hP hD
  refine lv_goto (tgt := 23) hx hb dL_cell_12 (by decide) ?_
  refine lv_iconst (v := iI 0) hx hb dL_cell_23 (by decide) ?_
  refine W.widen (k := 2) (n := 12) (Nat.le_of_ble_eq_true rfl) (Nat.le_of_ble_eq_true rfl) ?_
  exact W.iret (v := iI 0) hx hb hr (fun t ht hW => ⟨⟨iI 0, ((fun k => ([] : List Nat).getD k 0), (fun k => ([0, 0, (u1.2.1 0)] : List Int).getD k 0), (fun k => ([qf] : List (Nat → Int32)).getD k (fun _ => 0))), rfl, ⟨rfl, (by show (0 ≤ 0 ∧ 0 ≤ 2); show (0 : Int) ≤ 0 ∧ (0 : Int) ≤ 2; decide), (by show ((-2147483648) ≤ (u1.2.1 0) ∧ (u1.2.1 0) ≤ 2147483647); first | exact hq1_1 | omega), hq1_2⟩, at9 ht hP hD [1, 2, 3, 4, 5, 0] (by decide +kernel) rfl⟩, hS.F ht⟩) hS.2.2 dL_cell_24
def vs_w_drain : List Cond := .codeWith yL_drain cL_drain 5 (some .int) [(0, 10, 13, 34), (0, 10, 17, 13)] :: (([.classLink RL 34 "java/util/NoSuchElementException", .classLink RL 13 "java/lang/IllegalArgumentException"] : List Cond) ++ ((wsV RL 30 RX11 yX11_drain vs_k_drain) ++ ([])))
set_option maxHeartbeats 4000000 in
set_option maxRecDepth 100000 in
theorem w_drain (l : Launch) (hl : l.stackTraces = false) (D : va_G) (cy : Nat → ClassId) (sa : Nat → Nat) (kk ta kr kl sA dA pa ki kp wa or_ rq : Nat) (nr nw im : Int) (qf : Nat → Int32) (s2 s3 s6 s8 s11 s13 : Nat) (wi ro dr dt pe gu sh wo dn mi fl tk go : Int) (df : Nat → Int32) (n k : Int) (ao : Nat) (av : Int) (sz : Nat) (hr_nr : 0 ≤ nr ∧ nr ≤ 4) (hr_nw : 0 ≤ nw ∧ nw ≤ 4) (hr_im : 0 ≤ im ∧ im ≤ 3) (hr_wi : 0 ≤ wi ∧ wi ≤ 16) (hr_ro : 0 ≤ ro ∧ ro ≤ 6) (hr_dr : 0 ≤ dr ∧ dr ≤ 14) (hr_dt : 0 ≤ dt ∧ dt ≤ 6) (hr_pe : 0 ≤ pe ∧ pe ≤ 8) (hr_gu : 0 ≤ gu ∧ gu ≤ 20) (hr_sh : 0 ≤ sh ∧ sh ≤ 2) (hr_wo : 0 ≤ wo ∧ wo ≤ 8) (hr_dn : (-2147483648) ≤ dn ∧ dn ≤ 2147483647) (hr_mi : 0 ≤ mi ∧ mi ≤ 600) (hr_fl : (-2147483648) ≤ fl ∧ fl ≤ 2147483647) (hr_tk : (-2147483648) ≤ tk ∧ tk ≤ 2147483647) (hr_go : (-2147483648) ≤ go ∧ go ≤ 2147483647) (hr_n : (-2147483648) ≤ n ∧ n ≤ 2147483647) (hr_k : (-2147483648) ≤ k ∧ k ≤ 2147483647) (hr_av : (-2147483648) ≤ av ∧ av ≤ 2147483647) (hdf : tab_ 4 14 [0, 0, 0, 0] [15, 5, 99, 16] df) : mI9 l yL_drain vs_w_drain ({ frames := 8, cells := 2, slots := 12, locals := 143 }) D cy sa sz [vR kk, vI n, vI k, vR ao] [zO kk 11 [vR ta, vR kr, vR kl, vI nr, vI nw, vR sA, vR dA, vR pa, vR ki, vR kp, vI im, vR wa, vR or_, vR rq], zI rq (cy 0) 4 qf, zO sA 6 [vI wi, vI ro, vR s2, vR s3, vI dr, vI dt, vR s6, vI pe, vR s8, vI gu, vI sh, vR s11, vI wo, vR s13, vI dn, vI mi, vI fl, vI tk, vI go], zI s6 (cy 0) 56 df, zL ao (cy 2) 1 (fun _ => (iI av).toInt64)] (fun (r : Int32) (u : SV) => r = iI (u.2.1 1) ∧ (0 ≤ u.2.1 1 ∧ u.2.1 1 ≤ 2) ∧ ((-2147483648) ≤ u.2.1 2 ∧ u.2.1 2 ≤ 2147483647) ∧ tab_ 4 14 [0, 0, 0, 0] [15, 5, 99, 16] df) (fun u : SV => [zO kk 11 [vR ta, vR kr, vR kl, vI nr, vI nw, vR sA, vR dA, vR pa, vR ki, vR kp, vI im, vR wa, vR or_, vR rq], zI rq (cy 0) 4 (u.2.2 0), zO sA 6 [vI wi, vI ro, vR s2, vR s3, vI dr, vI dt, vR s6, vI pe, vR s8, vI gu, vI sh, vR s11, vI wo, vR s13, vI dn, vI mi, vI fl, vI tk, vI go], zI s6 (cy 0) 56 df, zL ao (cy 2) 1 (fun _ => (iI (u.2.1 2)).toInt64)]) 2 12 := by
  refine va_MetW (cc := cL_drain) (maxL := 5) (ret := (some .int)) (by decide) rfl ?_
  intro p e s m args below meth c s₁ B hml hv
  obtain ⟨rfl, hsz, hP, hG, hD0, hT⟩ := hv
  have hx := B.exec
  have hb := B.bytes
  have hr := B.returns
  have hts := atoms_spec (ws := vs_w_drain) B.pre
  have hown : s.vm.findClass RL = some m.cls := findClass_of_methodNamed B.named
  have hlocks := B.notSynchronized
  subst hsz
  have hD := hD0.self (sz := s.heap.size)
  generalize hAe : va_A [zO kk 11 [vR ta, vR kr, vR kl, vI nr, vI nw, vR sA, vR dA, vR pa, vR ki, vR kp, vI im, vR wa, vR or_, vR rq], zI rq (cy 0) 4 qf, zO sA 6 [vI wi, vI ro, vR s2, vR s3, vI dr, vI dt, vR s6, vI pe, vR s8, vI gu, vI sh, vR s11, vI wo, vR s13, vI dn, vI mi, vI fl, vI tk, vI go], zI s6 (cy 0) 56 df, zL ao (cy 2) 1 (fun _ => (iI av).toInt64)] s.heap.size = A at hD hT ⊢
  have hA : ∀ q : Nat, s.heap.size ≤ q → A q := fun q h => by rw [← hAe]; exact Or.inr h
  have hS : va_S A s.heap s.heap [] := va_S.rf
  have hl0 := lv_entry ([vR kk, vI n, vI k, vR ao]) (n := 5) (Nat.le_of_ble_eq_true rfl)
  rw [lg_entry_eq]
  generalize (lg_sl ([vR kk, vI n, vI k, vR ao]) ++ List.replicate (5 - (lg_sl ([vR kk, vI n, vI k, vR ao])).length) Slot.unset).toArray = ls at hl0 ⊢
  have hlv : lv_has ls 5 [(0, vR kk), (1, vI n), (2, vI k), (3, vR ao)] := hl0
  have gg_0 : GoodIn vs_w_drain (wsV RL 30 RX11 yX11_drain vs_k_drain) := goodIn_sub (fun w h => List.mem_cons_of_mem _ (List.mem_append_right _ (List.mem_append_left _ h))) (gd_V gd_k_drain (by decide +kernel))
  have xc34 := hts (.classLink RL 34 "java/util/NoSuchElementException") (List.mem_of_getElem? (i := 1) rfl)
  have xc13 := hts (.classLink RL 13 "java/lang/IllegalArgumentException") (List.mem_of_getElem? (i := 2) rfl)
  have htab : c.exceptionTable.toList = [(⟨0, 10, 13, 34⟩ : ExceptionTableEntry), (⟨0, 10, 17, 13⟩ : ExceptionTableEntry)] := vx_table (x := yL_drain) B (hts (.codeWith yL_drain cL_drain 5 (some .int) [(0, 10, 13, 34), (0, 10, 17, 13)]) List.mem_cons_self)
  refine lv_aload_n hx hb dL_drain_0 rfl (lv_at hlv 3 rfl) ?_
  refine lv_iconst (v := iI 0) hx hb dL_drain_1 (by decide) ?_
  refine lv_aload_n hx hb dL_drain_2 rfl (lv_at hlv 0 rfl) ?_
  refine lv_iload_n hx hb dL_drain_3 rfl (lv_at hlv 1 rfl) ?_
  refine lv_iload_n hx hb dL_drain_4 rfl (lv_at hlv 2 rfl) ?_
  refine cjrx_i [false, false, false, false, true] (fun pre9 => (vx_runV (As := [vI n, vI k]) (rest := [vI 0, vR ao]) ⟨hx, hb, hml, hown, hts⟩ (k_drain l hl D cy sa kk ta kr kl sA dA pa ki kp wa or_ rq nr nw im qf s2 s3 s6 s8 s11 s13 wi ro dr dt pe gu sh wo dn mi fl tk go df n k s.heap.size (by first | exact hr_nr | omega) (by first | exact hr_nw | omega) (by first | exact hr_im | omega) (by first | exact hr_wi | omega) (by first | exact hr_ro | omega) (by first | exact hr_dr | omega) (by first | exact hr_dt | omega) (by first | exact hr_pe | omega) (by first | exact hr_gu | omega) (by first | exact hr_sh | omega) (by first | exact hr_wo | omega) (by first | exact hr_dn | omega) (by first | exact hr_mi | omega) (by first | exact hr_fl | omega) (by first | exact hr_tk | omega) (by first | exact hr_go | omega) (by first | exact hr_n | omega) (by first | exact hr_k | omega) hdf) (cwV 2 hts gg_0 rfl rfl rfl (by decide +kernel) ⟨Nat.le_of_ble_eq_true rfl, Nat.le_of_ble_eq_true rfl⟩) ⟨pcW.blind, (va_recv hG.1 hP (ci := 11) (q0 := 0) rfl rfl), pre9⟩ rfl rfl hlv.1 rfl (lv_room (Nat.le_of_ble_eq_true rfl)) dL_drain_5 ⟨Nat.le_of_ble_eq_true rfl, Nat.le_of_ble_eq_true rfl⟩)) hP hD hS hA hG hT [0, 1, 2, 3] rfl (by decide +kernel) (fun E ux1 ce q9 H locs hp hq9 hS h1 h2 h3 => ?_) (fun r1 u1 H locs hw1 hq9 hS => ?_)
  · obtain ⟨hP, hD⟩ := pd9 [zL ao (cy 2) 1 (fun _ => (iI av).toInt64), zO kk 11 [vR ta, vR kr, vR kl, vI nr, vI nw, vR sA, vR dA, vR pa, vR ki, vR kp, vI im, vR wa, vR or_, vR rq], zI rq (cy 0) 4 (ux1.2.2 0), zO sA 6 [vI wi, vI ro, vR s2, vR s3, vI dr, vI dt, vR s6, vI pe, vR s8, vI gu, vI sh, vR s11, vI wo, vR s13, vI dn, vI mi, vI fl, vI tk, vI go], zI s6 (cy 0) 56 df] hq9
    rcases hp with rfl | rfl
    · refine vx_catch (name := "java/util/NoSuchElementException") hown [] (⟨0, 10, 13, 34⟩ : ExceptionTableEntry) [(⟨0, 10, 17, 13⟩ : ExceptionTableEntry)] htab (fun z hz => absurd hz List.not_mem_nil) (by decide) (by decide) xc34 (va_Nw.use rfl (hG.2.2.2.1 _ (List.mem_of_getElem? (i := 1) rfl))) h1 h2 h3 ?_
      refine lv_astore (lv' := [(4, vR q9), (0, vR kk), (1, vI n), (2, vI k), (3, vR ao)]) hx hb dL_drain_13 hlv (by decide) rfl (fun ls hlv => ?_)
      refine lv_iconst (v := iI 1) hx hb dL_drain_15 (by decide) ?_
      refine W.widen (k := 2) (n := 12) (Nat.le_of_ble_eq_true rfl) (Nat.le_of_ble_eq_true rfl) ?_
      exact W.iret (v := iI 1) hx hb hr (fun t ht hW => ⟨⟨iI 1, ((fun k => ([] : List Nat).getD k 0), (fun k => ([0, 1, av] : List Int).getD k 0), (fun k => ([(ux1.2.2 0)] : List (Nat → Int32)).getD k (fun _ => 0))), rfl, ⟨rfl, (by show (0 ≤ 1 ∧ 1 ≤ 2); show (0 : Int) ≤ 1 ∧ (1 : Int) ≤ 2; decide), (by show ((-2147483648) ≤ av ∧ av ≤ 2147483647); first | exact hr_av | omega), hdf⟩, at9 ht hP hD [1, 2, 3, 4, 0] (by decide +kernel) rfl⟩, hS.F ht⟩) hS.2.2 dL_drain_16
    · refine vx_catch (name := "java/lang/IllegalArgumentException") hown [(⟨0, 10, 13, 34⟩ : ExceptionTableEntry)] (⟨0, 10, 17, 13⟩ : ExceptionTableEntry) [] htab (List.forall_mem_cons.mpr ⟨Or.inr ⟨by decide, "java/util/NoSuchElementException", xc34, hG.2.2.2.2.1 _ (List.mem_of_getElem? (i := 2) rfl) _ (List.mem_of_getElem? (i := 1) rfl) (by decide)⟩, fun z hz => absurd hz List.not_mem_nil⟩) (by decide) (by decide) xc13 (va_Nw.use rfl (hG.2.2.2.1 _ (List.mem_of_getElem? (i := 2) rfl))) h1 h2 h3 ?_
      refine lv_astore (lv' := [(4, vR q9), (0, vR kk), (1, vI n), (2, vI k), (3, vR ao)]) hx hb dL_drain_17 hlv (by decide) rfl (fun ls hlv => ?_)
      refine lv_iconst (v := iI 2) hx hb dL_drain_19 (by decide) ?_
      refine W.widen (k := 2) (n := 12) (Nat.le_of_ble_eq_true rfl) (Nat.le_of_ble_eq_true rfl) ?_
      exact W.iret (v := iI 2) hx hb hr (fun t ht hW => ⟨⟨iI 2, ((fun k => ([] : List Nat).getD k 0), (fun k => ([0, 2, av] : List Int).getD k 0), (fun k => ([(ux1.2.2 0)] : List (Nat → Int32)).getD k (fun _ => 0))), rfl, ⟨rfl, (by show (0 ≤ 2 ∧ 2 ≤ 2); show (0 : Int) ≤ 2 ∧ (2 : Int) ≤ 2; decide), (by show ((-2147483648) ≤ av ∧ av ≤ 2147483647); first | exact hr_av | omega), hdf⟩, at9 ht hP hD [1, 2, 3, 4, 0] (by decide +kernel) rfl⟩, hS.F ht⟩) hS.2.2 dL_drain_20
  obtain ⟨rfl, hq1_1, hq1_2⟩ := hw1
  obtain ⟨hP, hD⟩ := pd9 [zL ao (cy 2) 1 (fun _ => (iI av).toInt64), zO kk 11 [vR ta, vR kr, vR kl, vI nr, vI nw, vR sA, vR dA, vR pa, vR ki, vR kp, vI im, vR wa, vR or_, vR rq], zI rq (cy 0) 4 qf, zO sA 6 [vI wi, vI ro, vR s2, vR s3, vI dr, vI dt, vR s6, vI pe, vR s8, vI gu, vI sh, vR s11, vI wo, vR s13, vI dn, vI mi, vI fl, vI tk, vI go], zI s6 (cy 0) 56 df] hq9
  refine lv_i2l (v := jJ (u1.2.1 0)) hx hb dL_drain_8 (jJ_i (by omega)) ?_
  refine va_last hx hb hG.1 hP hD hS 0 2 rfl rfl (iI_in (by omega) (by decide)) dL_drain_9 (fun H locs hP hD hS => ?_)
  obtain ⟨hP, hD⟩ := arl 0 (fun _ => (iI (u1.2.1 0)).toInt64) hP hD rfl (arl_2 (by omega))
  obtain ⟨hP, hD⟩ := pw9 [zL ao (cy 2) 1 (fun _ => (iI (u1.2.1 0)).toInt64), zO kk 11 [vR ta, vR kr, vR kl, vI nr, vI nw, vR sA, vR dA, vR pa, vR ki, vR kp, vI im, vR wa, vR or_, vR rq], zI rq (cy 0) 4 qf, zO sA 6 [vI wi, vI ro, vR s2, vR s3, vI dr, vI dt, vR s6, vI pe, vR s8, vI gu, vI sh, vR s11, vI wo, vR s13, vI dn, vI mi, vI fl, vI tk, vI go], zI s6 (cy 0) 56 df] hP hD
  refine lv_goto (tgt := 21) hx hb dL_drain_10 (by decide) ?_
  refine lv_iconst (v := iI 0) hx hb dL_drain_21 (by decide) ?_
  refine W.widen (k := 2) (n := 12) (Nat.le_of_ble_eq_true rfl) (Nat.le_of_ble_eq_true rfl) ?_
  exact W.iret (v := iI 0) hx hb hr (fun t ht hW => ⟨⟨iI 0, ((fun k => ([] : List Nat).getD k 0), (fun k => ([0, 0, (u1.2.1 0)] : List Int).getD k 0), (fun k => ([qf] : List (Nat → Int32)).getD k (fun _ => 0))), rfl, ⟨rfl, (by show (0 ≤ 0 ∧ 0 ≤ 2); show (0 : Int) ≤ 0 ∧ (0 : Int) ≤ 2; decide), (by show ((-2147483648) ≤ (u1.2.1 0) ∧ (u1.2.1 0) ≤ 2147483647); first | exact hq1_1 | omega), hq1_2⟩, at9 ht hP hD [1, 2, 3, 4, 0] (by decide +kernel) rfl⟩, hS.F ht⟩) hS.2.2 dL_drain_22
def vs_w_leaves : List Cond := .codeWith yL_leaves cL_leaves 5 (some .int) [(0, 10, 13, 34), (0, 10, 17, 13)] :: (([.classLink RL 34 "java/util/NoSuchElementException", .classLink RL 13 "java/lang/IllegalArgumentException"] : List Cond) ++ ((wsV RL 36 RX11 yX11_leaves vs_k_leaves) ++ ([])))
set_option maxHeartbeats 4000000 in
set_option maxRecDepth 100000 in
theorem w_leaves (l : Launch) (hl : l.stackTraces = false) (D : va_G) (cy : Nat → ClassId) (sa : Nat → Nat) (kk ta kr kl sA dA pa ki kp wa or_ rq : Nat) (nr nw im : Int) (qf : Nat → Int32) (s2 s3 s6 s8 s11 s13 : Nat) (wi ro dr dt pe gu sh wo dn mi fl tk go : Int) (df : Nat → Int32) (n k : Int) (ao : Nat) (av : Int) (sz : Nat) (hr_nr : 0 ≤ nr ∧ nr ≤ 4) (hr_nw : 0 ≤ nw ∧ nw ≤ 4) (hr_im : 0 ≤ im ∧ im ≤ 3) (hr_wi : 0 ≤ wi ∧ wi ≤ 16) (hr_ro : 0 ≤ ro ∧ ro ≤ 6) (hr_dr : 0 ≤ dr ∧ dr ≤ 14) (hr_dt : 0 ≤ dt ∧ dt ≤ 6) (hr_pe : 0 ≤ pe ∧ pe ≤ 8) (hr_gu : 0 ≤ gu ∧ gu ≤ 20) (hr_sh : 0 ≤ sh ∧ sh ≤ 2) (hr_wo : 0 ≤ wo ∧ wo ≤ 8) (hr_dn : (-2147483648) ≤ dn ∧ dn ≤ 2147483647) (hr_mi : 0 ≤ mi ∧ mi ≤ 600) (hr_fl : (-2147483648) ≤ fl ∧ fl ≤ 2147483647) (hr_tk : (-2147483648) ≤ tk ∧ tk ≤ 2147483647) (hr_go : (-2147483648) ≤ go ∧ go ≤ 2147483647) (hr_n : (-2147483648) ≤ n ∧ n ≤ 2147483647) (hr_k : (-2147483648) ≤ k ∧ k ≤ 2147483647) (hr_av : (-2147483648) ≤ av ∧ av ≤ 2147483647) (hdf : tab_ 4 14 [0, 0, 0, 0] [15, 5, 99, 16] df) : mI9 l yL_leaves vs_w_leaves ({ frames := 8, cells := 2, slots := 12, locals := 145 }) D cy sa sz [vR kk, vI n, vI k, vR ao] [zO kk 11 [vR ta, vR kr, vR kl, vI nr, vI nw, vR sA, vR dA, vR pa, vR ki, vR kp, vI im, vR wa, vR or_, vR rq], zI rq (cy 0) 4 qf, zO sA 6 [vI wi, vI ro, vR s2, vR s3, vI dr, vI dt, vR s6, vI pe, vR s8, vI gu, vI sh, vR s11, vI wo, vR s13, vI dn, vI mi, vI fl, vI tk, vI go], zI s6 (cy 0) 56 df, zL ao (cy 2) 1 (fun _ => (iI av).toInt64)] (fun (r : Int32) (u : SV) => r = iI (u.2.1 1) ∧ (0 ≤ u.2.1 1 ∧ u.2.1 1 ≤ 2) ∧ ((-2147483648) ≤ u.2.1 2 ∧ u.2.1 2 ≤ 2147483647) ∧ tab_ 4 14 [0, 0, 0, 0] [15, 5, 99, 16] (u.2.2 0)) (fun u : SV => [zO kk 11 [vR ta, vR kr, vR kl, vI nr, vI nw, vR sA, vR dA, vR pa, vR ki, vR kp, vI im, vR wa, vR or_, vR rq], zI rq (cy 0) 4 (u.2.2 1), zO sA 6 [vI wi, vI ro, vR s2, vR s3, vI dr, vI dt, vR s6, vI pe, vR s8, vI gu, vI sh, vR s11, vI wo, vR s13, vI dn, vI mi, vI fl, vI tk, vI go], zI s6 (cy 0) 56 (u.2.2 0), zL ao (cy 2) 1 (fun _ => (iI (u.2.1 2)).toInt64)]) 2 12 := by
  refine va_MetW (cc := cL_leaves) (maxL := 5) (ret := (some .int)) (by decide) rfl ?_
  intro p e s m args below meth c s₁ B hml hv
  obtain ⟨rfl, hsz, hP, hG, hD0, hT⟩ := hv
  have hx := B.exec
  have hb := B.bytes
  have hr := B.returns
  have hts := atoms_spec (ws := vs_w_leaves) B.pre
  have hown : s.vm.findClass RL = some m.cls := findClass_of_methodNamed B.named
  have hlocks := B.notSynchronized
  subst hsz
  have hD := hD0.self (sz := s.heap.size)
  generalize hAe : va_A [zO kk 11 [vR ta, vR kr, vR kl, vI nr, vI nw, vR sA, vR dA, vR pa, vR ki, vR kp, vI im, vR wa, vR or_, vR rq], zI rq (cy 0) 4 qf, zO sA 6 [vI wi, vI ro, vR s2, vR s3, vI dr, vI dt, vR s6, vI pe, vR s8, vI gu, vI sh, vR s11, vI wo, vR s13, vI dn, vI mi, vI fl, vI tk, vI go], zI s6 (cy 0) 56 df, zL ao (cy 2) 1 (fun _ => (iI av).toInt64)] s.heap.size = A at hD hT ⊢
  have hA : ∀ q : Nat, s.heap.size ≤ q → A q := fun q h => by rw [← hAe]; exact Or.inr h
  have hS : va_S A s.heap s.heap [] := va_S.rf
  have hl0 := lv_entry ([vR kk, vI n, vI k, vR ao]) (n := 5) (Nat.le_of_ble_eq_true rfl)
  rw [lg_entry_eq]
  generalize (lg_sl ([vR kk, vI n, vI k, vR ao]) ++ List.replicate (5 - (lg_sl ([vR kk, vI n, vI k, vR ao])).length) Slot.unset).toArray = ls at hl0 ⊢
  have hlv : lv_has ls 5 [(0, vR kk), (1, vI n), (2, vI k), (3, vR ao)] := hl0
  have gg_0 : GoodIn vs_w_leaves (wsV RL 36 RX11 yX11_leaves vs_k_leaves) := goodIn_sub (fun w h => List.mem_cons_of_mem _ (List.mem_append_right _ (List.mem_append_left _ h))) (gd_V gd_k_leaves (by decide +kernel))
  have xc34 := hts (.classLink RL 34 "java/util/NoSuchElementException") (List.mem_of_getElem? (i := 1) rfl)
  have xc13 := hts (.classLink RL 13 "java/lang/IllegalArgumentException") (List.mem_of_getElem? (i := 2) rfl)
  have htab : c.exceptionTable.toList = [(⟨0, 10, 13, 34⟩ : ExceptionTableEntry), (⟨0, 10, 17, 13⟩ : ExceptionTableEntry)] := vx_table (x := yL_leaves) B (hts (.codeWith yL_leaves cL_leaves 5 (some .int) [(0, 10, 13, 34), (0, 10, 17, 13)]) List.mem_cons_self)
  refine lv_aload_n hx hb dL_leaves_0 rfl (lv_at hlv 3 rfl) ?_
  refine lv_iconst (v := iI 0) hx hb dL_leaves_1 (by decide) ?_
  refine lv_aload_n hx hb dL_leaves_2 rfl (lv_at hlv 0 rfl) ?_
  refine lv_iload_n hx hb dL_leaves_3 rfl (lv_at hlv 1 rfl) ?_
  refine lv_iload_n hx hb dL_leaves_4 rfl (lv_at hlv 2 rfl) ?_
  refine cjrx_i [false, false, false, false, true] (fun pre9 => (vx_runV (As := [vI n, vI k]) (rest := [vI 0, vR ao]) ⟨hx, hb, hml, hown, hts⟩ (k_leaves l hl D cy sa kk ta kr kl sA dA pa ki kp wa or_ rq nr nw im qf s2 s3 s6 s8 s11 s13 wi ro dr dt pe gu sh wo dn mi fl tk go df n k s.heap.size (by first | exact hr_nr | omega) (by first | exact hr_nw | omega) (by first | exact hr_im | omega) (by first | exact hr_wi | omega) (by first | exact hr_ro | omega) (by first | exact hr_dr | omega) (by first | exact hr_dt | omega) (by first | exact hr_pe | omega) (by first | exact hr_gu | omega) (by first | exact hr_sh | omega) (by first | exact hr_wo | omega) (by first | exact hr_dn | omega) (by first | exact hr_mi | omega) (by first | exact hr_fl | omega) (by first | exact hr_tk | omega) (by first | exact hr_go | omega) (by first | exact hr_n | omega) (by first | exact hr_k | omega) hdf) (cwV 2 hts gg_0 rfl rfl rfl (by decide +kernel) ⟨Nat.le_of_ble_eq_true rfl, Nat.le_of_ble_eq_true rfl⟩) ⟨pcW.blind, (va_recv hG.1 hP (ci := 11) (q0 := 0) rfl rfl), pre9⟩ rfl rfl hlv.1 rfl (lv_room (Nat.le_of_ble_eq_true rfl)) dL_leaves_5 ⟨Nat.le_of_ble_eq_true rfl, Nat.le_of_ble_eq_true rfl⟩)) hP hD hS hA hG hT [0, 1, 2, 3] rfl (by decide +kernel) (fun E ux1 ce q9 H locs hp hq9 hS h1 h2 h3 => ?_) (fun r1 u1 H locs hw1 hq9 hS => ?_)
  · obtain ⟨hP, hD⟩ := pd9 [zL ao (cy 2) 1 (fun _ => (iI av).toInt64), zO kk 11 [vR ta, vR kr, vR kl, vI nr, vI nw, vR sA, vR dA, vR pa, vR ki, vR kp, vI im, vR wa, vR or_, vR rq], zI rq (cy 0) 4 (ux1.2.2 0), zO sA 6 [vI wi, vI ro, vR s2, vR s3, vI dr, vI dt, vR s6, vI pe, vR s8, vI gu, vI sh, vR s11, vI wo, vR s13, vI dn, vI mi, vI fl, vI tk, vI go], zI s6 (cy 0) 56 df] hq9
    rcases hp with rfl | rfl
    · refine vx_catch (name := "java/util/NoSuchElementException") hown [] (⟨0, 10, 13, 34⟩ : ExceptionTableEntry) [(⟨0, 10, 17, 13⟩ : ExceptionTableEntry)] htab (fun z hz => absurd hz List.not_mem_nil) (by decide) (by decide) xc34 (va_Nw.use rfl (hG.2.2.2.1 _ (List.mem_of_getElem? (i := 1) rfl))) h1 h2 h3 ?_
      refine lv_astore (lv' := [(4, vR q9), (0, vR kk), (1, vI n), (2, vI k), (3, vR ao)]) hx hb dL_leaves_13 hlv (by decide) rfl (fun ls hlv => ?_)
      refine lv_iconst (v := iI 1) hx hb dL_leaves_15 (by decide) ?_
      refine W.widen (k := 2) (n := 12) (Nat.le_of_ble_eq_true rfl) (Nat.le_of_ble_eq_true rfl) ?_
      exact W.iret (v := iI 1) hx hb hr (fun t ht hW => ⟨⟨iI 1, ((fun k => ([] : List Nat).getD k 0), (fun k => ([0, 1, av] : List Int).getD k 0), (fun k => ([df, (ux1.2.2 0)] : List (Nat → Int32)).getD k (fun _ => 0))), rfl, ⟨rfl, (by show (0 ≤ 1 ∧ 1 ≤ 2); show (0 : Int) ≤ 1 ∧ (1 : Int) ≤ 2; decide), (by show ((-2147483648) ≤ av ∧ av ≤ 2147483647); first | exact hr_av | omega), hdf⟩, at9 ht hP hD [1, 2, 3, 4, 0] (by decide +kernel) rfl⟩, hS.F ht⟩) hS.2.2 dL_leaves_16
    · refine vx_catch (name := "java/lang/IllegalArgumentException") hown [(⟨0, 10, 13, 34⟩ : ExceptionTableEntry)] (⟨0, 10, 17, 13⟩ : ExceptionTableEntry) [] htab (List.forall_mem_cons.mpr ⟨Or.inr ⟨by decide, "java/util/NoSuchElementException", xc34, hG.2.2.2.2.1 _ (List.mem_of_getElem? (i := 2) rfl) _ (List.mem_of_getElem? (i := 1) rfl) (by decide)⟩, fun z hz => absurd hz List.not_mem_nil⟩) (by decide) (by decide) xc13 (va_Nw.use rfl (hG.2.2.2.1 _ (List.mem_of_getElem? (i := 2) rfl))) h1 h2 h3 ?_
      refine lv_astore (lv' := [(4, vR q9), (0, vR kk), (1, vI n), (2, vI k), (3, vR ao)]) hx hb dL_leaves_17 hlv (by decide) rfl (fun ls hlv => ?_)
      refine lv_iconst (v := iI 2) hx hb dL_leaves_19 (by decide) ?_
      refine W.widen (k := 2) (n := 12) (Nat.le_of_ble_eq_true rfl) (Nat.le_of_ble_eq_true rfl) ?_
      exact W.iret (v := iI 2) hx hb hr (fun t ht hW => ⟨⟨iI 2, ((fun k => ([] : List Nat).getD k 0), (fun k => ([0, 2, av] : List Int).getD k 0), (fun k => ([df, (ux1.2.2 0)] : List (Nat → Int32)).getD k (fun _ => 0))), rfl, ⟨rfl, (by show (0 ≤ 2 ∧ 2 ≤ 2); show (0 : Int) ≤ 2 ∧ (2 : Int) ≤ 2; decide), (by show ((-2147483648) ≤ av ∧ av ≤ 2147483647); first | exact hr_av | omega), hdf⟩, at9 ht hP hD [1, 2, 3, 4, 0] (by decide +kernel) rfl⟩, hS.F ht⟩) hS.2.2 dL_leaves_20
  obtain ⟨rfl, hq1_1, hq1_2⟩ := hw1
  obtain ⟨hP, hD⟩ := pd9 [zL ao (cy 2) 1 (fun _ => (iI av).toInt64), zO kk 11 [vR ta, vR kr, vR kl, vI nr, vI nw, vR sA, vR dA, vR pa, vR ki, vR kp, vI im, vR wa, vR or_, vR rq], zI rq (cy 0) 4 qf, zO sA 6 [vI wi, vI ro, vR s2, vR s3, vI dr, vI dt, vR s6, vI pe, vR s8, vI gu, vI sh, vR s11, vI wo, vR s13, vI dn, vI mi, vI fl, vI tk, vI go], zI s6 (cy 0) 56 (u1.2.2 0)] hq9
  refine lv_i2l (v := jJ (u1.2.1 0)) hx hb dL_leaves_8 (jJ_i (by omega)) ?_
  refine va_last hx hb hG.1 hP hD hS 0 2 rfl rfl (iI_in (by omega) (by decide)) dL_leaves_9 (fun H locs hP hD hS => ?_)
  obtain ⟨hP, hD⟩ := arl 0 (fun _ => (iI (u1.2.1 0)).toInt64) hP hD rfl (arl_2 (by omega))
  obtain ⟨hP, hD⟩ := pw9 [zL ao (cy 2) 1 (fun _ => (iI (u1.2.1 0)).toInt64), zO kk 11 [vR ta, vR kr, vR kl, vI nr, vI nw, vR sA, vR dA, vR pa, vR ki, vR kp, vI im, vR wa, vR or_, vR rq], zI rq (cy 0) 4 qf, zO sA 6 [vI wi, vI ro, vR s2, vR s3, vI dr, vI dt, vR s6, vI pe, vR s8, vI gu, vI sh, vR s11, vI wo, vR s13, vI dn, vI mi, vI fl, vI tk, vI go], zI s6 (cy 0) 56 (u1.2.2 0)] hP hD
  refine lv_goto (tgt := 21) hx hb dL_leaves_10 (by decide) ?_
  refine lv_iconst (v := iI 0) hx hb dL_leaves_21 (by decide) ?_
  refine W.widen (k := 2) (n := 12) (Nat.le_of_ble_eq_true rfl) (Nat.le_of_ble_eq_true rfl) ?_
  exact W.iret (v := iI 0) hx hb hr (fun t ht hW => ⟨⟨iI 0, ((fun k => ([] : List Nat).getD k 0), (fun k => ([0, 0, (u1.2.1 0)] : List Int).getD k 0), (fun k => ([(u1.2.2 0), qf] : List (Nat → Int32)).getD k (fun _ => 0))), rfl, ⟨rfl, (by show (0 ≤ 0 ∧ 0 ≤ 2); show (0 : Int) ≤ 0 ∧ (0 : Int) ≤ 2; decide), (by show ((-2147483648) ≤ (u1.2.1 0) ∧ (u1.2.1 0) ≤ 2147483647); first | exact hq1_1 | omega), hq1_2⟩, at9 ht hP hD [1, 2, 3, 4, 0] (by decide +kernel) rfl⟩, hS.F ht⟩) hS.2.2 dL_leaves_22
def vs_w_person : List Cond := .codeWith yL_person cL_person 5 (some .int) [(0, 10, 13, 34), (0, 10, 17, 13)] :: (([.classLink RL 34 "java/util/NoSuchElementException", .classLink RL 13 "java/lang/IllegalArgumentException"] : List Cond) ++ ((wsV RL 39 RX11 yX11_person vs_k_person) ++ ([])))
set_option maxHeartbeats 4000000 in
set_option maxRecDepth 100000 in
theorem w_person (l : Launch) (hl : l.stackTraces = false) (D : va_G) (cy : Nat → ClassId) (sa : Nat → Nat) (kk ta kr kl sA dA pa ki kp wa or_ rq : Nat) (nr nw im : Int) (qf : Nat → Int32) (s2 s3 s6 s8 s11 s13 : Nat) (wi ro dr dt pe gu sh wo dn mi fl tk go : Int) (pf : Nat → Int32) (n k : Int) (ao : Nat) (av : Int) (sz : Nat) (hr_nr : 0 ≤ nr ∧ nr ≤ 4) (hr_nw : 0 ≤ nw ∧ nw ≤ 4) (hr_im : 0 ≤ im ∧ im ≤ 3) (hr_wi : 0 ≤ wi ∧ wi ≤ 16) (hr_ro : 0 ≤ ro ∧ ro ≤ 6) (hr_dr : 0 ≤ dr ∧ dr ≤ 14) (hr_dt : 0 ≤ dt ∧ dt ≤ 6) (hr_pe : 0 ≤ pe ∧ pe ≤ 8) (hr_gu : 0 ≤ gu ∧ gu ≤ 20) (hr_sh : 0 ≤ sh ∧ sh ≤ 2) (hr_wo : 0 ≤ wo ∧ wo ≤ 8) (hr_dn : (-2147483648) ≤ dn ∧ dn ≤ 2147483647) (hr_mi : 0 ≤ mi ∧ mi ≤ 600) (hr_fl : (-2147483648) ≤ fl ∧ fl ≤ 2147483647) (hr_tk : (-2147483648) ≤ tk ∧ tk ≤ 2147483647) (hr_go : (-2147483648) ≤ go ∧ go ≤ 2147483647) (hr_n : (-2147483648) ≤ n ∧ n ≤ 2147483647) (hr_k : (-2147483648) ≤ k ∧ k ≤ 2147483647) (hr_av : (-2147483648) ≤ av ∧ av ≤ 2147483647) (hpf : tab_ 4 28 [0, 0, (-2147483648), (-2147483648)] [15, 19, 2147483647, 2147483647] pf) : mI9 l yL_person vs_w_person ({ frames := 8, cells := 2, slots := 12, locals := 143 }) D cy sa sz [vR kk, vI n, vI k, vR ao] [zO kk 11 [vR ta, vR kr, vR kl, vI nr, vI nw, vR sA, vR dA, vR pa, vR ki, vR kp, vI im, vR wa, vR or_, vR rq], zI rq (cy 0) 4 qf, zO sA 6 [vI wi, vI ro, vR s2, vR s3, vI dr, vI dt, vR s6, vI pe, vR s8, vI gu, vI sh, vR s11, vI wo, vR s13, vI dn, vI mi, vI fl, vI tk, vI go], zI s8 (cy 0) 112 pf, zL ao (cy 2) 1 (fun _ => (iI av).toInt64)] (fun (r : Int32) (u : SV) => r = iI (u.2.1 1) ∧ (0 ≤ u.2.1 1 ∧ u.2.1 1 ≤ 2) ∧ ((-2147483648) ≤ u.2.1 2 ∧ u.2.1 2 ≤ 2147483647) ∧ tab_ 4 28 [0, 0, (-2147483648), (-2147483648)] [15, 19, 2147483647, 2147483647] pf) (fun u : SV => [zO kk 11 [vR ta, vR kr, vR kl, vI nr, vI nw, vR sA, vR dA, vR pa, vR ki, vR kp, vI im, vR wa, vR or_, vR rq], zI rq (cy 0) 4 (u.2.2 0), zO sA 6 [vI wi, vI ro, vR s2, vR s3, vI dr, vI dt, vR s6, vI pe, vR s8, vI gu, vI sh, vR s11, vI wo, vR s13, vI dn, vI mi, vI fl, vI tk, vI go], zI s8 (cy 0) 112 pf, zL ao (cy 2) 1 (fun _ => (iI (u.2.1 2)).toInt64)]) 2 12 := by
  refine va_MetW (cc := cL_person) (maxL := 5) (ret := (some .int)) (by decide) rfl ?_
  intro p e s m args below meth c s₁ B hml hv
  obtain ⟨rfl, hsz, hP, hG, hD0, hT⟩ := hv
  have hx := B.exec
  have hb := B.bytes
  have hr := B.returns
  have hts := atoms_spec (ws := vs_w_person) B.pre
  have hown : s.vm.findClass RL = some m.cls := findClass_of_methodNamed B.named
  have hlocks := B.notSynchronized
  subst hsz
  have hD := hD0.self (sz := s.heap.size)
  generalize hAe : va_A [zO kk 11 [vR ta, vR kr, vR kl, vI nr, vI nw, vR sA, vR dA, vR pa, vR ki, vR kp, vI im, vR wa, vR or_, vR rq], zI rq (cy 0) 4 qf, zO sA 6 [vI wi, vI ro, vR s2, vR s3, vI dr, vI dt, vR s6, vI pe, vR s8, vI gu, vI sh, vR s11, vI wo, vR s13, vI dn, vI mi, vI fl, vI tk, vI go], zI s8 (cy 0) 112 pf, zL ao (cy 2) 1 (fun _ => (iI av).toInt64)] s.heap.size = A at hD hT ⊢
  have hA : ∀ q : Nat, s.heap.size ≤ q → A q := fun q h => by rw [← hAe]; exact Or.inr h
  have hS : va_S A s.heap s.heap [] := va_S.rf
  have hl0 := lv_entry ([vR kk, vI n, vI k, vR ao]) (n := 5) (Nat.le_of_ble_eq_true rfl)
  rw [lg_entry_eq]
  generalize (lg_sl ([vR kk, vI n, vI k, vR ao]) ++ List.replicate (5 - (lg_sl ([vR kk, vI n, vI k, vR ao])).length) Slot.unset).toArray = ls at hl0 ⊢
  have hlv : lv_has ls 5 [(0, vR kk), (1, vI n), (2, vI k), (3, vR ao)] := hl0
  have gg_0 : GoodIn vs_w_person (wsV RL 39 RX11 yX11_person vs_k_person) := goodIn_sub (fun w h => List.mem_cons_of_mem _ (List.mem_append_right _ (List.mem_append_left _ h))) (gd_V gd_k_person (by decide +kernel))
  have xc34 := hts (.classLink RL 34 "java/util/NoSuchElementException") (List.mem_of_getElem? (i := 1) rfl)
  have xc13 := hts (.classLink RL 13 "java/lang/IllegalArgumentException") (List.mem_of_getElem? (i := 2) rfl)
  have htab : c.exceptionTable.toList = [(⟨0, 10, 13, 34⟩ : ExceptionTableEntry), (⟨0, 10, 17, 13⟩ : ExceptionTableEntry)] := vx_table (x := yL_person) B (hts (.codeWith yL_person cL_person 5 (some .int) [(0, 10, 13, 34), (0, 10, 17, 13)]) List.mem_cons_self)
  refine lv_aload_n hx hb dL_person_0 rfl (lv_at hlv 3 rfl) ?_
  refine lv_iconst (v := iI 0) hx hb dL_person_1 (by decide) ?_
  refine lv_aload_n hx hb dL_person_2 rfl (lv_at hlv 0 rfl) ?_
  refine lv_iload_n hx hb dL_person_3 rfl (lv_at hlv 1 rfl) ?_
  refine lv_iload_n hx hb dL_person_4 rfl (lv_at hlv 2 rfl) ?_
  refine cjrx_i [false, false, false, false, true] (fun pre9 => (vx_runV (As := [vI n, vI k]) (rest := [vI 0, vR ao]) ⟨hx, hb, hml, hown, hts⟩ (k_person l hl D cy sa kk ta kr kl sA dA pa ki kp wa or_ rq nr nw im qf s2 s3 s6 s8 s11 s13 wi ro dr dt pe gu sh wo dn mi fl tk go pf n k s.heap.size (by first | exact hr_nr | omega) (by first | exact hr_nw | omega) (by first | exact hr_im | omega) (by first | exact hr_wi | omega) (by first | exact hr_ro | omega) (by first | exact hr_dr | omega) (by first | exact hr_dt | omega) (by first | exact hr_pe | omega) (by first | exact hr_gu | omega) (by first | exact hr_sh | omega) (by first | exact hr_wo | omega) (by first | exact hr_dn | omega) (by first | exact hr_mi | omega) (by first | exact hr_fl | omega) (by first | exact hr_tk | omega) (by first | exact hr_go | omega) (by first | exact hr_n | omega) (by first | exact hr_k | omega) hpf) (cwV 2 hts gg_0 rfl rfl rfl (by decide +kernel) ⟨Nat.le_of_ble_eq_true rfl, Nat.le_of_ble_eq_true rfl⟩) ⟨pcW.blind, (va_recv hG.1 hP (ci := 11) (q0 := 0) rfl rfl), pre9⟩ rfl rfl hlv.1 rfl (lv_room (Nat.le_of_ble_eq_true rfl)) dL_person_5 ⟨Nat.le_of_ble_eq_true rfl, Nat.le_of_ble_eq_true rfl⟩)) hP hD hS hA hG hT [0, 1, 2, 3] rfl (by decide +kernel) (fun E ux1 ce q9 H locs hp hq9 hS h1 h2 h3 => ?_) (fun r1 u1 H locs hw1 hq9 hS => ?_)
  · obtain ⟨hP, hD⟩ := pd9 [zL ao (cy 2) 1 (fun _ => (iI av).toInt64), zO kk 11 [vR ta, vR kr, vR kl, vI nr, vI nw, vR sA, vR dA, vR pa, vR ki, vR kp, vI im, vR wa, vR or_, vR rq], zI rq (cy 0) 4 (ux1.2.2 0), zO sA 6 [vI wi, vI ro, vR s2, vR s3, vI dr, vI dt, vR s6, vI pe, vR s8, vI gu, vI sh, vR s11, vI wo, vR s13, vI dn, vI mi, vI fl, vI tk, vI go], zI s8 (cy 0) 112 pf] hq9
    rcases hp with rfl | rfl
    · refine vx_catch (name := "java/util/NoSuchElementException") hown [] (⟨0, 10, 13, 34⟩ : ExceptionTableEntry) [(⟨0, 10, 17, 13⟩ : ExceptionTableEntry)] htab (fun z hz => absurd hz List.not_mem_nil) (by decide) (by decide) xc34 (va_Nw.use rfl (hG.2.2.2.1 _ (List.mem_of_getElem? (i := 1) rfl))) h1 h2 h3 ?_
      refine lv_astore (lv' := [(4, vR q9), (0, vR kk), (1, vI n), (2, vI k), (3, vR ao)]) hx hb dL_person_13 hlv (by decide) rfl (fun ls hlv => ?_)
      refine lv_iconst (v := iI 1) hx hb dL_person_15 (by decide) ?_
      refine W.widen (k := 2) (n := 12) (Nat.le_of_ble_eq_true rfl) (Nat.le_of_ble_eq_true rfl) ?_
      exact W.iret (v := iI 1) hx hb hr (fun t ht hW => ⟨⟨iI 1, ((fun k => ([] : List Nat).getD k 0), (fun k => ([0, 1, av] : List Int).getD k 0), (fun k => ([(ux1.2.2 0)] : List (Nat → Int32)).getD k (fun _ => 0))), rfl, ⟨rfl, (by show (0 ≤ 1 ∧ 1 ≤ 2); show (0 : Int) ≤ 1 ∧ (1 : Int) ≤ 2; decide), (by show ((-2147483648) ≤ av ∧ av ≤ 2147483647); first | exact hr_av | omega), hpf⟩, at9 ht hP hD [1, 2, 3, 4, 0] (by decide +kernel) rfl⟩, hS.F ht⟩) hS.2.2 dL_person_16
    · refine vx_catch (name := "java/lang/IllegalArgumentException") hown [(⟨0, 10, 13, 34⟩ : ExceptionTableEntry)] (⟨0, 10, 17, 13⟩ : ExceptionTableEntry) [] htab (List.forall_mem_cons.mpr ⟨Or.inr ⟨by decide, "java/util/NoSuchElementException", xc34, hG.2.2.2.2.1 _ (List.mem_of_getElem? (i := 2) rfl) _ (List.mem_of_getElem? (i := 1) rfl) (by decide)⟩, fun z hz => absurd hz List.not_mem_nil⟩) (by decide) (by decide) xc13 (va_Nw.use rfl (hG.2.2.2.1 _ (List.mem_of_getElem? (i := 2) rfl))) h1 h2 h3 ?_
      refine lv_astore (lv' := [(4, vR q9), (0, vR kk), (1, vI n), (2, vI k), (3, vR ao)]) hx hb dL_person_17 hlv (by decide) rfl (fun ls hlv => ?_)
      refine lv_iconst (v := iI 2) hx hb dL_person_19 (by decide) ?_
      refine W.widen (k := 2) (n := 12) (Nat.le_of_ble_eq_true rfl) (Nat.le_of_ble_eq_true rfl) ?_
      exact W.iret (v := iI 2) hx hb hr (fun t ht hW => ⟨⟨iI 2, ((fun k => ([] : List Nat).getD k 0), (fun k => ([0, 2, av] : List Int).getD k 0), (fun k => ([(ux1.2.2 0)] : List (Nat → Int32)).getD k (fun _ => 0))), rfl, ⟨rfl, (by show (0 ≤ 2 ∧ 2 ≤ 2); show (0 : Int) ≤ 2 ∧ (2 : Int) ≤ 2; decide), (by show ((-2147483648) ≤ av ∧ av ≤ 2147483647); first | exact hr_av | omega), hpf⟩, at9 ht hP hD [1, 2, 3, 4, 0] (by decide +kernel) rfl⟩, hS.F ht⟩) hS.2.2 dL_person_20
  obtain ⟨rfl, hq1_1, hq1_2⟩ := hw1
  obtain ⟨hP, hD⟩ := pd9 [zL ao (cy 2) 1 (fun _ => (iI av).toInt64), zO kk 11 [vR ta, vR kr, vR kl, vI nr, vI nw, vR sA, vR dA, vR pa, vR ki, vR kp, vI im, vR wa, vR or_, vR rq], zI rq (cy 0) 4 qf, zO sA 6 [vI wi, vI ro, vR s2, vR s3, vI dr, vI dt, vR s6, vI pe, vR s8, vI gu, vI sh, vR s11, vI wo, vR s13, vI dn, vI mi, vI fl, vI tk, vI go], zI s8 (cy 0) 112 pf] hq9
  refine lv_i2l (v := jJ (u1.2.1 0)) hx hb dL_person_8 (jJ_i (by omega)) ?_
  refine va_last hx hb hG.1 hP hD hS 0 2 rfl rfl (iI_in (by omega) (by decide)) dL_person_9 (fun H locs hP hD hS => ?_)
  obtain ⟨hP, hD⟩ := arl 0 (fun _ => (iI (u1.2.1 0)).toInt64) hP hD rfl (arl_2 (by omega))
  obtain ⟨hP, hD⟩ := pw9 [zL ao (cy 2) 1 (fun _ => (iI (u1.2.1 0)).toInt64), zO kk 11 [vR ta, vR kr, vR kl, vI nr, vI nw, vR sA, vR dA, vR pa, vR ki, vR kp, vI im, vR wa, vR or_, vR rq], zI rq (cy 0) 4 qf, zO sA 6 [vI wi, vI ro, vR s2, vR s3, vI dr, vI dt, vR s6, vI pe, vR s8, vI gu, vI sh, vR s11, vI wo, vR s13, vI dn, vI mi, vI fl, vI tk, vI go], zI s8 (cy 0) 112 pf] hP hD
  refine lv_goto (tgt := 21) hx hb dL_person_10 (by decide) ?_
  refine lv_iconst (v := iI 0) hx hb dL_person_21 (by decide) ?_
  refine W.widen (k := 2) (n := 12) (Nat.le_of_ble_eq_true rfl) (Nat.le_of_ble_eq_true rfl) ?_
  exact W.iret (v := iI 0) hx hb hr (fun t ht hW => ⟨⟨iI 0, ((fun k => ([] : List Nat).getD k 0), (fun k => ([0, 0, (u1.2.1 0)] : List Int).getD k 0), (fun k => ([qf] : List (Nat → Int32)).getD k (fun _ => 0))), rfl, ⟨rfl, (by show (0 ≤ 0 ∧ 0 ≤ 2); show (0 : Int) ≤ 0 ∧ (0 : Int) ≤ 2; decide), (by show ((-2147483648) ≤ (u1.2.1 0) ∧ (u1.2.1 0) ≤ 2147483647); first | exact hq1_1 | omega), hq1_2⟩, at9 ht hP hD [1, 2, 3, 4, 0] (by decide +kernel) rfl⟩, hS.F ht⟩) hS.2.2 dL_person_22
def vs_w_does : List Cond := .codeWith yL_does cL_does 4 (some .int) [(0, 9, 12, 34)] :: (([.classLink RL 34 "java/util/NoSuchElementException"] : List Cond) ++ ((wsV RL 45 RX11 yX11_does vs_k_does) ++ ([])))
set_option maxHeartbeats 4000000 in
set_option maxRecDepth 100000 in
theorem w_does (l : Launch) (hl : l.stackTraces = false) (D : va_G) (cy : Nat → ClassId) (sa : Nat → Nat) (kk ta kr kl sA dA pa ki kp wa or_ rq : Nat) (nr nw im : Int) (qf : Nat → Int32) (s2 s3 s6 s8 s11 s13 : Nat) (wi ro dr dt pe gu sh wo dn mi fl tk go : Int) (hf df kf : Nat → Int32) (n : Int) (ao : Nat) (av : Int) (sz : Nat) (hr_nr : 0 ≤ nr ∧ nr ≤ 4) (hr_nw : 0 ≤ nw ∧ nw ≤ 4) (hr_im : 0 ≤ im ∧ im ≤ 3) (hr_wi : 0 ≤ wi ∧ wi ≤ 16) (hr_ro : 0 ≤ ro ∧ ro ≤ 6) (hr_dr : 0 ≤ dr ∧ dr ≤ 14) (hr_dt : 0 ≤ dt ∧ dt ≤ 6) (hr_pe : 0 ≤ pe ∧ pe ≤ 8) (hr_gu : 0 ≤ gu ∧ gu ≤ 20) (hr_sh : 0 ≤ sh ∧ sh ≤ 2) (hr_wo : 0 ≤ wo ∧ wo ≤ 8) (hr_dn : (-2147483648) ≤ dn ∧ dn ≤ 2147483647) (hr_mi : 0 ≤ mi ∧ mi ≤ 600) (hr_fl : (-2147483648) ≤ fl ∧ fl ≤ 2147483647) (hr_tk : (-2147483648) ≤ tk ∧ tk ≤ 2147483647) (hr_go : (-2147483648) ≤ go ∧ go ≤ 2147483647) (hr_n : (-2147483648) ≤ n ∧ n ≤ 2147483647) (hr_av : (-2147483648) ≤ av ∧ av ≤ 2147483647) (hhf : inv_ 96 0 99 hf) (hdf : tab_ 4 14 [0, 0, 0, 0] [15, 5, 99, 16] df) (hkf : tw_ kf) : mI9 l yL_does vs_w_does ({ frames := 8, cells := 1, slots := 6, locals := 142 }) D cy sa sz [vR kk, vI n, vR ao] [zO kk 11 [vR ta, vR kr, vR kl, vI nr, vI nw, vR sA, vR dA, vR pa, vR ki, vR kp, vI im, vR wa, vR or_, vR rq], zI rq (cy 0) 4 qf, zO sA 6 [vI wi, vI ro, vR s2, vR s3, vI dr, vI dt, vR s6, vI pe, vR s8, vI gu, vI sh, vR s11, vI wo, vR s13, vI dn, vI mi, vI fl, vI tk, vI go], zI s2 (cy 0) 96 hf, zI s6 (cy 0) 56 df, zI s13 (cy 0) 40 kf, zL ao (cy 2) 1 (fun _ => (iI av).toInt64)] (fun (r : Int32) (u : SV) => r = iI (u.2.1 3) ∧ (0 ≤ u.2.1 1 ∧ u.2.1 1 ≤ 14) ∧ ((-2147483648) ≤ u.2.1 2 ∧ u.2.1 2 ≤ 2147483647) ∧ (0 ≤ u.2.1 3 ∧ u.2.1 3 ≤ 1) ∧ ((-2147483648) ≤ u.2.1 4 ∧ u.2.1 4 ≤ 2147483647) ∧ inv_ 96 0 99 (u.2.2 0) ∧ tab_ 4 14 [0, 0, 0, 0] [15, 5, 99, 16] (u.2.2 1) ∧ tw_ kf) (fun u : SV => [zO kk 11 [vR ta, vR kr, vR kl, vI nr, vI nw, vR sA, vR dA, vR pa, vR ki, vR kp, vI im, vR wa, vR or_, vR rq], zI rq (cy 0) 4 (u.2.2 2), zO sA 6 [vI wi, vI ro, vR s2, vR s3, vI (u.2.1 1), vI dt, vR s6, vI pe, vR s8, vI gu, vI sh, vR s11, vI wo, vR s13, vI (u.2.1 2), vI mi, vI fl, vI tk, vI go], zI s2 (cy 0) 96 (u.2.2 0), zI s6 (cy 0) 56 (u.2.2 1), zI s13 (cy 0) 40 kf, zL ao (cy 2) 1 (fun _ => (iI (u.2.1 4)).toInt64)]) 1 6 := by
  refine va_MetW (cc := cL_does) (maxL := 4) (ret := (some .int)) (by decide) rfl ?_
  intro p e s m args below meth c s₁ B hml hv
  obtain ⟨rfl, hsz, hP, hG, hD0, hT⟩ := hv
  have hx := B.exec
  have hb := B.bytes
  have hr := B.returns
  have hts := atoms_spec (ws := vs_w_does) B.pre
  have hown : s.vm.findClass RL = some m.cls := findClass_of_methodNamed B.named
  have hlocks := B.notSynchronized
  subst hsz
  have hD := hD0.self (sz := s.heap.size)
  generalize hAe : va_A [zO kk 11 [vR ta, vR kr, vR kl, vI nr, vI nw, vR sA, vR dA, vR pa, vR ki, vR kp, vI im, vR wa, vR or_, vR rq], zI rq (cy 0) 4 qf, zO sA 6 [vI wi, vI ro, vR s2, vR s3, vI dr, vI dt, vR s6, vI pe, vR s8, vI gu, vI sh, vR s11, vI wo, vR s13, vI dn, vI mi, vI fl, vI tk, vI go], zI s2 (cy 0) 96 hf, zI s6 (cy 0) 56 df, zI s13 (cy 0) 40 kf, zL ao (cy 2) 1 (fun _ => (iI av).toInt64)] s.heap.size = A at hD hT ⊢
  have hA : ∀ q : Nat, s.heap.size ≤ q → A q := fun q h => by rw [← hAe]; exact Or.inr h
  have hS : va_S A s.heap s.heap [] := va_S.rf
  have hl0 := lv_entry ([vR kk, vI n, vR ao]) (n := 4) (Nat.le_of_ble_eq_true rfl)
  rw [lg_entry_eq]
  generalize (lg_sl ([vR kk, vI n, vR ao]) ++ List.replicate (4 - (lg_sl ([vR kk, vI n, vR ao])).length) Slot.unset).toArray = ls at hl0 ⊢
  have hlv : lv_has ls 4 [(0, vR kk), (1, vI n), (2, vR ao)] := hl0
  have gg_0 : GoodIn vs_w_does (wsV RL 45 RX11 yX11_does vs_k_does) := goodIn_sub (fun w h => List.mem_cons_of_mem _ (List.mem_append_right _ (List.mem_append_left _ h))) (gd_V gd_k_does (by decide +kernel))
  have xc34 := hts (.classLink RL 34 "java/util/NoSuchElementException") (List.mem_of_getElem? (i := 1) rfl)
  have htab : c.exceptionTable.toList = [(⟨0, 9, 12, 34⟩ : ExceptionTableEntry)] := vx_table (x := yL_does) B (hts (.codeWith yL_does cL_does 4 (some .int) [(0, 9, 12, 34)]) List.mem_cons_self)
  refine lv_aload_n hx hb dL_does_0 rfl (lv_at hlv 2 rfl) ?_
  refine lv_iconst (v := iI 0) hx hb dL_does_1 (by decide) ?_
  refine lv_aload_n hx hb dL_does_2 rfl (lv_at hlv 0 rfl) ?_
  refine lv_iload_n hx hb dL_does_3 rfl (lv_at hlv 1 rfl) ?_
  refine cjrx_i [false, false, false, false, false, false, true] (fun pre9 => (vx_runV (As := [vI n]) (rest := [vI 0, vR ao]) ⟨hx, hb, hml, hown, hts⟩ (k_does l hl D cy sa kk ta kr kl sA dA pa ki kp wa or_ rq nr nw im qf s2 s3 s6 s8 s11 s13 wi ro dr dt pe gu sh wo dn mi fl tk go hf df kf n s.heap.size (by first | exact hr_nr | omega) (by first | exact hr_nw | omega) (by first | exact hr_im | omega) (by first | exact hr_wi | omega) (by first | exact hr_ro | omega) (by first | exact hr_dr | omega) (by first | exact hr_dt | omega) (by first | exact hr_pe | omega) (by first | exact hr_gu | omega) (by first | exact hr_sh | omega) (by first | exact hr_wo | omega) (by first | exact hr_dn | omega) (by first | exact hr_mi | omega) (by first | exact hr_fl | omega) (by first | exact hr_tk | omega) (by first | exact hr_go | omega) (by first | exact hr_n | omega) hhf hdf hkf) (cwV 1 hts gg_0 rfl rfl rfl (by decide +kernel) ⟨Nat.le_of_ble_eq_true rfl, Nat.le_of_ble_eq_true rfl⟩) ⟨pcW.blind, (va_recv hG.1 hP (ci := 11) (q0 := 0) rfl rfl), pre9⟩ rfl rfl hlv.1 rfl (lv_room (Nat.le_of_ble_eq_true rfl)) dL_does_4 ⟨Nat.le_of_ble_eq_true rfl, Nat.le_of_ble_eq_true rfl⟩)) hP hD hS hA hG hT [0, 1, 2, 3, 4, 5] rfl (by decide +kernel) (fun E ux1 ce q9 H locs hp hq9 hS h1 h2 h3 => ?_) (fun r1 u1 H locs hw1 hq9 hS => ?_)
  · obtain ⟨hP, hD⟩ := pd9 [zL ao (cy 2) 1 (fun _ => (iI av).toInt64), zO kk 11 [vR ta, vR kr, vR kl, vI nr, vI nw, vR sA, vR dA, vR pa, vR ki, vR kp, vI im, vR wa, vR or_, vR rq], zI rq (cy 0) 4 (ux1.2.2 0), zO sA 6 [vI wi, vI ro, vR s2, vR s3, vI dr, vI dt, vR s6, vI pe, vR s8, vI gu, vI sh, vR s11, vI wo, vR s13, vI dn, vI mi, vI fl, vI tk, vI go], zI s2 (cy 0) 96 hf, zI s6 (cy 0) 56 df, zI s13 (cy 0) 40 kf] hq9
    obtain rfl := hp
    refine vx_catch (name := "java/util/NoSuchElementException") hown [] (⟨0, 9, 12, 34⟩ : ExceptionTableEntry) [] htab (fun z hz => absurd hz List.not_mem_nil) (by decide) (by decide) xc34 (va_Nw.use rfl (hG.2.2.2.1 _ (List.mem_of_getElem? (i := 1) rfl))) h1 h2 h3 ?_
    refine lv_astore_n (lv' := [(3, vR q9), (0, vR kk), (1, vI n), (2, vR ao)]) hx hb dL_does_12 rfl hlv (by decide) rfl (fun ls hlv => ?_)
    refine lv_iconst (v := iI 1) hx hb dL_does_13 (by decide) ?_
    refine W.widen (k := 1) (n := 6) (Nat.le_of_ble_eq_true rfl) (Nat.le_of_ble_eq_true rfl) ?_
    exact W.iret (v := iI 1) hx hb hr (fun t ht hW => ⟨⟨iI 1, ((fun k => ([] : List Nat).getD k 0), (fun k => ([0, dr, dn, 1, av] : List Int).getD k 0), (fun k => ([hf, df, (ux1.2.2 0)] : List (Nat → Int32)).getD k (fun _ => 0))), rfl, ⟨rfl, (by show (0 ≤ dr ∧ dr ≤ 14); first | exact hr_dr | omega), (by show ((-2147483648) ≤ dn ∧ dn ≤ 2147483647); first | exact hr_dn | omega), (by show (0 ≤ 1 ∧ 1 ≤ 1); show (0 : Int) ≤ 1 ∧ (1 : Int) ≤ 1; decide), (by show ((-2147483648) ≤ av ∧ av ≤ 2147483647); first | exact hr_av | omega), hhf, hdf, hkf⟩, at9 ht hP hD [1, 2, 3, 4, 5, 6, 0] (by decide +kernel) rfl⟩, hS.F ht⟩) hS.2.2 dL_does_14
  obtain ⟨rfl, hq1_1, hq1_2, hq1_3, hq1_4, hq1_5, hq1_6⟩ := hw1
  obtain ⟨hP, hD⟩ := pd9 [zL ao (cy 2) 1 (fun _ => (iI av).toInt64), zO kk 11 [vR ta, vR kr, vR kl, vI nr, vI nw, vR sA, vR dA, vR pa, vR ki, vR kp, vI im, vR wa, vR or_, vR rq], zI rq (cy 0) 4 qf, zO sA 6 [vI wi, vI ro, vR s2, vR s3, vI (u1.2.1 1), vI dt, vR s6, vI pe, vR s8, vI gu, vI sh, vR s11, vI wo, vR s13, vI (u1.2.1 2), vI mi, vI fl, vI tk, vI go], zI s2 (cy 0) 96 (u1.2.2 0), zI s6 (cy 0) 56 (u1.2.2 1), zI s13 (cy 0) 40 kf] hq9
  refine lv_i2l (v := jJ (u1.2.1 0)) hx hb dL_does_7 (jJ_i (by omega)) ?_
  refine va_last hx hb hG.1 hP hD hS 0 2 rfl rfl (iI_in (by omega) (by decide)) dL_does_8 (fun H locs hP hD hS => ?_)
  obtain ⟨hP, hD⟩ := arl 0 (fun _ => (iI (u1.2.1 0)).toInt64) hP hD rfl (arl_2 (by omega))
  obtain ⟨hP, hD⟩ := pw9 [zL ao (cy 2) 1 (fun _ => (iI (u1.2.1 0)).toInt64), zO kk 11 [vR ta, vR kr, vR kl, vI nr, vI nw, vR sA, vR dA, vR pa, vR ki, vR kp, vI im, vR wa, vR or_, vR rq], zI rq (cy 0) 4 qf, zO sA 6 [vI wi, vI ro, vR s2, vR s3, vI (u1.2.1 1), vI dt, vR s6, vI pe, vR s8, vI gu, vI sh, vR s11, vI wo, vR s13, vI (u1.2.1 2), vI mi, vI fl, vI tk, vI go], zI s2 (cy 0) 96 (u1.2.2 0), zI s6 (cy 0) 56 (u1.2.2 1), zI s13 (cy 0) 40 kf] hP hD
  refine lv_goto (tgt := 15) hx hb dL_does_9 (by decide) ?_
  refine lv_iconst (v := iI 0) hx hb dL_does_15 (by decide) ?_
  refine W.widen (k := 1) (n := 6) (Nat.le_of_ble_eq_true rfl) (Nat.le_of_ble_eq_true rfl) ?_
  exact W.iret (v := iI 0) hx hb hr (fun t ht hW => ⟨⟨iI 0, ((fun k => ([] : List Nat).getD k 0), (fun k => ([0, (u1.2.1 1), (u1.2.1 2), 0, (u1.2.1 0)] : List Int).getD k 0), (fun k => ([(u1.2.2 0), (u1.2.2 1), qf] : List (Nat → Int32)).getD k (fun _ => 0))), rfl, ⟨rfl, (by show (0 ≤ (u1.2.1 1) ∧ (u1.2.1 1) ≤ 14); first | exact hq1_2 | omega), (by show ((-2147483648) ≤ (u1.2.1 2) ∧ (u1.2.1 2) ≤ 2147483647); first | exact hq1_3 | omega), (by show (0 ≤ 0 ∧ 0 ≤ 1); show (0 : Int) ≤ 0 ∧ (0 : Int) ≤ 1; decide), (by show ((-2147483648) ≤ (u1.2.1 0) ∧ (u1.2.1 0) ≤ 2147483647); first | exact hq1_1 | omega), hq1_4, hq1_5, hq1_6⟩, at9 ht hP hD [1, 2, 3, 4, 5, 6, 0] (by decide +kernel) rfl⟩, hS.F ht⟩) hS.2.2 dL_does_16
end
section
theorem dL_car_0 : decode cL_car 0 = .ok (.aload 6, 2) := by decide +kernel
theorem dL_car_11 : decode cL_car 11 = .ok (.invokevirtual 63, 3) := by decide +kernel
theorem dL_car_14 : decode cL_car 14 = .ok (.i2l, 1) := by decide +kernel
theorem dL_car_15 : decode cL_car 15 = .ok (.lastore, 1) := by decide +kernel
theorem dL_car_16 : decode cL_car 16 = .ok (.goto 15, 3) := by decide +kernel
theorem dL_car_19 : decode cL_car 19 = .ok (.astore 7, 2) := by decide +kernel
theorem dL_car_2 : decode cL_car 2 = .ok (.iconst 0, 1) := by decide +kernel
theorem dL_car_21 : decode cL_car 21 = .ok (.iconst 1, 1) := by decide +kernel
theorem dL_car_22 : decode cL_car 22 = .ok (.ireturn, 1) := by decide +kernel
theorem dL_car_23 : decode cL_car 23 = .ok (.astore 7, 2) := by decide +kernel
theorem dL_car_25 : decode cL_car 25 = .ok (.iconst 2, 1) := by decide +kernel
theorem dL_car_26 : decode cL_car 26 = .ok (.ireturn, 1) := by decide +kernel
theorem dL_car_27 : decode cL_car 27 = .ok (.astore 7, 2) := by decide +kernel
theorem dL_car_29 : decode cL_car 29 = .ok (.iconst 3, 1) := by decide +kernel
theorem dL_car_3 : decode cL_car 3 = .ok (.aload_n 0, 1) := by decide +kernel
theorem dL_car_30 : decode cL_car 30 = .ok (.ireturn, 1) := by decide +kernel
theorem dL_car_31 : decode cL_car 31 = .ok (.iconst 0, 1) := by decide +kernel
theorem dL_car_32 : decode cL_car 32 = .ok (.ireturn, 1) := by decide +kernel
theorem dL_car_4 : decode cL_car 4 = .ok (.iload_n 1, 1) := by decide +kernel
theorem dL_car_5 : decode cL_car 5 = .ok (.iload_n 2, 1) := by decide +kernel
theorem dL_car_6 : decode cL_car 6 = .ok (.iload_n 3, 1) := by decide +kernel
theorem dL_car_7 : decode cL_car 7 = .ok (.iload 4, 2) := by decide +kernel
theorem dL_car_9 : decode cL_car 9 = .ok (.iload 5, 2) := by decide +kernel
theorem dL_minutes_0 : decode cL_minutes 0 = .ok (.aload_n 3, 1) := by decide +kernel
theorem dL_minutes_1 : decode cL_minutes 1 = .ok (.iconst 0, 1) := by decide +kernel
theorem dL_minutes_10 : decode cL_minutes 10 = .ok (.goto 11, 3) := by decide +kernel
theorem dL_minutes_13 : decode cL_minutes 13 = .ok (.astore 4, 2) := by decide +kernel
theorem dL_minutes_15 : decode cL_minutes 15 = .ok (.iconst 1, 1) := by decide +kernel
theorem dL_minutes_16 : decode cL_minutes 16 = .ok (.ireturn, 1) := by decide +kernel
theorem dL_minutes_17 : decode cL_minutes 17 = .ok (.astore 4, 2) := by decide +kernel
theorem dL_minutes_19 : decode cL_minutes 19 = .ok (.iconst 2, 1) := by decide +kernel
theorem dL_minutes_2 : decode cL_minutes 2 = .ok (.aload_n 0, 1) := by decide +kernel
theorem dL_minutes_20 : decode cL_minutes 20 = .ok (.ireturn, 1) := by decide +kernel
theorem dL_minutes_21 : decode cL_minutes 21 = .ok (.iconst 0, 1) := by decide +kernel
theorem dL_minutes_22 : decode cL_minutes 22 = .ok (.ireturn, 1) := by decide +kernel
theorem dL_minutes_3 : decode cL_minutes 3 = .ok (.iload_n 1, 1) := by decide +kernel
theorem dL_minutes_4 : decode cL_minutes 4 = .ok (.iload_n 2, 1) := by decide +kernel
theorem dL_minutes_5 : decode cL_minutes 5 = .ok (.invokevirtual 48, 3) := by decide +kernel
theorem dL_minutes_8 : decode cL_minutes 8 = .ok (.i2l, 1) := by decide +kernel
theorem dL_minutes_9 : decode cL_minutes 9 = .ok (.lastore, 1) := by decide +kernel
theorem dL_pass_0 : decode cL_pass 0 = .ok (.aload_n 2, 1) := by decide +kernel
theorem dL_pass_1 : decode cL_pass 1 = .ok (.iconst 0, 1) := by decide +kernel
theorem dL_pass_12 : decode cL_pass 12 = .ok (.astore_n 3, 1) := by decide +kernel
theorem dL_pass_13 : decode cL_pass 13 = .ok (.iconst 1, 1) := by decide +kernel
theorem dL_pass_14 : decode cL_pass 14 = .ok (.ireturn, 1) := by decide +kernel
theorem dL_pass_15 : decode cL_pass 15 = .ok (.astore_n 3, 1) := by decide +kernel
theorem dL_pass_16 : decode cL_pass 16 = .ok (.iconst 2, 1) := by decide +kernel
theorem dL_pass_17 : decode cL_pass 17 = .ok (.ireturn, 1) := by decide +kernel
theorem dL_pass_18 : decode cL_pass 18 = .ok (.iconst 0, 1) := by decide +kernel
theorem dL_pass_19 : decode cL_pass 19 = .ok (.ireturn, 1) := by decide +kernel
theorem dL_pass_2 : decode cL_pass 2 = .ok (.aload_n 0, 1) := by decide +kernel
theorem dL_pass_3 : decode cL_pass 3 = .ok (.iload_n 1, 1) := by decide +kernel
theorem dL_pass_4 : decode cL_pass 4 = .ok (.invokevirtual 70, 3) := by decide +kernel
theorem dL_pass_7 : decode cL_pass 7 = .ok (.i2l, 1) := by decide +kernel
theorem dL_pass_8 : decode cL_pass 8 = .ok (.lastore, 1) := by decide +kernel
theorem dL_pass_9 : decode cL_pass 9 = .ok (.goto 9, 3) := by decide +kernel
theorem dL_says_0 : decode cL_says 0 = .ok (.aload 10, 2) := by decide +kernel
theorem dL_says_11 : decode cL_says 11 = .ok (.iload 6, 2) := by decide +kernel
theorem dL_says_13 : decode cL_says 13 = .ok (.iload 7, 2) := by decide +kernel
theorem dL_says_15 : decode cL_says 15 = .ok (.iload 8, 2) := by decide +kernel
theorem dL_says_17 : decode cL_says 17 = .ok (.iload 9, 2) := by decide +kernel
theorem dL_says_19 : decode cL_says 19 = .ok (.invokevirtual 59, 3) := by decide +kernel
theorem dL_says_2 : decode cL_says 2 = .ok (.iconst 0, 1) := by decide +kernel
theorem dL_says_22 : decode cL_says 22 = .ok (.i2l, 1) := by decide +kernel
theorem dL_says_23 : decode cL_says 23 = .ok (.lastore, 1) := by decide +kernel
theorem dL_says_24 : decode cL_says 24 = .ok (.goto 11, 3) := by decide +kernel
theorem dL_says_27 : decode cL_says 27 = .ok (.astore 11, 2) := by decide +kernel
theorem dL_says_29 : decode cL_says 29 = .ok (.iconst 1, 1) := by decide +kernel
theorem dL_says_3 : decode cL_says 3 = .ok (.aload_n 0, 1) := by decide +kernel
theorem dL_says_30 : decode cL_says 30 = .ok (.ireturn, 1) := by decide +kernel
theorem dL_says_31 : decode cL_says 31 = .ok (.astore 11, 2) := by decide +kernel
theorem dL_says_33 : decode cL_says 33 = .ok (.iconst 2, 1) := by decide +kernel
theorem dL_says_34 : decode cL_says 34 = .ok (.ireturn, 1) := by decide +kernel
theorem dL_says_35 : decode cL_says 35 = .ok (.iconst 0, 1) := by decide +kernel
theorem dL_says_36 : decode cL_says 36 = .ok (.ireturn, 1) := by decide +kernel
theorem dL_says_4 : decode cL_says 4 = .ok (.iload_n 1, 1) := by decide +kernel
theorem dL_says_5 : decode cL_says 5 = .ok (.iload_n 2, 1) := by decide +kernel
theorem dL_says_6 : decode cL_says 6 = .ok (.iload_n 3, 1) := by decide +kernel
theorem dL_says_7 : decode cL_says 7 = .ok (.iload 4, 2) := by decide +kernel
theorem dL_says_9 : decode cL_says 9 = .ok (.iload 5, 2) := by decide +kernel
theorem dL_shower_0 : decode cL_shower 0 = .ok (.aload_n 2, 1) := by decide +kernel
theorem dL_shower_1 : decode cL_shower 1 = .ok (.iconst 0, 1) := by decide +kernel
theorem dL_shower_12 : decode cL_shower 12 = .ok (.astore_n 3, 1) := by decide +kernel
theorem dL_shower_13 : decode cL_shower 13 = .ok (.iconst 1, 1) := by decide +kernel
theorem dL_shower_14 : decode cL_shower 14 = .ok (.ireturn, 1) := by decide +kernel
theorem dL_shower_15 : decode cL_shower 15 = .ok (.astore_n 3, 1) := by decide +kernel
theorem dL_shower_16 : decode cL_shower 16 = .ok (.iconst 2, 1) := by decide +kernel
theorem dL_shower_17 : decode cL_shower 17 = .ok (.ireturn, 1) := by decide +kernel
theorem dL_shower_18 : decode cL_shower 18 = .ok (.iconst 0, 1) := by decide +kernel
theorem dL_shower_19 : decode cL_shower 19 = .ok (.ireturn, 1) := by decide +kernel
theorem dL_shower_2 : decode cL_shower 2 = .ok (.aload_n 0, 1) := by decide +kernel
theorem dL_shower_3 : decode cL_shower 3 = .ok (.iload_n 1, 1) := by decide +kernel
theorem dL_shower_4 : decode cL_shower 4 = .ok (.invokevirtual 53, 3) := by decide +kernel
theorem dL_shower_7 : decode cL_shower 7 = .ok (.i2l, 1) := by decide +kernel
theorem dL_shower_8 : decode cL_shower 8 = .ok (.lastore, 1) := by decide +kernel
theorem dL_shower_9 : decode cL_shower 9 = .ok (.goto 9, 3) := by decide +kernel
theorem dL_sums_0 : decode cL_sums 0 = .ok (.aload_n 2, 1) := by decide +kernel
theorem dL_sums_1 : decode cL_sums 1 = .ok (.iconst 0, 1) := by decide +kernel
theorem dL_sums_12 : decode cL_sums 12 = .ok (.astore_n 3, 1) := by decide +kernel
theorem dL_sums_13 : decode cL_sums 13 = .ok (.iconst 1, 1) := by decide +kernel
theorem dL_sums_14 : decode cL_sums 14 = .ok (.ireturn, 1) := by decide +kernel
theorem dL_sums_15 : decode cL_sums 15 = .ok (.iconst 0, 1) := by decide +kernel
theorem dL_sums_16 : decode cL_sums 16 = .ok (.ireturn, 1) := by decide +kernel
theorem dL_sums_2 : decode cL_sums 2 = .ok (.aload_n 0, 1) := by decide +kernel
theorem dL_sums_3 : decode cL_sums 3 = .ok (.iload_n 1, 1) := by decide +kernel
theorem dL_sums_4 : decode cL_sums 4 = .ok (.invokevirtual 56, 3) := by decide +kernel
theorem dL_sums_7 : decode cL_sums 7 = .ok (.i2l, 1) := by decide +kernel
theorem dL_sums_8 : decode cL_sums 8 = .ok (.lastore, 1) := by decide +kernel
theorem dL_sums_9 : decode cL_sums 9 = .ok (.goto 6, 3) := by decide +kernel
theorem dL_traffic_0 : decode cL_traffic 0 = .ok (.aload 6, 2) := by decide +kernel
theorem dL_traffic_11 : decode cL_traffic 11 = .ok (.invokevirtual 67, 3) := by decide +kernel
theorem dL_traffic_14 : decode cL_traffic 14 = .ok (.i2l, 1) := by decide +kernel
theorem dL_traffic_15 : decode cL_traffic 15 = .ok (.lastore, 1) := by decide +kernel
theorem dL_traffic_16 : decode cL_traffic 16 = .ok (.goto 7, 3) := by decide +kernel
theorem dL_traffic_19 : decode cL_traffic 19 = .ok (.astore 7, 2) := by decide +kernel
theorem dL_traffic_2 : decode cL_traffic 2 = .ok (.iconst 0, 1) := by decide +kernel
theorem dL_traffic_21 : decode cL_traffic 21 = .ok (.iconst 1, 1) := by decide +kernel
theorem dL_traffic_22 : decode cL_traffic 22 = .ok (.ireturn, 1) := by decide +kernel
theorem dL_traffic_23 : decode cL_traffic 23 = .ok (.iconst 0, 1) := by decide +kernel
theorem dL_traffic_24 : decode cL_traffic 24 = .ok (.ireturn, 1) := by decide +kernel
theorem dL_traffic_3 : decode cL_traffic 3 = .ok (.aload_n 0, 1) := by decide +kernel
theorem dL_traffic_4 : decode cL_traffic 4 = .ok (.iload_n 1, 1) := by decide +kernel
theorem dL_traffic_5 : decode cL_traffic 5 = .ok (.iload_n 2, 1) := by decide +kernel
theorem dL_traffic_6 : decode cL_traffic 6 = .ok (.iload_n 3, 1) := by decide +kernel
theorem dL_traffic_7 : decode cL_traffic 7 = .ok (.iload 4, 2) := by decide +kernel
theorem dL_traffic_9 : decode cL_traffic 9 = .ok (.iload 5, 2) := by decide +kernel
def vs_w_minutes : List Cond := .codeWith yL_minutes cL_minutes 5 (some .int) [(0, 10, 13, 13), (0, 10, 17, 51)] :: (([.classLink RL 13 "java/lang/IllegalArgumentException", .classLink RL 51 "java/lang/IllegalStateException"] : List Cond) ++ ((wsV RL 48 RX11 yX11_minutes vs_k_minutes) ++ ([])))
set_option maxHeartbeats 4000000 in
set_option maxRecDepth 100000 in
theorem w_minutes (l : Launch) (hl : l.stackTraces = false) (D : va_G) (cy : Nat → ClassId) (sa : Nat → Nat) (kk ta kr kl sA dA pa ki kp wa or_ rq : Nat) (nr nw im : Int) (qf : Nat → Int32) (s2 s3 s6 s8 s11 s13 : Nat) (wi ro dr dt pe gu sh wo dn mi fl tk go : Int) (hf wf df : Nat → Int32) (n k : Int) (ao : Nat) (av : Int) (sz : Nat) (hr_nr : 0 ≤ nr ∧ nr ≤ 4) (hr_nw : 0 ≤ nw ∧ nw ≤ 4) (hr_im : 0 ≤ im ∧ im ≤ 3) (hr_wi : 0 ≤ wi ∧ wi ≤ 16) (hr_ro : 0 ≤ ro ∧ ro ≤ 6) (hr_dr : 0 ≤ dr ∧ dr ≤ 14) (hr_dt : 0 ≤ dt ∧ dt ≤ 6) (hr_pe : 0 ≤ pe ∧ pe ≤ 8) (hr_gu : 0 ≤ gu ∧ gu ≤ 20) (hr_sh : 0 ≤ sh ∧ sh ≤ 2) (hr_wo : 0 ≤ wo ∧ wo ≤ 8) (hr_dn : (-2147483648) ≤ dn ∧ dn ≤ 2147483647) (hr_mi : 0 ≤ mi ∧ mi ≤ 600) (hr_fl : (-2147483648) ≤ fl ∧ fl ≤ 2147483647) (hr_tk : (-2147483648) ≤ tk ∧ tk ≤ 2147483647) (hr_go : (-2147483648) ≤ go ∧ go ≤ 2147483647) (hr_n : (-2147483648) ≤ n ∧ n ≤ 2147483647) (hr_k : (-2147483648) ≤ k ∧ k ≤ 2147483647) (hr_av : (-2147483648) ≤ av ∧ av ≤ 2147483647) (hhf : inv_ 96 0 99 hf) (hdf : tab_ 4 14 [0, 0, 0, 0] [15, 5, 99, 16] df) : mI9 l yL_minutes vs_w_minutes ({ frames := 8, cells := 2, slots := 12, locals := 144 }) D cy sa sz [vR kk, vI n, vI k, vR ao] [zO kk 11 [vR ta, vR kr, vR kl, vI nr, vI nw, vR sA, vR dA, vR pa, vR ki, vR kp, vI im, vR wa, vR or_, vR rq], zI rq (cy 0) 4 qf, zO sA 6 [vI wi, vI ro, vR s2, vR s3, vI dr, vI dt, vR s6, vI pe, vR s8, vI gu, vI sh, vR s11, vI wo, vR s13, vI dn, vI mi, vI fl, vI tk, vI go], zI s2 (cy 0) 96 hf, zI s3 (cy 0) 96 wf, zI s6 (cy 0) 56 df, zL ao (cy 2) 1 (fun _ => (iI av).toInt64)] (fun (r : Int32) (u : SV) => r = iI (u.2.1 4) ∧ (0 ≤ u.2.1 1 ∧ u.2.1 1 ≤ 600) ∧ ((-2147483648) ≤ u.2.1 2 ∧ u.2.1 2 ≤ 2147483647) ∧ ((-2147483648) ≤ u.2.1 3 ∧ u.2.1 3 ≤ 2147483647) ∧ (0 ≤ u.2.1 4 ∧ u.2.1 4 ≤ 2) ∧ ((-2147483648) ≤ u.2.1 5 ∧ u.2.1 5 ≤ 2147483647) ∧ inv_ 96 0 99 hf ∧ tab_ 4 14 [0, 0, 0, 0] [15, 5, 99, 16] df) (fun u : SV => [zO kk 11 [vR ta, vR kr, vR kl, vI nr, vI nw, vR sA, vR dA, vR pa, vR ki, vR kp, vI im, vR wa, vR or_, vR rq], zI rq (cy 0) 4 (u.2.2 1), zO sA 6 [vI wi, vI ro, vR s2, vR s3, vI dr, vI dt, vR s6, vI pe, vR s8, vI gu, vI sh, vR s11, vI wo, vR s13, vI dn, vI (u.2.1 1), vI (u.2.1 2), vI (u.2.1 3), vI go], zI s2 (cy 0) 96 hf, zI s3 (cy 0) 96 (u.2.2 0), zI s6 (cy 0) 56 df, zL ao (cy 2) 1 (fun _ => (iI (u.2.1 5)).toInt64)]) 2 12 := by
  refine va_MetW (cc := cL_minutes) (maxL := 5) (ret := (some .int)) (by decide) rfl ?_
  intro p e s m args below meth c s₁ B hml hv
  obtain ⟨rfl, hsz, hP, hG, hD0, hT⟩ := hv
  have hx := B.exec
  have hb := B.bytes
  have hr := B.returns
  have hts := atoms_spec (ws := vs_w_minutes) B.pre
  have hown : s.vm.findClass RL = some m.cls := findClass_of_methodNamed B.named
  have hlocks := B.notSynchronized
  subst hsz
  have hD := hD0.self (sz := s.heap.size)
  generalize hAe : va_A [zO kk 11 [vR ta, vR kr, vR kl, vI nr, vI nw, vR sA, vR dA, vR pa, vR ki, vR kp, vI im, vR wa, vR or_, vR rq], zI rq (cy 0) 4 qf, zO sA 6 [vI wi, vI ro, vR s2, vR s3, vI dr, vI dt, vR s6, vI pe, vR s8, vI gu, vI sh, vR s11, vI wo, vR s13, vI dn, vI mi, vI fl, vI tk, vI go], zI s2 (cy 0) 96 hf, zI s3 (cy 0) 96 wf, zI s6 (cy 0) 56 df, zL ao (cy 2) 1 (fun _ => (iI av).toInt64)] s.heap.size = A at hD hT ⊢
  have hA : ∀ q : Nat, s.heap.size ≤ q → A q := fun q h => by rw [← hAe]; exact Or.inr h
  have hS : va_S A s.heap s.heap [] := va_S.rf
  have hl0 := lv_entry ([vR kk, vI n, vI k, vR ao]) (n := 5) (Nat.le_of_ble_eq_true rfl)
  rw [lg_entry_eq]
  generalize (lg_sl ([vR kk, vI n, vI k, vR ao]) ++ List.replicate (5 - (lg_sl ([vR kk, vI n, vI k, vR ao])).length) Slot.unset).toArray = ls at hl0 ⊢
  have hlv : lv_has ls 5 [(0, vR kk), (1, vI n), (2, vI k), (3, vR ao)] := hl0
  have gg_0 : GoodIn vs_w_minutes (wsV RL 48 RX11 yX11_minutes vs_k_minutes) := goodIn_sub (fun w h => List.mem_cons_of_mem _ (List.mem_append_right _ (List.mem_append_left _ h))) (gd_V gd_k_minutes (by decide +kernel))
  have xc13 := hts (.classLink RL 13 "java/lang/IllegalArgumentException") (List.mem_of_getElem? (i := 1) rfl)
  have xc51 := hts (.classLink RL 51 "java/lang/IllegalStateException") (List.mem_of_getElem? (i := 2) rfl)
  have htab : c.exceptionTable.toList = [(⟨0, 10, 13, 13⟩ : ExceptionTableEntry), (⟨0, 10, 17, 51⟩ : ExceptionTableEntry)] := vx_table (x := yL_minutes) B (hts (.codeWith yL_minutes cL_minutes 5 (some .int) [(0, 10, 13, 13), (0, 10, 17, 51)]) List.mem_cons_self)
  refine lv_aload_n hx hb dL_minutes_0 rfl (lv_at hlv 3 rfl) ?_
  refine lv_iconst (v := iI 0) hx hb dL_minutes_1 (by decide) ?_
  refine lv_aload_n hx hb dL_minutes_2 rfl (lv_at hlv 0 rfl) ?_
  refine lv_iload_n hx hb dL_minutes_3 rfl (lv_at hlv 1 rfl) ?_
  refine lv_iload_n hx hb dL_minutes_4 rfl (lv_at hlv 2 rfl) ?_
  refine cjrx_i [false, false, false, false, false, false, true] (fun pre9 => (vx_runV (As := [vI n, vI k]) (rest := [vI 0, vR ao]) ⟨hx, hb, hml, hown, hts⟩ (k_minutes l hl D cy sa kk ta kr kl sA dA pa ki kp wa or_ rq nr nw im qf s2 s3 s6 s8 s11 s13 wi ro dr dt pe gu sh wo dn mi fl tk go hf wf df n k s.heap.size (by first | exact hr_nr | omega) (by first | exact hr_nw | omega) (by first | exact hr_im | omega) (by first | exact hr_wi | omega) (by first | exact hr_ro | omega) (by first | exact hr_dr | omega) (by first | exact hr_dt | omega) (by first | exact hr_pe | omega) (by first | exact hr_gu | omega) (by first | exact hr_sh | omega) (by first | exact hr_wo | omega) (by first | exact hr_dn | omega) (by first | exact hr_mi | omega) (by first | exact hr_fl | omega) (by first | exact hr_tk | omega) (by first | exact hr_go | omega) (by first | exact hr_n | omega) (by first | exact hr_k | omega) hhf hdf) (cwV 2 hts gg_0 rfl rfl rfl (by decide +kernel) ⟨Nat.le_of_ble_eq_true rfl, Nat.le_of_ble_eq_true rfl⟩) ⟨pcW.blind, (va_recv hG.1 hP (ci := 11) (q0 := 0) rfl rfl), pre9⟩ rfl rfl hlv.1 rfl (lv_room (Nat.le_of_ble_eq_true rfl)) dL_minutes_5 ⟨Nat.le_of_ble_eq_true rfl, Nat.le_of_ble_eq_true rfl⟩)) hP hD hS hA hG hT [0, 1, 2, 3, 4, 5] rfl (by decide +kernel) (fun E ux1 ce q9 H locs hp hq9 hS h1 h2 h3 => ?_) (fun r1 u1 H locs hw1 hq9 hS => ?_)
  · obtain ⟨hP, hD⟩ := pd9 [zL ao (cy 2) 1 (fun _ => (iI av).toInt64), zO kk 11 [vR ta, vR kr, vR kl, vI nr, vI nw, vR sA, vR dA, vR pa, vR ki, vR kp, vI im, vR wa, vR or_, vR rq], zI rq (cy 0) 4 (ux1.2.2 0), zO sA 6 [vI wi, vI ro, vR s2, vR s3, vI dr, vI dt, vR s6, vI pe, vR s8, vI gu, vI sh, vR s11, vI wo, vR s13, vI dn, vI mi, vI fl, vI tk, vI go], zI s2 (cy 0) 96 hf, zI s3 (cy 0) 96 wf, zI s6 (cy 0) 56 df] hq9
    rcases hp with rfl | rfl
    · refine vx_catch (name := "java/lang/IllegalArgumentException") hown [] (⟨0, 10, 13, 13⟩ : ExceptionTableEntry) [(⟨0, 10, 17, 51⟩ : ExceptionTableEntry)] htab (fun z hz => absurd hz List.not_mem_nil) (by decide) (by decide) xc13 (va_Nw.use rfl (hG.2.2.2.1 _ (List.mem_of_getElem? (i := 2) rfl))) h1 h2 h3 ?_
      refine lv_astore (lv' := [(4, vR q9), (0, vR kk), (1, vI n), (2, vI k), (3, vR ao)]) hx hb dL_minutes_13 hlv (by decide) rfl (fun ls hlv => ?_)
      refine lv_iconst (v := iI 1) hx hb dL_minutes_15 (by decide) ?_
      refine W.widen (k := 2) (n := 12) (Nat.le_of_ble_eq_true rfl) (Nat.le_of_ble_eq_true rfl) ?_
      exact W.iret (v := iI 1) hx hb hr (fun t ht hW => ⟨⟨iI 1, ((fun k => ([] : List Nat).getD k 0), (fun k => ([0, mi, fl, tk, 1, av] : List Int).getD k 0), (fun k => ([wf, (ux1.2.2 0)] : List (Nat → Int32)).getD k (fun _ => 0))), rfl, ⟨rfl, (by show (0 ≤ mi ∧ mi ≤ 600); first | exact hr_mi | omega), (by show ((-2147483648) ≤ fl ∧ fl ≤ 2147483647); first | exact hr_fl | omega), (by show ((-2147483648) ≤ tk ∧ tk ≤ 2147483647); first | exact hr_tk | omega), (by show (0 ≤ 1 ∧ 1 ≤ 2); show (0 : Int) ≤ 1 ∧ (1 : Int) ≤ 2; decide), (by show ((-2147483648) ≤ av ∧ av ≤ 2147483647); first | exact hr_av | omega), hhf, hdf⟩, at9 ht hP hD [1, 2, 3, 4, 5, 6, 0] (by decide +kernel) rfl⟩, hS.F ht⟩) hS.2.2 dL_minutes_16
    · refine vx_catch (name := "java/lang/IllegalStateException") hown [(⟨0, 10, 13, 13⟩ : ExceptionTableEntry)] (⟨0, 10, 17, 51⟩ : ExceptionTableEntry) [] htab (List.forall_mem_cons.mpr ⟨Or.inr ⟨by decide, "java/lang/IllegalArgumentException", xc13, hG.2.2.2.2.1 _ (List.mem_of_getElem? (i := 3) rfl) _ (List.mem_of_getElem? (i := 2) rfl) (by decide)⟩, fun z hz => absurd hz List.not_mem_nil⟩) (by decide) (by decide) xc51 (va_Nw.use rfl (hG.2.2.2.1 _ (List.mem_of_getElem? (i := 3) rfl))) h1 h2 h3 ?_
      refine lv_astore (lv' := [(4, vR q9), (0, vR kk), (1, vI n), (2, vI k), (3, vR ao)]) hx hb dL_minutes_17 hlv (by decide) rfl (fun ls hlv => ?_)
      refine lv_iconst (v := iI 2) hx hb dL_minutes_19 (by decide) ?_
      refine W.widen (k := 2) (n := 12) (Nat.le_of_ble_eq_true rfl) (Nat.le_of_ble_eq_true rfl) ?_
      exact W.iret (v := iI 2) hx hb hr (fun t ht hW => ⟨⟨iI 2, ((fun k => ([] : List Nat).getD k 0), (fun k => ([0, mi, fl, tk, 2, av] : List Int).getD k 0), (fun k => ([wf, (ux1.2.2 0)] : List (Nat → Int32)).getD k (fun _ => 0))), rfl, ⟨rfl, (by show (0 ≤ mi ∧ mi ≤ 600); first | exact hr_mi | omega), (by show ((-2147483648) ≤ fl ∧ fl ≤ 2147483647); first | exact hr_fl | omega), (by show ((-2147483648) ≤ tk ∧ tk ≤ 2147483647); first | exact hr_tk | omega), (by show (0 ≤ 2 ∧ 2 ≤ 2); show (0 : Int) ≤ 2 ∧ (2 : Int) ≤ 2; decide), (by show ((-2147483648) ≤ av ∧ av ≤ 2147483647); first | exact hr_av | omega), hhf, hdf⟩, at9 ht hP hD [1, 2, 3, 4, 5, 6, 0] (by decide +kernel) rfl⟩, hS.F ht⟩) hS.2.2 dL_minutes_20
  obtain ⟨rfl, hq1_1, hq1_2, hq1_3, hq1_4, hq1_5, hq1_6⟩ := hw1
  obtain ⟨hP, hD⟩ := pd9 [zL ao (cy 2) 1 (fun _ => (iI av).toInt64), zO kk 11 [vR ta, vR kr, vR kl, vI nr, vI nw, vR sA, vR dA, vR pa, vR ki, vR kp, vI im, vR wa, vR or_, vR rq], zI rq (cy 0) 4 qf, zO sA 6 [vI wi, vI ro, vR s2, vR s3, vI dr, vI dt, vR s6, vI pe, vR s8, vI gu, vI sh, vR s11, vI wo, vR s13, vI dn, vI (u1.2.1 1), vI (u1.2.1 2), vI (u1.2.1 3), vI go], zI s2 (cy 0) 96 hf, zI s3 (cy 0) 96 (u1.2.2 0), zI s6 (cy 0) 56 df] hq9
  refine lv_i2l (v := jJ (u1.2.1 0)) hx hb dL_minutes_8 (jJ_i (by omega)) ?_
  refine va_last hx hb hG.1 hP hD hS 0 2 rfl rfl (iI_in (by omega) (by decide)) dL_minutes_9 (fun H locs hP hD hS => ?_)
  obtain ⟨hP, hD⟩ := arl 0 (fun _ => (iI (u1.2.1 0)).toInt64) hP hD rfl (arl_2 (by omega))
  obtain ⟨hP, hD⟩ := pw9 [zL ao (cy 2) 1 (fun _ => (iI (u1.2.1 0)).toInt64), zO kk 11 [vR ta, vR kr, vR kl, vI nr, vI nw, vR sA, vR dA, vR pa, vR ki, vR kp, vI im, vR wa, vR or_, vR rq], zI rq (cy 0) 4 qf, zO sA 6 [vI wi, vI ro, vR s2, vR s3, vI dr, vI dt, vR s6, vI pe, vR s8, vI gu, vI sh, vR s11, vI wo, vR s13, vI dn, vI (u1.2.1 1), vI (u1.2.1 2), vI (u1.2.1 3), vI go], zI s2 (cy 0) 96 hf, zI s3 (cy 0) 96 (u1.2.2 0), zI s6 (cy 0) 56 df] hP hD
  refine lv_goto (tgt := 21) hx hb dL_minutes_10 (by decide) ?_
  refine lv_iconst (v := iI 0) hx hb dL_minutes_21 (by decide) ?_
  refine W.widen (k := 2) (n := 12) (Nat.le_of_ble_eq_true rfl) (Nat.le_of_ble_eq_true rfl) ?_
  exact W.iret (v := iI 0) hx hb hr (fun t ht hW => ⟨⟨iI 0, ((fun k => ([] : List Nat).getD k 0), (fun k => ([0, (u1.2.1 1), (u1.2.1 2), (u1.2.1 3), 0, (u1.2.1 0)] : List Int).getD k 0), (fun k => ([(u1.2.2 0), qf] : List (Nat → Int32)).getD k (fun _ => 0))), rfl, ⟨rfl, (by show (0 ≤ (u1.2.1 1) ∧ (u1.2.1 1) ≤ 600); first | exact hq1_2 | omega), (by show ((-2147483648) ≤ (u1.2.1 2) ∧ (u1.2.1 2) ≤ 2147483647); first | exact hq1_3 | omega), (by show ((-2147483648) ≤ (u1.2.1 3) ∧ (u1.2.1 3) ≤ 2147483647); first | exact hq1_4 | omega), (by show (0 ≤ 0 ∧ 0 ≤ 2); show (0 : Int) ≤ 0 ∧ (0 : Int) ≤ 2; decide), (by show ((-2147483648) ≤ (u1.2.1 0) ∧ (u1.2.1 0) ≤ 2147483647); first | exact hq1_1 | omega), hq1_5, hq1_6⟩, at9 ht hP hD [1, 2, 3, 4, 5, 6, 0] (by decide +kernel) rfl⟩, hS.F ht⟩) hS.2.2 dL_minutes_22
def vs_w_shower : List Cond := .codeWith yL_shower cL_shower 4 (some .int) [(0, 9, 12, 34), (0, 9, 15, 51)] :: (([.classLink RL 34 "java/util/NoSuchElementException", .classLink RL 51 "java/lang/IllegalStateException"] : List Cond) ++ ((wsV RL 53 RX11 yX11_shower vs_k_shower) ++ ([])))
set_option maxHeartbeats 4000000 in
set_option maxRecDepth 100000 in
theorem w_shower (l : Launch) (hl : l.stackTraces = false) (D : va_G) (cy : Nat → ClassId) (sa : Nat → Nat) (kk ta kr kl sA dA pa ki kp wa or_ rq : Nat) (nr nw im : Int) (qf : Nat → Int32) (s2 s3 s6 s8 s11 s13 : Nat) (wi ro dr dt pe gu sh wo dn mi fl tk go : Int) (hf wf df : Nat → Int32) (krf : Nat → Option Nat) (ra rf : Nat) (rm : Int) (ff : Nat → Int32) (n : Int) (ao : Nat) (av : Int) (sz : Nat) (hr_nr : 0 ≤ nr ∧ nr ≤ 4) (hr_nw : 0 ≤ nw ∧ nw ≤ 4) (hr_im : 0 ≤ im ∧ im ≤ 3) (hr_wi : 0 ≤ wi ∧ wi ≤ 16) (hr_ro : 0 ≤ ro ∧ ro ≤ 6) (hr_dr : 0 ≤ dr ∧ dr ≤ 14) (hr_dt : 0 ≤ dt ∧ dt ≤ 6) (hr_pe : 0 ≤ pe ∧ pe ≤ 8) (hr_gu : 0 ≤ gu ∧ gu ≤ 20) (hr_sh : 0 ≤ sh ∧ sh ≤ 2) (hr_wo : 0 ≤ wo ∧ wo ≤ 8) (hr_dn : (-2147483648) ≤ dn ∧ dn ≤ 2147483647) (hr_mi : 0 ≤ mi ∧ mi ≤ 600) (hr_fl : (-2147483648) ≤ fl ∧ fl ≤ 2147483647) (hr_tk : (-2147483648) ≤ tk ∧ tk ≤ 2147483647) (hr_go : (-2147483648) ≤ go ∧ go ≤ 2147483647) (hr_rm : 0 ≤ rm ∧ rm ≤ 240) (hr_n : (-2147483648) ≤ n ∧ n ≤ 2147483647) (hr_av : (-2147483648) ≤ av ∧ av ≤ 2147483647) (hp0 : 0 ≤ n ∧ n < 4 → krf n.toNat = some ra) (hhf : inv_ 96 0 99 hf) (hdf : tab_ 4 14 [0, 0, 0, 0] [15, 5, 99, 16] df) (hff : inv_ 240 0 20 ff) : mI9 l yL_shower vs_w_shower ({ frames := 9, cells := 2, slots := 12, locals := 163 }) D cy sa sz [vR kk, vI n, vR ao] [zO kk 11 [vR ta, vR kr, vR kl, vI nr, vI nw, vR sA, vR dA, vR pa, vR ki, vR kp, vI im, vR wa, vR or_, vR rq], zI rq (cy 0) 4 qf, zO sA 6 [vI wi, vI ro, vR s2, vR s3, vI dr, vI dt, vR s6, vI pe, vR s8, vI gu, vI sh, vR s11, vI wo, vR s13, vI dn, vI mi, vI fl, vI tk, vI go], zI s2 (cy 0) 96 hf, zI s3 (cy 0) 96 wf, zI s6 (cy 0) 56 df, zQ kr (cy 4) 4 krf, zO ra 5 [vR rf, vI rm], zI rf (cy 0) 240 ff, zL ao (cy 2) 1 (fun _ => (iI av).toInt64)] (fun (r : Int32) (u : SV) => r = iI (u.2.1 4) ∧ (0 ≤ u.2.1 1 ∧ u.2.1 1 ≤ 600) ∧ ((-2147483648) ≤ u.2.1 2 ∧ u.2.1 2 ≤ 2147483647) ∧ ((-2147483648) ≤ u.2.1 3 ∧ u.2.1 3 ≤ 2147483647) ∧ (0 ≤ u.2.1 4 ∧ u.2.1 4 ≤ 2) ∧ ((-2147483648) ≤ u.2.1 5 ∧ u.2.1 5 ≤ 2147483647) ∧ inv_ 96 0 99 hf ∧ tab_ 4 14 [0, 0, 0, 0] [15, 5, 99, 16] df ∧ inv_ 240 0 20 ff) (fun u : SV => [zO kk 11 [vR ta, vR kr, vR kl, vI nr, vI nw, vR sA, vR dA, vR pa, vR ki, vR kp, vI im, vR wa, vR or_, vR rq], zI rq (cy 0) 4 (u.2.2 1), zO sA 6 [vI wi, vI ro, vR s2, vR s3, vI dr, vI dt, vR s6, vI pe, vR s8, vI gu, vI sh, vR s11, vI wo, vR s13, vI dn, vI (u.2.1 1), vI (u.2.1 2), vI (u.2.1 3), vI go], zI s2 (cy 0) 96 hf, zI s3 (cy 0) 96 (u.2.2 0), zI s6 (cy 0) 56 df, zQ kr (cy 4) 4 krf, zO ra 5 [vR rf, vI rm], zI rf (cy 0) 240 ff, zL ao (cy 2) 1 (fun _ => (iI (u.2.1 5)).toInt64)]) 2 12 := by
  refine va_MetW (cc := cL_shower) (maxL := 4) (ret := (some .int)) (by decide) rfl ?_
  intro p e s m args below meth c s₁ B hml hv
  obtain ⟨rfl, hsz, hP, hG, hD0, hT⟩ := hv
  have hx := B.exec
  have hb := B.bytes
  have hr := B.returns
  have hts := atoms_spec (ws := vs_w_shower) B.pre
  have hown : s.vm.findClass RL = some m.cls := findClass_of_methodNamed B.named
  have hlocks := B.notSynchronized
  subst hsz
  have hD := hD0.self (sz := s.heap.size)
  generalize hAe : va_A [zO kk 11 [vR ta, vR kr, vR kl, vI nr, vI nw, vR sA, vR dA, vR pa, vR ki, vR kp, vI im, vR wa, vR or_, vR rq], zI rq (cy 0) 4 qf, zO sA 6 [vI wi, vI ro, vR s2, vR s3, vI dr, vI dt, vR s6, vI pe, vR s8, vI gu, vI sh, vR s11, vI wo, vR s13, vI dn, vI mi, vI fl, vI tk, vI go], zI s2 (cy 0) 96 hf, zI s3 (cy 0) 96 wf, zI s6 (cy 0) 56 df, zQ kr (cy 4) 4 krf, zO ra 5 [vR rf, vI rm], zI rf (cy 0) 240 ff, zL ao (cy 2) 1 (fun _ => (iI av).toInt64)] s.heap.size = A at hD hT ⊢
  have hA : ∀ q : Nat, s.heap.size ≤ q → A q := fun q h => by rw [← hAe]; exact Or.inr h
  have hS : va_S A s.heap s.heap [] := va_S.rf
  have hl0 := lv_entry ([vR kk, vI n, vR ao]) (n := 4) (Nat.le_of_ble_eq_true rfl)
  rw [lg_entry_eq]
  generalize (lg_sl ([vR kk, vI n, vR ao]) ++ List.replicate (4 - (lg_sl ([vR kk, vI n, vR ao])).length) Slot.unset).toArray = ls at hl0 ⊢
  have hlv : lv_has ls 4 [(0, vR kk), (1, vI n), (2, vR ao)] := hl0
  have gg_0 : GoodIn vs_w_shower (wsV RL 53 RX11 yX11_shower vs_k_shower) := goodIn_sub (fun w h => List.mem_cons_of_mem _ (List.mem_append_right _ (List.mem_append_left _ h))) (gd_V gd_k_shower (by decide +kernel))
  have xc34 := hts (.classLink RL 34 "java/util/NoSuchElementException") (List.mem_of_getElem? (i := 1) rfl)
  have xc51 := hts (.classLink RL 51 "java/lang/IllegalStateException") (List.mem_of_getElem? (i := 2) rfl)
  have htab : c.exceptionTable.toList = [(⟨0, 9, 12, 34⟩ : ExceptionTableEntry), (⟨0, 9, 15, 51⟩ : ExceptionTableEntry)] := vx_table (x := yL_shower) B (hts (.codeWith yL_shower cL_shower 4 (some .int) [(0, 9, 12, 34), (0, 9, 15, 51)]) List.mem_cons_self)
  refine lv_aload_n hx hb dL_shower_0 rfl (lv_at hlv 2 rfl) ?_
  refine lv_iconst (v := iI 0) hx hb dL_shower_1 (by decide) ?_
  refine lv_aload_n hx hb dL_shower_2 rfl (lv_at hlv 0 rfl) ?_
  refine lv_iload_n hx hb dL_shower_3 rfl (lv_at hlv 1 rfl) ?_
  refine cjrx_i [false, false, false, false, false, false, false, false, false, true] (fun pre9 => (vx_runV (As := [vI n]) (rest := [vI 0, vR ao]) ⟨hx, hb, hml, hown, hts⟩ (k_shower l hl D cy sa kk ta kr kl sA dA pa ki kp wa or_ rq nr nw im qf s2 s3 s6 s8 s11 s13 wi ro dr dt pe gu sh wo dn mi fl tk go hf wf df krf ra rf rm ff n s.heap.size (by first | exact hr_nr | omega) (by first | exact hr_nw | omega) (by first | exact hr_im | omega) (by first | exact hr_wi | omega) (by first | exact hr_ro | omega) (by first | exact hr_dr | omega) (by first | exact hr_dt | omega) (by first | exact hr_pe | omega) (by first | exact hr_gu | omega) (by first | exact hr_sh | omega) (by first | exact hr_wo | omega) (by first | exact hr_dn | omega) (by first | exact hr_mi | omega) (by first | exact hr_fl | omega) (by first | exact hr_tk | omega) (by first | exact hr_go | omega) (by first | exact hr_rm | omega) (by first | exact hr_n | omega) hp0 hhf hdf hff) (cwV 1 hts gg_0 rfl rfl rfl (by decide +kernel) ⟨Nat.le_of_ble_eq_true rfl, Nat.le_of_ble_eq_true rfl⟩) ⟨pcW.blind, (va_recv hG.1 hP (ci := 11) (q0 := 0) rfl rfl), pre9⟩ rfl rfl hlv.1 rfl (lv_room (Nat.le_of_ble_eq_true rfl)) dL_shower_4 ⟨Nat.le_of_ble_eq_true rfl, Nat.le_of_ble_eq_true rfl⟩)) hP hD hS hA hG hT [0, 1, 2, 3, 4, 5, 6, 7, 8] rfl (by decide +kernel) (fun E ux1 ce q9 H locs hp hq9 hS h1 h2 h3 => ?_) (fun r1 u1 H locs hw1 hq9 hS => ?_)
  · obtain ⟨hP, hD⟩ := pd9 [zL ao (cy 2) 1 (fun _ => (iI av).toInt64), zO kk 11 [vR ta, vR kr, vR kl, vI nr, vI nw, vR sA, vR dA, vR pa, vR ki, vR kp, vI im, vR wa, vR or_, vR rq], zI rq (cy 0) 4 (ux1.2.2 0), zO sA 6 [vI wi, vI ro, vR s2, vR s3, vI dr, vI dt, vR s6, vI pe, vR s8, vI gu, vI sh, vR s11, vI wo, vR s13, vI dn, vI mi, vI fl, vI tk, vI go], zI s2 (cy 0) 96 hf, zI s3 (cy 0) 96 wf, zI s6 (cy 0) 56 df, zQ kr (cy 4) 4 krf, zO ra 5 [vR rf, vI rm], zI rf (cy 0) 240 ff] hq9
    rcases hp with rfl | rfl
    · refine vx_catch (name := "java/util/NoSuchElementException") hown [] (⟨0, 9, 12, 34⟩ : ExceptionTableEntry) [(⟨0, 9, 15, 51⟩ : ExceptionTableEntry)] htab (fun z hz => absurd hz List.not_mem_nil) (by decide) (by decide) xc34 (va_Nw.use rfl (hG.2.2.2.1 _ (List.mem_of_getElem? (i := 1) rfl))) h1 h2 h3 ?_
      refine lv_astore_n (lv' := [(3, vR q9), (0, vR kk), (1, vI n), (2, vR ao)]) hx hb dL_shower_12 rfl hlv (by decide) rfl (fun ls hlv => ?_)
      refine lv_iconst (v := iI 1) hx hb dL_shower_13 (by decide) ?_
      refine W.widen (k := 2) (n := 12) (Nat.le_of_ble_eq_true rfl) (Nat.le_of_ble_eq_true rfl) ?_
      exact W.iret (v := iI 1) hx hb hr (fun t ht hW => ⟨⟨iI 1, ((fun k => ([] : List Nat).getD k 0), (fun k => ([0, mi, fl, tk, 1, av] : List Int).getD k 0), (fun k => ([wf, (ux1.2.2 0)] : List (Nat → Int32)).getD k (fun _ => 0))), rfl, ⟨rfl, (by show (0 ≤ mi ∧ mi ≤ 600); first | exact hr_mi | omega), (by show ((-2147483648) ≤ fl ∧ fl ≤ 2147483647); first | exact hr_fl | omega), (by show ((-2147483648) ≤ tk ∧ tk ≤ 2147483647); first | exact hr_tk | omega), (by show (0 ≤ 1 ∧ 1 ≤ 2); show (0 : Int) ≤ 1 ∧ (1 : Int) ≤ 2; decide), (by show ((-2147483648) ≤ av ∧ av ≤ 2147483647); first | exact hr_av | omega), hhf, hdf, hff⟩, at9 ht hP hD [1, 2, 3, 4, 5, 6, 7, 8, 9, 0] (by decide +kernel) rfl⟩, hS.F ht⟩) hS.2.2 dL_shower_14
    · refine vx_catch (name := "java/lang/IllegalStateException") hown [(⟨0, 9, 12, 34⟩ : ExceptionTableEntry)] (⟨0, 9, 15, 51⟩ : ExceptionTableEntry) [] htab (List.forall_mem_cons.mpr ⟨Or.inr ⟨by decide, "java/util/NoSuchElementException", xc34, hG.2.2.2.2.1 _ (List.mem_of_getElem? (i := 3) rfl) _ (List.mem_of_getElem? (i := 1) rfl) (by decide)⟩, fun z hz => absurd hz List.not_mem_nil⟩) (by decide) (by decide) xc51 (va_Nw.use rfl (hG.2.2.2.1 _ (List.mem_of_getElem? (i := 3) rfl))) h1 h2 h3 ?_
      refine lv_astore_n (lv' := [(3, vR q9), (0, vR kk), (1, vI n), (2, vR ao)]) hx hb dL_shower_15 rfl hlv (by decide) rfl (fun ls hlv => ?_)
      refine lv_iconst (v := iI 2) hx hb dL_shower_16 (by decide) ?_
      refine W.widen (k := 2) (n := 12) (Nat.le_of_ble_eq_true rfl) (Nat.le_of_ble_eq_true rfl) ?_
      exact W.iret (v := iI 2) hx hb hr (fun t ht hW => ⟨⟨iI 2, ((fun k => ([] : List Nat).getD k 0), (fun k => ([0, mi, fl, tk, 2, av] : List Int).getD k 0), (fun k => ([wf, (ux1.2.2 0)] : List (Nat → Int32)).getD k (fun _ => 0))), rfl, ⟨rfl, (by show (0 ≤ mi ∧ mi ≤ 600); first | exact hr_mi | omega), (by show ((-2147483648) ≤ fl ∧ fl ≤ 2147483647); first | exact hr_fl | omega), (by show ((-2147483648) ≤ tk ∧ tk ≤ 2147483647); first | exact hr_tk | omega), (by show (0 ≤ 2 ∧ 2 ≤ 2); show (0 : Int) ≤ 2 ∧ (2 : Int) ≤ 2; decide), (by show ((-2147483648) ≤ av ∧ av ≤ 2147483647); first | exact hr_av | omega), hhf, hdf, hff⟩, at9 ht hP hD [1, 2, 3, 4, 5, 6, 7, 8, 9, 0] (by decide +kernel) rfl⟩, hS.F ht⟩) hS.2.2 dL_shower_17
  obtain ⟨rfl, hq1_1, hq1_2, hq1_3, hq1_4, hq1_5, hq1_6, hq1_7⟩ := hw1
  obtain ⟨hP, hD⟩ := pd9 [zL ao (cy 2) 1 (fun _ => (iI av).toInt64), zO kk 11 [vR ta, vR kr, vR kl, vI nr, vI nw, vR sA, vR dA, vR pa, vR ki, vR kp, vI im, vR wa, vR or_, vR rq], zI rq (cy 0) 4 qf, zO sA 6 [vI wi, vI ro, vR s2, vR s3, vI dr, vI dt, vR s6, vI pe, vR s8, vI gu, vI sh, vR s11, vI wo, vR s13, vI dn, vI (u1.2.1 1), vI (u1.2.1 2), vI (u1.2.1 3), vI go], zI s2 (cy 0) 96 hf, zI s3 (cy 0) 96 (u1.2.2 0), zI s6 (cy 0) 56 df, zQ kr (cy 4) 4 krf, zO ra 5 [vR rf, vI rm], zI rf (cy 0) 240 ff] hq9
  refine lv_i2l (v := jJ (u1.2.1 0)) hx hb dL_shower_7 (jJ_i (by omega)) ?_
  refine va_last hx hb hG.1 hP hD hS 0 2 rfl rfl (iI_in (by omega) (by decide)) dL_shower_8 (fun H locs hP hD hS => ?_)
  obtain ⟨hP, hD⟩ := arl 0 (fun _ => (iI (u1.2.1 0)).toInt64) hP hD rfl (arl_2 (by omega))
  obtain ⟨hP, hD⟩ := pw9 [zL ao (cy 2) 1 (fun _ => (iI (u1.2.1 0)).toInt64), zO kk 11 [vR ta, vR kr, vR kl, vI nr, vI nw, vR sA, vR dA, vR pa, vR ki, vR kp, vI im, vR wa, vR or_, vR rq], zI rq (cy 0) 4 qf, zO sA 6 [vI wi, vI ro, vR s2, vR s3, vI dr, vI dt, vR s6, vI pe, vR s8, vI gu, vI sh, vR s11, vI wo, vR s13, vI dn, vI (u1.2.1 1), vI (u1.2.1 2), vI (u1.2.1 3), vI go], zI s2 (cy 0) 96 hf, zI s3 (cy 0) 96 (u1.2.2 0), zI s6 (cy 0) 56 df, zQ kr (cy 4) 4 krf, zO ra 5 [vR rf, vI rm], zI rf (cy 0) 240 ff] hP hD
  refine lv_goto (tgt := 18) hx hb dL_shower_9 (by decide) ?_
  refine lv_iconst (v := iI 0) hx hb dL_shower_18 (by decide) ?_
  refine W.widen (k := 2) (n := 12) (Nat.le_of_ble_eq_true rfl) (Nat.le_of_ble_eq_true rfl) ?_
  exact W.iret (v := iI 0) hx hb hr (fun t ht hW => ⟨⟨iI 0, ((fun k => ([] : List Nat).getD k 0), (fun k => ([0, (u1.2.1 1), (u1.2.1 2), (u1.2.1 3), 0, (u1.2.1 0)] : List Int).getD k 0), (fun k => ([(u1.2.2 0), qf] : List (Nat → Int32)).getD k (fun _ => 0))), rfl, ⟨rfl, (by show (0 ≤ (u1.2.1 1) ∧ (u1.2.1 1) ≤ 600); first | exact hq1_2 | omega), (by show ((-2147483648) ≤ (u1.2.1 2) ∧ (u1.2.1 2) ≤ 2147483647); first | exact hq1_3 | omega), (by show ((-2147483648) ≤ (u1.2.1 3) ∧ (u1.2.1 3) ≤ 2147483647); first | exact hq1_4 | omega), (by show (0 ≤ 0 ∧ 0 ≤ 2); show (0 : Int) ≤ 0 ∧ (0 : Int) ≤ 2; decide), (by show ((-2147483648) ≤ (u1.2.1 0) ∧ (u1.2.1 0) ≤ 2147483647); first | exact hq1_1 | omega), hq1_5, hq1_6, hq1_7⟩, at9 ht hP hD [1, 2, 3, 4, 5, 6, 7, 8, 9, 0] (by decide +kernel) rfl⟩, hS.F ht⟩) hS.2.2 dL_shower_19
def vs_w_sums : List Cond := .codeWith yL_sums cL_sums 4 (some .int) [(0, 9, 12, 13)] :: (([.classLink RL 13 "java/lang/IllegalArgumentException"] : List Cond) ++ ((wsV RL 56 RX11 yX11_sums vs_k_sums) ++ ([])))
set_option maxHeartbeats 4000000 in
set_option maxRecDepth 100000 in
theorem w_sums (l : Launch) (hl : l.stackTraces = false) (D : va_G) (cy : Nat → ClassId) (sa : Nat → Nat) (kk ta kr kl sA dA pa ki kp wa or_ rq : Nat) (nr nw im : Int) (qf : Nat → Int32) (s2 s3 s6 s8 s11 s13 : Nat) (wi ro dr dt pe gu sh wo dn mi fl tk go : Int) (wf : Nat → Int32) (n : Int) (ao : Nat) (av : Int) (sz : Nat) (hr_nr : 0 ≤ nr ∧ nr ≤ 4) (hr_nw : 0 ≤ nw ∧ nw ≤ 4) (hr_im : 0 ≤ im ∧ im ≤ 3) (hr_wi : 0 ≤ wi ∧ wi ≤ 16) (hr_ro : 0 ≤ ro ∧ ro ≤ 6) (hr_dr : 0 ≤ dr ∧ dr ≤ 14) (hr_dt : 0 ≤ dt ∧ dt ≤ 6) (hr_pe : 0 ≤ pe ∧ pe ≤ 8) (hr_gu : 0 ≤ gu ∧ gu ≤ 20) (hr_sh : 0 ≤ sh ∧ sh ≤ 2) (hr_wo : 0 ≤ wo ∧ wo ≤ 8) (hr_dn : (-2147483648) ≤ dn ∧ dn ≤ 2147483647) (hr_mi : 0 ≤ mi ∧ mi ≤ 600) (hr_fl : (-2147483648) ≤ fl ∧ fl ≤ 2147483647) (hr_tk : (-2147483648) ≤ tk ∧ tk ≤ 2147483647) (hr_go : (-2147483648) ≤ go ∧ go ≤ 2147483647) (hr_n : (-2147483648) ≤ n ∧ n ≤ 2147483647) (hr_av : (-2147483648) ≤ av ∧ av ≤ 2147483647) : mI9 l yL_sums vs_w_sums ({ frames := 8, cells := 1, slots := 6, locals := 142 }) D cy sa sz [vR kk, vI n, vR ao] [zO kk 11 [vR ta, vR kr, vR kl, vI nr, vI nw, vR sA, vR dA, vR pa, vR ki, vR kp, vI im, vR wa, vR or_, vR rq], zI rq (cy 0) 4 qf, zO sA 6 [vI wi, vI ro, vR s2, vR s3, vI dr, vI dt, vR s6, vI pe, vR s8, vI gu, vI sh, vR s11, vI wo, vR s13, vI dn, vI mi, vI fl, vI tk, vI go], zI s3 (cy 0) 96 wf, zL ao (cy 2) 1 (fun _ => (iI av).toInt64)] (fun (r : Int32) (u : SV) => r = iI (u.2.1 1) ∧ (0 ≤ u.2.1 1 ∧ u.2.1 1 ≤ 1) ∧ ((-2147483648) ≤ u.2.1 2 ∧ u.2.1 2 ≤ 2147483647)) (fun u : SV => [zO kk 11 [vR ta, vR kr, vR kl, vI nr, vI nw, vR sA, vR dA, vR pa, vR ki, vR kp, vI im, vR wa, vR or_, vR rq], zI rq (cy 0) 4 (u.2.2 0), zO sA 6 [vI wi, vI ro, vR s2, vR s3, vI dr, vI dt, vR s6, vI pe, vR s8, vI gu, vI sh, vR s11, vI wo, vR s13, vI dn, vI mi, vI fl, vI tk, vI go], zI s3 (cy 0) 96 wf, zL ao (cy 2) 1 (fun _ => (iI (u.2.1 2)).toInt64)]) 1 6 := by
  refine va_MetW (cc := cL_sums) (maxL := 4) (ret := (some .int)) (by decide) rfl ?_
  intro p e s m args below meth c s₁ B hml hv
  obtain ⟨rfl, hsz, hP, hG, hD0, hT⟩ := hv
  have hx := B.exec
  have hb := B.bytes
  have hr := B.returns
  have hts := atoms_spec (ws := vs_w_sums) B.pre
  have hown : s.vm.findClass RL = some m.cls := findClass_of_methodNamed B.named
  have hlocks := B.notSynchronized
  subst hsz
  have hD := hD0.self (sz := s.heap.size)
  generalize hAe : va_A [zO kk 11 [vR ta, vR kr, vR kl, vI nr, vI nw, vR sA, vR dA, vR pa, vR ki, vR kp, vI im, vR wa, vR or_, vR rq], zI rq (cy 0) 4 qf, zO sA 6 [vI wi, vI ro, vR s2, vR s3, vI dr, vI dt, vR s6, vI pe, vR s8, vI gu, vI sh, vR s11, vI wo, vR s13, vI dn, vI mi, vI fl, vI tk, vI go], zI s3 (cy 0) 96 wf, zL ao (cy 2) 1 (fun _ => (iI av).toInt64)] s.heap.size = A at hD hT ⊢
  have hA : ∀ q : Nat, s.heap.size ≤ q → A q := fun q h => by rw [← hAe]; exact Or.inr h
  have hS : va_S A s.heap s.heap [] := va_S.rf
  have hl0 := lv_entry ([vR kk, vI n, vR ao]) (n := 4) (Nat.le_of_ble_eq_true rfl)
  rw [lg_entry_eq]
  generalize (lg_sl ([vR kk, vI n, vR ao]) ++ List.replicate (4 - (lg_sl ([vR kk, vI n, vR ao])).length) Slot.unset).toArray = ls at hl0 ⊢
  have hlv : lv_has ls 4 [(0, vR kk), (1, vI n), (2, vR ao)] := hl0
  have gg_0 : GoodIn vs_w_sums (wsV RL 56 RX11 yX11_sums vs_k_sums) := goodIn_sub (fun w h => List.mem_cons_of_mem _ (List.mem_append_right _ (List.mem_append_left _ h))) (gd_V gd_k_sums (by decide +kernel))
  have xc13 := hts (.classLink RL 13 "java/lang/IllegalArgumentException") (List.mem_of_getElem? (i := 1) rfl)
  have htab : c.exceptionTable.toList = [(⟨0, 9, 12, 13⟩ : ExceptionTableEntry)] := vx_table (x := yL_sums) B (hts (.codeWith yL_sums cL_sums 4 (some .int) [(0, 9, 12, 13)]) List.mem_cons_self)
  refine lv_aload_n hx hb dL_sums_0 rfl (lv_at hlv 2 rfl) ?_
  refine lv_iconst (v := iI 0) hx hb dL_sums_1 (by decide) ?_
  refine lv_aload_n hx hb dL_sums_2 rfl (lv_at hlv 0 rfl) ?_
  refine lv_iload_n hx hb dL_sums_3 rfl (lv_at hlv 1 rfl) ?_
  refine cjrx_i [false, false, false, false, true] (fun pre9 => (vx_runV (As := [vI n]) (rest := [vI 0, vR ao]) ⟨hx, hb, hml, hown, hts⟩ (k_sums l hl D cy sa kk ta kr kl sA dA pa ki kp wa or_ rq nr nw im qf s2 s3 s6 s8 s11 s13 wi ro dr dt pe gu sh wo dn mi fl tk go wf n s.heap.size (by first | exact hr_nr | omega) (by first | exact hr_nw | omega) (by first | exact hr_im | omega) (by first | exact hr_wi | omega) (by first | exact hr_ro | omega) (by first | exact hr_dr | omega) (by first | exact hr_dt | omega) (by first | exact hr_pe | omega) (by first | exact hr_gu | omega) (by first | exact hr_sh | omega) (by first | exact hr_wo | omega) (by first | exact hr_dn | omega) (by first | exact hr_mi | omega) (by first | exact hr_fl | omega) (by first | exact hr_tk | omega) (by first | exact hr_go | omega) (by first | exact hr_n | omega)) (cwV 1 hts gg_0 rfl rfl rfl (by decide +kernel) ⟨Nat.le_of_ble_eq_true rfl, Nat.le_of_ble_eq_true rfl⟩) ⟨pcW.blind, (va_recv hG.1 hP (ci := 11) (q0 := 0) rfl rfl), pre9⟩ rfl rfl hlv.1 rfl (lv_room (Nat.le_of_ble_eq_true rfl)) dL_sums_4 ⟨Nat.le_of_ble_eq_true rfl, Nat.le_of_ble_eq_true rfl⟩)) hP hD hS hA hG hT [0, 1, 2, 3] rfl (by decide +kernel) (fun E ux1 ce q9 H locs hp hq9 hS h1 h2 h3 => ?_) (fun r1 u1 H locs hw1 hq9 hS => ?_)
  · obtain ⟨hP, hD⟩ := pd9 [zL ao (cy 2) 1 (fun _ => (iI av).toInt64), zO kk 11 [vR ta, vR kr, vR kl, vI nr, vI nw, vR sA, vR dA, vR pa, vR ki, vR kp, vI im, vR wa, vR or_, vR rq], zI rq (cy 0) 4 (ux1.2.2 0), zO sA 6 [vI wi, vI ro, vR s2, vR s3, vI dr, vI dt, vR s6, vI pe, vR s8, vI gu, vI sh, vR s11, vI wo, vR s13, vI dn, vI mi, vI fl, vI tk, vI go], zI s3 (cy 0) 96 wf] hq9
    obtain rfl := hp
    refine vx_catch (name := "java/lang/IllegalArgumentException") hown [] (⟨0, 9, 12, 13⟩ : ExceptionTableEntry) [] htab (fun z hz => absurd hz List.not_mem_nil) (by decide) (by decide) xc13 (va_Nw.use rfl (hG.2.2.2.1 _ (List.mem_of_getElem? (i := 2) rfl))) h1 h2 h3 ?_
    refine lv_astore_n (lv' := [(3, vR q9), (0, vR kk), (1, vI n), (2, vR ao)]) hx hb dL_sums_12 rfl hlv (by decide) rfl (fun ls hlv => ?_)
    refine lv_iconst (v := iI 1) hx hb dL_sums_13 (by decide) ?_
    refine W.widen (k := 1) (n := 6) (Nat.le_of_ble_eq_true rfl) (Nat.le_of_ble_eq_true rfl) ?_
    exact W.iret (v := iI 1) hx hb hr (fun t ht hW => ⟨⟨iI 1, ((fun k => ([] : List Nat).getD k 0), (fun k => ([0, 1, av] : List Int).getD k 0), (fun k => ([(ux1.2.2 0)] : List (Nat → Int32)).getD k (fun _ => 0))), rfl, ⟨rfl, (by show (0 ≤ 1 ∧ 1 ≤ 1); show (0 : Int) ≤ 1 ∧ (1 : Int) ≤ 1; decide), (by show ((-2147483648) ≤ av ∧ av ≤ 2147483647); first | exact hr_av | omega)⟩, at9 ht hP hD [1, 2, 3, 4, 0] (by decide +kernel) rfl⟩, hS.F ht⟩) hS.2.2 dL_sums_14
  obtain ⟨rfl, hq1_1⟩ := hw1
  obtain ⟨hP, hD⟩ := pd9 [zL ao (cy 2) 1 (fun _ => (iI av).toInt64), zO kk 11 [vR ta, vR kr, vR kl, vI nr, vI nw, vR sA, vR dA, vR pa, vR ki, vR kp, vI im, vR wa, vR or_, vR rq], zI rq (cy 0) 4 qf, zO sA 6 [vI wi, vI ro, vR s2, vR s3, vI dr, vI dt, vR s6, vI pe, vR s8, vI gu, vI sh, vR s11, vI wo, vR s13, vI dn, vI mi, vI fl, vI tk, vI go], zI s3 (cy 0) 96 wf] hq9
  refine lv_i2l (v := jJ (u1.2.1 0)) hx hb dL_sums_7 (jJ_i (by omega)) ?_
  refine va_last hx hb hG.1 hP hD hS 0 2 rfl rfl (iI_in (by omega) (by decide)) dL_sums_8 (fun H locs hP hD hS => ?_)
  obtain ⟨hP, hD⟩ := arl 0 (fun _ => (iI (u1.2.1 0)).toInt64) hP hD rfl (arl_2 (by omega))
  obtain ⟨hP, hD⟩ := pw9 [zL ao (cy 2) 1 (fun _ => (iI (u1.2.1 0)).toInt64), zO kk 11 [vR ta, vR kr, vR kl, vI nr, vI nw, vR sA, vR dA, vR pa, vR ki, vR kp, vI im, vR wa, vR or_, vR rq], zI rq (cy 0) 4 qf, zO sA 6 [vI wi, vI ro, vR s2, vR s3, vI dr, vI dt, vR s6, vI pe, vR s8, vI gu, vI sh, vR s11, vI wo, vR s13, vI dn, vI mi, vI fl, vI tk, vI go], zI s3 (cy 0) 96 wf] hP hD
  refine lv_goto (tgt := 15) hx hb dL_sums_9 (by decide) ?_
  refine lv_iconst (v := iI 0) hx hb dL_sums_15 (by decide) ?_
  refine W.widen (k := 1) (n := 6) (Nat.le_of_ble_eq_true rfl) (Nat.le_of_ble_eq_true rfl) ?_
  exact W.iret (v := iI 0) hx hb hr (fun t ht hW => ⟨⟨iI 0, ((fun k => ([] : List Nat).getD k 0), (fun k => ([0, 0, (u1.2.1 0)] : List Int).getD k 0), (fun k => ([qf] : List (Nat → Int32)).getD k (fun _ => 0))), rfl, ⟨rfl, (by show (0 ≤ 0 ∧ 0 ≤ 1); show (0 : Int) ≤ 0 ∧ (0 : Int) ≤ 1; decide), (by show ((-2147483648) ≤ (u1.2.1 0) ∧ (u1.2.1 0) ≤ 2147483647); first | exact hq1_1 | omega)⟩, at9 ht hP hD [1, 2, 3, 4, 0] (by decide +kernel) rfl⟩, hS.F ht⟩) hS.2.2 dL_sums_16
def vs_w_says : List Cond := .codeWith yL_says cL_says 12 (some .int) [(0, 24, 27, 34), (0, 24, 31, 13)] :: (([.classLink RL 34 "java/util/NoSuchElementException", .classLink RL 13 "java/lang/IllegalArgumentException"] : List Cond) ++ ((wsV RL 59 RX11 yX11_says vs_k_says) ++ ([])))
set_option maxHeartbeats 4000000 in
set_option maxRecDepth 100000 in
theorem w_says (l : Launch) (hl : l.stackTraces = false) (D : va_G) (cy : Nat → ClassId) (sa : Nat → Nat) (kk ta kr kl sA dA pa ki kp wa or_ rq : Nat) (nr nw im : Int) (qf : Nat → Int32) (klf : Nat → Option Nat) (la l0 l2 l3 : Nat) (size : Int) (st sf vf : Nat → Int32) (se : Nat) (fo wth : Int) (tA : Nat) (ca na : Nat) (crow cpace ctyre ckind crt cpt : Int) (nf : Nat → Int32) (n w_ a0 a1 a2 a3 a4 a5 a6 : Int) (ao : Nat) (av : Int) (sz : Nat) (hr_nr : 0 ≤ nr ∧ nr ≤ 4) (hr_nw : 0 ≤ nw ∧ nw ≤ 4) (hr_im : 0 ≤ im ∧ im ≤ 3) (hr_size : 0 ≤ size ∧ size ≤ 600) (hr_fo : (-2147483648) ≤ fo ∧ fo ≤ 2147483647) (hr_wth : (-2147483648) ≤ wth ∧ wth ≤ 2147483647) (hr_crow : 0 ≤ crow ∧ crow ≤ 5) (hr_cpace : (-2147483648) ≤ cpace ∧ cpace ≤ 2147483647) (hr_ctyre : (-2147483648) ≤ ctyre ∧ ctyre ≤ 2147483647) (hr_ckind : (-2147483648) ≤ ckind ∧ ckind ≤ 2147483647) (hr_crt : 0 ≤ crt ∧ crt ≤ 5) (hr_cpt : (-2147483648) ≤ cpt ∧ cpt ≤ 2147483647) (hr_n : (-2147483648) ≤ n ∧ n ≤ 2147483647) (hr_w_ : (-2147483648) ≤ w_ ∧ w_ ≤ 2147483647) (hr_a0 : (-2147483648) ≤ a0 ∧ a0 ≤ 2147483647) (hr_a1 : (-2147483648) ≤ a1 ∧ a1 ≤ 2147483647) (hr_a2 : (-2147483648) ≤ a2 ∧ a2 ≤ 2147483647) (hr_a3 : (-2147483648) ≤ a3 ∧ a3 ≤ 2147483647) (hr_a4 : (-2147483648) ≤ a4 ∧ a4 ≤ 2147483647) (hr_a5 : (-2147483648) ≤ a5 ∧ a5 ≤ 2147483647) (hr_a6 : (-2147483648) ≤ a6 ∧ a6 ≤ 2147483647) (hr_av : (-2147483648) ≤ av ∧ av ≤ 2147483647) (hp0 : 0 ≤ n ∧ n < 4 → klf n.toNat = some la) (hst : inv_ 600 0 2147483647 st) : mI9 l yL_says vs_w_says ({ frames := 9, cells := 2, slots := 12, locals := 172 }) D cy sa sz [vR kk, vI n, vI w_, vI a0, vI a1, vI a2, vI a3, vI a4, vI a5, vI a6, vR ao] [zO kk 11 [vR ta, vR kr, vR kl, vI nr, vI nw, vR sA, vR dA, vR pa, vR ki, vR kp, vI im, vR wa, vR or_, vR rq], zI rq (cy 0) 4 qf, zQ kl (cy 5) 4 klf, zO la 1 [vR l0, vI size, vR l2, vR l3], zI l0 (cy 0) 600 st, zI l2 (cy 0) 5 sf, zI l3 (cy 0) 40 vf, zO wa 9 [vR tA, vR ca, vR se, vI fo, vI wth], zO ca 0 [vR na, vI crow, vI cpace, vI ctyre, vI ckind, vI crt, vI cpt], zI na (cy 0) 7 nf, zL ao (cy 2) 1 (fun _ => (iI av).toInt64)] (fun (r : Int32) (u : SV) => r = iI (u.2.1 1) ∧ (0 ≤ u.2.1 1 ∧ u.2.1 1 ≤ 2) ∧ ((-2147483648) ≤ u.2.1 2 ∧ u.2.1 2 ≤ 2147483647) ∧ inv_ 600 0 2147483647 st) (fun u : SV => [zO kk 11 [vR ta, vR kr, vR kl, vI nr, vI nw, vR sA, vR dA, vR pa, vR ki, vR kp, vI im, vR wa, vR or_, vR rq], zI rq (cy 0) 4 (u.2.2 2), zQ kl (cy 5) 4 klf, zO la 1 [vR l0, vI size, vR l2, vR l3], zI l0 (cy 0) 600 st, zI l2 (cy 0) 5 sf, zI l3 (cy 0) 40 (u.2.2 0), zO wa 9 [vR tA, vR ca, vR se, vI fo, vI wth], zO ca 0 [vR na, vI crow, vI cpace, vI ctyre, vI ckind, vI crt, vI cpt], zI na (cy 0) 7 (u.2.2 1), zL ao (cy 2) 1 (fun _ => (iI (u.2.1 2)).toInt64)]) 2 12 := by
  refine va_MetW (cc := cL_says) (maxL := 12) (ret := (some .int)) (by decide) rfl ?_
  intro p e s m args below meth c s₁ B hml hv
  obtain ⟨rfl, hsz, hP, hG, hD0, hT⟩ := hv
  have hx := B.exec
  have hb := B.bytes
  have hr := B.returns
  have hts := atoms_spec (ws := vs_w_says) B.pre
  have hown : s.vm.findClass RL = some m.cls := findClass_of_methodNamed B.named
  have hlocks := B.notSynchronized
  subst hsz
  have hD := hD0.self (sz := s.heap.size)
  generalize hAe : va_A [zO kk 11 [vR ta, vR kr, vR kl, vI nr, vI nw, vR sA, vR dA, vR pa, vR ki, vR kp, vI im, vR wa, vR or_, vR rq], zI rq (cy 0) 4 qf, zQ kl (cy 5) 4 klf, zO la 1 [vR l0, vI size, vR l2, vR l3], zI l0 (cy 0) 600 st, zI l2 (cy 0) 5 sf, zI l3 (cy 0) 40 vf, zO wa 9 [vR tA, vR ca, vR se, vI fo, vI wth], zO ca 0 [vR na, vI crow, vI cpace, vI ctyre, vI ckind, vI crt, vI cpt], zI na (cy 0) 7 nf, zL ao (cy 2) 1 (fun _ => (iI av).toInt64)] s.heap.size = A at hD hT ⊢
  have hA : ∀ q : Nat, s.heap.size ≤ q → A q := fun q h => by rw [← hAe]; exact Or.inr h
  have hS : va_S A s.heap s.heap [] := va_S.rf
  have hl0 := lv_entry ([vR kk, vI n, vI w_, vI a0, vI a1, vI a2, vI a3, vI a4, vI a5, vI a6, vR ao]) (n := 12) (Nat.le_of_ble_eq_true rfl)
  rw [lg_entry_eq]
  generalize (lg_sl ([vR kk, vI n, vI w_, vI a0, vI a1, vI a2, vI a3, vI a4, vI a5, vI a6, vR ao]) ++ List.replicate (12 - (lg_sl ([vR kk, vI n, vI w_, vI a0, vI a1, vI a2, vI a3, vI a4, vI a5, vI a6, vR ao])).length) Slot.unset).toArray = ls at hl0 ⊢
  have hlv : lv_has ls 12 [(0, vR kk), (1, vI n), (2, vI w_), (3, vI a0), (4, vI a1), (5, vI a2), (6, vI a3), (7, vI a4), (8, vI a5), (9, vI a6), (10, vR ao)] := hl0
  have gg_0 : GoodIn vs_w_says (wsV RL 59 RX11 yX11_says vs_k_says) := goodIn_sub (fun w h => List.mem_cons_of_mem _ (List.mem_append_right _ (List.mem_append_left _ h))) (gd_V gd_k_says (by decide +kernel))
  have xc34 := hts (.classLink RL 34 "java/util/NoSuchElementException") (List.mem_of_getElem? (i := 1) rfl)
  have xc13 := hts (.classLink RL 13 "java/lang/IllegalArgumentException") (List.mem_of_getElem? (i := 2) rfl)
  have htab : c.exceptionTable.toList = [(⟨0, 24, 27, 34⟩ : ExceptionTableEntry), (⟨0, 24, 31, 13⟩ : ExceptionTableEntry)] := vx_table (x := yL_says) B (hts (.codeWith yL_says cL_says 12 (some .int) [(0, 24, 27, 34), (0, 24, 31, 13)]) List.mem_cons_self)
  refine lv_aload hx hb dL_says_0 (lv_at hlv 10 rfl) ?_
  refine lv_iconst (v := iI 0) hx hb dL_says_2 (by decide) ?_
  refine lv_aload_n hx hb dL_says_3 rfl (lv_at hlv 0 rfl) ?_
  refine lv_iload_n hx hb dL_says_4 rfl (lv_at hlv 1 rfl) ?_
  refine lv_iload_n hx hb dL_says_5 rfl (lv_at hlv 2 rfl) ?_
  refine lv_iload_n hx hb dL_says_6 rfl (lv_at hlv 3 rfl) ?_
  refine lv_iload hx hb dL_says_7 (lv_at hlv 4 rfl) ?_
  refine lv_iload hx hb dL_says_9 (lv_at hlv 5 rfl) ?_
  refine lv_iload hx hb dL_says_11 (lv_at hlv 6 rfl) ?_
  refine lv_iload hx hb dL_says_13 (lv_at hlv 7 rfl) ?_
  refine lv_iload hx hb dL_says_15 (lv_at hlv 8 rfl) ?_
  refine lv_iload hx hb dL_says_17 (lv_at hlv 9 rfl) ?_
  refine cjrx_i [false, false, false, false, false, false, false, false, false, false, true] (fun pre9 => (vx_runV (As := [vI n, vI w_, vI a0, vI a1, vI a2, vI a3, vI a4, vI a5, vI a6]) (rest := [vI 0, vR ao]) ⟨hx, hb, hml, hown, hts⟩ (k_says l hl D cy sa kk ta kr kl sA dA pa ki kp wa or_ rq nr nw im qf klf la l0 l2 l3 size st sf vf se fo wth tA ca na crow cpace ctyre ckind crt cpt nf n w_ a0 a1 a2 a3 a4 a5 a6 s.heap.size (by first | exact hr_nr | omega) (by first | exact hr_nw | omega) (by first | exact hr_im | omega) (by first | exact hr_size | omega) (by first | exact hr_fo | omega) (by first | exact hr_wth | omega) (by first | exact hr_crow | omega) (by first | exact hr_cpace | omega) (by first | exact hr_ctyre | omega) (by first | exact hr_ckind | omega) (by first | exact hr_crt | omega) (by first | exact hr_cpt | omega) (by first | exact hr_n | omega) (by first | exact hr_w_ | omega) (by first | exact hr_a0 | omega) (by first | exact hr_a1 | omega) (by first | exact hr_a2 | omega) (by first | exact hr_a3 | omega) (by first | exact hr_a4 | omega) (by first | exact hr_a5 | omega) (by first | exact hr_a6 | omega) hp0 hst) (cwV 9 hts gg_0 rfl rfl rfl (by decide +kernel) ⟨Nat.le_of_ble_eq_true rfl, Nat.le_of_ble_eq_true rfl⟩) ⟨pcW.blind, (va_recv hG.1 hP (ci := 11) (q0 := 0) rfl rfl), pre9⟩ rfl rfl hlv.1 rfl (lv_room (Nat.le_of_ble_eq_true rfl)) dL_says_19 ⟨Nat.le_of_ble_eq_true rfl, Nat.le_of_ble_eq_true rfl⟩)) hP hD hS hA hG hT [0, 1, 2, 3, 4, 5, 6, 7, 8, 9] rfl (by decide +kernel) (fun E ux1 ce q9 H locs hp hq9 hS h1 h2 h3 => ?_) (fun r1 u1 H locs hw1 hq9 hS => ?_)
  · obtain ⟨hP, hD⟩ := pd9 [zL ao (cy 2) 1 (fun _ => (iI av).toInt64), zO kk 11 [vR ta, vR kr, vR kl, vI nr, vI nw, vR sA, vR dA, vR pa, vR ki, vR kp, vI im, vR wa, vR or_, vR rq], zI rq (cy 0) 4 (ux1.2.2 0), zQ kl (cy 5) 4 klf, zO la 1 [vR l0, vI size, vR l2, vR l3], zI l0 (cy 0) 600 st, zI l2 (cy 0) 5 sf, zI l3 (cy 0) 40 vf, zO wa 9 [vR tA, vR ca, vR se, vI fo, vI wth], zO ca 0 [vR na, vI crow, vI cpace, vI ctyre, vI ckind, vI crt, vI cpt], zI na (cy 0) 7 nf] hq9
    rcases hp with rfl | rfl
    · refine vx_catch (name := "java/util/NoSuchElementException") hown [] (⟨0, 24, 27, 34⟩ : ExceptionTableEntry) [(⟨0, 24, 31, 13⟩ : ExceptionTableEntry)] htab (fun z hz => absurd hz List.not_mem_nil) (by decide) (by decide) xc34 (va_Nw.use rfl (hG.2.2.2.1 _ (List.mem_of_getElem? (i := 1) rfl))) h1 h2 h3 ?_
      refine lv_astore (lv' := [(11, vR q9), (0, vR kk), (1, vI n), (2, vI w_), (3, vI a0), (4, vI a1), (5, vI a2), (6, vI a3), (7, vI a4), (8, vI a5), (9, vI a6), (10, vR ao)]) hx hb dL_says_27 hlv (by decide) rfl (fun ls hlv => ?_)
      refine lv_iconst (v := iI 1) hx hb dL_says_29 (by decide) ?_
      refine W.widen (k := 2) (n := 12) (Nat.le_of_ble_eq_true rfl) (Nat.le_of_ble_eq_true rfl) ?_
      exact W.iret (v := iI 1) hx hb hr (fun t ht hW => ⟨⟨iI 1, ((fun k => ([] : List Nat).getD k 0), (fun k => ([0, 1, av] : List Int).getD k 0), (fun k => ([vf, nf, (ux1.2.2 0)] : List (Nat → Int32)).getD k (fun _ => 0))), rfl, ⟨rfl, (by show (0 ≤ 1 ∧ 1 ≤ 2); show (0 : Int) ≤ 1 ∧ (1 : Int) ≤ 2; decide), (by show ((-2147483648) ≤ av ∧ av ≤ 2147483647); first | exact hr_av | omega), hst⟩, at9 ht hP hD [1, 2, 3, 4, 5, 6, 7, 8, 9, 10, 0] (by decide +kernel) rfl⟩, hS.F ht⟩) hS.2.2 dL_says_30
    · refine vx_catch (name := "java/lang/IllegalArgumentException") hown [(⟨0, 24, 27, 34⟩ : ExceptionTableEntry)] (⟨0, 24, 31, 13⟩ : ExceptionTableEntry) [] htab (List.forall_mem_cons.mpr ⟨Or.inr ⟨by decide, "java/util/NoSuchElementException", xc34, hG.2.2.2.2.1 _ (List.mem_of_getElem? (i := 2) rfl) _ (List.mem_of_getElem? (i := 1) rfl) (by decide)⟩, fun z hz => absurd hz List.not_mem_nil⟩) (by decide) (by decide) xc13 (va_Nw.use rfl (hG.2.2.2.1 _ (List.mem_of_getElem? (i := 2) rfl))) h1 h2 h3 ?_
      refine lv_astore (lv' := [(11, vR q9), (0, vR kk), (1, vI n), (2, vI w_), (3, vI a0), (4, vI a1), (5, vI a2), (6, vI a3), (7, vI a4), (8, vI a5), (9, vI a6), (10, vR ao)]) hx hb dL_says_31 hlv (by decide) rfl (fun ls hlv => ?_)
      refine lv_iconst (v := iI 2) hx hb dL_says_33 (by decide) ?_
      refine W.widen (k := 2) (n := 12) (Nat.le_of_ble_eq_true rfl) (Nat.le_of_ble_eq_true rfl) ?_
      exact W.iret (v := iI 2) hx hb hr (fun t ht hW => ⟨⟨iI 2, ((fun k => ([] : List Nat).getD k 0), (fun k => ([0, 2, av] : List Int).getD k 0), (fun k => ([vf, nf, (ux1.2.2 0)] : List (Nat → Int32)).getD k (fun _ => 0))), rfl, ⟨rfl, (by show (0 ≤ 2 ∧ 2 ≤ 2); show (0 : Int) ≤ 2 ∧ (2 : Int) ≤ 2; decide), (by show ((-2147483648) ≤ av ∧ av ≤ 2147483647); first | exact hr_av | omega), hst⟩, at9 ht hP hD [1, 2, 3, 4, 5, 6, 7, 8, 9, 10, 0] (by decide +kernel) rfl⟩, hS.F ht⟩) hS.2.2 dL_says_34
  obtain ⟨rfl, hq1_1, hq1_2⟩ := hw1
  obtain ⟨hP, hD⟩ := pd9 [zL ao (cy 2) 1 (fun _ => (iI av).toInt64), zO kk 11 [vR ta, vR kr, vR kl, vI nr, vI nw, vR sA, vR dA, vR pa, vR ki, vR kp, vI im, vR wa, vR or_, vR rq], zI rq (cy 0) 4 qf, zQ kl (cy 5) 4 klf, zO la 1 [vR l0, vI size, vR l2, vR l3], zI l0 (cy 0) 600 st, zI l2 (cy 0) 5 sf, zI l3 (cy 0) 40 (u1.2.2 0), zO wa 9 [vR tA, vR ca, vR se, vI fo, vI wth], zO ca 0 [vR na, vI crow, vI cpace, vI ctyre, vI ckind, vI crt, vI cpt], zI na (cy 0) 7 (u1.2.2 1)] hq9
  refine lv_i2l (v := jJ (u1.2.1 0)) hx hb dL_says_22 (jJ_i (by omega)) ?_
  refine va_last hx hb hG.1 hP hD hS 0 2 rfl rfl (iI_in (by omega) (by decide)) dL_says_23 (fun H locs hP hD hS => ?_)
  obtain ⟨hP, hD⟩ := arl 0 (fun _ => (iI (u1.2.1 0)).toInt64) hP hD rfl (arl_2 (by omega))
  obtain ⟨hP, hD⟩ := pw9 [zL ao (cy 2) 1 (fun _ => (iI (u1.2.1 0)).toInt64), zO kk 11 [vR ta, vR kr, vR kl, vI nr, vI nw, vR sA, vR dA, vR pa, vR ki, vR kp, vI im, vR wa, vR or_, vR rq], zI rq (cy 0) 4 qf, zQ kl (cy 5) 4 klf, zO la 1 [vR l0, vI size, vR l2, vR l3], zI l0 (cy 0) 600 st, zI l2 (cy 0) 5 sf, zI l3 (cy 0) 40 (u1.2.2 0), zO wa 9 [vR tA, vR ca, vR se, vI fo, vI wth], zO ca 0 [vR na, vI crow, vI cpace, vI ctyre, vI ckind, vI crt, vI cpt], zI na (cy 0) 7 (u1.2.2 1)] hP hD
  refine lv_goto (tgt := 35) hx hb dL_says_24 (by decide) ?_
  refine lv_iconst (v := iI 0) hx hb dL_says_35 (by decide) ?_
  refine W.widen (k := 2) (n := 12) (Nat.le_of_ble_eq_true rfl) (Nat.le_of_ble_eq_true rfl) ?_
  exact W.iret (v := iI 0) hx hb hr (fun t ht hW => ⟨⟨iI 0, ((fun k => ([] : List Nat).getD k 0), (fun k => ([0, 0, (u1.2.1 0)] : List Int).getD k 0), (fun k => ([(u1.2.2 0), (u1.2.2 1), qf] : List (Nat → Int32)).getD k (fun _ => 0))), rfl, ⟨rfl, (by show (0 ≤ 0 ∧ 0 ≤ 2); show (0 : Int) ≤ 0 ∧ (0 : Int) ≤ 2; decide), (by show ((-2147483648) ≤ (u1.2.1 0) ∧ (u1.2.1 0) ≤ 2147483647); first | exact hq1_1 | omega), hq1_2⟩, at9 ht hP hD [1, 2, 3, 4, 5, 6, 7, 8, 9, 10, 0] (by decide +kernel) rfl⟩, hS.F ht⟩) hS.2.2 dL_says_36
def vs_w_car : List Cond := .codeWith yL_car cL_car 8 (some .int) [(0, 16, 19, 34), (0, 16, 23, 13), (0, 16, 27, 51)] :: (([.classLink RL 34 "java/util/NoSuchElementException", .classLink RL 13 "java/lang/IllegalArgumentException", .classLink RL 51 "java/lang/IllegalStateException"] : List Cond) ++ ((wsV RL 63 RX11 yX11_car vs_k_car) ++ ([])))
set_option maxHeartbeats 4000000 in
set_option maxRecDepth 100000 in
theorem w_car (l : Launch) (hl : l.stackTraces = false) (D : va_G) (cy : Nat → ClassId) (sa : Nat → Nat) (kk ta kr kl sA dA pa ki kp wa or_ rq : Nat) (nr nw im : Int) (qf : Nat → Int32) (klf : Nat → Option Nat) (la l0 l2 l3 : Nat) (size : Int) (st sf vf : Nat → Int32) (se : Nat) (fo wth : Int) (tA : Nat) (ca na : Nat) (crow cpace ctyre ckind crt cpt : Int) (nf : Nat → Int32) (s2 s3 s6 s8 s11 s13 : Nat) (wi ro dr dt pe gu sh wo dn mi fl tk go : Int) (wf pf shf : Nat → Int32) (n p1 p2 p3 p4 : Int) (ao : Nat) (av : Int) (sz : Nat) (hr_nr : 0 ≤ nr ∧ nr ≤ 4) (hr_nw : 0 ≤ nw ∧ nw ≤ 4) (hr_im : 0 ≤ im ∧ im ≤ 3) (hr_size : 0 ≤ size ∧ size ≤ 600) (hr_fo : (-2147483648) ≤ fo ∧ fo ≤ 2147483647) (hr_wth : (-2147483648) ≤ wth ∧ wth ≤ 2147483647) (hr_crow : 0 ≤ crow ∧ crow ≤ 5) (hr_cpace : (-2147483648) ≤ cpace ∧ cpace ≤ 2147483647) (hr_ctyre : (-2147483648) ≤ ctyre ∧ ctyre ≤ 2147483647) (hr_ckind : (-2147483648) ≤ ckind ∧ ckind ≤ 2147483647) (hr_crt : 0 ≤ crt ∧ crt ≤ 5) (hr_cpt : (-2147483648) ≤ cpt ∧ cpt ≤ 2147483647) (hr_wi : 0 ≤ wi ∧ wi ≤ 16) (hr_ro : 0 ≤ ro ∧ ro ≤ 6) (hr_dr : 0 ≤ dr ∧ dr ≤ 14) (hr_dt : 0 ≤ dt ∧ dt ≤ 6) (hr_pe : 0 ≤ pe ∧ pe ≤ 8) (hr_gu : 0 ≤ gu ∧ gu ≤ 20) (hr_sh : 0 ≤ sh ∧ sh ≤ 2) (hr_wo : 0 ≤ wo ∧ wo ≤ 8) (hr_dn : (-2147483648) ≤ dn ∧ dn ≤ 2147483647) (hr_mi : 0 ≤ mi ∧ mi ≤ 600) (hr_fl : (-2147483648) ≤ fl ∧ fl ≤ 2147483647) (hr_tk : (-2147483648) ≤ tk ∧ tk ≤ 2147483647) (hr_go : (-2147483648) ≤ go ∧ go ≤ 2147483647) (hr_n : (-2147483648) ≤ n ∧ n ≤ 2147483647) (hr_p1 : (-2147483648) ≤ p1 ∧ p1 ≤ 2147483647) (hr_p2 : (-2147483648) ≤ p2 ∧ p2 ≤ 2147483647) (hr_p3 : (-2147483648) ≤ p3 ∧ p3 ≤ 2147483647) (hr_p4 : (-2147483648) ≤ p4 ∧ p4 ≤ 2147483647) (hr_av : (-2147483648) ≤ av ∧ av ≤ 2147483647) (hp0 : 0 ≤ n ∧ n < 4 → klf n.toNat = some la) (hst : inv_ 600 0 2147483647 st) (hpf : tab_ 4 28 [0, 0, (-2147483648), (-2147483648)] [15, 19, 2147483647, 2147483647] pf) : mI9 l yL_car vs_w_car ({ frames := 9, cells := 3, slots := 18, locals := 167 }) D cy sa sz [vR kk, vI n, vI p1, vI p2, vI p3, vI p4, vR ao] [zO kk 11 [vR ta, vR kr, vR kl, vI nr, vI nw, vR sA, vR dA, vR pa, vR ki, vR kp, vI im, vR wa, vR or_, vR rq], zI rq (cy 0) 4 qf, zQ kl (cy 5) 4 klf, zO la 1 [vR l0, vI size, vR l2, vR l3], zI l0 (cy 0) 600 st, zI l2 (cy 0) 5 sf, zI l3 (cy 0) 40 vf, zO wa 9 [vR tA, vR ca, vR se, vI fo, vI wth], zO ca 0 [vR na, vI crow, vI cpace, vI ctyre, vI ckind, vI crt, vI cpt], zI na (cy 0) 7 nf, zO sA 6 [vI wi, vI ro, vR s2, vR s3, vI dr, vI dt, vR s6, vI pe, vR s8, vI gu, vI sh, vR s11, vI wo, vR s13, vI dn, vI mi, vI fl, vI tk, vI go], zI s3 (cy 0) 96 wf, zI s8 (cy 0) 112 pf, zI s11 (cy 0) 4 shf, zL ao (cy 2) 1 (fun _ => (iI av).toInt64)] (fun (r : Int32) (u : SV) => r = iI (u.2.1 8) ∧ (0 ≤ u.2.1 1 ∧ u.2.1 1 ≤ 5) ∧ ((-2147483648) ≤ u.2.1 2 ∧ u.2.1 2 ≤ 2147483647) ∧ ((-2147483648) ≤ u.2.1 3 ∧ u.2.1 3 ≤ 2147483647) ∧ ((-2147483648) ≤ u.2.1 4 ∧ u.2.1 4 ≤ 2147483647) ∧ (0 ≤ u.2.1 5 ∧ u.2.1 5 ≤ 5) ∧ ((-2147483648) ≤ u.2.1 6 ∧ u.2.1 6 ≤ 2147483647) ∧ ((-2147483648) ≤ u.2.1 7 ∧ u.2.1 7 ≤ 2147483647) ∧ (0 ≤ u.2.1 8 ∧ u.2.1 8 ≤ 3) ∧ ((-2147483648) ≤ u.2.1 9 ∧ u.2.1 9 ≤ 2147483647) ∧ inv_ 600 0 2147483647 st ∧ tab_ 4 28 [0, 0, (-2147483648), (-2147483648)] [15, 19, 2147483647, 2147483647] (u.2.2 3)) (fun u : SV => [zO kk 11 [vR ta, vR kr, vR kl, vI nr, vI nw, vR sA, vR dA, vR pa, vR ki, vR kp, vI im, vR wa, vR or_, vR rq], zI rq (cy 0) 4 (u.2.2 4), zQ kl (cy 5) 4 klf, zO la 1 [vR l0, vI size, vR l2, vR l3], zI l0 (cy 0) 600 st, zI l2 (cy 0) 5 sf, zI l3 (cy 0) 40 (u.2.2 0), zO wa 9 [vR tA, vR ca, vR se, vI fo, vI wth], zO ca 0 [vR na, vI (u.2.1 1), vI (u.2.1 2), vI (u.2.1 3), vI (u.2.1 4), vI (u.2.1 5), vI (u.2.1 6)], zI na (cy 0) 7 (u.2.2 1), zO sA 6 [vI wi, vI ro, vR s2, vR s3, vI dr, vI dt, vR s6, vI pe, vR s8, vI gu, vI sh, vR s11, vI wo, vR s13, vI dn, vI mi, vI fl, vI tk, vI (u.2.1 7)], zI s3 (cy 0) 96 (u.2.2 2), zI s8 (cy 0) 112 (u.2.2 3), zI s11 (cy 0) 4 shf, zL ao (cy 2) 1 (fun _ => (iI (u.2.1 9)).toInt64)]) 3 18 := by
  refine va_MetW (cc := cL_car) (maxL := 8) (ret := (some .int)) (by decide) rfl ?_
  intro p e s m args below meth c s₁ B hml hv
  obtain ⟨rfl, hsz, hP, hG, hD0, hT⟩ := hv
  have hx := B.exec
  have hb := B.bytes
  have hr := B.returns
  have hts := atoms_spec (ws := vs_w_car) B.pre
  have hown : s.vm.findClass RL = some m.cls := findClass_of_methodNamed B.named
  have hlocks := B.notSynchronized
  subst hsz
  have hD := hD0.self (sz := s.heap.size)
  generalize hAe : va_A [zO kk 11 [vR ta, vR kr, vR kl, vI nr, vI nw, vR sA, vR dA, vR pa, vR ki, vR kp, vI im, vR wa, vR or_, vR rq], zI rq (cy 0) 4 qf, zQ kl (cy 5) 4 klf, zO la 1 [vR l0, vI size, vR l2, vR l3], zI l0 (cy 0) 600 st, zI l2 (cy 0) 5 sf, zI l3 (cy 0) 40 vf, zO wa 9 [vR tA, vR ca, vR se, vI fo, vI wth], zO ca 0 [vR na, vI crow, vI cpace, vI ctyre, vI ckind, vI crt, vI cpt], zI na (cy 0) 7 nf, zO sA 6 [vI wi, vI ro, vR s2, vR s3, vI dr, vI dt, vR s6, vI pe, vR s8, vI gu, vI sh, vR s11, vI wo, vR s13, vI dn, vI mi, vI fl, vI tk, vI go], zI s3 (cy 0) 96 wf, zI s8 (cy 0) 112 pf, zI s11 (cy 0) 4 shf, zL ao (cy 2) 1 (fun _ => (iI av).toInt64)] s.heap.size = A at hD hT ⊢
  have hA : ∀ q : Nat, s.heap.size ≤ q → A q := fun q h => by rw [← hAe]; exact Or.inr h
  have hS : va_S A s.heap s.heap [] := va_S.rf
  have hl0 := lv_entry ([vR kk, vI n, vI p1, vI p2, vI p3, vI p4, vR ao]) (n := 8) (Nat.le_of_ble_eq_true rfl)
  rw [lg_entry_eq]
  generalize (lg_sl ([vR kk, vI n, vI p1, vI p2, vI p3, vI p4, vR ao]) ++ List.replicate (8 - (lg_sl ([vR kk, vI n, vI p1, vI p2, vI p3, vI p4, vR ao])).length) Slot.unset).toArray = ls at hl0 ⊢
  have hlv : lv_has ls 8 [(0, vR kk), (1, vI n), (2, vI p1), (3, vI p2), (4, vI p3), (5, vI p4), (6, vR ao)] := hl0
  have gg_0 : GoodIn vs_w_car (wsV RL 63 RX11 yX11_car vs_k_car) := goodIn_sub (fun w h => List.mem_cons_of_mem _ (List.mem_append_right _ (List.mem_append_left _ h))) (gd_V gd_k_car (by decide +kernel))
  have xc34 := hts (.classLink RL 34 "java/util/NoSuchElementException") (List.mem_of_getElem? (i := 1) rfl)
  have xc13 := hts (.classLink RL 13 "java/lang/IllegalArgumentException") (List.mem_of_getElem? (i := 2) rfl)
  have xc51 := hts (.classLink RL 51 "java/lang/IllegalStateException") (List.mem_of_getElem? (i := 3) rfl)
  have htab : c.exceptionTable.toList = [(⟨0, 16, 19, 34⟩ : ExceptionTableEntry), (⟨0, 16, 23, 13⟩ : ExceptionTableEntry), (⟨0, 16, 27, 51⟩ : ExceptionTableEntry)] := vx_table (x := yL_car) B (hts (.codeWith yL_car cL_car 8 (some .int) [(0, 16, 19, 34), (0, 16, 23, 13), (0, 16, 27, 51)]) List.mem_cons_self)
  refine lv_aload hx hb dL_car_0 (lv_at hlv 6 rfl) ?_
  refine lv_iconst (v := iI 0) hx hb dL_car_2 (by decide) ?_
  refine lv_aload_n hx hb dL_car_3 rfl (lv_at hlv 0 rfl) ?_
  refine lv_iload_n hx hb dL_car_4 rfl (lv_at hlv 1 rfl) ?_
  refine lv_iload_n hx hb dL_car_5 rfl (lv_at hlv 2 rfl) ?_
  refine lv_iload_n hx hb dL_car_6 rfl (lv_at hlv 3 rfl) ?_
  refine lv_iload hx hb dL_car_7 (lv_at hlv 4 rfl) ?_
  refine lv_iload hx hb dL_car_9 (lv_at hlv 5 rfl) ?_
  refine cjrx_i [false, false, false, false, false, false, false, false, false, false, false, false, false, false, true] (fun pre9 => (vx_runV (As := [vI n, vI p1, vI p2, vI p3, vI p4]) (rest := [vI 0, vR ao]) ⟨hx, hb, hml, hown, hts⟩ (k_car l hl D cy sa kk ta kr kl sA dA pa ki kp wa or_ rq nr nw im qf klf la l0 l2 l3 size st sf vf se fo wth tA ca na crow cpace ctyre ckind crt cpt nf s2 s3 s6 s8 s11 s13 wi ro dr dt pe gu sh wo dn mi fl tk go wf pf shf n p1 p2 p3 p4 s.heap.size (by first | exact hr_nr | omega) (by first | exact hr_nw | omega) (by first | exact hr_im | omega) (by first | exact hr_size | omega) (by first | exact hr_fo | omega) (by first | exact hr_wth | omega) (by first | exact hr_crow | omega) (by first | exact hr_cpace | omega) (by first | exact hr_ctyre | omega) (by first | exact hr_ckind | omega) (by first | exact hr_crt | omega) (by first | exact hr_cpt | omega) (by first | exact hr_wi | omega) (by first | exact hr_ro | omega) (by first | exact hr_dr | omega) (by first | exact hr_dt | omega) (by first | exact hr_pe | omega) (by first | exact hr_gu | omega) (by first | exact hr_sh | omega) (by first | exact hr_wo | omega) (by first | exact hr_dn | omega) (by first | exact hr_mi | omega) (by first | exact hr_fl | omega) (by first | exact hr_tk | omega) (by first | exact hr_go | omega) (by first | exact hr_n | omega) (by first | exact hr_p1 | omega) (by first | exact hr_p2 | omega) (by first | exact hr_p3 | omega) (by first | exact hr_p4 | omega) hp0 hst hpf) (cwV 5 hts gg_0 rfl rfl rfl (by decide +kernel) ⟨Nat.le_of_ble_eq_true rfl, Nat.le_of_ble_eq_true rfl⟩) ⟨pcW.blind, (va_recv hG.1 hP (ci := 11) (q0 := 0) rfl rfl), pre9⟩ rfl rfl hlv.1 rfl (lv_room (Nat.le_of_ble_eq_true rfl)) dL_car_11 ⟨Nat.le_of_ble_eq_true rfl, Nat.le_of_ble_eq_true rfl⟩)) hP hD hS hA hG hT [0, 1, 2, 3, 4, 5, 6, 7, 8, 9, 10, 11, 12, 13] rfl (by decide +kernel) (fun E ux1 ce q9 H locs hp hq9 hS h1 h2 h3 => ?_) (fun r1 u1 H locs hw1 hq9 hS => ?_)
  · obtain ⟨hP, hD⟩ := pd9 [zL ao (cy 2) 1 (fun _ => (iI av).toInt64), zO kk 11 [vR ta, vR kr, vR kl, vI nr, vI nw, vR sA, vR dA, vR pa, vR ki, vR kp, vI im, vR wa, vR or_, vR rq], zI rq (cy 0) 4 (ux1.2.2 0), zQ kl (cy 5) 4 klf, zO la 1 [vR l0, vI size, vR l2, vR l3], zI l0 (cy 0) 600 st, zI l2 (cy 0) 5 sf, zI l3 (cy 0) 40 vf, zO wa 9 [vR tA, vR ca, vR se, vI fo, vI wth], zO ca 0 [vR na, vI crow, vI cpace, vI ctyre, vI ckind, vI crt, vI cpt], zI na (cy 0) 7 nf, zO sA 6 [vI wi, vI ro, vR s2, vR s3, vI dr, vI dt, vR s6, vI pe, vR s8, vI gu, vI sh, vR s11, vI wo, vR s13, vI dn, vI mi, vI fl, vI tk, vI go], zI s3 (cy 0) 96 wf, zI s8 (cy 0) 112 pf, zI s11 (cy 0) 4 shf] hq9
    rcases hp with rfl | rfl | rfl
    · refine vx_catch (name := "java/util/NoSuchElementException") hown [] (⟨0, 16, 19, 34⟩ : ExceptionTableEntry) [(⟨0, 16, 23, 13⟩ : ExceptionTableEntry), (⟨0, 16, 27, 51⟩ : ExceptionTableEntry)] htab (fun z hz => absurd hz List.not_mem_nil) (by decide) (by decide) xc34 (va_Nw.use rfl (hG.2.2.2.1 _ (List.mem_of_getElem? (i := 1) rfl))) h1 h2 h3 ?_
      refine lv_astore (lv' := [(7, vR q9), (0, vR kk), (1, vI n), (2, vI p1), (3, vI p2), (4, vI p3), (5, vI p4), (6, vR ao)]) hx hb dL_car_19 hlv (by decide) rfl (fun ls hlv => ?_)
      refine lv_iconst (v := iI 1) hx hb dL_car_21 (by decide) ?_
      refine W.widen (k := 3) (n := 18) (Nat.le_of_ble_eq_true rfl) (Nat.le_of_ble_eq_true rfl) ?_
      exact W.iret (v := iI 1) hx hb hr (fun t ht hW => ⟨⟨iI 1, ((fun k => ([] : List Nat).getD k 0), (fun k => ([0, crow, cpace, ctyre, ckind, crt, cpt, go, 1, av] : List Int).getD k 0), (fun k => ([vf, nf, wf, pf, (ux1.2.2 0)] : List (Nat → Int32)).getD k (fun _ => 0))), rfl, ⟨rfl, (by show (0 ≤ crow ∧ crow ≤ 5); first | exact hr_crow | omega), (by show ((-2147483648) ≤ cpace ∧ cpace ≤ 2147483647); first | exact hr_cpace | omega), (by show ((-2147483648) ≤ ctyre ∧ ctyre ≤ 2147483647); first | exact hr_ctyre | omega), (by show ((-2147483648) ≤ ckind ∧ ckind ≤ 2147483647); first | exact hr_ckind | omega), (by show (0 ≤ crt ∧ crt ≤ 5); first | exact hr_crt | omega), (by show ((-2147483648) ≤ cpt ∧ cpt ≤ 2147483647); first | exact hr_cpt | omega), (by show ((-2147483648) ≤ go ∧ go ≤ 2147483647); first | exact hr_go | omega), (by show (0 ≤ 1 ∧ 1 ≤ 3); show (0 : Int) ≤ 1 ∧ (1 : Int) ≤ 3; decide), (by show ((-2147483648) ≤ av ∧ av ≤ 2147483647); first | exact hr_av | omega), hst, hpf⟩, at9 ht hP hD [1, 2, 3, 4, 5, 6, 7, 8, 9, 10, 11, 12, 13, 14, 0] (by decide +kernel) rfl⟩, hS.F ht⟩) hS.2.2 dL_car_22
    · refine vx_catch (name := "java/lang/IllegalArgumentException") hown [(⟨0, 16, 19, 34⟩ : ExceptionTableEntry)] (⟨0, 16, 23, 13⟩ : ExceptionTableEntry) [(⟨0, 16, 27, 51⟩ : ExceptionTableEntry)] htab (List.forall_mem_cons.mpr ⟨Or.inr ⟨by decide, "java/util/NoSuchElementException", xc34, hG.2.2.2.2.1 _ (List.mem_of_getElem? (i := 2) rfl) _ (List.mem_of_getElem? (i := 1) rfl) (by decide)⟩, fun z hz => absurd hz List.not_mem_nil⟩) (by decide) (by decide) xc13 (va_Nw.use rfl (hG.2.2.2.1 _ (List.mem_of_getElem? (i := 2) rfl))) h1 h2 h3 ?_
      refine lv_astore (lv' := [(7, vR q9), (0, vR kk), (1, vI n), (2, vI p1), (3, vI p2), (4, vI p3), (5, vI p4), (6, vR ao)]) hx hb dL_car_23 hlv (by decide) rfl (fun ls hlv => ?_)
      refine lv_iconst (v := iI 2) hx hb dL_car_25 (by decide) ?_
      refine W.widen (k := 3) (n := 18) (Nat.le_of_ble_eq_true rfl) (Nat.le_of_ble_eq_true rfl) ?_
      exact W.iret (v := iI 2) hx hb hr (fun t ht hW => ⟨⟨iI 2, ((fun k => ([] : List Nat).getD k 0), (fun k => ([0, crow, cpace, ctyre, ckind, crt, cpt, go, 2, av] : List Int).getD k 0), (fun k => ([vf, nf, wf, pf, (ux1.2.2 0)] : List (Nat → Int32)).getD k (fun _ => 0))), rfl, ⟨rfl, (by show (0 ≤ crow ∧ crow ≤ 5); first | exact hr_crow | omega), (by show ((-2147483648) ≤ cpace ∧ cpace ≤ 2147483647); first | exact hr_cpace | omega), (by show ((-2147483648) ≤ ctyre ∧ ctyre ≤ 2147483647); first | exact hr_ctyre | omega), (by show ((-2147483648) ≤ ckind ∧ ckind ≤ 2147483647); first | exact hr_ckind | omega), (by show (0 ≤ crt ∧ crt ≤ 5); first | exact hr_crt | omega), (by show ((-2147483648) ≤ cpt ∧ cpt ≤ 2147483647); first | exact hr_cpt | omega), (by show ((-2147483648) ≤ go ∧ go ≤ 2147483647); first | exact hr_go | omega), (by show (0 ≤ 2 ∧ 2 ≤ 3); show (0 : Int) ≤ 2 ∧ (2 : Int) ≤ 3; decide), (by show ((-2147483648) ≤ av ∧ av ≤ 2147483647); first | exact hr_av | omega), hst, hpf⟩, at9 ht hP hD [1, 2, 3, 4, 5, 6, 7, 8, 9, 10, 11, 12, 13, 14, 0] (by decide +kernel) rfl⟩, hS.F ht⟩) hS.2.2 dL_car_26
    · refine vx_catch (name := "java/lang/IllegalStateException") hown [(⟨0, 16, 19, 34⟩ : ExceptionTableEntry), (⟨0, 16, 23, 13⟩ : ExceptionTableEntry)] (⟨0, 16, 27, 51⟩ : ExceptionTableEntry) [] htab (List.forall_mem_cons.mpr ⟨Or.inr ⟨by decide, "java/util/NoSuchElementException", xc34, hG.2.2.2.2.1 _ (List.mem_of_getElem? (i := 3) rfl) _ (List.mem_of_getElem? (i := 1) rfl) (by decide)⟩, List.forall_mem_cons.mpr ⟨Or.inr ⟨by decide, "java/lang/IllegalArgumentException", xc13, hG.2.2.2.2.1 _ (List.mem_of_getElem? (i := 3) rfl) _ (List.mem_of_getElem? (i := 2) rfl) (by decide)⟩, fun z hz => absurd hz List.not_mem_nil⟩⟩) (by decide) (by decide) xc51 (va_Nw.use rfl (hG.2.2.2.1 _ (List.mem_of_getElem? (i := 3) rfl))) h1 h2 h3 ?_
      refine lv_astore (lv' := [(7, vR q9), (0, vR kk), (1, vI n), (2, vI p1), (3, vI p2), (4, vI p3), (5, vI p4), (6, vR ao)]) hx hb dL_car_27 hlv (by decide) rfl (fun ls hlv => ?_)
      refine lv_iconst (v := iI 3) hx hb dL_car_29 (by decide) ?_
      refine W.widen (k := 3) (n := 18) (Nat.le_of_ble_eq_true rfl) (Nat.le_of_ble_eq_true rfl) ?_
      exact W.iret (v := iI 3) hx hb hr (fun t ht hW => ⟨⟨iI 3, ((fun k => ([] : List Nat).getD k 0), (fun k => ([0, crow, cpace, ctyre, ckind, crt, cpt, go, 3, av] : List Int).getD k 0), (fun k => ([vf, nf, wf, pf, (ux1.2.2 0)] : List (Nat → Int32)).getD k (fun _ => 0))), rfl, ⟨rfl, (by show (0 ≤ crow ∧ crow ≤ 5); first | exact hr_crow | omega), (by show ((-2147483648) ≤ cpace ∧ cpace ≤ 2147483647); first | exact hr_cpace | omega), (by show ((-2147483648) ≤ ctyre ∧ ctyre ≤ 2147483647); first | exact hr_ctyre | omega), (by show ((-2147483648) ≤ ckind ∧ ckind ≤ 2147483647); first | exact hr_ckind | omega), (by show (0 ≤ crt ∧ crt ≤ 5); first | exact hr_crt | omega), (by show ((-2147483648) ≤ cpt ∧ cpt ≤ 2147483647); first | exact hr_cpt | omega), (by show ((-2147483648) ≤ go ∧ go ≤ 2147483647); first | exact hr_go | omega), (by show (0 ≤ 3 ∧ 3 ≤ 3); show (0 : Int) ≤ 3 ∧ (3 : Int) ≤ 3; decide), (by show ((-2147483648) ≤ av ∧ av ≤ 2147483647); first | exact hr_av | omega), hst, hpf⟩, at9 ht hP hD [1, 2, 3, 4, 5, 6, 7, 8, 9, 10, 11, 12, 13, 14, 0] (by decide +kernel) rfl⟩, hS.F ht⟩) hS.2.2 dL_car_30
  obtain ⟨rfl, hq1_1, hq1_2, hq1_3, hq1_4, hq1_5, hq1_6, hq1_7, hq1_8, hq1_9, hq1_10⟩ := hw1
  obtain ⟨hP, hD⟩ := pd9 [zL ao (cy 2) 1 (fun _ => (iI av).toInt64), zO kk 11 [vR ta, vR kr, vR kl, vI nr, vI nw, vR sA, vR dA, vR pa, vR ki, vR kp, vI im, vR wa, vR or_, vR rq], zI rq (cy 0) 4 qf, zQ kl (cy 5) 4 klf, zO la 1 [vR l0, vI size, vR l2, vR l3], zI l0 (cy 0) 600 st, zI l2 (cy 0) 5 sf, zI l3 (cy 0) 40 (u1.2.2 0), zO wa 9 [vR tA, vR ca, vR se, vI fo, vI wth], zO ca 0 [vR na, vI (u1.2.1 1), vI (u1.2.1 2), vI (u1.2.1 3), vI (u1.2.1 4), vI (u1.2.1 5), vI (u1.2.1 6)], zI na (cy 0) 7 (u1.2.2 1), zO sA 6 [vI wi, vI ro, vR s2, vR s3, vI dr, vI dt, vR s6, vI pe, vR s8, vI gu, vI sh, vR s11, vI wo, vR s13, vI dn, vI mi, vI fl, vI tk, vI (u1.2.1 7)], zI s3 (cy 0) 96 (u1.2.2 2), zI s8 (cy 0) 112 (u1.2.2 3), zI s11 (cy 0) 4 shf] hq9
  refine lv_i2l (v := jJ (u1.2.1 0)) hx hb dL_car_14 (jJ_i (by omega)) ?_
  refine va_last hx hb hG.1 hP hD hS 0 2 rfl rfl (iI_in (by omega) (by decide)) dL_car_15 (fun H locs hP hD hS => ?_)
  obtain ⟨hP, hD⟩ := arl 0 (fun _ => (iI (u1.2.1 0)).toInt64) hP hD rfl (arl_2 (by omega))
  obtain ⟨hP, hD⟩ := pw9 [zL ao (cy 2) 1 (fun _ => (iI (u1.2.1 0)).toInt64), zO kk 11 [vR ta, vR kr, vR kl, vI nr, vI nw, vR sA, vR dA, vR pa, vR ki, vR kp, vI im, vR wa, vR or_, vR rq], zI rq (cy 0) 4 qf, zQ kl (cy 5) 4 klf, zO la 1 [vR l0, vI size, vR l2, vR l3], zI l0 (cy 0) 600 st, zI l2 (cy 0) 5 sf, zI l3 (cy 0) 40 (u1.2.2 0), zO wa 9 [vR tA, vR ca, vR se, vI fo, vI wth], zO ca 0 [vR na, vI (u1.2.1 1), vI (u1.2.1 2), vI (u1.2.1 3), vI (u1.2.1 4), vI (u1.2.1 5), vI (u1.2.1 6)], zI na (cy 0) 7 (u1.2.2 1), zO sA 6 [vI wi, vI ro, vR s2, vR s3, vI dr, vI dt, vR s6, vI pe, vR s8, vI gu, vI sh, vR s11, vI wo, vR s13, vI dn, vI mi, vI fl, vI tk, vI (u1.2.1 7)], zI s3 (cy 0) 96 (u1.2.2 2), zI s8 (cy 0) 112 (u1.2.2 3), zI s11 (cy 0) 4 shf] hP hD
  refine lv_goto (tgt := 31) hx hb dL_car_16 (by decide) ?_
  refine lv_iconst (v := iI 0) hx hb dL_car_31 (by decide) ?_
  refine W.widen (k := 3) (n := 18) (Nat.le_of_ble_eq_true rfl) (Nat.le_of_ble_eq_true rfl) ?_
  exact W.iret (v := iI 0) hx hb hr (fun t ht hW => ⟨⟨iI 0, ((fun k => ([] : List Nat).getD k 0), (fun k => ([0, (u1.2.1 1), (u1.2.1 2), (u1.2.1 3), (u1.2.1 4), (u1.2.1 5), (u1.2.1 6), (u1.2.1 7), 0, (u1.2.1 0)] : List Int).getD k 0), (fun k => ([(u1.2.2 0), (u1.2.2 1), (u1.2.2 2), (u1.2.2 3), qf] : List (Nat → Int32)).getD k (fun _ => 0))), rfl, ⟨rfl, (by show (0 ≤ (u1.2.1 1) ∧ (u1.2.1 1) ≤ 5); first | exact hq1_2 | omega), (by show ((-2147483648) ≤ (u1.2.1 2) ∧ (u1.2.1 2) ≤ 2147483647); first | exact hq1_3 | omega), (by show ((-2147483648) ≤ (u1.2.1 3) ∧ (u1.2.1 3) ≤ 2147483647); first | exact hq1_4 | omega), (by show ((-2147483648) ≤ (u1.2.1 4) ∧ (u1.2.1 4) ≤ 2147483647); first | exact hq1_5 | omega), (by show (0 ≤ (u1.2.1 5) ∧ (u1.2.1 5) ≤ 5); first | exact hq1_6 | omega), (by show ((-2147483648) ≤ (u1.2.1 6) ∧ (u1.2.1 6) ≤ 2147483647); first | exact hq1_7 | omega), (by show ((-2147483648) ≤ (u1.2.1 7) ∧ (u1.2.1 7) ≤ 2147483647); first | exact hq1_8 | omega), (by show (0 ≤ 0 ∧ 0 ≤ 3); show (0 : Int) ≤ 0 ∧ (0 : Int) ≤ 3; decide), (by show ((-2147483648) ≤ (u1.2.1 0) ∧ (u1.2.1 0) ≤ 2147483647); first | exact hq1_1 | omega), hq1_9, hq1_10⟩, at9 ht hP hD [1, 2, 3, 4, 5, 6, 7, 8, 9, 10, 11, 12, 13, 14, 0] (by decide +kernel) rfl⟩, hS.F ht⟩) hS.2.2 dL_car_32
def vs_w_pass : List Cond := .codeWith yL_pass cL_pass 4 (some .int) [(0, 9, 12, 34), (0, 9, 15, 51)] :: (([.classLink RL 34 "java/util/NoSuchElementException", .classLink RL 51 "java/lang/IllegalStateException"] : List Cond) ++ ((wsV RL 70 RX11 yX11_pass vs_k_pass) ++ ([])))
set_option maxHeartbeats 4000000 in
set_option maxRecDepth 100000 in
theorem w_pass (l : Launch) (hl : l.stackTraces = false) (D : va_G) (cy : Nat → ClassId) (sa : Nat → Nat) (kk ta kr kl sA dA pa ki kp wa or_ rq : Nat) (nr nw im : Int) (qf : Nat → Int32) (klf : Nat → Option Nat) (la l0 l2 l3 : Nat) (size : Int) (st sf vf : Nat → Int32) (se : Nat) (fo wth : Int) (tA : Nat) (ca na : Nat) (crow cpace ctyre ckind crt cpt : Int) (nf : Nat → Int32) (s2 s3 s6 s8 s11 s13 : Nat) (wi ro dr dt pe gu sh wo dn mi fl tk go : Int) (hf wf pf shf : Nat → Int32) (pt pd ps : Nat) (cars dips : Int) (tf df : Nat → Int32) (n : Int) (ao : Nat) (av : Int) (sz : Nat) (hr_nr : 0 ≤ nr ∧ nr ≤ 4) (hr_nw : 0 ≤ nw ∧ nw ≤ 4) (hr_im : 0 ≤ im ∧ im ≤ 3) (hr_size : 0 ≤ size ∧ size ≤ 600) (hr_fo : (-2147483648) ≤ fo ∧ fo ≤ 2147483647) (hr_wth : (-2147483648) ≤ wth ∧ wth ≤ 2147483647) (hr_crow : 0 ≤ crow ∧ crow ≤ 5) (hr_cpace : (-2147483648) ≤ cpace ∧ cpace ≤ 2147483647) (hr_ctyre : (-2147483648) ≤ ctyre ∧ ctyre ≤ 2147483647) (hr_ckind : (-2147483648) ≤ ckind ∧ ckind ≤ 2147483647) (hr_crt : 0 ≤ crt ∧ crt ≤ 5) (hr_cpt : (-2147483648) ≤ cpt ∧ cpt ≤ 2147483647) (hr_wi : 0 ≤ wi ∧ wi ≤ 16) (hr_ro : 0 ≤ ro ∧ ro ≤ 6) (hr_dr : 0 ≤ dr ∧ dr ≤ 14) (hr_dt : 0 ≤ dt ∧ dt ≤ 6) (hr_pe : 0 ≤ pe ∧ pe ≤ 8) (hr_gu : 0 ≤ gu ∧ gu ≤ 20) (hr_sh : 0 ≤ sh ∧ sh ≤ 2) (hr_wo : 0 ≤ wo ∧ wo ≤ 8) (hr_dn : (-2147483648) ≤ dn ∧ dn ≤ 2147483647) (hr_mi : 0 ≤ mi ∧ mi ≤ 600) (hr_fl : (-2147483648) ≤ fl ∧ fl ≤ 2147483647) (hr_tk : (-2147483648) ≤ tk ∧ tk ≤ 2147483647) (hr_go : (-2147483648) ≤ go ∧ go ≤ 2147483647) (hr_cars : 0 ≤ cars ∧ cars ≤ 20) (hr_dips : 0 ≤ dips ∧ dips ≤ 9) (hr_n : (-2147483648) ≤ n ∧ n ≤ 2147483647) (hr_av : (-2147483648) ≤ av ∧ av ≤ 2147483647) (hp0 : 0 ≤ n ∧ n < 4 → klf n.toNat = some la) (hp1 : 0 < wi → 1 ≤ ro) (hst : inv_ 600 0 2147483647 st) (hhf : inv_ 96 0 99 hf) (hpf : tab_ 4 28 [0, 0, (-2147483648), (-2147483648)] [15, 19, 2147483647, 2147483647] pf) (htf : tab_ 5 20 [0, 0, (-2147483648), (-2147483648), (-2147483648)] [99, 5, 2147483647, 2147483647, 2147483647] tf) : mI9 l yL_pass vs_w_pass ({ frames := 9, cells := 2, slots := 12, locals := 163 }) D cy sa sz [vR kk, vI n, vR ao] [zO kk 11 [vR ta, vR kr, vR kl, vI nr, vI nw, vR sA, vR dA, vR pa, vR ki, vR kp, vI im, vR wa, vR or_, vR rq], zI rq (cy 0) 4 qf, zQ kl (cy 5) 4 klf, zO la 1 [vR l0, vI size, vR l2, vR l3], zI l0 (cy 0) 600 st, zI l2 (cy 0) 5 sf, zI l3 (cy 0) 40 vf, zO wa 9 [vR tA, vR ca, vR se, vI fo, vI wth], zO ca 0 [vR na, vI crow, vI cpace, vI ctyre, vI ckind, vI crt, vI cpt], zI na (cy 0) 7 nf, zO sA 6 [vI wi, vI ro, vR s2, vR s3, vI dr, vI dt, vR s6, vI pe, vR s8, vI gu, vI sh, vR s11, vI wo, vR s13, vI dn, vI mi, vI fl, vI tk, vI go], zI s2 (cy 0) 96 hf, zI s3 (cy 0) 96 wf, zI s8 (cy 0) 112 pf, zI s11 (cy 0) 4 shf, zO pa 4 [vI cars, vR pt, vI dips, vR pd, vR ps], zI pt (cy 0) 100 tf, zL ao (cy 2) 1 (fun _ => (iI av).toInt64)] (fun (r : Int32) (u : SV) => r = iI (u.2.1 8) ∧ (0 ≤ u.2.1 1 ∧ u.2.1 1 ≤ 5) ∧ ((-2147483648) ≤ u.2.1 2 ∧ u.2.1 2 ≤ 2147483647) ∧ ((-2147483648) ≤ u.2.1 3 ∧ u.2.1 3 ≤ 2147483647) ∧ ((-2147483648) ≤ u.2.1 4 ∧ u.2.1 4 ≤ 2147483647) ∧ (0 ≤ u.2.1 5 ∧ u.2.1 5 ≤ 5) ∧ ((-2147483648) ≤ u.2.1 6 ∧ u.2.1 6 ≤ 2147483647) ∧ ((-2147483648) ≤ u.2.1 7 ∧ u.2.1 7 ≤ 2147483647) ∧ (0 ≤ u.2.1 8 ∧ u.2.1 8 ≤ 2) ∧ ((-2147483648) ≤ u.2.1 9 ∧ u.2.1 9 ≤ 2147483647) ∧ inv_ 600 0 2147483647 st ∧ inv_ 96 0 99 hf ∧ tab_ 4 28 [0, 0, (-2147483648), (-2147483648)] [15, 19, 2147483647, 2147483647] (u.2.2 3) ∧ tab_ 5 20 [0, 0, (-2147483648), (-2147483648), (-2147483648)] [99, 5, 2147483647, 2147483647, 2147483647] tf) (fun u : SV => [zO kk 11 [vR ta, vR kr, vR kl, vI nr, vI nw, vR sA, vR dA, vR pa, vR ki, vR kp, vI im, vR wa, vR or_, vR rq], zI rq (cy 0) 4 (u.2.2 4), zQ kl (cy 5) 4 klf, zO la 1 [vR l0, vI size, vR l2, vR l3], zI l0 (cy 0) 600 st, zI l2 (cy 0) 5 sf, zI l3 (cy 0) 40 (u.2.2 0), zO wa 9 [vR tA, vR ca, vR se, vI fo, vI wth], zO ca 0 [vR na, vI (u.2.1 1), vI (u.2.1 2), vI (u.2.1 3), vI (u.2.1 4), vI (u.2.1 5), vI (u.2.1 6)], zI na (cy 0) 7 (u.2.2 1), zO sA 6 [vI wi, vI ro, vR s2, vR s3, vI dr, vI dt, vR s6, vI pe, vR s8, vI gu, vI sh, vR s11, vI wo, vR s13, vI dn, vI mi, vI fl, vI tk, vI (u.2.1 7)], zI s2 (cy 0) 96 hf, zI s3 (cy 0) 96 (u.2.2 2), zI s8 (cy 0) 112 (u.2.2 3), zI s11 (cy 0) 4 shf, zO pa 4 [vI cars, vR pt, vI dips, vR pd, vR ps], zI pt (cy 0) 100 tf, zL ao (cy 2) 1 (fun _ => (iI (u.2.1 9)).toInt64)]) 2 12 := by
  refine va_MetW (cc := cL_pass) (maxL := 4) (ret := (some .int)) (by decide) rfl ?_
  intro p e s m args below meth c s₁ B hml hv
  obtain ⟨rfl, hsz, hP, hG, hD0, hT⟩ := hv
  have hx := B.exec
  have hb := B.bytes
  have hr := B.returns
  have hts := atoms_spec (ws := vs_w_pass) B.pre
  have hown : s.vm.findClass RL = some m.cls := findClass_of_methodNamed B.named
  have hlocks := B.notSynchronized
  subst hsz
  have hD := hD0.self (sz := s.heap.size)
  generalize hAe : va_A [zO kk 11 [vR ta, vR kr, vR kl, vI nr, vI nw, vR sA, vR dA, vR pa, vR ki, vR kp, vI im, vR wa, vR or_, vR rq], zI rq (cy 0) 4 qf, zQ kl (cy 5) 4 klf, zO la 1 [vR l0, vI size, vR l2, vR l3], zI l0 (cy 0) 600 st, zI l2 (cy 0) 5 sf, zI l3 (cy 0) 40 vf, zO wa 9 [vR tA, vR ca, vR se, vI fo, vI wth], zO ca 0 [vR na, vI crow, vI cpace, vI ctyre, vI ckind, vI crt, vI cpt], zI na (cy 0) 7 nf, zO sA 6 [vI wi, vI ro, vR s2, vR s3, vI dr, vI dt, vR s6, vI pe, vR s8, vI gu, vI sh, vR s11, vI wo, vR s13, vI dn, vI mi, vI fl, vI tk, vI go], zI s2 (cy 0) 96 hf, zI s3 (cy 0) 96 wf, zI s8 (cy 0) 112 pf, zI s11 (cy 0) 4 shf, zO pa 4 [vI cars, vR pt, vI dips, vR pd, vR ps], zI pt (cy 0) 100 tf, zL ao (cy 2) 1 (fun _ => (iI av).toInt64)] s.heap.size = A at hD hT ⊢
  have hA : ∀ q : Nat, s.heap.size ≤ q → A q := fun q h => by rw [← hAe]; exact Or.inr h
  have hS : va_S A s.heap s.heap [] := va_S.rf
  have hl0 := lv_entry ([vR kk, vI n, vR ao]) (n := 4) (Nat.le_of_ble_eq_true rfl)
  rw [lg_entry_eq]
  generalize (lg_sl ([vR kk, vI n, vR ao]) ++ List.replicate (4 - (lg_sl ([vR kk, vI n, vR ao])).length) Slot.unset).toArray = ls at hl0 ⊢
  have hlv : lv_has ls 4 [(0, vR kk), (1, vI n), (2, vR ao)] := hl0
  have gg_0 : GoodIn vs_w_pass (wsV RL 70 RX11 yX11_pass vs_k_pass) := goodIn_sub (fun w h => List.mem_cons_of_mem _ (List.mem_append_right _ (List.mem_append_left _ h))) (gd_V gd_k_pass (by decide +kernel))
  have xc34 := hts (.classLink RL 34 "java/util/NoSuchElementException") (List.mem_of_getElem? (i := 1) rfl)
  have xc51 := hts (.classLink RL 51 "java/lang/IllegalStateException") (List.mem_of_getElem? (i := 2) rfl)
  have htab : c.exceptionTable.toList = [(⟨0, 9, 12, 34⟩ : ExceptionTableEntry), (⟨0, 9, 15, 51⟩ : ExceptionTableEntry)] := vx_table (x := yL_pass) B (hts (.codeWith yL_pass cL_pass 4 (some .int) [(0, 9, 12, 34), (0, 9, 15, 51)]) List.mem_cons_self)
  refine lv_aload_n hx hb dL_pass_0 rfl (lv_at hlv 2 rfl) ?_
  refine lv_iconst (v := iI 0) hx hb dL_pass_1 (by decide) ?_
  refine lv_aload_n hx hb dL_pass_2 rfl (lv_at hlv 0 rfl) ?_
  refine lv_iload_n hx hb dL_pass_3 rfl (lv_at hlv 1 rfl) ?_
  refine cjrx_i [false, false, false, false, false, false, false, false, false, false, false, false, false, false, false, false, false, true] (fun pre9 => (vx_runV (As := [vI n]) (rest := [vI 0, vR ao]) ⟨hx, hb, hml, hown, hts⟩ (k_pass l hl D cy sa kk ta kr kl sA dA pa ki kp wa or_ rq nr nw im qf klf la l0 l2 l3 size st sf vf se fo wth tA ca na crow cpace ctyre ckind crt cpt nf s2 s3 s6 s8 s11 s13 wi ro dr dt pe gu sh wo dn mi fl tk go hf wf pf shf pt pd ps cars dips tf df n s.heap.size (by first | exact hr_nr | omega) (by first | exact hr_nw | omega) (by first | exact hr_im | omega) (by first | exact hr_size | omega) (by first | exact hr_fo | omega) (by first | exact hr_wth | omega) (by first | exact hr_crow | omega) (by first | exact hr_cpace | omega) (by first | exact hr_ctyre | omega) (by first | exact hr_ckind | omega) (by first | exact hr_crt | omega) (by first | exact hr_cpt | omega) (by first | exact hr_wi | omega) (by first | exact hr_ro | omega) (by first | exact hr_dr | omega) (by first | exact hr_dt | omega) (by first | exact hr_pe | omega) (by first | exact hr_gu | omega) (by first | exact hr_sh | omega) (by first | exact hr_wo | omega) (by first | exact hr_dn | omega) (by first | exact hr_mi | omega) (by first | exact hr_fl | omega) (by first | exact hr_tk | omega) (by first | exact hr_go | omega) (by first | exact hr_cars | omega) (by first | exact hr_dips | omega) (by first | exact hr_n | omega) hp0 hp1 hst hhf hpf htf) (cwV 1 hts gg_0 rfl rfl rfl (by decide +kernel) ⟨Nat.le_of_ble_eq_true rfl, Nat.le_of_ble_eq_true rfl⟩) ⟨pcW.blind, (va_recv hG.1 hP (ci := 11) (q0 := 0) rfl rfl), pre9⟩ rfl rfl hlv.1 rfl (lv_room (Nat.le_of_ble_eq_true rfl)) dL_pass_4 ⟨Nat.le_of_ble_eq_true rfl, Nat.le_of_ble_eq_true rfl⟩)) hP hD hS hA hG hT [0, 1, 2, 3, 4, 5, 6, 7, 8, 9, 10, 11, 12, 13, 14, 15, 16] rfl (by decide +kernel) (fun E ux1 ce q9 H locs hp hq9 hS h1 h2 h3 => ?_) (fun r1 u1 H locs hw1 hq9 hS => ?_)
  · obtain ⟨hP, hD⟩ := pd9 [zL ao (cy 2) 1 (fun _ => (iI av).toInt64), zO kk 11 [vR ta, vR kr, vR kl, vI nr, vI nw, vR sA, vR dA, vR pa, vR ki, vR kp, vI im, vR wa, vR or_, vR rq], zI rq (cy 0) 4 (ux1.2.2 0), zQ kl (cy 5) 4 klf, zO la 1 [vR l0, vI size, vR l2, vR l3], zI l0 (cy 0) 600 st, zI l2 (cy 0) 5 sf, zI l3 (cy 0) 40 vf, zO wa 9 [vR tA, vR ca, vR se, vI fo, vI wth], zO ca 0 [vR na, vI crow, vI cpace, vI ctyre, vI ckind, vI crt, vI cpt], zI na (cy 0) 7 nf, zO sA 6 [vI wi, vI ro, vR s2, vR s3, vI dr, vI dt, vR s6, vI pe, vR s8, vI gu, vI sh, vR s11, vI wo, vR s13, vI dn, vI mi, vI fl, vI tk, vI go], zI s2 (cy 0) 96 hf, zI s3 (cy 0) 96 wf, zI s8 (cy 0) 112 pf, zI s11 (cy 0) 4 shf, zO pa 4 [vI cars, vR pt, vI dips, vR pd, vR ps], zI pt (cy 0) 100 tf] hq9
    rcases hp with rfl | rfl
    · refine vx_catch (name := "java/util/NoSuchElementException") hown [] (⟨0, 9, 12, 34⟩ : ExceptionTableEntry) [(⟨0, 9, 15, 51⟩ : ExceptionTableEntry)] htab (fun z hz => absurd hz List.not_mem_nil) (by decide) (by decide) xc34 (va_Nw.use rfl (hG.2.2.2.1 _ (List.mem_of_getElem? (i := 1) rfl))) h1 h2 h3 ?_
      refine lv_astore_n (lv' := [(3, vR q9), (0, vR kk), (1, vI n), (2, vR ao)]) hx hb dL_pass_12 rfl hlv (by decide) rfl (fun ls hlv => ?_)
      refine lv_iconst (v := iI 1) hx hb dL_pass_13 (by decide) ?_
      refine W.widen (k := 2) (n := 12) (Nat.le_of_ble_eq_true rfl) (Nat.le_of_ble_eq_true rfl) ?_
      exact W.iret (v := iI 1) hx hb hr (fun t ht hW => ⟨⟨iI 1, ((fun k => ([] : List Nat).getD k 0), (fun k => ([0, crow, cpace, ctyre, ckind, crt, cpt, go, 1, av] : List Int).getD k 0), (fun k => ([vf, nf, wf, pf, (ux1.2.2 0)] : List (Nat → Int32)).getD k (fun _ => 0))), rfl, ⟨rfl, (by show (0 ≤ crow ∧ crow ≤ 5); first | exact hr_crow | omega), (by show ((-2147483648) ≤ cpace ∧ cpace ≤ 2147483647); first | exact hr_cpace | omega), (by show ((-2147483648) ≤ ctyre ∧ ctyre ≤ 2147483647); first | exact hr_ctyre | omega), (by show ((-2147483648) ≤ ckind ∧ ckind ≤ 2147483647); first | exact hr_ckind | omega), (by show (0 ≤ crt ∧ crt ≤ 5); first | exact hr_crt | omega), (by show ((-2147483648) ≤ cpt ∧ cpt ≤ 2147483647); first | exact hr_cpt | omega), (by show ((-2147483648) ≤ go ∧ go ≤ 2147483647); first | exact hr_go | omega), (by show (0 ≤ 1 ∧ 1 ≤ 2); show (0 : Int) ≤ 1 ∧ (1 : Int) ≤ 2; decide), (by show ((-2147483648) ≤ av ∧ av ≤ 2147483647); first | exact hr_av | omega), hst, hhf, hpf, htf⟩, at9 ht hP hD [1, 2, 3, 4, 5, 6, 7, 8, 9, 10, 11, 12, 13, 14, 15, 16, 17, 0] (by decide +kernel) rfl⟩, hS.F ht⟩) hS.2.2 dL_pass_14
    · refine vx_catch (name := "java/lang/IllegalStateException") hown [(⟨0, 9, 12, 34⟩ : ExceptionTableEntry)] (⟨0, 9, 15, 51⟩ : ExceptionTableEntry) [] htab (List.forall_mem_cons.mpr ⟨Or.inr ⟨by decide, "java/util/NoSuchElementException", xc34, hG.2.2.2.2.1 _ (List.mem_of_getElem? (i := 3) rfl) _ (List.mem_of_getElem? (i := 1) rfl) (by decide)⟩, fun z hz => absurd hz List.not_mem_nil⟩) (by decide) (by decide) xc51 (va_Nw.use rfl (hG.2.2.2.1 _ (List.mem_of_getElem? (i := 3) rfl))) h1 h2 h3 ?_
      refine lv_astore_n (lv' := [(3, vR q9), (0, vR kk), (1, vI n), (2, vR ao)]) hx hb dL_pass_15 rfl hlv (by decide) rfl (fun ls hlv => ?_)
      refine lv_iconst (v := iI 2) hx hb dL_pass_16 (by decide) ?_
      refine W.widen (k := 2) (n := 12) (Nat.le_of_ble_eq_true rfl) (Nat.le_of_ble_eq_true rfl) ?_
      exact W.iret (v := iI 2) hx hb hr (fun t ht hW => ⟨⟨iI 2, ((fun k => ([] : List Nat).getD k 0), (fun k => ([0, crow, cpace, ctyre, ckind, crt, cpt, go, 2, av] : List Int).getD k 0), (fun k => ([vf, nf, wf, pf, (ux1.2.2 0)] : List (Nat → Int32)).getD k (fun _ => 0))), rfl, ⟨rfl, (by show (0 ≤ crow ∧ crow ≤ 5); first | exact hr_crow | omega), (by show ((-2147483648) ≤ cpace ∧ cpace ≤ 2147483647); first | exact hr_cpace | omega), (by show ((-2147483648) ≤ ctyre ∧ ctyre ≤ 2147483647); first | exact hr_ctyre | omega), (by show ((-2147483648) ≤ ckind ∧ ckind ≤ 2147483647); first | exact hr_ckind | omega), (by show (0 ≤ crt ∧ crt ≤ 5); first | exact hr_crt | omega), (by show ((-2147483648) ≤ cpt ∧ cpt ≤ 2147483647); first | exact hr_cpt | omega), (by show ((-2147483648) ≤ go ∧ go ≤ 2147483647); first | exact hr_go | omega), (by show (0 ≤ 2 ∧ 2 ≤ 2); show (0 : Int) ≤ 2 ∧ (2 : Int) ≤ 2; decide), (by show ((-2147483648) ≤ av ∧ av ≤ 2147483647); first | exact hr_av | omega), hst, hhf, hpf, htf⟩, at9 ht hP hD [1, 2, 3, 4, 5, 6, 7, 8, 9, 10, 11, 12, 13, 14, 15, 16, 17, 0] (by decide +kernel) rfl⟩, hS.F ht⟩) hS.2.2 dL_pass_17
  obtain ⟨rfl, hq1_1, hq1_2, hq1_3, hq1_4, hq1_5, hq1_6, hq1_7, hq1_8, hq1_9, hq1_10, hq1_11, hq1_12⟩ := hw1
  obtain ⟨hP, hD⟩ := pd9 [zL ao (cy 2) 1 (fun _ => (iI av).toInt64), zO kk 11 [vR ta, vR kr, vR kl, vI nr, vI nw, vR sA, vR dA, vR pa, vR ki, vR kp, vI im, vR wa, vR or_, vR rq], zI rq (cy 0) 4 qf, zQ kl (cy 5) 4 klf, zO la 1 [vR l0, vI size, vR l2, vR l3], zI l0 (cy 0) 600 st, zI l2 (cy 0) 5 sf, zI l3 (cy 0) 40 (u1.2.2 0), zO wa 9 [vR tA, vR ca, vR se, vI fo, vI wth], zO ca 0 [vR na, vI (u1.2.1 1), vI (u1.2.1 2), vI (u1.2.1 3), vI (u1.2.1 4), vI (u1.2.1 5), vI (u1.2.1 6)], zI na (cy 0) 7 (u1.2.2 1), zO sA 6 [vI wi, vI ro, vR s2, vR s3, vI dr, vI dt, vR s6, vI pe, vR s8, vI gu, vI sh, vR s11, vI wo, vR s13, vI dn, vI mi, vI fl, vI tk, vI (u1.2.1 7)], zI s2 (cy 0) 96 hf, zI s3 (cy 0) 96 (u1.2.2 2), zI s8 (cy 0) 112 (u1.2.2 3), zI s11 (cy 0) 4 shf, zO pa 4 [vI cars, vR pt, vI dips, vR pd, vR ps], zI pt (cy 0) 100 tf] hq9
  refine lv_i2l (v := jJ (u1.2.1 0)) hx hb dL_pass_7 (jJ_i (by omega)) ?_
  refine va_last hx hb hG.1 hP hD hS 0 2 rfl rfl (iI_in (by omega) (by decide)) dL_pass_8 (fun H locs hP hD hS => ?_)
  obtain ⟨hP, hD⟩ := arl 0 (fun _ => (iI (u1.2.1 0)).toInt64) hP hD rfl (arl_2 (by omega))
  obtain ⟨hP, hD⟩ := pw9 [zL ao (cy 2) 1 (fun _ => (iI (u1.2.1 0)).toInt64), zO kk 11 [vR ta, vR kr, vR kl, vI nr, vI nw, vR sA, vR dA, vR pa, vR ki, vR kp, vI im, vR wa, vR or_, vR rq], zI rq (cy 0) 4 qf, zQ kl (cy 5) 4 klf, zO la 1 [vR l0, vI size, vR l2, vR l3], zI l0 (cy 0) 600 st, zI l2 (cy 0) 5 sf, zI l3 (cy 0) 40 (u1.2.2 0), zO wa 9 [vR tA, vR ca, vR se, vI fo, vI wth], zO ca 0 [vR na, vI (u1.2.1 1), vI (u1.2.1 2), vI (u1.2.1 3), vI (u1.2.1 4), vI (u1.2.1 5), vI (u1.2.1 6)], zI na (cy 0) 7 (u1.2.2 1), zO sA 6 [vI wi, vI ro, vR s2, vR s3, vI dr, vI dt, vR s6, vI pe, vR s8, vI gu, vI sh, vR s11, vI wo, vR s13, vI dn, vI mi, vI fl, vI tk, vI (u1.2.1 7)], zI s2 (cy 0) 96 hf, zI s3 (cy 0) 96 (u1.2.2 2), zI s8 (cy 0) 112 (u1.2.2 3), zI s11 (cy 0) 4 shf, zO pa 4 [vI cars, vR pt, vI dips, vR pd, vR ps], zI pt (cy 0) 100 tf] hP hD
  refine lv_goto (tgt := 18) hx hb dL_pass_9 (by decide) ?_
  refine lv_iconst (v := iI 0) hx hb dL_pass_18 (by decide) ?_
  refine W.widen (k := 2) (n := 12) (Nat.le_of_ble_eq_true rfl) (Nat.le_of_ble_eq_true rfl) ?_
  exact W.iret (v := iI 0) hx hb hr (fun t ht hW => ⟨⟨iI 0, ((fun k => ([] : List Nat).getD k 0), (fun k => ([0, (u1.2.1 1), (u1.2.1 2), (u1.2.1 3), (u1.2.1 4), (u1.2.1 5), (u1.2.1 6), (u1.2.1 7), 0, (u1.2.1 0)] : List Int).getD k 0), (fun k => ([(u1.2.2 0), (u1.2.2 1), (u1.2.2 2), (u1.2.2 3), qf] : List (Nat → Int32)).getD k (fun _ => 0))), rfl, ⟨rfl, (by show (0 ≤ (u1.2.1 1) ∧ (u1.2.1 1) ≤ 5); first | exact hq1_2 | omega), (by show ((-2147483648) ≤ (u1.2.1 2) ∧ (u1.2.1 2) ≤ 2147483647); first | exact hq1_3 | omega), (by show ((-2147483648) ≤ (u1.2.1 3) ∧ (u1.2.1 3) ≤ 2147483647); first | exact hq1_4 | omega), (by show ((-2147483648) ≤ (u1.2.1 4) ∧ (u1.2.1 4) ≤ 2147483647); first | exact hq1_5 | omega), (by show (0 ≤ (u1.2.1 5) ∧ (u1.2.1 5) ≤ 5); first | exact hq1_6 | omega), (by show ((-2147483648) ≤ (u1.2.1 6) ∧ (u1.2.1 6) ≤ 2147483647); first | exact hq1_7 | omega), (by show ((-2147483648) ≤ (u1.2.1 7) ∧ (u1.2.1 7) ≤ 2147483647); first | exact hq1_8 | omega), (by show (0 ≤ 0 ∧ 0 ≤ 2); show (0 : Int) ≤ 0 ∧ (0 : Int) ≤ 2; decide), (by show ((-2147483648) ≤ (u1.2.1 0) ∧ (u1.2.1 0) ≤ 2147483647); first | exact hq1_1 | omega), hq1_9, hq1_10, hq1_11, hq1_12⟩, at9 ht hP hD [1, 2, 3, 4, 5, 6, 7, 8, 9, 10, 11, 12, 13, 14, 15, 16, 17, 0] (by decide +kernel) rfl⟩, hS.F ht⟩) hS.2.2 dL_pass_19
end
