theorem dL_cell_0 : decode cL_cell 0 = .ok (.aload 4, 2) := by decide +kernel
theorem dL_cell_10 : decode cL_cell 10 = .ok (.i2l, 1) := by decide +kernel
theorem dL_cell_11 : decode cL_cell 11 = .ok (.lastore, 1) := by decide +kernel
theorem dL_cell_12 : decode cL_cell 12 = .ok (.goto 11, 3) := by decide +kernel
theorem dL_cell_15 : decode cL_cell 15 = .ok (.astore 5, 2) := by decide +kernel
theorem dL_cell_17 : decode cL_cell 17 = .ok (.iconst 1, 1) := by decide +kernel
theorem dL_cell_18 : decode cL_cell 18 = .ok (.ireturn, 1) := by decide +kernel
theorem dL_cell_19 : decode cL_cell 19 = .ok (.astore 5, 2) := by decide +kernel
theorem dL_cell_2 : decode cL_cell 2 = .ok (.iconst 0, 1) := by decide +kernel
theorem dL_cell_21 : decode cL_cell 21 = .ok (.iconst 2, 1) := by decide +kernel
theorem dL_cell_22 : decode cL_cell 22 = .ok (.ireturn, 1) := by decide +kernel
theorem dL_cell_23 : decode cL_cell 23 = .ok (.iconst 0, 1) := by decide +kernel
theorem dL_cell_24 : decode cL_cell 24 = .ok (.ireturn, 1) := by decide +kernel
theorem dL_cell_3 : decode cL_cell 3 = .ok (.aload_n 0, 1) := by decide +kernel
theorem dL_cell_4 : decode cL_cell 4 = .ok (.iload_n 1, 1) := by decide +kernel
theorem dL_cell_5 : decode cL_cell 5 = .ok (.iload_n 2, 1) := by decide +kernel
theorem dL_cell_6 : decode cL_cell 6 = .ok (.iload_n 3, 1) := by decide +kernel
theorem dL_cell_7 : decode cL_cell 7 = .ok (.invokevirtual 24, 3) := by decide +kernel
theorem dL_does_0 : decode cL_does 0 = .ok (.aload_n 2, 1) := by decide +kernel
theorem dL_does_1 : decode cL_does 1 = .ok (.iconst 0, 1) := by decide +kernel
theorem dL_does_12 : decode cL_does 12 = .ok (.astore_n 3, 1) := by decide +kernel
theorem dL_does_13 : decode cL_does 13 = .ok (.iconst 1, 1) := by decide +kernel
theorem dL_does_14 : decode cL_does 14 = .ok (.ireturn, 1) := by decide +kernel
theorem dL_does_15 : decode cL_does 15 = .ok (.iconst 0, 1) := by decide +kernel
theorem dL_does_16 : decode cL_does 16 = .ok (.ireturn, 1) := by decide +kernel
theorem dL_does_2 : decode cL_does 2 = .ok (.aload_n 0, 1) := by decide +kernel
theorem dL_does_3 : decode cL_does 3 = .ok (.iload_n 1, 1) := by decide +kernel
theorem dL_does_4 : decode cL_does 4 = .ok (.invokevirtual 45, 3) := by decide +kernel
theorem dL_does_7 : decode cL_does 7 = .ok (.i2l, 1) := by decide +kernel
theorem dL_does_8 : decode cL_does 8 = .ok (.lastore, 1) := by decide +kernel
theorem dL_does_9 : decode cL_does 9 = .ok (.goto 6, 3) := by decide +kernel
theorem dL_drain_0 : decode cL_drain 0 = .ok (.aload_n 3, 1) := by decide +kernel
theorem dL_drain_1 : decode cL_drain 1 = .ok (.iconst 0, 1) := by decide +kernel
theorem dL_drain_10 : decode cL_drain 10 = .ok (.goto 11, 3) := by decide +kernel
theorem dL_drain_13 : decode cL_drain 13 = .ok (.astore 4, 2) := by decide +kernel
theorem dL_drain_15 : decode cL_drain 15 = .ok (.iconst 1, 1) := by decide +kernel
theorem dL_drain_16 : decode cL_drain 16 = .ok (.ireturn, 1) := by decide +kernel
theorem dL_drain_17 : decode cL_drain 17 = .ok (.astore 4, 2) := by decide +kernel
theorem dL_drain_19 : decode cL_drain 19 = .ok (.iconst 2, 1) := by decide +kernel
theorem dL_drain_2 : decode cL_drain 2 = .ok (.aload_n 0, 1) := by decide +kernel
theorem dL_drain_20 : decode cL_drain 20 = .ok (.ireturn, 1) := by decide +kernel
theorem dL_drain_21 : decode cL_drain 21 = .ok (.iconst 0, 1) := by decide +kernel
theorem dL_drain_22 : decode cL_drain 22 = .ok (.ireturn, 1) := by decide +kernel
theorem dL_drain_3 : decode cL_drain 3 = .ok (.iload_n 1, 1) := by decide +kernel
theorem dL_drain_4 : decode cL_drain 4 = .ok (.iload_n 2, 1) := by decide +kernel
theorem dL_drain_5 : decode cL_drain 5 = .ok (.invokevirtual 30, 3) := by decide +kernel
theorem dL_drain_8 : decode cL_drain 8 = .ok (.i2l, 1) := by decide +kernel
theorem dL_drain_9 : decode cL_drain 9 = .ok (.lastore, 1) := by decide +kernel
theorem dL_leaves_0 : decode cL_leaves 0 = .ok (.aload_n 3, 1) := by decide +kernel
theorem dL_leaves_1 : decode cL_leaves 1 = .ok (.iconst 0, 1) := by decide +kernel
theorem dL_leaves_10 : decode cL_leaves 10 = .ok (.goto 11, 3) := by decide +kernel
theorem dL_leaves_13 : decode cL_leaves 13 = .ok (.astore 4, 2) := by decide +kernel
theorem dL_leaves_15 : decode cL_leaves 15 = .ok (.iconst 1, 1) := by decide +kernel
theorem dL_leaves_16 : decode cL_leaves 16 = .ok (.ireturn, 1) := by decide +kernel
theorem dL_leaves_17 : decode cL_leaves 17 = .ok (.astore 4, 2) := by decide +kernel
theorem dL_leaves_19 : decode cL_leaves 19 = .ok (.iconst 2, 1) := by decide +kernel
theorem dL_leaves_2 : decode cL_leaves 2 = .ok (.aload_n 0, 1) := by decide +kernel
theorem dL_leaves_20 : decode cL_leaves 20 = .ok (.ireturn, 1) := by decide +kernel
theorem dL_leaves_21 : decode cL_leaves 21 = .ok (.iconst 0, 1) := by decide +kernel
theorem dL_leaves_22 : decode cL_leaves 22 = .ok (.ireturn, 1) := by decide +kernel
theorem dL_leaves_3 : decode cL_leaves 3 = .ok (.iload_n 1, 1) := by decide +kernel
theorem dL_leaves_4 : decode cL_leaves 4 = .ok (.iload_n 2, 1) := by decide +kernel
theorem dL_leaves_5 : decode cL_leaves 5 = .ok (.invokevirtual 36, 3) := by decide +kernel
theorem dL_leaves_8 : decode cL_leaves 8 = .ok (.i2l, 1) := by decide +kernel
theorem dL_leaves_9 : decode cL_leaves 9 = .ok (.lastore, 1) := by decide +kernel
theorem dL_person_0 : decode cL_person 0 = .ok (.aload_n 3, 1) := by decide +kernel
theorem dL_person_1 : decode cL_person 1 = .ok (.iconst 0, 1) := by decide +kernel
theorem dL_person_10 : decode cL_person 10 = .ok (.goto 11, 3) := by decide +kernel
theorem dL_person_13 : decode cL_person 13 = .ok (.astore 4, 2) := by decide +kernel
theorem dL_person_15 : decode cL_person 15 = .ok (.iconst 1, 1) := by decide +kernel
theorem dL_person_16 : decode cL_person 16 = .ok (.ireturn, 1) := by decide +kernel
theorem dL_person_17 : decode cL_person 17 = .ok (.astore 4, 2) := by decide +kernel
theorem dL_person_19 : decode cL_person 19 = .ok (.iconst 2, 1) := by decide +kernel
theorem dL_person_2 : decode cL_person 2 = .ok (.aload_n 0, 1) := by decide +kernel
theorem dL_person_20 : decode cL_person 20 = .ok (.ireturn, 1) := by decide +kernel
theorem dL_person_21 : decode cL_person 21 = .ok (.iconst 0, 1) := by decide +kernel
theorem dL_person_22 : decode cL_person 22 = .ok (.ireturn, 1) := by decide +kernel
theorem dL_person_3 : decode cL_person 3 = .ok (.iload_n 1, 1) := by decide +kernel
theorem dL_person_4 : decode cL_person 4 = .ok (.iload_n 2, 1) := by decide +kernel
theorem dL_person_5 : decode cL_person 5 = .ok (.invokevirtual 39, 3) := by decide +kernel
theorem dL_person_8 : decode cL_person 8 = .ok (.i2l, 1) := by decide +kernel
theorem dL_person_9 : decode cL_person 9 = .ok (.lastore, 1) := by decide +kernel
theorem dL_told_0 : decode cL_told 0 = .ok (.aload_n 2, 1) := by decide +kernel
theorem dL_told_1 : decode cL_told 1 = .ok (.iconst 0, 1) := by decide +kernel
theorem dL_told_12 : decode cL_told 12 = .ok (.astore_n 3, 1) := by decide +kernel
theorem dL_told_13 : decode cL_told 13 = .ok (.iconst 1, 1) := by decide +kernel
theorem dL_told_14 : decode cL_told 14 = .ok (.ireturn, 1) := by decide +kernel
theorem dL_told_15 : decode cL_told 15 = .ok (.iconst 0, 1) := by decide +kernel
theorem dL_told_16 : decode cL_told 16 = .ok (.ireturn, 1) := by decide +kernel
theorem dL_told_2 : decode cL_told 2 = .ok (.aload_n 0, 1) := by decide +kernel
theorem dL_told_3 : decode cL_told 3 = .ok (.iload_n 1, 1) := by decide +kernel
theorem dL_told_4 : decode cL_told 4 = .ok (.invokevirtual 21, 3) := by decide +kernel
theorem dL_told_7 : decode cL_told 7 = .ok (.i2l, 1) := by decide +kernel
theorem dL_told_8 : decode cL_told 8 = .ok (.lastore, 1) := by decide +kernel
theorem dL_told_9 : decode cL_told 9 = .ok (.goto 6, 3) := by decide +kernel
theorem dL_work_0 : decode cL_work 0 = .ok (.aload_n 3, 1) := by decide +kernel
theorem dL_work_1 : decode cL_work 1 = .ok (.iconst 0, 1) := by decide +kernel
theorem dL_work_10 : decode cL_work 10 = .ok (.goto 11, 3) := by decide +kernel
theorem dL_work_13 : decode cL_work 13 = .ok (.astore 4, 2) := by decide +kernel
theorem dL_work_15 : decode cL_work 15 = .ok (.iconst 1, 1) := by decide +kernel
theorem dL_work_16 : decode cL_work 16 = .ok (.ireturn, 1) := by decide +kernel
theorem dL_work_17 : decode cL_work 17 = .ok (.astore 4, 2) := by decide +kernel
theorem dL_work_19 : decode cL_work 19 = .ok (.iconst 2, 1) := by decide +kernel
theorem dL_work_2 : decode cL_work 2 = .ok (.aload_n 0, 1) := by decide +kernel
theorem dL_work_20 : decode cL_work 20 = .ok (.ireturn, 1) := by decide +kernel
theorem dL_work_21 : decode cL_work 21 = .ok (.iconst 0, 1) := by decide +kernel
theorem dL_work_22 : decode cL_work 22 = .ok (.ireturn, 1) := by decide +kernel
theorem dL_work_3 : decode cL_work 3 = .ok (.iload_n 1, 1) := by decide +kernel
theorem dL_work_4 : decode cL_work 4 = .ok (.iload_n 2, 1) := by decide +kernel
theorem dL_work_5 : decode cL_work 5 = .ok (.invokevirtual 42, 3) := by decide +kernel
theorem dL_work_8 : decode cL_work 8 = .ok (.i2l, 1) := by decide +kernel
theorem dL_work_9 : decode cL_work 9 = .ok (.lastore, 1) := by decide +kernel
def vs_w_told : List Cond := .codeWith yL_told cL_told 4 (some .int) [(0, 9, 12, 13)] :: (([.classLink RL 13 "java/lang/IllegalArgumentException"] : List Cond) ++ ((wsV RL 21 RX11 yX11_told vs_k_told) ++ ([])))
set_option maxHeartbeats 4000000 in
set_option maxRecDepth 100000 in
theorem w_told (l : Launch) (hl : l.stackTraces = false) (D : va_G) (cy : Nat → ClassId) (sa : Nat → Nat) (kk ta kr kl sA dA pa ki kp wa or_ rq : Nat) (nr nw im : Int) (qf : Nat → Int32) (s2 s3 s6 s8 s11 s13 : Nat) (wi ro dr dt pe gu sh wo dn mi fl tk go : Int) (n : Int) (ao : Nat) (av : Int) (sz : Nat) (hr_nr : 0 ≤ nr ∧ nr ≤ 4) (hr_nw : 0 ≤ nw ∧ nw ≤ 4) (hr_im : 0 ≤ im ∧ im ≤ 3) (hr_wi : 0 ≤ wi ∧ wi ≤ 16) (hr_ro : 0 ≤ ro ∧ ro ≤ 6) (hr_dr : 0 ≤ dr ∧ dr ≤ 14) (hr_dt : 0 ≤ dt ∧ dt ≤ 6) (hr_pe : 0 ≤ pe ∧ pe ≤ 8) (hr_gu : 0 ≤ gu ∧ gu ≤ 20) (hr_sh : 0 ≤ sh ∧ sh ≤ 2) (hr_wo : 0 ≤ wo ∧ wo ≤ 8) (hr_dn : (-2147483648) ≤ dn ∧ dn ≤ 2147483647) (hr_mi : 0 ≤ mi ∧ mi ≤ 600) (hr_fl : (-2147483648) ≤ fl ∧ fl ≤ 2147483647) (hr_tk : (-2147483648) ≤ tk ∧ tk ≤ 2147483647) (hr_go : (-2147483648) ≤ go ∧ go ≤ 2147483647) (hr_n : (-2147483648) ≤ n ∧ n ≤ 2147483647) (hr_av : (-2147483648) ≤ av ∧ av ≤ 2147483647) : Met l yL_told vs_w_told ({ frames := 8, cells := 1, slots := 6, locals := 142 }) (va_Pc [vR kk, vI n, vR ao] (pcW D cy sa sz [zO kk 11 [vR ta, vR kr, vR kl, vI nr, vI nw, vR sA, vR dA, vR pa, vR ki, vR kp, vI im, vR wa, vR or_, vR rq], zI rq (cy 0) 4 qf, zO sA 6 [vI wi, vI ro, vR s2, vR s3, vI dr, vI dt, vR s6, vI pe, vR s8, vI gu, vI sh, vR s11, vI wo, vR s13, vI dn, vI mi, vI fl, vI tk, vI go], zL ao (cy 2) 1 (fun _ => (iI av).toInt64)])) (va_Qi (fun (r : Int32) (u : SV) => r = iI (u.2.1 1) ∧ (0 ≤ u.2.1 1 ∧ u.2.1 1 ≤ 1) ∧ ((-2147483648) ≤ u.2.1 2 ∧ u.2.1 2 ≤ 2147483647)) (fun u t => atW D (va_A [zO kk 11 [vR ta, vR kr, vR kl, vI nr, vI nw, vR sA, vR dA, vR pa, vR ki, vR kp, vI im, vR wa, vR or_, vR rq], zI rq (cy 0) 4 qf, zO sA 6 [vI wi, vI ro, vR s2, vR s3, vI dr, vI dt, vR s6, vI pe, vR s8, vI gu, vI sh, vR s11, vI wo, vR s13, vI dn, vI mi, vI fl, vI tk, vI go], zL ao (cy 2) 1 (fun _ => (iI av).toInt64)] sz) [zO kk 11 [vR ta, vR kr, vR kl, vI nr, vI nw, vR sA, vR dA, vR pa, vR ki, vR kp, vI im, vR wa, vR or_, vR rq], zI rq (cy 0) 4 (u.2.2 0), zO sA 6 [vI wi, vI ro, vR s2, vR s3, vI dr, vI dt, vR s6, vI pe, vR s8, vI gu, vI sh, vR s11, vI wo, vR s13, vI dn, vI mi, vI fl, vI tk, vI go], zL ao (cy 2) 1 (fun _ => (iI (u.2.1 2)).toInt64)] t) (va_A [zO kk 11 [vR ta, vR kr, vR kl, vI nr, vI nw, vR sA, vR dA, vR pa, vR ki, vR kp, vI im, vR wa, vR or_, vR rq], zI rq (cy 0) 4 qf, zO sA 6 [vI wi, vI ro, vR s2, vR s3, vI dr, vI dt, vR s6, vI pe, vR s8, vI gu, vI sh, vR s11, vI wo, vR s13, vI dn, vI mi, vI fl, vI tk, vI go], zL ao (cy 2) 1 (fun _ => (iI av).toInt64)] sz)) 1 6 (va_A [zO kk 11 [vR ta, vR kr, vR kl, vI nr, vI nw, vR sA, vR dA, vR pa, vR ki, vR kp, vI im, vR wa, vR or_, vR rq], zI rq (cy 0) 4 qf, zO sA 6 [vI wi, vI ro, vR s2, vR s3, vI dr, vI dt, vR s6, vI pe, vR s8, vI gu, vI sh, vR s11, vI wo, vR s13, vI dn, vI mi, vI fl, vI tk, vI go], zL ao (cy 2) 1 (fun _ => (iI av).toInt64)] sz) := by
  refine va_MetW (cc := cL_told) (maxL := 4) (ret := (some .int)) (by decide) rfl ?_
  intro p e s m args below meth c s₁ B hml hv
  obtain ⟨rfl, hsz, hP, hG, hD0, hT⟩ := hv
  have hx := B.exec
  have hb := B.bytes
  have hr := B.returns
  have hts := atoms_spec (ws := vs_w_told) B.pre
  have hown : s.vm.findClass RL = some m.cls := findClass_of_methodNamed B.named
  have hlocks := B.notSynchronized
  subst hsz
  have hD := hD0.self (sz := s.heap.size)
  generalize hAe : va_A [zO kk 11 [vR ta, vR kr, vR kl, vI nr, vI nw, vR sA, vR dA, vR pa, vR ki, vR kp, vI im, vR wa, vR or_, vR rq], zI rq (cy 0) 4 qf, zO sA 6 [vI wi, vI ro, vR s2, vR s3, vI dr, vI dt, vR s6, vI pe, vR s8, vI gu, vI sh, vR s11, vI wo, vR s13, vI dn, vI mi, vI fl, vI tk, vI go], zL ao (cy 2) 1 (fun _ => (iI av).toInt64)] s.heap.size = A at hD hT ⊢
  have hA : ∀ q : Nat, s.heap.size ≤ q → A q := fun q h => by rw [← hAe]; exact Or.inr h
  have hS : va_S A s.heap s.heap [] := va_S.rf
  have hl0 := lv_entry ([vR kk, vI n, vR ao]) (n := 4) (Nat.le_of_ble_eq_true rfl)
  rw [lg_entry_eq]
  generalize (lg_sl ([vR kk, vI n, vR ao]) ++ List.replicate (4 - (lg_sl ([vR kk, vI n, vR ao])).length) Slot.unset).toArray = ls at hl0 ⊢
  have hlv : lv_has ls 4 [(0, vR kk), (1, vI n), (2, vR ao)] := hl0
  have gg_0 : GoodIn vs_w_told (wsV RL 21 RX11 yX11_told vs_k_told) := goodIn_sub (fun w h => List.mem_cons_of_mem _ (List.mem_append_right _ (List.mem_append_left _ h))) (gd_V gd_k_told (by decide +kernel))
  have xc13 := hts (.classLink RL 13 "java/lang/IllegalArgumentException") (List.mem_of_getElem? (i := 1) rfl)
  have htab : c.exceptionTable.toList = [(⟨0, 9, 12, 13⟩ : ExceptionTableEntry)] := vx_table (x := yL_told) B (hts (.codeWith yL_told cL_told 4 (some .int) [(0, 9, 12, 13)]) List.mem_cons_self)
  refine lv_aload_n hx hb dL_told_0 rfl (lv_at hlv 2 rfl) ?_
  refine lv_iconst (v := iI 0) hx hb dL_told_1 (by decide) ?_
  refine lv_aload_n hx hb dL_told_2 rfl (lv_at hlv 0 rfl) ?_
  refine lv_iload_n hx hb dL_told_3 rfl (lv_at hlv 1 rfl) ?_
  refine cjx2_i (wr := [zL ao (cy 2) 1 (fun _ => (iI av).toInt64)]) (vx_runV (As := [vI n]) (rest := [vI 0, vR ao]) ⟨hx, hb, hml, hown, hts⟩ (k_told l hl D cy sa kk ta kr kl sA dA pa ki kp wa or_ rq nr nw im qf s2 s3 s6 s8 s11 s13 wi ro dr dt pe gu sh wo dn mi fl tk go n s.heap.size (by first | exact hr_nr | omega) (by first | exact hr_nw | omega) (by first | exact hr_im | omega) (by first | exact hr_wi | omega) (by first | exact hr_ro | omega) (by first | exact hr_dr | omega) (by first | exact hr_dt | omega) (by first | exact hr_pe | omega) (by first | exact hr_gu | omega) (by first | exact hr_sh | omega) (by first | exact hr_wo | omega) (by first | exact hr_dn | omega) (by first | exact hr_mi | omega) (by first | exact hr_fl | omega) (by first | exact hr_tk | omega) (by first | exact hr_go | omega) (by first | exact hr_n | omega)) (cwV 1 hts gg_0 rfl rfl rfl (by decide +kernel) ⟨Nat.le_of_ble_eq_true rfl, Nat.le_of_ble_eq_true rfl⟩) ⟨pcW.blind, (va_recv hG.1 hP (ci := 11) (q0 := 0) rfl rfl), (pcW.mk hP hD hS hA hG hT [0, 1, 2] rfl (by decide))⟩ rfl rfl hlv.1 rfl (lv_room (Nat.le_of_ble_eq_true rfl)) dL_told_4 ⟨Nat.le_of_ble_eq_true rfl, Nat.le_of_ble_eq_true rfl⟩) hP hD hS hA [0, 1, 2] [3] rfl rfl (by decide) (by decide) (fun E ux1 ce q9 H locs hp hP hD hS h1 h2 h3 => ?_) (fun r1 u1 H locs hw1 hP hD hS => ?_)
  · have hP : va_P D vwCl [zL ao (cy 2) 1 (fun _ => (iI av).toInt64), zO kk 11 [vR ta, vR kr, vR kl, vI nr, vI nw, vR sA, vR dA, vR pa, vR ki, vR kp, vI im, vR wa, vR or_, vR rq], zI rq (cy 0) 4 (ux1.2.2 0), zO sA 6 [vI wi, vI ro, vR s2, vR s3, vI dr, vI dt, vR s6, vI pe, vR s8, vI gu, vI sh, vR s11, vI wo, vR s13, vI dn, vI mi, vI fl, vI tk, vI go]] H := hP
    have hD : va_D A [zL ao (cy 2) 1 (fun _ => (iI av).toInt64), zO kk 11 [vR ta, vR kr, vR kl, vI nr, vI nw, vR sA, vR dA, vR pa, vR ki, vR kp, vI im, vR wa, vR or_, vR rq], zI rq (cy 0) 4 (ux1.2.2 0), zO sA 6 [vI wi, vI ro, vR s2, vR s3, vI dr, vI dt, vR s6, vI pe, vR s8, vI gu, vI sh, vR s11, vI wo, vR s13, vI dn, vI mi, vI fl, vI tk, vI go]] := hD
    obtain rfl := hp
    refine vx_catch (name := "java/lang/IllegalArgumentException") hown [] (⟨0, 9, 12, 13⟩ : ExceptionTableEntry) [] htab (fun z hz => absurd hz List.not_mem_nil) (by decide) (by decide) xc13 (va_Nw.use rfl (hG.2.2.2.1 _ (List.mem_of_getElem? (i := 2) rfl))) h1 h2 h3 ?_
    refine lv_astore_n (lv' := [(3, vR q9), (0, vR kk), (1, vI n), (2, vR ao)]) hx hb dL_told_12 rfl hlv (by decide) rfl (fun ls hlv => ?_)
    refine lv_iconst (v := iI 1) hx hb dL_told_13 (by decide) ?_
    refine W.widen (k := 1) (n := 6) (Nat.le_of_ble_eq_true rfl) (Nat.le_of_ble_eq_true rfl) ?_
    exact W.iret (v := iI 1) hx hb hr (fun t ht hW => ⟨⟨iI 1, ((fun k => ([] : List Nat).getD k 0), (fun k => ([0, 1, av] : List Int).getD k 0), (fun k => ([(ux1.2.2 0)] : List (Nat → Int32)).getD k (fun _ => 0))), rfl, ⟨rfl, (by show (0 ≤ 1 ∧ 1 ≤ 1); show (0 : Int) ≤ 1 ∧ (1 : Int) ≤ 1; decide), (by show ((-2147483648) ≤ av ∧ av ≤ 2147483647); first | exact hr_av | omega)⟩, by rw [ht]; exact hP.sub [1, 2, 3, 0] rfl, hD.sub [1, 2, 3, 0] (by decide) rfl⟩, hS.F ht⟩) hS.2.2 dL_told_14
  obtain ⟨rfl, hq1_1⟩ := hw1
  have hP : va_P D vwCl [zL ao (cy 2) 1 (fun _ => (iI av).toInt64), zO kk 11 [vR ta, vR kr, vR kl, vI nr, vI nw, vR sA, vR dA, vR pa, vR ki, vR kp, vI im, vR wa, vR or_, vR rq], zI rq (cy 0) 4 qf, zO sA 6 [vI wi, vI ro, vR s2, vR s3, vI dr, vI dt, vR s6, vI pe, vR s8, vI gu, vI sh, vR s11, vI wo, vR s13, vI dn, vI mi, vI fl, vI tk, vI go]] H := hP
  have hD : va_D A [zL ao (cy 2) 1 (fun _ => (iI av).toInt64), zO kk 11 [vR ta, vR kr, vR kl, vI nr, vI nw, vR sA, vR dA, vR pa, vR ki, vR kp, vI im, vR wa, vR or_, vR rq], zI rq (cy 0) 4 qf, zO sA 6 [vI wi, vI ro, vR s2, vR s3, vI dr, vI dt, vR s6, vI pe, vR s8, vI gu, vI sh, vR s11, vI wo, vR s13, vI dn, vI mi, vI fl, vI tk, vI go]] := hD
  refine lv_i2l (v := jJ (u1.2.1 0)) hx hb dL_told_7 (jJ_i (by omega)) ?_
  refine va_last hx hb hG.1 hP hD hS 0 2 rfl rfl (iI_in (by omega) (by decide)) dL_told_8 (fun H locs hP hD hS => ?_)
  obtain ⟨hP, hD⟩ := arl 0 (fun _ => (iI (u1.2.1 0)).toInt64) hP hD rfl (arl_2 (by omega))
  have hP : va_P D vwCl [zL ao (cy 2) 1 (fun _ => (iI (u1.2.1 0)).toInt64), zO kk 11 [vR ta, vR kr, vR kl, vI nr, vI nw, vR sA, vR dA, vR pa, vR ki, vR kp, vI im, vR wa, vR or_, vR rq], zI rq (cy 0) 4 qf, zO sA 6 [vI wi, vI ro, vR s2, vR s3, vI dr, vI dt, vR s6, vI pe, vR s8, vI gu, vI sh, vR s11, vI wo, vR s13, vI dn, vI mi, vI fl, vI tk, vI go]] H := hP
  have hD : va_D A [zL ao (cy 2) 1 (fun _ => (iI (u1.2.1 0)).toInt64), zO kk 11 [vR ta, vR kr, vR kl, vI nr, vI nw, vR sA, vR dA, vR pa, vR ki, vR kp, vI im, vR wa, vR or_, vR rq], zI rq (cy 0) 4 qf, zO sA 6 [vI wi, vI ro, vR s2, vR s3, vI dr, vI dt, vR s6, vI pe, vR s8, vI gu, vI sh, vR s11, vI wo, vR s13, vI dn, vI mi, vI fl, vI tk, vI go]] := hD
  refine lv_goto (tgt := 15) hx hb dL_told_9 (by decide) ?_
  refine lv_iconst (v := iI 0) hx hb dL_told_15 (by decide) ?_
  refine W.widen (k := 1) (n := 6) (Nat.le_of_ble_eq_true rfl) (Nat.le_of_ble_eq_true rfl) ?_
  exact W.iret (v := iI 0) hx hb hr (fun t ht hW => ⟨⟨iI 0, ((fun k => ([] : List Nat).getD k 0), (fun k => ([0, 0, (u1.2.1 0)] : List Int).getD k 0), (fun k => ([qf] : List (Nat → Int32)).getD k (fun _ => 0))), rfl, ⟨rfl, (by show (0 ≤ 0 ∧ 0 ≤ 1); show (0 : Int) ≤ 0 ∧ (0 : Int) ≤ 1; decide), (by show ((-2147483648) ≤ (u1.2.1 0) ∧ (u1.2.1 0) ≤ 2147483647); first | exact hq1_1 | omega)⟩, by rw [ht]; exact hP.sub [1, 2, 3, 0] rfl, hD.sub [1, 2, 3, 0] (by decide) rfl⟩, hS.F ht⟩) hS.2.2 dL_told_16
def vs_w_cell : List Cond := .codeWith yL_cell cL_cell 6 (some .int) [(0, 12, 15, 28), (0, 12, 19, 13)] :: (([.classLink RL 28 "java/lang/IndexOutOfBoundsException", .classLink RL 13 "java/lang/IllegalArgumentException"] : List Cond) ++ ((wsV RL 24 RX11 yX11_cell vs_k_cell) ++ ([])))
set_option maxHeartbeats 4000000 in
set_option maxRecDepth 100000 in
theorem w_cell (l : Launch) (hl : l.stackTraces = false) (D : va_G) (cy : Nat → ClassId) (sa : Nat → Nat) (kk ta kr kl sA dA pa ki kp wa or_ rq : Nat) (nr nw im : Int) (qf : Nat → Int32) (s2 s3 s6 s8 s11 s13 : Nat) (wi ro dr dt pe gu sh wo dn mi fl tk go : Int) (hf wf : Nat → Int32) (x y n : Int) (ao : Nat) (av : Int) (sz : Nat) (hr_nr : 0 ≤ nr ∧ nr ≤ 4) (hr_nw : 0 ≤ nw ∧ nw ≤ 4) (hr_im : 0 ≤ im ∧ im ≤ 3) (hr_wi : 0 ≤ wi ∧ wi ≤ 16) (hr_ro : 0 ≤ ro ∧ ro ≤ 6) (hr_dr : 0 ≤ dr ∧ dr ≤ 14) (hr_dt : 0 ≤ dt ∧ dt ≤ 6) (hr_pe : 0 ≤ pe ∧ pe ≤ 8) (hr_gu : 0 ≤ gu ∧ gu ≤ 20) (hr_sh : 0 ≤ sh ∧ sh ≤ 2) (hr_wo : 0 ≤ wo ∧ wo ≤ 8) (hr_dn : (-2147483648) ≤ dn ∧ dn ≤ 2147483647) (hr_mi : 0 ≤ mi ∧ mi ≤ 600) (hr_fl : (-2147483648) ≤ fl ∧ fl ≤ 2147483647) (hr_tk : (-2147483648) ≤ tk ∧ tk ≤ 2147483647) (hr_go : (-2147483648) ≤ go ∧ go ≤ 2147483647) (hr_x : (-2147483648) ≤ x ∧ x ≤ 2147483647) (hr_y : (-2147483648) ≤ y ∧ y ≤ 2147483647) (hr_n : (-2147483648) ≤ n ∧ n ≤ 2147483647) (hr_av : (-2147483648) ≤ av ∧ av ≤ 2147483647) (hhf : inv_ 96 0 99 hf) : Met l yL_cell vs_w_cell ({ frames := 8, cells := 2, slots := 12, locals := 146 }) (va_Pc [vR kk, vI x, vI y, vI n, vR ao] (pcW D cy sa sz [zO kk 11 [vR ta, vR kr, vR kl, vI nr, vI nw, vR sA, vR dA, vR pa, vR ki, vR kp, vI im, vR wa, vR or_, vR rq], zI rq (cy 0) 4 qf, zO sA 6 [vI wi, vI ro, vR s2, vR s3, vI dr, vI dt, vR s6, vI pe, vR s8, vI gu, vI sh, vR s11, vI wo, vR s13, vI dn, vI mi, vI fl, vI tk, vI go], zI s2 (cy 0) 96 hf, zI s3 (cy 0) 96 wf, zL ao (cy 2) 1 (fun _ => (iI av).toInt64)])) (va_Qi (fun (r : Int32) (u : SV) => r = iI (u.2.1 1) ∧ (0 ≤ u.2.1 1 ∧ u.2.1 1 ≤ 2) ∧ ((-2147483648) ≤ u.2.1 2 ∧ u.2.1 2 ≤ 2147483647) ∧ inv_ 96 0 99 hf) (fun u t => atW D (va_A [zO kk 11 [vR ta, vR kr, vR kl, vI nr, vI nw, vR sA, vR dA, vR pa, vR ki, vR kp, vI im, vR wa, vR or_, vR rq], zI rq (cy 0) 4 qf, zO sA 6 [vI wi, vI ro, vR s2, vR s3, vI dr, vI dt, vR s6, vI pe, vR s8, vI gu, vI sh, vR s11, vI wo, vR s13, vI dn, vI mi, vI fl, vI tk, vI go], zI s2 (cy 0) 96 hf, zI s3 (cy 0) 96 wf, zL ao (cy 2) 1 (fun _ => (iI av).toInt64)] sz) [zO kk 11 [vR ta, vR kr, vR kl, vI nr, vI nw, vR sA, vR dA, vR pa, vR ki, vR kp, vI im, vR wa, vR or_, vR rq], zI rq (cy 0) 4 (u.2.2 0), zO sA 6 [vI wi, vI ro, vR s2, vR s3, vI dr, vI dt, vR s6, vI pe, vR s8, vI gu, vI sh, vR s11, vI wo, vR s13, vI dn, vI mi, vI fl, vI tk, vI go], zI s2 (cy 0) 96 hf, zI s3 (cy 0) 96 wf, zL ao (cy 2) 1 (fun _ => (iI (u.2.1 2)).toInt64)] t) (va_A [zO kk 11 [vR ta, vR kr, vR kl, vI nr, vI nw, vR sA, vR dA, vR pa, vR ki, vR kp, vI im, vR wa, vR or_, vR rq], zI rq (cy 0) 4 qf, zO sA 6 [vI wi, vI ro, vR s2, vR s3, vI dr, vI dt, vR s6, vI pe, vR s8, vI gu, vI sh, vR s11, vI wo, vR s13, vI dn, vI mi, vI fl, vI tk, vI go], zI s2 (cy 0) 96 hf, zI s3 (cy 0) 96 wf, zL ao (cy 2) 1 (fun _ => (iI av).toInt64)] sz)) 2 12 (va_A [zO kk 11 [vR ta, vR kr, vR kl, vI nr, vI nw, vR sA, vR dA, vR pa, vR ki, vR kp, vI im, vR wa, vR or_, vR rq], zI rq (cy 0) 4 qf, zO sA 6 [vI wi, vI ro, vR s2, vR s3, vI dr, vI dt, vR s6, vI pe, vR s8, vI gu, vI sh, vR s11, vI wo, vR s13, vI dn, vI mi, vI fl, vI tk, vI go], zI s2 (cy 0) 96 hf, zI s3 (cy 0) 96 wf, zL ao (cy 2) 1 (fun _ => (iI av).toInt64)] sz) := by
  refine va_MetW (cc := cL_cell) (maxL := 6) (ret := (some .int)) (by decide) rfl ?_
  intro p e s m args below meth c s₁ B hml hv
  obtain ⟨rfl, hsz, hP, hG, hD0, hT⟩ := hv
  have hx := B.exec
  have hb := B.bytes
  have hr := B.returns
  have hts := atoms_spec (ws := vs_w_cell) B.pre
  have hown : s.vm.findClass RL = some m.cls := findClass_of_methodNamed B.named
  have hlocks := B.notSynchronized
  subst hsz
  have hD := hD0.self (sz := s.heap.size)
  generalize hAe : va_A [zO kk 11 [vR ta, vR kr, vR kl, vI nr, vI nw, vR sA, vR dA, vR pa, vR ki, vR kp, vI im, vR wa, vR or_, vR rq], zI rq (cy 0) 4 qf, zO sA 6 [vI wi, vI ro, vR s2, vR s3, vI dr, vI dt, vR s6, vI pe, vR s8, vI gu, vI sh, vR s11, vI wo, vR s13, vI dn, vI mi, vI fl, vI tk, vI go], zI s2 (cy 0) 96 hf, zI s3 (cy 0) 96 wf, zL ao (cy 2) 1 (fun _ => (iI av).toInt64)] s.heap.size = A at hD hT ⊢
  have hA : ∀ q : Nat, s.heap.size ≤ q → A q := fun q h => by rw [← hAe]; exact Or.inr h
  have hS : va_S A s.heap s.heap [] := va_S.rf
  have hl0 := lv_entry ([vR kk, vI x, vI y, vI n, vR ao]) (n := 6) (Nat.le_of_ble_eq_true rfl)
  rw [lg_entry_eq]
  generalize (lg_sl ([vR kk, vI x, vI y, vI n, vR ao]) ++ List.replicate (6 - (lg_sl ([vR kk, vI x, vI y, vI n, vR ao])).length) Slot.unset).toArray = ls at hl0 ⊢
  have hlv : lv_has ls 6 [(0, vR kk), (1, vI x), (2, vI y), (3, vI n), (4, vR ao)] := hl0
  have gg_0 : GoodIn vs_w_cell (wsV RL 24 RX11 yX11_cell vs_k_cell) := goodIn_sub (fun w h => List.mem_cons_of_mem _ (List.mem_append_right _ (List.mem_append_left _ h))) (gd_V gd_k_cell (by decide +kernel))
  have xc28 := hts (.classLink RL 28 "java/lang/IndexOutOfBoundsException") (List.mem_of_getElem? (i := 1) rfl)
  have xc13 := hts (.classLink RL 13 "java/lang/IllegalArgumentException") (List.mem_of_getElem? (i := 2) rfl)
  have htab : c.exceptionTable.toList = [(⟨0, 12, 15, 28⟩ : ExceptionTableEntry), (⟨0, 12, 19, 13⟩ : ExceptionTableEntry)] := vx_table (x := yL_cell) B (hts (.codeWith yL_cell cL_cell 6 (some .int) [(0, 12, 15, 28), (0, 12, 19, 13)]) List.mem_cons_self)
  refine lv_aload hx hb dL_cell_0 (lv_at hlv 4 rfl) ?_
  refine lv_iconst (v := iI 0) hx hb dL_cell_2 (by decide) ?_
  refine lv_aload_n hx hb dL_cell_3 rfl (lv_at hlv 0 rfl) ?_
  refine lv_iload_n hx hb dL_cell_4 rfl (lv_at hlv 1 rfl) ?_
  refine lv_iload_n hx hb dL_cell_5 rfl (lv_at hlv 2 rfl) ?_
  refine lv_iload_n hx hb dL_cell_6 rfl (lv_at hlv 3 rfl) ?_
  refine cjx2_i (wr := [zL ao (cy 2) 1 (fun _ => (iI av).toInt64)]) (vx_runV (As := [vI x, vI y, vI n]) (rest := [vI 0, vR ao]) ⟨hx, hb, hml, hown, hts⟩ (k_cell l hl D cy sa kk ta kr kl sA dA pa ki kp wa or_ rq nr nw im qf s2 s3 s6 s8 s11 s13 wi ro dr dt pe gu sh wo dn mi fl tk go hf wf x y n s.heap.size (by first | exact hr_nr | omega) (by first | exact hr_nw | omega) (by first | exact hr_im | omega) (by first | exact hr_wi | omega) (by first | exact hr_ro | omega) (by first | exact hr_dr | omega) (by first | exact hr_dt | omega) (by first | exact hr_pe | omega) (by first | exact hr_gu | omega) (by first | exact hr_sh | omega) (by first | exact hr_wo | omega) (by first | exact hr_dn | omega) (by first | exact hr_mi | omega) (by first | exact hr_fl | omega) (by first | exact hr_tk | omega) (by first | exact hr_go | omega) (by first | exact hr_x | omega) (by first | exact hr_y | omega) (by first | exact hr_n | omega) hhf) (cwV 3 hts gg_0 rfl rfl rfl (by decide +kernel) ⟨Nat.le_of_ble_eq_true rfl, Nat.le_of_ble_eq_true rfl⟩) ⟨pcW.blind, (va_recv hG.1 hP (ci := 11) (q0 := 0) rfl rfl), (pcW.mk hP hD hS hA hG hT [0, 1, 2, 3, 4] rfl (by decide))⟩ rfl rfl hlv.1 rfl (lv_room (Nat.le_of_ble_eq_true rfl)) dL_cell_7 ⟨Nat.le_of_ble_eq_true rfl, Nat.le_of_ble_eq_true rfl⟩) hP hD hS hA [0, 1, 2, 3, 4] [5] rfl rfl (by decide) (by decide) (fun E ux1 ce q9 H locs hp hP hD hS h1 h2 h3 => ?_) (fun r1 u1 H locs hw1 hP hD hS => ?_)
  · have hP : va_P D vwCl [zL ao (cy 2) 1 (fun _ => (iI av).toInt64), zO kk 11 [vR ta, vR kr, vR kl, vI nr, vI nw, vR sA, vR dA, vR pa, vR ki, vR kp, vI im, vR wa, vR or_, vR rq], zI rq (cy 0) 4 (ux1.2.2 0), zO sA 6 [vI wi, vI ro, vR s2, vR s3, vI dr, vI dt, vR s6, vI pe, vR s8, vI gu, vI sh, vR s11, vI wo, vR s13, vI dn, vI mi, vI fl, vI tk, vI go], zI s2 (cy 0) 96 hf, zI s3 (cy 0) 96 wf] H := hP
    have hD : va_D A [zL ao (cy 2) 1 (fun _ => (iI av).toInt64), zO kk 11 [vR ta, vR kr, vR kl, vI nr, vI nw, vR sA, vR dA, vR pa, vR ki, vR kp, vI im, vR wa, vR or_, vR rq], zI rq (cy 0) 4 (ux1.2.2 0), zO sA 6 [vI wi, vI ro, vR s2, vR s3, vI dr, vI dt, vR s6, vI pe, vR s8, vI gu, vI sh, vR s11, vI wo, vR s13, vI dn, vI mi, vI fl, vI tk, vI go], zI s2 (cy 0) 96 hf, zI s3 (cy 0) 96 wf] := hD
    rcases hp with rfl | rfl
    · refine vx_catch (name := "java/lang/IndexOutOfBoundsException") hown [] (⟨0, 12, 15, 28⟩ : ExceptionTableEntry) [(⟨0, 12, 19, 13⟩ : ExceptionTableEntry)] htab (fun z hz => absurd hz List.not_mem_nil) (by decide) (by decide) xc28 (va_Nw.use rfl (hG.2.2.2.1 _ (List.mem_of_getElem? (i := 0) rfl))) h1 h2 h3 ?_
      refine lv_astore (lv' := [(5, vR q9), (0, vR kk), (1, vI x), (2, vI y), (3, vI n), (4, vR ao)]) hx hb dL_cell_15 hlv (by decide) rfl (fun ls hlv => ?_)
      refine lv_iconst (v := iI 1) hx hb dL_cell_17 (by decide) ?_
      refine W.widen (k := 2) (n := 12) (Nat.le_of_ble_eq_true rfl) (Nat.le_of_ble_eq_true rfl) ?_
      exact W.iret (v := iI 1) hx hb hr (fun t ht hW => ⟨⟨iI 1, ((fun k => ([] : List Nat).getD k 0), (fun k => ([0, 1, av] : List Int).getD k 0), (fun k => ([(ux1.2.2 0)] : List (Nat → Int32)).getD k (fun _ => 0))), rfl, ⟨rfl, (by show (0 ≤ 1 ∧ 1 ≤ 2); show (0 : Int) ≤ 1 ∧ (1 : Int) ≤ 2; decide), (by show ((-2147483648) ≤ av ∧ av ≤ 2147483647); first | exact hr_av | omega), hhf⟩, by rw [ht]; exact hP.sub [1, 2, 3, 4, 5, 0] rfl, hD.sub [1, 2, 3, 4, 5, 0] (by decide) rfl⟩, hS.F ht⟩) hS.2.2 dL_cell_18
    · refine vx_catch (name := "java/lang/IllegalArgumentException") hown [(⟨0, 12, 15, 28⟩ : ExceptionTableEntry)] (⟨0, 12, 19, 13⟩ : ExceptionTableEntry) [] htab (List.forall_mem_cons.mpr ⟨Or.inr ⟨by decide, "java/lang/IndexOutOfBoundsException", xc28, hG.2.2.2.2.1 _ (List.mem_of_getElem? (i := 2) rfl) _ (List.mem_of_getElem? (i := 0) rfl) (by decide)⟩, fun z hz => absurd hz List.not_mem_nil⟩) (by decide) (by decide) xc13 (va_Nw.use rfl (hG.2.2.2.1 _ (List.mem_of_getElem? (i := 2) rfl))) h1 h2 h3 ?_
      refine lv_astore (lv' := [(5, vR q9), (0, vR kk), (1, vI x), (2, vI y), (3, vI n), (4, vR ao)]) hx hb dL_cell_19 hlv (by decide) rfl (fun ls hlv => ?_)
      refine lv_iconst (v := iI 2) hx hb dL_cell_21 (by decide) ?_
      refine W.widen (k := 2) (n := 12) (Nat.le_of_ble_eq_true rfl) (Nat.le_of_ble_eq_true rfl) ?_
      exact W.iret (v := iI 2) hx hb hr (fun t ht hW => ⟨⟨iI 2, ((fun k => ([] : List Nat).getD k 0), (fun k => ([0, 2, av] : List Int).getD k 0), (fun k => ([(ux1.2.2 0)] : List (Nat → Int32)).getD k (fun _ => 0))), rfl, ⟨rfl, (by show (0 ≤ 2 ∧ 2 ≤ 2); show (0 : Int) ≤ 2 ∧ (2 : Int) ≤ 2; decide), (by show ((-2147483648) ≤ av ∧ av ≤ 2147483647); first | exact hr_av | omega), hhf⟩, by rw [ht]; exact hP.sub [1, 2, 3, 4, 5, 0] rfl, hD.sub [1, 2, 3, 4, 5, 0] (by decide) rfl⟩, hS.F ht⟩) hS.2.2 dL_cell_22
  obtain ⟨rfl, hq1_1, hq1_2⟩ := hw1
  have hP : va_P D vwCl [zL ao (cy 2) 1 (fun _ => (iI av).toInt64), zO kk 11 [vR ta, vR kr, vR kl, vI nr, vI nw, vR sA, vR dA, vR pa, vR ki, vR kp, vI im, vR wa, vR or_, vR rq], zI rq (cy 0) 4 qf, zO sA 6 [vI wi, vI ro, vR s2, vR s3, vI dr, vI dt, vR s6, vI pe, vR s8, vI gu, vI sh, vR s11, vI wo, vR s13, vI dn, vI mi, vI fl, vI tk, vI go], zI s2 (cy 0) 96 hf, zI s3 (cy 0) 96 wf] H := hP
  have hD : va_D A [zL ao (cy 2) 1 (fun _ => (iI av).toInt64), zO kk 11 [vR ta, vR kr, vR kl, vI nr, vI nw, vR sA, vR dA, vR pa, vR ki, vR kp, vI im, vR wa, vR or_, vR rq], zI rq (cy 0) 4 qf, zO sA 6 [vI wi, vI ro, vR s2, vR s3, vI dr, vI dt, vR s6, vI pe, vR s8, vI gu, vI sh, vR s11, vI wo, vR s13, vI dn, vI mi, vI fl, vI tk, vI go], zI s2 (cy 0) 96 hf, zI s3 (cy 0) 96 wf] := hD
  refine lv_i2l (v := jJ (u1.2.1 0)) hx hb dL_cell_10 (jJ_i (by omega)) ?_
  refine va_last hx hb hG.1 hP hD hS 0 2 rfl rfl (iI_in (by omega) (by decide)) dL_cell_11 (fun H locs hP hD hS => ?_)
  obtain ⟨hP, hD⟩ := arl 0 (fun _ => (iI (u1.2.1 0)).toInt64) hP hD rfl (arl_2 (by omega))
  have hP : va_P D vwCl [zL ao (cy 2) 1 (fun _ => (iI (u1.2.1 0)).toInt64), zO kk 11 [vR ta, vR kr, vR kl, vI nr, vI nw, vR sA, vR dA, vR pa, vR ki, vR kp, vI im, vR wa, vR or_, vR rq], zI rq (cy 0) 4 qf, zO sA 6 [vI wi, vI ro, vR s2, vR s3, vI dr, vI dt, vR s6, vI pe, vR s8, vI gu, vI sh, vR s11, vI wo, vR s13, vI dn, vI mi, vI fl, vI tk, vI go], zI s2 (cy 0) 96 hf, zI s3 (cy 0) 96 wf] H := hP
  have hD : va_D A [zL ao (cy 2) 1 (fun _ => (iI (u1.2.1 0)).toInt64), zO kk 11 [vR ta, vR kr, vR kl, vI nr, vI nw, vR sA, vR dA, vR pa, vR ki, vR kp, vI im, vR wa, vR or_, vR rq], zI rq (cy 0) 4 qf, zO sA 6 [vI wi, vI ro, vR s2, vR s3, vI dr, vI dt, vR s6, vI pe, vR s8, vI gu, vI sh, vR s11, vI wo, vR s13, vI dn, vI mi, vI fl, vI tk, vI go], zI s2 (cy 0) 96 hf, zI s3 (cy 0) 96 wf] := hD
  refine lv_goto (tgt := 23) hx hb dL_cell_12 (by decide) ?_
  refine lv_iconst (v := iI 0) hx hb dL_cell_23 (by decide) ?_
  refine W.widen (k := 2) (n := 12) (Nat.le_of_ble_eq_true rfl) (Nat.le_of_ble_eq_true rfl) ?_
  exact W.iret (v := iI 0) hx hb hr (fun t ht hW => ⟨⟨iI 0, ((fun k => ([] : List Nat).getD k 0), (fun k => ([0, 0, (u1.2.1 0)] : List Int).getD k 0), (fun k => ([qf] : List (Nat → Int32)).getD k (fun _ => 0))), rfl, ⟨rfl, (by show (0 ≤ 0 ∧ 0 ≤ 2); show (0 : Int) ≤ 0 ∧ (0 : Int) ≤ 2; decide), (by show ((-2147483648) ≤ (u1.2.1 0) ∧ (u1.2.1 0) ≤ 2147483647); first | exact hq1_1 | omega), hq1_2⟩, by rw [ht]; exact hP.sub [1, 2, 3, 4, 5, 0] rfl, hD.sub [1, 2, 3, 4, 5, 0] (by decide) rfl⟩, hS.F ht⟩) hS.2.2 dL_cell_24
def vs_w_drain : List Cond := .codeWith yL_drain cL_drain 5 (some .int) [(0, 10, 13, 34), (0, 10, 17, 13)] :: (([.classLink RL 34 "java/util/NoSuchElementException", .classLink RL 13 "java/lang/IllegalArgumentException"] : List Cond) ++ ((wsV RL 30 RX11 yX11_drain vs_k_drain) ++ ([])))
set_option maxHeartbeats 4000000 in
set_option maxRecDepth 100000 in
theorem w_drain (l : Launch) (hl : l.stackTraces = false) (D : va_G) (cy : Nat → ClassId) (sa : Nat → Nat) (kk ta kr kl sA dA pa ki kp wa or_ rq : Nat) (nr nw im : Int) (qf : Nat → Int32) (s2 s3 s6 s8 s11 s13 : Nat) (wi ro dr dt pe gu sh wo dn mi fl tk go : Int) (df : Nat → Int32) (n k : Int) (ao : Nat) (av : Int) (sz : Nat) (hr_nr : 0 ≤ nr ∧ nr ≤ 4) (hr_nw : 0 ≤ nw ∧ nw ≤ 4) (hr_im : 0 ≤ im ∧ im ≤ 3) (hr_wi : 0 ≤ wi ∧ wi ≤ 16) (hr_ro : 0 ≤ ro ∧ ro ≤ 6) (hr_dr : 0 ≤ dr ∧ dr ≤ 14) (hr_dt : 0 ≤ dt ∧ dt ≤ 6) (hr_pe : 0 ≤ pe ∧ pe ≤ 8) (hr_gu : 0 ≤ gu ∧ gu ≤ 20) (hr_sh : 0 ≤ sh ∧ sh ≤ 2) (hr_wo : 0 ≤ wo ∧ wo ≤ 8) (hr_dn : (-2147483648) ≤ dn ∧ dn ≤ 2147483647) (hr_mi : 0 ≤ mi ∧ mi ≤ 600) (hr_fl : (-2147483648) ≤ fl ∧ fl ≤ 2147483647) (hr_tk : (-2147483648) ≤ tk ∧ tk ≤ 2147483647) (hr_go : (-2147483648) ≤ go ∧ go ≤ 2147483647) (hr_n : (-2147483648) ≤ n ∧ n ≤ 2147483647) (hr_k : (-2147483648) ≤ k ∧ k ≤ 2147483647) (hr_av : (-2147483648) ≤ av ∧ av ≤ 2147483647) (hdf : tab_ 4 14 [0, 0, 0, 0] [15, 5, 99, 16] df) : Met l yL_drain vs_w_drain ({ frames := 8, cells := 2, slots := 12, locals := 143 }) (va_Pc [vR kk, vI n, vI k, vR ao] (pcW D cy sa sz [zO kk 11 [vR ta, vR kr, vR kl, vI nr, vI nw, vR sA, vR dA, vR pa, vR ki, vR kp, vI im, vR wa, vR or_, vR rq], zI rq (cy 0) 4 qf, zO sA 6 [vI wi, vI ro, vR s2, vR s3, vI dr, vI dt, vR s6, vI pe, vR s8, vI gu, vI sh, vR s11, vI wo, vR s13, vI dn, vI mi, vI fl, vI tk, vI go], zI s6 (cy 0) 56 df, zL ao (cy 2) 1 (fun _ => (iI av).toInt64)])) (va_Qi (fun (r : Int32) (u : SV) => r = iI (u.2.1 1) ∧ (0 ≤ u.2.1 1 ∧ u.2.1 1 ≤ 2) ∧ ((-2147483648) ≤ u.2.1 2 ∧ u.2.1 2 ≤ 2147483647) ∧ tab_ 4 14 [0, 0, 0, 0] [15, 5, 99, 16] df) (fun u t => atW D (va_A [zO kk 11 [vR ta, vR kr, vR kl, vI nr, vI nw, vR sA, vR dA, vR pa, vR ki, vR kp, vI im, vR wa, vR or_, vR rq], zI rq (cy 0) 4 qf, zO sA 6 [vI wi, vI ro, vR s2, vR s3, vI dr, vI dt, vR s6, vI pe, vR s8, vI gu, vI sh, vR s11, vI wo, vR s13, vI dn, vI mi, vI fl, vI tk, vI go], zI s6 (cy 0) 56 df, zL ao (cy 2) 1 (fun _ => (iI av).toInt64)] sz) [zO kk 11 [vR ta, vR kr, vR kl, vI nr, vI nw, vR sA, vR dA, vR pa, vR ki, vR kp, vI im, vR wa, vR or_, vR rq], zI rq (cy 0) 4 (u.2.2 0), zO sA 6 [vI wi, vI ro, vR s2, vR s3, vI dr, vI dt, vR s6, vI pe, vR s8, vI gu, vI sh, vR s11, vI wo, vR s13, vI dn, vI mi, vI fl, vI tk, vI go], zI s6 (cy 0) 56 df, zL ao (cy 2) 1 (fun _ => (iI (u.2.1 2)).toInt64)] t) (va_A [zO kk 11 [vR ta, vR kr, vR kl, vI nr, vI nw, vR sA, vR dA, vR pa, vR ki, vR kp, vI im, vR wa, vR or_, vR rq], zI rq (cy 0) 4 qf, zO sA 6 [vI wi, vI ro, vR s2, vR s3, vI dr, vI dt, vR s6, vI pe, vR s8, vI gu, vI sh, vR s11, vI wo, vR s13, vI dn, vI mi, vI fl, vI tk, vI go], zI s6 (cy 0) 56 df, zL ao (cy 2) 1 (fun _ => (iI av).toInt64)] sz)) 2 12 (va_A [zO kk 11 [vR ta, vR kr, vR kl, vI nr, vI nw, vR sA, vR dA, vR pa, vR ki, vR kp, vI im, vR wa, vR or_, vR rq], zI rq (cy 0) 4 qf, zO sA 6 [vI wi, vI ro, vR s2, vR s3, vI dr, vI dt, vR s6, vI pe, vR s8, vI gu, vI sh, vR s11, vI wo, vR s13, vI dn, vI mi, vI fl, vI tk, vI go], zI s6 (cy 0) 56 df, zL ao (cy 2) 1 (fun _ => (iI av).toInt64)] sz) := by
  refine va_MetW (cc := cL_drain) (maxL := 5) (ret := (some .int)) (by decide) rfl ?_
  intro p e s m args below meth c s₁ B hml hv
  obtain ⟨rfl, hsz, hP, hG, hD0, hT⟩ := hv
  have hx := B.exec
  have hb := B.bytes
  have hr := B.returns
  have hts := atoms_spec (ws := vs_w_drain) B.pre
  have hown : s.vm.findClass RL = some m.cls := findClass_of_methodNamed B.named
  have hlocks := B.notSynchronized
  subst hsz
  have hD := hD0.self (sz := s.heap.size)
  generalize hAe : va_A [zO kk 11 [vR ta, vR kr, vR kl, vI nr, vI nw, vR sA, vR dA, vR pa, vR ki, vR kp, vI im, vR wa, vR or_, vR rq], zI rq (cy 0) 4 qf, zO sA 6 [vI wi, vI ro, vR s2, vR s3, vI dr, vI dt, vR s6, vI pe, vR s8, vI gu, vI sh, vR s11, vI wo, vR s13, vI dn, vI mi, vI fl, vI tk, vI go], zI s6 (cy 0) 56 df, zL ao (cy 2) 1 (fun _ => (iI av).toInt64)] s.heap.size = A at hD hT ⊢
  have hA : ∀ q : Nat, s.heap.size ≤ q → A q := fun q h => by rw [← hAe]; exact Or.inr h
  have hS : va_S A s.heap s.heap [] := va_S.rf
  have hl0 := lv_entry ([vR kk, vI n, vI k, vR ao]) (n := 5) (Nat.le_of_ble_eq_true rfl)
  rw [lg_entry_eq]
  generalize (lg_sl ([vR kk, vI n, vI k, vR ao]) ++ List.replicate (5 - (lg_sl ([vR kk, vI n, vI k, vR ao])).length) Slot.unset).toArray = ls at hl0 ⊢
  have hlv : lv_has ls 5 [(0, vR kk), (1, vI n), (2, vI k), (3, vR ao)] := hl0
  have gg_0 : GoodIn vs_w_drain (wsV RL 30 RX11 yX11_drain vs_k_drain) := goodIn_sub (fun w h => List.mem_cons_of_mem _ (List.mem_append_right _ (List.mem_append_left _ h))) (gd_V gd_k_drain (by decide +kernel))
  have xc34 := hts (.classLink RL 34 "java/util/NoSuchElementException") (List.mem_of_getElem? (i := 1) rfl)
  have xc13 := hts (.classLink RL 13 "java/lang/IllegalArgumentException") (List.mem_of_getElem? (i := 2) rfl)
  have htab : c.exceptionTable.toList = [(⟨0, 10, 13, 34⟩ : ExceptionTableEntry), (⟨0, 10, 17, 13⟩ : ExceptionTableEntry)] := vx_table (x := yL_drain) B (hts (.codeWith yL_drain cL_drain 5 (some .int) [(0, 10, 13, 34), (0, 10, 17, 13)]) List.mem_cons_self)
  refine lv_aload_n hx hb dL_drain_0 rfl (lv_at hlv 3 rfl) ?_
  refine lv_iconst (v := iI 0) hx hb dL_drain_1 (by decide) ?_
  refine lv_aload_n hx hb dL_drain_2 rfl (lv_at hlv 0 rfl) ?_
  refine lv_iload_n hx hb dL_drain_3 rfl (lv_at hlv 1 rfl) ?_
  refine lv_iload_n hx hb dL_drain_4 rfl (lv_at hlv 2 rfl) ?_
  refine cjx2_i (wr := [zL ao (cy 2) 1 (fun _ => (iI av).toInt64)]) (vx_runV (As := [vI n, vI k]) (rest := [vI 0, vR ao]) ⟨hx, hb, hml, hown, hts⟩ (k_drain l hl D cy sa kk ta kr kl sA dA pa ki kp wa or_ rq nr nw im qf s2 s3 s6 s8 s11 s13 wi ro dr dt pe gu sh wo dn mi fl tk go df n k s.heap.size (by first | exact hr_nr | omega) (by first | exact hr_nw | omega) (by first | exact hr_im | omega) (by first | exact hr_wi | omega) (by first | exact hr_ro | omega) (by first | exact hr_dr | omega) (by first | exact hr_dt | omega) (by first | exact hr_pe | omega) (by first | exact hr_gu | omega) (by first | exact hr_sh | omega) (by first | exact hr_wo | omega) (by first | exact hr_dn | omega) (by first | exact hr_mi | omega) (by first | exact hr_fl | omega) (by first | exact hr_tk | omega) (by first | exact hr_go | omega) (by first | exact hr_n | omega) (by first | exact hr_k | omega) hdf) (cwV 2 hts gg_0 rfl rfl rfl (by decide +kernel) ⟨Nat.le_of_ble_eq_true rfl, Nat.le_of_ble_eq_true rfl⟩) ⟨pcW.blind, (va_recv hG.1 hP (ci := 11) (q0 := 0) rfl rfl), (pcW.mk hP hD hS hA hG hT [0, 1, 2, 3] rfl (by decide))⟩ rfl rfl hlv.1 rfl (lv_room (Nat.le_of_ble_eq_true rfl)) dL_drain_5 ⟨Nat.le_of_ble_eq_true rfl, Nat.le_of_ble_eq_true rfl⟩) hP hD hS hA [0, 1, 2, 3] [4] rfl rfl (by decide) (by decide) (fun E ux1 ce q9 H locs hp hP hD hS h1 h2 h3 => ?_) (fun r1 u1 H locs hw1 hP hD hS => ?_)
  · have hP : va_P D vwCl [zL ao (cy 2) 1 (fun _ => (iI av).toInt64), zO kk 11 [vR ta, vR kr, vR kl, vI nr, vI nw, vR sA, vR dA, vR pa, vR ki, vR kp, vI im, vR wa, vR or_, vR rq], zI rq (cy 0) 4 (ux1.2.2 0), zO sA 6 [vI wi, vI ro, vR s2, vR s3, vI dr, vI dt, vR s6, vI pe, vR s8, vI gu, vI sh, vR s11, vI wo, vR s13, vI dn, vI mi, vI fl, vI tk, vI go], zI s6 (cy 0) 56 df] H := hP
    have hD : va_D A [zL ao (cy 2) 1 (fun _ => (iI av).toInt64), zO kk 11 [vR ta, vR kr, vR kl, vI nr, vI nw, vR sA, vR dA, vR pa, vR ki, vR kp, vI im, vR wa, vR or_, vR rq], zI rq (cy 0) 4 (ux1.2.2 0), zO sA 6 [vI wi, vI ro, vR s2, vR s3, vI dr, vI dt, vR s6, vI pe, vR s8, vI gu, vI sh, vR s11, vI wo, vR s13, vI dn, vI mi, vI fl, vI tk, vI go], zI s6 (cy 0) 56 df] := hD
    rcases hp with rfl | rfl
    · refine vx_catch (name := "java/util/NoSuchElementException") hown [] (⟨0, 10, 13, 34⟩ : ExceptionTableEntry) [(⟨0, 10, 17, 13⟩ : ExceptionTableEntry)] htab (fun z hz => absurd hz List.not_mem_nil) (by decide) (by decide) xc34 (va_Nw.use rfl (hG.2.2.2.1 _ (List.mem_of_getElem? (i := 1) rfl))) h1 h2 h3 ?_
      refine lv_astore (lv' := [(4, vR q9), (0, vR kk), (1, vI n), (2, vI k), (3, vR ao)]) hx hb dL_drain_13 hlv (by decide) rfl (fun ls hlv => ?_)
      refine lv_iconst (v := iI 1) hx hb dL_drain_15 (by decide) ?_
      refine W.widen (k := 2) (n := 12) (Nat.le_of_ble_eq_true rfl) (Nat.le_of_ble_eq_true rfl) ?_
      exact W.iret (v := iI 1) hx hb hr (fun t ht hW => ⟨⟨iI 1, ((fun k => ([] : List Nat).getD k 0), (fun k => ([0, 1, av] : List Int).getD k 0), (fun k => ([(ux1.2.2 0)] : List (Nat → Int32)).getD k (fun _ => 0))), rfl, ⟨rfl, (by show (0 ≤ 1 ∧ 1 ≤ 2); show (0 : Int) ≤ 1 ∧ (1 : Int) ≤ 2; decide), (by show ((-2147483648) ≤ av ∧ av ≤ 2147483647); first | exact hr_av | omega), hdf⟩, by rw [ht]; exact hP.sub [1, 2, 3, 4, 0] rfl, hD.sub [1, 2, 3, 4, 0] (by decide) rfl⟩, hS.F ht⟩) hS.2.2 dL_drain_16
    · refine vx_catch (name := "java/lang/IllegalArgumentException") hown [(⟨0, 10, 13, 34⟩ : ExceptionTableEntry)] (⟨0, 10, 17, 13⟩ : ExceptionTableEntry) [] htab (List.forall_mem_cons.mpr ⟨Or.inr ⟨by decide, "java/util/NoSuchElementException", xc34, hG.2.2.2.2.1 _ (List.mem_of_getElem? (i := 2) rfl) _ (List.mem_of_getElem? (i := 1) rfl) (by decide)⟩, fun z hz => absurd hz List.not_mem_nil⟩) (by decide) (by decide) xc13 (va_Nw.use rfl (hG.2.2.2.1 _ (List.mem_of_getElem? (i := 2) rfl))) h1 h2 h3 ?_
      refine lv_astore (lv' := [(4, vR q9), (0, vR kk), (1, vI n), (2, vI k), (3, vR ao)]) hx hb dL_drain_17 hlv (by decide) rfl (fun ls hlv => ?_)
      refine lv_iconst (v := iI 2) hx hb dL_drain_19 (by decide) ?_
      refine W.widen (k := 2) (n := 12) (Nat.le_of_ble_eq_true rfl) (Nat.le_of_ble_eq_true rfl) ?_
      exact W.iret (v := iI 2) hx hb hr (fun t ht hW => ⟨⟨iI 2, ((fun k => ([] : List Nat).getD k 0), (fun k => ([0, 2, av] : List Int).getD k 0), (fun k => ([(ux1.2.2 0)] : List (Nat → Int32)).getD k (fun _ => 0))), rfl, ⟨rfl, (by show (0 ≤ 2 ∧ 2 ≤ 2); show (0 : Int) ≤ 2 ∧ (2 : Int) ≤ 2; decide), (by show ((-2147483648) ≤ av ∧ av ≤ 2147483647); first | exact hr_av | omega), hdf⟩, by rw [ht]; exact hP.sub [1, 2, 3, 4, 0] rfl, hD.sub [1, 2, 3, 4, 0] (by decide) rfl⟩, hS.F ht⟩) hS.2.2 dL_drain_20
  obtain ⟨rfl, hq1_1, hq1_2⟩ := hw1
  have hP : va_P D vwCl [zL ao (cy 2) 1 (fun _ => (iI av).toInt64), zO kk 11 [vR ta, vR kr, vR kl, vI nr, vI nw, vR sA, vR dA, vR pa, vR ki, vR kp, vI im, vR wa, vR or_, vR rq], zI rq (cy 0) 4 qf, zO sA 6 [vI wi, vI ro, vR s2, vR s3, vI dr, vI dt, vR s6, vI pe, vR s8, vI gu, vI sh, vR s11, vI wo, vR s13, vI dn, vI mi, vI fl, vI tk, vI go], zI s6 (cy 0) 56 df] H := hP
  have hD : va_D A [zL ao (cy 2) 1 (fun _ => (iI av).toInt64), zO kk 11 [vR ta, vR kr, vR kl, vI nr, vI nw, vR sA, vR dA, vR pa, vR ki, vR kp, vI im, vR wa, vR or_, vR rq], zI rq (cy 0) 4 qf, zO sA 6 [vI wi, vI ro, vR s2, vR s3, vI dr, vI dt, vR s6, vI pe, vR s8, vI gu, vI sh, vR s11, vI wo, vR s13, vI dn, vI mi, vI fl, vI tk, vI go], zI s6 (cy 0) 56 df] := hD
  refine lv_i2l (v := jJ (u1.2.1 0)) hx hb dL_drain_8 (jJ_i (by omega)) ?_
  refine va_last hx hb hG.1 hP hD hS 0 2 rfl rfl (iI_in (by omega) (by decide)) dL_drain_9 (fun H locs hP hD hS => ?_)
  obtain ⟨hP, hD⟩ := arl 0 (fun _ => (iI (u1.2.1 0)).toInt64) hP hD rfl (arl_2 (by omega))
  have hP : va_P D vwCl [zL ao (cy 2) 1 (fun _ => (iI (u1.2.1 0)).toInt64), zO kk 11 [vR ta, vR kr, vR kl, vI nr, vI nw, vR sA, vR dA, vR pa, vR ki, vR kp, vI im, vR wa, vR or_, vR rq], zI rq (cy 0) 4 qf, zO sA 6 [vI wi, vI ro, vR s2, vR s3, vI dr, vI dt, vR s6, vI pe, vR s8, vI gu, vI sh, vR s11, vI wo, vR s13, vI dn, vI mi, vI fl, vI tk, vI go], zI s6 (cy 0) 56 df] H := hP
  have hD : va_D A [zL ao (cy 2) 1 (fun _ => (iI (u1.2.1 0)).toInt64), zO kk 11 [vR ta, vR kr, vR kl, vI nr, vI nw, vR sA, vR dA, vR pa, vR ki, vR kp, vI im, vR wa, vR or_, vR rq], zI rq (cy 0) 4 qf, zO sA 6 [vI wi, vI ro, vR s2, vR s3, vI dr, vI dt, vR s6, vI pe, vR s8, vI gu, vI sh, vR s11, vI wo, vR s13, vI dn, vI mi, vI fl, vI tk, vI go], zI s6 (cy 0) 56 df] := hD
  refine lv_goto (tgt := 21) hx hb dL_drain_10 (by decide) ?_
  refine lv_iconst (v := iI 0) hx hb dL_drain_21 (by decide) ?_
  refine W.widen (k := 2) (n := 12) (Nat.le_of_ble_eq_true rfl) (Nat.le_of_ble_eq_true rfl) ?_
  exact W.iret (v := iI 0) hx hb hr (fun t ht hW => ⟨⟨iI 0, ((fun k => ([] : List Nat).getD k 0), (fun k => ([0, 0, (u1.2.1 0)] : List Int).getD k 0), (fun k => ([qf] : List (Nat → Int32)).getD k (fun _ => 0))), rfl, ⟨rfl, (by show (0 ≤ 0 ∧ 0 ≤ 2); show (0 : Int) ≤ 0 ∧ (0 : Int) ≤ 2; decide), (by show ((-2147483648) ≤ (u1.2.1 0) ∧ (u1.2.1 0) ≤ 2147483647); first | exact hq1_1 | omega), hq1_2⟩, by rw [ht]; exact hP.sub [1, 2, 3, 4, 0] rfl, hD.sub [1, 2, 3, 4, 0] (by decide) rfl⟩, hS.F ht⟩) hS.2.2 dL_drain_22
def vs_w_leaves : List Cond := .codeWith yL_leaves cL_leaves 5 (some .int) [(0, 10, 13, 34), (0, 10, 17, 13)] :: (([.classLink RL 34 "java/util/NoSuchElementException", .classLink RL 13 "java/lang/IllegalArgumentException"] : List Cond) ++ ((wsV RL 36 RX11 yX11_leaves vs_k_leaves) ++ ([])))
set_option maxHeartbeats 4000000 in
set_option maxRecDepth 100000 in
theorem w_leaves (l : Launch) (hl : l.stackTraces = false) (D : va_G) (cy : Nat → ClassId) (sa : Nat → Nat) (kk ta kr kl sA dA pa ki kp wa or_ rq : Nat) (nr nw im : Int) (qf : Nat → Int32) (s2 s3 s6 s8 s11 s13 : Nat) (wi ro dr dt pe gu sh wo dn mi fl tk go : Int) (df : Nat → Int32) (n k : Int) (ao : Nat) (av : Int) (sz : Nat) (hr_nr : 0 ≤ nr ∧ nr ≤ 4) (hr_nw : 0 ≤ nw ∧ nw ≤ 4) (hr_im : 0 ≤ im ∧ im ≤ 3) (hr_wi : 0 ≤ wi ∧ wi ≤ 16) (hr_ro : 0 ≤ ro ∧ ro ≤ 6) (hr_dr : 0 ≤ dr ∧ dr ≤ 14) (hr_dt : 0 ≤ dt ∧ dt ≤ 6) (hr_pe : 0 ≤ pe ∧ pe ≤ 8) (hr_gu : 0 ≤ gu ∧ gu ≤ 20) (hr_sh : 0 ≤ sh ∧ sh ≤ 2) (hr_wo : 0 ≤ wo ∧ wo ≤ 8) (hr_dn : (-2147483648) ≤ dn ∧ dn ≤ 2147483647) (hr_mi : 0 ≤ mi ∧ mi ≤ 600) (hr_fl : (-2147483648) ≤ fl ∧ fl ≤ 2147483647) (hr_tk : (-2147483648) ≤ tk ∧ tk ≤ 2147483647) (hr_go : (-2147483648) ≤ go ∧ go ≤ 2147483647) (hr_n : (-2147483648) ≤ n ∧ n ≤ 2147483647) (hr_k : (-2147483648) ≤ k ∧ k ≤ 2147483647) (hr_av : (-2147483648) ≤ av ∧ av ≤ 2147483647) (hdf : tab_ 4 14 [0, 0, 0, 0] [15, 5, 99, 16] df) : Met l yL_leaves vs_w_leaves ({ frames := 8, cells := 2, slots := 12, locals := 145 }) (va_Pc [vR kk, vI n, vI k, vR ao] (pcW D cy sa sz [zO kk 11 [vR ta, vR kr, vR kl, vI nr, vI nw, vR sA, vR dA, vR pa, vR ki, vR kp, vI im, vR wa, vR or_, vR rq], zI rq (cy 0) 4 qf, zO sA 6 [vI wi, vI ro, vR s2, vR s3, vI dr, vI dt, vR s6, vI pe, vR s8, vI gu, vI sh, vR s11, vI wo, vR s13, vI dn, vI mi, vI fl, vI tk, vI go], zI s6 (cy 0) 56 df, zL ao (cy 2) 1 (fun _ => (iI av).toInt64)])) (va_Qi (fun (r : Int32) (u : SV) => r = iI (u.2.1 1) ∧ (0 ≤ u.2.1 1 ∧ u.2.1 1 ≤ 2) ∧ ((-2147483648) ≤ u.2.1 2 ∧ u.2.1 2 ≤ 2147483647) ∧ tab_ 4 14 [0, 0, 0, 0] [15, 5, 99, 16] (u.2.2 0)) (fun u t => atW D (va_A [zO kk 11 [vR ta, vR kr, vR kl, vI nr, vI nw, vR sA, vR dA, vR pa, vR ki, vR kp, vI im, vR wa, vR or_, vR rq], zI rq (cy 0) 4 qf, zO sA 6 [vI wi, vI ro, vR s2, vR s3, vI dr, vI dt, vR s6, vI pe, vR s8, vI gu, vI sh, vR s11, vI wo, vR s13, vI dn, vI mi, vI fl, vI tk, vI go], zI s6 (cy 0) 56 df, zL ao (cy 2) 1 (fun _ => (iI av).toInt64)] sz) [zO kk 11 [vR ta, vR kr, vR kl, vI nr, vI nw, vR sA, vR dA, vR pa, vR ki, vR kp, vI im, vR wa, vR or_, vR rq], zI rq (cy 0) 4 (u.2.2 1), zO sA 6 [vI wi, vI ro, vR s2, vR s3, vI dr, vI dt, vR s6, vI pe, vR s8, vI gu, vI sh, vR s11, vI wo, vR s13, vI dn, vI mi, vI fl, vI tk, vI go], zI s6 (cy 0) 56 (u.2.2 0), zL ao (cy 2) 1 (fun _ => (iI (u.2.1 2)).toInt64)] t) (va_A [zO kk 11 [vR ta, vR kr, vR kl, vI nr, vI nw, vR sA, vR dA, vR pa, vR ki, vR kp, vI im, vR wa, vR or_, vR rq], zI rq (cy 0) 4 qf, zO sA 6 [vI wi, vI ro, vR s2, vR s3, vI dr, vI dt, vR s6, vI pe, vR s8, vI gu, vI sh, vR s11, vI wo, vR s13, vI dn, vI mi, vI fl, vI tk, vI go], zI s6 (cy 0) 56 df, zL ao (cy 2) 1 (fun _ => (iI av).toInt64)] sz)) 2 12 (va_A [zO kk 11 [vR ta, vR kr, vR kl, vI nr, vI nw, vR sA, vR dA, vR pa, vR ki, vR kp, vI im, vR wa, vR or_, vR rq], zI rq (cy 0) 4 qf, zO sA 6 [vI wi, vI ro, vR s2, vR s3, vI dr, vI dt, vR s6, vI pe, vR s8, vI gu, vI sh, vR s11, vI wo, vR s13, vI dn, vI mi, vI fl, vI tk, vI go], zI s6 (cy 0) 56 df, zL ao (cy 2) 1 (fun _ => (iI av).toInt64)] sz) := by
  refine va_MetW (cc := cL_leaves) (maxL := 5) (ret := (some .int)) (by decide) rfl ?_
  intro p e s m args below meth c s₁ B hml hv
  obtain ⟨rfl, hsz, hP, hG, hD0, hT⟩ := hv
  have hx := B.exec
  have hb := B.bytes
  have hr := B.returns
  have hts := atoms_spec (ws := vs_w_leaves) B.pre
  have hown : s.vm.findClass RL = some m.cls := findClass_of_methodNamed B.named
  have hlocks := B.notSynchronized
  subst hsz
  have hD := hD0.self (sz := s.heap.size)
  generalize hAe : va_A [zO kk 11 [vR ta, vR kr, vR kl, vI nr, vI nw, vR sA, vR dA, vR pa, vR ki, vR kp, vI im, vR wa, vR or_, vR rq], zI rq (cy 0) 4 qf, zO sA 6 [vI wi, vI ro, vR s2, vR s3, vI dr, vI dt, vR s6, vI pe, vR s8, vI gu, vI sh, vR s11, vI wo, vR s13, vI dn, vI mi, vI fl, vI tk, vI go], zI s6 (cy 0) 56 df, zL ao (cy 2) 1 (fun _ => (iI av).toInt64)] s.heap.size = A at hD hT ⊢
  have hA : ∀ q : Nat, s.heap.size ≤ q → A q := fun q h => by rw [← hAe]; exact Or.inr h
  have hS : va_S A s.heap s.heap [] := va_S.rf
  have hl0 := lv_entry ([vR kk, vI n, vI k, vR ao]) (n := 5) (Nat.le_of_ble_eq_true rfl)
  rw [lg_entry_eq]
  generalize (lg_sl ([vR kk, vI n, vI k, vR ao]) ++ List.replicate (5 - (lg_sl ([vR kk, vI n, vI k, vR ao])).length) Slot.unset).toArray = ls at hl0 ⊢
  have hlv : lv_has ls 5 [(0, vR kk), (1, vI n), (2, vI k), (3, vR ao)] := hl0
  have gg_0 : GoodIn vs_w_leaves (wsV RL 36 RX11 yX11_leaves vs_k_leaves) := goodIn_sub (fun w h => List.mem_cons_of_mem _ (List.mem_append_right _ (List.mem_append_left _ h))) (gd_V gd_k_leaves (by decide +kernel))
  have xc34 := hts (.classLink RL 34 "java/util/NoSuchElementException") (List.mem_of_getElem? (i := 1) rfl)
  have xc13 := hts (.classLink RL 13 "java/lang/IllegalArgumentException") (List.mem_of_getElem? (i := 2) rfl)
  have htab : c.exceptionTable.toList = [(⟨0, 10, 13, 34⟩ : ExceptionTableEntry), (⟨0, 10, 17, 13⟩ : ExceptionTableEntry)] := vx_table (x := yL_leaves) B (hts (.codeWith yL_leaves cL_leaves 5 (some .int) [(0, 10, 13, 34), (0, 10, 17, 13)]) List.mem_cons_self)
  refine lv_aload_n hx hb dL_leaves_0 rfl (lv_at hlv 3 rfl) ?_
  refine lv_iconst (v := iI 0) hx hb dL_leaves_1 (by decide) ?_
  refine lv_aload_n hx hb dL_leaves_2 rfl (lv_at hlv 0 rfl) ?_
  refine lv_iload_n hx hb dL_leaves_3 rfl (lv_at hlv 1 rfl) ?_
  refine lv_iload_n hx hb dL_leaves_4 rfl (lv_at hlv 2 rfl) ?_
  refine cjx2_i (wr := [zL ao (cy 2) 1 (fun _ => (iI av).toInt64)]) (vx_runV (As := [vI n, vI k]) (rest := [vI 0, vR ao]) ⟨hx, hb, hml, hown, hts⟩ (k_leaves l hl D cy sa kk ta kr kl sA dA pa ki kp wa or_ rq nr nw im qf s2 s3 s6 s8 s11 s13 wi ro dr dt pe gu sh wo dn mi fl tk go df n k s.heap.size (by first | exact hr_nr | omega) (by first | exact hr_nw | omega) (by first | exact hr_im | omega) (by first | exact hr_wi | omega) (by first | exact hr_ro | omega) (by first | exact hr_dr | omega) (by first | exact hr_dt | omega) (by first | exact hr_pe | omega) (by first | exact hr_gu | omega) (by first | exact hr_sh | omega) (by first | exact hr_wo | omega) (by first | exact hr_dn | omega) (by first | exact hr_mi | omega) (by first | exact hr_fl | omega) (by first | exact hr_tk | omega) (by first | exact hr_go | omega) (by first | exact hr_n | omega) (by first | exact hr_k | omega) hdf) (cwV 2 hts gg_0 rfl rfl rfl (by decide +kernel) ⟨Nat.le_of_ble_eq_true rfl, Nat.le_of_ble_eq_true rfl⟩) ⟨pcW.blind, (va_recv hG.1 hP (ci := 11) (q0 := 0) rfl rfl), (pcW.mk hP hD hS hA hG hT [0, 1, 2, 3] rfl (by decide))⟩ rfl rfl hlv.1 rfl (lv_room (Nat.le_of_ble_eq_true rfl)) dL_leaves_5 ⟨Nat.le_of_ble_eq_true rfl, Nat.le_of_ble_eq_true rfl⟩) hP hD hS hA [0, 1, 2, 3] [4] rfl rfl (by decide) (by decide) (fun E ux1 ce q9 H locs hp hP hD hS h1 h2 h3 => ?_) (fun r1 u1 H locs hw1 hP hD hS => ?_)
  · have hP : va_P D vwCl [zL ao (cy 2) 1 (fun _ => (iI av).toInt64), zO kk 11 [vR ta, vR kr, vR kl, vI nr, vI nw, vR sA, vR dA, vR pa, vR ki, vR kp, vI im, vR wa, vR or_, vR rq], zI rq (cy 0) 4 (ux1.2.2 0), zO sA 6 [vI wi, vI ro, vR s2, vR s3, vI dr, vI dt, vR s6, vI pe, vR s8, vI gu, vI sh, vR s11, vI wo, vR s13, vI dn, vI mi, vI fl, vI tk, vI go], zI s6 (cy 0) 56 df] H := hP
    have hD : va_D A [zL ao (cy 2) 1 (fun _ => (iI av).toInt64), zO kk 11 [vR ta, vR kr, vR kl, vI nr, vI nw, vR sA, vR dA, vR pa, vR ki, vR kp, vI im, vR wa, vR or_, vR rq], zI rq (cy 0) 4 (ux1.2.2 0), zO sA 6 [vI wi, vI ro, vR s2, vR s3, vI dr, vI dt, vR s6, vI pe, vR s8, vI gu, vI sh, vR s11, vI wo, vR s13, vI dn, vI mi, vI fl, vI tk, vI go], zI s6 (cy 0) 56 df] := hD
    rcases hp with rfl | rfl
    · refine vx_catch (name := "java/util/NoSuchElementException") hown [] (⟨0, 10, 13, 34⟩ : ExceptionTableEntry) [(⟨0, 10, 17, 13⟩ : ExceptionTableEntry)] htab (fun z hz => absurd hz List.not_mem_nil) (by decide) (by decide) xc34 (va_Nw.use rfl (hG.2.2.2.1 _ (List.mem_of_getElem? (i := 1) rfl))) h1 h2 h3 ?_
      refine lv_astore (lv' := [(4, vR q9), (0, vR kk), (1, vI n), (2, vI k), (3, vR ao)]) hx hb dL_leaves_13 hlv (by decide) rfl (fun ls hlv => ?_)
      refine lv_iconst (v := iI 1) hx hb dL_leaves_15 (by decide) ?_
      refine W.widen (k := 2) (n := 12) (Nat.le_of_ble_eq_true rfl) (Nat.le_of_ble_eq_true rfl) ?_
      exact W.iret (v := iI 1) hx hb hr (fun t ht hW => ⟨⟨iI 1, ((fun k => ([] : List Nat).getD k 0), (fun k => ([0, 1, av] : List Int).getD k 0), (fun k => ([df, (ux1.2.2 0)] : List (Nat → Int32)).getD k (fun _ => 0))), rfl, ⟨rfl, (by show (0 ≤ 1 ∧ 1 ≤ 2); show (0 : Int) ≤ 1 ∧ (1 : Int) ≤ 2; decide), (by show ((-2147483648) ≤ av ∧ av ≤ 2147483647); first | exact hr_av | omega), hdf⟩, by rw [ht]; exact hP.sub [1, 2, 3, 4, 0] rfl, hD.sub [1, 2, 3, 4, 0] (by decide) rfl⟩, hS.F ht⟩) hS.2.2 dL_leaves_16
    · refine vx_catch (name := "java/lang/IllegalArgumentException") hown [(⟨0, 10, 13, 34⟩ : ExceptionTableEntry)] (⟨0, 10, 17, 13⟩ : ExceptionTableEntry) [] htab (List.forall_mem_cons.mpr ⟨Or.inr ⟨by decide, "java/util/NoSuchElementException", xc34, hG.2.2.2.2.1 _ (List.mem_of_getElem? (i := 2) rfl) _ (List.mem_of_getElem? (i := 1) rfl) (by decide)⟩, fun z hz => absurd hz List.not_mem_nil⟩) (by decide) (by decide) xc13 (va_Nw.use rfl (hG.2.2.2.1 _ (List.mem_of_getElem? (i := 2) rfl))) h1 h2 h3 ?_
      refine lv_astore (lv' := [(4, vR q9), (0, vR kk), (1, vI n), (2, vI k), (3, vR ao)]) hx hb dL_leaves_17 hlv (by decide) rfl (fun ls hlv => ?_)
      refine lv_iconst (v := iI 2) hx hb dL_leaves_19 (by decide) ?_
      refine W.widen (k := 2) (n := 12) (Nat.le_of_ble_eq_true rfl) (Nat.le_of_ble_eq_true rfl) ?_
      exact W.iret (v := iI 2) hx hb hr (fun t ht hW => ⟨⟨iI 2, ((fun k => ([] : List Nat).getD k 0), (fun k => ([0, 2, av] : List Int).getD k 0), (fun k => ([df, (ux1.2.2 0)] : List (Nat → Int32)).getD k (fun _ => 0))), rfl, ⟨rfl, (by show (0 ≤ 2 ∧ 2 ≤ 2); show (0 : Int) ≤ 2 ∧ (2 : Int) ≤ 2; decide), (by show ((-2147483648) ≤ av ∧ av ≤ 2147483647); first | exact hr_av | omega), hdf⟩, by rw [ht]; exact hP.sub [1, 2, 3, 4, 0] rfl, hD.sub [1, 2, 3, 4, 0] (by decide) rfl⟩, hS.F ht⟩) hS.2.2 dL_leaves_20
  obtain ⟨rfl, hq1_1, hq1_2⟩ := hw1
  have hP : va_P D vwCl [zL ao (cy 2) 1 (fun _ => (iI av).toInt64), zO kk 11 [vR ta, vR kr, vR kl, vI nr, vI nw, vR sA, vR dA, vR pa, vR ki, vR kp, vI im, vR wa, vR or_, vR rq], zI rq (cy 0) 4 qf, zO sA 6 [vI wi, vI ro, vR s2, vR s3, vI dr, vI dt, vR s6, vI pe, vR s8, vI gu, vI sh, vR s11, vI wo, vR s13, vI dn, vI mi, vI fl, vI tk, vI go], zI s6 (cy 0) 56 (u1.2.2 0)] H := hP
  have hD : va_D A [zL ao (cy 2) 1 (fun _ => (iI av).toInt64), zO kk 11 [vR ta, vR kr, vR kl, vI nr, vI nw, vR sA, vR dA, vR pa, vR ki, vR kp, vI im, vR wa, vR or_, vR rq], zI rq (cy 0) 4 qf, zO sA 6 [vI wi, vI ro, vR s2, vR s3, vI dr, vI dt, vR s6, vI pe, vR s8, vI gu, vI sh, vR s11, vI wo, vR s13, vI dn, vI mi, vI fl, vI tk, vI go], zI s6 (cy 0) 56 (u1.2.2 0)] := hD
  refine lv_i2l (v := jJ (u1.2.1 0)) hx hb dL_leaves_8 (jJ_i (by omega)) ?_
  refine va_last hx hb hG.1 hP hD hS 0 2 rfl rfl (iI_in (by omega) (by decide)) dL_leaves_9 (fun H locs hP hD hS => ?_)
  obtain ⟨hP, hD⟩ := arl 0 (fun _ => (iI (u1.2.1 0)).toInt64) hP hD rfl (arl_2 (by omega))
  have hP : va_P D vwCl [zL ao (cy 2) 1 (fun _ => (iI (u1.2.1 0)).toInt64), zO kk 11 [vR ta, vR kr, vR kl, vI nr, vI nw, vR sA, vR dA, vR pa, vR ki, vR kp, vI im, vR wa, vR or_, vR rq], zI rq (cy 0) 4 qf, zO sA 6 [vI wi, vI ro, vR s2, vR s3, vI dr, vI dt, vR s6, vI pe, vR s8, vI gu, vI sh, vR s11, vI wo, vR s13, vI dn, vI mi, vI fl, vI tk, vI go], zI s6 (cy 0) 56 (u1.2.2 0)] H := hP
  have hD : va_D A [zL ao (cy 2) 1 (fun _ => (iI (u1.2.1 0)).toInt64), zO kk 11 [vR ta, vR kr, vR kl, vI nr, vI nw, vR sA, vR dA, vR pa, vR ki, vR kp, vI im, vR wa, vR or_, vR rq], zI rq (cy 0) 4 qf, zO sA 6 [vI wi, vI ro, vR s2, vR s3, vI dr, vI dt, vR s6, vI pe, vR s8, vI gu, vI sh, vR s11, vI wo, vR s13, vI dn, vI mi, vI fl, vI tk, vI go], zI s6 (cy 0) 56 (u1.2.2 0)] := hD
  refine lv_goto (tgt := 21) hx hb dL_leaves_10 (by decide) ?_
  refine lv_iconst (v := iI 0) hx hb dL_leaves_21 (by decide) ?_
  refine W.widen (k := 2) (n := 12) (Nat.le_of_ble_eq_true rfl) (Nat.le_of_ble_eq_true rfl) ?_
  exact W.iret (v := iI 0) hx hb hr (fun t ht hW => ⟨⟨iI 0, ((fun k => ([] : List Nat).getD k 0), (fun k => ([0, 0, (u1.2.1 0)] : List Int).getD k 0), (fun k => ([(u1.2.2 0), qf] : List (Nat → Int32)).getD k (fun _ => 0))), rfl, ⟨rfl, (by show (0 ≤ 0 ∧ 0 ≤ 2); show (0 : Int) ≤ 0 ∧ (0 : Int) ≤ 2; decide), (by show ((-2147483648) ≤ (u1.2.1 0) ∧ (u1.2.1 0) ≤ 2147483647); first | exact hq1_1 | omega), hq1_2⟩, by rw [ht]; exact hP.sub [1, 2, 3, 4, 0] rfl, hD.sub [1, 2, 3, 4, 0] (by decide) rfl⟩, hS.F ht⟩) hS.2.2 dL_leaves_22
def vs_w_person : List Cond := .codeWith yL_person cL_person 5 (some .int) [(0, 10, 13, 34), (0, 10, 17, 13)] :: (([.classLink RL 34 "java/util/NoSuchElementException", .classLink RL 13 "java/lang/IllegalArgumentException"] : List Cond) ++ ((wsV RL 39 RX11 yX11_person vs_k_person) ++ ([])))
set_option maxHeartbeats 4000000 in
set_option maxRecDepth 100000 in
theorem w_person (l : Launch) (hl : l.stackTraces = false) (D : va_G) (cy : Nat → ClassId) (sa : Nat → Nat) (kk ta kr kl sA dA pa ki kp wa or_ rq : Nat) (nr nw im : Int) (qf : Nat → Int32) (s2 s3 s6 s8 s11 s13 : Nat) (wi ro dr dt pe gu sh wo dn mi fl tk go : Int) (pf : Nat → Int32) (n k : Int) (ao : Nat) (av : Int) (sz : Nat) (hr_nr : 0 ≤ nr ∧ nr ≤ 4) (hr_nw : 0 ≤ nw ∧ nw ≤ 4) (hr_im : 0 ≤ im ∧ im ≤ 3) (hr_wi : 0 ≤ wi ∧ wi ≤ 16) (hr_ro : 0 ≤ ro ∧ ro ≤ 6) (hr_dr : 0 ≤ dr ∧ dr ≤ 14) (hr_dt : 0 ≤ dt ∧ dt ≤ 6) (hr_pe : 0 ≤ pe ∧ pe ≤ 8) (hr_gu : 0 ≤ gu ∧ gu ≤ 20) (hr_sh : 0 ≤ sh ∧ sh ≤ 2) (hr_wo : 0 ≤ wo ∧ wo ≤ 8) (hr_dn : (-2147483648) ≤ dn ∧ dn ≤ 2147483647) (hr_mi : 0 ≤ mi ∧ mi ≤ 600) (hr_fl : (-2147483648) ≤ fl ∧ fl ≤ 2147483647) (hr_tk : (-2147483648) ≤ tk ∧ tk ≤ 2147483647) (hr_go : (-2147483648) ≤ go ∧ go ≤ 2147483647) (hr_n : (-2147483648) ≤ n ∧ n ≤ 2147483647) (hr_k : (-2147483648) ≤ k ∧ k ≤ 2147483647) (hr_av : (-2147483648) ≤ av ∧ av ≤ 2147483647) (hpf : tab_ 4 28 [0, 0, (-2147483648), (-2147483648)] [15, 19, 2147483647, 2147483647] pf) : Met l yL_person vs_w_person ({ frames := 8, cells := 2, slots := 12, locals := 143 }) (va_Pc [vR kk, vI n, vI k, vR ao] (pcW D cy sa sz [zO kk 11 [vR ta, vR kr, vR kl, vI nr, vI nw, vR sA, vR dA, vR pa, vR ki, vR kp, vI im, vR wa, vR or_, vR rq], zI rq (cy 0) 4 qf, zO sA 6 [vI wi, vI ro, vR s2, vR s3, vI dr, vI dt, vR s6, vI pe, vR s8, vI gu, vI sh, vR s11, vI wo, vR s13, vI dn, vI mi, vI fl, vI tk, vI go], zI s8 (cy 0) 112 pf, zL ao (cy 2) 1 (fun _ => (iI av).toInt64)])) (va_Qi (fun (r : Int32) (u : SV) => r = iI (u.2.1 1) ∧ (0 ≤ u.2.1 1 ∧ u.2.1 1 ≤ 2) ∧ ((-2147483648) ≤ u.2.1 2 ∧ u.2.1 2 ≤ 2147483647) ∧ tab_ 4 28 [0, 0, (-2147483648), (-2147483648)] [15, 19, 2147483647, 2147483647] pf) (fun u t => atW D (va_A [zO kk 11 [vR ta, vR kr, vR kl, vI nr, vI nw, vR sA, vR dA, vR pa, vR ki, vR kp, vI im, vR wa, vR or_, vR rq], zI rq (cy 0) 4 qf, zO sA 6 [vI wi, vI ro, vR s2, vR s3, vI dr, vI dt, vR s6, vI pe, vR s8, vI gu, vI sh, vR s11, vI wo, vR s13, vI dn, vI mi, vI fl, vI tk, vI go], zI s8 (cy 0) 112 pf, zL ao (cy 2) 1 (fun _ => (iI av).toInt64)] sz) [zO kk 11 [vR ta, vR kr, vR kl, vI nr, vI nw, vR sA, vR dA, vR pa, vR ki, vR kp, vI im, vR wa, vR or_, vR rq], zI rq (cy 0) 4 (u.2.2 0), zO sA 6 [vI wi, vI ro, vR s2, vR s3, vI dr, vI dt, vR s6, vI pe, vR s8, vI gu, vI sh, vR s11, vI wo, vR s13, vI dn, vI mi, vI fl, vI tk, vI go], zI s8 (cy 0) 112 pf, zL ao (cy 2) 1 (fun _ => (iI (u.2.1 2)).toInt64)] t) (va_A [zO kk 11 [vR ta, vR kr, vR kl, vI nr, vI nw, vR sA, vR dA, vR pa, vR ki, vR kp, vI im, vR wa, vR or_, vR rq], zI rq (cy 0) 4 qf, zO sA 6 [vI wi, vI ro, vR s2, vR s3, vI dr, vI dt, vR s6, vI pe, vR s8, vI gu, vI sh, vR s11, vI wo, vR s13, vI dn, vI mi, vI fl, vI tk, vI go], zI s8 (cy 0) 112 pf, zL ao (cy 2) 1 (fun _ => (iI av).toInt64)] sz)) 2 12 (va_A [zO kk 11 [vR ta, vR kr, vR kl, vI nr, vI nw, vR sA, vR dA, vR pa, vR ki, vR kp, vI im, vR wa, vR or_, vR rq], zI rq (cy 0) 4 qf, zO sA 6 [vI wi, vI ro, vR s2, vR s3, vI dr, vI dt, vR s6, vI pe, vR s8, vI gu, vI sh, vR s11, vI wo, vR s13, vI dn, vI mi, vI fl, vI tk, vI go], zI s8 (cy 0) 112 pf, zL ao (cy 2) 1 (fun _ => (iI av).toInt64)] sz) := by
  refine va_MetW (cc := cL_person) (maxL := 5) (ret := (some .int)) (by decide) rfl ?_
  intro p e s m args below meth c s₁ B hml hv
  obtain ⟨rfl, hsz, hP, hG, hD0, hT⟩ := hv
  have hx := B.exec
  have hb := B.bytes
  have hr := B.returns
  have hts := atoms_spec (ws := vs_w_person) B.pre
  have hown : s.vm.findClass RL = some m.cls := findClass_of_methodNamed B.named
  have hlocks := B.notSynchronized
  subst hsz
  have hD := hD0.self (sz := s.heap.size)
  generalize hAe : va_A [zO kk 11 [vR ta, vR kr, vR kl, vI nr, vI nw, vR sA, vR dA, vR pa, vR ki, vR kp, vI im, vR wa, vR or_, vR rq], zI rq (cy 0) 4 qf, zO sA 6 [vI wi, vI ro, vR s2, vR s3, vI dr, vI dt, vR s6, vI pe, vR s8, vI gu, vI sh, vR s11, vI wo, vR s13, vI dn, vI mi, vI fl, vI tk, vI go], zI s8 (cy 0) 112 pf, zL ao (cy 2) 1 (fun _ => (iI av).toInt64)] s.heap.size = A at hD hT ⊢
  have hA : ∀ q : Nat, s.heap.size ≤ q → A q := fun q h => by rw [← hAe]; exact Or.inr h
  have hS : va_S A s.heap s.heap [] := va_S.rf
  have hl0 := lv_entry ([vR kk, vI n, vI k, vR ao]) (n := 5) (Nat.le_of_ble_eq_true rfl)
  rw [lg_entry_eq]
  generalize (lg_sl ([vR kk, vI n, vI k, vR ao]) ++ List.replicate (5 - (lg_sl ([vR kk, vI n, vI k, vR ao])).length) Slot.unset).toArray = ls at hl0 ⊢
  have hlv : lv_has ls 5 [(0, vR kk), (1, vI n), (2, vI k), (3, vR ao)] := hl0
  have gg_0 : GoodIn vs_w_person (wsV RL 39 RX11 yX11_person vs_k_person) := goodIn_sub (fun w h => List.mem_cons_of_mem _ (List.mem_append_right _ (List.mem_append_left _ h))) (gd_V gd_k_person (by decide +kernel))
  have xc34 := hts (.classLink RL 34 "java/util/NoSuchElementException") (List.mem_of_getElem? (i := 1) rfl)
  have xc13 := hts (.classLink RL 13 "java/lang/IllegalArgumentException") (List.mem_of_getElem? (i := 2) rfl)
  have htab : c.exceptionTable.toList = [(⟨0, 10, 13, 34⟩ : ExceptionTableEntry), (⟨0, 10, 17, 13⟩ : ExceptionTableEntry)] := vx_table (x := yL_person) B (hts (.codeWith yL_person cL_person 5 (some .int) [(0, 10, 13, 34), (0, 10, 17, 13)]) List.mem_cons_self)
  refine lv_aload_n hx hb dL_person_0 rfl (lv_at hlv 3 rfl) ?_
  refine lv_iconst (v := iI 0) hx hb dL_person_1 (by decide) ?_
  refine lv_aload_n hx hb dL_person_2 rfl (lv_at hlv 0 rfl) ?_
  refine lv_iload_n hx hb dL_person_3 rfl (lv_at hlv 1 rfl) ?_
  refine lv_iload_n hx hb dL_person_4 rfl (lv_at hlv 2 rfl) ?_
  refine cjx2_i (wr := [zL ao (cy 2) 1 (fun _ => (iI av).toInt64)]) (vx_runV (As := [vI n, vI k]) (rest := [vI 0, vR ao]) ⟨hx, hb, hml, hown, hts⟩ (k_person l hl D cy sa kk ta kr kl sA dA pa ki kp wa or_ rq nr nw im qf s2 s3 s6 s8 s11 s13 wi ro dr dt pe gu sh wo dn mi fl tk go pf n k s.heap.size (by first | exact hr_nr | omega) (by first | exact hr_nw | omega) (by first | exact hr_im | omega) (by first | exact hr_wi | omega) (by first | exact hr_ro | omega) (by first | exact hr_dr | omega) (by first | exact hr_dt | omega) (by first | exact hr_pe | omega) (by first | exact hr_gu | omega) (by first | exact hr_sh | omega) (by first | exact hr_wo | omega) (by first | exact hr_dn | omega) (by first | exact hr_mi | omega) (by first | exact hr_fl | omega) (by first | exact hr_tk | omega) (by first | exact hr_go | omega) (by first | exact hr_n | omega) (by first | exact hr_k | omega) hpf) (cwV 2 hts gg_0 rfl rfl rfl (by decide +kernel) ⟨Nat.le_of_ble_eq_true rfl, Nat.le_of_ble_eq_true rfl⟩) ⟨pcW.blind, (va_recv hG.1 hP (ci := 11) (q0 := 0) rfl rfl), (pcW.mk hP hD hS hA hG hT [0, 1, 2, 3] rfl (by decide))⟩ rfl rfl hlv.1 rfl (lv_room (Nat.le_of_ble_eq_true rfl)) dL_person_5 ⟨Nat.le_of_ble_eq_true rfl, Nat.le_of_ble_eq_true rfl⟩) hP hD hS hA [0, 1, 2, 3] [4] rfl rfl (by decide) (by decide) (fun E ux1 ce q9 H locs hp hP hD hS h1 h2 h3 => ?_) (fun r1 u1 H locs hw1 hP hD hS => ?_)
  · have hP : va_P D vwCl [zL ao (cy 2) 1 (fun _ => (iI av).toInt64), zO kk 11 [vR ta, vR kr, vR kl, vI nr, vI nw, vR sA, vR dA, vR pa, vR ki, vR kp, vI im, vR wa, vR or_, vR rq], zI rq (cy 0) 4 (ux1.2.2 0), zO sA 6 [vI wi, vI ro, vR s2, vR s3, vI dr, vI dt, vR s6, vI pe, vR s8, vI gu, vI sh, vR s11, vI wo, vR s13, vI dn, vI mi, vI fl, vI tk, vI go], zI s8 (cy 0) 112 pf] H := hP
    have hD : va_D A [zL ao (cy 2) 1 (fun _ => (iI av).toInt64), zO kk 11 [vR ta, vR kr, vR kl, vI nr, vI nw, vR sA, vR dA, vR pa, vR ki, vR kp, vI im, vR wa, vR or_, vR rq], zI rq (cy 0) 4 (ux1.2.2 0), zO sA 6 [vI wi, vI ro, vR s2, vR s3, vI dr, vI dt, vR s6, vI pe, vR s8, vI gu, vI sh, vR s11, vI wo, vR s13, vI dn, vI mi, vI fl, vI tk, vI go], zI s8 (cy 0) 112 pf] := hD
    rcases hp with rfl | rfl
    · refine vx_catch (name := "java/util/NoSuchElementException") hown [] (⟨0, 10, 13, 34⟩ : ExceptionTableEntry) [(⟨0, 10, 17, 13⟩ : ExceptionTableEntry)] htab (fun z hz => absurd hz List.not_mem_nil) (by decide) (by decide) xc34 (va_Nw.use rfl (hG.2.2.2.1 _ (List.mem_of_getElem? (i := 1) rfl))) h1 h2 h3 ?_
      refine lv_astore (lv' := [(4, vR q9), (0, vR kk), (1, vI n), (2, vI k), (3, vR ao)]) hx hb dL_person_13 hlv (by decide) rfl (fun ls hlv => ?_)
      refine lv_iconst (v := iI 1) hx hb dL_person_15 (by decide) ?_
      refine W.widen (k := 2) (n := 12) (Nat.le_of_ble_eq_true rfl) (Nat.le_of_ble_eq_true rfl) ?_
      exact W.iret (v := iI 1) hx hb hr (fun t ht hW => ⟨⟨iI 1, ((fun k => ([] : List Nat).getD k 0), (fun k => ([0, 1, av] : List Int).getD k 0), (fun k => ([(ux1.2.2 0)] : List (Nat → Int32)).getD k (fun _ => 0))), rfl, ⟨rfl, (by show (0 ≤ 1 ∧ 1 ≤ 2); show (0 : Int) ≤ 1 ∧ (1 : Int) ≤ 2; decide), (by show ((-2147483648) ≤ av ∧ av ≤ 2147483647); first | exact hr_av | omega), hpf⟩, by rw [ht]; exact hP.sub [1, 2, 3, 4, 0] rfl, hD.sub [1, 2, 3, 4, 0] (by decide) rfl⟩, hS.F ht⟩) hS.2.2 dL_person_16
    · refine vx_catch (name := "java/lang/IllegalArgumentException") hown [(⟨0, 10, 13, 34⟩ : ExceptionTableEntry)] (⟨0, 10, 17, 13⟩ : ExceptionTableEntry) [] htab (List.forall_mem_cons.mpr ⟨Or.inr ⟨by decide, "java/util/NoSuchElementException", xc34, hG.2.2.2.2.1 _ (List.mem_of_getElem? (i := 2) rfl) _ (List.mem_of_getElem? (i := 1) rfl) (by decide)⟩, fun z hz => absurd hz List.not_mem_nil⟩) (by decide) (by decide) xc13 (va_Nw.use rfl (hG.2.2.2.1 _ (List.mem_of_getElem? (i := 2) rfl))) h1 h2 h3 ?_
      refine lv_astore (lv' := [(4, vR q9), (0, vR kk), (1, vI n), (2, vI k), (3, vR ao)]) hx hb dL_person_17 hlv (by decide) rfl (fun ls hlv => ?_)
      refine lv_iconst (v := iI 2) hx hb dL_person_19 (by decide) ?_
      refine W.widen (k := 2) (n := 12) (Nat.le_of_ble_eq_true rfl) (Nat.le_of_ble_eq_true rfl) ?_
      exact W.iret (v := iI 2) hx hb hr (fun t ht hW => ⟨⟨iI 2, ((fun k => ([] : List Nat).getD k 0), (fun k => ([0, 2, av] : List Int).getD k 0), (fun k => ([(ux1.2.2 0)] : List (Nat → Int32)).getD k (fun _ => 0))), rfl, ⟨rfl, (by show (0 ≤ 2 ∧ 2 ≤ 2); show (0 : Int) ≤ 2 ∧ (2 : Int) ≤ 2; decide), (by show ((-2147483648) ≤ av ∧ av ≤ 2147483647); first | exact hr_av | omega), hpf⟩, by rw [ht]; exact hP.sub [1, 2, 3, 4, 0] rfl, hD.sub [1, 2, 3, 4, 0] (by decide) rfl⟩, hS.F ht⟩) hS.2.2 dL_person_20
  obtain ⟨rfl, hq1_1, hq1_2⟩ := hw1
  have hP : va_P D vwCl [zL ao (cy 2) 1 (fun _ => (iI av).toInt64), zO kk 11 [vR ta, vR kr, vR kl, vI nr, vI nw, vR sA, vR dA, vR pa, vR ki, vR kp, vI im, vR wa, vR or_, vR rq], zI rq (cy 0) 4 qf, zO sA 6 [vI wi, vI ro, vR s2, vR s3, vI dr, vI dt, vR s6, vI pe, vR s8, vI gu, vI sh, vR s11, vI wo, vR s13, vI dn, vI mi, vI fl, vI tk, vI go], zI s8 (cy 0) 112 pf] H := hP
  have hD : va_D A [zL ao (cy 2) 1 (fun _ => (iI av).toInt64), zO kk 11 [vR ta, vR kr, vR kl, vI nr, vI nw, vR sA, vR dA, vR pa, vR ki, vR kp, vI im, vR wa, vR or_, vR rq], zI rq (cy 0) 4 qf, zO sA 6 [vI wi, vI ro, vR s2, vR s3, vI dr, vI dt, vR s6, vI pe, vR s8, vI gu, vI sh, vR s11, vI wo, vR s13, vI dn, vI mi, vI fl, vI tk, vI go], zI s8 (cy 0) 112 pf] := hD
  refine lv_i2l (v := jJ (u1.2.1 0)) hx hb dL_person_8 (jJ_i (by omega)) ?_
  refine va_last hx hb hG.1 hP hD hS 0 2 rfl rfl (iI_in (by omega) (by decide)) dL_person_9 (fun H locs hP hD hS => ?_)
  obtain ⟨hP, hD⟩ := arl 0 (fun _ => (iI (u1.2.1 0)).toInt64) hP hD rfl (arl_2 (by omega))
  have hP : va_P D vwCl [zL ao (cy 2) 1 (fun _ => (iI (u1.2.1 0)).toInt64), zO kk 11 [vR ta, vR kr, vR kl, vI nr, vI nw, vR sA, vR dA, vR pa, vR ki, vR kp, vI im, vR wa, vR or_, vR rq], zI rq (cy 0) 4 qf, zO sA 6 [vI wi, vI ro, vR s2, vR s3, vI dr, vI dt, vR s6, vI pe, vR s8, vI gu, vI sh, vR s11, vI wo, vR s13, vI dn, vI mi, vI fl, vI tk, vI go], zI s8 (cy 0) 112 pf] H := hP
  have hD : va_D A [zL ao (cy 2) 1 (fun _ => (iI (u1.2.1 0)).toInt64), zO kk 11 [vR ta, vR kr, vR kl, vI nr, vI nw, vR sA, vR dA, vR pa, vR ki, vR kp, vI im, vR wa, vR or_, vR rq], zI rq (cy 0) 4 qf, zO sA 6 [vI wi, vI ro, vR s2, vR s3, vI dr, vI dt, vR s6, vI pe, vR s8, vI gu, vI sh, vR s11, vI wo, vR s13, vI dn, vI mi, vI fl, vI tk, vI go], zI s8 (cy 0) 112 pf] := hD
  refine lv_goto (tgt := 21) hx hb dL_person_10 (by decide) ?_
  refine lv_iconst (v := iI 0) hx hb dL_person_21 (by decide) ?_
  refine W.widen (k := 2) (n := 12) (Nat.le_of_ble_eq_true rfl) (Nat.le_of_ble_eq_true rfl) ?_
  exact W.iret (v := iI 0) hx hb hr (fun t ht hW => ⟨⟨iI 0, ((fun k => ([] : List Nat).getD k 0), (fun k => ([0, 0, (u1.2.1 0)] : List Int).getD k 0), (fun k => ([qf] : List (Nat → Int32)).getD k (fun _ => 0))), rfl, ⟨rfl, (by show (0 ≤ 0 ∧ 0 ≤ 2); show (0 : Int) ≤ 0 ∧ (0 : Int) ≤ 2; decide), (by show ((-2147483648) ≤ (u1.2.1 0) ∧ (u1.2.1 0) ≤ 2147483647); first | exact hq1_1 | omega), hq1_2⟩, by rw [ht]; exact hP.sub [1, 2, 3, 4, 0] rfl, hD.sub [1, 2, 3, 4, 0] (by decide) rfl⟩, hS.F ht⟩) hS.2.2 dL_person_22
def vs_w_does : List Cond := .codeWith yL_does cL_does 4 (some .int) [(0, 9, 12, 34)] :: (([.classLink RL 34 "java/util/NoSuchElementException"] : List Cond) ++ ((wsV RL 45 RX11 yX11_does vs_k_does) ++ ([])))
set_option maxHeartbeats 4000000 in
set_option maxRecDepth 100000 in
theorem w_does (l : Launch) (hl : l.stackTraces = false) (D : va_G) (cy : Nat → ClassId) (sa : Nat → Nat) (kk ta kr kl sA dA pa ki kp wa or_ rq : Nat) (nr nw im : Int) (qf : Nat → Int32) (s2 s3 s6 s8 s11 s13 : Nat) (wi ro dr dt pe gu sh wo dn mi fl tk go : Int) (hf df kf : Nat → Int32) (n : Int) (ao : Nat) (av : Int) (sz : Nat) (hr_nr : 0 ≤ nr ∧ nr ≤ 4) (hr_nw : 0 ≤ nw ∧ nw ≤ 4) (hr_im : 0 ≤ im ∧ im ≤ 3) (hr_wi : 0 ≤ wi ∧ wi ≤ 16) (hr_ro : 0 ≤ ro ∧ ro ≤ 6) (hr_dr : 0 ≤ dr ∧ dr ≤ 14) (hr_dt : 0 ≤ dt ∧ dt ≤ 6) (hr_pe : 0 ≤ pe ∧ pe ≤ 8) (hr_gu : 0 ≤ gu ∧ gu ≤ 20) (hr_sh : 0 ≤ sh ∧ sh ≤ 2) (hr_wo : 0 ≤ wo ∧ wo ≤ 8) (hr_dn : (-2147483648) ≤ dn ∧ dn ≤ 2147483647) (hr_mi : 0 ≤ mi ∧ mi ≤ 600) (hr_fl : (-2147483648) ≤ fl ∧ fl ≤ 2147483647) (hr_tk : (-2147483648) ≤ tk ∧ tk ≤ 2147483647) (hr_go : (-2147483648) ≤ go ∧ go ≤ 2147483647) (hr_n : (-2147483648) ≤ n ∧ n ≤ 2147483647) (hr_av : (-2147483648) ≤ av ∧ av ≤ 2147483647) (hhf : inv_ 96 0 99 hf) (hdf : tab_ 4 14 [0, 0, 0, 0] [15, 5, 99, 16] df) (hkf : tw_ kf) : Met l yL_does vs_w_does ({ frames := 8, cells := 1, slots := 6, locals := 142 }) (va_Pc [vR kk, vI n, vR ao] (pcW D cy sa sz [zO kk 11 [vR ta, vR kr, vR kl, vI nr, vI nw, vR sA, vR dA, vR pa, vR ki, vR kp, vI im, vR wa, vR or_, vR rq], zI rq (cy 0) 4 qf, zO sA 6 [vI wi, vI ro, vR s2, vR s3, vI dr, vI dt, vR s6, vI pe, vR s8, vI gu, vI sh, vR s11, vI wo, vR s13, vI dn, vI mi, vI fl, vI tk, vI go], zI s2 (cy 0) 96 hf, zI s6 (cy 0) 56 df, zI s13 (cy 0) 40 kf, zL ao (cy 2) 1 (fun _ => (iI av).toInt64)])) (va_Qi (fun (r : Int32) (u : SV) => r = iI (u.2.1 3) ∧ (0 ≤ u.2.1 1 ∧ u.2.1 1 ≤ 14) ∧ ((-2147483648) ≤ u.2.1 2 ∧ u.2.1 2 ≤ 2147483647) ∧ (0 ≤ u.2.1 3 ∧ u.2.1 3 ≤ 1) ∧ ((-2147483648) ≤ u.2.1 4 ∧ u.2.1 4 ≤ 2147483647) ∧ inv_ 96 0 99 (u.2.2 0) ∧ tab_ 4 14 [0, 0, 0, 0] [15, 5, 99, 16] (u.2.2 1) ∧ tw_ kf) (fun u t => atW D (va_A [zO kk 11 [vR ta, vR kr, vR kl, vI nr, vI nw, vR sA, vR dA, vR pa, vR ki, vR kp, vI im, vR wa, vR or_, vR rq], zI rq (cy 0) 4 qf, zO sA 6 [vI wi, vI ro, vR s2, vR s3, vI dr, vI dt, vR s6, vI pe, vR s8, vI gu, vI sh, vR s11, vI wo, vR s13, vI dn, vI mi, vI fl, vI tk, vI go], zI s2 (cy 0) 96 hf, zI s6 (cy 0) 56 df, zI s13 (cy 0) 40 kf, zL ao (cy 2) 1 (fun _ => (iI av).toInt64)] sz) [zO kk 11 [vR ta, vR kr, vR kl, vI nr, vI nw, vR sA, vR dA, vR pa, vR ki, vR kp, vI im, vR wa, vR or_, vR rq], zI rq (cy 0) 4 (u.2.2 2), zO sA 6 [vI wi, vI ro, vR s2, vR s3, vI (u.2.1 1), vI dt, vR s6, vI pe, vR s8, vI gu, vI sh, vR s11, vI wo, vR s13, vI (u.2.1 2), vI mi, vI fl, vI tk, vI go], zI s2 (cy 0) 96 (u.2.2 0), zI s6 (cy 0) 56 (u.2.2 1), zI s13 (cy 0) 40 kf, zL ao (cy 2) 1 (fun _ => (iI (u.2.1 4)).toInt64)] t) (va_A [zO kk 11 [vR ta, vR kr, vR kl, vI nr, vI nw, vR sA, vR dA, vR pa, vR ki, vR kp, vI im, vR wa, vR or_, vR rq], zI rq (cy 0) 4 qf, zO sA 6 [vI wi, vI ro, vR s2, vR s3, vI dr, vI dt, vR s6, vI pe, vR s8, vI gu, vI sh, vR s11, vI wo, vR s13, vI dn, vI mi, vI fl, vI tk, vI go], zI s2 (cy 0) 96 hf, zI s6 (cy 0) 56 df, zI s13 (cy 0) 40 kf, zL ao (cy 2) 1 (fun _ => (iI av).toInt64)] sz)) 1 6 (va_A [zO kk 11 [vR ta, vR kr, vR kl, vI nr, vI nw, vR sA, vR dA, vR pa, vR ki, vR kp, vI im, vR wa, vR or_, vR rq], zI rq (cy 0) 4 qf, zO sA 6 [vI wi, vI ro, vR s2, vR s3, vI dr, vI dt, vR s6, vI pe, vR s8, vI gu, vI sh, vR s11, vI wo, vR s13, vI dn, vI mi, vI fl, vI tk, vI go], zI s2 (cy 0) 96 hf, zI s6 (cy 0) 56 df, zI s13 (cy 0) 40 kf, zL ao (cy 2) 1 (fun _ => (iI av).toInt64)] sz) := by
  refine va_MetW (cc := cL_does) (maxL := 4) (ret := (some .int)) (by decide) rfl ?_
  intro p e s m args below meth c s₁ B hml hv
  obtain ⟨rfl, hsz, hP, hG, hD0, hT⟩ := hv
  have hx := B.exec
  have hb := B.bytes
  have hr := B.returns
  have hts := atoms_spec (ws := vs_w_does) B.pre
  have hown : s.vm.findClass RL = some m.cls := findClass_of_methodNamed B.named
  have hlocks := B.notSynchronized
  subst hsz
  have hD := hD0.self (sz := s.heap.size)
  generalize hAe : va_A [zO kk 11 [vR ta, vR kr, vR kl, vI nr, vI nw, vR sA, vR dA, vR pa, vR ki, vR kp, vI im, vR wa, vR or_, vR rq], zI rq (cy 0) 4 qf, zO sA 6 [vI wi, vI ro, vR s2, vR s3, vI dr, vI dt, vR s6, vI pe, vR s8, vI gu, vI sh, vR s11, vI wo, vR s13, vI dn, vI mi, vI fl, vI tk, vI go], zI s2 (cy 0) 96 hf, zI s6 (cy 0) 56 df, zI s13 (cy 0) 40 kf, zL ao (cy 2) 1 (fun _ => (iI av).toInt64)] s.heap.size = A at hD hT ⊢
  have hA : ∀ q : Nat, s.heap.size ≤ q → A q := fun q h => by rw [← hAe]; exact Or.inr h
  have hS : va_S A s.heap s.heap [] := va_S.rf
  have hl0 := lv_entry ([vR kk, vI n, vR ao]) (n := 4) (Nat.le_of_ble_eq_true rfl)
  rw [lg_entry_eq]
  generalize (lg_sl ([vR kk, vI n, vR ao]) ++ List.replicate (4 - (lg_sl ([vR kk, vI n, vR ao])).length) Slot.unset).toArray = ls at hl0 ⊢
  have hlv : lv_has ls 4 [(0, vR kk), (1, vI n), (2, vR ao)] := hl0
  have gg_0 : GoodIn vs_w_does (wsV RL 45 RX11 yX11_does vs_k_does) := goodIn_sub (fun w h => List.mem_cons_of_mem _ (List.mem_append_right _ (List.mem_append_left _ h))) (gd_V gd_k_does (by decide +kernel))
  have xc34 := hts (.classLink RL 34 "java/util/NoSuchElementException") (List.mem_of_getElem? (i := 1) rfl)
  have htab : c.exceptionTable.toList = [(⟨0, 9, 12, 34⟩ : ExceptionTableEntry)] := vx_table (x := yL_does) B (hts (.codeWith yL_does cL_does 4 (some .int) [(0, 9, 12, 34)]) List.mem_cons_self)
  refine lv_aload_n hx hb dL_does_0 rfl (lv_at hlv 2 rfl) ?_
  refine lv_iconst (v := iI 0) hx hb dL_does_1 (by decide) ?_
  refine lv_aload_n hx hb dL_does_2 rfl (lv_at hlv 0 rfl) ?_
  refine lv_iload_n hx hb dL_does_3 rfl (lv_at hlv 1 rfl) ?_
  refine cjx2_i (wr := [zL ao (cy 2) 1 (fun _ => (iI av).toInt64)]) (vx_runV (As := [vI n]) (rest := [vI 0, vR ao]) ⟨hx, hb, hml, hown, hts⟩ (k_does l hl D cy sa kk ta kr kl sA dA pa ki kp wa or_ rq nr nw im qf s2 s3 s6 s8 s11 s13 wi ro dr dt pe gu sh wo dn mi fl tk go hf df kf n s.heap.size (by first | exact hr_nr | omega) (by first | exact hr_nw | omega) (by first | exact hr_im | omega) (by first | exact hr_wi | omega) (by first | exact hr_ro | omega) (by first | exact hr_dr | omega) (by first | exact hr_dt | omega) (by first | exact hr_pe | omega) (by first | exact hr_gu | omega) (by first | exact hr_sh | omega) (by first | exact hr_wo | omega) (by first | exact hr_dn | omega) (by first | exact hr_mi | omega) (by first | exact hr_fl | omega) (by first | exact hr_tk | omega) (by first | exact hr_go | omega) (by first | exact hr_n | omega) hhf hdf hkf) (cwV 1 hts gg_0 rfl rfl rfl (by decide +kernel) ⟨Nat.le_of_ble_eq_true rfl, Nat.le_of_ble_eq_true rfl⟩) ⟨pcW.blind, (va_recv hG.1 hP (ci := 11) (q0 := 0) rfl rfl), (pcW.mk hP hD hS hA hG hT [0, 1, 2, 3, 4, 5] rfl (by decide))⟩ rfl rfl hlv.1 rfl (lv_room (Nat.le_of_ble_eq_true rfl)) dL_does_4 ⟨Nat.le_of_ble_eq_true rfl, Nat.le_of_ble_eq_true rfl⟩) hP hD hS hA [0, 1, 2, 3, 4, 5] [6] rfl rfl (by decide) (by decide) (fun E ux1 ce q9 H locs hp hP hD hS h1 h2 h3 => ?_) (fun r1 u1 H locs hw1 hP hD hS => ?_)
  · have hP : va_P D vwCl [zL ao (cy 2) 1 (fun _ => (iI av).toInt64), zO kk 11 [vR ta, vR kr, vR kl, vI nr, vI nw, vR sA, vR dA, vR pa, vR ki, vR kp, vI im, vR wa, vR or_, vR rq], zI rq (cy 0) 4 (ux1.2.2 0), zO sA 6 [vI wi, vI ro, vR s2, vR s3, vI dr, vI dt, vR s6, vI pe, vR s8, vI gu, vI sh, vR s11, vI wo, vR s13, vI dn, vI mi, vI fl, vI tk, vI go], zI s2 (cy 0) 96 hf, zI s6 (cy 0) 56 df, zI s13 (cy 0) 40 kf] H := hP
    have hD : va_D A [zL ao (cy 2) 1 (fun _ => (iI av).toInt64), zO kk 11 [vR ta, vR kr, vR kl, vI nr, vI nw, vR sA, vR dA, vR pa, vR ki, vR kp, vI im, vR wa, vR or_, vR rq], zI rq (cy 0) 4 (ux1.2.2 0), zO sA 6 [vI wi, vI ro, vR s2, vR s3, vI dr, vI dt, vR s6, vI pe, vR s8, vI gu, vI sh, vR s11, vI wo, vR s13, vI dn, vI mi, vI fl, vI tk, vI go], zI s2 (cy 0) 96 hf, zI s6 (cy 0) 56 df, zI s13 (cy 0) 40 kf] := hD
    obtain rfl := hp
    refine vx_catch (name := "java/util/NoSuchElementException") hown [] (⟨0, 9, 12, 34⟩ : ExceptionTableEntry) [] htab (fun z hz => absurd hz List.not_mem_nil) (by decide) (by decide) xc34 (va_Nw.use rfl (hG.2.2.2.1 _ (List.mem_of_getElem? (i := 1) rfl))) h1 h2 h3 ?_
    refine lv_astore_n (lv' := [(3, vR q9), (0, vR kk), (1, vI n), (2, vR ao)]) hx hb dL_does_12 rfl hlv (by decide) rfl (fun ls hlv => ?_)
    refine lv_iconst (v := iI 1) hx hb dL_does_13 (by decide) ?_
    refine W.widen (k := 1) (n := 6) (Nat.le_of_ble_eq_true rfl) (Nat.le_of_ble_eq_true rfl) ?_
    exact W.iret (v := iI 1) hx hb hr (fun t ht hW => ⟨⟨iI 1, ((fun k => ([] : List Nat).getD k 0), (fun k => ([0, dr, dn, 1, av] : List Int).getD k 0), (fun k => ([hf, df, (ux1.2.2 0)] : List (Nat → Int32)).getD k (fun _ => 0))), rfl, ⟨rfl, (by show (0 ≤ dr ∧ dr ≤ 14); first | exact hr_dr | omega), (by show ((-2147483648) ≤ dn ∧ dn ≤ 2147483647); first | exact hr_dn | omega), (by show (0 ≤ 1 ∧ 1 ≤ 1); show (0 : Int) ≤ 1 ∧ (1 : Int) ≤ 1; decide), (by show ((-2147483648) ≤ av ∧ av ≤ 2147483647); first | exact hr_av | omega), hhf, hdf, hkf⟩, by rw [ht]; exact hP.sub [1, 2, 3, 4, 5, 6, 0] rfl, hD.sub [1, 2, 3, 4, 5, 6, 0] (by decide) rfl⟩, hS.F ht⟩) hS.2.2 dL_does_14
  obtain ⟨rfl, hq1_1, hq1_2, hq1_3, hq1_4, hq1_5, hq1_6⟩ := hw1
  have hP : va_P D vwCl [zL ao (cy 2) 1 (fun _ => (iI av).toInt64), zO kk 11 [vR ta, vR kr, vR kl, vI nr, vI nw, vR sA, vR dA, vR pa, vR ki, vR kp, vI im, vR wa, vR or_, vR rq], zI rq (cy 0) 4 qf, zO sA 6 [vI wi, vI ro, vR s2, vR s3, vI (u1.2.1 1), vI dt, vR s6, vI pe, vR s8, vI gu, vI sh, vR s11, vI wo, vR s13, vI (u1.2.1 2), vI mi, vI fl, vI tk, vI go], zI s2 (cy 0) 96 (u1.2.2 0), zI s6 (cy 0) 56 (u1.2.2 1), zI s13 (cy 0) 40 kf] H := hP
  have hD : va_D A [zL ao (cy 2) 1 (fun _ => (iI av).toInt64), zO kk 11 [vR ta, vR kr, vR kl, vI nr, vI nw, vR sA, vR dA, vR pa, vR ki, vR kp, vI im, vR wa, vR or_, vR rq], zI rq (cy 0) 4 qf, zO sA 6 [vI wi, vI ro, vR s2, vR s3, vI (u1.2.1 1), vI dt, vR s6, vI pe, vR s8, vI gu, vI sh, vR s11, vI wo, vR s13, vI (u1.2.1 2), vI mi, vI fl, vI tk, vI go], zI s2 (cy 0) 96 (u1.2.2 0), zI s6 (cy 0) 56 (u1.2.2 1), zI s13 (cy 0) 40 kf] := hD
  refine lv_i2l (v := jJ (u1.2.1 0)) hx hb dL_does_7 (jJ_i (by omega)) ?_
  refine va_last hx hb hG.1 hP hD hS 0 2 rfl rfl (iI_in (by omega) (by decide)) dL_does_8 (fun H locs hP hD hS => ?_)
  obtain ⟨hP, hD⟩ := arl 0 (fun _ => (iI (u1.2.1 0)).toInt64) hP hD rfl (arl_2 (by omega))
  have hP : va_P D vwCl [zL ao (cy 2) 1 (fun _ => (iI (u1.2.1 0)).toInt64), zO kk 11 [vR ta, vR kr, vR kl, vI nr, vI nw, vR sA, vR dA, vR pa, vR ki, vR kp, vI im, vR wa, vR or_, vR rq], zI rq (cy 0) 4 qf, zO sA 6 [vI wi, vI ro, vR s2, vR s3, vI (u1.2.1 1), vI dt, vR s6, vI pe, vR s8, vI gu, vI sh, vR s11, vI wo, vR s13, vI (u1.2.1 2), vI mi, vI fl, vI tk, vI go], zI s2 (cy 0) 96 (u1.2.2 0), zI s6 (cy 0) 56 (u1.2.2 1), zI s13 (cy 0) 40 kf] H := hP
  have hD : va_D A [zL ao (cy 2) 1 (fun _ => (iI (u1.2.1 0)).toInt64), zO kk 11 [vR ta, vR kr, vR kl, vI nr, vI nw, vR sA, vR dA, vR pa, vR ki, vR kp, vI im, vR wa, vR or_, vR rq], zI rq (cy 0) 4 qf, zO sA 6 [vI wi, vI ro, vR s2, vR s3, vI (u1.2.1 1), vI dt, vR s6, vI pe, vR s8, vI gu, vI sh, vR s11, vI wo, vR s13, vI (u1.2.1 2), vI mi, vI fl, vI tk, vI go], zI s2 (cy 0) 96 (u1.2.2 0), zI s6 (cy 0) 56 (u1.2.2 1), zI s13 (cy 0) 40 kf] := hD
  refine lv_goto (tgt := 15) hx hb dL_does_9 (by decide) ?_
  refine lv_iconst (v := iI 0) hx hb dL_does_15 (by decide) ?_
  refine W.widen (k := 1) (n := 6) (Nat.le_of_ble_eq_true rfl) (Nat.le_of_ble_eq_true rfl) ?_
  exact W.iret (v := iI 0) hx hb hr (fun t ht hW => ⟨⟨iI 0, ((fun k => ([] : List Nat).getD k 0), (fun k => ([0, (u1.2.1 1), (u1.2.1 2), 0, (u1.2.1 0)] : List Int).getD k 0), (fun k => ([(u1.2.2 0), (u1.2.2 1), qf] : List (Nat → Int32)).getD k (fun _ => 0))), rfl, ⟨rfl, (by show (0 ≤ (u1.2.1 1) ∧ (u1.2.1 1) ≤ 14); first | exact hq1_2 | omega), (by show ((-2147483648) ≤ (u1.2.1 2) ∧ (u1.2.1 2) ≤ 2147483647); first | exact hq1_3 | omega), (by show (0 ≤ 0 ∧ 0 ≤ 1); show (0 : Int) ≤ 0 ∧ (0 : Int) ≤ 1; decide), (by show ((-2147483648) ≤ (u1.2.1 0) ∧ (u1.2.1 0) ≤ 2147483647); first | exact hq1_1 | omega), hq1_4, hq1_5, hq1_6⟩, by rw [ht]; exact hP.sub [1, 2, 3, 4, 5, 6, 0] rfl, hD.sub [1, 2, 3, 4, 5, 6, 0] (by decide) rfl⟩, hS.F ht⟩) hS.2.2 dL_does_16
