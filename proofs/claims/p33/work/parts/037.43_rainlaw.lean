theorem dX11_fault_0 : decode cX11_fault 0 = .ok (.aload_n 0, 1) := by decide +kernel
theorem dX11_fault_1 : decode cX11_fault 1 = .ok (.getfield 10, 3) := by decide +kernel
theorem dX11_fault_4 : decode cX11_fault 4 = .ok (.getfield 127, 3) := by decide +kernel
theorem dX11_fault_7 : decode cX11_fault 7 = .ok (.ireturn, 1) := by decide +kernel
theorem dX11_law_0 : decode cX11_law 0 = .ok (.aload_n 0, 1) := by decide +kernel
theorem dX11_law_1 : decode cX11_law 1 = .ok (.iload_n 1, 1) := by decide +kernel
theorem dX11_law_10 : decode cX11_law 10 = .ok (.if_icmp .lt 5, 3) := by decide +kernel
theorem dX11_law_13 : decode cX11_law 13 = .ok (.iconst (-1), 1) := by decide +kernel
theorem dX11_law_14 : decode cX11_law 14 = .ok (.ireturn, 1) := by decide +kernel
theorem dX11_law_15 : decode cX11_law 15 = .ok (.new 121, 3) := by decide +kernel
theorem dX11_law_18 : decode cX11_law 18 = .ok (.dup, 1) := by decide +kernel
theorem dX11_law_19 : decode cX11_law 19 = .ok (.aload_n 0, 1) := by decide +kernel
theorem dX11_law_2 : decode cX11_law 2 = .ok (.invokevirtual 85, 3) := by decide +kernel
theorem dX11_law_20 : decode cX11_law 20 = .ok (.getfield 10, 3) := by decide +kernel
theorem dX11_law_23 : decode cX11_law 23 = .ok (.aload_n 0, 1) := by decide +kernel
theorem dX11_law_24 : decode cX11_law 24 = .ok (.getfield 24, 3) := by decide +kernel
theorem dX11_law_27 : decode cX11_law 27 = .ok (.aload_n 0, 1) := by decide +kernel
theorem dX11_law_28 : decode cX11_law 28 = .ok (.getfield 118, 3) := by decide +kernel
theorem dX11_law_31 : decode cX11_law 31 = .ok (.aaload, 1) := by decide +kernel
theorem dX11_law_32 : decode cX11_law 32 = .ok (.invokespecial 123, 3) := by decide +kernel
theorem dX11_law_35 : decode cX11_law 35 = .ok (.invokevirtual 126, 3) := by decide +kernel
theorem dX11_law_38 : decode cX11_law 38 = .ok (.aload_n 0, 1) := by decide +kernel
theorem dX11_law_39 : decode cX11_law 39 = .ok (.getfield 10, 3) := by decide +kernel
theorem dX11_law_42 : decode cX11_law 42 = .ok (.invokevirtual 96, 3) := by decide +kernel
theorem dX11_law_45 : decode cX11_law 45 = .ok (.ifCond .ne 14, 3) := by decide +kernel
theorem dX11_law_48 : decode cX11_law 48 = .ok (.aload_n 0, 1) := by decide +kernel
theorem dX11_law_49 : decode cX11_law 49 = .ok (.getfield 10, 3) := by decide +kernel
theorem dX11_law_5 : decode cX11_law 5 = .ok (.aload_n 0, 1) := by decide +kernel
theorem dX11_law_52 : decode cX11_law 52 = .ok (.getfield 99, 3) := by decide +kernel
theorem dX11_law_55 : decode cX11_law 55 = .ok (.bipush 10, 2) := by decide +kernel
theorem dX11_law_57 : decode cX11_law 57 = .ok (.isub, 1) := by decide +kernel
theorem dX11_law_58 : decode cX11_law 58 = .ok (.ireturn, 1) := by decide +kernel
theorem dX11_law_59 : decode cX11_law 59 = .ok (.aload_n 0, 1) := by decide +kernel
theorem dX11_law_6 : decode cX11_law 6 = .ok (.getfield 118, 3) := by decide +kernel
theorem dX11_law_60 : decode cX11_law 60 = .ok (.dup, 1) := by decide +kernel
theorem dX11_law_61 : decode cX11_law 61 = .ok (.getfield 118, 3) := by decide +kernel
theorem dX11_law_64 : decode cX11_law 64 = .ok (.iconst 1, 1) := by decide +kernel
theorem dX11_law_65 : decode cX11_law 65 = .ok (.iadd, 1) := by decide +kernel
theorem dX11_law_66 : decode cX11_law 66 = .ok (.putfield 118, 3) := by decide +kernel
theorem dX11_law_69 : decode cX11_law 69 = .ok (.aload_n 0, 1) := by decide +kernel
theorem dX11_law_70 : decode cX11_law 70 = .ok (.getfield 118, 3) := by decide +kernel
theorem dX11_law_73 : decode cX11_law 73 = .ok (.iconst 1, 1) := by decide +kernel
theorem dX11_law_74 : decode cX11_law 74 = .ok (.isub, 1) := by decide +kernel
theorem dX11_law_75 : decode cX11_law 75 = .ok (.ireturn, 1) := by decide +kernel
theorem dX11_law_9 : decode cX11_law 9 = .ok (.iconst 4, 1) := by decide +kernel
theorem dX11_rain_0 : decode cX11_rain 0 = .ok (.aload_n 0, 1) := by decide +kernel
theorem dX11_rain_1 : decode cX11_rain 1 = .ok (.iload_n 1, 1) := by decide +kernel
theorem dX11_rain_10 : decode cX11_rain 10 = .ok (.if_icmp .lt 5, 3) := by decide +kernel
theorem dX11_rain_13 : decode cX11_rain 13 = .ok (.iconst (-1), 1) := by decide +kernel
theorem dX11_rain_14 : decode cX11_rain 14 = .ok (.ireturn, 1) := by decide +kernel
theorem dX11_rain_15 : decode cX11_rain 15 = .ok (.aload_n 0, 1) := by decide +kernel
theorem dX11_rain_16 : decode cX11_rain 16 = .ok (.getfield 18, 3) := by decide +kernel
theorem dX11_rain_19 : decode cX11_rain 19 = .ok (.aload_n 0, 1) := by decide +kernel
theorem dX11_rain_2 : decode cX11_rain 2 = .ok (.invokevirtual 85, 3) := by decide +kernel
theorem dX11_rain_20 : decode cX11_rain 20 = .ok (.getfield 112, 3) := by decide +kernel
theorem dX11_rain_23 : decode cX11_rain 23 = .ok (.aaload, 1) := by decide +kernel
theorem dX11_rain_24 : decode cX11_rain 24 = .ok (.aload_n 0, 1) := by decide +kernel
theorem dX11_rain_25 : decode cX11_rain 25 = .ok (.getfield 10, 3) := by decide +kernel
theorem dX11_rain_28 : decode cX11_rain 28 = .ok (.invokevirtual 115, 3) := by decide +kernel
theorem dX11_rain_31 : decode cX11_rain 31 = .ok (.aload_n 0, 1) := by decide +kernel
theorem dX11_rain_32 : decode cX11_rain 32 = .ok (.getfield 10, 3) := by decide +kernel
theorem dX11_rain_35 : decode cX11_rain 35 = .ok (.invokevirtual 96, 3) := by decide +kernel
theorem dX11_rain_38 : decode cX11_rain 38 = .ok (.ifCond .ne 14, 3) := by decide +kernel
theorem dX11_rain_41 : decode cX11_rain 41 = .ok (.aload_n 0, 1) := by decide +kernel
theorem dX11_rain_42 : decode cX11_rain 42 = .ok (.getfield 10, 3) := by decide +kernel
theorem dX11_rain_45 : decode cX11_rain 45 = .ok (.getfield 99, 3) := by decide +kernel
theorem dX11_rain_48 : decode cX11_rain 48 = .ok (.bipush 10, 2) := by decide +kernel
theorem dX11_rain_5 : decode cX11_rain 5 = .ok (.aload_n 0, 1) := by decide +kernel
theorem dX11_rain_50 : decode cX11_rain 50 = .ok (.isub, 1) := by decide +kernel
theorem dX11_rain_51 : decode cX11_rain 51 = .ok (.ireturn, 1) := by decide +kernel
theorem dX11_rain_52 : decode cX11_rain 52 = .ok (.aload_n 0, 1) := by decide +kernel
theorem dX11_rain_53 : decode cX11_rain 53 = .ok (.dup, 1) := by decide +kernel
theorem dX11_rain_54 : decode cX11_rain 54 = .ok (.getfield 112, 3) := by decide +kernel
theorem dX11_rain_57 : decode cX11_rain 57 = .ok (.iconst 1, 1) := by decide +kernel
theorem dX11_rain_58 : decode cX11_rain 58 = .ok (.iadd, 1) := by decide +kernel
theorem dX11_rain_59 : decode cX11_rain 59 = .ok (.putfield 112, 3) := by decide +kernel
theorem dX11_rain_6 : decode cX11_rain 6 = .ok (.getfield 112, 3) := by decide +kernel
theorem dX11_rain_62 : decode cX11_rain 62 = .ok (.aload_n 0, 1) := by decide +kernel
theorem dX11_rain_63 : decode cX11_rain 63 = .ok (.getfield 112, 3) := by decide +kernel
theorem dX11_rain_66 : decode cX11_rain 66 = .ok (.iconst 1, 1) := by decide +kernel
theorem dX11_rain_67 : decode cX11_rain 67 = .ok (.isub, 1) := by decide +kernel
theorem dX11_rain_68 : decode cX11_rain 68 = .ok (.ireturn, 1) := by decide +kernel
theorem dX11_rain_9 : decode cX11_rain 9 = .ok (.iconst 4, 1) := by decide +kernel
def vs_k_rain : List Cond := .code yX11_rain cX11_rain 2 (some .int) :: (([.fieldLink RX11 112 "KerbSplash" "rainsTold" "I", .fieldLink RX11 18 "KerbSplash" "rains" "[LKerbSplash$Rain;", .fieldLink RX11 10 "KerbSplash" "tape" "LKerbSplash$Tape;", .initialized RX5, .instanceMethod yX5_read, .selects RX5 yX5_read yX5_read, .initialized RX8, .instanceMethod yX8_good, .selects RX8 yX8_good yX8_good] : List Cond) ++ ((wsV RX11 85 RX11 yX11_beginText vs_k_begin) ++ ((wsX110) ++ ((vs_n_read) ++ ((vs_s_good) ++ ((wsX80) ++ ([])))))))
theorem gd_k_rain : vs_k_rain.all goodWord = true := gd_C (by decide +kernel) (gd_A (by decide +kernel) (gd_A (gd_V gd_k_begin (by decide +kernel)) (gd_A (by decide +kernel) (gd_A gd_n_read (gd_A gd_s_good (gd_A (by decide +kernel) rfl))))))
set_option maxHeartbeats 4000000 in
set_option maxRecDepth 100000 in
theorem k_rain (l : Launch) (hl : l.stackTraces = false) (D : va_G) (cy : Nat → ClassId) (sa : Nat → Nat) (kk ta kr kl sA dA pa ki kp wa or_ rq : Nat) (nr nw im : Int) (qf : Nat → Int32) (tb : Nat) (fed len at_ we fa fp : Int) (bf : Nat → Int32) (krf : Nat → Option Nat) (ra rf : Nat) (rm : Int) (ff : Nat → Int32) (n : Int) (sz : Nat) (hr_nr : 0 ≤ nr ∧ nr ≤ 4) (hr_nw : 0 ≤ nw ∧ nw ≤ 4) (hr_im : 0 ≤ im ∧ im ≤ 3) (hr_fed : 0 ≤ fed ∧ fed ≤ 600) (hr_len : 0 ≤ len ∧ len ≤ 600) (hr_at_ : 0 ≤ at_ ∧ at_ ≤ 600) (hr_we : 0 ≤ we ∧ we ≤ 600) (hr_fa : 0 ≤ fa ∧ fa ≤ 4) (hr_fp : (-1) ≤ fp ∧ fp ≤ 600) (hr_rm : 0 ≤ rm ∧ rm ≤ 240) (hr_n : (-2147483648) ≤ n ∧ n ≤ 2147483647) (hp0 : nr < 4 → krf nr.toNat = some ra) (hff : inv_ 240 0 20 ff) : vx_Met l yX11_rain vs_k_rain ({ frames := 9, cells := 1, slots := 6, locals := 197 }) (va_Pc [vR kk, vI n] (pcW D cy sa sz [zO kk 11 [vR ta, vR kr, vR kl, vI nr, vI nw, vR sA, vR dA, vR pa, vR ki, vR kp, vI im, vR wa, vR or_, vR rq], zI rq (cy 0) 4 qf, zO ta 8 [vR tb, vI fed, vI len, vI at_, vI we, vI fa, vI fp], zI tb (cy 1) 600 bf, zQ kr (cy 4) 4 krf, zO ra 5 [vR rf, vI rm], zI rf (cy 0) 240 ff])) (va_Qi (fun (r : Int32) (u : SV) => r = iI (u.2.1 0) ∧ ((-2147483648) ≤ u.2.1 0 ∧ u.2.1 0 ≤ 2147483647) ∧ (0 ≤ u.2.1 1 ∧ u.2.1 1 ≤ 600) ∧ (0 ≤ u.2.1 2 ∧ u.2.1 2 ≤ 600) ∧ (0 ≤ u.2.1 3 ∧ u.2.1 3 ≤ 600) ∧ (0 ≤ u.2.1 4 ∧ u.2.1 4 ≤ 600) ∧ (0 ≤ u.2.1 5 ∧ u.2.1 5 ≤ 4) ∧ ((-1) ≤ u.2.1 6 ∧ u.2.1 6 ≤ 600) ∧ (0 ≤ u.2.1 7 ∧ u.2.1 7 ≤ 4) ∧ (0 ≤ u.2.1 8 ∧ u.2.1 8 ≤ 240) ∧ (0 ≤ n ∧ n ≤ fed ∧ u.2.1 1 = 0) ∧ inv_ 240 0 20 (u.2.2 0)) (fun u t => atW D (va_A [zO kk 11 [vR ta, vR kr, vR kl, vI nr, vI nw, vR sA, vR dA, vR pa, vR ki, vR kp, vI im, vR wa, vR or_, vR rq], zI rq (cy 0) 4 qf, zO ta 8 [vR tb, vI fed, vI len, vI at_, vI we, vI fa, vI fp], zI tb (cy 1) 600 bf, zQ kr (cy 4) 4 krf, zO ra 5 [vR rf, vI rm], zI rf (cy 0) 240 ff] sz) [zO kk 11 [vR ta, vR kr, vR kl, vI (u.2.1 7), vI nw, vR sA, vR dA, vR pa, vR ki, vR kp, vI im, vR wa, vR or_, vR rq], zI rq (cy 0) 4 qf, zO ta 8 [vR tb, vI (u.2.1 1), vI (u.2.1 2), vI (u.2.1 3), vI (u.2.1 4), vI (u.2.1 5), vI (u.2.1 6)], zI tb (cy 1) 600 bf, zQ kr (cy 4) 4 krf, zO ra 5 [vR rf, vI (u.2.1 8)], zI rf (cy 0) 240 (u.2.2 0)] t) (va_A [zO kk 11 [vR ta, vR kr, vR kl, vI nr, vI nw, vR sA, vR dA, vR pa, vR ki, vR kp, vI im, vR wa, vR or_, vR rq], zI rq (cy 0) 4 qf, zO ta 8 [vR tb, vI fed, vI len, vI at_, vI we, vI fa, vI fp], zI tb (cy 1) 600 bf, zQ kr (cy 4) 4 krf, zO ra 5 [vR rf, vI rm], zI rf (cy 0) 240 ff] sz)) (xcW2 D (fun (E : String) (u : SV) => (E = "java/lang/IllegalArgumentException") ∧ (¬ (0 ≤ n ∧ n ≤ fed))) (va_A [zO kk 11 [vR ta, vR kr, vR kl, vI nr, vI nw, vR sA, vR dA, vR pa, vR ki, vR kp, vI im, vR wa, vR or_, vR rq], zI rq (cy 0) 4 qf, zO ta 8 [vR tb, vI fed, vI len, vI at_, vI we, vI fa, vI fp], zI tb (cy 1) 600 bf, zQ kr (cy 4) 4 krf, zO ra 5 [vR rf, vI rm], zI rf (cy 0) 240 ff] sz) (fun u : SV => [zO kk 11 [vR ta, vR kr, vR kl, vI nr, vI nw, vR sA, vR dA, vR pa, vR ki, vR kp, vI im, vR wa, vR or_, vR rq], zI rq (cy 0) 4 (u.2.2 0), zO ta 8 [vR tb, vI fed, vI len, vI at_, vI we, vI fa, vI fp], zI tb (cy 1) 600 bf, zQ kr (cy 4) 4 krf, zO ra 5 [vR rf, vI rm], zI rf (cy 0) 240 ff])) 1 6 (va_A [zO kk 11 [vR ta, vR kr, vR kl, vI nr, vI nw, vR sA, vR dA, vR pa, vR ki, vR kp, vI im, vR wa, vR or_, vR rq], zI rq (cy 0) 4 qf, zO ta 8 [vR tb, vI fed, vI len, vI at_, vI we, vI fa, vI fp], zI tb (cy 1) 600 bf, zQ kr (cy 4) 4 krf, zO ra 5 [vR rf, vI rm], zI rf (cy 0) 240 ff] sz) := by
  refine vx_ofW (cc := cX11_rain) (maxL := 2) (ret := (some .int)) (by decide) rfl ?_
  intro p e s m args below meth c s₁ B hml hex hv
  obtain ⟨rfl, hsz, hP, hG, hD0, hT⟩ := hv
  have hx := B.exec
  have hb := B.bytes
  have hr := B.returns
  have hts := atoms_spec (ws := vs_k_rain) B.pre
  have hown : s.vm.findClass RX11 = some m.cls := findClass_of_methodNamed B.named
  have hlocks := B.notSynchronized
  subst hsz
  have hD := hD0.self (sz := s.heap.size)
  generalize hAe : va_A [zO kk 11 [vR ta, vR kr, vR kl, vI nr, vI nw, vR sA, vR dA, vR pa, vR ki, vR kp, vI im, vR wa, vR or_, vR rq], zI rq (cy 0) 4 qf, zO ta 8 [vR tb, vI fed, vI len, vI at_, vI we, vI fa, vI fp], zI tb (cy 1) 600 bf, zQ kr (cy 4) 4 krf, zO ra 5 [vR rf, vI rm], zI rf (cy 0) 240 ff] s.heap.size = A at hD hT ⊢
  have hA : ∀ q : Nat, s.heap.size ≤ q → A q := fun q h => by rw [← hAe]; exact Or.inr h
  have hS : va_S A s.heap s.heap [] := va_S.rf
  have hl0 := lv_entry ([vR kk, vI n]) (n := 2) (Nat.le_of_ble_eq_true rfl)
  rw [lg_entry_eq]
  generalize (lg_sl ([vR kk, vI n]) ++ List.replicate (2 - (lg_sl ([vR kk, vI n])).length) Slot.unset).toArray = ls at hl0 ⊢
  have hlv : lv_has ls 2 [(0, vR kk), (1, vI n)] := hl0
  have gg_0 : GoodIn vs_k_rain (wsV RX11 85 RX11 yX11_beginText vs_k_begin) := goodIn_sub (fun w h => List.mem_cons_of_mem _ (List.mem_append_right _ (List.mem_append_left _ h))) (gd_V gd_k_begin (by decide +kernel))
  have lf112 := hts (.fieldLink RX11 112 "KerbSplash" "rainsTold" "I") (List.mem_of_getElem? (i := 1) rfl)
  have hi11 : ∀ w ∈ wsX110, w ∈ vs_k_rain := fun w h => List.mem_cons_of_mem _ (List.mem_append_right _ (List.mem_append_right _ (List.mem_append_left _ h)))
  have lf18 := hts (.fieldLink RX11 18 "KerbSplash" "rains" "[LKerbSplash$Rain;") (List.mem_of_getElem? (i := 2) rfl)
  have lf10 := hts (.fieldLink RX11 10 "KerbSplash" "tape" "LKerbSplash$Tape;") (List.mem_of_getElem? (i := 3) rfl)
  have gg_2 : GoodIn vs_k_rain (vs_n_read) := goodIn_sub (fun w h => List.mem_cons_of_mem _ (List.mem_append_right _ (List.mem_append_right _ (List.mem_append_right _ (List.mem_append_left _ h))))) gd_n_read
  have ini_RX5 := hts (.initialized RX5) (List.mem_of_getElem? (i := 4) rfl)
  have im_X5_read := hts (.instanceMethod yX5_read) (List.mem_of_getElem? (i := 5) rfl)
  have se_X5_read := hts (.selects RX5 yX5_read yX5_read) (List.mem_of_getElem? (i := 6) rfl)
  have gg_3 : GoodIn vs_k_rain (vs_s_good) := goodIn_sub (fun w h => List.mem_cons_of_mem _ (List.mem_append_right _ (List.mem_append_right _ (List.mem_append_right _ (List.mem_append_right _ (List.mem_append_left _ h)))))) gd_s_good
  have ini_RX8 := hts (.initialized RX8) (List.mem_of_getElem? (i := 7) rfl)
  have im_X8_good := hts (.instanceMethod yX8_good) (List.mem_of_getElem? (i := 8) rfl)
  have se_X8_good := hts (.selects RX8 yX8_good yX8_good) (List.mem_of_getElem? (i := 9) rfl)
  have hi8 : ∀ w ∈ wsX80, w ∈ vs_k_rain := fun w h => List.mem_cons_of_mem _ (List.mem_append_right _ (List.mem_append_right _ (List.mem_append_right _ (List.mem_append_right _ (List.mem_append_right _ (List.mem_append_left _ h))))))
  refine lv_aload_n hx hb dX11_rain_0 rfl (lv_at hlv 0 rfl) ?_
  refine lv_iload_n hx hb dX11_rain_1 rfl (lv_at hlv 1 rfl) ?_
  refine cjx2_v (wr := [zI tb (cy 1) 600 bf, zQ kr (cy 4) 4 krf, zO ra 5 [vR rf, vI rm], zI rf (cy 0) 240 ff]) (vx_runV (As := [vI n]) (rest := []) ⟨hx, hb, hml, hown, hts⟩ (k_begin l hl D cy sa kk ta kr kl sA dA pa ki kp wa or_ rq nr nw im qf tb fed len at_ we fa fp n s.heap.size (by first | exact hr_nr | omega) (by first | exact hr_nw | omega) (by first | exact hr_im | omega) (by first | exact hr_fed | omega) (by first | exact hr_len | omega) (by first | exact hr_at_ | omega) (by first | exact hr_we | omega) (by first | exact hr_fa | omega) (by first | exact hr_fp | omega) (by first | exact hr_n | omega)) (cwV 1 hts gg_0 rfl rfl rfl (by decide +kernel) ⟨Nat.le_of_ble_eq_true rfl, Nat.le_of_ble_eq_true rfl⟩) ⟨pcW.blind, (va_recv hG.1 hP (ci := 11) (q0 := 0) rfl rfl), (pcW.mk hP hD hS hA hG hT [0, 1, 2] rfl (by decide))⟩ rfl rfl hlv.1 rfl (lv_room (Nat.le_of_ble_eq_true rfl)) dX11_rain_2 ⟨Nat.le_of_ble_eq_true rfl, Nat.le_of_ble_eq_true rfl⟩) hP hD hS hA [0, 1, 2] [3, 4, 5, 6] rfl rfl (by decide) (by decide) (fun E ux1 ce q9 H locs hp hP hD hS h1 h2 h3 => ?_) (fun u1 H locs hw1 hP hD hS => ?_)
  · have hP : va_P D vwCl [zI tb (cy 1) 600 bf, zQ kr (cy 4) 4 krf, zO ra 5 [vR rf, vI rm], zI rf (cy 0) 240 ff, zO kk 11 [vR ta, vR kr, vR kl, vI nr, vI nw, vR sA, vR dA, vR pa, vR ki, vR kp, vI im, vR wa, vR or_, vR rq], zI rq (cy 0) 4 (ux1.2.2 0), zO ta 8 [vR tb, vI fed, vI len, vI at_, vI we, vI fa, vI fp]] H := hP
    have hD : va_D A [zI tb (cy 1) 600 bf, zQ kr (cy 4) 4 krf, zO ra 5 [vR rf, vI rm], zI rf (cy 0) 240 ff, zO kk 11 [vR ta, vR kr, vR kl, vI nr, vI nw, vR sA, vR dA, vR pa, vR ki, vR kp, vI im, vR wa, vR or_, vR rq], zI rq (cy 0) 4 (ux1.2.2 0), zO ta 8 [vR tb, vI fed, vI len, vI at_, vI we, vI fa, vI fp]] := hD
    obtain ⟨hp, hxg1⟩ := hp
    obtain rfl := hp
    exact vx_out (fun x h => (hex x h).elim) hlocks h1 h2 h3 (fun t ht hvm => ⟨((fun k => ([] : List Nat).getD k 0), (fun k => ([] : List Int).getD k 0), (fun k => ([(ux1.2.2 0)] : List (Nat → Int32)).getD k (fun _ => 0))), trivial, ⟨⟨rfl, by omega⟩, by rw [ht]; exact hP.sub [4, 5, 6, 0, 1, 2, 3] rfl, hD.sub [4, 5, 6, 0, 1, 2, 3] (by decide) rfl⟩, hS.F ht⟩) hS.2.2 (Nat.le_of_ble_eq_true rfl) (Nat.le_of_ble_eq_true rfl)
  have hq1_0 : ((0 : Int) ≤ n ∧ n ≤ fed) := hw1
  have hP : va_P D vwCl [zI tb (cy 1) 600 bf, zQ kr (cy 4) 4 krf, zO ra 5 [vR rf, vI rm], zI rf (cy 0) 240 ff, zO kk 11 [vR ta, vR kr, vR kl, vI nr, vI nw, vR sA, vR dA, vR pa, vR ki, vR kp, vI im, vR wa, vR or_, vR rq], zI rq (cy 0) 4 qf, zO ta 8 [vR tb, vI 0, vI n, vI 0, vI 0, vI 0, vI (-1)]] H := hP
  have hD : va_D A [zI tb (cy 1) 600 bf, zQ kr (cy 4) 4 krf, zO ra 5 [vR rf, vI rm], zI rf (cy 0) 240 ff, zO kk 11 [vR ta, vR kr, vR kl, vI nr, vI nw, vR sA, vR dA, vR pa, vR ki, vR kp, vI im, vR wa, vR or_, vR rq], zI rq (cy 0) 4 qf, zO ta 8 [vR tb, vI 0, vI n, vI 0, vI 0, vI 0, vI (-1)]] := hD
  refine lv_aload_n hx hb dX11_rain_5 rfl (lv_at hlv 0 rfl) ?_
  refine va_get (D := D) (ci := 11) (v := vI nr) (C := RX11) (T := TX11) (N := 14) hx hb hts hi11 hown hG.1 hP 4 rfl rfl 3 (by decide) lf112 (fun _ h9 => h9) rfl dX11_rain_6 ?_
  refine lv_iconst (v := iI 4) hx hb dX11_rain_9 (by decide) ?_
  refine ir_lt (tgt := 15) hx hb dX11_rain_10 (by decide) (by first | exact rgw hr_nr (by decide) (by decide) | omega) (by show ((-2147483648) : Int) ≤ 4 ∧ (4 : Int) ≤ 2147483647; decide) (fun c_1 => ?_) (fun c_1 => ?_)
  · refine lv_aload_n hx hb dX11_rain_15 rfl (lv_at hlv 0 rfl) ?_
    refine va_get (D := D) (ci := 11) (v := vR kr) (C := RX11) (T := TX11) (N := 14) hx hb hts hi11 hown hG.1 hP 4 rfl rfl 1 (by decide) lf18 (fun _ h9 => h9) rfl dX11_rain_16 ?_
    refine lv_aload_n hx hb dX11_rain_19 rfl (lv_at hlv 0 rfl) ?_
    refine va_get (D := D) (ci := 11) (v := vI nr) (C := RX11) (T := TX11) (N := 14) hx hb hts hi11 hown hG.1 hP 4 rfl rfl 3 (by decide) lf112 (fun _ h9 => h9) rfl dX11_rain_20 ?_
    refine va_aldq hx hb hG.1 hP 1 4 rfl rfl (iI_in (by omega) (by decide)) dX11_rain_23 ?_
    refine ltv (y := vR ra) (by rw [iI_cl (by omega) (by omega), hp0 (by omega)]; rfl) ?_
    refine lv_aload_n hx hb dX11_rain_24 rfl (lv_at hlv 0 rfl) ?_
    refine va_get (D := D) (ci := 11) (v := vR ta) (C := RX11) (T := TX11) (N := 14) hx hb hts hi11 hown hG.1 hP 4 rfl rfl 0 (by decide) lf10 (fun _ h9 => h9) rfl dX11_rain_25 ?_
    refine cj_v (wr := [zQ kr (cy 4) 4 krf, zO kk 11 [vR ta, vR kr, vR kl, vI nr, vI nw, vR sA, vR dA, vR pa, vR ki, vR kp, vI im, vR wa, vR or_, vR rq], zI rq (cy 0) 4 qf]) (va_runVN (host := "KerbSplash") (As := [vR ta]) (rest := []) ⟨hx, hb, hml, hown, hts⟩ (n_read l hl D cy sa ra rf rm ff ta tb 0 n 0 0 0 (-1) bf H.size (by show (0 : Int) ≤ 0 ∧ (0 : Int) ≤ 600; decide) (by omega) (by show (0 : Int) ≤ 0 ∧ (0 : Int) ≤ 600; decide) (by show (0 : Int) ≤ 0 ∧ (0 : Int) ≤ 600; decide) (by show (0 : Int) ≤ 0 ∧ (0 : Int) ≤ 4; decide) (by show ((-1) : Int) ≤ (-1) ∧ ((-1) : Int) ≤ 600; decide) (by first | exact rgw hr_rm (by decide) (by decide) | omega) hff) ⟨va_cnB 1 hts gg_2 rfl rfl rfl (nM_K_115 hG.2.1) ini_RX5 (by decide +kernel) ⟨Nat.le_of_ble_eq_true rfl, Nat.le_of_ble_eq_true rfl⟩, im_X5_read, se_X5_read⟩ ⟨pcW.blind, (va_recv hG.1 hP (ci := 5) (q0 := 2) rfl rfl), (pcW.mk hP hD hS hA hG hT [2, 3, 6, 0] rfl (by decide))⟩ rfl rfl hlv.1 rfl (lv_room (Nat.le_of_ble_eq_true rfl)) dX11_rain_28 ⟨Nat.le_of_ble_eq_true rfl, Nat.le_of_ble_eq_true rfl⟩) hP hD hS hA [2, 3, 6, 0] [1, 4, 5] rfl rfl (by decide) (by decide) (fun u2 H locs hw2 hP hD hS => ?_)
    obtain ⟨hq2_0, hq2_1, hq2_2, hq2_3, hq2_4, hq2_5⟩ := hw2
    have hP : va_P D vwCl [zQ kr (cy 4) 4 krf, zO kk 11 [vR ta, vR kr, vR kl, vI nr, vI nw, vR sA, vR dA, vR pa, vR ki, vR kp, vI im, vR wa, vR or_, vR rq], zI rq (cy 0) 4 qf, zO ra 5 [vR rf, vI (u2.2.1 4)], zI rf (cy 0) 240 (u2.2.2 0), zO ta 8 [vR tb, vI 0, vI n, vI (u2.2.1 0), vI (u2.2.1 1), vI (u2.2.1 2), vI (u2.2.1 3)], zI tb (cy 1) 600 bf] H := hP
    have hD : va_D A [zQ kr (cy 4) 4 krf, zO kk 11 [vR ta, vR kr, vR kl, vI nr, vI nw, vR sA, vR dA, vR pa, vR ki, vR kp, vI im, vR wa, vR or_, vR rq], zI rq (cy 0) 4 qf, zO ra 5 [vR rf, vI (u2.2.1 4)], zI rf (cy 0) 240 (u2.2.2 0), zO ta 8 [vR tb, vI 0, vI n, vI (u2.2.1 0), vI (u2.2.1 1), vI (u2.2.1 2), vI (u2.2.1 3)], zI tb (cy 1) 600 bf] := hD
    refine lv_aload_n hx hb dX11_rain_31 rfl (lv_at hlv 0 rfl) ?_
    refine va_get (D := D) (ci := 11) (v := vR ta) (C := RX11) (T := TX11) (N := 14) hx hb hts hi11 hown hG.1 hP 1 rfl rfl 0 (by decide) lf10 (fun _ h9 => h9) rfl dX11_rain_32 ?_
    refine cj_i (wr := [zQ kr (cy 4) 4 krf, zO kk 11 [vR ta, vR kr, vR kl, vI nr, vI nw, vR sA, vR dA, vR pa, vR ki, vR kp, vI im, vR wa, vR or_, vR rq], zI rq (cy 0) 4 qf, zO ra 5 [vR rf, vI (u2.2.1 4)], zI rf (cy 0) 240 (u2.2.2 0), zI tb (cy 1) 600 bf]) (va_runVN (host := "KerbSplash") (As := []) (rest := []) ⟨hx, hb, hml, hown, hts⟩ (s_good l hl D cy sa ta tb 0 n (u2.2.1 0) (u2.2.1 1) (u2.2.1 2) (u2.2.1 3) H.size (by show (0 : Int) ≤ 0 ∧ (0 : Int) ≤ 600; decide) (by omega) (by first | exact hq2_0 | omega) (by first | exact hq2_1 | omega) (by first | exact hq2_2 | omega) (by first | exact hq2_3 | omega)) ⟨va_cnB 0 hts gg_3 rfl rfl rfl (nM_K_96 hG.2.1) ini_RX8 (by decide +kernel) ⟨Nat.le_of_ble_eq_true rfl, Nat.le_of_ble_eq_true rfl⟩, im_X8_good, se_X8_good⟩ ⟨pcW.blind, (va_recv hG.1 hP (ci := 8) (q0 := 5) rfl rfl), (pcW.mk hP hD hS hA hG hT [5] rfl (by decide))⟩ rfl rfl hlv.1 rfl (lv_room (Nat.le_of_ble_eq_true rfl)) dX11_rain_35 ⟨Nat.le_of_ble_eq_true rfl, Nat.le_of_ble_eq_true rfl⟩) hP hD hS hA [5] [0, 1, 2, 3, 4, 6] rfl rfl (by decide) (by decide) (fun r3 u3 H locs hw3 hP hD hS => ?_)
    obtain ⟨rfl, hq3_1, hq3_2, hq3_3⟩ := hw3
    have hP : va_P D vwCl [zQ kr (cy 4) 4 krf, zO kk 11 [vR ta, vR kr, vR kl, vI nr, vI nw, vR sA, vR dA, vR pa, vR ki, vR kp, vI im, vR wa, vR or_, vR rq], zI rq (cy 0) 4 qf, zO ra 5 [vR rf, vI (u2.2.1 4)], zI rf (cy 0) 240 (u2.2.2 0), zI tb (cy 1) 600 bf, zO ta 8 [vR tb, vI 0, vI n, vI (u2.2.1 0), vI (u2.2.1 1), vI (u2.2.1 2), vI (u2.2.1 3)]] H := hP
    have hD : va_D A [zQ kr (cy 4) 4 krf, zO kk 11 [vR ta, vR kr, vR kl, vI nr, vI nw, vR sA, vR dA, vR pa, vR ki, vR kp, vI im, vR wa, vR or_, vR rq], zI rq (cy 0) 4 qf, zO ra 5 [vR rf, vI (u2.2.1 4)], zI rf (cy 0) 240 (u2.2.2 0), zI tb (cy 1) 600 bf, zO ta 8 [vR tb, vI 0, vI n, vI (u2.2.1 0), vI (u2.2.1 1), vI (u2.2.1 2), vI (u2.2.1 3)]] := hD
    refine iz_ne (tgt := 52) hx hb dX11_rain_38 (by decide) (by first | exact rgw hq3_1 (by decide) (by decide) | omega) (fun c_2 => ?_) (fun c_2 => ?_)
    · refine lv_aload_n hx hb dX11_rain_52 rfl (lv_at hlv 0 rfl) ?_
      refine lv_dup hx hb dX11_rain_53 rfl ?_
      refine va_get (D := D) (ci := 11) (v := vI nr) (C := RX11) (T := TX11) (N := 14) hx hb hts hi11 hown hG.1 hP 1 rfl rfl 3 (by decide) lf112 (fun _ h9 => h9) rfl dX11_rain_54 ?_
      refine lv_iconst (v := iI 1) hx hb dX11_rain_57 (by decide) ?_
      refine lv_iadd hx hb dX11_rain_58 ?_
      refine lt_e (e0 := nr + 1) (Int32.ofInt_add _ _).symm (fun z_3 hz_3 => ?_)
      refine va_put (D := D) (ci := 11) (v := vI z_3) (ty := .int) (C := RX11) (T := TX11) (N := 14) hx hb hts hi11 tyX11 tyX11_ok nmX11 hown hG.1 hP hD hS 1 rfl rfl 3 (by decide) lf112 (fun _ h9 => h9) rfl (by decide +kernel) rfl rfl (Nat.le_of_ble_eq_true rfl) dX11_rain_59 (fun H locs hP hD hS => ?_)
      have hP : va_P D vwCl [zQ kr (cy 4) 4 krf, zO kk 11 [vR ta, vR kr, vR kl, vI z_3, vI nw, vR sA, vR dA, vR pa, vR ki, vR kp, vI im, vR wa, vR or_, vR rq], zI rq (cy 0) 4 qf, zO ra 5 [vR rf, vI (u2.2.1 4)], zI rf (cy 0) 240 (u2.2.2 0), zI tb (cy 1) 600 bf, zO ta 8 [vR tb, vI 0, vI n, vI (u2.2.1 0), vI (u2.2.1 1), vI (u2.2.1 2), vI (u2.2.1 3)]] H := hP
      have hD : va_D A [zQ kr (cy 4) 4 krf, zO kk 11 [vR ta, vR kr, vR kl, vI z_3, vI nw, vR sA, vR dA, vR pa, vR ki, vR kp, vI im, vR wa, vR or_, vR rq], zI rq (cy 0) 4 qf, zO ra 5 [vR rf, vI (u2.2.1 4)], zI rf (cy 0) 240 (u2.2.2 0), zI tb (cy 1) 600 bf, zO ta 8 [vR tb, vI 0, vI n, vI (u2.2.1 0), vI (u2.2.1 1), vI (u2.2.1 2), vI (u2.2.1 3)]] := hD
      refine lv_aload_n hx hb dX11_rain_62 rfl (lv_at hlv 0 rfl) ?_
      refine va_get (D := D) (ci := 11) (v := vI z_3) (C := RX11) (T := TX11) (N := 14) hx hb hts hi11 hown hG.1 hP 1 rfl rfl 3 (by decide) lf112 (fun _ h9 => h9) rfl dX11_rain_63 ?_
      refine lv_iconst (v := iI 1) hx hb dX11_rain_66 (by decide) ?_
      refine lv_isub hx hb dX11_rain_67 ?_
      refine lt_e (e0 := z_3 - 1) (Int32.ofInt_sub _ _).symm (fun z_4 hz_4 => ?_)
      refine W.widen (k := 1) (n := 6) (Nat.le_of_ble_eq_true rfl) (Nat.le_of_ble_eq_true rfl) ?_
      refine vx_ret ?_
      exact W.iret (v := iI z_4) hx hb hr (fun t ht hW => ⟨⟨iI z_4, ((fun k => ([] : List Nat).getD k 0), (fun k => ([z_4, 0, n, (u2.2.1 0), (u2.2.1 1), (u2.2.1 2), (u2.2.1 3), z_3, (u2.2.1 4)] : List Int).getD k 0), (fun k => ([(u2.2.2 0)] : List (Nat → Int32)).getD k (fun _ => 0))), rfl, ⟨rfl, (by show ((-2147483648) ≤ z_4 ∧ z_4 ≤ 2147483647); omega), (by show (0 ≤ 0 ∧ 0 ≤ 600); show (0 : Int) ≤ 0 ∧ (0 : Int) ≤ 600; decide), (by show (0 ≤ n ∧ n ≤ 600); omega), (by show (0 ≤ (u2.2.1 0) ∧ (u2.2.1 0) ≤ 600); first | exact hq2_0 | omega), (by show (0 ≤ (u2.2.1 1) ∧ (u2.2.1 1) ≤ 600); first | exact hq2_1 | omega), (by show (0 ≤ (u2.2.1 2) ∧ (u2.2.1 2) ≤ 4); first | exact hq2_2 | omega), (by show ((-1) ≤ (u2.2.1 3) ∧ (u2.2.1 3) ≤ 600); first | exact hq2_3 | omega), (by show (0 ≤ z_3 ∧ z_3 ≤ 4); omega), (by show (0 ≤ (u2.2.1 4) ∧ (u2.2.1 4) ≤ 240); first | exact hq2_4 | omega), (by show (0 ≤ n ∧ n ≤ fed ∧ 0 = 0); omega), hq2_5⟩, by rw [ht]; exact hP.sub [1, 2, 6, 5, 0, 3, 4] rfl, hD.sub [1, 2, 6, 5, 0, 3, 4] (by decide) rfl⟩, hS.F ht⟩) hS.2.2 dX11_rain_68
    · refine lv_aload_n hx hb dX11_rain_41 rfl (lv_at hlv 0 rfl) ?_
      refine va_get (D := D) (ci := 11) (v := vR ta) (C := RX11) (T := TX11) (N := 14) hx hb hts hi11 hown hG.1 hP 1 rfl rfl 0 (by decide) lf10 (fun _ h9 => h9) rfl dX11_rain_42 ?_
      refine va_getN (D := D) (ci := 8) (v := vI (u2.2.1 2)) (C := RX8) (T := TX8) (N := 7) hx hb hts hi8 hown hG.1 hP 6 rfl rfl 5 (by decide) (va_Nw.use rfl (nF_K_99 hG.2.1)) (fun _ h9 => h9) rfl dX11_rain_45 ?_
      refine lv_bipush (v := iI 10) hx hb dX11_rain_48 (by decide) ?_
      refine lv_isub hx hb dX11_rain_50 ?_
      refine lt_e (e0 := (u2.2.1 2) - 10) (Int32.ofInt_sub _ _).symm (fun z_5 hz_5 => ?_)
      refine W.widen (k := 1) (n := 6) (Nat.le_of_ble_eq_true rfl) (Nat.le_of_ble_eq_true rfl) ?_
      refine vx_ret ?_
      exact W.iret (v := iI z_5) hx hb hr (fun t ht hW => ⟨⟨iI z_5, ((fun k => ([] : List Nat).getD k 0), (fun k => ([z_5, 0, n, (u2.2.1 0), (u2.2.1 1), (u2.2.1 2), (u2.2.1 3), nr, (u2.2.1 4)] : List Int).getD k 0), (fun k => ([(u2.2.2 0)] : List (Nat → Int32)).getD k (fun _ => 0))), rfl, ⟨rfl, (by show ((-2147483648) ≤ z_5 ∧ z_5 ≤ 2147483647); omega), (by show (0 ≤ 0 ∧ 0 ≤ 600); show (0 : Int) ≤ 0 ∧ (0 : Int) ≤ 600; decide), (by show (0 ≤ n ∧ n ≤ 600); omega), (by show (0 ≤ (u2.2.1 0) ∧ (u2.2.1 0) ≤ 600); first | exact hq2_0 | omega), (by show (0 ≤ (u2.2.1 1) ∧ (u2.2.1 1) ≤ 600); first | exact hq2_1 | omega), (by show (0 ≤ (u2.2.1 2) ∧ (u2.2.1 2) ≤ 4); first | exact hq2_2 | omega), (by show ((-1) ≤ (u2.2.1 3) ∧ (u2.2.1 3) ≤ 600); first | exact hq2_3 | omega), (by show (0 ≤ nr ∧ nr ≤ 4); first | exact hr_nr | omega), (by show (0 ≤ (u2.2.1 4) ∧ (u2.2.1 4) ≤ 240); first | exact hq2_4 | omega), (by show (0 ≤ n ∧ n ≤ fed ∧ 0 = 0); omega), hq2_5⟩, by rw [ht]; exact hP.sub [1, 2, 6, 5, 0, 3, 4] rfl, hD.sub [1, 2, 6, 5, 0, 3, 4] (by decide) rfl⟩, hS.F ht⟩) hS.2.2 dX11_rain_51
  · refine lv_iconst (v := iI (-1)) hx hb dX11_rain_13 (by decide) ?_
    refine W.widen (k := 1) (n := 6) (Nat.le_of_ble_eq_true rfl) (Nat.le_of_ble_eq_true rfl) ?_
    refine vx_ret ?_
    exact W.iret (v := iI (-1)) hx hb hr (fun t ht hW => ⟨⟨iI (-1), ((fun k => ([] : List Nat).getD k 0), (fun k => ([(-1), 0, n, 0, 0, 0, (-1), nr, rm] : List Int).getD k 0), (fun k => ([ff] : List (Nat → Int32)).getD k (fun _ => 0))), rfl, ⟨rfl, (by show ((-2147483648) ≤ (-1) ∧ (-1) ≤ 2147483647); show ((-2147483648) : Int) ≤ (-1) ∧ ((-1) : Int) ≤ 2147483647; decide), (by show (0 ≤ 0 ∧ 0 ≤ 600); show (0 : Int) ≤ 0 ∧ (0 : Int) ≤ 600; decide), (by show (0 ≤ n ∧ n ≤ 600); omega), (by show (0 ≤ 0 ∧ 0 ≤ 600); show (0 : Int) ≤ 0 ∧ (0 : Int) ≤ 600; decide), (by show (0 ≤ 0 ∧ 0 ≤ 600); show (0 : Int) ≤ 0 ∧ (0 : Int) ≤ 600; decide), (by show (0 ≤ 0 ∧ 0 ≤ 4); show (0 : Int) ≤ 0 ∧ (0 : Int) ≤ 4; decide), (by show ((-1) ≤ (-1) ∧ (-1) ≤ 600); show ((-1) : Int) ≤ (-1) ∧ ((-1) : Int) ≤ 600; decide), (by show (0 ≤ nr ∧ nr ≤ 4); first | exact hr_nr | omega), (by show (0 ≤ rm ∧ rm ≤ 240); first | exact hr_rm | omega), (by show (0 ≤ n ∧ n ≤ fed ∧ 0 = 0); omega), hff⟩, by rw [ht]; exact hP.sub [4, 5, 6, 0, 1, 2, 3] rfl, hD.sub [4, 5, 6, 0, 1, 2, 3] (by decide) rfl⟩, hS.F ht⟩) hS.2.2 dX11_rain_14
def vs_k_law : List Cond := .code yX11_law cX11_law 2 (some .int) :: (([.fieldLink RX11 118 "KerbSplash" "lawsTold" "I", .classLink RX11 121 RX2, .instantiable RX2 3, .initialized RX2, .fieldLink RX11 10 "KerbSplash" "tape" "LKerbSplash$Tape;", .fieldLink RX11 24 "KerbSplash" "laws" "[LKerbSplash$Law;", .instanceMethod yX2_init, .instanceMethod yX2_read, .selects RX2 yX2_read yX2_read, .initialized RX8, .instanceMethod yX8_good, .selects RX8 yX8_good yX8_good] : List Cond) ++ ((wsV RX11 85 RX11 yX11_beginText vs_k_begin) ++ ((wsX110) ++ ((wsX20) ++ ((vs_k_lrinit) ++ ((vs_w_read) ++ ((vs_s_good) ++ ((wsX80) ++ ([])))))))))
theorem gd_k_law : vs_k_law.all goodWord = true := gd_C (by decide +kernel) (gd_A (by decide +kernel) (gd_A (gd_V gd_k_begin (by decide +kernel)) (gd_A (by decide +kernel) (gd_A (by decide +kernel) (gd_A gd_k_lrinit (gd_A gd_w_read (gd_A gd_s_good (gd_A (by decide +kernel) rfl))))))))
set_option maxHeartbeats 4000000 in
set_option maxRecDepth 100000 in
theorem k_law (l : Launch) (hl : l.stackTraces = false) (D : va_G) (cy : Nat → ClassId) (sa : Nat → Nat) (kk ta kr kl sA dA pa ki kp wa or_ rq : Nat) (nr nw im : Int) (qf : Nat → Int32) (tb : Nat) (fed len at_ we fa fp : Int) (bf : Nat → Int32) (klf : Nat → Option Nat) (la l0 l2 l3 : Nat) (size : Int) (st sf : Nat → Int32) (n : Int) (sz : Nat) (hr_nr : 0 ≤ nr ∧ nr ≤ 4) (hr_nw : 0 ≤ nw ∧ nw ≤ 4) (hr_im : 0 ≤ im ∧ im ≤ 3) (hr_fed : 0 ≤ fed ∧ fed ≤ 600) (hr_len : 0 ≤ len ∧ len ≤ 600) (hr_at_ : 0 ≤ at_ ∧ at_ ≤ 600) (hr_we : 0 ≤ we ∧ we ≤ 600) (hr_fa : 0 ≤ fa ∧ fa ≤ 4) (hr_fp : (-1) ≤ fp ∧ fp ≤ 600) (hr_size : 0 ≤ size ∧ size ≤ 600) (hr_n : (-2147483648) ≤ n ∧ n ≤ 2147483647) (hp0 : nw < 4 → klf nw.toNat = some la) (hst : inv_ 600 0 2147483647 st) : vx_Met l yX11_law vs_k_law ({ frames := 89, cells := 2, slots := 9, locals := 6443 }) (va_Pc [vR kk, vI n] (pcW D cy sa sz [zO kk 11 [vR ta, vR kr, vR kl, vI nr, vI nw, vR sA, vR dA, vR pa, vR ki, vR kp, vI im, vR wa, vR or_, vR rq], zI rq (cy 0) 4 qf, zO ta 8 [vR tb, vI fed, vI len, vI at_, vI we, vI fa, vI fp], zI tb (cy 1) 600 bf, zQ kl (cy 5) 4 klf, zO la 1 [vR l0, vI size, vR l2, vR l3], zI l0 (cy 0) 600 st, zI l2 (cy 0) 5 sf])) (va_Qi (fun (r : Int32) (u : SV) => r = iI (u.2.1 0) ∧ ((-2147483648) ≤ u.2.1 0 ∧ u.2.1 0 ≤ 2147483647) ∧ (0 ≤ u.2.1 1 ∧ u.2.1 1 ≤ 600) ∧ (0 ≤ u.2.1 2 ∧ u.2.1 2 ≤ 600) ∧ (0 ≤ u.2.1 3 ∧ u.2.1 3 ≤ 600) ∧ (0 ≤ u.2.1 4 ∧ u.2.1 4 ≤ 600) ∧ (0 ≤ u.2.1 5 ∧ u.2.1 5 ≤ 4) ∧ ((-1) ≤ u.2.1 6 ∧ u.2.1 6 ≤ 600) ∧ (0 ≤ u.2.1 7 ∧ u.2.1 7 ≤ 4) ∧ (0 ≤ u.2.1 8 ∧ u.2.1 8 ≤ 600) ∧ (0 ≤ n ∧ n ≤ fed ∧ u.2.1 1 = 0) ∧ inv_ 600 0 2147483647 (u.2.2 0)) (fun u t => atW D (va_A [zO kk 11 [vR ta, vR kr, vR kl, vI nr, vI nw, vR sA, vR dA, vR pa, vR ki, vR kp, vI im, vR wa, vR or_, vR rq], zI rq (cy 0) 4 qf, zO ta 8 [vR tb, vI fed, vI len, vI at_, vI we, vI fa, vI fp], zI tb (cy 1) 600 bf, zQ kl (cy 5) 4 klf, zO la 1 [vR l0, vI size, vR l2, vR l3], zI l0 (cy 0) 600 st, zI l2 (cy 0) 5 sf] sz) [zO kk 11 [vR ta, vR kr, vR kl, vI nr, vI (u.2.1 7), vR sA, vR dA, vR pa, vR ki, vR kp, vI im, vR wa, vR or_, vR rq], zI rq (cy 0) 4 qf, zO ta 8 [vR tb, vI (u.2.1 1), vI (u.2.1 2), vI (u.2.1 3), vI (u.2.1 4), vI (u.2.1 5), vI (u.2.1 6)], zI tb (cy 1) 600 bf, zQ kl (cy 5) 4 klf, zO la 1 [vR l0, vI (u.2.1 8), vR l2, vR l3], zI l0 (cy 0) 600 (u.2.2 0), zI l2 (cy 0) 5 (u.2.2 1)] t) (va_A [zO kk 11 [vR ta, vR kr, vR kl, vI nr, vI nw, vR sA, vR dA, vR pa, vR ki, vR kp, vI im, vR wa, vR or_, vR rq], zI rq (cy 0) 4 qf, zO ta 8 [vR tb, vI fed, vI len, vI at_, vI we, vI fa, vI fp], zI tb (cy 1) 600 bf, zQ kl (cy 5) 4 klf, zO la 1 [vR l0, vI size, vR l2, vR l3], zI l0 (cy 0) 600 st, zI l2 (cy 0) 5 sf] sz)) (xcW2 D (fun (E : String) (u : SV) => (E = "java/lang/IllegalArgumentException") ∧ (¬ (0 ≤ n ∧ n ≤ fed))) (va_A [zO kk 11 [vR ta, vR kr, vR kl, vI nr, vI nw, vR sA, vR dA, vR pa, vR ki, vR kp, vI im, vR wa, vR or_, vR rq], zI rq (cy 0) 4 qf, zO ta 8 [vR tb, vI fed, vI len, vI at_, vI we, vI fa, vI fp], zI tb (cy 1) 600 bf, zQ kl (cy 5) 4 klf, zO la 1 [vR l0, vI size, vR l2, vR l3], zI l0 (cy 0) 600 st, zI l2 (cy 0) 5 sf] sz) (fun u : SV => [zO kk 11 [vR ta, vR kr, vR kl, vI nr, vI nw, vR sA, vR dA, vR pa, vR ki, vR kp, vI im, vR wa, vR or_, vR rq], zI rq (cy 0) 4 (u.2.2 0), zO ta 8 [vR tb, vI fed, vI len, vI at_, vI we, vI fa, vI fp], zI tb (cy 1) 600 bf, zQ kl (cy 5) 4 klf, zO la 1 [vR l0, vI size, vR l2, vR l3], zI l0 (cy 0) 600 st, zI l2 (cy 0) 5 sf])) 2 9 (va_A [zO kk 11 [vR ta, vR kr, vR kl, vI nr, vI nw, vR sA, vR dA, vR pa, vR ki, vR kp, vI im, vR wa, vR or_, vR rq], zI rq (cy 0) 4 qf, zO ta 8 [vR tb, vI fed, vI len, vI at_, vI we, vI fa, vI fp], zI tb (cy 1) 600 bf, zQ kl (cy 5) 4 klf, zO la 1 [vR l0, vI size, vR l2, vR l3], zI l0 (cy 0) 600 st, zI l2 (cy 0) 5 sf] sz) := by
  refine vx_ofW (cc := cX11_law) (maxL := 2) (ret := (some .int)) (by decide) rfl ?_
  intro p e s m args below meth c s₁ B hml hex hv
  obtain ⟨rfl, hsz, hP, hG, hD0, hT⟩ := hv
  have hx := B.exec
  have hb := B.bytes
  have hr := B.returns
  have hts := atoms_spec (ws := vs_k_law) B.pre
  have hown : s.vm.findClass RX11 = some m.cls := findClass_of_methodNamed B.named
  have hlocks := B.notSynchronized
  subst hsz
  have hD := hD0.self (sz := s.heap.size)
  generalize hAe : va_A [zO kk 11 [vR ta, vR kr, vR kl, vI nr, vI nw, vR sA, vR dA, vR pa, vR ki, vR kp, vI im, vR wa, vR or_, vR rq], zI rq (cy 0) 4 qf, zO ta 8 [vR tb, vI fed, vI len, vI at_, vI we, vI fa, vI fp], zI tb (cy 1) 600 bf, zQ kl (cy 5) 4 klf, zO la 1 [vR l0, vI size, vR l2, vR l3], zI l0 (cy 0) 600 st, zI l2 (cy 0) 5 sf] s.heap.size = A at hD hT ⊢
  have hA : ∀ q : Nat, s.heap.size ≤ q → A q := fun q h => by rw [← hAe]; exact Or.inr h
  have hS : va_S A s.heap s.heap [] := va_S.rf
  have hl0 := lv_entry ([vR kk, vI n]) (n := 2) (Nat.le_of_ble_eq_true rfl)
  rw [lg_entry_eq]
  generalize (lg_sl ([vR kk, vI n]) ++ List.replicate (2 - (lg_sl ([vR kk, vI n])).length) Slot.unset).toArray = ls at hl0 ⊢
  have hlv : lv_has ls 2 [(0, vR kk), (1, vI n)] := hl0
  have gg_0 : GoodIn vs_k_law (wsV RX11 85 RX11 yX11_beginText vs_k_begin) := goodIn_sub (fun w h => List.mem_cons_of_mem _ (List.mem_append_right _ (List.mem_append_left _ h))) (gd_V gd_k_begin (by decide +kernel))
  have lf118 := hts (.fieldLink RX11 118 "KerbSplash" "lawsTold" "I") (List.mem_of_getElem? (i := 1) rfl)
  have hi11 : ∀ w ∈ wsX110, w ∈ vs_k_law := fun w h => List.mem_cons_of_mem _ (List.mem_append_right _ (List.mem_append_right _ (List.mem_append_left _ h)))
  have cl121 := hts (.classLink RX11 121 RX2) (List.mem_of_getElem? (i := 2) rfl)
  have in2 := hts (.instantiable RX2 3) (List.mem_of_getElem? (i := 3) rfl)
  have ini2 := hts (.initialized RX2) (List.mem_of_getElem? (i := 4) rfl)
  have hi2 : ∀ w ∈ wsX20, w ∈ vs_k_law := fun w h => List.mem_cons_of_mem _ (List.mem_append_right _ (List.mem_append_right _ (List.mem_append_right _ (List.mem_append_left _ h))))
  have lf10 := hts (.fieldLink RX11 10 "KerbSplash" "tape" "LKerbSplash$Tape;") (List.mem_of_getElem? (i := 5) rfl)
  have lf24 := hts (.fieldLink RX11 24 "KerbSplash" "laws" "[LKerbSplash$Law;") (List.mem_of_getElem? (i := 6) rfl)
  have gg_3 : GoodIn vs_k_law (vs_k_lrinit) := goodIn_sub (fun w h => List.mem_cons_of_mem _ (List.mem_append_right _ (List.mem_append_right _ (List.mem_append_right _ (List.mem_append_right _ (List.mem_append_left _ h)))))) gd_k_lrinit
  have ini_RX2 := hts (.initialized RX2) (List.mem_of_getElem? (i := 4) rfl)
  have im_X2_init := hts (.instanceMethod yX2_init) (List.mem_of_getElem? (i := 7) rfl)
  have gg_4 : GoodIn vs_k_law (vs_w_read) := goodIn_sub (fun w h => List.mem_cons_of_mem _ (List.mem_append_right _ (List.mem_append_right _ (List.mem_append_right _ (List.mem_append_right _ (List.mem_append_right _ (List.mem_append_left _ h))))))) gd_w_read
  have im_X2_read := hts (.instanceMethod yX2_read) (List.mem_of_getElem? (i := 8) rfl)
  have se_X2_read := hts (.selects RX2 yX2_read yX2_read) (List.mem_of_getElem? (i := 9) rfl)
  have gg_5 : GoodIn vs_k_law (vs_s_good) := goodIn_sub (fun w h => List.mem_cons_of_mem _ (List.mem_append_right _ (List.mem_append_right _ (List.mem_append_right _ (List.mem_append_right _ (List.mem_append_right _ (List.mem_append_right _ (List.mem_append_left _ h)))))))) gd_s_good
  have ini_RX8 := hts (.initialized RX8) (List.mem_of_getElem? (i := 10) rfl)
  have im_X8_good := hts (.instanceMethod yX8_good) (List.mem_of_getElem? (i := 11) rfl)
  have se_X8_good := hts (.selects RX8 yX8_good yX8_good) (List.mem_of_getElem? (i := 12) rfl)
  have hi8 : ∀ w ∈ wsX80, w ∈ vs_k_law := fun w h => List.mem_cons_of_mem _ (List.mem_append_right _ (List.mem_append_right _ (List.mem_append_right _ (List.mem_append_right _ (List.mem_append_right _ (List.mem_append_right _ (List.mem_append_right _ (List.mem_append_left _ h))))))))
  refine lv_aload_n hx hb dX11_law_0 rfl (lv_at hlv 0 rfl) ?_
  refine lv_iload_n hx hb dX11_law_1 rfl (lv_at hlv 1 rfl) ?_
  refine cjx2_v (wr := [zI tb (cy 1) 600 bf, zQ kl (cy 5) 4 klf, zO la 1 [vR l0, vI size, vR l2, vR l3], zI l0 (cy 0) 600 st, zI l2 (cy 0) 5 sf]) (vx_runV (As := [vI n]) (rest := []) ⟨hx, hb, hml, hown, hts⟩ (k_begin l hl D cy sa kk ta kr kl sA dA pa ki kp wa or_ rq nr nw im qf tb fed len at_ we fa fp n s.heap.size (by first | exact hr_nr | omega) (by first | exact hr_nw | omega) (by first | exact hr_im | omega) (by first | exact hr_fed | omega) (by first | exact hr_len | omega) (by first | exact hr_at_ | omega) (by first | exact hr_we | omega) (by first | exact hr_fa | omega) (by first | exact hr_fp | omega) (by first | exact hr_n | omega)) (cwV 1 hts gg_0 rfl rfl rfl (by decide +kernel) ⟨Nat.le_of_ble_eq_true rfl, Nat.le_of_ble_eq_true rfl⟩) ⟨pcW.blind, (va_recv hG.1 hP (ci := 11) (q0 := 0) rfl rfl), (pcW.mk hP hD hS hA hG hT [0, 1, 2] rfl (by decide))⟩ rfl rfl hlv.1 rfl (lv_room (Nat.le_of_ble_eq_true rfl)) dX11_law_2 ⟨Nat.le_of_ble_eq_true rfl, Nat.le_of_ble_eq_true rfl⟩) hP hD hS hA [0, 1, 2] [3, 4, 5, 6, 7] rfl rfl (by decide) (by decide) (fun E ux1 ce q9 H locs hp hP hD hS h1 h2 h3 => ?_) (fun u1 H locs hw1 hP hD hS => ?_)
  · have hP : va_P D vwCl [zI tb (cy 1) 600 bf, zQ kl (cy 5) 4 klf, zO la 1 [vR l0, vI size, vR l2, vR l3], zI l0 (cy 0) 600 st, zI l2 (cy 0) 5 sf, zO kk 11 [vR ta, vR kr, vR kl, vI nr, vI nw, vR sA, vR dA, vR pa, vR ki, vR kp, vI im, vR wa, vR or_, vR rq], zI rq (cy 0) 4 (ux1.2.2 0), zO ta 8 [vR tb, vI fed, vI len, vI at_, vI we, vI fa, vI fp]] H := hP
    have hD : va_D A [zI tb (cy 1) 600 bf, zQ kl (cy 5) 4 klf, zO la 1 [vR l0, vI size, vR l2, vR l3], zI l0 (cy 0) 600 st, zI l2 (cy 0) 5 sf, zO kk 11 [vR ta, vR kr, vR kl, vI nr, vI nw, vR sA, vR dA, vR pa, vR ki, vR kp, vI im, vR wa, vR or_, vR rq], zI rq (cy 0) 4 (ux1.2.2 0), zO ta 8 [vR tb, vI fed, vI len, vI at_, vI we, vI fa, vI fp]] := hD
    obtain ⟨hp, hxg1⟩ := hp
    obtain rfl := hp
    exact vx_out (fun x h => (hex x h).elim) hlocks h1 h2 h3 (fun t ht hvm => ⟨((fun k => ([] : List Nat).getD k 0), (fun k => ([] : List Int).getD k 0), (fun k => ([(ux1.2.2 0)] : List (Nat → Int32)).getD k (fun _ => 0))), trivial, ⟨⟨rfl, by omega⟩, by rw [ht]; exact hP.sub [5, 6, 7, 0, 1, 2, 3, 4] rfl, hD.sub [5, 6, 7, 0, 1, 2, 3, 4] (by decide) rfl⟩, hS.F ht⟩) hS.2.2 (Nat.le_of_ble_eq_true rfl) (Nat.le_of_ble_eq_true rfl)
  have hq1_0 : ((0 : Int) ≤ n ∧ n ≤ fed) := hw1
  have hP : va_P D vwCl [zI tb (cy 1) 600 bf, zQ kl (cy 5) 4 klf, zO la 1 [vR l0, vI size, vR l2, vR l3], zI l0 (cy 0) 600 st, zI l2 (cy 0) 5 sf, zO kk 11 [vR ta, vR kr, vR kl, vI nr, vI nw, vR sA, vR dA, vR pa, vR ki, vR kp, vI im, vR wa, vR or_, vR rq], zI rq (cy 0) 4 qf, zO ta 8 [vR tb, vI 0, vI n, vI 0, vI 0, vI 0, vI (-1)]] H := hP
  have hD : va_D A [zI tb (cy 1) 600 bf, zQ kl (cy 5) 4 klf, zO la 1 [vR l0, vI size, vR l2, vR l3], zI l0 (cy 0) 600 st, zI l2 (cy 0) 5 sf, zO kk 11 [vR ta, vR kr, vR kl, vI nr, vI nw, vR sA, vR dA, vR pa, vR ki, vR kp, vI im, vR wa, vR or_, vR rq], zI rq (cy 0) 4 qf, zO ta 8 [vR tb, vI 0, vI n, vI 0, vI 0, vI 0, vI (-1)]] := hD
  refine lv_aload_n hx hb dX11_law_5 rfl (lv_at hlv 0 rfl) ?_
  refine va_get (D := D) (ci := 11) (v := vI nw) (C := RX11) (T := TX11) (N := 14) hx hb hts hi11 hown hG.1 hP 5 rfl rfl 4 (by decide) lf118 (fun _ h9 => h9) rfl dX11_law_6 ?_
  refine lv_iconst (v := iI 4) hx hb dX11_law_9 (by decide) ?_
  refine ir_lt (tgt := 15) hx hb dX11_law_10 (by decide) (by first | exact rgw hr_nw (by decide) (by decide) | omega) (by show ((-2147483648) : Int) ≤ 4 ∧ (4 : Int) ≤ 2147483647; decide) (fun c_1 => ?_) (fun c_1 => ?_)
  · refine va_new (ci := 2) (fs := [vN, vN, vI 0]) (C := RX2) (T := TX2) (N := 3) hx hb hts hi2 tyX2 tyX2_ok hown cl121 in2 ini2 hG.1 hP hD hS hA rfl (by decide) (Nat.le_of_ble_eq_true rfl) (Nat.le_of_ble_eq_true rfl) dX11_law_15 (fun q_2 H hP hD hS => ?_)
    have hP : va_P D vwCl [zI tb (cy 1) 600 bf, zQ kl (cy 5) 4 klf, zO la 1 [vR l0, vI size, vR l2, vR l3], zI l0 (cy 0) 600 st, zI l2 (cy 0) 5 sf, zO kk 11 [vR ta, vR kr, vR kl, vI nr, vI nw, vR sA, vR dA, vR pa, vR ki, vR kp, vI im, vR wa, vR or_, vR rq], zI rq (cy 0) 4 qf, zO ta 8 [vR tb, vI 0, vI n, vI 0, vI 0, vI 0, vI (-1)], zO q_2 2 [vN, vN, vI 0]] H := hP
    have hD : va_D A [zI tb (cy 1) 600 bf, zQ kl (cy 5) 4 klf, zO la 1 [vR l0, vI size, vR l2, vR l3], zI l0 (cy 0) 600 st, zI l2 (cy 0) 5 sf, zO kk 11 [vR ta, vR kr, vR kl, vI nr, vI nw, vR sA, vR dA, vR pa, vR ki, vR kp, vI im, vR wa, vR or_, vR rq], zI rq (cy 0) 4 qf, zO ta 8 [vR tb, vI 0, vI n, vI 0, vI 0, vI 0, vI (-1)], zO q_2 2 [vN, vN, vI 0]] := hD
    refine lv_dup hx hb dX11_law_18 rfl ?_
    refine lv_aload_n hx hb dX11_law_19 rfl (lv_at hlv 0 rfl) ?_
    refine va_get (D := D) (ci := 11) (v := vR ta) (C := RX11) (T := TX11) (N := 14) hx hb hts hi11 hown hG.1 hP 5 rfl rfl 0 (by decide) lf10 (fun _ h9 => h9) rfl dX11_law_20 ?_
    refine lv_aload_n hx hb dX11_law_23 rfl (lv_at hlv 0 rfl) ?_
    refine va_get (D := D) (ci := 11) (v := vR kl) (C := RX11) (T := TX11) (N := 14) hx hb hts hi11 hown hG.1 hP 5 rfl rfl 2 (by decide) lf24 (fun _ h9 => h9) rfl dX11_law_24 ?_
    refine lv_aload_n hx hb dX11_law_27 rfl (lv_at hlv 0 rfl) ?_
    refine va_get (D := D) (ci := 11) (v := vI nw) (C := RX11) (T := TX11) (N := 14) hx hb hts hi11 hown hG.1 hP 5 rfl rfl 4 (by decide) lf118 (fun _ h9 => h9) rfl dX11_law_28 ?_
    refine va_aldq hx hb hG.1 hP 1 5 rfl rfl (iI_in (by omega) (by decide)) dX11_law_31 ?_
    refine ltv (y := vR la) (by rw [iI_cl (by omega) (by omega), hp0 (by omega)]; rfl) ?_
    refine cj_v (wr := [zI tb (cy 1) 600 bf, zQ kl (cy 5) 4 klf, zO la 1 [vR l0, vI size, vR l2, vR l3], zI l0 (cy 0) 600 st, zI l2 (cy 0) 5 sf, zO kk 11 [vR ta, vR kr, vR kl, vI nr, vI nw, vR sA, vR dA, vR pa, vR ki, vR kp, vI im, vR wa, vR or_, vR rq], zI rq (cy 0) 4 qf, zO ta 8 [vR tb, vI 0, vI n, vI 0, vI 0, vI 0, vI (-1)]]) (va_runIN (host := "KerbSplash") (As := [vR ta, vR la]) (rest := [vR q_2]) ⟨hx, hb, hml, hown, hts⟩ (k_lrinit l hl D cy sa q_2 ta la H.size) ⟨va_cnB 2 hts gg_3 rfl rfl rfl (nM_K_123 hG.2.1) ini_RX2 (by decide +kernel) ⟨Nat.le_of_ble_eq_true rfl, Nat.le_of_ble_eq_true rfl⟩, rfl, im_X2_init⟩ ⟨pcW.blind, (pcW.mk hP hD hS hA hG hT [8] rfl (by decide))⟩ rfl rfl hlv.1 rfl (lv_room (Nat.le_of_ble_eq_true rfl)) dX11_law_32 ⟨Nat.le_of_ble_eq_true rfl, Nat.le_of_ble_eq_true rfl⟩) hP hD hS hA [8] [0, 1, 2, 3, 4, 5, 6, 7] rfl rfl (by decide) (by decide) (fun u2 H locs hw2 hP hD hS => ?_)
    have hP : va_P D vwCl [zI tb (cy 1) 600 bf, zQ kl (cy 5) 4 klf, zO la 1 [vR l0, vI size, vR l2, vR l3], zI l0 (cy 0) 600 st, zI l2 (cy 0) 5 sf, zO kk 11 [vR ta, vR kr, vR kl, vI nr, vI nw, vR sA, vR dA, vR pa, vR ki, vR kp, vI im, vR wa, vR or_, vR rq], zI rq (cy 0) 4 qf, zO ta 8 [vR tb, vI 0, vI n, vI 0, vI 0, vI 0, vI (-1)], zO q_2 2 [vR ta, vR la, vI 0]] H := hP
    have hD : va_D A [zI tb (cy 1) 600 bf, zQ kl (cy 5) 4 klf, zO la 1 [vR l0, vI size, vR l2, vR l3], zI l0 (cy 0) 600 st, zI l2 (cy 0) 5 sf, zO kk 11 [vR ta, vR kr, vR kl, vI nr, vI nw, vR sA, vR dA, vR pa, vR ki, vR kp, vI im, vR wa, vR or_, vR rq], zI rq (cy 0) 4 qf, zO ta 8 [vR tb, vI 0, vI n, vI 0, vI 0, vI 0, vI (-1)], zO q_2 2 [vR ta, vR la, vI 0]] := hD
    refine cj_v (wr := [zQ kl (cy 5) 4 klf, zO kk 11 [vR ta, vR kr, vR kl, vI nr, vI nw, vR sA, vR dA, vR pa, vR ki, vR kp, vI im, vR wa, vR or_, vR rq], zI rq (cy 0) 4 qf]) (va_runVN (host := "KerbSplash") (As := []) (rest := []) ⟨hx, hb, hml, hown, hts⟩ (w_read l hl D cy sa q_2 ta tb 0 n 0 0 0 (-1) bf la l0 l2 l3 size st 0 sf H.size (by show (0 : Int) ≤ 0 ∧ (0 : Int) ≤ 600; decide) (by omega) (by show (0 : Int) ≤ 0 ∧ (0 : Int) ≤ 600; decide) (by show (0 : Int) ≤ 0 ∧ (0 : Int) ≤ 600; decide) (by show (0 : Int) ≤ 0 ∧ (0 : Int) ≤ 4; decide) (by show ((-1) : Int) ≤ (-1) ∧ ((-1) : Int) ≤ 600; decide) (by first | exact hr_size | omega) (by show (0 : Int) ≤ 0 ∧ (0 : Int) ≤ 6; decide) hst) ⟨va_cnB 0 hts gg_4 rfl rfl rfl (nM_K_126 hG.2.1) ini_RX2 (by decide +kernel) ⟨Nat.le_of_ble_eq_true rfl, Nat.le_of_ble_eq_true rfl⟩, im_X2_read, se_X2_read⟩ ⟨pcW.blind, (va_recv hG.1 hP (ci := 2) (q0 := 8) rfl rfl), (pcW.mk hP hD hS hA hG hT [8, 7, 0, 2, 3, 4] rfl (by decide))⟩ rfl rfl hlv.1 rfl (lv_room (Nat.le_of_ble_eq_true rfl)) dX11_law_35 ⟨Nat.le_of_ble_eq_true rfl, Nat.le_of_ble_eq_true rfl⟩) hP hD hS hA [8, 7, 0, 2, 3, 4] [1, 5, 6] rfl rfl (by decide) (by decide) (fun u3 H locs hw3 hP hD hS => ?_)
    obtain ⟨hq3_0, hq3_1, hq3_2, hq3_3, hq3_4, hq3_5, hq3_6, hq3_7⟩ := hw3
    have hP : va_P D vwCl [zQ kl (cy 5) 4 klf, zO kk 11 [vR ta, vR kr, vR kl, vI nr, vI nw, vR sA, vR dA, vR pa, vR ki, vR kp, vI im, vR wa, vR or_, vR rq], zI rq (cy 0) 4 qf, zO q_2 2 [vR ta, vR la, vI (u3.2.1 5)], zO ta 8 [vR tb, vI 0, vI n, vI (u3.2.1 0), vI (u3.2.1 1), vI (u3.2.1 2), vI (u3.2.1 3)], zI tb (cy 1) 600 bf, zO la 1 [vR l0, vI (u3.2.1 4), vR l2, vR l3], zI l0 (cy 0) 600 (u3.2.2 0), zI l2 (cy 0) 5 (u3.2.2 1)] H := hP
    have hD : va_D A [zQ kl (cy 5) 4 klf, zO kk 11 [vR ta, vR kr, vR kl, vI nr, vI nw, vR sA, vR dA, vR pa, vR ki, vR kp, vI im, vR wa, vR or_, vR rq], zI rq (cy 0) 4 qf, zO q_2 2 [vR ta, vR la, vI (u3.2.1 5)], zO ta 8 [vR tb, vI 0, vI n, vI (u3.2.1 0), vI (u3.2.1 1), vI (u3.2.1 2), vI (u3.2.1 3)], zI tb (cy 1) 600 bf, zO la 1 [vR l0, vI (u3.2.1 4), vR l2, vR l3], zI l0 (cy 0) 600 (u3.2.2 0), zI l2 (cy 0) 5 (u3.2.2 1)] := hD
    refine lv_aload_n hx hb dX11_law_38 rfl (lv_at hlv 0 rfl) ?_
    refine va_get (D := D) (ci := 11) (v := vR ta) (C := RX11) (T := TX11) (N := 14) hx hb hts hi11 hown hG.1 hP 1 rfl rfl 0 (by decide) lf10 (fun _ h9 => h9) rfl dX11_law_39 ?_
    refine cj_i (wr := [zQ kl (cy 5) 4 klf, zO kk 11 [vR ta, vR kr, vR kl, vI nr, vI nw, vR sA, vR dA, vR pa, vR ki, vR kp, vI im, vR wa, vR or_, vR rq], zI rq (cy 0) 4 qf, zO q_2 2 [vR ta, vR la, vI (u3.2.1 5)], zI tb (cy 1) 600 bf, zO la 1 [vR l0, vI (u3.2.1 4), vR l2, vR l3], zI l0 (cy 0) 600 (u3.2.2 0), zI l2 (cy 0) 5 (u3.2.2 1)]) (va_runVN (host := "KerbSplash") (As := []) (rest := []) ⟨hx, hb, hml, hown, hts⟩ (s_good l hl D cy sa ta tb 0 n (u3.2.1 0) (u3.2.1 1) (u3.2.1 2) (u3.2.1 3) H.size (by show (0 : Int) ≤ 0 ∧ (0 : Int) ≤ 600; decide) (by omega) (by first | exact hq3_0 | omega) (by first | exact hq3_1 | omega) (by first | exact hq3_2 | omega) (by first | exact hq3_3 | omega)) ⟨va_cnB 0 hts gg_5 rfl rfl rfl (nM_K_96 hG.2.1) ini_RX8 (by decide +kernel) ⟨Nat.le_of_ble_eq_true rfl, Nat.le_of_ble_eq_true rfl⟩, im_X8_good, se_X8_good⟩ ⟨pcW.blind, (va_recv hG.1 hP (ci := 8) (q0 := 4) rfl rfl), (pcW.mk hP hD hS hA hG hT [4] rfl (by decide))⟩ rfl rfl hlv.1 rfl (lv_room (Nat.le_of_ble_eq_true rfl)) dX11_law_42 ⟨Nat.le_of_ble_eq_true rfl, Nat.le_of_ble_eq_true rfl⟩) hP hD hS hA [4] [0, 1, 2, 3, 5, 6, 7, 8] rfl rfl (by decide) (by decide) (fun r4 u4 H locs hw4 hP hD hS => ?_)
    obtain ⟨rfl, hq4_1, hq4_2, hq4_3⟩ := hw4
    have hP : va_P D vwCl [zQ kl (cy 5) 4 klf, zO kk 11 [vR ta, vR kr, vR kl, vI nr, vI nw, vR sA, vR dA, vR pa, vR ki, vR kp, vI im, vR wa, vR or_, vR rq], zI rq (cy 0) 4 qf, zO q_2 2 [vR ta, vR la, vI (u3.2.1 5)], zI tb (cy 1) 600 bf, zO la 1 [vR l0, vI (u3.2.1 4), vR l2, vR l3], zI l0 (cy 0) 600 (u3.2.2 0), zI l2 (cy 0) 5 (u3.2.2 1), zO ta 8 [vR tb, vI 0, vI n, vI (u3.2.1 0), vI (u3.2.1 1), vI (u3.2.1 2), vI (u3.2.1 3)]] H := hP
    have hD : va_D A [zQ kl (cy 5) 4 klf, zO kk 11 [vR ta, vR kr, vR kl, vI nr, vI nw, vR sA, vR dA, vR pa, vR ki, vR kp, vI im, vR wa, vR or_, vR rq], zI rq (cy 0) 4 qf, zO q_2 2 [vR ta, vR la, vI (u3.2.1 5)], zI tb (cy 1) 600 bf, zO la 1 [vR l0, vI (u3.2.1 4), vR l2, vR l3], zI l0 (cy 0) 600 (u3.2.2 0), zI l2 (cy 0) 5 (u3.2.2 1), zO ta 8 [vR tb, vI 0, vI n, vI (u3.2.1 0), vI (u3.2.1 1), vI (u3.2.1 2), vI (u3.2.1 3)]] := hD
    refine iz_ne (tgt := 59) hx hb dX11_law_45 (by decide) (by first | exact rgw hq4_1 (by decide) (by decide) | omega) (fun c_3 => ?_) (fun c_3 => ?_)
    · refine lv_aload_n hx hb dX11_law_59 rfl (lv_at hlv 0 rfl) ?_
      refine lv_dup hx hb dX11_law_60 rfl ?_
      refine va_get (D := D) (ci := 11) (v := vI nw) (C := RX11) (T := TX11) (N := 14) hx hb hts hi11 hown hG.1 hP 1 rfl rfl 4 (by decide) lf118 (fun _ h9 => h9) rfl dX11_law_61 ?_
      refine lv_iconst (v := iI 1) hx hb dX11_law_64 (by decide) ?_
      refine lv_iadd hx hb dX11_law_65 ?_
      refine lt_e (e0 := nw + 1) (Int32.ofInt_add _ _).symm (fun z_4 hz_4 => ?_)
      refine va_put (D := D) (ci := 11) (v := vI z_4) (ty := .int) (C := RX11) (T := TX11) (N := 14) hx hb hts hi11 tyX11 tyX11_ok nmX11 hown hG.1 hP hD hS 1 rfl rfl 4 (by decide) lf118 (fun _ h9 => h9) rfl (by decide +kernel) rfl rfl (Nat.le_of_ble_eq_true rfl) dX11_law_66 (fun H locs hP hD hS => ?_)
      have hP : va_P D vwCl [zQ kl (cy 5) 4 klf, zO kk 11 [vR ta, vR kr, vR kl, vI nr, vI z_4, vR sA, vR dA, vR pa, vR ki, vR kp, vI im, vR wa, vR or_, vR rq], zI rq (cy 0) 4 qf, zO q_2 2 [vR ta, vR la, vI (u3.2.1 5)], zI tb (cy 1) 600 bf, zO la 1 [vR l0, vI (u3.2.1 4), vR l2, vR l3], zI l0 (cy 0) 600 (u3.2.2 0), zI l2 (cy 0) 5 (u3.2.2 1), zO ta 8 [vR tb, vI 0, vI n, vI (u3.2.1 0), vI (u3.2.1 1), vI (u3.2.1 2), vI (u3.2.1 3)]] H := hP
      have hD : va_D A [zQ kl (cy 5) 4 klf, zO kk 11 [vR ta, vR kr, vR kl, vI nr, vI z_4, vR sA, vR dA, vR pa, vR ki, vR kp, vI im, vR wa, vR or_, vR rq], zI rq (cy 0) 4 qf, zO q_2 2 [vR ta, vR la, vI (u3.2.1 5)], zI tb (cy 1) 600 bf, zO la 1 [vR l0, vI (u3.2.1 4), vR l2, vR l3], zI l0 (cy 0) 600 (u3.2.2 0), zI l2 (cy 0) 5 (u3.2.2 1), zO ta 8 [vR tb, vI 0, vI n, vI (u3.2.1 0), vI (u3.2.1 1), vI (u3.2.1 2), vI (u3.2.1 3)]] := hD
      refine lv_aload_n hx hb dX11_law_69 rfl (lv_at hlv 0 rfl) ?_
      refine va_get (D := D) (ci := 11) (v := vI z_4) (C := RX11) (T := TX11) (N := 14) hx hb hts hi11 hown hG.1 hP 1 rfl rfl 4 (by decide) lf118 (fun _ h9 => h9) rfl dX11_law_70 ?_
      refine lv_iconst (v := iI 1) hx hb dX11_law_73 (by decide) ?_
      refine lv_isub hx hb dX11_law_74 ?_
      refine lt_e (e0 := z_4 - 1) (Int32.ofInt_sub _ _).symm (fun z_5 hz_5 => ?_)
      refine W.widen (k := 2) (n := 9) (Nat.le_of_ble_eq_true rfl) (Nat.le_of_ble_eq_true rfl) ?_
      refine vx_ret ?_
      exact W.iret (v := iI z_5) hx hb hr (fun t ht hW => ⟨⟨iI z_5, ((fun k => ([] : List Nat).getD k 0), (fun k => ([z_5, 0, n, (u3.2.1 0), (u3.2.1 1), (u3.2.1 2), (u3.2.1 3), z_4, (u3.2.1 4)] : List Int).getD k 0), (fun k => ([(u3.2.2 0), (u3.2.2 1)] : List (Nat → Int32)).getD k (fun _ => 0))), rfl, ⟨rfl, (by show ((-2147483648) ≤ z_5 ∧ z_5 ≤ 2147483647); omega), (by show (0 ≤ 0 ∧ 0 ≤ 600); show (0 : Int) ≤ 0 ∧ (0 : Int) ≤ 600; decide), (by show (0 ≤ n ∧ n ≤ 600); omega), (by show (0 ≤ (u3.2.1 0) ∧ (u3.2.1 0) ≤ 600); first | exact hq3_0 | omega), (by show (0 ≤ (u3.2.1 1) ∧ (u3.2.1 1) ≤ 600); first | exact hq3_1 | omega), (by show (0 ≤ (u3.2.1 2) ∧ (u3.2.1 2) ≤ 4); first | exact hq3_2 | omega), (by show ((-1) ≤ (u3.2.1 3) ∧ (u3.2.1 3) ≤ 600); first | exact hq3_3 | omega), (by show (0 ≤ z_4 ∧ z_4 ≤ 4); omega), (by show (0 ≤ (u3.2.1 4) ∧ (u3.2.1 4) ≤ 600); first | exact hq3_4 | omega), (by show (0 ≤ n ∧ n ≤ fed ∧ 0 = 0); omega), hq3_7⟩, by rw [ht]; exact hP.sub [1, 2, 8, 4, 0, 5, 6, 7] rfl, hD.sub [1, 2, 8, 4, 0, 5, 6, 7] (by decide) rfl⟩, hS.F ht⟩) hS.2.2 dX11_law_75
    · refine lv_aload_n hx hb dX11_law_48 rfl (lv_at hlv 0 rfl) ?_
      refine va_get (D := D) (ci := 11) (v := vR ta) (C := RX11) (T := TX11) (N := 14) hx hb hts hi11 hown hG.1 hP 1 rfl rfl 0 (by decide) lf10 (fun _ h9 => h9) rfl dX11_law_49 ?_
      refine va_getN (D := D) (ci := 8) (v := vI (u3.2.1 2)) (C := RX8) (T := TX8) (N := 7) hx hb hts hi8 hown hG.1 hP 8 rfl rfl 5 (by decide) (va_Nw.use rfl (nF_K_99 hG.2.1)) (fun _ h9 => h9) rfl dX11_law_52 ?_
      refine lv_bipush (v := iI 10) hx hb dX11_law_55 (by decide) ?_
      refine lv_isub hx hb dX11_law_57 ?_
      refine lt_e (e0 := (u3.2.1 2) - 10) (Int32.ofInt_sub _ _).symm (fun z_6 hz_6 => ?_)
      refine W.widen (k := 2) (n := 9) (Nat.le_of_ble_eq_true rfl) (Nat.le_of_ble_eq_true rfl) ?_
      refine vx_ret ?_
      exact W.iret (v := iI z_6) hx hb hr (fun t ht hW => ⟨⟨iI z_6, ((fun k => ([] : List Nat).getD k 0), (fun k => ([z_6, 0, n, (u3.2.1 0), (u3.2.1 1), (u3.2.1 2), (u3.2.1 3), nw, (u3.2.1 4)] : List Int).getD k 0), (fun k => ([(u3.2.2 0), (u3.2.2 1)] : List (Nat → Int32)).getD k (fun _ => 0))), rfl, ⟨rfl, (by show ((-2147483648) ≤ z_6 ∧ z_6 ≤ 2147483647); omega), (by show (0 ≤ 0 ∧ 0 ≤ 600); show (0 : Int) ≤ 0 ∧ (0 : Int) ≤ 600; decide), (by show (0 ≤ n ∧ n ≤ 600); omega), (by show (0 ≤ (u3.2.1 0) ∧ (u3.2.1 0) ≤ 600); first | exact hq3_0 | omega), (by show (0 ≤ (u3.2.1 1) ∧ (u3.2.1 1) ≤ 600); first | exact hq3_1 | omega), (by show (0 ≤ (u3.2.1 2) ∧ (u3.2.1 2) ≤ 4); first | exact hq3_2 | omega), (by show ((-1) ≤ (u3.2.1 3) ∧ (u3.2.1 3) ≤ 600); first | exact hq3_3 | omega), (by show (0 ≤ nw ∧ nw ≤ 4); first | exact hr_nw | omega), (by show (0 ≤ (u3.2.1 4) ∧ (u3.2.1 4) ≤ 600); first | exact hq3_4 | omega), (by show (0 ≤ n ∧ n ≤ fed ∧ 0 = 0); omega), hq3_7⟩, by rw [ht]; exact hP.sub [1, 2, 8, 4, 0, 5, 6, 7] rfl, hD.sub [1, 2, 8, 4, 0, 5, 6, 7] (by decide) rfl⟩, hS.F ht⟩) hS.2.2 dX11_law_58
  · refine lv_iconst (v := iI (-1)) hx hb dX11_law_13 (by decide) ?_
    refine W.widen (k := 2) (n := 9) (Nat.le_of_ble_eq_true rfl) (Nat.le_of_ble_eq_true rfl) ?_
    refine vx_ret ?_
    exact W.iret (v := iI (-1)) hx hb hr (fun t ht hW => ⟨⟨iI (-1), ((fun k => ([] : List Nat).getD k 0), (fun k => ([(-1), 0, n, 0, 0, 0, (-1), nw, size] : List Int).getD k 0), (fun k => ([st, sf] : List (Nat → Int32)).getD k (fun _ => 0))), rfl, ⟨rfl, (by show ((-2147483648) ≤ (-1) ∧ (-1) ≤ 2147483647); show ((-2147483648) : Int) ≤ (-1) ∧ ((-1) : Int) ≤ 2147483647; decide), (by show (0 ≤ 0 ∧ 0 ≤ 600); show (0 : Int) ≤ 0 ∧ (0 : Int) ≤ 600; decide), (by show (0 ≤ n ∧ n ≤ 600); omega), (by show (0 ≤ 0 ∧ 0 ≤ 600); show (0 : Int) ≤ 0 ∧ (0 : Int) ≤ 600; decide), (by show (0 ≤ 0 ∧ 0 ≤ 600); show (0 : Int) ≤ 0 ∧ (0 : Int) ≤ 600; decide), (by show (0 ≤ 0 ∧ 0 ≤ 4); show (0 : Int) ≤ 0 ∧ (0 : Int) ≤ 4; decide), (by show ((-1) ≤ (-1) ∧ (-1) ≤ 600); show ((-1) : Int) ≤ (-1) ∧ ((-1) : Int) ≤ 600; decide), (by show (0 ≤ nw ∧ nw ≤ 4); first | exact hr_nw | omega), (by show (0 ≤ size ∧ size ≤ 600); first | exact hr_size | omega), (by show (0 ≤ n ∧ n ≤ fed ∧ 0 = 0); omega), hst⟩, by rw [ht]; exact hP.sub [5, 6, 7, 0, 1, 2, 3, 4] rfl, hD.sub [5, 6, 7, 0, 1, 2, 3, 4] (by decide) rfl⟩, hS.F ht⟩) hS.2.2 dX11_law_14
def vs_k_fault : List Cond := .code yX11_fault cX11_fault 1 (some .int) :: (([.fieldLink RX11 10 "KerbSplash" "tape" "LKerbSplash$Tape;"] : List Cond) ++ ((wsX110) ++ ((wsX80) ++ ([]))))
set_option maxHeartbeats 4000000 in
set_option maxRecDepth 100000 in
theorem k_fault (l : Launch) (hl : l.stackTraces = false) (D : va_G) (cy : Nat → ClassId) (sa : Nat → Nat) (kk ta kr kl sA dA pa ki kp wa or_ rq : Nat) (nr nw im : Int) (tb : Nat) (fed len at_ we fa fp : Int) (sz : Nat) (hr_nr : 0 ≤ nr ∧ nr ≤ 4) (hr_nw : 0 ≤ nw ∧ nw ≤ 4) (hr_im : 0 ≤ im ∧ im ≤ 3) (hr_fed : 0 ≤ fed ∧ fed ≤ 600) (hr_len : 0 ≤ len ∧ len ≤ 600) (hr_at_ : 0 ≤ at_ ∧ at_ ≤ 600) (hr_we : 0 ≤ we ∧ we ≤ 600) (hr_fa : 0 ≤ fa ∧ fa ≤ 4) (hr_fp : (-1) ≤ fp ∧ fp ≤ 600) : Met l yX11_fault vs_k_fault ({ frames := 0, cells := 0, slots := 0, locals := 0 }) (va_Pc [vR kk] (pcW D cy sa sz [zO kk 11 [vR ta, vR kr, vR kl, vI nr, vI nw, vR sA, vR dA, vR pa, vR ki, vR kp, vI im, vR wa, vR or_, vR rq], zO ta 8 [vR tb, vI fed, vI len, vI at_, vI we, vI fa, vI fp]])) (va_Qi (fun (r : Int32) (u : SV) => r = iI (u.2.1 0) ∧ ((-1) ≤ u.2.1 0 ∧ u.2.1 0 ≤ 600)) (fun u t => atW D (va_A [zO kk 11 [vR ta, vR kr, vR kl, vI nr, vI nw, vR sA, vR dA, vR pa, vR ki, vR kp, vI im, vR wa, vR or_, vR rq], zO ta 8 [vR tb, vI fed, vI len, vI at_, vI we, vI fa, vI fp]] sz) [zO kk 11 [vR ta, vR kr, vR kl, vI nr, vI nw, vR sA, vR dA, vR pa, vR ki, vR kp, vI im, vR wa, vR or_, vR rq], zO ta 8 [vR tb, vI fed, vI len, vI at_, vI we, vI fa, vI fp]] t) (va_A [zO kk 11 [vR ta, vR kr, vR kl, vI nr, vI nw, vR sA, vR dA, vR pa, vR ki, vR kp, vI im, vR wa, vR or_, vR rq], zO ta 8 [vR tb, vI fed, vI len, vI at_, vI we, vI fa, vI fp]] sz)) 0 0 (va_A [zO kk 11 [vR ta, vR kr, vR kl, vI nr, vI nw, vR sA, vR dA, vR pa, vR ki, vR kp, vI im, vR wa, vR or_, vR rq], zO ta 8 [vR tb, vI fed, vI len, vI at_, vI we, vI fa, vI fp]] sz) := by
  refine Met.ofW (cc := cX11_fault) (maxL := 1) (ret := (some .int)) (by decide) rfl ?_
  intro p e s m args below meth c s₁ B hml hv
  obtain ⟨rfl, hsz, hP, hG, hD0, hT⟩ := hv
  have hx := B.exec
  have hb := B.bytes
  have hr := B.returns
  have hts := atoms_spec (ws := vs_k_fault) B.pre
  have hown : s.vm.findClass RX11 = some m.cls := findClass_of_methodNamed B.named
  have hlocks := B.notSynchronized
  subst hsz
  have hD := hD0.self (sz := s.heap.size)
  generalize hAe : va_A [zO kk 11 [vR ta, vR kr, vR kl, vI nr, vI nw, vR sA, vR dA, vR pa, vR ki, vR kp, vI im, vR wa, vR or_, vR rq], zO ta 8 [vR tb, vI fed, vI len, vI at_, vI we, vI fa, vI fp]] s.heap.size = A at hD hT ⊢
  have hA : ∀ q : Nat, s.heap.size ≤ q → A q := fun q h => by rw [← hAe]; exact Or.inr h
  have hS : va_S A s.heap s.heap [] := va_S.rf
  have hl0 := lv_entry ([vR kk]) (n := 1) (Nat.le_of_ble_eq_true rfl)
  rw [lg_entry_eq]
  generalize (lg_sl ([vR kk]) ++ List.replicate (1 - (lg_sl ([vR kk])).length) Slot.unset).toArray = ls at hl0 ⊢
  have hlv : lv_has ls 1 [(0, vR kk)] := hl0
  have lf10 := hts (.fieldLink RX11 10 "KerbSplash" "tape" "LKerbSplash$Tape;") (List.mem_of_getElem? (i := 1) rfl)
  have hi11 : ∀ w ∈ wsX110, w ∈ vs_k_fault := fun w h => List.mem_cons_of_mem _ (List.mem_append_right _ (List.mem_append_left _ h))
  have hi8 : ∀ w ∈ wsX80, w ∈ vs_k_fault := fun w h => List.mem_cons_of_mem _ (List.mem_append_right _ (List.mem_append_right _ (List.mem_append_left _ h)))
  refine lv_aload_n hx hb dX11_fault_0 rfl (lv_at hlv 0 rfl) ?_
  refine va_get (D := D) (ci := 11) (v := vR ta) (C := RX11) (T := TX11) (N := 14) hx hb hts hi11 hown hG.1 hP 0 rfl rfl 0 (by decide) lf10 (fun _ h9 => h9) rfl dX11_fault_1 ?_
  refine va_getN (D := D) (ci := 8) (v := vI fp) (C := RX8) (T := TX8) (N := 7) hx hb hts hi8 hown hG.1 hP 1 rfl rfl 6 (by decide) (va_Nw.use rfl (nF_K_127 hG.2.1)) (fun _ h9 => h9) rfl dX11_fault_4 ?_
  refine W.widen (k := 0) (n := 0) (Nat.le_of_ble_eq_true rfl) (Nat.le_of_ble_eq_true rfl) ?_
  exact W.iret (v := iI fp) hx hb hr (fun t ht hW => ⟨⟨iI fp, ((fun k => ([] : List Nat).getD k 0), (fun k => ([fp] : List Int).getD k 0), (fun k => ([] : List (Nat → Int32)).getD k (fun _ => 0))), rfl, ⟨rfl, (by show ((-1) ≤ fp ∧ fp ≤ 600); first | exact hr_fp | omega)⟩, by rw [ht]; exact hP.sub [0, 1] rfl, hD.sub [0, 1] (by decide) rfl⟩, hS.F ht⟩) hS.2.2 dX11_fault_7
