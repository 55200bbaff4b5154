theorem dX11_law_10 : decode cX11_law 10 = .ok (.if_icmp .lt 5, 3) := by decide +kernel
theorem dX11_law_15 : decode cX11_law 15 = .ok (.new 121, 3) := by decide +kernel
theorem dX11_law_18 : decode cX11_law 18 = .ok (.dup, 1) := by decide +kernel
theorem dX11_law_19 : decode cX11_law 19 = .ok (.aload_n 0, 1) := by decide +kernel
theorem dX11_law_20 : decode cX11_law 20 = .ok (.getfield 10, 3) := by decide +kernel
theorem dX11_law_23 : decode cX11_law 23 = .ok (.aload_n 0, 1) := by decide +kernel
theorem dX11_law_24 : decode cX11_law 24 = .ok (.getfield 24, 3) := by decide +kernel
theorem dX11_law_27 : decode cX11_law 27 = .ok (.aload_n 0, 1) := by decide +kernel
theorem dX11_law_28 : decode cX11_law 28 = .ok (.getfield 118, 3) := by decide +kernel
theorem dX11_law_31 : decode cX11_law 31 = .ok (.aaload, 1) := by decide +kernel
theorem dX11_law_32 : decode cX11_law 32 = .ok (.invokespecial 123, 3) := by decide +kernel
theorem dX11_law_35 : decode cX11_law 35 = .ok (.invokevirtual 126, 3) := by decide +kernel
theorem dX11_law_38 : decode cX11_law 38 = .ok (.aload_n 0, 1) := by decide +kernel
theorem dX11_law_39 : decode cX11_law 39 = .ok (.getfield 10, 3) := by decide +kernel
theorem dX11_law_42 : decode cX11_law 42 = .ok (.invokevirtual 96, 3) := by decide +kernel
theorem dX11_law_45 : decode cX11_law 45 = .ok (.ifCond .ne 14, 3) := by decide +kernel
theorem dX11_law_5 : decode cX11_law 5 = .ok (.aload_n 0, 1) := by decide +kernel
theorem dX11_law_59 : decode cX11_law 59 = .ok (.aload_n 0, 1) := by decide +kernel
theorem dX11_law_6 : decode cX11_law 6 = .ok (.getfield 118, 3) := by decide +kernel
theorem dX11_law_60 : decode cX11_law 60 = .ok (.dup, 1) := by decide +kernel
theorem dX11_law_61 : decode cX11_law 61 = .ok (.getfield 118, 3) := by decide +kernel
theorem dX11_law_64 : decode cX11_law 64 = .ok (.iconst 1, 1) := by decide +kernel
theorem dX11_law_65 : decode cX11_law 65 = .ok (.iadd, 1) := by decide +kernel
theorem dX11_law_66 : decode cX11_law 66 = .ok (.putfield 118, 3) := by decide +kernel
theorem dX11_law_69 : decode cX11_law 69 = .ok (.aload_n 0, 1) := by decide +kernel
theorem dX11_law_70 : decode cX11_law 70 = .ok (.getfield 118, 3) := by decide +kernel
theorem dX11_law_73 : decode cX11_law 73 = .ok (.iconst 1, 1) := by decide +kernel
theorem dX11_law_74 : decode cX11_law 74 = .ok (.isub, 1) := by decide +kernel
theorem dX11_law_75 : decode cX11_law 75 = .ok (.ireturn, 1) := by decide +kernel
theorem dX11_law_9 : decode cX11_law 9 = .ok (.iconst 4, 1) := by decide +kernel
theorem dX11_rain_10 : decode cX11_rain 10 = .ok (.if_icmp .lt 5, 3) := by decide +kernel
theorem dX11_rain_15 : decode cX11_rain 15 = .ok (.aload_n 0, 1) := by decide +kernel
theorem dX11_rain_16 : decode cX11_rain 16 = .ok (.getfield 18, 3) := by decide +kernel
theorem dX11_rain_19 : decode cX11_rain 19 = .ok (.aload_n 0, 1) := by decide +kernel
theorem dX11_rain_20 : decode cX11_rain 20 = .ok (.getfield 112, 3) := by decide +kernel
theorem dX11_rain_23 : decode cX11_rain 23 = .ok (.aaload, 1) := by decide +kernel
theorem dX11_rain_24 : decode cX11_rain 24 = .ok (.aload_n 0, 1) := by decide +kernel
theorem dX11_rain_25 : decode cX11_rain 25 = .ok (.getfield 10, 3) := by decide +kernel
theorem dX11_rain_28 : decode cX11_rain 28 = .ok (.invokevirtual 115, 3) := by decide +kernel
theorem dX11_rain_31 : decode cX11_rain 31 = .ok (.aload_n 0, 1) := by decide +kernel
theorem dX11_rain_32 : decode cX11_rain 32 = .ok (.getfield 10, 3) := by decide +kernel
theorem dX11_rain_35 : decode cX11_rain 35 = .ok (.invokevirtual 96, 3) := by decide +kernel
theorem dX11_rain_38 : decode cX11_rain 38 = .ok (.ifCond .ne 14, 3) := by decide +kernel
theorem dX11_rain_41 : decode cX11_rain 41 = .ok (.aload_n 0, 1) := by decide +kernel
theorem dX11_rain_42 : decode cX11_rain 42 = .ok (.getfield 10, 3) := by decide +kernel
theorem dX11_rain_45 : decode cX11_rain 45 = .ok (.getfield 99, 3) := by decide +kernel
theorem dX11_rain_48 : decode cX11_rain 48 = .ok (.bipush 10, 2) := by decide +kernel
theorem dX11_rain_5 : decode cX11_rain 5 = .ok (.aload_n 0, 1) := by decide +kernel
theorem dX11_rain_50 : decode cX11_rain 50 = .ok (.isub, 1) := by decide +kernel
theorem dX11_rain_51 : decode cX11_rain 51 = .ok (.ireturn, 1) := by decide +kernel
theorem dX11_rain_6 : decode cX11_rain 6 = .ok (.getfield 112, 3) := by decide +kernel
theorem dX11_rain_9 : decode cX11_rain 9 = .ok (.iconst 4, 1) := by decide +kernel
theorem dX1_reset_0 : decode cX1_reset 0 = .ok (.aload_n 0, 1) := by decide +kernel
theorem dX1_reset_1 : decode cX1_reset 1 = .ok (.iconst 0, 1) := by decide +kernel
theorem dX1_reset_10 : decode cX1_reset 10 = .ok (.invokestatic 27, 3) := by decide +kernel
theorem dX1_reset_13 : decode cX1_reset 13 = .ok (.return_, 1) := by decide +kernel
theorem dX1_reset_2 : decode cX1_reset 2 = .ok (.putfield 23, 3) := by decide +kernel
theorem dX1_reset_5 : decode cX1_reset 5 = .ok (.aload_n 0, 1) := by decide +kernel
theorem dX1_reset_6 : decode cX1_reset 6 = .ok (.getfield 17, 3) := by decide +kernel
theorem dX1_reset_9 : decode cX1_reset 9 = .ok (.iconst (-1), 1) := by decide +kernel
theorem dX2_init_0 : decode cX2_init 0 = .ok (.aload_n 0, 1) := by decide +kernel
theorem dX2_init_1 : decode cX2_init 1 = .ok (.invokespecial 3, 3) := by decide +kernel
theorem dX2_init_10 : decode cX2_init 10 = .ok (.aload_n 2, 1) := by decide +kernel
theorem dX2_init_11 : decode cX2_init 11 = .ok (.putfield 15, 3) := by decide +kernel
theorem dX2_init_14 : decode cX2_init 14 = .ok (.return_, 1) := by decide +kernel
theorem dX2_init_4 : decode cX2_init 4 = .ok (.aload_n 0, 1) := by decide +kernel
theorem dX2_init_5 : decode cX2_init 5 = .ok (.aload_n 1, 1) := by decide +kernel
theorem dX2_init_6 : decode cX2_init 6 = .ok (.putfield 9, 3) := by decide +kernel
theorem dX2_init_9 : decode cX2_init 9 = .ok (.aload_n 0, 1) := by decide +kernel
theorem dX2_read_0 : decode cX2_read 0 = .ok (.aload_n 0, 1) := by decide +kernel
theorem dX2_read_1 : decode cX2_read 1 = .ok (.getfield 15, 3) := by decide +kernel
theorem dX2_read_10 : decode cX2_read 10 = .ok (.sipush 600, 3) := by decide +kernel
theorem dX2_read_13 : decode cX2_read 13 = .ok (.if_icmp .ge 23, 3) := by decide +kernel
theorem dX2_read_16 : decode cX2_read 16 = .ok (.aload_n 0, 1) := by decide +kernel
theorem dX2_read_17 : decode cX2_read 17 = .ok (.getfield 9, 3) := by decide +kernel
theorem dX2_read_20 : decode cX2_read 20 = .ok (.invokevirtual 26, 3) := by decide +kernel
theorem dX2_read_23 : decode cX2_read 23 = .ok (.ifCond .eq 13, 3) := by decide +kernel
theorem dX2_read_36 : decode cX2_read 36 = .ok (.return_, 1) := by decide +kernel
theorem dX2_read_4 : decode cX2_read 4 = .ok (.invokevirtual 19, 3) := by decide +kernel
theorem dX2_read_7 : decode cX2_read 7 = .ok (.iconst 0, 1) := by decide +kernel
theorem dX2_read_8 : decode cX2_read 8 = .ok (.istore_n 1, 1) := by decide +kernel
theorem dX2_read_9 : decode cX2_read 9 = .ok (.iload_n 1, 1) := by decide +kernel
theorem dX5_read_0 : decode cX5_read 0 = .ok (.aload_n 0, 1) := by decide +kernel
theorem dX5_read_1 : decode cX5_read 1 = .ok (.iconst 0, 1) := by decide +kernel
theorem dX5_read_12 : decode cX5_read 12 = .ok (.aload_n 1, 1) := by decide +kernel
theorem dX5_read_13 : decode cX5_read 13 = .ok (.iconst 1, 1) := by decide +kernel
theorem dX5_read_14 : decode cX5_read 14 = .ok (.invokevirtual 23, 3) := by decide +kernel
theorem dX5_read_17 : decode cX5_read 17 = .ok (.iconst 0, 1) := by decide +kernel
theorem dX5_read_18 : decode cX5_read 18 = .ok (.istore_n 2, 1) := by decide +kernel
theorem dX5_read_19 : decode cX5_read 19 = .ok (.iload_n 2, 1) := by decide +kernel
theorem dX5_read_2 : decode cX5_read 2 = .ok (.putfield 13, 3) := by decide +kernel
theorem dX5_read_20 : decode cX5_read 20 = .ok (.bipush 8, 2) := by decide +kernel
theorem dX5_read_22 : decode cX5_read 22 = .ok (.if_icmp .gt 22, 3) := by decide +kernel
theorem dX5_read_25 : decode cX5_read 25 = .ok (.aload_n 1, 1) := by decide +kernel
theorem dX5_read_26 : decode cX5_read 26 = .ok (.invokevirtual 17, 3) := by decide +kernel
theorem dX5_read_29 : decode cX5_read 29 = .ok (.ifCond .eq 15, 3) := by decide +kernel
theorem dX5_read_44 : decode cX5_read 44 = .ok (.return_, 1) := by decide +kernel
theorem dX5_read_5 : decode cX5_read 5 = .ok (.aload_n 1, 1) := by decide +kernel
theorem dX5_read_6 : decode cX5_read 6 = .ok (.invokevirtual 17, 3) := by decide +kernel
theorem dX5_read_9 : decode cX5_read 9 = .ok (.ifCond .ne 8, 3) := by decide +kernel
theorem dX8_good_11 : decode cX8_good 11 = .ok (.iconst 0, 1) := by decide +kernel
theorem dX8_refuse_0 : decode cX8_refuse 0 = .ok (.aload_n 0, 1) := by decide +kernel
theorem dX8_refuse_1 : decode cX8_refuse 1 = .ok (.getfield 31, 3) := by decide +kernel
theorem dX8_refuse_12 : decode cX8_refuse 12 = .ok (.aload_n 0, 1) := by decide +kernel
theorem dX8_refuse_13 : decode cX8_refuse 13 = .ok (.aload_n 0, 1) := by decide +kernel
theorem dX8_refuse_14 : decode cX8_refuse 14 = .ok (.getfield 25, 3) := by decide +kernel
theorem dX8_refuse_17 : decode cX8_refuse 17 = .ok (.putfield 15, 3) := by decide +kernel
theorem dX8_refuse_20 : decode cX8_refuse 20 = .ok (.return_, 1) := by decide +kernel
theorem dX8_refuse_4 : decode cX8_refuse 4 = .ok (.ifCond .ne 16, 3) := by decide +kernel
theorem dX8_refuse_7 : decode cX8_refuse 7 = .ok (.aload_n 0, 1) := by decide +kernel
theorem dX8_refuse_8 : decode cX8_refuse 8 = .ok (.iload_n 1, 1) := by decide +kernel
theorem dX8_refuse_9 : decode cX8_refuse 9 = .ok (.putfield 31, 3) := by decide +kernel
theorem dX8_sign_7 : decode cX8_sign 7 = .ok (.iconst (-1), 1) := by decide +kernel
theorem dX8_sign_8 : decode cX8_sign 8 = .ok (.ireturn, 1) := by decide +kernel
def vs_c_signF : List Cond := .code yX8_sign cX8_sign 1 (some .int) :: (([.fieldLink RX8 31 "KerbSplash$Tape" "fault" "I"] : List Cond) ++ ((wsX80) ++ ([])))
set_option maxHeartbeats 4000000 in
set_option maxRecDepth 100000 in
theorem c_signF (l : Launch) (hl : l.stackTraces = false) (D : va_G) (cy : Nat → ClassId) (sa : Nat → Nat) (ka : Nat → Nat) (sz : Nat) : Met l yX8_sign vs_c_signF ({ frames := 0, cells := 0, slots := 0, locals := 0 }) (va_Pc [.ref (ka 0)] (pcW D cy sa sz [((ka 0), .inr (8, [.ref (ka 20), .int 0, .int 0, .int 0, .int 0, .int 1, .int 0]))])) (va_Qi (fun (r : Int32) (u : SU) => (r = (-1))) (fun u t => atW D (va_A [((ka 0), .inr (8, [.ref (ka 20), .int 0, .int 0, .int 0, .int 0, .int 1, .int 0]))] sz) [((ka 0), .inr (8, [.ref (ka 20), .int 0, .int 0, .int 0, .int 0, .int 1, .int 0]))] t) (va_A [((ka 0), .inr (8, [.ref (ka 20), .int 0, .int 0, .int 0, .int 0, .int 1, .int 0]))] sz)) 0 0 (va_A [((ka 0), .inr (8, [.ref (ka 20), .int 0, .int 0, .int 0, .int 0, .int 1, .int 0]))] sz) := by
  refine Met.ofW (cc := cX8_sign) (maxL := 1) (ret := (some .int)) (by decide) rfl ?_
  intro p e s m args below meth c s₁ B hml hv
  obtain ⟨rfl, hsz, hP, hG, hD0, hT⟩ := hv
  have hx := B.exec
  have hb := B.bytes
  have hr := B.returns
  have hts := atoms_spec (ws := vs_c_signF) B.pre
  have hown : s.vm.findClass RX8 = some m.cls := findClass_of_methodNamed B.named
  have hlocks := B.notSynchronized
  subst hsz
  have hD := hD0.self (sz := s.heap.size)
  generalize hAe : va_A [((ka 0), .inr (8, [.ref (ka 20), .int 0, .int 0, .int 0, .int 0, .int 1, .int 0]))] s.heap.size = A at hD hT ⊢
  have hA : ∀ q : Nat, s.heap.size ≤ q → A q := fun q h => by rw [← hAe]; exact Or.inr h
  have hS : va_S A s.heap s.heap [] := va_S.rf
  have hl0 := lv_entry ([.ref (ka 0)]) (n := 1) (Nat.le_of_ble_eq_true rfl)
  rw [lg_entry_eq]
  generalize (lg_sl ([.ref (ka 0)]) ++ List.replicate (1 - (lg_sl ([.ref (ka 0)])).length) Slot.unset).toArray = ls at hl0 ⊢
  have hlv : lv_has ls 1 [(0, .ref (ka 0))] := hl0
  have lf31 := hts (.fieldLink RX8 31 "KerbSplash$Tape" "fault" "I") (List.mem_of_getElem? (i := 1) rfl)
  have hi8 : ∀ w ∈ wsX80, w ∈ vs_c_signF := fun w h => List.mem_cons_of_mem _ (List.mem_append_right _ (List.mem_append_left _ h))
  refine lv_aload_n hx hb dX8_sign_0 rfl (lv_at hlv 0 rfl) ?_
  refine va_get (D := D) (ci := 8) (v := .int 1) (C := RX8) (T := TX8) (N := 7) hx hb hts hi8 hown hG.1 hP 0 rfl rfl 5 (by decide) lf31 (fun _ h9 => h9) rfl dX8_sign_1 ?_
  refine lv_if_eq (tgt := 9) hx hb dX8_sign_4 (by decide) (fun c => absurd c (by decide)) (fun _ => ?_)
  refine lv_iconst (v := (-1)) hx hb dX8_sign_7 (by decide) ?_
  refine W.widen (k := 0) (n := 0) (Nat.le_of_ble_eq_true rfl) (Nat.le_of_ble_eq_true rfl) ?_
  exact W.iret (v := (-1)) hx hb hr (fun t ht hW => ⟨⟨(-1), ((fun k => ([] : List Nat).getD k 0), (fun k => ([] : List Int32).getD k 0), (fun k => ([] : List (Nat → Int32)).getD k (fun _ => 0))), rfl, (by first | (exact (by rfl))), by rw [ht]; exact hP.sub [0] rfl, hD.sub [0] (by decide) rfl⟩, hS.F ht⟩) hS.2.2 dX8_sign_8
def vs_c_hasMoreF : List Cond := .code yX8_hasMore cX8_hasMore 1 (some .boolean) :: (([] : List Cond) ++ ((wsV RX8 34 RX8 yX8_sign vs_c_signF) ++ ([])))
set_option maxHeartbeats 4000000 in
set_option maxRecDepth 100000 in
theorem c_hasMoreF (l : Launch) (hl : l.stackTraces = false) (D : va_G) (cy : Nat → ClassId) (sa : Nat → Nat) (ka : Nat → Nat) (sz : Nat) : Met l yX8_hasMore vs_c_hasMoreF ({ frames := 1, cells := 0, slots := 0, locals := 20 }) (va_Pc [.ref (ka 0)] (pcW D cy sa sz [((ka 0), .inr (8, [.ref (ka 20), .int 0, .int 0, .int 0, .int 0, .int 1, .int 0]))])) (va_Qi (fun (r : Int32) (u : SU) => (r = 0)) (fun u t => atW D (va_A [((ka 0), .inr (8, [.ref (ka 20), .int 0, .int 0, .int 0, .int 0, .int 1, .int 0]))] sz) [((ka 0), .inr (8, [.ref (ka 20), .int 0, .int 0, .int 0, .int 0, .int 1, .int 0]))] t) (va_A [((ka 0), .inr (8, [.ref (ka 20), .int 0, .int 0, .int 0, .int 0, .int 1, .int 0]))] sz)) 0 0 (va_A [((ka 0), .inr (8, [.ref (ka 20), .int 0, .int 0, .int 0, .int 0, .int 1, .int 0]))] sz) := by
  refine Met.ofW (cc := cX8_hasMore) (maxL := 1) (ret := (some .boolean)) (by decide) rfl ?_
  intro p e s m args below meth c s₁ B hml hv
  obtain ⟨rfl, hsz, hP, hG, hD0, hT⟩ := hv
  have hx := B.exec
  have hb := B.bytes
  have hr := B.returns
  have hts := atoms_spec (ws := vs_c_hasMoreF) B.pre
  have hown : s.vm.findClass RX8 = some m.cls := findClass_of_methodNamed B.named
  have hlocks := B.notSynchronized
  subst hsz
  have hD := hD0.self (sz := s.heap.size)
  generalize hAe : va_A [((ka 0), .inr (8, [.ref (ka 20), .int 0, .int 0, .int 0, .int 0, .int 1, .int 0]))] s.heap.size = A at hD hT ⊢
  have hA : ∀ q : Nat, s.heap.size ≤ q → A q := fun q h => by rw [← hAe]; exact Or.inr h
  have hS : va_S A s.heap s.heap [] := va_S.rf
  have hl0 := lv_entry ([.ref (ka 0)]) (n := 1) (Nat.le_of_ble_eq_true rfl)
  rw [lg_entry_eq]
  generalize (lg_sl ([.ref (ka 0)]) ++ List.replicate (1 - (lg_sl ([.ref (ka 0)])).length) Slot.unset).toArray = ls at hl0 ⊢
  have hlv : lv_has ls 1 [(0, .ref (ka 0))] := hl0
  have gg_0 : GoodIn vs_c_hasMoreF (wsV RX8 34 RX8 yX8_sign vs_c_signF) := goodIn_sub (fun w h => List.mem_cons_of_mem _ (List.mem_append_right _ (List.mem_append_left _ h))) (by decide +kernel)
  refine lv_aload_n hx hb dX8_hasMore_0 rfl (lv_at hlv 0 rfl) ?_
  refine cj_i (wr := []) (va_runV (As := []) (rest := []) ⟨hx, hb, hml, hown, hts⟩ (c_signF l hl D cy sa ka s.heap.size) (cwV 0 hts gg_0 rfl rfl rfl (by decide +kernel) ⟨Nat.le_of_ble_eq_true rfl, Nat.le_of_ble_eq_true rfl⟩) ⟨pcW.blind, (va_recv hG.1 hP (ci := 8) (q0 := 0) rfl rfl), (pcW.mk hP hD hS hA hG hT [0] rfl (by decide))⟩ rfl rfl hlv.1 rfl (lv_room (Nat.le_of_ble_eq_true rfl)) dX8_hasMore_1 ⟨Nat.le_of_ble_eq_true rfl, Nat.le_of_ble_eq_true rfl⟩) hP hD hS hA [0] [] rfl rfl (by decide) (by decide) (fun r1 u1 H locs hw1 hP hD hS => ?_)
  obtain rfl := hw1
  have hP : va_P D vwCl [((ka 0), .inr (8, [.ref (ka 20), .int 0, .int 0, .int 0, .int 0, .int 1, .int 0]))] H := hP
  have hD : va_D A [((ka 0), .inr (8, [.ref (ka 20), .int 0, .int 0, .int 0, .int 0, .int 1, .int 0]))] := hD
  refine lv_iconst (v := (-1)) hx hb dX8_hasMore_4 (by decide) ?_
  refine lv_icmp_eq (tgt := 12) hx hb dX8_hasMore_5 (by decide) (fun _ => ?_) (fun c => absurd (by decide) c)
  refine lv_iconst (v := 0) hx hb dX8_hasMore_12 (by decide) ?_
  refine W.widen (k := 0) (n := 0) (Nat.le_of_ble_eq_true rfl) (Nat.le_of_ble_eq_true rfl) ?_
  exact W.zret (v := 0) hx hb hr (by first | rfl | decide) (fun t ht hW => ⟨⟨0, ((fun k => ([] : List Nat).getD k 0), (fun k => ([] : List Int32).getD k 0), (fun k => ([] : List (Nat → Int32)).getD k (fun _ => 0))), rfl, (by first | (exact (by rfl))), by rw [ht]; exact hP.sub [0] rfl, hD.sub [0] (by decide) rfl⟩, hS.F ht⟩) hS.2.2 dX8_hasMore_13
def vs_c_goodF : List Cond := .code yX8_good cX8_good 1 (some .boolean) :: (([.fieldLink RX8 31 "KerbSplash$Tape" "fault" "I"] : List Cond) ++ ((wsX80) ++ ([])))
set_option maxHeartbeats 4000000 in
set_option maxRecDepth 100000 in
theorem c_goodF (l : Launch) (hl : l.stackTraces = false) (D : va_G) (cy : Nat → ClassId) (sa : Nat → Nat) (ka : Nat → Nat) (sz : Nat) : Met l yX8_good vs_c_goodF ({ frames := 0, cells := 0, slots := 0, locals := 0 }) (va_Pc [.ref (ka 0)] (pcW D cy sa sz [((ka 0), .inr (8, [.ref (ka 20), .int 0, .int 0, .int 0, .int 0, .int 1, .int 0]))])) (va_Qi (fun (r : Int32) (u : SU) => (r = 0)) (fun u t => atW D (va_A [((ka 0), .inr (8, [.ref (ka 20), .int 0, .int 0, .int 0, .int 0, .int 1, .int 0]))] sz) [((ka 0), .inr (8, [.ref (ka 20), .int 0, .int 0, .int 0, .int 0, .int 1, .int 0]))] t) (va_A [((ka 0), .inr (8, [.ref (ka 20), .int 0, .int 0, .int 0, .int 0, .int 1, .int 0]))] sz)) 0 0 (va_A [((ka 0), .inr (8, [.ref (ka 20), .int 0, .int 0, .int 0, .int 0, .int 1, .int 0]))] sz) := by
  refine Met.ofW (cc := cX8_good) (maxL := 1) (ret := (some .boolean)) (by decide) rfl ?_
  intro p e s m args below meth c s₁ B hml hv
  obtain ⟨rfl, hsz, hP, hG, hD0, hT⟩ := hv
  have hx := B.exec
  have hb := B.bytes
  have hr := B.returns
  have hts := atoms_spec (ws := vs_c_goodF) B.pre
  have hown : s.vm.findClass RX8 = some m.cls := findClass_of_methodNamed B.named
  have hlocks := B.notSynchronized
  subst hsz
  have hD := hD0.self (sz := s.heap.size)
  generalize hAe : va_A [((ka 0), .inr (8, [.ref (ka 20), .int 0, .int 0, .int 0, .int 0, .int 1, .int 0]))] s.heap.size = A at hD hT ⊢
  have hA : ∀ q : Nat, s.heap.size ≤ q → A q := fun q h => by rw [← hAe]; exact Or.inr h
  have hS : va_S A s.heap s.heap [] := va_S.rf
  have hl0 := lv_entry ([.ref (ka 0)]) (n := 1) (Nat.le_of_ble_eq_true rfl)
  rw [lg_entry_eq]
  generalize (lg_sl ([.ref (ka 0)]) ++ List.replicate (1 - (lg_sl ([.ref (ka 0)])).length) Slot.unset).toArray = ls at hl0 ⊢
  have hlv : lv_has ls 1 [(0, .ref (ka 0))] := hl0
  have lf31 := hts (.fieldLink RX8 31 "KerbSplash$Tape" "fault" "I") (List.mem_of_getElem? (i := 1) rfl)
  have hi8 : ∀ w ∈ wsX80, w ∈ vs_c_goodF := fun w h => List.mem_cons_of_mem _ (List.mem_append_right _ (List.mem_append_left _ h))
  refine lv_aload_n hx hb dX8_good_0 rfl (lv_at hlv 0 rfl) ?_
  refine va_get (D := D) (ci := 8) (v := .int 1) (C := RX8) (T := TX8) (N := 7) hx hb hts hi8 hown hG.1 hP 0 rfl rfl 5 (by decide) lf31 (fun _ h9 => h9) rfl dX8_good_1 ?_
  refine lv_if_ne (tgt := 11) hx hb dX8_good_4 (by decide) (fun _ => ?_) (fun c => absurd c (by decide))
  refine lv_iconst (v := 0) hx hb dX8_good_11 (by decide) ?_
  refine W.widen (k := 0) (n := 0) (Nat.le_of_ble_eq_true rfl) (Nat.le_of_ble_eq_true rfl) ?_
  exact W.zret (v := 0) hx hb hr (by first | rfl | decide) (fun t ht hW => ⟨⟨0, ((fun k => ([] : List Nat).getD k 0), (fun k => ([] : List Int32).getD k 0), (fun k => ([] : List (Nat → Int32)).getD k (fun _ => 0))), rfl, (by first | (exact (by rfl))), by rw [ht]; exact hP.sub [0] rfl, hD.sub [0] (by decide) rfl⟩, hS.F ht⟩) hS.2.2 dX8_good_12
def vs_c_refuse : List Cond := .code yX8_refuse cX8_refuse 2 none :: (([.fieldLink RX8 31 "KerbSplash$Tape" "fault" "I", .fieldLink RX8 25 "KerbSplash$Tape" "at" "I", .fieldLink RX8 15 "KerbSplash$Tape" "faultAt" "I"] : List Cond) ++ ((wsX80) ++ ([])))
set_option maxHeartbeats 4000000 in
set_option maxRecDepth 100000 in
theorem c_refuse (l : Launch) (hl : l.stackTraces = false) (D : va_G) (cy : Nat → ClassId) (sa : Nat → Nat) (ka : Nat → Nat) (sz : Nat) : Met l yX8_refuse vs_c_refuse ({ frames := 0, cells := 0, slots := 0, locals := 0 }) (va_Pc [.ref (ka 0), .int 1] (pcW D cy sa sz [((ka 0), .inr (8, [.ref (ka 20), .int 0, .int 0, .int 0, .int 0, .int 0, .int (-1)]))])) (va_Qv (fun u : SU => (True)) (fun u t => atW D (va_A [((ka 0), .inr (8, [.ref (ka 20), .int 0, .int 0, .int 0, .int 0, .int 0, .int (-1)]))] sz) [((ka 0), .inr (8, [.ref (ka 20), .int 0, .int 0, .int 0, .int 0, .int 1, .int 0]))] t) (va_A [((ka 0), .inr (8, [.ref (ka 20), .int 0, .int 0, .int 0, .int 0, .int 0, .int (-1)]))] sz)) 0 0 (va_A [((ka 0), .inr (8, [.ref (ka 20), .int 0, .int 0, .int 0, .int 0, .int 0, .int (-1)]))] sz) := by
  refine Met.ofW (cc := cX8_refuse) (maxL := 2) (ret := none) (by decide) rfl ?_
  intro p e s m args below meth c s₁ B hml hv
  obtain ⟨rfl, hsz, hP, hG, hD0, hT⟩ := hv
  have hx := B.exec
  have hb := B.bytes
  have hr := B.returns
  have hts := atoms_spec (ws := vs_c_refuse) B.pre
  have hown : s.vm.findClass RX8 = some m.cls := findClass_of_methodNamed B.named
  have hlocks := B.notSynchronized
  subst hsz
  have hD := hD0.self (sz := s.heap.size)
  generalize hAe : va_A [((ka 0), .inr (8, [.ref (ka 20), .int 0, .int 0, .int 0, .int 0, .int 0, .int (-1)]))] s.heap.size = A at hD hT ⊢
  have hA : ∀ q : Nat, s.heap.size ≤ q → A q := fun q h => by rw [← hAe]; exact Or.inr h
  have hS : va_S A s.heap s.heap [] := va_S.rf
  have hl0 := lv_entry ([.ref (ka 0), .int 1]) (n := 2) (Nat.le_of_ble_eq_true rfl)
  rw [lg_entry_eq]
  generalize (lg_sl ([.ref (ka 0), .int 1]) ++ List.replicate (2 - (lg_sl ([.ref (ka 0), .int 1])).length) Slot.unset).toArray = ls at hl0 ⊢
  have hlv : lv_has ls 2 [(0, .ref (ka 0)), (1, .int 1)] := hl0
  have lf31 := hts (.fieldLink RX8 31 "KerbSplash$Tape" "fault" "I") (List.mem_of_getElem? (i := 1) rfl)
  have hi8 : ∀ w ∈ wsX80, w ∈ vs_c_refuse := fun w h => List.mem_cons_of_mem _ (List.mem_append_right _ (List.mem_append_left _ h))
  have lf25 := hts (.fieldLink RX8 25 "KerbSplash$Tape" "at" "I") (List.mem_of_getElem? (i := 2) rfl)
  have lf15 := hts (.fieldLink RX8 15 "KerbSplash$Tape" "faultAt" "I") (List.mem_of_getElem? (i := 3) rfl)
  refine lv_aload_n hx hb dX8_refuse_0 rfl (lv_at hlv 0 rfl) ?_
  refine va_get (D := D) (ci := 8) (v := .int 0) (C := RX8) (T := TX8) (N := 7) hx hb hts hi8 hown hG.1 hP 0 rfl rfl 5 (by decide) lf31 (fun _ h9 => h9) rfl dX8_refuse_1 ?_
  refine lv_if_ne (tgt := 20) hx hb dX8_refuse_4 (by decide) (fun c => absurd (by decide) c) (fun _ => ?_)
  refine lv_aload_n hx hb dX8_refuse_7 rfl (lv_at hlv 0 rfl) ?_
  refine lv_iload_n hx hb dX8_refuse_8 rfl (lv_at hlv 1 rfl) ?_
  refine va_put (D := D) (ci := 8) (v := .int 1) (ty := .int) (C := RX8) (T := TX8) (N := 7) hx hb hts hi8 tyX8 tyX8_ok nmX8 hown hG.1 hP hD hS 0 rfl rfl 5 (by decide) lf31 (fun _ h9 => h9) rfl (by decide +kernel) rfl rfl (Nat.le_of_ble_eq_true rfl) dX8_refuse_9 (fun H locs hP hD hS => ?_)
  have hP : va_P D vwCl [((ka 0), .inr (8, [.ref (ka 20), .int 0, .int 0, .int 0, .int 0, .int 1, .int (-1)]))] H := hP
  have hD : va_D A [((ka 0), .inr (8, [.ref (ka 20), .int 0, .int 0, .int 0, .int 0, .int 1, .int (-1)]))] := hD
  refine lv_aload_n hx hb dX8_refuse_12 rfl (lv_at hlv 0 rfl) ?_
  refine lv_aload_n hx hb dX8_refuse_13 rfl (lv_at hlv 0 rfl) ?_
  refine va_get (D := D) (ci := 8) (v := .int 0) (C := RX8) (T := TX8) (N := 7) hx hb hts hi8 hown hG.1 hP 0 rfl rfl 3 (by decide) lf25 (fun _ h9 => h9) rfl dX8_refuse_14 ?_
  refine va_put (D := D) (ci := 8) (v := .int 0) (ty := .int) (C := RX8) (T := TX8) (N := 7) hx hb hts hi8 tyX8 tyX8_ok nmX8 hown hG.1 hP hD hS 0 rfl rfl 6 (by decide) lf15 (fun _ h9 => h9) rfl (by decide +kernel) rfl rfl (Nat.le_of_ble_eq_true rfl) dX8_refuse_17 (fun H locs hP hD hS => ?_)
  have hP : va_P D vwCl [((ka 0), .inr (8, [.ref (ka 20), .int 0, .int 0, .int 0, .int 0, .int 1, .int 0]))] H := hP
  have hD : va_D A [((ka 0), .inr (8, [.ref (ka 20), .int 0, .int 0, .int 0, .int 0, .int 1, .int 0]))] := hD
  refine W.widen (k := 0) (n := 0) (Nat.le_of_ble_eq_true rfl) (Nat.le_of_ble_eq_true rfl) ?_
  exact W.vret hx hb hr (fun t ht hW => ⟨⟨((fun k => ([] : List Nat).getD k 0), (fun k => ([] : List Int32).getD k 0), (fun k => ([] : List (Nat → Int32)).getD k (fun _ => 0))), rfl, (by first | (trivial)), by rw [ht]; exact hP.sub [0] rfl, hD.sub [0] (by decide) rfl⟩, hS.F ht⟩) hS.2.2 dX8_refuse_20
def vs_c_rread : List Cond := .code yX5_read cX5_read 3 none :: (([.fieldLink RX5 13 "KerbSplash$Rain" "minutes" "I", .initialized RX8, .instanceMethod yX8_hasMore, .selects RX8 yX8_hasMore yX8_hasMore, .instanceMethod yX8_refuse, .selects RX8 yX8_refuse yX8_refuse] : List Cond) ++ ((wsX50) ++ ((vs_c_hasMore) ++ ((vs_c_refuse) ++ ((vs_c_hasMoreF) ++ ([]))))))
set_option maxHeartbeats 4000000 in
set_option maxRecDepth 100000 in
theorem c_rread (l : Launch) (hl : l.stackTraces = false) (D : va_G) (cy : Nat → ClassId) (sa : Nat → Nat) (ka : Nat → Nat) (sz : Nat) : Met l yX5_read vs_c_rread ({ frames := 2, cells := 0, slots := 0, locals := 40 }) (va_Pc [.ref (ka 100), .ref (ka 0)] (pcW D cy sa sz [((ka 100), .inr (5, [.ref (ka 51), .int 0])), ((ka 0), .inr (8, [.ref (ka 20), .int 0, .int 0, .int 0, .int 0, .int 0, .int (-1)]))])) (va_Qv (fun u : SU => (True)) (fun u t => atW D (va_A [((ka 100), .inr (5, [.ref (ka 51), .int 0])), ((ka 0), .inr (8, [.ref (ka 20), .int 0, .int 0, .int 0, .int 0, .int 0, .int (-1)]))] sz) [((ka 0), .inr (8, [.ref (ka 20), .int 0, .int 0, .int 0, .int 0, .int 1, .int 0]))] t) (va_A [((ka 100), .inr (5, [.ref (ka 51), .int 0])), ((ka 0), .inr (8, [.ref (ka 20), .int 0, .int 0, .int 0, .int 0, .int 0, .int (-1)]))] sz)) 0 0 (va_A [((ka 100), .inr (5, [.ref (ka 51), .int 0])), ((ka 0), .inr (8, [.ref (ka 20), .int 0, .int 0, .int 0, .int 0, .int 0, .int (-1)]))] sz) := by
  refine Met.ofW (cc := cX5_read) (maxL := 3) (ret := none) (by decide) rfl ?_
  intro p e s m args below meth c s₁ B hml hv
  obtain ⟨rfl, hsz, hP, hG, hD0, hT⟩ := hv
  have hx := B.exec
  have hb := B.bytes
  have hr := B.returns
  have hts := atoms_spec (ws := vs_c_rread) B.pre
  have hown : s.vm.findClass RX5 = some m.cls := findClass_of_methodNamed B.named
  have hlocks := B.notSynchronized
  subst hsz
  have hD := hD0.self (sz := s.heap.size)
  generalize hAe : va_A [((ka 100), .inr (5, [.ref (ka 51), .int 0])), ((ka 0), .inr (8, [.ref (ka 20), .int 0, .int 0, .int 0, .int 0, .int 0, .int (-1)]))] s.heap.size = A at hD hT ⊢
  have hA : ∀ q : Nat, s.heap.size ≤ q → A q := fun q h => by rw [← hAe]; exact Or.inr h
  have hS : va_S A s.heap s.heap [] := va_S.rf
  have hl0 := lv_entry ([.ref (ka 100), .ref (ka 0)]) (n := 3) (Nat.le_of_ble_eq_true rfl)
  rw [lg_entry_eq]
  generalize (lg_sl ([.ref (ka 100), .ref (ka 0)]) ++ List.replicate (3 - (lg_sl ([.ref (ka 100), .ref (ka 0)])).length) Slot.unset).toArray = ls at hl0 ⊢
  have hlv : lv_has ls 3 [(0, .ref (ka 100)), (1, .ref (ka 0))] := hl0
  have lf13 := hts (.fieldLink RX5 13 "KerbSplash$Rain" "minutes" "I") (List.mem_of_getElem? (i := 1) rfl)
  have hi5 : ∀ w ∈ wsX50, w ∈ vs_c_rread := fun w h => List.mem_cons_of_mem _ (List.mem_append_right _ (List.mem_append_left _ h))
  have gg_1 : GoodIn vs_c_rread (vs_c_hasMore) := goodIn_sub (fun w h => List.mem_cons_of_mem _ (List.mem_append_right _ (List.mem_append_right _ (List.mem_append_left _ h)))) (by decide +kernel)
  have ini_RX8 := hts (.initialized RX8) (List.mem_of_getElem? (i := 2) rfl)
  have im_X8_hasMore := hts (.instanceMethod yX8_hasMore) (List.mem_of_getElem? (i := 3) rfl)
  have se_X8_hasMore := hts (.selects RX8 yX8_hasMore yX8_hasMore) (List.mem_of_getElem? (i := 4) rfl)
  have gg_2 : GoodIn vs_c_rread (vs_c_refuse) := goodIn_sub (fun w h => List.mem_cons_of_mem _ (List.mem_append_right _ (List.mem_append_right _ (List.mem_append_right _ (List.mem_append_left _ h))))) (by decide +kernel)
  have im_X8_refuse := hts (.instanceMethod yX8_refuse) (List.mem_of_getElem? (i := 5) rfl)
  have se_X8_refuse := hts (.selects RX8 yX8_refuse yX8_refuse) (List.mem_of_getElem? (i := 6) rfl)
  have gg_3 : GoodIn vs_c_rread (vs_c_hasMoreF) := goodIn_sub (fun w h => List.mem_cons_of_mem _ (List.mem_append_right _ (List.mem_append_right _ (List.mem_append_right _ (List.mem_append_right _ (List.mem_append_left _ h)))))) (by decide +kernel)
  refine lv_aload_n hx hb dX5_read_0 rfl (lv_at hlv 0 rfl) ?_
  refine lv_iconst (v := 0) hx hb dX5_read_1 (by decide) ?_
  refine va_put (D := D) (ci := 5) (v := .int 0) (ty := .int) (C := RX5) (T := TX5) (N := 2) hx hb hts hi5 tyX5 tyX5_ok nmX5 hown hG.1 hP hD hS 0 rfl rfl 1 (by decide) lf13 (fun _ h9 => h9) rfl (by decide +kernel) rfl rfl (Nat.le_of_ble_eq_true rfl) dX5_read_2 (fun H locs hP hD hS => ?_)
  have hP : va_P D vwCl [((ka 100), .inr (5, [.ref (ka 51), .int 0])), ((ka 0), .inr (8, [.ref (ka 20), .int 0, .int 0, .int 0, .int 0, .int 0, .int (-1)]))] H := hP
  have hD : va_D A [((ka 100), .inr (5, [.ref (ka 51), .int 0])), ((ka 0), .inr (8, [.ref (ka 20), .int 0, .int 0, .int 0, .int 0, .int 0, .int (-1)]))] := hD
  refine lv_aload_n hx hb dX5_read_5 rfl (lv_at hlv 1 rfl) ?_
  refine cj_i (wr := [((ka 100), .inr (5, [.ref (ka 51), .int 0]))]) (va_runVN (host := "KerbSplash") (As := []) (rest := []) ⟨hx, hb, hml, hown, hts⟩ (c_hasMore l hl D cy sa ka H.size) ⟨va_cnB 0 hts gg_1 rfl rfl rfl (nM_Rain_17 hG.2.1) ini_RX8 (by decide +kernel) ⟨Nat.le_of_ble_eq_true rfl, Nat.le_of_ble_eq_true rfl⟩, im_X8_hasMore, se_X8_hasMore⟩ ⟨pcW.blind, (va_recv hG.1 hP (ci := 8) (q0 := 1) rfl rfl), (pcW.mk hP hD hS hA hG hT [1] rfl (by decide))⟩ rfl rfl hlv.1 rfl (lv_room (Nat.le_of_ble_eq_true rfl)) dX5_read_6 ⟨Nat.le_of_ble_eq_true rfl, Nat.le_of_ble_eq_true rfl⟩) hP hD hS hA [1] [0] rfl rfl (by decide) (by decide) (fun r1 u1 H locs hw1 hP hD hS => ?_)
  obtain rfl := hw1
  have hP : va_P D vwCl [((ka 100), .inr (5, [.ref (ka 51), .int 0])), ((ka 0), .inr (8, [.ref (ka 20), .int 0, .int 0, .int 0, .int 0, .int 0, .int (-1)]))] H := hP
  have hD : va_D A [((ka 100), .inr (5, [.ref (ka 51), .int 0])), ((ka 0), .inr (8, [.ref (ka 20), .int 0, .int 0, .int 0, .int 0, .int 0, .int (-1)]))] := hD
  refine lv_if_ne (tgt := 17) hx hb dX5_read_9 (by decide) (fun c => absurd (by decide) c) (fun _ => ?_)
  refine lv_aload_n hx hb dX5_read_12 rfl (lv_at hlv 1 rfl) ?_
  refine lv_iconst (v := 1) hx hb dX5_read_13 (by decide) ?_
  refine cj_v (wr := [((ka 100), .inr (5, [.ref (ka 51), .int 0]))]) (va_runVN (host := "KerbSplash") (As := [.int 1]) (rest := []) ⟨hx, hb, hml, hown, hts⟩ (c_refuse l hl D cy sa ka H.size) ⟨va_cnB 1 hts gg_2 rfl rfl rfl (nM_Rain_23 hG.2.1) ini_RX8 (by decide +kernel) ⟨Nat.le_of_ble_eq_true rfl, Nat.le_of_ble_eq_true rfl⟩, im_X8_refuse, se_X8_refuse⟩ ⟨pcW.blind, (va_recv hG.1 hP (ci := 8) (q0 := 1) rfl rfl), (pcW.mk hP hD hS hA hG hT [1] rfl (by decide))⟩ rfl rfl hlv.1 rfl (lv_room (Nat.le_of_ble_eq_true rfl)) dX5_read_14 ⟨Nat.le_of_ble_eq_true rfl, Nat.le_of_ble_eq_true rfl⟩) hP hD hS hA [1] [0] rfl rfl (by decide) (by decide) (fun u2 H locs hw2 hP hD hS => ?_)
  have hP : va_P D vwCl [((ka 100), .inr (5, [.ref (ka 51), .int 0])), ((ka 0), .inr (8, [.ref (ka 20), .int 0, .int 0, .int 0, .int 0, .int 1, .int 0]))] H := hP
  have hD : va_D A [((ka 100), .inr (5, [.ref (ka 51), .int 0])), ((ka 0), .inr (8, [.ref (ka 20), .int 0, .int 0, .int 0, .int 0, .int 1, .int 0]))] := hD
  refine lv_iconst (v := 0) hx hb dX5_read_17 (by decide) ?_
  refine lv_istore_n (lv' := [(2, .int 0), (0, .ref (ka 100)), (1, .ref (ka 0))]) hx hb dX5_read_18 rfl hlv (by decide) rfl (fun ls hlv => ?_)
  refine lv_iload_n hx hb dX5_read_19 rfl (lv_at hlv 0 rfl) ?_
  refine lv_bipush (v := 8) hx hb dX5_read_20 (by decide) ?_
  refine lv_icmp_gt (tgt := 44) hx hb dX5_read_22 (by decide) (fun c => absurd c (by decide)) (fun _ => ?_)
  refine lv_aload_n hx hb dX5_read_25 rfl (lv_at hlv 2 rfl) ?_
  refine cj_i (wr := [((ka 100), .inr (5, [.ref (ka 51), .int 0]))]) (va_runVN (host := "KerbSplash") (As := []) (rest := []) ⟨hx, hb, hml, hown, hts⟩ (c_hasMoreF l hl D cy sa ka H.size) ⟨va_cnB 0 hts gg_3 rfl rfl rfl (nM_Rain_17 hG.2.1) ini_RX8 (by decide +kernel) ⟨Nat.le_of_ble_eq_true rfl, Nat.le_of_ble_eq_true rfl⟩, im_X8_hasMore, se_X8_hasMore⟩ ⟨pcW.blind, (va_recv hG.1 hP (ci := 8) (q0 := 1) rfl rfl), (pcW.mk hP hD hS hA hG hT [1] rfl (by decide))⟩ rfl rfl hlv.1 rfl (lv_room (Nat.le_of_ble_eq_true rfl)) dX5_read_26 ⟨Nat.le_of_ble_eq_true rfl, Nat.le_of_ble_eq_true rfl⟩) hP hD hS hA [1] [0] rfl rfl (by decide) (by decide) (fun r3 u3 H locs hw3 hP hD hS => ?_)
  obtain rfl := hw3
  have hP : va_P D vwCl [((ka 100), .inr (5, [.ref (ka 51), .int 0])), ((ka 0), .inr (8, [.ref (ka 20), .int 0, .int 0, .int 0, .int 0, .int 1, .int 0]))] H := hP
  have hD : va_D A [((ka 100), .inr (5, [.ref (ka 51), .int 0])), ((ka 0), .inr (8, [.ref (ka 20), .int 0, .int 0, .int 0, .int 0, .int 1, .int 0]))] := hD
  refine lv_if_eq (tgt := 44) hx hb dX5_read_29 (by decide) (fun _ => ?_) (fun c => absurd (by decide) c)
  refine W.widen (k := 0) (n := 0) (Nat.le_of_ble_eq_true rfl) (Nat.le_of_ble_eq_true rfl) ?_
  exact W.vret hx hb hr (fun t ht hW => ⟨⟨((fun k => ([] : List Nat).getD k 0), (fun k => ([] : List Int32).getD k 0), (fun k => ([] : List (Nat → Int32)).getD k (fun _ => 0))), rfl, (by first | (trivial)), by rw [ht]; exact hP.sub [1] rfl, hD.sub [1] (by decide) rfl⟩, hS.F ht⟩) hS.2.2 dX5_read_44
def vs_c_rain0 : List Cond := .code yX11_rain cX11_rain 2 (some .int) :: (([.fieldLink RX11 112 "KerbSplash" "rainsTold" "I", .fieldLink RX11 18 "KerbSplash" "rains" "[LKerbSplash$Rain;", .fieldLink RX11 10 "KerbSplash" "tape" "LKerbSplash$Tape;", .initialized RX5, .instanceMethod yX5_read, .selects RX5 yX5_read yX5_read, .initialized RX8, .instanceMethod yX8_good, .selects RX8 yX8_good yX8_good] : List Cond) ++ ((wsV RX11 85 RX11 yX11_beginText vs_c_beginText0) ++ ((wsX110) ++ ((vs_c_rread) ++ ((vs_c_goodF) ++ ((wsX80) ++ ([])))))))
set_option maxHeartbeats 4000000 in
set_option maxRecDepth 100000 in
theorem c_rain0 (l : Launch) (hl : l.stackTraces = false) (D : va_G) (cy : Nat → ClassId) (sa : Nat → Nat) (ko : Nat) (ka : Nat → Nat) (sz : Nat) : Met l yX11_rain vs_c_rain0 ({ frames := 3, cells := 0, slots := 0, locals := 62 }) (va_Pc [.ref ko, .int 0] (pcW D cy sa sz [(ko, .inr (11, [.ref (ka 0), .ref (ka 1), .ref (ka 2), .int 0, .int 0, .ref (ka 5), .ref (ka 6), .ref (ka 7), .ref (ka 8), .ref (ka 9), .int 0, .ref (ka 11), .ref (ka 12), .ref (ka 13)])), ((ka 0), .inr (8, [.ref (ka 20), .int 0, .int 0, .int 0, .int 0, .int 0, .int (-1)])), ((ka 1), .inl (cy 4, 4, .inr (.inr (.inr (.inr (fun k => some (ka (100 + k)))))))), ((ka 100), .inr (5, [.ref (ka 51), .int 0]))])) (va_Qi (fun (r : Int32) (u : SU) => (r = (-9))) (fun u t => atW D (va_A [(ko, .inr (11, [.ref (ka 0), .ref (ka 1), .ref (ka 2), .int 0, .int 0, .ref (ka 5), .ref (ka 6), .ref (ka 7), .ref (ka 8), .ref (ka 9), .int 0, .ref (ka 11), .ref (ka 12), .ref (ka 13)])), ((ka 0), .inr (8, [.ref (ka 20), .int 0, .int 0, .int 0, .int 0, .int 0, .int (-1)])), ((ka 1), .inl (cy 4, 4, .inr (.inr (.inr (.inr (fun k => some (ka (100 + k)))))))), ((ka 100), .inr (5, [.ref (ka 51), .int 0]))] sz) [] t) (va_A [(ko, .inr (11, [.ref (ka 0), .ref (ka 1), .ref (ka 2), .int 0, .int 0, .ref (ka 5), .ref (ka 6), .ref (ka 7), .ref (ka 8), .ref (ka 9), .int 0, .ref (ka 11), .ref (ka 12), .ref (ka 13)])), ((ka 0), .inr (8, [.ref (ka 20), .int 0, .int 0, .int 0, .int 0, .int 0, .int (-1)])), ((ka 1), .inl (cy 4, 4, .inr (.inr (.inr (.inr (fun k => some (ka (100 + k)))))))), ((ka 100), .inr (5, [.ref (ka 51), .int 0]))] sz)) 0 0 (va_A [(ko, .inr (11, [.ref (ka 0), .ref (ka 1), .ref (ka 2), .int 0, .int 0, .ref (ka 5), .ref (ka 6), .ref (ka 7), .ref (ka 8), .ref (ka 9), .int 0, .ref (ka 11), .ref (ka 12), .ref (ka 13)])), ((ka 0), .inr (8, [.ref (ka 20), .int 0, .int 0, .int 0, .int 0, .int 0, .int (-1)])), ((ka 1), .inl (cy 4, 4, .inr (.inr (.inr (.inr (fun k => some (ka (100 + k)))))))), ((ka 100), .inr (5, [.ref (ka 51), .int 0]))] sz) := by
  refine Met.ofW (cc := cX11_rain) (maxL := 2) (ret := (some .int)) (by decide) rfl ?_
  intro p e s m args below meth c s₁ B hml hv
  obtain ⟨rfl, hsz, hP, hG, hD0, hT⟩ := hv
  have hx := B.exec
  have hb := B.bytes
  have hr := B.returns
  have hts := atoms_spec (ws := vs_c_rain0) B.pre
  have hown : s.vm.findClass RX11 = some m.cls := findClass_of_methodNamed B.named
  have hlocks := B.notSynchronized
  subst hsz
  have hD := hD0.self (sz := s.heap.size)
  generalize hAe : va_A [(ko, .inr (11, [.ref (ka 0), .ref (ka 1), .ref (ka 2), .int 0, .int 0, .ref (ka 5), .ref (ka 6), .ref (ka 7), .ref (ka 8), .ref (ka 9), .int 0, .ref (ka 11), .ref (ka 12), .ref (ka 13)])), ((ka 0), .inr (8, [.ref (ka 20), .int 0, .int 0, .int 0, .int 0, .int 0, .int (-1)])), ((ka 1), .inl (cy 4, 4, .inr (.inr (.inr (.inr (fun k => some (ka (100 + k)))))))), ((ka 100), .inr (5, [.ref (ka 51), .int 0]))] s.heap.size = A at hD hT ⊢
  have hA : ∀ q : Nat, s.heap.size ≤ q → A q := fun q h => by rw [← hAe]; exact Or.inr h
  have hS : va_S A s.heap s.heap [] := va_S.rf
  have hl0 := lv_entry ([.ref ko, .int 0]) (n := 2) (Nat.le_of_ble_eq_true rfl)
  rw [lg_entry_eq]
  generalize (lg_sl ([.ref ko, .int 0]) ++ List.replicate (2 - (lg_sl ([.ref ko, .int 0])).length) Slot.unset).toArray = ls at hl0 ⊢
  have hlv : lv_has ls 2 [(0, .ref ko), (1, .int 0)] := hl0
  have gg_0 : GoodIn vs_c_rain0 (wsV RX11 85 RX11 yX11_beginText vs_c_beginText0) := goodIn_sub (fun w h => List.mem_cons_of_mem _ (List.mem_append_right _ (List.mem_append_left _ h))) (by decide +kernel)
  have lf112 := hts (.fieldLink RX11 112 "KerbSplash" "rainsTold" "I") (List.mem_of_getElem? (i := 1) rfl)
  have hi11 : ∀ w ∈ wsX110, w ∈ vs_c_rain0 := fun w h => List.mem_cons_of_mem _ (List.mem_append_right _ (List.mem_append_right _ (List.mem_append_left _ h)))
  have lf18 := hts (.fieldLink RX11 18 "KerbSplash" "rains" "[LKerbSplash$Rain;") (List.mem_of_getElem? (i := 2) rfl)
  have lf10 := hts (.fieldLink RX11 10 "KerbSplash" "tape" "LKerbSplash$Tape;") (List.mem_of_getElem? (i := 3) rfl)
  have gg_2 : GoodIn vs_c_rain0 (vs_c_rread) := goodIn_sub (fun w h => List.mem_cons_of_mem _ (List.mem_append_right _ (List.mem_append_right _ (List.mem_append_right _ (List.mem_append_left _ h))))) (by decide +kernel)
  have ini_RX5 := hts (.initialized RX5) (List.mem_of_getElem? (i := 4) rfl)
  have im_X5_read := hts (.instanceMethod yX5_read) (List.mem_of_getElem? (i := 5) rfl)
  have se_X5_read := hts (.selects RX5 yX5_read yX5_read) (List.mem_of_getElem? (i := 6) rfl)
  have gg_3 : GoodIn vs_c_rain0 (vs_c_goodF) := goodIn_sub (fun w h => List.mem_cons_of_mem _ (List.mem_append_right _ (List.mem_append_right _ (List.mem_append_right _ (List.mem_append_right _ (List.mem_append_left _ h)))))) (by decide +kernel)
  have ini_RX8 := hts (.initialized RX8) (List.mem_of_getElem? (i := 7) rfl)
  have im_X8_good := hts (.instanceMethod yX8_good) (List.mem_of_getElem? (i := 8) rfl)
  have se_X8_good := hts (.selects RX8 yX8_good yX8_good) (List.mem_of_getElem? (i := 9) rfl)
  have hi8 : ∀ w ∈ wsX80, w ∈ vs_c_rain0 := fun w h => List.mem_cons_of_mem _ (List.mem_append_right _ (List.mem_append_right _ (List.mem_append_right _ (List.mem_append_right _ (List.mem_append_right _ (List.mem_append_left _ h))))))
  refine lv_aload_n hx hb dX11_rain_0 rfl (lv_at hlv 0 rfl) ?_
  refine lv_iload_n hx hb dX11_rain_1 rfl (lv_at hlv 1 rfl) ?_
  refine cj_v (wr := [((ka 1), .inl (cy 4, 4, .inr (.inr (.inr (.inr (fun k => some (ka (100 + k)))))))), ((ka 100), .inr (5, [.ref (ka 51), .int 0]))]) (va_runV (As := [.int 0]) (rest := []) ⟨hx, hb, hml, hown, hts⟩ (c_beginText0 l hl D cy sa ko ka s.heap.size) (cwV 1 hts gg_0 rfl rfl rfl (by decide +kernel) ⟨Nat.le_of_ble_eq_true rfl, Nat.le_of_ble_eq_true rfl⟩) ⟨pcW.blind, (va_recv hG.1 hP (ci := 11) (q0 := 0) rfl rfl), (pcW.mk hP hD hS hA hG hT [0, 1] rfl (by decide))⟩ rfl rfl hlv.1 rfl (lv_room (Nat.le_of_ble_eq_true rfl)) dX11_rain_2 ⟨Nat.le_of_ble_eq_true rfl, Nat.le_of_ble_eq_true rfl⟩) hP hD hS hA [0, 1] [2, 3] rfl rfl (by decide) (by decide) (fun u1 H locs hw1 hP hD hS => ?_)
  have hP : va_P D vwCl [((ka 1), .inl (cy 4, 4, .inr (.inr (.inr (.inr (fun k => some (ka (100 + k)))))))), ((ka 100), .inr (5, [.ref (ka 51), .int 0])), (ko, .inr (11, [.ref (ka 0), .ref (ka 1), .ref (ka 2), .int 0, .int 0, .ref (ka 5), .ref (ka 6), .ref (ka 7), .ref (ka 8), .ref (ka 9), .int 0, .ref (ka 11), .ref (ka 12), .ref (ka 13)])), ((ka 0), .inr (8, [.ref (ka 20), .int 0, .int 0, .int 0, .int 0, .int 0, .int (-1)]))] H := hP
  have hD : va_D A [((ka 1), .inl (cy 4, 4, .inr (.inr (.inr (.inr (fun k => some (ka (100 + k)))))))), ((ka 100), .inr (5, [.ref (ka 51), .int 0])), (ko, .inr (11, [.ref (ka 0), .ref (ka 1), .ref (ka 2), .int 0, .int 0, .ref (ka 5), .ref (ka 6), .ref (ka 7), .ref (ka 8), .ref (ka 9), .int 0, .ref (ka 11), .ref (ka 12), .ref (ka 13)])), ((ka 0), .inr (8, [.ref (ka 20), .int 0, .int 0, .int 0, .int 0, .int 0, .int (-1)]))] := hD
  refine lv_aload_n hx hb dX11_rain_5 rfl (lv_at hlv 0 rfl) ?_
  refine va_get (D := D) (ci := 11) (v := .int 0) (C := RX11) (T := TX11) (N := 14) hx hb hts hi11 hown hG.1 hP 2 rfl rfl 3 (by decide) lf112 (fun _ h9 => h9) rfl dX11_rain_6 ?_
  refine lv_iconst (v := 4) hx hb dX11_rain_9 (by decide) ?_
  refine lv_icmp_lt (tgt := 15) hx hb dX11_rain_10 (by decide) (fun _ => ?_) (fun c => absurd (by decide) c)
  refine lv_aload_n hx hb dX11_rain_15 rfl (lv_at hlv 0 rfl) ?_
  refine va_get (D := D) (ci := 11) (v := .ref (ka 1)) (C := RX11) (T := TX11) (N := 14) hx hb hts hi11 hown hG.1 hP 2 rfl rfl 1 (by decide) lf18 (fun _ h9 => h9) rfl dX11_rain_16 ?_
  refine lv_aload_n hx hb dX11_rain_19 rfl (lv_at hlv 0 rfl) ?_
  refine va_get (D := D) (ci := 11) (v := .int 0) (C := RX11) (T := TX11) (N := 14) hx hb hts hi11 hown hG.1 hP 2 rfl rfl 3 (by decide) lf112 (fun _ h9 => h9) rfl dX11_rain_20 ?_
  refine va_aldq hx hb hG.1 hP 0 4 rfl rfl (vpd (by decide)) dX11_rain_23 ?_
  refine ltv (y := .ref (ka 100)) (by rfl) ?_
  refine lv_aload_n hx hb dX11_rain_24 rfl (lv_at hlv 0 rfl) ?_
  refine va_get (D := D) (ci := 11) (v := .ref (ka 0)) (C := RX11) (T := TX11) (N := 14) hx hb hts hi11 hown hG.1 hP 2 rfl rfl 0 (by decide) lf10 (fun _ h9 => h9) rfl dX11_rain_25 ?_
  refine cj_v (wr := [((ka 1), .inl (cy 4, 4, .inr (.inr (.inr (.inr (fun k => some (ka (100 + k)))))))), (ko, .inr (11, [.ref (ka 0), .ref (ka 1), .ref (ka 2), .int 0, .int 0, .ref (ka 5), .ref (ka 6), .ref (ka 7), .ref (ka 8), .ref (ka 9), .int 0, .ref (ka 11), .ref (ka 12), .ref (ka 13)]))]) (va_runVN (host := "KerbSplash") (As := [.ref (ka 0)]) (rest := []) ⟨hx, hb, hml, hown, hts⟩ (c_rread l hl D cy sa ka H.size) ⟨va_cnB 1 hts gg_2 rfl rfl rfl (nM_K_115 hG.2.1) ini_RX5 (by decide +kernel) ⟨Nat.le_of_ble_eq_true rfl, Nat.le_of_ble_eq_true rfl⟩, im_X5_read, se_X5_read⟩ ⟨pcW.blind, (va_recv hG.1 hP (ci := 5) (q0 := 1) rfl rfl), (pcW.mk hP hD hS hA hG hT [1, 3] rfl (by decide))⟩ rfl rfl hlv.1 rfl (lv_room (Nat.le_of_ble_eq_true rfl)) dX11_rain_28 ⟨Nat.le_of_ble_eq_true rfl, Nat.le_of_ble_eq_true rfl⟩) hP hD hS hA [1, 3] [0, 2] rfl rfl (by decide) (by decide) (fun u2 H locs hw2 hP hD hS => ?_)
  have hP : va_P D vwCl [((ka 1), .inl (cy 4, 4, .inr (.inr (.inr (.inr (fun k => some (ka (100 + k)))))))), (ko, .inr (11, [.ref (ka 0), .ref (ka 1), .ref (ka 2), .int 0, .int 0, .ref (ka 5), .ref (ka 6), .ref (ka 7), .ref (ka 8), .ref (ka 9), .int 0, .ref (ka 11), .ref (ka 12), .ref (ka 13)])), ((ka 0), .inr (8, [.ref (ka 20), .int 0, .int 0, .int 0, .int 0, .int 1, .int 0]))] H := hP
  have hD : va_D A [((ka 1), .inl (cy 4, 4, .inr (.inr (.inr (.inr (fun k => some (ka (100 + k)))))))), (ko, .inr (11, [.ref (ka 0), .ref (ka 1), .ref (ka 2), .int 0, .int 0, .ref (ka 5), .ref (ka 6), .ref (ka 7), .ref (ka 8), .ref (ka 9), .int 0, .ref (ka 11), .ref (ka 12), .ref (ka 13)])), ((ka 0), .inr (8, [.ref (ka 20), .int 0, .int 0, .int 0, .int 0, .int 1, .int 0]))] := hD
  refine lv_aload_n hx hb dX11_rain_31 rfl (lv_at hlv 0 rfl) ?_
  refine va_get (D := D) (ci := 11) (v := .ref (ka 0)) (C := RX11) (T := TX11) (N := 14) hx hb hts hi11 hown hG.1 hP 1 rfl rfl 0 (by decide) lf10 (fun _ h9 => h9) rfl dX11_rain_32 ?_
  refine cj_i (wr := [((ka 1), .inl (cy 4, 4, .inr (.inr (.inr (.inr (fun k => some (ka (100 + k)))))))), (ko, .inr (11, [.ref (ka 0), .ref (ka 1), .ref (ka 2), .int 0, .int 0, .ref (ka 5), .ref (ka 6), .ref (ka 7), .ref (ka 8), .ref (ka 9), .int 0, .ref (ka 11), .ref (ka 12), .ref (ka 13)]))]) (va_runVN (host := "KerbSplash") (As := []) (rest := []) ⟨hx, hb, hml, hown, hts⟩ (c_goodF l hl D cy sa ka H.size) ⟨va_cnB 0 hts gg_3 rfl rfl rfl (nM_K_96 hG.2.1) ini_RX8 (by decide +kernel) ⟨Nat.le_of_ble_eq_true rfl, Nat.le_of_ble_eq_true rfl⟩, im_X8_good, se_X8_good⟩ ⟨pcW.blind, (va_recv hG.1 hP (ci := 8) (q0 := 2) rfl rfl), (pcW.mk hP hD hS hA hG hT [2] rfl (by decide))⟩ rfl rfl hlv.1 rfl (lv_room (Nat.le_of_ble_eq_true rfl)) dX11_rain_35 ⟨Nat.le_of_ble_eq_true rfl, Nat.le_of_ble_eq_true rfl⟩) hP hD hS hA [2] [0, 1] rfl rfl (by decide) (by decide) (fun r3 u3 H locs hw3 hP hD hS => ?_)
  obtain rfl := hw3
  have hP : va_P D vwCl [((ka 1), .inl (cy 4, 4, .inr (.inr (.inr (.inr (fun k => some (ka (100 + k)))))))), (ko, .inr (11, [.ref (ka 0), .ref (ka 1), .ref (ka 2), .int 0, .int 0, .ref (ka 5), .ref (ka 6), .ref (ka 7), .ref (ka 8), .ref (ka 9), .int 0, .ref (ka 11), .ref (ka 12), .ref (ka 13)])), ((ka 0), .inr (8, [.ref (ka 20), .int 0, .int 0, .int 0, .int 0, .int 1, .int 0]))] H := hP
  have hD : va_D A [((ka 1), .inl (cy 4, 4, .inr (.inr (.inr (.inr (fun k => some (ka (100 + k)))))))), (ko, .inr (11, [.ref (ka 0), .ref (ka 1), .ref (ka 2), .int 0, .int 0, .ref (ka 5), .ref (ka 6), .ref (ka 7), .ref (ka 8), .ref (ka 9), .int 0, .ref (ka 11), .ref (ka 12), .ref (ka 13)])), ((ka 0), .inr (8, [.ref (ka 20), .int 0, .int 0, .int 0, .int 0, .int 1, .int 0]))] := hD
  refine lv_if_ne (tgt := 52) hx hb dX11_rain_38 (by decide) (fun c => absurd (by decide) c) (fun _ => ?_)
  refine lv_aload_n hx hb dX11_rain_41 rfl (lv_at hlv 0 rfl) ?_
  refine va_get (D := D) (ci := 11) (v := .ref (ka 0)) (C := RX11) (T := TX11) (N := 14) hx hb hts hi11 hown hG.1 hP 1 rfl rfl 0 (by decide) lf10 (fun _ h9 => h9) rfl dX11_rain_42 ?_
  refine va_getN (D := D) (ci := 8) (v := .int 1) (C := RX8) (T := TX8) (N := 7) hx hb hts hi8 hown hG.1 hP 2 rfl rfl 5 (by decide) (va_Nw.use rfl (nF_K_99 hG.2.1)) (fun _ h9 => h9) rfl dX11_rain_45 ?_
  refine lv_bipush (v := 10) hx hb dX11_rain_48 (by decide) ?_
  refine lv_isub hx hb dX11_rain_50 ?_
  refine lt_i (y := (-9)) (by decide) ?_
  refine W.widen (k := 0) (n := 0) (Nat.le_of_ble_eq_true rfl) (Nat.le_of_ble_eq_true rfl) ?_
  exact W.iret (v := (-9)) hx hb hr (fun t ht hW => ⟨⟨(-9), ((fun k => ([] : List Nat).getD k 0), (fun k => ([] : List Int32).getD k 0), (fun k => ([] : List (Nat → Int32)).getD k (fun _ => 0))), rfl, (by first | (exact (by rfl))), by rw [ht]; exact hP.sub [] rfl, hD.sub [] (by decide) rfl⟩, hS.F ht⟩) hS.2.2 dX11_rain_51
def vs_c_lreset : List Cond := .code yX1_reset cX1_reset 1 none :: (([.fieldLink RX1 23 "KerbSplash$Law" "size" "I", .fieldLink RX1 17 "KerbSplash$Law" "starts" "[I"] : List Cond) ++ ((wsX10) ++ ((va_wsS RX1 27 yJ7_fill_53178 wsJ7_fill_53178) ++ ([]))))
set_option maxHeartbeats 4000000 in
set_option maxRecDepth 100000 in
theorem c_lreset (l : Launch) (hl : l.stackTraces = false) (D : va_G) (cy : Nat → ClassId) (sa : Nat → Nat) (ka : Nat → Nat) (f0 : Nat → Int32) (sz : Nat) : Met l yX1_reset vs_c_lreset ({ frames := 1, cells := 0, slots := 0, locals := 23 }) (va_Pc [.ref (ka 110)] (pcW D cy sa sz [((ka 110), .inr (1, [.ref (ka 53), .int 0, .ref (ka 54), .ref (ka 55)])), ((ka 54), .inl (cy 0, 5, .inl f0))])) (va_Qv (fun u : SU => (True)) (fun u t => atW D (va_A [((ka 110), .inr (1, [.ref (ka 53), .int 0, .ref (ka 54), .ref (ka 55)])), ((ka 54), .inl (cy 0, 5, .inl f0))] sz) [] t) (va_A [((ka 110), .inr (1, [.ref (ka 53), .int 0, .ref (ka 54), .ref (ka 55)])), ((ka 54), .inl (cy 0, 5, .inl f0))] sz)) 0 0 (va_A [((ka 110), .inr (1, [.ref (ka 53), .int 0, .ref (ka 54), .ref (ka 55)])), ((ka 54), .inl (cy 0, 5, .inl f0))] sz) := by
  refine Met.ofW (cc := cX1_reset) (maxL := 1) (ret := none) (by decide) rfl ?_
  intro p e s m args below meth c s₁ B hml hv
  obtain ⟨rfl, hsz, hP, hG, hD0, hT⟩ := hv
  have hx := B.exec
  have hb := B.bytes
  have hr := B.returns
  have hts := atoms_spec (ws := vs_c_lreset) B.pre
  have hown : s.vm.findClass RX1 = some m.cls := findClass_of_methodNamed B.named
  have hlocks := B.notSynchronized
  subst hsz
  have hD := hD0.self (sz := s.heap.size)
  generalize hAe : va_A [((ka 110), .inr (1, [.ref (ka 53), .int 0, .ref (ka 54), .ref (ka 55)])), ((ka 54), .inl (cy 0, 5, .inl f0))] s.heap.size = A at hD hT ⊢
  have hA : ∀ q : Nat, s.heap.size ≤ q → A q := fun q h => by rw [← hAe]; exact Or.inr h
  have hS : va_S A s.heap s.heap [] := va_S.rf
  have hl0 := lv_entry ([.ref (ka 110)]) (n := 1) (Nat.le_of_ble_eq_true rfl)
  rw [lg_entry_eq]
  generalize (lg_sl ([.ref (ka 110)]) ++ List.replicate (1 - (lg_sl ([.ref (ka 110)])).length) Slot.unset).toArray = ls at hl0 ⊢
  have hlv : lv_has ls 1 [(0, .ref (ka 110))] := hl0
  have lf23 := hts (.fieldLink RX1 23 "KerbSplash$Law" "size" "I") (List.mem_of_getElem? (i := 1) rfl)
  have hi1 : ∀ w ∈ wsX10, w ∈ vs_c_lreset := fun w h => List.mem_cons_of_mem _ (List.mem_append_right _ (List.mem_append_left _ h))
  have lf17 := hts (.fieldLink RX1 17 "KerbSplash$Law" "starts" "[I") (List.mem_of_getElem? (i := 2) rfl)
  have gg_1 : GoodIn vs_c_lreset (va_wsS RX1 27 yJ7_fill_53178 wsJ7_fill_53178) := goodIn_sub (fun w h => List.mem_cons_of_mem _ (List.mem_append_right _ (List.mem_append_right _ (List.mem_append_left _ h)))) (by decide +kernel)
  refine lv_aload_n hx hb dX1_reset_0 rfl (lv_at hlv 0 rfl) ?_
  refine lv_iconst (v := 0) hx hb dX1_reset_1 (by decide) ?_
  refine va_put (D := D) (ci := 1) (v := .int 0) (ty := .int) (C := RX1) (T := TX1) (N := 4) hx hb hts hi1 tyX1 tyX1_ok nmX1 hown hG.1 hP hD hS 0 rfl rfl 1 (by decide) lf23 (fun _ h9 => h9) rfl (by decide +kernel) rfl rfl (Nat.le_of_ble_eq_true rfl) dX1_reset_2 (fun H locs hP hD hS => ?_)
  have hP : va_P D vwCl [((ka 110), .inr (1, [.ref (ka 53), .int 0, .ref (ka 54), .ref (ka 55)])), ((ka 54), .inl (cy 0, 5, .inl f0))] H := hP
  have hD : va_D A [((ka 110), .inr (1, [.ref (ka 53), .int 0, .ref (ka 54), .ref (ka 55)])), ((ka 54), .inl (cy 0, 5, .inl f0))] := hD
  refine lv_aload_n hx hb dX1_reset_5 rfl (lv_at hlv 0 rfl) ?_
  refine va_get (D := D) (ci := 1) (v := .ref (ka 54)) (C := RX1) (T := TX1) (N := 4) hx hb hts hi1 hown hG.1 hP 0 rfl rfl 2 (by decide) lf17 (fun _ h9 => h9) rfl dX1_reset_6 ?_
  refine lv_iconst (v := (-1)) hx hb dX1_reset_9 (by decide) ?_
  refine cj_v (wr := [((ka 110), .inr (1, [.ref (ka 53), .int 0, .ref (ka 54), .ref (ka 55)]))]) (va_runS (As := [.ref (ka 54), .int (-1)]) (rest := []) ⟨hx, hb, hml, hown, hts⟩ (c_fill_5 l hl D cy sa (ka 54) (-1) f0 H.size) (va_cwS 2 hts gg_1 rfl rfl rfl (by decide +kernel) ⟨Nat.le_of_ble_eq_true rfl, Nat.le_of_ble_eq_true rfl⟩) ⟨pcW.blind, (pcW.mk hP hD hS hA hG hT [1] rfl (by decide))⟩ rfl rfl hlv.1 rfl (lv_room (Nat.le_of_ble_eq_true rfl)) dX1_reset_10 ⟨Nat.le_of_ble_eq_true rfl, Nat.le_of_ble_eq_true rfl⟩) hP hD hS hA [1] [0] rfl rfl (by decide) (by decide) (fun u1 H locs hw1 hP hD hS => ?_)
  have hP : va_P D vwCl [((ka 110), .inr (1, [.ref (ka 53), .int 0, .ref (ka 54), .ref (ka 55)])), ((ka 54), .inl (cy 0, 5, .inl (u1.2.2 0)))] H := hP
  have hD : va_D A [((ka 110), .inr (1, [.ref (ka 53), .int 0, .ref (ka 54), .ref (ka 55)])), ((ka 54), .inl (cy 0, 5, .inl (u1.2.2 0)))] := hD
  refine W.widen (k := 0) (n := 0) (Nat.le_of_ble_eq_true rfl) (Nat.le_of_ble_eq_true rfl) ?_
  exact W.vret hx hb hr (fun t ht hW => ⟨⟨((fun k => ([] : List Nat).getD k 0), (fun k => ([] : List Int32).getD k 0), (fun k => ([] : List (Nat → Int32)).getD k (fun _ => 0))), rfl, (by first | (trivial)), by rw [ht]; exact hP.sub [] rfl, hD.sub [] (by decide) rfl⟩, hS.F ht⟩) hS.2.2 dX1_reset_13
def vs_c_lrinit : List Cond := .code yX2_init cX2_init 3 none :: (([.methodLink RX2 3 objectInit, .instanceMethod objectInit, .code objectInit ⟨#[0xb1]⟩ 1 none, .fieldLink RX2 9 "KerbSplash$LawReader" "tape" "LKerbSplash$Tape;", .fieldLink RX2 15 "KerbSplash$LawReader" "law" "LKerbSplash$Law;"] : List Cond) ++ ((wsX20) ++ ([])))
set_option maxHeartbeats 4000000 in
set_option maxRecDepth 100000 in
theorem c_lrinit (l : Launch) (hl : l.stackTraces = false) (D : va_G) (cy : Nat → ClassId) (sa : Nat → Nat) (h0 t0 s0 : Nat) (sz : Nat) : Met l yX2_init vs_c_lrinit ({ frames := 1, cells := 0, slots := 0, locals := 20 }) (va_Pc [.ref h0, .ref t0, .ref s0] (pcW D cy sa sz [(h0, .inr (2, [.null, .null, .int 0]))])) (va_Qv (fun u : SU => (True)) (fun u t => atW D (va_A [(h0, .inr (2, [.null, .null, .int 0]))] sz) [(h0, .inr (2, [.ref t0, .ref s0, .int 0]))] t) (va_A [(h0, .inr (2, [.null, .null, .int 0]))] sz)) 0 0 (va_A [(h0, .inr (2, [.null, .null, .int 0]))] sz) := by
  refine Met.ofW (cc := cX2_init) (maxL := 3) (ret := none) (by decide) rfl ?_
  intro p e s m args below meth c s₁ B hml hv
  obtain ⟨rfl, hsz, hP, hG, hD0, hT⟩ := hv
  have hx := B.exec
  have hb := B.bytes
  have hr := B.returns
  have hts := atoms_spec (ws := vs_c_lrinit) B.pre
  have hown : s.vm.findClass RX2 = some m.cls := findClass_of_methodNamed B.named
  have hlocks := B.notSynchronized
  have hin : meth.name = "<init>" := (name_of_methodNamed B.named B.method).1
  subst hsz
  have hD := hD0.self (sz := s.heap.size)
  generalize hAe : va_A [(h0, .inr (2, [.null, .null, .int 0]))] s.heap.size = A at hD hT ⊢
  have hA : ∀ q : Nat, s.heap.size ≤ q → A q := fun q h => by rw [← hAe]; exact Or.inr h
  have hS : va_S A s.heap s.heap [] := va_S.rf
  have hl0 := lv_entry ([.ref h0, .ref t0, .ref s0]) (n := 3) (Nat.le_of_ble_eq_true rfl)
  rw [lg_entry_eq]
  generalize (lg_sl ([.ref h0, .ref t0, .ref s0]) ++ List.replicate (3 - (lg_sl ([.ref h0, .ref t0, .ref s0])).length) Slot.unset).toArray = ls at hl0 ⊢
  have hlv : lv_has ls 3 [(0, .ref h0), (1, .ref t0), (2, .ref s0)] := hl0
  have lo3 := hts (.methodLink RX2 3 objectInit) (List.mem_of_getElem? (i := 1) rfl)
  have oi := hts (.instanceMethod objectInit) (List.mem_of_getElem? (i := 2) rfl)
  have oc := hts (.code objectInit ⟨#[0xb1]⟩ 1 none) (List.mem_of_getElem? (i := 3) rfl)
  have lf9 := hts (.fieldLink RX2 9 "KerbSplash$LawReader" "tape" "LKerbSplash$Tape;") (List.mem_of_getElem? (i := 4) rfl)
  have hi2 : ∀ w ∈ wsX20, w ∈ vs_c_lrinit := fun w h => List.mem_cons_of_mem _ (List.mem_append_right _ (List.mem_append_left _ h))
  have lf15 := hts (.fieldLink RX2 15 "KerbSplash$LawReader" "law" "LKerbSplash$Law;") (List.mem_of_getElem? (i := 5) rfl)
  refine lv_aload_n hx hb dX2_init_0 rfl (lv_at hlv 0 rfl) ?_
  refine W.objInit hx hb hown lo3 oi oc rfl (by rw [hml]; exact hlv.1) rfl dX2_init_1 (Nat.le_of_ble_eq_true rfl) (Nat.le_of_ble_eq_true rfl) ?_
  refine W.eq (g2 := F0 m 4 ls []) rfl ?_
  refine lv_aload_n hx hb dX2_init_4 rfl (lv_at hlv 0 rfl) ?_
  refine lv_aload_n hx hb dX2_init_5 rfl (lv_at hlv 1 rfl) ?_
  refine va_putF (D := D) (ci := 2) (v := .ref t0) (ty := .object "KerbSplash$Tape") (C := RX2) (T := TX2) (N := 3) hx hb hts hi2 tyX2 tyX2_ok nmX2 hown hG.1 hP hD hS 0 rfl rfl 0 (by decide) lf9 (fun _ h9 => h9) rfl hin rfl (by decide +kernel) rfl rfl (Nat.le_of_ble_eq_true rfl) dX2_init_6 (fun H locs hP hD hS => ?_)
  have hP : va_P D vwCl [(h0, .inr (2, [.ref t0, .null, .int 0]))] H := hP
  have hD : va_D A [(h0, .inr (2, [.ref t0, .null, .int 0]))] := hD
  refine lv_aload_n hx hb dX2_init_9 rfl (lv_at hlv 0 rfl) ?_
  refine lv_aload_n hx hb dX2_init_10 rfl (lv_at hlv 2 rfl) ?_
  refine va_putF (D := D) (ci := 2) (v := .ref s0) (ty := .object "KerbSplash$Law") (C := RX2) (T := TX2) (N := 3) hx hb hts hi2 tyX2 tyX2_ok nmX2 hown hG.1 hP hD hS 0 rfl rfl 1 (by decide) lf15 (fun _ h9 => h9) rfl hin rfl (by decide +kernel) rfl rfl (Nat.le_of_ble_eq_true rfl) dX2_init_11 (fun H locs hP hD hS => ?_)
  have hP : va_P D vwCl [(h0, .inr (2, [.ref t0, .ref s0, .int 0]))] H := hP
  have hD : va_D A [(h0, .inr (2, [.ref t0, .ref s0, .int 0]))] := hD
  refine W.widen (k := 0) (n := 0) (Nat.le_of_ble_eq_true rfl) (Nat.le_of_ble_eq_true rfl) ?_
  exact W.vret hx hb hr (fun t ht hW => ⟨⟨((fun k => ([] : List Nat).getD k 0), (fun k => ([] : List Int32).getD k 0), (fun k => ([] : List (Nat → Int32)).getD k (fun _ => 0))), rfl, (by first | (trivial)), by rw [ht]; exact hP.sub [0] rfl, hD.sub [0] (by decide) rfl⟩, hS.F ht⟩) hS.2.2 dX2_init_14
def vs_c_lrread : List Cond := .code yX2_read cX2_read 2 none :: (([.fieldLink RX2 15 "KerbSplash$LawReader" "law" "LKerbSplash$Law;", .initialized RX1, .instanceMethod yX1_reset, .selects RX1 yX1_reset yX1_reset, .fieldLink RX2 9 "KerbSplash$LawReader" "tape" "LKerbSplash$Tape;", .initialized RX8, .instanceMethod yX8_hasMore, .selects RX8 yX8_hasMore yX8_hasMore] : List Cond) ++ ((wsX20) ++ ((vs_c_lreset) ++ ((vs_c_hasMore) ++ ([])))))
set_option maxHeartbeats 4000000 in
set_option maxRecDepth 100000 in
theorem c_lrread (l : Launch) (hl : l.stackTraces = false) (D : va_G) (cy : Nat → ClassId) (sa : Nat → Nat) (h0 : Nat) (ka : Nat → Nat) (f0 : Nat → Int32) (sz : Nat) : Met l yX2_read vs_c_lrread ({ frames := 2, cells := 0, slots := 0, locals := 43 }) (va_Pc [.ref h0] (pcW D cy sa sz [(h0, .inr (2, [.ref (ka 0), .ref (ka 110), .int 0])), ((ka 0), .inr (8, [.ref (ka 20), .int 0, .int 0, .int 0, .int 0, .int 0, .int (-1)])), ((ka 110), .inr (1, [.ref (ka 53), .int 0, .ref (ka 54), .ref (ka 55)])), ((ka 54), .inl (cy 0, 5, .inl f0))])) (va_Qv (fun u : SU => (True)) (fun u t => atW D (va_A [(h0, .inr (2, [.ref (ka 0), .ref (ka 110), .int 0])), ((ka 0), .inr (8, [.ref (ka 20), .int 0, .int 0, .int 0, .int 0, .int 0, .int (-1)])), ((ka 110), .inr (1, [.ref (ka 53), .int 0, .ref (ka 54), .ref (ka 55)])), ((ka 54), .inl (cy 0, 5, .inl f0))] sz) [((ka 0), .inr (8, [.ref (ka 20), .int 0, .int 0, .int 0, .int 0, .int 0, .int (-1)]))] t) (va_A [(h0, .inr (2, [.ref (ka 0), .ref (ka 110), .int 0])), ((ka 0), .inr (8, [.ref (ka 20), .int 0, .int 0, .int 0, .int 0, .int 0, .int (-1)])), ((ka 110), .inr (1, [.ref (ka 53), .int 0, .ref (ka 54), .ref (ka 55)])), ((ka 54), .inl (cy 0, 5, .inl f0))] sz)) 0 0 (va_A [(h0, .inr (2, [.ref (ka 0), .ref (ka 110), .int 0])), ((ka 0), .inr (8, [.ref (ka 20), .int 0, .int 0, .int 0, .int 0, .int 0, .int (-1)])), ((ka 110), .inr (1, [.ref (ka 53), .int 0, .ref (ka 54), .ref (ka 55)])), ((ka 54), .inl (cy 0, 5, .inl f0))] sz) := by
  refine Met.ofW (cc := cX2_read) (maxL := 2) (ret := none) (by decide) rfl ?_
  intro p e s m args below meth c s₁ B hml hv
  obtain ⟨rfl, hsz, hP, hG, hD0, hT⟩ := hv
  have hx := B.exec
  have hb := B.bytes
  have hr := B.returns
  have hts := atoms_spec (ws := vs_c_lrread) B.pre
  have hown : s.vm.findClass RX2 = some m.cls := findClass_of_methodNamed B.named
  have hlocks := B.notSynchronized
  subst hsz
  have hD := hD0.self (sz := s.heap.size)
  generalize hAe : va_A [(h0, .inr (2, [.ref (ka 0), .ref (ka 110), .int 0])), ((ka 0), .inr (8, [.ref (ka 20), .int 0, .int 0, .int 0, .int 0, .int 0, .int (-1)])), ((ka 110), .inr (1, [.ref (ka 53), .int 0, .ref (ka 54), .ref (ka 55)])), ((ka 54), .inl (cy 0, 5, .inl f0))] s.heap.size = A at hD hT ⊢
  have hA : ∀ q : Nat, s.heap.size ≤ q → A q := fun q h => by rw [← hAe]; exact Or.inr h
  have hS : va_S A s.heap s.heap [] := va_S.rf
  have hl0 := lv_entry ([.ref h0]) (n := 2) (Nat.le_of_ble_eq_true rfl)
  rw [lg_entry_eq]
  generalize (lg_sl ([.ref h0]) ++ List.replicate (2 - (lg_sl ([.ref h0])).length) Slot.unset).toArray = ls at hl0 ⊢
  have hlv : lv_has ls 2 [(0, .ref h0)] := hl0
  have lf15 := hts (.fieldLink RX2 15 "KerbSplash$LawReader" "law" "LKerbSplash$Law;") (List.mem_of_getElem? (i := 1) rfl)
  have hi2 : ∀ w ∈ wsX20, w ∈ vs_c_lrread := fun w h => List.mem_cons_of_mem _ (List.mem_append_right _ (List.mem_append_left _ h))
  have gg_1 : GoodIn vs_c_lrread (vs_c_lreset) := goodIn_sub (fun w h => List.mem_cons_of_mem _ (List.mem_append_right _ (List.mem_append_right _ (List.mem_append_left _ h)))) (by decide +kernel)
  have ini_RX1 := hts (.initialized RX1) (List.mem_of_getElem? (i := 2) rfl)
  have im_X1_reset := hts (.instanceMethod yX1_reset) (List.mem_of_getElem? (i := 3) rfl)
  have se_X1_reset := hts (.selects RX1 yX1_reset yX1_reset) (List.mem_of_getElem? (i := 4) rfl)
  have lf9 := hts (.fieldLink RX2 9 "KerbSplash$LawReader" "tape" "LKerbSplash$Tape;") (List.mem_of_getElem? (i := 5) rfl)
  have gg_2 : GoodIn vs_c_lrread (vs_c_hasMore) := goodIn_sub (fun w h => List.mem_cons_of_mem _ (List.mem_append_right _ (List.mem_append_right _ (List.mem_append_right _ (List.mem_append_left _ h))))) (by decide +kernel)
  have ini_RX8 := hts (.initialized RX8) (List.mem_of_getElem? (i := 6) rfl)
  have im_X8_hasMore := hts (.instanceMethod yX8_hasMore) (List.mem_of_getElem? (i := 7) rfl)
  have se_X8_hasMore := hts (.selects RX8 yX8_hasMore yX8_hasMore) (List.mem_of_getElem? (i := 8) rfl)
  refine lv_aload_n hx hb dX2_read_0 rfl (lv_at hlv 0 rfl) ?_
  refine va_get (D := D) (ci := 2) (v := .ref (ka 110)) (C := RX2) (T := TX2) (N := 3) hx hb hts hi2 hown hG.1 hP 0 rfl rfl 1 (by decide) lf15 (fun _ h9 => h9) rfl dX2_read_1 ?_
  refine cj_v (wr := [(h0, .inr (2, [.ref (ka 0), .ref (ka 110), .int 0])), ((ka 0), .inr (8, [.ref (ka 20), .int 0, .int 0, .int 0, .int 0, .int 0, .int (-1)]))]) (va_runVN (host := "KerbSplash") (As := []) (rest := []) ⟨hx, hb, hml, hown, hts⟩ (c_lreset l hl D cy sa ka f0 s.heap.size) ⟨va_cnB 0 hts gg_1 rfl rfl rfl (nM_LawReader_19 hG.2.1) ini_RX1 (by decide +kernel) ⟨Nat.le_of_ble_eq_true rfl, Nat.le_of_ble_eq_true rfl⟩, im_X1_reset, se_X1_reset⟩ ⟨pcW.blind, (va_recv hG.1 hP (ci := 1) (q0 := 2) rfl rfl), (pcW.mk hP hD hS hA hG hT [2, 3] rfl (by decide))⟩ rfl rfl hlv.1 rfl (lv_room (Nat.le_of_ble_eq_true rfl)) dX2_read_4 ⟨Nat.le_of_ble_eq_true rfl, Nat.le_of_ble_eq_true rfl⟩) hP hD hS hA [2, 3] [0, 1] rfl rfl (by decide) (by decide) (fun u1 H locs hw1 hP hD hS => ?_)
  have hP : va_P D vwCl [(h0, .inr (2, [.ref (ka 0), .ref (ka 110), .int 0])), ((ka 0), .inr (8, [.ref (ka 20), .int 0, .int 0, .int 0, .int 0, .int 0, .int (-1)]))] H := hP
  have hD : va_D A [(h0, .inr (2, [.ref (ka 0), .ref (ka 110), .int 0])), ((ka 0), .inr (8, [.ref (ka 20), .int 0, .int 0, .int 0, .int 0, .int 0, .int (-1)]))] := hD
  refine lv_iconst (v := 0) hx hb dX2_read_7 (by decide) ?_
  refine lv_istore_n (lv' := [(1, .int 0), (0, .ref h0)]) hx hb dX2_read_8 rfl hlv (by decide) rfl (fun ls hlv => ?_)
  refine lv_iload_n hx hb dX2_read_9 rfl (lv_at hlv 0 rfl) ?_
  refine lv_sipush (v := 600) hx hb dX2_read_10 (by decide) ?_
  refine lv_icmp_ge (tgt := 36) hx hb dX2_read_13 (by decide) (fun c => absurd c (by decide)) (fun _ => ?_)
  refine lv_aload_n hx hb dX2_read_16 rfl (lv_at hlv 1 rfl) ?_
  refine va_get (D := D) (ci := 2) (v := .ref (ka 0)) (C := RX2) (T := TX2) (N := 3) hx hb hts hi2 hown hG.1 hP 0 rfl rfl 0 (by decide) lf9 (fun _ h9 => h9) rfl dX2_read_17 ?_
  refine cj_i (wr := [(h0, .inr (2, [.ref (ka 0), .ref (ka 110), .int 0]))]) (va_runVN (host := "KerbSplash") (As := []) (rest := []) ⟨hx, hb, hml, hown, hts⟩ (c_hasMore l hl D cy sa ka H.size) ⟨va_cnB 0 hts gg_2 rfl rfl rfl (nM_LawReader_26 hG.2.1) ini_RX8 (by decide +kernel) ⟨Nat.le_of_ble_eq_true rfl, Nat.le_of_ble_eq_true rfl⟩, im_X8_hasMore, se_X8_hasMore⟩ ⟨pcW.blind, (va_recv hG.1 hP (ci := 8) (q0 := 1) rfl rfl), (pcW.mk hP hD hS hA hG hT [1] rfl (by decide))⟩ rfl rfl hlv.1 rfl (lv_room (Nat.le_of_ble_eq_true rfl)) dX2_read_20 ⟨Nat.le_of_ble_eq_true rfl, Nat.le_of_ble_eq_true rfl⟩) hP hD hS hA [1] [0] rfl rfl (by decide) (by decide) (fun r2 u2 H locs hw2 hP hD hS => ?_)
  obtain rfl := hw2
  have hP : va_P D vwCl [(h0, .inr (2, [.ref (ka 0), .ref (ka 110), .int 0])), ((ka 0), .inr (8, [.ref (ka 20), .int 0, .int 0, .int 0, .int 0, .int 0, .int (-1)]))] H := hP
  have hD : va_D A [(h0, .inr (2, [.ref (ka 0), .ref (ka 110), .int 0])), ((ka 0), .inr (8, [.ref (ka 20), .int 0, .int 0, .int 0, .int 0, .int 0, .int (-1)]))] := hD
  refine lv_if_eq (tgt := 36) hx hb dX2_read_23 (by decide) (fun _ => ?_) (fun c => absurd (by decide) c)
  refine W.widen (k := 0) (n := 0) (Nat.le_of_ble_eq_true rfl) (Nat.le_of_ble_eq_true rfl) ?_
  exact W.vret hx hb hr (fun t ht hW => ⟨⟨((fun k => ([] : List Nat).getD k 0), (fun k => ([] : List Int32).getD k 0), (fun k => ([] : List (Nat → Int32)).getD k (fun _ => 0))), rfl, (by first | (trivial)), by rw [ht]; exact hP.sub [1] rfl, hD.sub [1] (by decide) rfl⟩, hS.F ht⟩) hS.2.2 dX2_read_36
def vs_c_law0 : List Cond := .code yX11_law cX11_law 2 (some .int) :: (([.fieldLink RX11 118 "KerbSplash" "lawsTold" "I", .classLink RX11 121 RX2, .instantiable RX2 3, .initialized RX2, .fieldLink RX11 10 "KerbSplash" "tape" "LKerbSplash$Tape;", .fieldLink RX11 24 "KerbSplash" "laws" "[LKerbSplash$Law;", .instanceMethod yX2_init, .instanceMethod yX2_read, .selects RX2 yX2_read yX2_read, .initialized RX8, .instanceMethod yX8_good, .selects RX8 yX8_good yX8_good] : List Cond) ++ ((wsV RX11 85 RX11 yX11_beginText vs_c_beginText0) ++ ((wsX110) ++ ((wsX20) ++ ((vs_c_lrinit) ++ ((vs_c_lrread) ++ ((vs_c_good) ++ ([]))))))))
set_option maxHeartbeats 4000000 in
set_option maxRecDepth 100000 in
theorem c_law0 (l : Launch) (hl : l.stackTraces = false) (D : va_G) (cy : Nat → ClassId) (sa : Nat → Nat) (ko : Nat) (ka : Nat → Nat) (f0 : Nat → Int32) (sz : Nat) : Met l yX11_law vs_c_law0 ({ frames := 3, cells := 1, slots := 3, locals := 64 }) (va_Pc [.ref ko, .int 0] (pcW D cy sa sz [(ko, .inr (11, [.ref (ka 0), .ref (ka 1), .ref (ka 2), .int 0, .int 0, .ref (ka 5), .ref (ka 6), .ref (ka 7), .ref (ka 8), .ref (ka 9), .int 0, .ref (ka 11), .ref (ka 12), .ref (ka 13)])), ((ka 0), .inr (8, [.ref (ka 20), .int 0, .int 0, .int 0, .int 0, .int 0, .int (-1)])), ((ka 2), .inl (cy 5, 4, .inr (.inr (.inr (.inr (fun k => some (ka (110 + k)))))))), ((ka 110), .inr (1, [.ref (ka 53), .int 0, .ref (ka 54), .ref (ka 55)])), ((ka 54), .inl (cy 0, 5, .inl f0))])) (va_Qi (fun (r : Int32) (u : SU) => (r = 0)) (fun u t => atW D (va_A [(ko, .inr (11, [.ref (ka 0), .ref (ka 1), .ref (ka 2), .int 0, .int 0, .ref (ka 5), .ref (ka 6), .ref (ka 7), .ref (ka 8), .ref (ka 9), .int 0, .ref (ka 11), .ref (ka 12), .ref (ka 13)])), ((ka 0), .inr (8, [.ref (ka 20), .int 0, .int 0, .int 0, .int 0, .int 0, .int (-1)])), ((ka 2), .inl (cy 5, 4, .inr (.inr (.inr (.inr (fun k => some (ka (110 + k)))))))), ((ka 110), .inr (1, [.ref (ka 53), .int 0, .ref (ka 54), .ref (ka 55)])), ((ka 54), .inl (cy 0, 5, .inl f0))] sz) [] t) (va_A [(ko, .inr (11, [.ref (ka 0), .ref (ka 1), .ref (ka 2), .int 0, .int 0, .ref (ka 5), .ref (ka 6), .ref (ka 7), .ref (ka 8), .ref (ka 9), .int 0, .ref (ka 11), .ref (ka 12), .ref (ka 13)])), ((ka 0), .inr (8, [.ref (ka 20), .int 0, .int 0, .int 0, .int 0, .int 0, .int (-1)])), ((ka 2), .inl (cy 5, 4, .inr (.inr (.inr (.inr (fun k => some (ka (110 + k)))))))), ((ka 110), .inr (1, [.ref (ka 53), .int 0, .ref (ka 54), .ref (ka 55)])), ((ka 54), .inl (cy 0, 5, .inl f0))] sz)) 1 3 (va_A [(ko, .inr (11, [.ref (ka 0), .ref (ka 1), .ref (ka 2), .int 0, .int 0, .ref (ka 5), .ref (ka 6), .ref (ka 7), .ref (ka 8), .ref (ka 9), .int 0, .ref (ka 11), .ref (ka 12), .ref (ka 13)])), ((ka 0), .inr (8, [.ref (ka 20), .int 0, .int 0, .int 0, .int 0, .int 0, .int (-1)])), ((ka 2), .inl (cy 5, 4, .inr (.inr (.inr (.inr (fun k => some (ka (110 + k)))))))), ((ka 110), .inr (1, [.ref (ka 53), .int 0, .ref (ka 54), .ref (ka 55)])), ((ka 54), .inl (cy 0, 5, .inl f0))] sz) := by
  refine Met.ofW (cc := cX11_law) (maxL := 2) (ret := (some .int)) (by decide) rfl ?_
  intro p e s m args below meth c s₁ B hml hv
  obtain ⟨rfl, hsz, hP, hG, hD0, hT⟩ := hv
  have hx := B.exec
  have hb := B.bytes
  have hr := B.returns
  have hts := atoms_spec (ws := vs_c_law0) B.pre
  have hown : s.vm.findClass RX11 = some m.cls := findClass_of_methodNamed B.named
  have hlocks := B.notSynchronized
  subst hsz
  have hD := hD0.self (sz := s.heap.size)
  generalize hAe : va_A [(ko, .inr (11, [.ref (ka 0), .ref (ka 1), .ref (ka 2), .int 0, .int 0, .ref (ka 5), .ref (ka 6), .ref (ka 7), .ref (ka 8), .ref (ka 9), .int 0, .ref (ka 11), .ref (ka 12), .ref (ka 13)])), ((ka 0), .inr (8, [.ref (ka 20), .int 0, .int 0, .int 0, .int 0, .int 0, .int (-1)])), ((ka 2), .inl (cy 5, 4, .inr (.inr (.inr (.inr (fun k => some (ka (110 + k)))))))), ((ka 110), .inr (1, [.ref (ka 53), .int 0, .ref (ka 54), .ref (ka 55)])), ((ka 54), .inl (cy 0, 5, .inl f0))] s.heap.size = A at hD hT ⊢
  have hA : ∀ q : Nat, s.heap.size ≤ q → A q := fun q h => by rw [← hAe]; exact Or.inr h
  have hS : va_S A s.heap s.heap [] := va_S.rf
  have hl0 := lv_entry ([.ref ko, .int 0]) (n := 2) (Nat.le_of_ble_eq_true rfl)
  rw [lg_entry_eq]
  generalize (lg_sl ([.ref ko, .int 0]) ++ List.replicate (2 - (lg_sl ([.ref ko, .int 0])).length) Slot.unset).toArray = ls at hl0 ⊢
  have hlv : lv_has ls 2 [(0, .ref ko), (1, .int 0)] := hl0
  have gg_0 : GoodIn vs_c_law0 (wsV RX11 85 RX11 yX11_beginText vs_c_beginText0) := goodIn_sub (fun w h => List.mem_cons_of_mem _ (List.mem_append_right _ (List.mem_append_left _ h))) (by decide +kernel)
  have lf118 := hts (.fieldLink RX11 118 "KerbSplash" "lawsTold" "I") (List.mem_of_getElem? (i := 1) rfl)
  have hi11 : ∀ w ∈ wsX110, w ∈ vs_c_law0 := fun w h => List.mem_cons_of_mem _ (List.mem_append_right _ (List.mem_append_right _ (List.mem_append_left _ h)))
  have cl121 := hts (.classLink RX11 121 RX2) (List.mem_of_getElem? (i := 2) rfl)
  have in2 := hts (.instantiable RX2 3) (List.mem_of_getElem? (i := 3) rfl)
  have ini2 := hts (.initialized RX2) (List.mem_of_getElem? (i := 4) rfl)
  have hi2 : ∀ w ∈ wsX20, w ∈ vs_c_law0 := fun w h => List.mem_cons_of_mem _ (List.mem_append_right _ (List.mem_append_right _ (List.mem_append_right _ (List.mem_append_left _ h))))
  have lf10 := hts (.fieldLink RX11 10 "KerbSplash" "tape" "LKerbSplash$Tape;") (List.mem_of_getElem? (i := 5) rfl)
  have lf24 := hts (.fieldLink RX11 24 "KerbSplash" "laws" "[LKerbSplash$Law;") (List.mem_of_getElem? (i := 6) rfl)
  have gg_3 : GoodIn vs_c_law0 (vs_c_lrinit) := goodIn_sub (fun w h => List.mem_cons_of_mem _ (List.mem_append_right _ (List.mem_append_right _ (List.mem_append_right _ (List.mem_append_right _ (List.mem_append_left _ h)))))) (by decide +kernel)
  have ini_RX2 := hts (.initialized RX2) (List.mem_of_getElem? (i := 4) rfl)
  have im_X2_init := hts (.instanceMethod yX2_init) (List.mem_of_getElem? (i := 7) rfl)
  have gg_4 : GoodIn vs_c_law0 (vs_c_lrread) := goodIn_sub (fun w h => List.mem_cons_of_mem _ (List.mem_append_right _ (List.mem_append_right _ (List.mem_append_right _ (List.mem_append_right _ (List.mem_append_right _ (List.mem_append_left _ h))))))) (by decide +kernel)
  have im_X2_read := hts (.instanceMethod yX2_read) (List.mem_of_getElem? (i := 8) rfl)
  have se_X2_read := hts (.selects RX2 yX2_read yX2_read) (List.mem_of_getElem? (i := 9) rfl)
  have gg_5 : GoodIn vs_c_law0 (vs_c_good) := goodIn_sub (fun w h => List.mem_cons_of_mem _ (List.mem_append_right _ (List.mem_append_right _ (List.mem_append_right _ (List.mem_append_right _ (List.mem_append_right _ (List.mem_append_right _ (List.mem_append_left _ h)))))))) (by decide +kernel)
  have ini_RX8 := hts (.initialized RX8) (List.mem_of_getElem? (i := 10) rfl)
  have im_X8_good := hts (.instanceMethod yX8_good) (List.mem_of_getElem? (i := 11) rfl)
  have se_X8_good := hts (.selects RX8 yX8_good yX8_good) (List.mem_of_getElem? (i := 12) rfl)
  refine lv_aload_n hx hb dX11_law_0 rfl (lv_at hlv 0 rfl) ?_
  refine lv_iload_n hx hb dX11_law_1 rfl (lv_at hlv 1 rfl) ?_
  refine cj_v (wr := [((ka 2), .inl (cy 5, 4, .inr (.inr (.inr (.inr (fun k => some (ka (110 + k)))))))), ((ka 110), .inr (1, [.ref (ka 53), .int 0, .ref (ka 54), .ref (ka 55)])), ((ka 54), .inl (cy 0, 5, .inl f0))]) (va_runV (As := [.int 0]) (rest := []) ⟨hx, hb, hml, hown, hts⟩ (c_beginText0 l hl D cy sa ko ka s.heap.size) (cwV 1 hts gg_0 rfl rfl rfl (by decide +kernel) ⟨Nat.le_of_ble_eq_true rfl, Nat.le_of_ble_eq_true rfl⟩) ⟨pcW.blind, (va_recv hG.1 hP (ci := 11) (q0 := 0) rfl rfl), (pcW.mk hP hD hS hA hG hT [0, 1] rfl (by decide))⟩ rfl rfl hlv.1 rfl (lv_room (Nat.le_of_ble_eq_true rfl)) dX11_law_2 ⟨Nat.le_of_ble_eq_true rfl, Nat.le_of_ble_eq_true rfl⟩) hP hD hS hA [0, 1] [2, 3, 4] rfl rfl (by decide) (by decide) (fun u1 H locs hw1 hP hD hS => ?_)
  have hP : va_P D vwCl [((ka 2), .inl (cy 5, 4, .inr (.inr (.inr (.inr (fun k => some (ka (110 + k)))))))), ((ka 110), .inr (1, [.ref (ka 53), .int 0, .ref (ka 54), .ref (ka 55)])), ((ka 54), .inl (cy 0, 5, .inl f0)), (ko, .inr (11, [.ref (ka 0), .ref (ka 1), .ref (ka 2), .int 0, .int 0, .ref (ka 5), .ref (ka 6), .ref (ka 7), .ref (ka 8), .ref (ka 9), .int 0, .ref (ka 11), .ref (ka 12), .ref (ka 13)])), ((ka 0), .inr (8, [.ref (ka 20), .int 0, .int 0, .int 0, .int 0, .int 0, .int (-1)]))] H := hP
  have hD : va_D A [((ka 2), .inl (cy 5, 4, .inr (.inr (.inr (.inr (fun k => some (ka (110 + k)))))))), ((ka 110), .inr (1, [.ref (ka 53), .int 0, .ref (ka 54), .ref (ka 55)])), ((ka 54), .inl (cy 0, 5, .inl f0)), (ko, .inr (11, [.ref (ka 0), .ref (ka 1), .ref (ka 2), .int 0, .int 0, .ref (ka 5), .ref (ka 6), .ref (ka 7), .ref (ka 8), .ref (ka 9), .int 0, .ref (ka 11), .ref (ka 12), .ref (ka 13)])), ((ka 0), .inr (8, [.ref (ka 20), .int 0, .int 0, .int 0, .int 0, .int 0, .int (-1)]))] := hD
  refine lv_aload_n hx hb dX11_law_5 rfl (lv_at hlv 0 rfl) ?_
  refine va_get (D := D) (ci := 11) (v := .int 0) (C := RX11) (T := TX11) (N := 14) hx hb hts hi11 hown hG.1 hP 3 rfl rfl 4 (by decide) lf118 (fun _ h9 => h9) rfl dX11_law_6 ?_
  refine lv_iconst (v := 4) hx hb dX11_law_9 (by decide) ?_
  refine lv_icmp_lt (tgt := 15) hx hb dX11_law_10 (by decide) (fun _ => ?_) (fun c => absurd (by decide) c)
  refine va_new (ci := 2) (fs := [.null, .null, .int 0]) (C := RX2) (T := TX2) (N := 3) hx hb hts hi2 tyX2 tyX2_ok hown cl121 in2 ini2 hG.1 hP hD hS hA rfl (by decide) (Nat.le_of_ble_eq_true rfl) (Nat.le_of_ble_eq_true rfl) dX11_law_15 (fun q_1 H hP hD hS => ?_)
  have hP : va_P D vwCl [((ka 2), .inl (cy 5, 4, .inr (.inr (.inr (.inr (fun k => some (ka (110 + k)))))))), ((ka 110), .inr (1, [.ref (ka 53), .int 0, .ref (ka 54), .ref (ka 55)])), ((ka 54), .inl (cy 0, 5, .inl f0)), (ko, .inr (11, [.ref (ka 0), .ref (ka 1), .ref (ka 2), .int 0, .int 0, .ref (ka 5), .ref (ka 6), .ref (ka 7), .ref (ka 8), .ref (ka 9), .int 0, .ref (ka 11), .ref (ka 12), .ref (ka 13)])), ((ka 0), .inr (8, [.ref (ka 20), .int 0, .int 0, .int 0, .int 0, .int 0, .int (-1)])), (q_1, .inr (2, [.null, .null, .int 0]))] H := hP
  have hD : va_D A [((ka 2), .inl (cy 5, 4, .inr (.inr (.inr (.inr (fun k => some (ka (110 + k)))))))), ((ka 110), .inr (1, [.ref (ka 53), .int 0, .ref (ka 54), .ref (ka 55)])), ((ka 54), .inl (cy 0, 5, .inl f0)), (ko, .inr (11, [.ref (ka 0), .ref (ka 1), .ref (ka 2), .int 0, .int 0, .ref (ka 5), .ref (ka 6), .ref (ka 7), .ref (ka 8), .ref (ka 9), .int 0, .ref (ka 11), .ref (ka 12), .ref (ka 13)])), ((ka 0), .inr (8, [.ref (ka 20), .int 0, .int 0, .int 0, .int 0, .int 0, .int (-1)])), (q_1, .inr (2, [.null, .null, .int 0]))] := hD
  refine lv_dup hx hb dX11_law_18 rfl ?_
  refine lv_aload_n hx hb dX11_law_19 rfl (lv_at hlv 0 rfl) ?_
  refine va_get (D := D) (ci := 11) (v := .ref (ka 0)) (C := RX11) (T := TX11) (N := 14) hx hb hts hi11 hown hG.1 hP 3 rfl rfl 0 (by decide) lf10 (fun _ h9 => h9) rfl dX11_law_20 ?_
  refine lv_aload_n hx hb dX11_law_23 rfl (lv_at hlv 0 rfl) ?_
  refine va_get (D := D) (ci := 11) (v := .ref (ka 2)) (C := RX11) (T := TX11) (N := 14) hx hb hts hi11 hown hG.1 hP 3 rfl rfl 2 (by decide) lf24 (fun _ h9 => h9) rfl dX11_law_24 ?_
  refine lv_aload_n hx hb dX11_law_27 rfl (lv_at hlv 0 rfl) ?_
  refine va_get (D := D) (ci := 11) (v := .int 0) (C := RX11) (T := TX11) (N := 14) hx hb hts hi11 hown hG.1 hP 3 rfl rfl 4 (by decide) lf118 (fun _ h9 => h9) rfl dX11_law_28 ?_
  refine va_aldq hx hb hG.1 hP 0 5 rfl rfl (vpd (by decide)) dX11_law_31 ?_
  refine ltv (y := .ref (ka 110)) (by rfl) ?_
  refine cj_v (wr := [((ka 2), .inl (cy 5, 4, .inr (.inr (.inr (.inr (fun k => some (ka (110 + k)))))))), ((ka 110), .inr (1, [.ref (ka 53), .int 0, .ref (ka 54), .ref (ka 55)])), ((ka 54), .inl (cy 0, 5, .inl f0)), (ko, .inr (11, [.ref (ka 0), .ref (ka 1), .ref (ka 2), .int 0, .int 0, .ref (ka 5), .ref (ka 6), .ref (ka 7), .ref (ka 8), .ref (ka 9), .int 0, .ref (ka 11), .ref (ka 12), .ref (ka 13)])), ((ka 0), .inr (8, [.ref (ka 20), .int 0, .int 0, .int 0, .int 0, .int 0, .int (-1)]))]) (va_runIN (host := "KerbSplash") (As := [.ref (ka 0), .ref (ka 110)]) (rest := [.ref q_1]) ⟨hx, hb, hml, hown, hts⟩ (c_lrinit l hl D cy sa q_1 (ka 0) (ka 110) H.size) ⟨va_cnB 2 hts gg_3 rfl rfl rfl (nM_K_123 hG.2.1) ini_RX2 (by decide +kernel) ⟨Nat.le_of_ble_eq_true rfl, Nat.le_of_ble_eq_true rfl⟩, rfl, im_X2_init⟩ ⟨pcW.blind, (pcW.mk hP hD hS hA hG hT [5] rfl (by decide))⟩ rfl rfl hlv.1 rfl (lv_room (Nat.le_of_ble_eq_true rfl)) dX11_law_32 ⟨Nat.le_of_ble_eq_true rfl, Nat.le_of_ble_eq_true rfl⟩) hP hD hS hA [5] [0, 1, 2, 3, 4] rfl rfl (by decide) (by decide) (fun u2 H locs hw2 hP hD hS => ?_)
  have hP : va_P D vwCl [((ka 2), .inl (cy 5, 4, .inr (.inr (.inr (.inr (fun k => some (ka (110 + k)))))))), ((ka 110), .inr (1, [.ref (ka 53), .int 0, .ref (ka 54), .ref (ka 55)])), ((ka 54), .inl (cy 0, 5, .inl f0)), (ko, .inr (11, [.ref (ka 0), .ref (ka 1), .ref (ka 2), .int 0, .int 0, .ref (ka 5), .ref (ka 6), .ref (ka 7), .ref (ka 8), .ref (ka 9), .int 0, .ref (ka 11), .ref (ka 12), .ref (ka 13)])), ((ka 0), .inr (8, [.ref (ka 20), .int 0, .int 0, .int 0, .int 0, .int 0, .int (-1)])), (q_1, .inr (2, [.ref (ka 0), .ref (ka 110), .int 0]))] H := hP
  have hD : va_D A [((ka 2), .inl (cy 5, 4, .inr (.inr (.inr (.inr (fun k => some (ka (110 + k)))))))), ((ka 110), .inr (1, [.ref (ka 53), .int 0, .ref (ka 54), .ref (ka 55)])), ((ka 54), .inl (cy 0, 5, .inl f0)), (ko, .inr (11, [.ref (ka 0), .ref (ka 1), .ref (ka 2), .int 0, .int 0, .ref (ka 5), .ref (ka 6), .ref (ka 7), .ref (ka 8), .ref (ka 9), .int 0, .ref (ka 11), .ref (ka 12), .ref (ka 13)])), ((ka 0), .inr (8, [.ref (ka 20), .int 0, .int 0, .int 0, .int 0, .int 0, .int (-1)])), (q_1, .inr (2, [.ref (ka 0), .ref (ka 110), .int 0]))] := hD
  refine cj_v (wr := [((ka 2), .inl (cy 5, 4, .inr (.inr (.inr (.inr (fun k => some (ka (110 + k)))))))), (ko, .inr (11, [.ref (ka 0), .ref (ka 1), .ref (ka 2), .int 0, .int 0, .ref (ka 5), .ref (ka 6), .ref (ka 7), .ref (ka 8), .ref (ka 9), .int 0, .ref (ka 11), .ref (ka 12), .ref (ka 13)]))]) (va_runVN (host := "KerbSplash") (As := []) (rest := []) ⟨hx, hb, hml, hown, hts⟩ (c_lrread l hl D cy sa q_1 ka f0 H.size) ⟨va_cnB 0 hts gg_4 rfl rfl rfl (nM_K_126 hG.2.1) ini_RX2 (by decide +kernel) ⟨Nat.le_of_ble_eq_true rfl, Nat.le_of_ble_eq_true rfl⟩, im_X2_read, se_X2_read⟩ ⟨pcW.blind, (va_recv hG.1 hP (ci := 2) (q0 := 5) rfl rfl), (pcW.mk hP hD hS hA hG hT [5, 4, 1, 2] rfl (by decide))⟩ rfl rfl hlv.1 rfl (lv_room (Nat.le_of_ble_eq_true rfl)) dX11_law_35 ⟨Nat.le_of_ble_eq_true rfl, Nat.le_of_ble_eq_true rfl⟩) hP hD hS hA [5, 4, 1, 2] [0, 3] rfl rfl (by decide) (by decide) (fun u3 H locs hw3 hP hD hS => ?_)
  have hP : va_P D vwCl [((ka 2), .inl (cy 5, 4, .inr (.inr (.inr (.inr (fun k => some (ka (110 + k)))))))), (ko, .inr (11, [.ref (ka 0), .ref (ka 1), .ref (ka 2), .int 0, .int 0, .ref (ka 5), .ref (ka 6), .ref (ka 7), .ref (ka 8), .ref (ka 9), .int 0, .ref (ka 11), .ref (ka 12), .ref (ka 13)])), ((ka 0), .inr (8, [.ref (ka 20), .int 0, .int 0, .int 0, .int 0, .int 0, .int (-1)]))] H := hP
  have hD : va_D A [((ka 2), .inl (cy 5, 4, .inr (.inr (.inr (.inr (fun k => some (ka (110 + k)))))))), (ko, .inr (11, [.ref (ka 0), .ref (ka 1), .ref (ka 2), .int 0, .int 0, .ref (ka 5), .ref (ka 6), .ref (ka 7), .ref (ka 8), .ref (ka 9), .int 0, .ref (ka 11), .ref (ka 12), .ref (ka 13)])), ((ka 0), .inr (8, [.ref (ka 20), .int 0, .int 0, .int 0, .int 0, .int 0, .int (-1)]))] := hD
  refine lv_aload_n hx hb dX11_law_38 rfl (lv_at hlv 0 rfl) ?_
  refine va_get (D := D) (ci := 11) (v := .ref (ka 0)) (C := RX11) (T := TX11) (N := 14) hx hb hts hi11 hown hG.1 hP 1 rfl rfl 0 (by decide) lf10 (fun _ h9 => h9) rfl dX11_law_39 ?_
  refine cj_i (wr := [((ka 2), .inl (cy 5, 4, .inr (.inr (.inr (.inr (fun k => some (ka (110 + k)))))))), (ko, .inr (11, [.ref (ka 0), .ref (ka 1), .ref (ka 2), .int 0, .int 0, .ref (ka 5), .ref (ka 6), .ref (ka 7), .ref (ka 8), .ref (ka 9), .int 0, .ref (ka 11), .ref (ka 12), .ref (ka 13)]))]) (va_runVN (host := "KerbSplash") (As := []) (rest := []) ⟨hx, hb, hml, hown, hts⟩ (c_good l hl D cy sa ka H.size) ⟨va_cnB 0 hts gg_5 rfl rfl rfl (nM_K_96 hG.2.1) ini_RX8 (by decide +kernel) ⟨Nat.le_of_ble_eq_true rfl, Nat.le_of_ble_eq_true rfl⟩, im_X8_good, se_X8_good⟩ ⟨pcW.blind, (va_recv hG.1 hP (ci := 8) (q0 := 2) rfl rfl), (pcW.mk hP hD hS hA hG hT [2] rfl (by decide))⟩ rfl rfl hlv.1 rfl (lv_room (Nat.le_of_ble_eq_true rfl)) dX11_law_42 ⟨Nat.le_of_ble_eq_true rfl, Nat.le_of_ble_eq_true rfl⟩) hP hD hS hA [2] [0, 1] rfl rfl (by decide) (by decide) (fun r4 u4 H locs hw4 hP hD hS => ?_)
  obtain rfl := hw4
  have hP : va_P D vwCl [((ka 2), .inl (cy 5, 4, .inr (.inr (.inr (.inr (fun k => some (ka (110 + k)))))))), (ko, .inr (11, [.ref (ka 0), .ref (ka 1), .ref (ka 2), .int 0, .int 0, .ref (ka 5), .ref (ka 6), .ref (ka 7), .ref (ka 8), .ref (ka 9), .int 0, .ref (ka 11), .ref (ka 12), .ref (ka 13)])), ((ka 0), .inr (8, [.ref (ka 20), .int 0, .int 0, .int 0, .int 0, .int 0, .int (-1)]))] H := hP
  have hD : va_D A [((ka 2), .inl (cy 5, 4, .inr (.inr (.inr (.inr (fun k => some (ka (110 + k)))))))), (ko, .inr (11, [.ref (ka 0), .ref (ka 1), .ref (ka 2), .int 0, .int 0, .ref (ka 5), .ref (ka 6), .ref (ka 7), .ref (ka 8), .ref (ka 9), .int 0, .ref (ka 11), .ref (ka 12), .ref (ka 13)])), ((ka 0), .inr (8, [.ref (ka 20), .int 0, .int 0, .int 0, .int 0, .int 0, .int (-1)]))] := hD
  refine lv_if_ne (tgt := 59) hx hb dX11_law_45 (by decide) (fun _ => ?_) (fun c => absurd c (by decide))
  refine lv_aload_n hx hb dX11_law_59 rfl (lv_at hlv 0 rfl) ?_
  refine lv_dup hx hb dX11_law_60 rfl ?_
  refine va_get (D := D) (ci := 11) (v := .int 0) (C := RX11) (T := TX11) (N := 14) hx hb hts hi11 hown hG.1 hP 1 rfl rfl 4 (by decide) lf118 (fun _ h9 => h9) rfl dX11_law_61 ?_
  refine lv_iconst (v := 1) hx hb dX11_law_64 (by decide) ?_
  refine lv_iadd hx hb dX11_law_65 ?_
  refine lt_i (y := 1) (by decide) ?_
  refine va_put (D := D) (ci := 11) (v := .int 1) (ty := .int) (C := RX11) (T := TX11) (N := 14) hx hb hts hi11 tyX11 tyX11_ok nmX11 hown hG.1 hP hD hS 1 rfl rfl 4 (by decide) lf118 (fun _ h9 => h9) rfl (by decide +kernel) rfl rfl (Nat.le_of_ble_eq_true rfl) dX11_law_66 (fun H locs hP hD hS => ?_)
  have hP : va_P D vwCl [((ka 2), .inl (cy 5, 4, .inr (.inr (.inr (.inr (fun k => some (ka (110 + k)))))))), (ko, .inr (11, [.ref (ka 0), .ref (ka 1), .ref (ka 2), .int 0, .int 1, .ref (ka 5), .ref (ka 6), .ref (ka 7), .ref (ka 8), .ref (ka 9), .int 0, .ref (ka 11), .ref (ka 12), .ref (ka 13)])), ((ka 0), .inr (8, [.ref (ka 20), .int 0, .int 0, .int 0, .int 0, .int 0, .int (-1)]))] H := hP
  have hD : va_D A [((ka 2), .inl (cy 5, 4, .inr (.inr (.inr (.inr (fun k => some (ka (110 + k)))))))), (ko, .inr (11, [.ref (ka 0), .ref (ka 1), .ref (ka 2), .int 0, .int 1, .ref (ka 5), .ref (ka 6), .ref (ka 7), .ref (ka 8), .ref (ka 9), .int 0, .ref (ka 11), .ref (ka 12), .ref (ka 13)])), ((ka 0), .inr (8, [.ref (ka 20), .int 0, .int 0, .int 0, .int 0, .int 0, .int (-1)]))] := hD
  refine lv_aload_n hx hb dX11_law_69 rfl (lv_at hlv 0 rfl) ?_
  refine va_get (D := D) (ci := 11) (v := .int 1) (C := RX11) (T := TX11) (N := 14) hx hb hts hi11 hown hG.1 hP 1 rfl rfl 4 (by decide) lf118 (fun _ h9 => h9) rfl dX11_law_70 ?_
  refine lv_iconst (v := 1) hx hb dX11_law_73 (by decide) ?_
  refine lv_isub hx hb dX11_law_74 ?_
  refine lt_i (y := 0) (by decide) ?_
  refine W.widen (k := 1) (n := 3) (Nat.le_of_ble_eq_true rfl) (Nat.le_of_ble_eq_true rfl) ?_
  exact W.iret (v := 0) hx hb hr (fun t ht hW => ⟨⟨0, ((fun k => ([] : List Nat).getD k 0), (fun k => ([] : List Int32).getD k 0), (fun k => ([] : List (Nat → Int32)).getD k (fun _ => 0))), rfl, (by first | (exact (by rfl))), by rw [ht]; exact hP.sub [] rfl, hD.sub [] (by decide) rfl⟩, hS.F ht⟩) hS.2.2 dX11_law_75
