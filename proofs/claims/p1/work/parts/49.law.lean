
set_option maxHeartbeats 4000000 in
set_option maxRecDepth 100000 in
theorem law_countx {p : Program} {e : Env} {s : State} {m : MethodId} {below : List Frame} {meth : Method} {c : Code} (l : Launch) (hl : l.stackTraces = false) {b : Nat} {xs : Nat → Int32} {D : va_G} {cy : Nat → ClassId} {sa : Nat → Nat} {A : Nat → Prop} (hAe : A = fun q => s.heap.size ≤ q) (C0 : lw_At p s m meth c b 10 xs) (hG : GC D cy sa s) (hT : TH A s s.heap) (h63 : xs 0 &&& 63 = 37) (hnc0 : ¬ ((xs 1) = 0)) (hnc1 : ¬ ((xs 1) = 1)) (hnc2 : ¬ ((xs 1) = 2)) (hnc3 : ¬ ((xs 1) = 3)) : W p l e room_1 s m #[Value.ref b] below meth c s.heap [] 0 0 (lw_Z below #[Value.ref b] s) (entryFrame m ([Value.ref b] : List Value).toArray 7) := by
  obtain ⟨hx, hb, hr, hml, hown0, hts0, hX, hbl, hlocks, hgv⟩ := id C0
  have hown : s.vm.findClass RL = some m.cls := hown0
  have hts := hts0
  have hA : ∀ q : Nat, s.heap.size ≤ q → A q := fun q h => by rw [hAe]; exact h
  have hbA : ¬ A b := by rw [hAe]; exact Nat.not_le.mpr hbl
  have hS : va_S A s.heap s.heap [] := va_S.rf
  have hP : va_P D vwCl [] s.heap := fun k q h => by simp at h
  have hD : va_D A [] := ⟨fun i j p q h => by simp at h, fun k q h => by simp at h⟩
  have hl0 := lv_entry ([.ref b]) (n := 7) (Nat.le_of_ble_eq_true rfl)
  rw [lg_entry_eq]
  generalize (lg_sl ([.ref b]) ++ List.replicate (7 - (lg_sl ([.ref b])).length) Slot.unset).toArray = ls at hl0 ⊢
  have hlv : lv_has ls 7 [(0, .ref b)] := hl0
  have cl8 := hts (.classLink RL 8 RX11) lwd_0
  have in11 := hts (.instantiable RX11 14) lwd_1
  have ini11 := hts (.initialized RX11) lwd_2
  have ini_RX11 := hts (.initialized RX11) lwd_2
  have ml117 := hts (.methodLink RL 117 yX11_init) lwd_3
  have im_X11_init := hts (.instanceMethod yX11_init) lwd_4
  have cl118 := hts (.classLink RL 118 RX12) lwd_5
  have in12 := hts (.instantiable RX12 38) lwd_6
  have ini12 := hts (.initialized RX12) lwd_7
  have ini_RX12 := hts (.initialized RX12) lwd_7
  have ml120 := hts (.methodLink RL 120 yX12_init) lwd_8
  have im_X12_init := hts (.instanceMethod yX12_init) lwd_9
  have ac2 := hts (.arrayClass .long) lwd_10
  refine va_new (ci := 11) (fs := [.null, .null, .null, .int 0, .int 0, .null, .null, .null, .null, .null, .int 0, .null, .null, .null]) (C := RX11) (T := TX11) (N := 14) hx hb hts inX11 tyX11 tyX11_ok hown cl8 in11 ini11 hG.1 hP hD hS hA rfl (by decide) (Nat.le_of_ble_eq_true rfl) (Nat.le_of_ble_eq_true rfl) dL_law__0 (fun q_1 H hP hD hS => ?_)
  have hP : va_P D vwCl [(q_1, .inr (11, [.null, .null, .null, .int 0, .int 0, .null, .null, .null, .null, .null, .int 0, .null, .null, .null]))] H := hP
  have hD : va_D A [(q_1, .inr (11, [.null, .null, .null, .int 0, .int 0, .null, .null, .null, .null, .null, .int 0, .null, .null, .null]))] := hD
  refine lv_dup hx hb dL_law__3 rfl ?_
  refine cj_v (wr := []) (va_runI (As := []) (rest := [.ref q_1]) ⟨hx, hb, hml, hown, hts⟩ (c_K_countx l hl D cy sa q_1 H.size) (cwI 0 hts gl_X11_init rfl rfl rfl ini_RX11 ml117 im_X11_init rfl (by decide +kernel) ⟨Nat.le_of_ble_eq_true rfl, Nat.le_of_ble_eq_true rfl⟩) ⟨pcW.blind, (pcW.mk hP hD hS hA hG hT [0] rfl (by decide))⟩ rfl rfl hlv.1 rfl (lv_room (Nat.le_of_ble_eq_true rfl)) dL_law__4 ⟨Nat.le_of_ble_eq_true rfl, Nat.le_of_ble_eq_true rfl⟩) hP hD hS hA [0] [] rfl rfl (by decide) (by decide) (fun u1 H locs hw1 hP hD hS => ?_)
  have hP : va_P D vwCl [(q_1, .inr (11, [.ref (u1.1 0), .ref (u1.1 1), .ref (u1.1 2), .int 0, .int 0, .ref (u1.1 5), .ref (u1.1 6), .ref (u1.1 7), .ref (u1.1 8), .ref (u1.1 9), .int 0, .ref (u1.1 11), .ref (u1.1 12), .ref (u1.1 13)]))] H := hP
  have hD : va_D A [(q_1, .inr (11, [.ref (u1.1 0), .ref (u1.1 1), .ref (u1.1 2), .int 0, .int 0, .ref (u1.1 5), .ref (u1.1 6), .ref (u1.1 7), .ref (u1.1 8), .ref (u1.1 9), .int 0, .ref (u1.1 11), .ref (u1.1 12), .ref (u1.1 13)]))] := hD
  refine lv_astore_n (lv' := [(1, .ref q_1), (0, .ref b)]) hx hb dL_law__7 rfl hlv (by decide) rfl (fun ls hlv => ?_)
  refine va_new (ci := 12) (fs := [.int 0, .null, .int 0, .int 0, .int 0, .int 0, .int 0, .int 0, .int 0, .null, .null, .null, .null, .null, .null, .null, .int 0, .int 0, .int 0, .null, .null, .null, .int 0, .null, .null, .null, .null, .null, .null, .int 0, .int 0, .int 0, .int 0, .null, .int 0, .null, .int 0, .int 0]) (C := RX12) (T := TX12) (N := 38) hx hb hts inX12 tyX12 tyX12_ok hown cl118 in12 ini12 hG.1 hP hD hS hA rfl (by decide) (Nat.le_of_ble_eq_true rfl) (Nat.le_of_ble_eq_true rfl) dL_law__8 (fun q_2 H hP hD hS => ?_)
  have hP : va_P D vwCl [(q_1, .inr (11, [.ref (u1.1 0), .ref (u1.1 1), .ref (u1.1 2), .int 0, .int 0, .ref (u1.1 5), .ref (u1.1 6), .ref (u1.1 7), .ref (u1.1 8), .ref (u1.1 9), .int 0, .ref (u1.1 11), .ref (u1.1 12), .ref (u1.1 13)])), (q_2, .inr (12, [.int 0, .null, .int 0, .int 0, .int 0, .int 0, .int 0, .int 0, .int 0, .null, .null, .null, .null, .null, .null, .null, .int 0, .int 0, .int 0, .null, .null, .null, .int 0, .null, .null, .null, .null, .null, .null, .int 0, .int 0, .int 0, .int 0, .null, .int 0, .null, .int 0, .int 0]))] H := hP
  have hD : va_D A [(q_1, .inr (11, [.ref (u1.1 0), .ref (u1.1 1), .ref (u1.1 2), .int 0, .int 0, .ref (u1.1 5), .ref (u1.1 6), .ref (u1.1 7), .ref (u1.1 8), .ref (u1.1 9), .int 0, .ref (u1.1 11), .ref (u1.1 12), .ref (u1.1 13)])), (q_2, .inr (12, [.int 0, .null, .int 0, .int 0, .int 0, .int 0, .int 0, .int 0, .int 0, .null, .null, .null, .null, .null, .null, .null, .int 0, .int 0, .int 0, .null, .null, .null, .int 0, .null, .null, .null, .null, .null, .null, .int 0, .int 0, .int 0, .int 0, .null, .int 0, .null, .int 0, .int 0]))] := hD
  refine lv_dup hx hb dL_law__11 rfl ?_
  refine cj_v (wr := [(q_1, .inr (11, [.ref (u1.1 0), .ref (u1.1 1), .ref (u1.1 2), .int 0, .int 0, .ref (u1.1 5), .ref (u1.1 6), .ref (u1.1 7), .ref (u1.1 8), .ref (u1.1 9), .int 0, .ref (u1.1 11), .ref (u1.1 12), .ref (u1.1 13)]))]) (va_runI (As := []) (rest := [.ref q_2]) ⟨hx, hb, hml, hown, hts⟩ (c_M_countx l hl D cy sa q_2 H.size) (cwI 0 hts gl_X12_init rfl rfl rfl ini_RX12 ml120 im_X12_init rfl (by decide +kernel) ⟨Nat.le_of_ble_eq_true rfl, Nat.le_of_ble_eq_true rfl⟩) ⟨pcW.blind, (pcW.mk hP hD hS hA hG hT [1] rfl (by decide))⟩ rfl rfl hlv.1 rfl (lv_room (Nat.le_of_ble_eq_true rfl)) dL_law__12 ⟨Nat.le_of_ble_eq_true rfl, Nat.le_of_ble_eq_true rfl⟩) hP hD hS hA [1] [0] rfl rfl (by decide) (by decide) (fun u2 H locs hw2 hP hD hS => ?_)
  have hP : va_P D vwCl [(q_1, .inr (11, [.ref (u1.1 0), .ref (u1.1 1), .ref (u1.1 2), .int 0, .int 0, .ref (u1.1 5), .ref (u1.1 6), .ref (u1.1 7), .ref (u1.1 8), .ref (u1.1 9), .int 0, .ref (u1.1 11), .ref (u1.1 12), .ref (u1.1 13)])), (q_2, .inr (12, [.int 0, .ref (u2.1 1), .int 0, .int 0, .int 0, .int 0, .int 0, .int 0, .int (-1), .ref (u2.1 9), .ref (u2.1 10), .ref (u2.1 11), .ref (u2.1 12), .ref (u2.1 13), .ref (u2.1 14), .ref (u2.1 15), .int 0, .int 0, .int 0, .ref (u2.1 19), .ref (u2.1 20), .ref (u2.1 21), .int 0, .ref (u2.1 23), .ref (u2.1 24), .ref (u2.1 25), .ref (u2.1 26), .ref (u2.1 27), .ref (u2.1 28), .int 0, .int 0, .int 0, .int 0, .ref (u2.1 33), .int (-1), .ref (u2.1 35), .int 0, .int 0]))] H := hP
  have hD : va_D A [(q_1, .inr (11, [.ref (u1.1 0), .ref (u1.1 1), .ref (u1.1 2), .int 0, .int 0, .ref (u1.1 5), .ref (u1.1 6), .ref (u1.1 7), .ref (u1.1 8), .ref (u1.1 9), .int 0, .ref (u1.1 11), .ref (u1.1 12), .ref (u1.1 13)])), (q_2, .inr (12, [.int 0, .ref (u2.1 1), .int 0, .int 0, .int 0, .int 0, .int 0, .int 0, .int (-1), .ref (u2.1 9), .ref (u2.1 10), .ref (u2.1 11), .ref (u2.1 12), .ref (u2.1 13), .ref (u2.1 14), .ref (u2.1 15), .int 0, .int 0, .int 0, .ref (u2.1 19), .ref (u2.1 20), .ref (u2.1 21), .int 0, .ref (u2.1 23), .ref (u2.1 24), .ref (u2.1 25), .ref (u2.1 26), .ref (u2.1 27), .ref (u2.1 28), .int 0, .int 0, .int 0, .int 0, .ref (u2.1 33), .int (-1), .ref (u2.1 35), .int 0, .int 0]))] := hD
  refine lv_astore_n (lv' := [(2, .ref q_2), (1, .ref q_1), (0, .ref b)]) hx hb dL_law__15 rfl hlv (by decide) rfl (fun ls hlv => ?_)
  refine lv_iconst (v := 1) hx hb dL_law__16 (by decide) ?_
  refine nw_a (atype := .long) (cy := cy) (a0 := (1, .inr (.inl (fun _ => 0)))) (N' := 1) hx hb ac2 (ty := .long) rfl 2 rfl (fun C h => nomatch h) hG.1 hP hD hS hA (fun cA => rfl) (by decide) (by decide) (Nat.le_of_ble_eq_true rfl) (Nat.le_of_ble_eq_true rfl) (Nat.le_of_ble_eq_true rfl) dL_law__17 (fun q_3 H hP hD hS => ?_)
  have hP : va_P D vwCl [(q_1, .inr (11, [.ref (u1.1 0), .ref (u1.1 1), .ref (u1.1 2), .int 0, .int 0, .ref (u1.1 5), .ref (u1.1 6), .ref (u1.1 7), .ref (u1.1 8), .ref (u1.1 9), .int 0, .ref (u1.1 11), .ref (u1.1 12), .ref (u1.1 13)])), (q_2, .inr (12, [.int 0, .ref (u2.1 1), .int 0, .int 0, .int 0, .int 0, .int 0, .int 0, .int (-1), .ref (u2.1 9), .ref (u2.1 10), .ref (u2.1 11), .ref (u2.1 12), .ref (u2.1 13), .ref (u2.1 14), .ref (u2.1 15), .int 0, .int 0, .int 0, .ref (u2.1 19), .ref (u2.1 20), .ref (u2.1 21), .int 0, .ref (u2.1 23), .ref (u2.1 24), .ref (u2.1 25), .ref (u2.1 26), .ref (u2.1 27), .ref (u2.1 28), .int 0, .int 0, .int 0, .int 0, .ref (u2.1 33), .int (-1), .ref (u2.1 35), .int 0, .int 0])), (q_3, .inl (cy 2, 1, .inr (.inl (fun _ => 0))))] H := hP
  have hD : va_D A [(q_1, .inr (11, [.ref (u1.1 0), .ref (u1.1 1), .ref (u1.1 2), .int 0, .int 0, .ref (u1.1 5), .ref (u1.1 6), .ref (u1.1 7), .ref (u1.1 8), .ref (u1.1 9), .int 0, .ref (u1.1 11), .ref (u1.1 12), .ref (u1.1 13)])), (q_2, .inr (12, [.int 0, .ref (u2.1 1), .int 0, .int 0, .int 0, .int 0, .int 0, .int 0, .int (-1), .ref (u2.1 9), .ref (u2.1 10), .ref (u2.1 11), .ref (u2.1 12), .ref (u2.1 13), .ref (u2.1 14), .ref (u2.1 15), .int 0, .int 0, .int 0, .ref (u2.1 19), .ref (u2.1 20), .ref (u2.1 21), .int 0, .ref (u2.1 23), .ref (u2.1 24), .ref (u2.1 25), .ref (u2.1 26), .ref (u2.1 27), .ref (u2.1 28), .int 0, .int 0, .int 0, .int 0, .ref (u2.1 33), .int (-1), .ref (u2.1 35), .int 0, .int 0])), (q_3, .inl (cy 2, 1, .inr (.inl (fun _ => 0))))] := hD
  refine lv_astore_n (lv' := [(3, .ref q_3), (2, .ref q_2), (1, .ref q_1), (0, .ref b)]) hx hb dL_law__19 rfl hlv (by decide) rfl (fun ls hlv => ?_)
  refine lv_iconst (v := 0) hx hb dL_law__20 (by decide) ?_
  refine lv_istore (lv' := [(4, .int 0), (3, .ref q_3), (2, .ref q_2), (1, .ref q_1), (0, .ref b)]) hx hb dL_law__21 hlv (by decide) rfl (fun ls hlv => ?_)
  refine lv_iload hx hb dL_law__23 (lv_at hlv 0 rfl) ?_
  refine lv_aload_n hx hb dL_law__25 rfl (lv_at hlv 4 rfl) ?_
  refine va_slen hx hb hX hbl hbA hS dL_law__26 ?_
  refine lt_i (y := 10) (by decide) ?_
  refine lv_bipush (v := 10) hx hb dL_law__27 (by decide) ?_
  refine lv_isub hx hb dL_law__29 ?_
  refine lt_i (y := 0) (by decide) ?_
  refine lv_icmp_gt (tgt := 2761) hx hb dL_law__30 (by decide) (fun c => absurd c (by decide)) (fun _ => ?_)
  refine lv_aload_n hx hb dL_law__33 rfl (lv_at hlv 4 rfl) ?_
  refine lv_iload hx hb dL_law__34 (lv_at hlv 0 rfl) ?_
  refine va_sld hx hb hX hbl hbA hS (vpd (by decide)) dL_law__36 ?_
  refine lt_i (y := xs 0) rfl ?_
  refine lv_bipush (v := 63) hx hb dL_law__37 (by decide) ?_
  refine lv_iand hx hb dL_law__39 ?_
  refine lt_i (y := 37) h63 ?_
  refine lv_tableIn (tgt := 2730) hx hb dL_law__40 (by decide) (by decide) rfl (by decide) ?_
  refine lv_aload_n hx hb dL_law__2730 rfl (lv_at hlv 3 rfl) ?_
  refine lv_aload_n hx hb dL_law__2731 rfl (lv_at hlv 4 rfl) ?_
  refine lv_iload hx hb dL_law__2732 (lv_at hlv 0 rfl) ?_
  refine lv_iconst (v := 1) hx hb dL_law__2734 (by decide) ?_
  refine lv_iadd hx hb dL_law__2735 ?_
  refine lt_i (y := 1) (by decide) ?_
  refine va_sld hx hb hX hbl hbA hS (vpd (by decide)) dL_law__2736 ?_
  refine lt_i (y := xs 1) rfl ?_
  refine cj_i (wr := [(q_2, .inr (12, [.int 0, .ref (u2.1 1), .int 0, .int 0, .int 0, .int 0, .int 0, .int 0, .int (-1), .ref (u2.1 9), .ref (u2.1 10), .ref (u2.1 11), .ref (u2.1 12), .ref (u2.1 13), .ref (u2.1 14), .ref (u2.1 15), .int 0, .int 0, .int 0, .ref (u2.1 19), .ref (u2.1 20), .ref (u2.1 21), .int 0, .ref (u2.1 23), .ref (u2.1 24), .ref (u2.1 25), .ref (u2.1 26), .ref (u2.1 27), .ref (u2.1 28), .int 0, .int 0, .int 0, .int 0, .ref (u2.1 33), .int (-1), .ref (u2.1 35), .int 0, .int 0])), (q_3, .inl (cy 2, 1, .inr (.inl (fun _ => 0))))]) (va_runV (As := [.int (xs 1)]) (rest := []) ⟨hx, hb, hml, hown, hts⟩ (c_countx l hl D cy sa q_1 u1.1 (xs 1) H.size hnc0 hnc1 hnc2 hnc3) (cwV 1 hts gl_c_countx rfl rfl rfl (by decide +kernel) ⟨Nat.le_of_ble_eq_true rfl, Nat.le_of_ble_eq_true rfl⟩) ⟨pcW.blind, (va_recv hG.1 hP (ci := 11) (q0 := 0) rfl rfl), (pcW.mk hP hD hS hA hG hT [0] rfl (by decide))⟩ rfl rfl hlv.1 rfl (lv_room (Nat.le_of_ble_eq_true rfl)) dL_law__2737 ⟨Nat.le_of_ble_eq_true rfl, Nat.le_of_ble_eq_true rfl⟩) hP hD hS hA [0] [1, 2] rfl rfl (by decide) (by decide) (fun r3 u3 H locs hw3 hP hD hS => ?_)
  obtain rfl := hw3
  have hP : va_P D vwCl [(q_2, .inr (12, [.int 0, .ref (u2.1 1), .int 0, .int 0, .int 0, .int 0, .int 0, .int 0, .int (-1), .ref (u2.1 9), .ref (u2.1 10), .ref (u2.1 11), .ref (u2.1 12), .ref (u2.1 13), .ref (u2.1 14), .ref (u2.1 15), .int 0, .int 0, .int 0, .ref (u2.1 19), .ref (u2.1 20), .ref (u2.1 21), .int 0, .ref (u2.1 23), .ref (u2.1 24), .ref (u2.1 25), .ref (u2.1 26), .ref (u2.1 27), .ref (u2.1 28), .int 0, .int 0, .int 0, .int 0, .ref (u2.1 33), .int (-1), .ref (u2.1 35), .int 0, .int 0])), (q_3, .inl (cy 2, 1, .inr (.inl (fun _ => 0))))] H := hP
  have hD : va_D A [(q_2, .inr (12, [.int 0, .ref (u2.1 1), .int 0, .int 0, .int 0, .int 0, .int 0, .int 0, .int (-1), .ref (u2.1 9), .ref (u2.1 10), .ref (u2.1 11), .ref (u2.1 12), .ref (u2.1 13), .ref (u2.1 14), .ref (u2.1 15), .int 0, .int 0, .int 0, .ref (u2.1 19), .ref (u2.1 20), .ref (u2.1 21), .int 0, .ref (u2.1 23), .ref (u2.1 24), .ref (u2.1 25), .ref (u2.1 26), .ref (u2.1 27), .ref (u2.1 28), .int 0, .int 0, .int 0, .int 0, .ref (u2.1 33), .int (-1), .ref (u2.1 35), .int 0, .int 0])), (q_3, .inl (cy 2, 1, .inr (.inl (fun _ => 0))))] := hD
  refine lv_aload_n hx hb dL_law__2740 rfl (lv_at hlv 2 rfl) ?_
  refine lv_aload_n hx hb dL_law__2741 rfl (lv_at hlv 4 rfl) ?_
  refine lv_iload hx hb dL_law__2742 (lv_at hlv 0 rfl) ?_
  refine lv_iconst (v := 1) hx hb dL_law__2744 (by decide) ?_
  refine lv_iadd hx hb dL_law__2745 ?_
  refine lt_i (y := 1) (by decide) ?_
  refine va_sld hx hb hX hbl hbA hS (vpd (by decide)) dL_law__2746 ?_
  refine lt_i (y := xs 1) rfl ?_
  refine cj_i (wr := [(q_3, .inl (cy 2, 1, .inr (.inl (fun _ => 0))))]) (va_runV (As := [.int (xs 1)]) (rest := [.int (-1)]) ⟨hx, hb, hml, hown, hts⟩ (m_countx l hl D cy sa q_2 u2.1 (xs 1) H.size hnc0 hnc1 hnc2 hnc3) (cwV 1 hts gl_m_countx rfl rfl rfl (by decide +kernel) ⟨Nat.le_of_ble_eq_true rfl, Nat.le_of_ble_eq_true rfl⟩) ⟨pcW.blind, (va_recv hG.1 hP (ci := 12) (q0 := 0) rfl rfl), (pcW.mk hP hD hS hA hG hT [0] rfl (by decide))⟩ rfl rfl hlv.1 rfl (lv_room (Nat.le_of_ble_eq_true rfl)) dL_law__2747 ⟨Nat.le_of_ble_eq_true rfl, Nat.le_of_ble_eq_true rfl⟩) hP hD hS hA [0] [1] rfl rfl (by decide) (by decide) (fun r4 u4 H locs hw4 hP hD hS => ?_)
  obtain rfl := hw4
  have hP : va_P D vwCl [(q_3, .inl (cy 2, 1, .inr (.inl (fun _ => 0))))] H := hP
  have hD : va_D A [(q_3, .inl (cy 2, 1, .inr (.inl (fun _ => 0))))] := hD
  refine lv_icmp_eq (tgt := 2755) hx hb dL_law__2750 (by decide) (fun _ => ?_) (fun c => absurd (by decide) c)
  refine lv_iinc (v := 10) (lv' := [(4, .int 10), (3, .ref q_3), (2, .ref q_2), (1, .ref q_1), (0, .ref b)]) hx hb dL_law__2755 hlv (k := 0) rfl (by decide) (by decide) rfl (fun ls hlv => ?_)
  refine lv_goto (tgt := 23) hx hb dL_law__2758 (by decide) ?_
  refine lv_iload hx hb dL_law__23 (lv_at hlv 0 rfl) ?_
  refine lv_aload_n hx hb dL_law__25 rfl (lv_at hlv 4 rfl) ?_
  refine va_slen hx hb hX hbl hbA hS dL_law__26 ?_
  refine lt_i (y := 10) (by decide) ?_
  refine lv_bipush (v := 10) hx hb dL_law__27 (by decide) ?_
  refine lv_isub hx hb dL_law__29 ?_
  refine lt_i (y := 0) (by decide) ?_
  refine lv_icmp_gt (tgt := 2761) hx hb dL_law__30 (by decide) (fun _ => ?_) (fun c => absurd (by decide) c)
  refine lv_iconst (v := 1) hx hb dL_law__2761 (by decide) ?_
  refine va_forget (fun q hq => by have h9 := hS.2.2 q hq; rw [hAe] at h9; exact h9) ?_
  refine W.widen (k := 600002) (n := 7302232) (Nat.le_of_ble_eq_true rfl) (Nat.le_of_ble_eq_true rfl) ?_
  exact lw_ret hx hb hr hlocks dL_law__2762
