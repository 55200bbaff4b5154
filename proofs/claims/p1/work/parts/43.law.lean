theorem dL_law__1000 : decode cL_law_ 1000 = .ok (.iaload, 1) := by decide +kernel
theorem dL_law__1001 : decode cL_law_ 1001 = .ok (.aload_n 3, 1) := by decide +kernel
theorem dL_law__1002 : decode cL_law_ 1002 = .ok (.invokestatic 171, 3) := by decide +kernel
theorem dL_law__1005 : decode cL_law_ 1005 = .ok (.istore 5, 2) := by decide +kernel
theorem dL_law__1007 : decode cL_law_ 1007 = .ok (.aload_n 2, 1) := by decide +kernel
theorem dL_law__1008 : decode cL_law_ 1008 = .ok (.aload_n 0, 1) := by decide +kernel
theorem dL_law__1009 : decode cL_law_ 1009 = .ok (.iload 4, 2) := by decide +kernel
theorem dL_law__1011 : decode cL_law_ 1011 = .ok (.iconst 1, 1) := by decide +kernel
theorem dL_law__1012 : decode cL_law_ 1012 = .ok (.iadd, 1) := by decide +kernel
theorem dL_law__1013 : decode cL_law_ 1013 = .ok (.iaload, 1) := by decide +kernel
theorem dL_law__1014 : decode cL_law_ 1014 = .ok (.invokevirtual 173, 3) := by decide +kernel
theorem dL_law__1017 : decode cL_law_ 1017 = .ok (.istore 6, 2) := by decide +kernel
theorem dL_law__1019 : decode cL_law_ 1019 = .ok (.aload_n 2, 1) := by decide +kernel
theorem dL_law__1020 : decode cL_law_ 1020 = .ok (.invokevirtual 131, 3) := by decide +kernel
theorem dL_law__1023 : decode cL_law_ 1023 = .ok (.iload 5, 2) := by decide +kernel
theorem dL_law__1025 : decode cL_law_ 1025 = .ok (.if_icmp .eq 5, 3) := by decide +kernel
theorem dL_law__1030 : decode cL_law_ 1030 = .ok (.iload 5, 2) := by decide +kernel
theorem dL_law__1032 : decode cL_law_ 1032 = .ok (.ifCond .ne 15, 3) := by decide +kernel
theorem dL_law__1047 : decode cL_law_ 1047 = .ok (.goto 1708, 3) := by decide +kernel
theorem dL_law__1050 : decode cL_law_ 1050 = .ok (.aload_n 1, 1) := by decide +kernel
theorem dL_law__1051 : decode cL_law_ 1051 = .ok (.aload_n 0, 1) := by decide +kernel
theorem dL_law__1052 : decode cL_law_ 1052 = .ok (.iload 4, 2) := by decide +kernel
theorem dL_law__1054 : decode cL_law_ 1054 = .ok (.iconst 1, 1) := by decide +kernel
theorem dL_law__1055 : decode cL_law_ 1055 = .ok (.iadd, 1) := by decide +kernel
theorem dL_law__1056 : decode cL_law_ 1056 = .ok (.iaload, 1) := by decide +kernel
theorem dL_law__1057 : decode cL_law_ 1057 = .ok (.aload_n 3, 1) := by decide +kernel
theorem dL_law__1058 : decode cL_law_ 1058 = .ok (.invokestatic 174, 3) := by decide +kernel
theorem dL_law__1061 : decode cL_law_ 1061 = .ok (.istore 5, 2) := by decide +kernel
theorem dL_law__1063 : decode cL_law_ 1063 = .ok (.aload_n 2, 1) := by decide +kernel
theorem dL_law__1064 : decode cL_law_ 1064 = .ok (.aload_n 0, 1) := by decide +kernel
theorem dL_law__1065 : decode cL_law_ 1065 = .ok (.iload 4, 2) := by decide +kernel
theorem dL_law__1067 : decode cL_law_ 1067 = .ok (.iconst 1, 1) := by decide +kernel
theorem dL_law__1068 : decode cL_law_ 1068 = .ok (.iadd, 1) := by decide +kernel
theorem dL_law__1069 : decode cL_law_ 1069 = .ok (.iaload, 1) := by decide +kernel
theorem dL_law__1070 : decode cL_law_ 1070 = .ok (.invokevirtual 176, 3) := by decide +kernel
theorem dL_law__1073 : decode cL_law_ 1073 = .ok (.istore 6, 2) := by decide +kernel
theorem dL_law__1075 : decode cL_law_ 1075 = .ok (.aload_n 2, 1) := by decide +kernel
theorem dL_law__1076 : decode cL_law_ 1076 = .ok (.invokevirtual 131, 3) := by decide +kernel
theorem dL_law__1079 : decode cL_law_ 1079 = .ok (.iload 5, 2) := by decide +kernel
theorem dL_law__1081 : decode cL_law_ 1081 = .ok (.if_icmp .eq 5, 3) := by decide +kernel
theorem dL_law__1086 : decode cL_law_ 1086 = .ok (.iload 5, 2) := by decide +kernel
theorem dL_law__1088 : decode cL_law_ 1088 = .ok (.ifCond .ne 15, 3) := by decide +kernel
theorem dL_law__1091 : decode cL_law_ 1091 = .ok (.aload_n 3, 1) := by decide +kernel
theorem dL_law__1092 : decode cL_law_ 1092 = .ok (.iconst 0, 1) := by decide +kernel
theorem dL_law__1093 : decode cL_law_ 1093 = .ok (.laload, 1) := by decide +kernel
theorem dL_law__1094 : decode cL_law_ 1094 = .ok (.iload 6, 2) := by decide +kernel
theorem dL_law__1096 : decode cL_law_ 1096 = .ok (.i2l, 1) := by decide +kernel
theorem dL_law__1097 : decode cL_law_ 1097 = .ok (.lcmp, 1) := by decide +kernel
theorem dL_law__1098 : decode cL_law_ 1098 = .ok (.ifCond .eq 5, 3) := by decide +kernel
theorem dL_law__1103 : decode cL_law_ 1103 = .ok (.goto 1652, 3) := by decide +kernel
theorem dL_law__994 : decode cL_law_ 994 = .ok (.aload_n 1, 1) := by decide +kernel
theorem dL_law__995 : decode cL_law_ 995 = .ok (.aload_n 0, 1) := by decide +kernel
theorem dL_law__996 : decode cL_law_ 996 = .ok (.iload 4, 2) := by decide +kernel
theorem dL_law__998 : decode cL_law_ 998 = .ok (.iconst 1, 1) := by decide +kernel
theorem dL_law__999 : decode cL_law_ 999 = .ok (.iadd, 1) := by decide +kernel
set_option maxHeartbeats 4000000 in
set_option maxRecDepth 100000 in
theorem law_shower {p : Program} {e : Env} {s : State} {m : MethodId} {below : List Frame} {meth : Method} {c : Code} (l : Launch) (hl : l.stackTraces = false) {b : Nat} {xs : Nat → Int32} {D : va_G} {cy : Nat → ClassId} {sa : Nat → Nat} {A : Nat → Prop} (hAe : A = fun q => s.heap.size ≤ q) (C0 : lw_At p s m meth c b 10 xs) (hG : GC D cy sa s) (hT : TH A s s.heap) (h63 : xs 0 &&& 63 = 13) : W p l e room_1 s m #[Value.ref b] below meth c s.heap [] 0 0 (lw_Z below #[Value.ref b] s) (entryFrame m ([Value.ref b] : List Value).toArray 7) := by
  obtain ⟨hx, hb, hr, hml, hown0, hts0, hX, hbl, hlocks, hgv⟩ := id C0
  have hown : s.vm.findClass RL = some m.cls := hown0
  have hts := hts0
  have hA : ∀ q : Nat, s.heap.size ≤ q → A q := fun q h => by rw [hAe]; exact h
  have hbA : ¬ A b := by rw [hAe]; exact Nat.not_le.mpr hbl
  have hS : va_S A s.heap s.heap [] := va_S.rf
  have hP : va_P D vwCl [] s.heap := fun k q h => by simp at h
  have hD : va_D A [] := ⟨fun i j p q h => by simp at h, fun k q h => by simp at h⟩
  have hl0 := lv_entry ([.ref b]) (n := 7) (Nat.le_of_ble_eq_true rfl)
  rw [lg_entry_eq]
  generalize (lg_sl ([.ref b]) ++ List.replicate (7 - (lg_sl ([.ref b])).length) Slot.unset).toArray = ls at hl0 ⊢
  have hlv : lv_has ls 7 [(0, .ref b)] := hl0
  have cl8 := hts (.classLink RL 8 RX11) lwd_0
  have in11 := hts (.instantiable RX11 14) lwd_1
  have ini11 := hts (.initialized RX11) lwd_2
  have ini_RX11 := hts (.initialized RX11) lwd_2
  have ml117 := hts (.methodLink RL 117 yX11_init) lwd_3
  have im_X11_init := hts (.instanceMethod yX11_init) lwd_4
  have cl118 := hts (.classLink RL 118 RX12) lwd_5
  have in12 := hts (.instantiable RX12 38) lwd_6
  have ini12 := hts (.initialized RX12) lwd_7
  have ini_RX12 := hts (.initialized RX12) lwd_7
  have ml120 := hts (.methodLink RL 120 yX12_init) lwd_8
  have im_X12_init := hts (.instanceMethod yX12_init) lwd_9
  have ac2 := hts (.arrayClass .long) lwd_10
  refine va_new (ci := 11) (fs := [.null, .null, .null, .int 0, .int 0, .null, .null, .null, .null, .null, .int 0, .null, .null, .null]) (C := RX11) (T := TX11) (N := 14) hx hb hts inX11 tyX11 tyX11_ok hown cl8 in11 ini11 hG.1 hP hD hS hA rfl (by decide) (Nat.le_of_ble_eq_true rfl) (Nat.le_of_ble_eq_true rfl) dL_law__0 (fun q_1 H hP hD hS => ?_)
  have hP : va_P D vwCl [(q_1, .inr (11, [.null, .null, .null, .int 0, .int 0, .null, .null, .null, .null, .null, .int 0, .null, .null, .null]))] H := hP
  have hD : va_D A [(q_1, .inr (11, [.null, .null, .null, .int 0, .int 0, .null, .null, .null, .null, .null, .int 0, .null, .null, .null]))] := hD
  refine lv_dup hx hb dL_law__3 rfl ?_
  refine cj_v (wr := []) (va_runI (As := []) (rest := [.ref q_1]) ⟨hx, hb, hml, hown, hts⟩ (c_K_shower l hl D cy sa q_1 H.size) (cwI 0 hts gl_X11_init rfl rfl rfl ini_RX11 ml117 im_X11_init rfl (by decide +kernel) ⟨Nat.le_of_ble_eq_true rfl, Nat.le_of_ble_eq_true rfl⟩) ⟨pcW.blind, (pcW.mk hP hD hS hA hG hT [0] rfl (by decide))⟩ rfl rfl hlv.1 rfl (lv_room (Nat.le_of_ble_eq_true rfl)) dL_law__4 ⟨Nat.le_of_ble_eq_true rfl, Nat.le_of_ble_eq_true rfl⟩) hP hD hS hA [0] [] rfl rfl (by decide) (by decide) (fun u1 H locs hw1 hP hD hS => ?_)
  have hP : va_P D vwCl [(q_1, .inr (11, [.ref (u1.1 0), .ref (u1.1 1), .ref (u1.1 2), .int 0, .int 0, .ref (u1.1 5), .ref (u1.1 6), .ref (u1.1 7), .ref (u1.1 8), .ref (u1.1 9), .int 0, .ref (u1.1 11), .ref (u1.1 12), .ref (u1.1 13)])), ((u1.1 13), .inl (cy 0, 4, .inl (fun _ => 0)))] H := hP
  have hD : va_D A [(q_1, .inr (11, [.ref (u1.1 0), .ref (u1.1 1), .ref (u1.1 2), .int 0, .int 0, .ref (u1.1 5), .ref (u1.1 6), .ref (u1.1 7), .ref (u1.1 8), .ref (u1.1 9), .int 0, .ref (u1.1 11), .ref (u1.1 12), .ref (u1.1 13)])), ((u1.1 13), .inl (cy 0, 4, .inl (fun _ => 0)))] := hD
  refine lv_astore_n (lv' := [(1, .ref q_1), (0, .ref b)]) hx hb dL_law__7 rfl hlv (by decide) rfl (fun ls hlv => ?_)
  refine va_new (ci := 12) (fs := [.int 0, .null, .int 0, .int 0, .int 0, .int 0, .int 0, .int 0, .int 0, .null, .null, .null, .null, .null, .null, .null, .int 0, .int 0, .int 0, .null, .null, .null, .int 0, .null, .null, .null, .null, .null, .null, .int 0, .int 0, .int 0, .int 0, .null, .int 0, .null, .int 0, .int 0]) (C := RX12) (T := TX12) (N := 38) hx hb hts inX12 tyX12 tyX12_ok hown cl118 in12 ini12 hG.1 hP hD hS hA rfl (by decide) (Nat.le_of_ble_eq_true rfl) (Nat.le_of_ble_eq_true rfl) dL_law__8 (fun q_2 H hP hD hS => ?_)
  have hP : va_P D vwCl [(q_1, .inr (11, [.ref (u1.1 0), .ref (u1.1 1), .ref (u1.1 2), .int 0, .int 0, .ref (u1.1 5), .ref (u1.1 6), .ref (u1.1 7), .ref (u1.1 8), .ref (u1.1 9), .int 0, .ref (u1.1 11), .ref (u1.1 12), .ref (u1.1 13)])), ((u1.1 13), .inl (cy 0, 4, .inl (fun _ => 0))), (q_2, .inr (12, [.int 0, .null, .int 0, .int 0, .int 0, .int 0, .int 0, .int 0, .int 0, .null, .null, .null, .null, .null, .null, .null, .int 0, .int 0, .int 0, .null, .null, .null, .int 0, .null, .null, .null, .null, .null, .null, .int 0, .int 0, .int 0, .int 0, .null, .int 0, .null, .int 0, .int 0]))] H := hP
  have hD : va_D A [(q_1, .inr (11, [.ref (u1.1 0), .ref (u1.1 1), .ref (u1.1 2), .int 0, .int 0, .ref (u1.1 5), .ref (u1.1 6), .ref (u1.1 7), .ref (u1.1 8), .ref (u1.1 9), .int 0, .ref (u1.1 11), .ref (u1.1 12), .ref (u1.1 13)])), ((u1.1 13), .inl (cy 0, 4, .inl (fun _ => 0))), (q_2, .inr (12, [.int 0, .null, .int 0, .int 0, .int 0, .int 0, .int 0, .int 0, .int 0, .null, .null, .null, .null, .null, .null, .null, .int 0, .int 0, .int 0, .null, .null, .null, .int 0, .null, .null, .null, .null, .null, .null, .int 0, .int 0, .int 0, .int 0, .null, .int 0, .null, .int 0, .int 0]))] := hD
  refine lv_dup hx hb dL_law__11 rfl ?_
  refine cj_v (wr := [(q_1, .inr (11, [.ref (u1.1 0), .ref (u1.1 1), .ref (u1.1 2), .int 0, .int 0, .ref (u1.1 5), .ref (u1.1 6), .ref (u1.1 7), .ref (u1.1 8), .ref (u1.1 9), .int 0, .ref (u1.1 11), .ref (u1.1 12), .ref (u1.1 13)])), ((u1.1 13), .inl (cy 0, 4, .inl (fun _ => 0)))]) (va_runI (As := []) (rest := [.ref q_2]) ⟨hx, hb, hml, hown, hts⟩ (c_M_shower l hl D cy sa q_2 H.size) (cwI 0 hts gl_X12_init rfl rfl rfl ini_RX12 ml120 im_X12_init rfl (by decide +kernel) ⟨Nat.le_of_ble_eq_true rfl, Nat.le_of_ble_eq_true rfl⟩) ⟨pcW.blind, (pcW.mk hP hD hS hA hG hT [2] rfl (by decide))⟩ rfl rfl hlv.1 rfl (lv_room (Nat.le_of_ble_eq_true rfl)) dL_law__12 ⟨Nat.le_of_ble_eq_true rfl, Nat.le_of_ble_eq_true rfl⟩) hP hD hS hA [2] [0, 1] rfl rfl (by decide) (by decide) (fun u2 H locs hw2 hP hD hS => ?_)
  have hP : va_P D vwCl [(q_1, .inr (11, [.ref (u1.1 0), .ref (u1.1 1), .ref (u1.1 2), .int 0, .int 0, .ref (u1.1 5), .ref (u1.1 6), .ref (u1.1 7), .ref (u1.1 8), .ref (u1.1 9), .int 0, .ref (u1.1 11), .ref (u1.1 12), .ref (u1.1 13)])), ((u1.1 13), .inl (cy 0, 4, .inl (fun _ => 0))), (q_2, .inr (12, [.int 0, .ref (u2.1 1), .int 0, .int 0, .int 0, .int 0, .int 0, .int 0, .int (-1), .ref (u2.1 9), .ref (u2.1 10), .ref (u2.1 11), .ref (u2.1 12), .ref (u2.1 13), .ref (u2.1 14), .ref (u2.1 15), .int 0, .int 0, .int 0, .ref (u2.1 19), .ref (u2.1 20), .ref (u2.1 21), .int 0, .ref (u2.1 23), .ref (u2.1 24), .ref (u2.1 25), .ref (u2.1 26), .ref (u2.1 27), .ref (u2.1 28), .int 0, .int 0, .int 0, .int 0, .ref (u2.1 33), .int (-1), .ref (u2.1 35), .int 0, .int 0])), ((u2.1 1), .inl (cy 0, 4, .inl (fun _ => 0)))] H := hP
  have hD : va_D A [(q_1, .inr (11, [.ref (u1.1 0), .ref (u1.1 1), .ref (u1.1 2), .int 0, .int 0, .ref (u1.1 5), .ref (u1.1 6), .ref (u1.1 7), .ref (u1.1 8), .ref (u1.1 9), .int 0, .ref (u1.1 11), .ref (u1.1 12), .ref (u1.1 13)])), ((u1.1 13), .inl (cy 0, 4, .inl (fun _ => 0))), (q_2, .inr (12, [.int 0, .ref (u2.1 1), .int 0, .int 0, .int 0, .int 0, .int 0, .int 0, .int (-1), .ref (u2.1 9), .ref (u2.1 10), .ref (u2.1 11), .ref (u2.1 12), .ref (u2.1 13), .ref (u2.1 14), .ref (u2.1 15), .int 0, .int 0, .int 0, .ref (u2.1 19), .ref (u2.1 20), .ref (u2.1 21), .int 0, .ref (u2.1 23), .ref (u2.1 24), .ref (u2.1 25), .ref (u2.1 26), .ref (u2.1 27), .ref (u2.1 28), .int 0, .int 0, .int 0, .int 0, .ref (u2.1 33), .int (-1), .ref (u2.1 35), .int 0, .int 0])), ((u2.1 1), .inl (cy 0, 4, .inl (fun _ => 0)))] := hD
  refine lv_astore_n (lv' := [(2, .ref q_2), (1, .ref q_1), (0, .ref b)]) hx hb dL_law__15 rfl hlv (by decide) rfl (fun ls hlv => ?_)
  refine lv_iconst (v := 1) hx hb dL_law__16 (by decide) ?_
  refine nw_a (atype := .long) (cy := cy) (a0 := (1, .inr (.inl (fun _ => 0)))) (N' := 1) hx hb ac2 (ty := .long) rfl 2 rfl (fun C h => nomatch h) hG.1 hP hD hS hA (fun cA => rfl) (by decide) (by decide) (Nat.le_of_ble_eq_true rfl) (Nat.le_of_ble_eq_true rfl) (Nat.le_of_ble_eq_true rfl) dL_law__17 (fun q_3 H hP hD hS => ?_)
  have hP : va_P D vwCl [(q_1, .inr (11, [.ref (u1.1 0), .ref (u1.1 1), .ref (u1.1 2), .int 0, .int 0, .ref (u1.1 5), .ref (u1.1 6), .ref (u1.1 7), .ref (u1.1 8), .ref (u1.1 9), .int 0, .ref (u1.1 11), .ref (u1.1 12), .ref (u1.1 13)])), ((u1.1 13), .inl (cy 0, 4, .inl (fun _ => 0))), (q_2, .inr (12, [.int 0, .ref (u2.1 1), .int 0, .int 0, .int 0, .int 0, .int 0, .int 0, .int (-1), .ref (u2.1 9), .ref (u2.1 10), .ref (u2.1 11), .ref (u2.1 12), .ref (u2.1 13), .ref (u2.1 14), .ref (u2.1 15), .int 0, .int 0, .int 0, .ref (u2.1 19), .ref (u2.1 20), .ref (u2.1 21), .int 0, .ref (u2.1 23), .ref (u2.1 24), .ref (u2.1 25), .ref (u2.1 26), .ref (u2.1 27), .ref (u2.1 28), .int 0, .int 0, .int 0, .int 0, .ref (u2.1 33), .int (-1), .ref (u2.1 35), .int 0, .int 0])), ((u2.1 1), .inl (cy 0, 4, .inl (fun _ => 0))), (q_3, .inl (cy 2, 1, .inr (.inl (fun _ => 0))))] H := hP
  have hD : va_D A [(q_1, .inr (11, [.ref (u1.1 0), .ref (u1.1 1), .ref (u1.1 2), .int 0, .int 0, .ref (u1.1 5), .ref (u1.1 6), .ref (u1.1 7), .ref (u1.1 8), .ref (u1.1 9), .int 0, .ref (u1.1 11), .ref (u1.1 12), .ref (u1.1 13)])), ((u1.1 13), .inl (cy 0, 4, .inl (fun _ => 0))), (q_2, .inr (12, [.int 0, .ref (u2.1 1), .int 0, .int 0, .int 0, .int 0, .int 0, .int 0, .int (-1), .ref (u2.1 9), .ref (u2.1 10), .ref (u2.1 11), .ref (u2.1 12), .ref (u2.1 13), .ref (u2.1 14), .ref (u2.1 15), .int 0, .int 0, .int 0, .ref (u2.1 19), .ref (u2.1 20), .ref (u2.1 21), .int 0, .ref (u2.1 23), .ref (u2.1 24), .ref (u2.1 25), .ref (u2.1 26), .ref (u2.1 27), .ref (u2.1 28), .int 0, .int 0, .int 0, .int 0, .ref (u2.1 33), .int (-1), .ref (u2.1 35), .int 0, .int 0])), ((u2.1 1), .inl (cy 0, 4, .inl (fun _ => 0))), (q_3, .inl (cy 2, 1, .inr (.inl (fun _ => 0))))] := hD
  refine lv_astore_n (lv' := [(3, .ref q_3), (2, .ref q_2), (1, .ref q_1), (0, .ref b)]) hx hb dL_law__19 rfl hlv (by decide) rfl (fun ls hlv => ?_)
  refine lv_iconst (v := 0) hx hb dL_law__20 (by decide) ?_
  refine lv_istore (lv' := [(4, .int 0), (3, .ref q_3), (2, .ref q_2), (1, .ref q_1), (0, .ref b)]) hx hb dL_law__21 hlv (by decide) rfl (fun ls hlv => ?_)
  refine lv_iload hx hb dL_law__23 (lv_at hlv 0 rfl) ?_
  refine lv_aload_n hx hb dL_law__25 rfl (lv_at hlv 4 rfl) ?_
  refine va_slen hx hb hX hbl hbA hS dL_law__26 ?_
  refine lt_i (y := 10) (by decide) ?_
  refine lv_bipush (v := 10) hx hb dL_law__27 (by decide) ?_
  refine lv_isub hx hb dL_law__29 ?_
  refine lt_i (y := 0) (by decide) ?_
  refine lv_icmp_gt (tgt := 2761) hx hb dL_law__30 (by decide) (fun c => absurd c (by decide)) (fun _ => ?_)
  refine lv_aload_n hx hb dL_law__33 rfl (lv_at hlv 4 rfl) ?_
  refine lv_iload hx hb dL_law__34 (lv_at hlv 0 rfl) ?_
  refine va_sld hx hb hX hbl hbA hS (vpd (by decide)) dL_law__36 ?_
  refine lt_i (y := xs 0) rfl ?_
  refine lv_bipush (v := 63) hx hb dL_law__37 (by decide) ?_
  refine lv_iand hx hb dL_law__39 ?_
  refine lt_i (y := 13) h63 ?_
  refine lv_tableIn (tgt := 994) hx hb dL_law__40 (by decide) (by decide) rfl (by decide) ?_
  refine lv_aload_n hx hb dL_law__994 rfl (lv_at hlv 3 rfl) ?_
  refine lv_aload_n hx hb dL_law__995 rfl (lv_at hlv 4 rfl) ?_
  refine lv_iload hx hb dL_law__996 (lv_at hlv 0 rfl) ?_
  refine lv_iconst (v := 1) hx hb dL_law__998 (by decide) ?_
  refine lv_iadd hx hb dL_law__999 ?_
  refine lt_i (y := 1) (by decide) ?_
  refine va_sld hx hb hX hbl hbA hS (vpd (by decide)) dL_law__1000 ?_
  refine lt_i (y := xs 1) rfl ?_
  refine lv_aload_n hx hb dL_law__1001 rfl (lv_at hlv 1 rfl) ?_
  refine cj_i (wr := [(q_2, .inr (12, [.int 0, .ref (u2.1 1), .int 0, .int 0, .int 0, .int 0, .int 0, .int 0, .int (-1), .ref (u2.1 9), .ref (u2.1 10), .ref (u2.1 11), .ref (u2.1 12), .ref (u2.1 13), .ref (u2.1 14), .ref (u2.1 15), .int 0, .int 0, .int 0, .ref (u2.1 19), .ref (u2.1 20), .ref (u2.1 21), .int 0, .ref (u2.1 23), .ref (u2.1 24), .ref (u2.1 25), .ref (u2.1 26), .ref (u2.1 27), .ref (u2.1 28), .int 0, .int 0, .int 0, .int 0, .ref (u2.1 33), .int (-1), .ref (u2.1 35), .int 0, .int 0])), ((u2.1 1), .inl (cy 0, 4, .inl (fun _ => 0)))]) (vx_runSW (As := [.ref q_1, .int (xs 1), .ref q_3]) (rest := []) ⟨hx, hb, hml, hown, hts⟩ (w_shower l hl D cy sa q_1 u1.1 (xs 1) q_3 H.size) (vx_cwSW 3 hts gl_w_shower rfl rfl rfl (by decide +kernel) ⟨Nat.le_of_ble_eq_true rfl, Nat.le_of_ble_eq_true rfl⟩) ⟨pcW.blind, (pcW.mk hP hD hS hA hG hT [0, 1, 4] rfl (by decide))⟩ rfl rfl hlv.1 rfl (lv_room (Nat.le_of_ble_eq_true rfl)) dL_law__1002 ⟨Nat.le_of_ble_eq_true rfl, Nat.le_of_ble_eq_true rfl⟩) hP hD hS hA [0, 1, 4] [2, 3] rfl rfl (by decide) (by decide) (fun r3 u3 H locs hw3 hP hD hS => ?_)
  obtain rfl := hw3
  have hP : va_P D vwCl [(q_2, .inr (12, [.int 0, .ref (u2.1 1), .int 0, .int 0, .int 0, .int 0, .int 0, .int 0, .int (-1), .ref (u2.1 9), .ref (u2.1 10), .ref (u2.1 11), .ref (u2.1 12), .ref (u2.1 13), .ref (u2.1 14), .ref (u2.1 15), .int 0, .int 0, .int 0, .ref (u2.1 19), .ref (u2.1 20), .ref (u2.1 21), .int 0, .ref (u2.1 23), .ref (u2.1 24), .ref (u2.1 25), .ref (u2.1 26), .ref (u2.1 27), .ref (u2.1 28), .int 0, .int 0, .int 0, .int 0, .ref (u2.1 33), .int (-1), .ref (u2.1 35), .int 0, .int 0])), ((u2.1 1), .inl (cy 0, 4, .inl (fun _ => 0))), (q_3, .inl (cy 2, 1, .inr (.inl (fun _ => (u3.2.1 0 : Int32).toInt64))))] H := hP
  have hD : va_D A [(q_2, .inr (12, [.int 0, .ref (u2.1 1), .int 0, .int 0, .int 0, .int 0, .int 0, .int 0, .int (-1), .ref (u2.1 9), .ref (u2.1 10), .ref (u2.1 11), .ref (u2.1 12), .ref (u2.1 13), .ref (u2.1 14), .ref (u2.1 15), .int 0, .int 0, .int 0, .ref (u2.1 19), .ref (u2.1 20), .ref (u2.1 21), .int 0, .ref (u2.1 23), .ref (u2.1 24), .ref (u2.1 25), .ref (u2.1 26), .ref (u2.1 27), .ref (u2.1 28), .int 0, .int 0, .int 0, .int 0, .ref (u2.1 33), .int (-1), .ref (u2.1 35), .int 0, .int 0])), ((u2.1 1), .inl (cy 0, 4, .inl (fun _ => 0))), (q_3, .inl (cy 2, 1, .inr (.inl (fun _ => (u3.2.1 0 : Int32).toInt64))))] := hD
  refine lv_istore (lv' := [(5, .int 1), (4, .int 0), (3, .ref q_3), (2, .ref q_2), (1, .ref q_1), (0, .ref b)]) hx hb dL_law__1005 hlv (by decide) rfl (fun ls hlv => ?_)
  refine lv_aload_n hx hb dL_law__1007 rfl (lv_at hlv 3 rfl) ?_
  refine lv_aload_n hx hb dL_law__1008 rfl (lv_at hlv 5 rfl) ?_
  refine lv_iload hx hb dL_law__1009 (lv_at hlv 1 rfl) ?_
  refine lv_iconst (v := 1) hx hb dL_law__1011 (by decide) ?_
  refine lv_iadd hx hb dL_law__1012 ?_
  refine lt_i (y := 1) (by decide) ?_
  refine va_sld hx hb hX hbl hbA hS (vpd (by decide)) dL_law__1013 ?_
  refine lt_i (y := xs 1) rfl ?_
  refine cj_i (wr := [(q_3, .inl (cy 2, 1, .inr (.inl (fun _ => (u3.2.1 0 : Int32).toInt64))))]) (va_runV (As := [.int (xs 1)]) (rest := []) ⟨hx, hb, hml, hown, hts⟩ (m_shower l hl D cy sa q_2 u2.1 (xs 1) H.size) (cwV 1 hts gl_m_shower rfl rfl rfl (by decide +kernel) ⟨Nat.le_of_ble_eq_true rfl, Nat.le_of_ble_eq_true rfl⟩) ⟨pcW.blind, (va_recv hG.1 hP (ci := 12) (q0 := 0) rfl rfl), (pcW.mk hP hD hS hA hG hT [0, 1] rfl (by decide))⟩ rfl rfl hlv.1 rfl (lv_room (Nat.le_of_ble_eq_true rfl)) dL_law__1014 ⟨Nat.le_of_ble_eq_true rfl, Nat.le_of_ble_eq_true rfl⟩) hP hD hS hA [0, 1] [2] rfl rfl (by decide) (by decide) (fun r4 u4 H locs hw4 hP hD hS => ?_)
  obtain rfl := hw4
  have hP : va_P D vwCl [(q_3, .inl (cy 2, 1, .inr (.inl (fun _ => (u3.2.1 0 : Int32).toInt64)))), (q_2, .inr (12, [.int 1, .ref (u2.1 1), .int 0, .int 0, .int 0, .int 0, .int 0, .int 0, .int (-1), .ref (u2.1 9), .ref (u2.1 10), .ref (u2.1 11), .ref (u2.1 12), .ref (u2.1 13), .ref (u2.1 14), .ref (u2.1 15), .int 0, .int 0, .int 0, .ref (u2.1 19), .ref (u2.1 20), .ref (u2.1 21), .int 0, .ref (u2.1 23), .ref (u2.1 24), .ref (u2.1 25), .ref (u2.1 26), .ref (u2.1 27), .ref (u2.1 28), .int 0, .int 0, .int 0, .int 0, .ref (u2.1 33), .int (-1), .ref (u2.1 35), .int 0, .int 0]))] H := hP
  have hD : va_D A [(q_3, .inl (cy 2, 1, .inr (.inl (fun _ => (u3.2.1 0 : Int32).toInt64)))), (q_2, .inr (12, [.int 1, .ref (u2.1 1), .int 0, .int 0, .int 0, .int 0, .int 0, .int 0, .int (-1), .ref (u2.1 9), .ref (u2.1 10), .ref (u2.1 11), .ref (u2.1 12), .ref (u2.1 13), .ref (u2.1 14), .ref (u2.1 15), .int 0, .int 0, .int 0, .ref (u2.1 19), .ref (u2.1 20), .ref (u2.1 21), .int 0, .ref (u2.1 23), .ref (u2.1 24), .ref (u2.1 25), .ref (u2.1 26), .ref (u2.1 27), .ref (u2.1 28), .int 0, .int 0, .int 0, .int 0, .ref (u2.1 33), .int (-1), .ref (u2.1 35), .int 0, .int 0]))] := hD
  refine lv_istore (lv' := [(6, .int 0), (5, .int 1), (4, .int 0), (3, .ref q_3), (2, .ref q_2), (1, .ref q_1), (0, .ref b)]) hx hb dL_law__1017 hlv (by decide) rfl (fun ls hlv => ?_)
  refine lv_aload_n hx hb dL_law__1019 rfl (lv_at hlv 4 rfl) ?_
  refine cj_i (wr := [(q_3, .inl (cy 2, 1, .inr (.inl (fun _ => (u3.2.1 0 : Int32).toInt64))))]) (va_runV (As := []) (rest := []) ⟨hx, hb, hml, hown, hts⟩ (c_thrown l hl D cy sa q_2 u2.1 1 0 0 0 0 0 0 (-1) 0 0 0 0 0 0 0 0 (-1) 0 0 H.size) (cwV 0 hts gl_c_thrown rfl rfl rfl (by decide +kernel) ⟨Nat.le_of_ble_eq_true rfl, Nat.le_of_ble_eq_true rfl⟩) ⟨pcW.blind, (va_recv hG.1 hP (ci := 12) (q0 := 1) rfl rfl), (pcW.mk hP hD hS hA hG hT [1] rfl (by decide))⟩ rfl rfl hlv.1 rfl (lv_room (Nat.le_of_ble_eq_true rfl)) dL_law__1020 ⟨Nat.le_of_ble_eq_true rfl, Nat.le_of_ble_eq_true rfl⟩) hP hD hS hA [1] [0] rfl rfl (by decide) (by decide) (fun r5 u5 H locs hw5 hP hD hS => ?_)
  obtain rfl := hw5
  have hP : va_P D vwCl [(q_3, .inl (cy 2, 1, .inr (.inl (fun _ => (u3.2.1 0 : Int32).toInt64))))] H := hP
  have hD : va_D A [(q_3, .inl (cy 2, 1, .inr (.inl (fun _ => (u3.2.1 0 : Int32).toInt64))))] := hD
  refine lv_iload hx hb dL_law__1023 (lv_at hlv 1 rfl) ?_
  refine lv_icmp_eq (tgt := 1030) hx hb dL_law__1025 (by decide) (fun _ => ?_) (fun c => absurd (by decide) c)
  refine lv_iload hx hb dL_law__1030 (lv_at hlv 1 rfl) ?_
  refine lv_if_ne (tgt := 1047) hx hb dL_law__1032 (by decide) (fun _ => ?_) (fun c => absurd c (by decide))
  refine lv_goto (tgt := 2755) hx hb dL_law__1047 (by decide) ?_
  refine lv_iinc (v := 10) (lv' := [(4, .int 10), (6, .int 0), (5, .int 1), (3, .ref q_3), (2, .ref q_2), (1, .ref q_1), (0, .ref b)]) hx hb dL_law__2755 hlv (k := 2) rfl (by decide) (by decide) rfl (fun ls hlv => ?_)
  refine lv_goto (tgt := 23) hx hb dL_law__2758 (by decide) ?_
  refine lv_iload hx hb dL_law__23 (lv_at hlv 0 rfl) ?_
  refine lv_aload_n hx hb dL_law__25 rfl (lv_at hlv 6 rfl) ?_
  refine va_slen hx hb hX hbl hbA hS dL_law__26 ?_
  refine lt_i (y := 10) (by decide) ?_
  refine lv_bipush (v := 10) hx hb dL_law__27 (by decide) ?_
  refine lv_isub hx hb dL_law__29 ?_
  refine lt_i (y := 0) (by decide) ?_
  refine lv_icmp_gt (tgt := 2761) hx hb dL_law__30 (by decide) (fun _ => ?_) (fun c => absurd (by decide) c)
  refine lv_iconst (v := 1) hx hb dL_law__2761 (by decide) ?_
  refine va_forget (fun q hq => by have h9 := hS.2.2 q hq; rw [hAe] at h9; exact h9) ?_
  refine W.widen (k := 600002) (n := 7302232) (Nat.le_of_ble_eq_true rfl) (Nat.le_of_ble_eq_true rfl) ?_
  exact lw_ret hx hb hr hlocks dL_law__2762
set_option maxHeartbeats 4000000 in
set_option maxRecDepth 100000 in
theorem law_sums0 {p : Program} {e : Env} {s : State} {m : MethodId} {below : List Frame} {meth : Method} {c : Code} (l : Launch) (hl : l.stackTraces = false) {b : Nat} {xs : Nat → Int32} {D : va_G} {cy : Nat → ClassId} {sa : Nat → Nat} {A : Nat → Prop} (hAe : A = fun q => s.heap.size ≤ q) (C0 : lw_At p s m meth c b 10 xs) (hG : GC D cy sa s) (hT : TH A s s.heap) (h63 : xs 0 &&& 63 = 14) (hv1 : xs 1 = 0) : W p l e room_1 s m #[Value.ref b] below meth c s.heap [] 0 0 (lw_Z below #[Value.ref b] s) (entryFrame m ([Value.ref b] : List Value).toArray 7) := by
  obtain ⟨hx, hb, hr, hml, hown0, hts0, hX, hbl, hlocks, hgv⟩ := id C0
  have hown : s.vm.findClass RL = some m.cls := hown0
  have hts := hts0
  have hA : ∀ q : Nat, s.heap.size ≤ q → A q := fun q h => by rw [hAe]; exact h
  have hbA : ¬ A b := by rw [hAe]; exact Nat.not_le.mpr hbl
  have hS : va_S A s.heap s.heap [] := va_S.rf
  have hP : va_P D vwCl [] s.heap := fun k q h => by simp at h
  have hD : va_D A [] := ⟨fun i j p q h => by simp at h, fun k q h => by simp at h⟩
  have hl0 := lv_entry ([.ref b]) (n := 7) (Nat.le_of_ble_eq_true rfl)
  rw [lg_entry_eq]
  generalize (lg_sl ([.ref b]) ++ List.replicate (7 - (lg_sl ([.ref b])).length) Slot.unset).toArray = ls at hl0 ⊢
  have hlv : lv_has ls 7 [(0, .ref b)] := hl0
  have cl8 := hts (.classLink RL 8 RX11) lwd_0
  have in11 := hts (.instantiable RX11 14) lwd_1
  have ini11 := hts (.initialized RX11) lwd_2
  have ini_RX11 := hts (.initialized RX11) lwd_2
  have ml117 := hts (.methodLink RL 117 yX11_init) lwd_3
  have im_X11_init := hts (.instanceMethod yX11_init) lwd_4
  have cl118 := hts (.classLink RL 118 RX12) lwd_5
  have in12 := hts (.instantiable RX12 38) lwd_6
  have ini12 := hts (.initialized RX12) lwd_7
  have ini_RX12 := hts (.initialized RX12) lwd_7
  have ml120 := hts (.methodLink RL 120 yX12_init) lwd_8
  have im_X12_init := hts (.instanceMethod yX12_init) lwd_9
  have ac2 := hts (.arrayClass .long) lwd_10
  refine va_new (ci := 11) (fs := [.null, .null, .null, .int 0, .int 0, .null, .null, .null, .null, .null, .int 0, .null, .null, .null]) (C := RX11) (T := TX11) (N := 14) hx hb hts inX11 tyX11 tyX11_ok hown cl8 in11 ini11 hG.1 hP hD hS hA rfl (by decide) (Nat.le_of_ble_eq_true rfl) (Nat.le_of_ble_eq_true rfl) dL_law__0 (fun q_1 H hP hD hS => ?_)
  have hP : va_P D vwCl [(q_1, .inr (11, [.null, .null, .null, .int 0, .int 0, .null, .null, .null, .null, .null, .int 0, .null, .null, .null]))] H := hP
  have hD : va_D A [(q_1, .inr (11, [.null, .null, .null, .int 0, .int 0, .null, .null, .null, .null, .null, .int 0, .null, .null, .null]))] := hD
  refine lv_dup hx hb dL_law__3 rfl ?_
  refine cj_v (wr := []) (va_runI (As := []) (rest := [.ref q_1]) ⟨hx, hb, hml, hown, hts⟩ (c_K_sums0 l hl D cy sa q_1 H.size) (cwI 0 hts gl_X11_init rfl rfl rfl ini_RX11 ml117 im_X11_init rfl (by decide +kernel) ⟨Nat.le_of_ble_eq_true rfl, Nat.le_of_ble_eq_true rfl⟩) ⟨pcW.blind, (pcW.mk hP hD hS hA hG hT [0] rfl (by decide))⟩ rfl rfl hlv.1 rfl (lv_room (Nat.le_of_ble_eq_true rfl)) dL_law__4 ⟨Nat.le_of_ble_eq_true rfl, Nat.le_of_ble_eq_true rfl⟩) hP hD hS hA [0] [] rfl rfl (by decide) (by decide) (fun u1 H locs hw1 hP hD hS => ?_)
  have hP : va_P D vwCl [(q_1, .inr (11, [.ref (u1.1 0), .ref (u1.1 1), .ref (u1.1 2), .int 0, .int 0, .ref (u1.1 5), .ref (u1.1 6), .ref (u1.1 7), .ref (u1.1 8), .ref (u1.1 9), .int 0, .ref (u1.1 11), .ref (u1.1 12), .ref (u1.1 13)])), ((u1.1 5), .inr (6, [.int 0, .int 0, .ref (u1.1 21), .ref (u1.1 22), .int 0, .int 0, .ref (u1.1 23), .int 0, .ref (u1.1 24), .int 0, .int 0, .ref (u1.1 25), .int 0, .ref (u1.1 26), .int 0, .int 0, .int 0, .int 0, .int 0])), ((u1.1 13), .inl (cy 0, 4, .inl (fun _ => 0)))] H := hP
  have hD : va_D A [(q_1, .inr (11, [.ref (u1.1 0), .ref (u1.1 1), .ref (u1.1 2), .int 0, .int 0, .ref (u1.1 5), .ref (u1.1 6), .ref (u1.1 7), .ref (u1.1 8), .ref (u1.1 9), .int 0, .ref (u1.1 11), .ref (u1.1 12), .ref (u1.1 13)])), ((u1.1 5), .inr (6, [.int 0, .int 0, .ref (u1.1 21), .ref (u1.1 22), .int 0, .int 0, .ref (u1.1 23), .int 0, .ref (u1.1 24), .int 0, .int 0, .ref (u1.1 25), .int 0, .ref (u1.1 26), .int 0, .int 0, .int 0, .int 0, .int 0])), ((u1.1 13), .inl (cy 0, 4, .inl (fun _ => 0)))] := hD
  refine lv_astore_n (lv' := [(1, .ref q_1), (0, .ref b)]) hx hb dL_law__7 rfl hlv (by decide) rfl (fun ls hlv => ?_)
  refine va_new (ci := 12) (fs := [.int 0, .null, .int 0, .int 0, .int 0, .int 0, .int 0, .int 0, .int 0, .null, .null, .null, .null, .null, .null, .null, .int 0, .int 0, .int 0, .null, .null, .null, .int 0, .null, .null, .null, .null, .null, .null, .int 0, .int 0, .int 0, .int 0, .null, .int 0, .null, .int 0, .int 0]) (C := RX12) (T := TX12) (N := 38) hx hb hts inX12 tyX12 tyX12_ok hown cl118 in12 ini12 hG.1 hP hD hS hA rfl (by decide) (Nat.le_of_ble_eq_true rfl) (Nat.le_of_ble_eq_true rfl) dL_law__8 (fun q_2 H hP hD hS => ?_)
  have hP : va_P D vwCl [(q_1, .inr (11, [.ref (u1.1 0), .ref (u1.1 1), .ref (u1.1 2), .int 0, .int 0, .ref (u1.1 5), .ref (u1.1 6), .ref (u1.1 7), .ref (u1.1 8), .ref (u1.1 9), .int 0, .ref (u1.1 11), .ref (u1.1 12), .ref (u1.1 13)])), ((u1.1 5), .inr (6, [.int 0, .int 0, .ref (u1.1 21), .ref (u1.1 22), .int 0, .int 0, .ref (u1.1 23), .int 0, .ref (u1.1 24), .int 0, .int 0, .ref (u1.1 25), .int 0, .ref (u1.1 26), .int 0, .int 0, .int 0, .int 0, .int 0])), ((u1.1 13), .inl (cy 0, 4, .inl (fun _ => 0))), (q_2, .inr (12, [.int 0, .null, .int 0, .int 0, .int 0, .int 0, .int 0, .int 0, .int 0, .null, .null, .null, .null, .null, .null, .null, .int 0, .int 0, .int 0, .null, .null, .null, .int 0, .null, .null, .null, .null, .null, .null, .int 0, .int 0, .int 0, .int 0, .null, .int 0, .null, .int 0, .int 0]))] H := hP
  have hD : va_D A [(q_1, .inr (11, [.ref (u1.1 0), .ref (u1.1 1), .ref (u1.1 2), .int 0, .int 0, .ref (u1.1 5), .ref (u1.1 6), .ref (u1.1 7), .ref (u1.1 8), .ref (u1.1 9), .int 0, .ref (u1.1 11), .ref (u1.1 12), .ref (u1.1 13)])), ((u1.1 5), .inr (6, [.int 0, .int 0, .ref (u1.1 21), .ref (u1.1 22), .int 0, .int 0, .ref (u1.1 23), .int 0, .ref (u1.1 24), .int 0, .int 0, .ref (u1.1 25), .int 0, .ref (u1.1 26), .int 0, .int 0, .int 0, .int 0, .int 0])), ((u1.1 13), .inl (cy 0, 4, .inl (fun _ => 0))), (q_2, .inr (12, [.int 0, .null, .int 0, .int 0, .int 0, .int 0, .int 0, .int 0, .int 0, .null, .null, .null, .null, .null, .null, .null, .int 0, .int 0, .int 0, .null, .null, .null, .int 0, .null, .null, .null, .null, .null, .null, .int 0, .int 0, .int 0, .int 0, .null, .int 0, .null, .int 0, .int 0]))] := hD
  refine lv_dup hx hb dL_law__11 rfl ?_
  refine cj_v (wr := [(q_1, .inr (11, [.ref (u1.1 0), .ref (u1.1 1), .ref (u1.1 2), .int 0, .int 0, .ref (u1.1 5), .ref (u1.1 6), .ref (u1.1 7), .ref (u1.1 8), .ref (u1.1 9), .int 0, .ref (u1.1 11), .ref (u1.1 12), .ref (u1.1 13)])), ((u1.1 5), .inr (6, [.int 0, .int 0, .ref (u1.1 21), .ref (u1.1 22), .int 0, .int 0, .ref (u1.1 23), .int 0, .ref (u1.1 24), .int 0, .int 0, .ref (u1.1 25), .int 0, .ref (u1.1 26), .int 0, .int 0, .int 0, .int 0, .int 0])), ((u1.1 13), .inl (cy 0, 4, .inl (fun _ => 0)))]) (va_runI (As := []) (rest := [.ref q_2]) ⟨hx, hb, hml, hown, hts⟩ (c_M_sums0 l hl D cy sa q_2 H.size) (cwI 0 hts gl_X12_init rfl rfl rfl ini_RX12 ml120 im_X12_init rfl (by decide +kernel) ⟨Nat.le_of_ble_eq_true rfl, Nat.le_of_ble_eq_true rfl⟩) ⟨pcW.blind, (pcW.mk hP hD hS hA hG hT [3] rfl (by decide))⟩ rfl rfl hlv.1 rfl (lv_room (Nat.le_of_ble_eq_true rfl)) dL_law__12 ⟨Nat.le_of_ble_eq_true rfl, Nat.le_of_ble_eq_true rfl⟩) hP hD hS hA [3] [0, 1, 2] rfl rfl (by decide) (by decide) (fun u2 H locs hw2 hP hD hS => ?_)
  have hP : va_P D vwCl [(q_1, .inr (11, [.ref (u1.1 0), .ref (u1.1 1), .ref (u1.1 2), .int 0, .int 0, .ref (u1.1 5), .ref (u1.1 6), .ref (u1.1 7), .ref (u1.1 8), .ref (u1.1 9), .int 0, .ref (u1.1 11), .ref (u1.1 12), .ref (u1.1 13)])), ((u1.1 5), .inr (6, [.int 0, .int 0, .ref (u1.1 21), .ref (u1.1 22), .int 0, .int 0, .ref (u1.1 23), .int 0, .ref (u1.1 24), .int 0, .int 0, .ref (u1.1 25), .int 0, .ref (u1.1 26), .int 0, .int 0, .int 0, .int 0, .int 0])), ((u1.1 13), .inl (cy 0, 4, .inl (fun _ => 0))), (q_2, .inr (12, [.int 0, .ref (u2.1 1), .int 0, .int 0, .int 0, .int 0, .int 0, .int 0, .int (-1), .ref (u2.1 9), .ref (u2.1 10), .ref (u2.1 11), .ref (u2.1 12), .ref (u2.1 13), .ref (u2.1 14), .ref (u2.1 15), .int 0, .int 0, .int 0, .ref (u2.1 19), .ref (u2.1 20), .ref (u2.1 21), .int 0, .ref (u2.1 23), .ref (u2.1 24), .ref (u2.1 25), .ref (u2.1 26), .ref (u2.1 27), .ref (u2.1 28), .int 0, .int 0, .int 0, .int 0, .ref (u2.1 33), .int (-1), .ref (u2.1 35), .int 0, .int 0])), ((u2.1 1), .inl (cy 0, 4, .inl (fun _ => 0))), ((u2.1 12), .inl (cy 0, 389, .inl sF))] H := hP
  have hD : va_D A [(q_1, .inr (11, [.ref (u1.1 0), .ref (u1.1 1), .ref (u1.1 2), .int 0, .int 0, .ref (u1.1 5), .ref (u1.1 6), .ref (u1.1 7), .ref (u1.1 8), .ref (u1.1 9), .int 0, .ref (u1.1 11), .ref (u1.1 12), .ref (u1.1 13)])), ((u1.1 5), .inr (6, [.int 0, .int 0, .ref (u1.1 21), .ref (u1.1 22), .int 0, .int 0, .ref (u1.1 23), .int 0, .ref (u1.1 24), .int 0, .int 0, .ref (u1.1 25), .int 0, .ref (u1.1 26), .int 0, .int 0, .int 0, .int 0, .int 0])), ((u1.1 13), .inl (cy 0, 4, .inl (fun _ => 0))), (q_2, .inr (12, [.int 0, .ref (u2.1 1), .int 0, .int 0, .int 0, .int 0, .int 0, .int 0, .int (-1), .ref (u2.1 9), .ref (u2.1 10), .ref (u2.1 11), .ref (u2.1 12), .ref (u2.1 13), .ref (u2.1 14), .ref (u2.1 15), .int 0, .int 0, .int 0, .ref (u2.1 19), .ref (u2.1 20), .ref (u2.1 21), .int 0, .ref (u2.1 23), .ref (u2.1 24), .ref (u2.1 25), .ref (u2.1 26), .ref (u2.1 27), .ref (u2.1 28), .int 0, .int 0, .int 0, .int 0, .ref (u2.1 33), .int (-1), .ref (u2.1 35), .int 0, .int 0])), ((u2.1 1), .inl (cy 0, 4, .inl (fun _ => 0))), ((u2.1 12), .inl (cy 0, 389, .inl sF))] := hD
  refine lv_astore_n (lv' := [(2, .ref q_2), (1, .ref q_1), (0, .ref b)]) hx hb dL_law__15 rfl hlv (by decide) rfl (fun ls hlv => ?_)
  refine lv_iconst (v := 1) hx hb dL_law__16 (by decide) ?_
  refine nw_a (atype := .long) (cy := cy) (a0 := (1, .inr (.inl (fun _ => 0)))) (N' := 1) hx hb ac2 (ty := .long) rfl 2 rfl (fun C h => nomatch h) hG.1 hP hD hS hA (fun cA => rfl) (by decide) (by decide) (Nat.le_of_ble_eq_true rfl) (Nat.le_of_ble_eq_true rfl) (Nat.le_of_ble_eq_true rfl) dL_law__17 (fun q_3 H hP hD hS => ?_)
  have hP : va_P D vwCl [(q_1, .inr (11, [.ref (u1.1 0), .ref (u1.1 1), .ref (u1.1 2), .int 0, .int 0, .ref (u1.1 5), .ref (u1.1 6), .ref (u1.1 7), .ref (u1.1 8), .ref (u1.1 9), .int 0, .ref (u1.1 11), .ref (u1.1 12), .ref (u1.1 13)])), ((u1.1 5), .inr (6, [.int 0, .int 0, .ref (u1.1 21), .ref (u1.1 22), .int 0, .int 0, .ref (u1.1 23), .int 0, .ref (u1.1 24), .int 0, .int 0, .ref (u1.1 25), .int 0, .ref (u1.1 26), .int 0, .int 0, .int 0, .int 0, .int 0])), ((u1.1 13), .inl (cy 0, 4, .inl (fun _ => 0))), (q_2, .inr (12, [.int 0, .ref (u2.1 1), .int 0, .int 0, .int 0, .int 0, .int 0, .int 0, .int (-1), .ref (u2.1 9), .ref (u2.1 10), .ref (u2.1 11), .ref (u2.1 12), .ref (u2.1 13), .ref (u2.1 14), .ref (u2.1 15), .int 0, .int 0, .int 0, .ref (u2.1 19), .ref (u2.1 20), .ref (u2.1 21), .int 0, .ref (u2.1 23), .ref (u2.1 24), .ref (u2.1 25), .ref (u2.1 26), .ref (u2.1 27), .ref (u2.1 28), .int 0, .int 0, .int 0, .int 0, .ref (u2.1 33), .int (-1), .ref (u2.1 35), .int 0, .int 0])), ((u2.1 1), .inl (cy 0, 4, .inl (fun _ => 0))), ((u2.1 12), .inl (cy 0, 389, .inl sF)), (q_3, .inl (cy 2, 1, .inr (.inl (fun _ => 0))))] H := hP
  have hD : va_D A [(q_1, .inr (11, [.ref (u1.1 0), .ref (u1.1 1), .ref (u1.1 2), .int 0, .int 0, .ref (u1.1 5), .ref (u1.1 6), .ref (u1.1 7), .ref (u1.1 8), .ref (u1.1 9), .int 0, .ref (u1.1 11), .ref (u1.1 12), .ref (u1.1 13)])), ((u1.1 5), .inr (6, [.int 0, .int 0, .ref (u1.1 21), .ref (u1.1 22), .int 0, .int 0, .ref (u1.1 23), .int 0, .ref (u1.1 24), .int 0, .int 0, .ref (u1.1 25), .int 0, .ref (u1.1 26), .int 0, .int 0, .int 0, .int 0, .int 0])), ((u1.1 13), .inl (cy 0, 4, .inl (fun _ => 0))), (q_2, .inr (12, [.int 0, .ref (u2.1 1), .int 0, .int 0, .int 0, .int 0, .int 0, .int 0, .int (-1), .ref (u2.1 9), .ref (u2.1 10), .ref (u2.1 11), .ref (u2.1 12), .ref (u2.1 13), .ref (u2.1 14), .ref (u2.1 15), .int 0, .int 0, .int 0, .ref (u2.1 19), .ref (u2.1 20), .ref (u2.1 21), .int 0, .ref (u2.1 23), .ref (u2.1 24), .ref (u2.1 25), .ref (u2.1 26), .ref (u2.1 27), .ref (u2.1 28), .int 0, .int 0, .int 0, .int 0, .ref (u2.1 33), .int (-1), .ref (u2.1 35), .int 0, .int 0])), ((u2.1 1), .inl (cy 0, 4, .inl (fun _ => 0))), ((u2.1 12), .inl (cy 0, 389, .inl sF)), (q_3, .inl (cy 2, 1, .inr (.inl (fun _ => 0))))] := hD
  refine lv_astore_n (lv' := [(3, .ref q_3), (2, .ref q_2), (1, .ref q_1), (0, .ref b)]) hx hb dL_law__19 rfl hlv (by decide) rfl (fun ls hlv => ?_)
  refine lv_iconst (v := 0) hx hb dL_law__20 (by decide) ?_
  refine lv_istore (lv' := [(4, .int 0), (3, .ref q_3), (2, .ref q_2), (1, .ref q_1), (0, .ref b)]) hx hb dL_law__21 hlv (by decide) rfl (fun ls hlv => ?_)
  refine lv_iload hx hb dL_law__23 (lv_at hlv 0 rfl) ?_
  refine lv_aload_n hx hb dL_law__25 rfl (lv_at hlv 4 rfl) ?_
  refine va_slen hx hb hX hbl hbA hS dL_law__26 ?_
  refine lt_i (y := 10) (by decide) ?_
  refine lv_bipush (v := 10) hx hb dL_law__27 (by decide) ?_
  refine lv_isub hx hb dL_law__29 ?_
  refine lt_i (y := 0) (by decide) ?_
  refine lv_icmp_gt (tgt := 2761) hx hb dL_law__30 (by decide) (fun c => absurd c (by decide)) (fun _ => ?_)
  refine lv_aload_n hx hb dL_law__33 rfl (lv_at hlv 4 rfl) ?_
  refine lv_iload hx hb dL_law__34 (lv_at hlv 0 rfl) ?_
  refine va_sld hx hb hX hbl hbA hS (vpd (by decide)) dL_law__36 ?_
  refine lt_i (y := xs 0) rfl ?_
  refine lv_bipush (v := 63) hx hb dL_law__37 (by decide) ?_
  refine lv_iand hx hb dL_law__39 ?_
  refine lt_i (y := 14) h63 ?_
  refine lv_tableIn (tgt := 1050) hx hb dL_law__40 (by decide) (by decide) rfl (by decide) ?_
  refine lv_aload_n hx hb dL_law__1050 rfl (lv_at hlv 3 rfl) ?_
  refine lv_aload_n hx hb dL_law__1051 rfl (lv_at hlv 4 rfl) ?_
  refine lv_iload hx hb dL_law__1052 (lv_at hlv 0 rfl) ?_
  refine lv_iconst (v := 1) hx hb dL_law__1054 (by decide) ?_
  refine lv_iadd hx hb dL_law__1055 ?_
  refine lt_i (y := 1) (by decide) ?_
  refine va_sld hx hb hX hbl hbA hS (vpd (by decide)) dL_law__1056 ?_
  refine lt_i (y := 0) hv1 ?_
  refine lv_aload_n hx hb dL_law__1057 rfl (lv_at hlv 1 rfl) ?_
  refine cj_i (wr := [(q_2, .inr (12, [.int 0, .ref (u2.1 1), .int 0, .int 0, .int 0, .int 0, .int 0, .int 0, .int (-1), .ref (u2.1 9), .ref (u2.1 10), .ref (u2.1 11), .ref (u2.1 12), .ref (u2.1 13), .ref (u2.1 14), .ref (u2.1 15), .int 0, .int 0, .int 0, .ref (u2.1 19), .ref (u2.1 20), .ref (u2.1 21), .int 0, .ref (u2.1 23), .ref (u2.1 24), .ref (u2.1 25), .ref (u2.1 26), .ref (u2.1 27), .ref (u2.1 28), .int 0, .int 0, .int 0, .int 0, .ref (u2.1 33), .int (-1), .ref (u2.1 35), .int 0, .int 0])), ((u2.1 1), .inl (cy 0, 4, .inl (fun _ => 0))), ((u2.1 12), .inl (cy 0, 389, .inl sF))]) (vx_runSW (As := [.ref q_1, .int 0, .ref q_3]) (rest := []) ⟨hx, hb, hml, hown, hts⟩ (w_sums l hl D cy sa q_1 u1.1 0 q_3 H.size) (vx_cwSW 3 hts gl_w_sums rfl rfl rfl (by decide +kernel) ⟨Nat.le_of_ble_eq_true rfl, Nat.le_of_ble_eq_true rfl⟩) ⟨pcW.blind, (pcW.mk hP hD hS hA hG hT [0, 1, 2, 6] rfl (by decide))⟩ rfl rfl hlv.1 rfl (lv_room (Nat.le_of_ble_eq_true rfl)) dL_law__1058 ⟨Nat.le_of_ble_eq_true rfl, Nat.le_of_ble_eq_true rfl⟩) hP hD hS hA [0, 1, 2, 6] [3, 4, 5] rfl rfl (by decide) (by decide) (fun r3 u3 H locs hw3 hP hD hS => ?_)
  rcases hw3 with ⟨hg3, rfl, he3_0⟩ | ⟨hg3, rfl⟩
  · rw [he3_0] at hP hD
    have hP : va_P D vwCl [(q_2, .inr (12, [.int 0, .ref (u2.1 1), .int 0, .int 0, .int 0, .int 0, .int 0, .int 0, .int (-1), .ref (u2.1 9), .ref (u2.1 10), .ref (u2.1 11), .ref (u2.1 12), .ref (u2.1 13), .ref (u2.1 14), .ref (u2.1 15), .int 0, .int 0, .int 0, .ref (u2.1 19), .ref (u2.1 20), .ref (u2.1 21), .int 0, .ref (u2.1 23), .ref (u2.1 24), .ref (u2.1 25), .ref (u2.1 26), .ref (u2.1 27), .ref (u2.1 28), .int 0, .int 0, .int 0, .int 0, .ref (u2.1 33), .int (-1), .ref (u2.1 35), .int 0, .int 0])), ((u2.1 1), .inl (cy 0, 4, .inl (fun _ => 0))), ((u2.1 12), .inl (cy 0, 389, .inl sF)), (q_3, .inl (cy 2, 1, .inr (.inl (fun _ => (0 : Int32).toInt64))))] H := hP
    have hD : va_D A [(q_2, .inr (12, [.int 0, .ref (u2.1 1), .int 0, .int 0, .int 0, .int 0, .int 0, .int 0, .int (-1), .ref (u2.1 9), .ref (u2.1 10), .ref (u2.1 11), .ref (u2.1 12), .ref (u2.1 13), .ref (u2.1 14), .ref (u2.1 15), .int 0, .int 0, .int 0, .ref (u2.1 19), .ref (u2.1 20), .ref (u2.1 21), .int 0, .ref (u2.1 23), .ref (u2.1 24), .ref (u2.1 25), .ref (u2.1 26), .ref (u2.1 27), .ref (u2.1 28), .int 0, .int 0, .int 0, .int 0, .ref (u2.1 33), .int (-1), .ref (u2.1 35), .int 0, .int 0])), ((u2.1 1), .inl (cy 0, 4, .inl (fun _ => 0))), ((u2.1 12), .inl (cy 0, 389, .inl sF)), (q_3, .inl (cy 2, 1, .inr (.inl (fun _ => (0 : Int32).toInt64))))] := hD
    refine lv_istore (lv' := [(5, .int 0), (4, .int 0), (3, .ref q_3), (2, .ref q_2), (1, .ref q_1), (0, .ref b)]) hx hb dL_law__1061 hlv (by decide) rfl (fun ls hlv => ?_)
    refine lv_aload_n hx hb dL_law__1063 rfl (lv_at hlv 3 rfl) ?_
    refine lv_aload_n hx hb dL_law__1064 rfl (lv_at hlv 5 rfl) ?_
    refine lv_iload hx hb dL_law__1065 (lv_at hlv 1 rfl) ?_
    refine lv_iconst (v := 1) hx hb dL_law__1067 (by decide) ?_
    refine lv_iadd hx hb dL_law__1068 ?_
    refine lt_i (y := 1) (by decide) ?_
    refine va_sld hx hb hX hbl hbA hS (vpd (by decide)) dL_law__1069 ?_
    refine lt_i (y := 0) hv1 ?_
    refine cj_i (wr := [(q_3, .inl (cy 2, 1, .inr (.inl (fun _ => (0 : Int32).toInt64))))]) (va_runV (As := [.int 0]) (rest := []) ⟨hx, hb, hml, hown, hts⟩ (m_sums0 l hl D cy sa q_2 u2.1 H.size) (cwV 1 hts gl_m_sums0 rfl rfl rfl (by decide +kernel) ⟨Nat.le_of_ble_eq_true rfl, Nat.le_of_ble_eq_true rfl⟩) ⟨pcW.blind, (va_recv hG.1 hP (ci := 12) (q0 := 0) rfl rfl), (pcW.mk hP hD hS hA hG hT [0, 1, 2] rfl (by decide))⟩ rfl rfl hlv.1 rfl (lv_room (Nat.le_of_ble_eq_true rfl)) dL_law__1070 ⟨Nat.le_of_ble_eq_true rfl, Nat.le_of_ble_eq_true rfl⟩) hP hD hS hA [0, 1, 2] [3] rfl rfl (by decide) (by decide) (fun r4 u4 H locs hw4 hP hD hS => ?_)
    obtain ⟨rfl, he4_0⟩ := hw4
    rw [he4_0] at hP hD
    have hP : va_P D vwCl [(q_3, .inl (cy 2, 1, .inr (.inl (fun _ => (0 : Int32).toInt64)))), (q_2, .inr (12, [.int 0, .ref (u2.1 1), .int 0, .int 0, .int 0, .int 0, .int 0, .int 0, .int (-1), .ref (u2.1 9), .ref (u2.1 10), .ref (u2.1 11), .ref (u2.1 12), .ref (u2.1 13), .ref (u2.1 14), .ref (u2.1 15), .int 0, .int 0, .int 0, .ref (u2.1 19), .ref (u2.1 20), .ref (u2.1 21), .int 0, .ref (u2.1 23), .ref (u2.1 24), .ref (u2.1 25), .ref (u2.1 26), .ref (u2.1 27), .ref (u2.1 28), .int 0, .int 0, .int 0, .int 0, .ref (u2.1 33), .int (-1), .ref (u2.1 35), .int 0, .int 0]))] H := hP
    have hD : va_D A [(q_3, .inl (cy 2, 1, .inr (.inl (fun _ => (0 : Int32).toInt64)))), (q_2, .inr (12, [.int 0, .ref (u2.1 1), .int 0, .int 0, .int 0, .int 0, .int 0, .int 0, .int (-1), .ref (u2.1 9), .ref (u2.1 10), .ref (u2.1 11), .ref (u2.1 12), .ref (u2.1 13), .ref (u2.1 14), .ref (u2.1 15), .int 0, .int 0, .int 0, .ref (u2.1 19), .ref (u2.1 20), .ref (u2.1 21), .int 0, .ref (u2.1 23), .ref (u2.1 24), .ref (u2.1 25), .ref (u2.1 26), .ref (u2.1 27), .ref (u2.1 28), .int 0, .int 0, .int 0, .int 0, .ref (u2.1 33), .int (-1), .ref (u2.1 35), .int 0, .int 0]))] := hD
    refine lv_istore (lv' := [(6, .int 0), (5, .int 0), (4, .int 0), (3, .ref q_3), (2, .ref q_2), (1, .ref q_1), (0, .ref b)]) hx hb dL_law__1073 hlv (by decide) rfl (fun ls hlv => ?_)
    refine lv_aload_n hx hb dL_law__1075 rfl (lv_at hlv 4 rfl) ?_
    refine cj_i (wr := [(q_3, .inl (cy 2, 1, .inr (.inl (fun _ => (0 : Int32).toInt64))))]) (va_runV (As := []) (rest := []) ⟨hx, hb, hml, hown, hts⟩ (c_thrown l hl D cy sa q_2 u2.1 0 0 0 0 0 0 0 (-1) 0 0 0 0 0 0 0 0 (-1) 0 0 H.size) (cwV 0 hts gl_c_thrown rfl rfl rfl (by decide +kernel) ⟨Nat.le_of_ble_eq_true rfl, Nat.le_of_ble_eq_true rfl⟩) ⟨pcW.blind, (va_recv hG.1 hP (ci := 12) (q0 := 1) rfl rfl), (pcW.mk hP hD hS hA hG hT [1] rfl (by decide))⟩ rfl rfl hlv.1 rfl (lv_room (Nat.le_of_ble_eq_true rfl)) dL_law__1076 ⟨Nat.le_of_ble_eq_true rfl, Nat.le_of_ble_eq_true rfl⟩) hP hD hS hA [1] [0] rfl rfl (by decide) (by decide) (fun r5 u5 H locs hw5 hP hD hS => ?_)
    obtain rfl := hw5
    have hP : va_P D vwCl [(q_3, .inl (cy 2, 1, .inr (.inl (fun _ => (0 : Int32).toInt64))))] H := hP
    have hD : va_D A [(q_3, .inl (cy 2, 1, .inr (.inl (fun _ => (0 : Int32).toInt64))))] := hD
    refine lv_iload hx hb dL_law__1079 (lv_at hlv 1 rfl) ?_
    refine lv_icmp_eq (tgt := 1086) hx hb dL_law__1081 (by decide) (fun _ => ?_) (fun c => absurd (by decide) c)
    refine lv_iload hx hb dL_law__1086 (lv_at hlv 1 rfl) ?_
    refine lv_if_ne (tgt := 1103) hx hb dL_law__1088 (by decide) (fun c => absurd (by decide) c) (fun _ => ?_)
    refine lv_aload_n hx hb dL_law__1091 rfl (lv_at hlv 3 rfl) ?_
    refine lv_iconst (v := 0) hx hb dL_law__1092 (by decide) ?_
    refine va_lald hx hb hG.1 hP 0 2 rfl rfl (vpd (by decide)) dL_law__1093 ?_
    refine ltv (y := .long ((0 : Int32).toInt64)) rfl ?_
    refine lv_iload hx hb dL_law__1094 (lv_at hlv 0 rfl) ?_
    refine lv_i2l (v := (0 : Int32).toInt64) hx hb dL_law__1096 rfl ?_
    refine W.lcmp hx hb dL_law__1097 ?_
    refine lt_i (y := 0) (lcmp_self _) ?_
    refine lv_if_eq (tgt := 1103) hx hb dL_law__1098 (by decide) (fun _ => ?_) (fun c => absurd (by decide) c)
    refine lv_goto (tgt := 2755) hx hb dL_law__1103 (by decide) ?_
    refine lv_iinc (v := 10) (lv' := [(4, .int 10), (6, .int 0), (5, .int 0), (3, .ref q_3), (2, .ref q_2), (1, .ref q_1), (0, .ref b)]) hx hb dL_law__2755 hlv (k := 2) rfl (by decide) (by decide) rfl (fun ls hlv => ?_)
    refine lv_goto (tgt := 23) hx hb dL_law__2758 (by decide) ?_
    refine lv_iload hx hb dL_law__23 (lv_at hlv 0 rfl) ?_
    refine lv_aload_n hx hb dL_law__25 rfl (lv_at hlv 6 rfl) ?_
    refine va_slen hx hb hX hbl hbA hS dL_law__26 ?_
    refine lt_i (y := 10) (by decide) ?_
    refine lv_bipush (v := 10) hx hb dL_law__27 (by decide) ?_
    refine lv_isub hx hb dL_law__29 ?_
    refine lt_i (y := 0) (by decide) ?_
    refine lv_icmp_gt (tgt := 2761) hx hb dL_law__30 (by decide) (fun _ => ?_) (fun c => absurd (by decide) c)
    refine lv_iconst (v := 1) hx hb dL_law__2761 (by decide) ?_
    refine va_forget (fun q hq => by have h9 := hS.2.2 q hq; rw [hAe] at h9; exact h9) ?_
    refine W.widen (k := 600002) (n := 7302232) (Nat.le_of_ble_eq_true rfl) (Nat.le_of_ble_eq_true rfl) ?_
    exact lw_ret hx hb hr hlocks dL_law__2762
  · exact absurd hg3 (fun q => absurd (by decide) q)
set_option maxHeartbeats 4000000 in
set_option maxRecDepth 100000 in
theorem law_sums1 {p : Program} {e : Env} {s : State} {m : MethodId} {below : List Frame} {meth : Method} {c : Code} (l : Launch) (hl : l.stackTraces = false) {b : Nat} {xs : Nat → Int32} {D : va_G} {cy : Nat → ClassId} {sa : Nat → Nat} {A : Nat → Prop} (hAe : A = fun q => s.heap.size ≤ q) (C0 : lw_At p s m meth c b 10 xs) (hG : GC D cy sa s) (hT : TH A s s.heap) (h63 : xs 0 &&& 63 = 14) (hv1 : xs 1 = 1) : W p l e room_1 s m #[Value.ref b] below meth c s.heap [] 0 0 (lw_Z below #[Value.ref b] s) (entryFrame m ([Value.ref b] : List Value).toArray 7) := by
  obtain ⟨hx, hb, hr, hml, hown0, hts0, hX, hbl, hlocks, hgv⟩ := id C0
  have hown : s.vm.findClass RL = some m.cls := hown0
  have hts := hts0
  have hA : ∀ q : Nat, s.heap.size ≤ q → A q := fun q h => by rw [hAe]; exact h
  have hbA : ¬ A b := by rw [hAe]; exact Nat.not_le.mpr hbl
  have hS : va_S A s.heap s.heap [] := va_S.rf
  have hP : va_P D vwCl [] s.heap := fun k q h => by simp at h
  have hD : va_D A [] := ⟨fun i j p q h => by simp at h, fun k q h => by simp at h⟩
  have hl0 := lv_entry ([.ref b]) (n := 7) (Nat.le_of_ble_eq_true rfl)
  rw [lg_entry_eq]
  generalize (lg_sl ([.ref b]) ++ List.replicate (7 - (lg_sl ([.ref b])).length) Slot.unset).toArray = ls at hl0 ⊢
  have hlv : lv_has ls 7 [(0, .ref b)] := hl0
  have cl8 := hts (.classLink RL 8 RX11) lwd_0
  have in11 := hts (.instantiable RX11 14) lwd_1
  have ini11 := hts (.initialized RX11) lwd_2
  have ini_RX11 := hts (.initialized RX11) lwd_2
  have ml117 := hts (.methodLink RL 117 yX11_init) lwd_3
  have im_X11_init := hts (.instanceMethod yX11_init) lwd_4
  have cl118 := hts (.classLink RL 118 RX12) lwd_5
  have in12 := hts (.instantiable RX12 38) lwd_6
  have ini12 := hts (.initialized RX12) lwd_7
  have ini_RX12 := hts (.initialized RX12) lwd_7
  have ml120 := hts (.methodLink RL 120 yX12_init) lwd_8
  have im_X12_init := hts (.instanceMethod yX12_init) lwd_9
  have ac2 := hts (.arrayClass .long) lwd_10
  refine va_new (ci := 11) (fs := [.null, .null, .null, .int 0, .int 0, .null, .null, .null, .null, .null, .int 0, .null, .null, .null]) (C := RX11) (T := TX11) (N := 14) hx hb hts inX11 tyX11 tyX11_ok hown cl8 in11 ini11 hG.1 hP hD hS hA rfl (by decide) (Nat.le_of_ble_eq_true rfl) (Nat.le_of_ble_eq_true rfl) dL_law__0 (fun q_1 H hP hD hS => ?_)
  have hP : va_P D vwCl [(q_1, .inr (11, [.null, .null, .null, .int 0, .int 0, .null, .null, .null, .null, .null, .int 0, .null, .null, .null]))] H := hP
  have hD : va_D A [(q_1, .inr (11, [.null, .null, .null, .int 0, .int 0, .null, .null, .null, .null, .null, .int 0, .null, .null, .null]))] := hD
  refine lv_dup hx hb dL_law__3 rfl ?_
  refine cj_v (wr := []) (va_runI (As := []) (rest := [.ref q_1]) ⟨hx, hb, hml, hown, hts⟩ (c_K_sums1 l hl D cy sa q_1 H.size) (cwI 0 hts gl_X11_init rfl rfl rfl ini_RX11 ml117 im_X11_init rfl (by decide +kernel) ⟨Nat.le_of_ble_eq_true rfl, Nat.le_of_ble_eq_true rfl⟩) ⟨pcW.blind, (pcW.mk hP hD hS hA hG hT [0] rfl (by decide))⟩ rfl rfl hlv.1 rfl (lv_room (Nat.le_of_ble_eq_true rfl)) dL_law__4 ⟨Nat.le_of_ble_eq_true rfl, Nat.le_of_ble_eq_true rfl⟩) hP hD hS hA [0] [] rfl rfl (by decide) (by decide) (fun u1 H locs hw1 hP hD hS => ?_)
  have hP : va_P D vwCl [(q_1, .inr (11, [.ref (u1.1 0), .ref (u1.1 1), .ref (u1.1 2), .int 0, .int 0, .ref (u1.1 5), .ref (u1.1 6), .ref (u1.1 7), .ref (u1.1 8), .ref (u1.1 9), .int 0, .ref (u1.1 11), .ref (u1.1 12), .ref (u1.1 13)])), ((u1.1 5), .inr (6, [.int 0, .int 0, .ref (u1.1 21), .ref (u1.1 22), .int 0, .int 0, .ref (u1.1 23), .int 0, .ref (u1.1 24), .int 0, .int 0, .ref (u1.1 25), .int 0, .ref (u1.1 26), .int 0, .int 0, .int 0, .int 0, .int 0])), ((u1.1 13), .inl (cy 0, 4, .inl (fun _ => 0)))] H := hP
  have hD : va_D A [(q_1, .inr (11, [.ref (u1.1 0), .ref (u1.1 1), .ref (u1.1 2), .int 0, .int 0, .ref (u1.1 5), .ref (u1.1 6), .ref (u1.1 7), .ref (u1.1 8), .ref (u1.1 9), .int 0, .ref (u1.1 11), .ref (u1.1 12), .ref (u1.1 13)])), ((u1.1 5), .inr (6, [.int 0, .int 0, .ref (u1.1 21), .ref (u1.1 22), .int 0, .int 0, .ref (u1.1 23), .int 0, .ref (u1.1 24), .int 0, .int 0, .ref (u1.1 25), .int 0, .ref (u1.1 26), .int 0, .int 0, .int 0, .int 0, .int 0])), ((u1.1 13), .inl (cy 0, 4, .inl (fun _ => 0)))] := hD
  refine lv_astore_n (lv' := [(1, .ref q_1), (0, .ref b)]) hx hb dL_law__7 rfl hlv (by decide) rfl (fun ls hlv => ?_)
  refine va_new (ci := 12) (fs := [.int 0, .null, .int 0, .int 0, .int 0, .int 0, .int 0, .int 0, .int 0, .null, .null, .null, .null, .null, .null, .null, .int 0, .int 0, .int 0, .null, .null, .null, .int 0, .null, .null, .null, .null, .null, .null, .int 0, .int 0, .int 0, .int 0, .null, .int 0, .null, .int 0, .int 0]) (C := RX12) (T := TX12) (N := 38) hx hb hts inX12 tyX12 tyX12_ok hown cl118 in12 ini12 hG.1 hP hD hS hA rfl (by decide) (Nat.le_of_ble_eq_true rfl) (Nat.le_of_ble_eq_true rfl) dL_law__8 (fun q_2 H hP hD hS => ?_)
  have hP : va_P D vwCl [(q_1, .inr (11, [.ref (u1.1 0), .ref (u1.1 1), .ref (u1.1 2), .int 0, .int 0, .ref (u1.1 5), .ref (u1.1 6), .ref (u1.1 7), .ref (u1.1 8), .ref (u1.1 9), .int 0, .ref (u1.1 11), .ref (u1.1 12), .ref (u1.1 13)])), ((u1.1 5), .inr (6, [.int 0, .int 0, .ref (u1.1 21), .ref (u1.1 22), .int 0, .int 0, .ref (u1.1 23), .int 0, .ref (u1.1 24), .int 0, .int 0, .ref (u1.1 25), .int 0, .ref (u1.1 26), .int 0, .int 0, .int 0, .int 0, .int 0])), ((u1.1 13), .inl (cy 0, 4, .inl (fun _ => 0))), (q_2, .inr (12, [.int 0, .null, .int 0, .int 0, .int 0, .int 0, .int 0, .int 0, .int 0, .null, .null, .null, .null, .null, .null, .null, .int 0, .int 0, .int 0, .null, .null, .null, .int 0, .null, .null, .null, .null, .null, .null, .int 0, .int 0, .int 0, .int 0, .null, .int 0, .null, .int 0, .int 0]))] H := hP
  have hD : va_D A [(q_1, .inr (11, [.ref (u1.1 0), .ref (u1.1 1), .ref (u1.1 2), .int 0, .int 0, .ref (u1.1 5), .ref (u1.1 6), .ref (u1.1 7), .ref (u1.1 8), .ref (u1.1 9), .int 0, .ref (u1.1 11), .ref (u1.1 12), .ref (u1.1 13)])), ((u1.1 5), .inr (6, [.int 0, .int 0, .ref (u1.1 21), .ref (u1.1 22), .int 0, .int 0, .ref (u1.1 23), .int 0, .ref (u1.1 24), .int 0, .int 0, .ref (u1.1 25), .int 0, .ref (u1.1 26), .int 0, .int 0, .int 0, .int 0, .int 0])), ((u1.1 13), .inl (cy 0, 4, .inl (fun _ => 0))), (q_2, .inr (12, [.int 0, .null, .int 0, .int 0, .int 0, .int 0, .int 0, .int 0, .int 0, .null, .null, .null, .null, .null, .null, .null, .int 0, .int 0, .int 0, .null, .null, .null, .int 0, .null, .null, .null, .null, .null, .null, .int 0, .int 0, .int 0, .int 0, .null, .int 0, .null, .int 0, .int 0]))] := hD
  refine lv_dup hx hb dL_law__11 rfl ?_
  refine cj_v (wr := [(q_1, .inr (11, [.ref (u1.1 0), .ref (u1.1 1), .ref (u1.1 2), .int 0, .int 0, .ref (u1.1 5), .ref (u1.1 6), .ref (u1.1 7), .ref (u1.1 8), .ref (u1.1 9), .int 0, .ref (u1.1 11), .ref (u1.1 12), .ref (u1.1 13)])), ((u1.1 5), .inr (6, [.int 0, .int 0, .ref (u1.1 21), .ref (u1.1 22), .int 0, .int 0, .ref (u1.1 23), .int 0, .ref (u1.1 24), .int 0, .int 0, .ref (u1.1 25), .int 0, .ref (u1.1 26), .int 0, .int 0, .int 0, .int 0, .int 0])), ((u1.1 13), .inl (cy 0, 4, .inl (fun _ => 0)))]) (va_runI (As := []) (rest := [.ref q_2]) ⟨hx, hb, hml, hown, hts⟩ (c_M_sums1 l hl D cy sa q_2 H.size) (cwI 0 hts gl_X12_init rfl rfl rfl ini_RX12 ml120 im_X12_init rfl (by decide +kernel) ⟨Nat.le_of_ble_eq_true rfl, Nat.le_of_ble_eq_true rfl⟩) ⟨pcW.blind, (pcW.mk hP hD hS hA hG hT [3] rfl (by decide))⟩ rfl rfl hlv.1 rfl (lv_room (Nat.le_of_ble_eq_true rfl)) dL_law__12 ⟨Nat.le_of_ble_eq_true rfl, Nat.le_of_ble_eq_true rfl⟩) hP hD hS hA [3] [0, 1, 2] rfl rfl (by decide) (by decide) (fun u2 H locs hw2 hP hD hS => ?_)
  have hP : va_P D vwCl [(q_1, .inr (11, [.ref (u1.1 0), .ref (u1.1 1), .ref (u1.1 2), .int 0, .int 0, .ref (u1.1 5), .ref (u1.1 6), .ref (u1.1 7), .ref (u1.1 8), .ref (u1.1 9), .int 0, .ref (u1.1 11), .ref (u1.1 12), .ref (u1.1 13)])), ((u1.1 5), .inr (6, [.int 0, .int 0, .ref (u1.1 21), .ref (u1.1 22), .int 0, .int 0, .ref (u1.1 23), .int 0, .ref (u1.1 24), .int 0, .int 0, .ref (u1.1 25), .int 0, .ref (u1.1 26), .int 0, .int 0, .int 0, .int 0, .int 0])), ((u1.1 13), .inl (cy 0, 4, .inl (fun _ => 0))), (q_2, .inr (12, [.int 0, .ref (u2.1 1), .int 0, .int 0, .int 0, .int 0, .int 0, .int 0, .int (-1), .ref (u2.1 9), .ref (u2.1 10), .ref (u2.1 11), .ref (u2.1 12), .ref (u2.1 13), .ref (u2.1 14), .ref (u2.1 15), .int 0, .int 0, .int 0, .ref (u2.1 19), .ref (u2.1 20), .ref (u2.1 21), .int 0, .ref (u2.1 23), .ref (u2.1 24), .ref (u2.1 25), .ref (u2.1 26), .ref (u2.1 27), .ref (u2.1 28), .int 0, .int 0, .int 0, .int 0, .ref (u2.1 33), .int (-1), .ref (u2.1 35), .int 0, .int 0])), ((u2.1 1), .inl (cy 0, 4, .inl (fun _ => 0))), ((u2.1 12), .inl (cy 0, 389, .inl sF))] H := hP
  have hD : va_D A [(q_1, .inr (11, [.ref (u1.1 0), .ref (u1.1 1), .ref (u1.1 2), .int 0, .int 0, .ref (u1.1 5), .ref (u1.1 6), .ref (u1.1 7), .ref (u1.1 8), .ref (u1.1 9), .int 0, .ref (u1.1 11), .ref (u1.1 12), .ref (u1.1 13)])), ((u1.1 5), .inr (6, [.int 0, .int 0, .ref (u1.1 21), .ref (u1.1 22), .int 0, .int 0, .ref (u1.1 23), .int 0, .ref (u1.1 24), .int 0, .int 0, .ref (u1.1 25), .int 0, .ref (u1.1 26), .int 0, .int 0, .int 0, .int 0, .int 0])), ((u1.1 13), .inl (cy 0, 4, .inl (fun _ => 0))), (q_2, .inr (12, [.int 0, .ref (u2.1 1), .int 0, .int 0, .int 0, .int 0, .int 0, .int 0, .int (-1), .ref (u2.1 9), .ref (u2.1 10), .ref (u2.1 11), .ref (u2.1 12), .ref (u2.1 13), .ref (u2.1 14), .ref (u2.1 15), .int 0, .int 0, .int 0, .ref (u2.1 19), .ref (u2.1 20), .ref (u2.1 21), .int 0, .ref (u2.1 23), .ref (u2.1 24), .ref (u2.1 25), .ref (u2.1 26), .ref (u2.1 27), .ref (u2.1 28), .int 0, .int 0, .int 0, .int 0, .ref (u2.1 33), .int (-1), .ref (u2.1 35), .int 0, .int 0])), ((u2.1 1), .inl (cy 0, 4, .inl (fun _ => 0))), ((u2.1 12), .inl (cy 0, 389, .inl sF))] := hD
  refine lv_astore_n (lv' := [(2, .ref q_2), (1, .ref q_1), (0, .ref b)]) hx hb dL_law__15 rfl hlv (by decide) rfl (fun ls hlv => ?_)
  refine lv_iconst (v := 1) hx hb dL_law__16 (by decide) ?_
  refine nw_a (atype := .long) (cy := cy) (a0 := (1, .inr (.inl (fun _ => 0)))) (N' := 1) hx hb ac2 (ty := .long) rfl 2 rfl (fun C h => nomatch h) hG.1 hP hD hS hA (fun cA => rfl) (by decide) (by decide) (Nat.le_of_ble_eq_true rfl) (Nat.le_of_ble_eq_true rfl) (Nat.le_of_ble_eq_true rfl) dL_law__17 (fun q_3 H hP hD hS => ?_)
  have hP : va_P D vwCl [(q_1, .inr (11, [.ref (u1.1 0), .ref (u1.1 1), .ref (u1.1 2), .int 0, .int 0, .ref (u1.1 5), .ref (u1.1 6), .ref (u1.1 7), .ref (u1.1 8), .ref (u1.1 9), .int 0, .ref (u1.1 11), .ref (u1.1 12), .ref (u1.1 13)])), ((u1.1 5), .inr (6, [.int 0, .int 0, .ref (u1.1 21), .ref (u1.1 22), .int 0, .int 0, .ref (u1.1 23), .int 0, .ref (u1.1 24), .int 0, .int 0, .ref (u1.1 25), .int 0, .ref (u1.1 26), .int 0, .int 0, .int 0, .int 0, .int 0])), ((u1.1 13), .inl (cy 0, 4, .inl (fun _ => 0))), (q_2, .inr (12, [.int 0, .ref (u2.1 1), .int 0, .int 0, .int 0, .int 0, .int 0, .int 0, .int (-1), .ref (u2.1 9), .ref (u2.1 10), .ref (u2.1 11), .ref (u2.1 12), .ref (u2.1 13), .ref (u2.1 14), .ref (u2.1 15), .int 0, .int 0, .int 0, .ref (u2.1 19), .ref (u2.1 20), .ref (u2.1 21), .int 0, .ref (u2.1 23), .ref (u2.1 24), .ref (u2.1 25), .ref (u2.1 26), .ref (u2.1 27), .ref (u2.1 28), .int 0, .int 0, .int 0, .int 0, .ref (u2.1 33), .int (-1), .ref (u2.1 35), .int 0, .int 0])), ((u2.1 1), .inl (cy 0, 4, .inl (fun _ => 0))), ((u2.1 12), .inl (cy 0, 389, .inl sF)), (q_3, .inl (cy 2, 1, .inr (.inl (fun _ => 0))))] H := hP
  have hD : va_D A [(q_1, .inr (11, [.ref (u1.1 0), .ref (u1.1 1), .ref (u1.1 2), .int 0, .int 0, .ref (u1.1 5), .ref (u1.1 6), .ref (u1.1 7), .ref (u1.1 8), .ref (u1.1 9), .int 0, .ref (u1.1 11), .ref (u1.1 12), .ref (u1.1 13)])), ((u1.1 5), .inr (6, [.int 0, .int 0, .ref (u1.1 21), .ref (u1.1 22), .int 0, .int 0, .ref (u1.1 23), .int 0, .ref (u1.1 24), .int 0, .int 0, .ref (u1.1 25), .int 0, .ref (u1.1 26), .int 0, .int 0, .int 0, .int 0, .int 0])), ((u1.1 13), .inl (cy 0, 4, .inl (fun _ => 0))), (q_2, .inr (12, [.int 0, .ref (u2.1 1), .int 0, .int 0, .int 0, .int 0, .int 0, .int 0, .int (-1), .ref (u2.1 9), .ref (u2.1 10), .ref (u2.1 11), .ref (u2.1 12), .ref (u2.1 13), .ref (u2.1 14), .ref (u2.1 15), .int 0, .int 0, .int 0, .ref (u2.1 19), .ref (u2.1 20), .ref (u2.1 21), .int 0, .ref (u2.1 23), .ref (u2.1 24), .ref (u2.1 25), .ref (u2.1 26), .ref (u2.1 27), .ref (u2.1 28), .int 0, .int 0, .int 0, .int 0, .ref (u2.1 33), .int (-1), .ref (u2.1 35), .int 0, .int 0])), ((u2.1 1), .inl (cy 0, 4, .inl (fun _ => 0))), ((u2.1 12), .inl (cy 0, 389, .inl sF)), (q_3, .inl (cy 2, 1, .inr (.inl (fun _ => 0))))] := hD
  refine lv_astore_n (lv' := [(3, .ref q_3), (2, .ref q_2), (1, .ref q_1), (0, .ref b)]) hx hb dL_law__19 rfl hlv (by decide) rfl (fun ls hlv => ?_)
  refine lv_iconst (v := 0) hx hb dL_law__20 (by decide) ?_
  refine lv_istore (lv' := [(4, .int 0), (3, .ref q_3), (2, .ref q_2), (1, .ref q_1), (0, .ref b)]) hx hb dL_law__21 hlv (by decide) rfl (fun ls hlv => ?_)
  refine lv_iload hx hb dL_law__23 (lv_at hlv 0 rfl) ?_
  refine lv_aload_n hx hb dL_law__25 rfl (lv_at hlv 4 rfl) ?_
  refine va_slen hx hb hX hbl hbA hS dL_law__26 ?_
  refine lt_i (y := 10) (by decide) ?_
  refine lv_bipush (v := 10) hx hb dL_law__27 (by decide) ?_
  refine lv_isub hx hb dL_law__29 ?_
  refine lt_i (y := 0) (by decide) ?_
  refine lv_icmp_gt (tgt := 2761) hx hb dL_law__30 (by decide) (fun c => absurd c (by decide)) (fun _ => ?_)
  refine lv_aload_n hx hb dL_law__33 rfl (lv_at hlv 4 rfl) ?_
  refine lv_iload hx hb dL_law__34 (lv_at hlv 0 rfl) ?_
  refine va_sld hx hb hX hbl hbA hS (vpd (by decide)) dL_law__36 ?_
  refine lt_i (y := xs 0) rfl ?_
  refine lv_bipush (v := 63) hx hb dL_law__37 (by decide) ?_
  refine lv_iand hx hb dL_law__39 ?_
  refine lt_i (y := 14) h63 ?_
  refine lv_tableIn (tgt := 1050) hx hb dL_law__40 (by decide) (by decide) rfl (by decide) ?_
  refine lv_aload_n hx hb dL_law__1050 rfl (lv_at hlv 3 rfl) ?_
  refine lv_aload_n hx hb dL_law__1051 rfl (lv_at hlv 4 rfl) ?_
  refine lv_iload hx hb dL_law__1052 (lv_at hlv 0 rfl) ?_
  refine lv_iconst (v := 1) hx hb dL_law__1054 (by decide) ?_
  refine lv_iadd hx hb dL_law__1055 ?_
  refine lt_i (y := 1) (by decide) ?_
  refine va_sld hx hb hX hbl hbA hS (vpd (by decide)) dL_law__1056 ?_
  refine lt_i (y := 1) hv1 ?_
  refine lv_aload_n hx hb dL_law__1057 rfl (lv_at hlv 1 rfl) ?_
  refine cj_i (wr := [(q_2, .inr (12, [.int 0, .ref (u2.1 1), .int 0, .int 0, .int 0, .int 0, .int 0, .int 0, .int (-1), .ref (u2.1 9), .ref (u2.1 10), .ref (u2.1 11), .ref (u2.1 12), .ref (u2.1 13), .ref (u2.1 14), .ref (u2.1 15), .int 0, .int 0, .int 0, .ref (u2.1 19), .ref (u2.1 20), .ref (u2.1 21), .int 0, .ref (u2.1 23), .ref (u2.1 24), .ref (u2.1 25), .ref (u2.1 26), .ref (u2.1 27), .ref (u2.1 28), .int 0, .int 0, .int 0, .int 0, .ref (u2.1 33), .int (-1), .ref (u2.1 35), .int 0, .int 0])), ((u2.1 1), .inl (cy 0, 4, .inl (fun _ => 0))), ((u2.1 12), .inl (cy 0, 389, .inl sF))]) (vx_runSW (As := [.ref q_1, .int 1, .ref q_3]) (rest := []) ⟨hx, hb, hml, hown, hts⟩ (w_sums l hl D cy sa q_1 u1.1 1 q_3 H.size) (vx_cwSW 3 hts gl_w_sums rfl rfl rfl (by decide +kernel) ⟨Nat.le_of_ble_eq_true rfl, Nat.le_of_ble_eq_true rfl⟩) ⟨pcW.blind, (pcW.mk hP hD hS hA hG hT [0, 1, 2, 6] rfl (by decide))⟩ rfl rfl hlv.1 rfl (lv_room (Nat.le_of_ble_eq_true rfl)) dL_law__1058 ⟨Nat.le_of_ble_eq_true rfl, Nat.le_of_ble_eq_true rfl⟩) hP hD hS hA [0, 1, 2, 6] [3, 4, 5] rfl rfl (by decide) (by decide) (fun r3 u3 H locs hw3 hP hD hS => ?_)
  rcases hw3 with ⟨hg3, rfl, he3_0⟩ | ⟨hg3, rfl⟩
  · rw [he3_0] at hP hD
    have hP : va_P D vwCl [(q_2, .inr (12, [.int 0, .ref (u2.1 1), .int 0, .int 0, .int 0, .int 0, .int 0, .int 0, .int (-1), .ref (u2.1 9), .ref (u2.1 10), .ref (u2.1 11), .ref (u2.1 12), .ref (u2.1 13), .ref (u2.1 14), .ref (u2.1 15), .int 0, .int 0, .int 0, .ref (u2.1 19), .ref (u2.1 20), .ref (u2.1 21), .int 0, .ref (u2.1 23), .ref (u2.1 24), .ref (u2.1 25), .ref (u2.1 26), .ref (u2.1 27), .ref (u2.1 28), .int 0, .int 0, .int 0, .int 0, .ref (u2.1 33), .int (-1), .ref (u2.1 35), .int 0, .int 0])), ((u2.1 1), .inl (cy 0, 4, .inl (fun _ => 0))), ((u2.1 12), .inl (cy 0, 389, .inl sF)), (q_3, .inl (cy 2, 1, .inr (.inl (fun _ => (0 : Int32).toInt64))))] H := hP
    have hD : va_D A [(q_2, .inr (12, [.int 0, .ref (u2.1 1), .int 0, .int 0, .int 0, .int 0, .int 0, .int 0, .int (-1), .ref (u2.1 9), .ref (u2.1 10), .ref (u2.1 11), .ref (u2.1 12), .ref (u2.1 13), .ref (u2.1 14), .ref (u2.1 15), .int 0, .int 0, .int 0, .ref (u2.1 19), .ref (u2.1 20), .ref (u2.1 21), .int 0, .ref (u2.1 23), .ref (u2.1 24), .ref (u2.1 25), .ref (u2.1 26), .ref (u2.1 27), .ref (u2.1 28), .int 0, .int 0, .int 0, .int 0, .ref (u2.1 33), .int (-1), .ref (u2.1 35), .int 0, .int 0])), ((u2.1 1), .inl (cy 0, 4, .inl (fun _ => 0))), ((u2.1 12), .inl (cy 0, 389, .inl sF)), (q_3, .inl (cy 2, 1, .inr (.inl (fun _ => (0 : Int32).toInt64))))] := hD
    refine lv_istore (lv' := [(5, .int 0), (4, .int 0), (3, .ref q_3), (2, .ref q_2), (1, .ref q_1), (0, .ref b)]) hx hb dL_law__1061 hlv (by decide) rfl (fun ls hlv => ?_)
    refine lv_aload_n hx hb dL_law__1063 rfl (lv_at hlv 3 rfl) ?_
    refine lv_aload_n hx hb dL_law__1064 rfl (lv_at hlv 5 rfl) ?_
    refine lv_iload hx hb dL_law__1065 (lv_at hlv 1 rfl) ?_
    refine lv_iconst (v := 1) hx hb dL_law__1067 (by decide) ?_
    refine lv_iadd hx hb dL_law__1068 ?_
    refine lt_i (y := 1) (by decide) ?_
    refine va_sld hx hb hX hbl hbA hS (vpd (by decide)) dL_law__1069 ?_
    refine lt_i (y := 1) hv1 ?_
    refine cj_i (wr := [(q_3, .inl (cy 2, 1, .inr (.inl (fun _ => (0 : Int32).toInt64))))]) (va_runV (As := [.int 1]) (rest := []) ⟨hx, hb, hml, hown, hts⟩ (m_sums1 l hl D cy sa q_2 u2.1 H.size) (cwV 1 hts gl_m_sums1 rfl rfl rfl (by decide +kernel) ⟨Nat.le_of_ble_eq_true rfl, Nat.le_of_ble_eq_true rfl⟩) ⟨pcW.blind, (va_recv hG.1 hP (ci := 12) (q0 := 0) rfl rfl), (pcW.mk hP hD hS hA hG hT [0, 1, 2] rfl (by decide))⟩ rfl rfl hlv.1 rfl (lv_room (Nat.le_of_ble_eq_true rfl)) dL_law__1070 ⟨Nat.le_of_ble_eq_true rfl, Nat.le_of_ble_eq_true rfl⟩) hP hD hS hA [0, 1, 2] [3] rfl rfl (by decide) (by decide) (fun r4 u4 H locs hw4 hP hD hS => ?_)
    obtain ⟨rfl, he4_0⟩ := hw4
    rw [he4_0] at hP hD
    have hP : va_P D vwCl [(q_3, .inl (cy 2, 1, .inr (.inl (fun _ => (0 : Int32).toInt64)))), (q_2, .inr (12, [.int 0, .ref (u2.1 1), .int 0, .int 0, .int 0, .int 0, .int 0, .int 0, .int (-1), .ref (u2.1 9), .ref (u2.1 10), .ref (u2.1 11), .ref (u2.1 12), .ref (u2.1 13), .ref (u2.1 14), .ref (u2.1 15), .int 0, .int 0, .int 0, .ref (u2.1 19), .ref (u2.1 20), .ref (u2.1 21), .int 0, .ref (u2.1 23), .ref (u2.1 24), .ref (u2.1 25), .ref (u2.1 26), .ref (u2.1 27), .ref (u2.1 28), .int 0, .int 0, .int 0, .int 0, .ref (u2.1 33), .int (-1), .ref (u2.1 35), .int 0, .int 0]))] H := hP
    have hD : va_D A [(q_3, .inl (cy 2, 1, .inr (.inl (fun _ => (0 : Int32).toInt64)))), (q_2, .inr (12, [.int 0, .ref (u2.1 1), .int 0, .int 0, .int 0, .int 0, .int 0, .int 0, .int (-1), .ref (u2.1 9), .ref (u2.1 10), .ref (u2.1 11), .ref (u2.1 12), .ref (u2.1 13), .ref (u2.1 14), .ref (u2.1 15), .int 0, .int 0, .int 0, .ref (u2.1 19), .ref (u2.1 20), .ref (u2.1 21), .int 0, .ref (u2.1 23), .ref (u2.1 24), .ref (u2.1 25), .ref (u2.1 26), .ref (u2.1 27), .ref (u2.1 28), .int 0, .int 0, .int 0, .int 0, .ref (u2.1 33), .int (-1), .ref (u2.1 35), .int 0, .int 0]))] := hD
    refine lv_istore (lv' := [(6, .int 0), (5, .int 0), (4, .int 0), (3, .ref q_3), (2, .ref q_2), (1, .ref q_1), (0, .ref b)]) hx hb dL_law__1073 hlv (by decide) rfl (fun ls hlv => ?_)
    refine lv_aload_n hx hb dL_law__1075 rfl (lv_at hlv 4 rfl) ?_
    refine cj_i (wr := [(q_3, .inl (cy 2, 1, .inr (.inl (fun _ => (0 : Int32).toInt64))))]) (va_runV (As := []) (rest := []) ⟨hx, hb, hml, hown, hts⟩ (c_thrown l hl D cy sa q_2 u2.1 0 0 0 0 0 0 0 (-1) 0 0 0 0 0 0 0 0 (-1) 0 0 H.size) (cwV 0 hts gl_c_thrown rfl rfl rfl (by decide +kernel) ⟨Nat.le_of_ble_eq_true rfl, Nat.le_of_ble_eq_true rfl⟩) ⟨pcW.blind, (va_recv hG.1 hP (ci := 12) (q0 := 1) rfl rfl), (pcW.mk hP hD hS hA hG hT [1] rfl (by decide))⟩ rfl rfl hlv.1 rfl (lv_room (Nat.le_of_ble_eq_true rfl)) dL_law__1076 ⟨Nat.le_of_ble_eq_true rfl, Nat.le_of_ble_eq_true rfl⟩) hP hD hS hA [1] [0] rfl rfl (by decide) (by decide) (fun r5 u5 H locs hw5 hP hD hS => ?_)
    obtain rfl := hw5
    have hP : va_P D vwCl [(q_3, .inl (cy 2, 1, .inr (.inl (fun _ => (0 : Int32).toInt64))))] H := hP
    have hD : va_D A [(q_3, .inl (cy 2, 1, .inr (.inl (fun _ => (0 : Int32).toInt64))))] := hD
    refine lv_iload hx hb dL_law__1079 (lv_at hlv 1 rfl) ?_
    refine lv_icmp_eq (tgt := 1086) hx hb dL_law__1081 (by decide) (fun _ => ?_) (fun c => absurd (by decide) c)
    refine lv_iload hx hb dL_law__1086 (lv_at hlv 1 rfl) ?_
    refine lv_if_ne (tgt := 1103) hx hb dL_law__1088 (by decide) (fun c => absurd (by decide) c) (fun _ => ?_)
    refine lv_aload_n hx hb dL_law__1091 rfl (lv_at hlv 3 rfl) ?_
    refine lv_iconst (v := 0) hx hb dL_law__1092 (by decide) ?_
    refine va_lald hx hb hG.1 hP 0 2 rfl rfl (vpd (by decide)) dL_law__1093 ?_
    refine ltv (y := .long ((0 : Int32).toInt64)) rfl ?_
    refine lv_iload hx hb dL_law__1094 (lv_at hlv 0 rfl) ?_
    refine lv_i2l (v := (0 : Int32).toInt64) hx hb dL_law__1096 rfl ?_
    refine W.lcmp hx hb dL_law__1097 ?_
    refine lt_i (y := 0) (lcmp_self _) ?_
    refine lv_if_eq (tgt := 1103) hx hb dL_law__1098 (by decide) (fun _ => ?_) (fun c => absurd (by decide) c)
    refine lv_goto (tgt := 2755) hx hb dL_law__1103 (by decide) ?_
    refine lv_iinc (v := 10) (lv' := [(4, .int 10), (6, .int 0), (5, .int 0), (3, .ref q_3), (2, .ref q_2), (1, .ref q_1), (0, .ref b)]) hx hb dL_law__2755 hlv (k := 2) rfl (by decide) (by decide) rfl (fun ls hlv => ?_)
    refine lv_goto (tgt := 23) hx hb dL_law__2758 (by decide) ?_
    refine lv_iload hx hb dL_law__23 (lv_at hlv 0 rfl) ?_
    refine lv_aload_n hx hb dL_law__25 rfl (lv_at hlv 6 rfl) ?_
    refine va_slen hx hb hX hbl hbA hS dL_law__26 ?_
    refine lt_i (y := 10) (by decide) ?_
    refine lv_bipush (v := 10) hx hb dL_law__27 (by decide) ?_
    refine lv_isub hx hb dL_law__29 ?_
    refine lt_i (y := 0) (by decide) ?_
    refine lv_icmp_gt (tgt := 2761) hx hb dL_law__30 (by decide) (fun _ => ?_) (fun c => absurd (by decide) c)
    refine lv_iconst (v := 1) hx hb dL_law__2761 (by decide) ?_
    refine va_forget (fun q hq => by have h9 := hS.2.2 q hq; rw [hAe] at h9; exact h9) ?_
    refine W.widen (k := 600002) (n := 7302232) (Nat.le_of_ble_eq_true rfl) (Nat.le_of_ble_eq_true rfl) ?_
    exact lw_ret hx hb hr hlocks dL_law__2762
  · exact absurd hg3 (fun q => absurd (by decide) q)
set_option maxHeartbeats 4000000 in
set_option maxRecDepth 100000 in
theorem law_sums2 {p : Program} {e : Env} {s : State} {m : MethodId} {below : List Frame} {meth : Method} {c : Code} (l : Launch) (hl : l.stackTraces = false) {b : Nat} {xs : Nat → Int32} {D : va_G} {cy : Nat → ClassId} {sa : Nat → Nat} {A : Nat → Prop} (hAe : A = fun q => s.heap.size ≤ q) (C0 : lw_At p s m meth c b 10 xs) (hG : GC D cy sa s) (hT : TH A s s.heap) (h63 : xs 0 &&& 63 = 14) (hv1 : xs 1 = 2) : W p l e room_1 s m #[Value.ref b] below meth c s.heap [] 0 0 (lw_Z below #[Value.ref b] s) (entryFrame m ([Value.ref b] : List Value).toArray 7) := by
  obtain ⟨hx, hb, hr, hml, hown0, hts0, hX, hbl, hlocks, hgv⟩ := id C0
  have hown : s.vm.findClass RL = some m.cls := hown0
  have hts := hts0
  have hA : ∀ q : Nat, s.heap.size ≤ q → A q := fun q h => by rw [hAe]; exact h
  have hbA : ¬ A b := by rw [hAe]; exact Nat.not_le.mpr hbl
  have hS : va_S A s.heap s.heap [] := va_S.rf
  have hP : va_P D vwCl [] s.heap := fun k q h => by simp at h
  have hD : va_D A [] := ⟨fun i j p q h => by simp at h, fun k q h => by simp at h⟩
  have hl0 := lv_entry ([.ref b]) (n := 7) (Nat.le_of_ble_eq_true rfl)
  rw [lg_entry_eq]
  generalize (lg_sl ([.ref b]) ++ List.replicate (7 - (lg_sl ([.ref b])).length) Slot.unset).toArray = ls at hl0 ⊢
  have hlv : lv_has ls 7 [(0, .ref b)] := hl0
  have cl8 := hts (.classLink RL 8 RX11) lwd_0
  have in11 := hts (.instantiable RX11 14) lwd_1
  have ini11 := hts (.initialized RX11) lwd_2
  have ini_RX11 := hts (.initialized RX11) lwd_2
  have ml117 := hts (.methodLink RL 117 yX11_init) lwd_3
  have im_X11_init := hts (.instanceMethod yX11_init) lwd_4
  have cl118 := hts (.classLink RL 118 RX12) lwd_5
  have in12 := hts (.instantiable RX12 38) lwd_6
  have ini12 := hts (.initialized RX12) lwd_7
  have ini_RX12 := hts (.initialized RX12) lwd_7
  have ml120 := hts (.methodLink RL 120 yX12_init) lwd_8
  have im_X12_init := hts (.instanceMethod yX12_init) lwd_9
  have ac2 := hts (.arrayClass .long) lwd_10
  refine va_new (ci := 11) (fs := [.null, .null, .null, .int 0, .int 0, .null, .null, .null, .null, .null, .int 0, .null, .null, .null]) (C := RX11) (T := TX11) (N := 14) hx hb hts inX11 tyX11 tyX11_ok hown cl8 in11 ini11 hG.1 hP hD hS hA rfl (by decide) (Nat.le_of_ble_eq_true rfl) (Nat.le_of_ble_eq_true rfl) dL_law__0 (fun q_1 H hP hD hS => ?_)
  have hP : va_P D vwCl [(q_1, .inr (11, [.null, .null, .null, .int 0, .int 0, .null, .null, .null, .null, .null, .int 0, .null, .null, .null]))] H := hP
  have hD : va_D A [(q_1, .inr (11, [.null, .null, .null, .int 0, .int 0, .null, .null, .null, .null, .null, .int 0, .null, .null, .null]))] := hD
  refine lv_dup hx hb dL_law__3 rfl ?_
  refine cj_v (wr := []) (va_runI (As := []) (rest := [.ref q_1]) ⟨hx, hb, hml, hown, hts⟩ (c_K_sums2 l hl D cy sa q_1 H.size) (cwI 0 hts gl_X11_init rfl rfl rfl ini_RX11 ml117 im_X11_init rfl (by decide +kernel) ⟨Nat.le_of_ble_eq_true rfl, Nat.le_of_ble_eq_true rfl⟩) ⟨pcW.blind, (pcW.mk hP hD hS hA hG hT [0] rfl (by decide))⟩ rfl rfl hlv.1 rfl (lv_room (Nat.le_of_ble_eq_true rfl)) dL_law__4 ⟨Nat.le_of_ble_eq_true rfl, Nat.le_of_ble_eq_true rfl⟩) hP hD hS hA [0] [] rfl rfl (by decide) (by decide) (fun u1 H locs hw1 hP hD hS => ?_)
  have hP : va_P D vwCl [(q_1, .inr (11, [.ref (u1.1 0), .ref (u1.1 1), .ref (u1.1 2), .int 0, .int 0, .ref (u1.1 5), .ref (u1.1 6), .ref (u1.1 7), .ref (u1.1 8), .ref (u1.1 9), .int 0, .ref (u1.1 11), .ref (u1.1 12), .ref (u1.1 13)])), ((u1.1 5), .inr (6, [.int 0, .int 0, .ref (u1.1 21), .ref (u1.1 22), .int 0, .int 0, .ref (u1.1 23), .int 0, .ref (u1.1 24), .int 0, .int 0, .ref (u1.1 25), .int 0, .ref (u1.1 26), .int 0, .int 0, .int 0, .int 0, .int 0])), ((u1.1 13), .inl (cy 0, 4, .inl (fun _ => 0)))] H := hP
  have hD : va_D A [(q_1, .inr (11, [.ref (u1.1 0), .ref (u1.1 1), .ref (u1.1 2), .int 0, .int 0, .ref (u1.1 5), .ref (u1.1 6), .ref (u1.1 7), .ref (u1.1 8), .ref (u1.1 9), .int 0, .ref (u1.1 11), .ref (u1.1 12), .ref (u1.1 13)])), ((u1.1 5), .inr (6, [.int 0, .int 0, .ref (u1.1 21), .ref (u1.1 22), .int 0, .int 0, .ref (u1.1 23), .int 0, .ref (u1.1 24), .int 0, .int 0, .ref (u1.1 25), .int 0, .ref (u1.1 26), .int 0, .int 0, .int 0, .int 0, .int 0])), ((u1.1 13), .inl (cy 0, 4, .inl (fun _ => 0)))] := hD
  refine lv_astore_n (lv' := [(1, .ref q_1), (0, .ref b)]) hx hb dL_law__7 rfl hlv (by decide) rfl (fun ls hlv => ?_)
  refine va_new (ci := 12) (fs := [.int 0, .null, .int 0, .int 0, .int 0, .int 0, .int 0, .int 0, .int 0, .null, .null, .null, .null, .null, .null, .null, .int 0, .int 0, .int 0, .null, .null, .null, .int 0, .null, .null, .null, .null, .null, .null, .int 0, .int 0, .int 0, .int 0, .null, .int 0, .null, .int 0, .int 0]) (C := RX12) (T := TX12) (N := 38) hx hb hts inX12 tyX12 tyX12_ok hown cl118 in12 ini12 hG.1 hP hD hS hA rfl (by decide) (Nat.le_of_ble_eq_true rfl) (Nat.le_of_ble_eq_true rfl) dL_law__8 (fun q_2 H hP hD hS => ?_)
  have hP : va_P D vwCl [(q_1, .inr (11, [.ref (u1.1 0), .ref (u1.1 1), .ref (u1.1 2), .int 0, .int 0, .ref (u1.1 5), .ref (u1.1 6), .ref (u1.1 7), .ref (u1.1 8), .ref (u1.1 9), .int 0, .ref (u1.1 11), .ref (u1.1 12), .ref (u1.1 13)])), ((u1.1 5), .inr (6, [.int 0, .int 0, .ref (u1.1 21), .ref (u1.1 22), .int 0, .int 0, .ref (u1.1 23), .int 0, .ref (u1.1 24), .int 0, .int 0, .ref (u1.1 25), .int 0, .ref (u1.1 26), .int 0, .int 0, .int 0, .int 0, .int 0])), ((u1.1 13), .inl (cy 0, 4, .inl (fun _ => 0))), (q_2, .inr (12, [.int 0, .null, .int 0, .int 0, .int 0, .int 0, .int 0, .int 0, .int 0, .null, .null, .null, .null, .null, .null, .null, .int 0, .int 0, .int 0, .null, .null, .null, .int 0, .null, .null, .null, .null, .null, .null, .int 0, .int 0, .int 0, .int 0, .null, .int 0, .null, .int 0, .int 0]))] H := hP
  have hD : va_D A [(q_1, .inr (11, [.ref (u1.1 0), .ref (u1.1 1), .ref (u1.1 2), .int 0, .int 0, .ref (u1.1 5), .ref (u1.1 6), .ref (u1.1 7), .ref (u1.1 8), .ref (u1.1 9), .int 0, .ref (u1.1 11), .ref (u1.1 12), .ref (u1.1 13)])), ((u1.1 5), .inr (6, [.int 0, .int 0, .ref (u1.1 21), .ref (u1.1 22), .int 0, .int 0, .ref (u1.1 23), .int 0, .ref (u1.1 24), .int 0, .int 0, .ref (u1.1 25), .int 0, .ref (u1.1 26), .int 0, .int 0, .int 0, .int 0, .int 0])), ((u1.1 13), .inl (cy 0, 4, .inl (fun _ => 0))), (q_2, .inr (12, [.int 0, .null, .int 0, .int 0, .int 0, .int 0, .int 0, .int 0, .int 0, .null, .null, .null, .null, .null, .null, .null, .int 0, .int 0, .int 0, .null, .null, .null, .int 0, .null, .null, .null, .null, .null, .null, .int 0, .int 0, .int 0, .int 0, .null, .int 0, .null, .int 0, .int 0]))] := hD
  refine lv_dup hx hb dL_law__11 rfl ?_
  refine cj_v (wr := [(q_1, .inr (11, [.ref (u1.1 0), .ref (u1.1 1), .ref (u1.1 2), .int 0, .int 0, .ref (u1.1 5), .ref (u1.1 6), .ref (u1.1 7), .ref (u1.1 8), .ref (u1.1 9), .int 0, .ref (u1.1 11), .ref (u1.1 12), .ref (u1.1 13)])), ((u1.1 5), .inr (6, [.int 0, .int 0, .ref (u1.1 21), .ref (u1.1 22), .int 0, .int 0, .ref (u1.1 23), .int 0, .ref (u1.1 24), .int 0, .int 0, .ref (u1.1 25), .int 0, .ref (u1.1 26), .int 0, .int 0, .int 0, .int 0, .int 0])), ((u1.1 13), .inl (cy 0, 4, .inl (fun _ => 0)))]) (va_runI (As := []) (rest := [.ref q_2]) ⟨hx, hb, hml, hown, hts⟩ (c_M_sums2 l hl D cy sa q_2 H.size) (cwI 0 hts gl_X12_init rfl rfl rfl ini_RX12 ml120 im_X12_init rfl (by decide +kernel) ⟨Nat.le_of_ble_eq_true rfl, Nat.le_of_ble_eq_true rfl⟩) ⟨pcW.blind, (pcW.mk hP hD hS hA hG hT [3] rfl (by decide))⟩ rfl rfl hlv.1 rfl (lv_room (Nat.le_of_ble_eq_true rfl)) dL_law__12 ⟨Nat.le_of_ble_eq_true rfl, Nat.le_of_ble_eq_true rfl⟩) hP hD hS hA [3] [0, 1, 2] rfl rfl (by decide) (by decide) (fun u2 H locs hw2 hP hD hS => ?_)
  have hP : va_P D vwCl [(q_1, .inr (11, [.ref (u1.1 0), .ref (u1.1 1), .ref (u1.1 2), .int 0, .int 0, .ref (u1.1 5), .ref (u1.1 6), .ref (u1.1 7), .ref (u1.1 8), .ref (u1.1 9), .int 0, .ref (u1.1 11), .ref (u1.1 12), .ref (u1.1 13)])), ((u1.1 5), .inr (6, [.int 0, .int 0, .ref (u1.1 21), .ref (u1.1 22), .int 0, .int 0, .ref (u1.1 23), .int 0, .ref (u1.1 24), .int 0, .int 0, .ref (u1.1 25), .int 0, .ref (u1.1 26), .int 0, .int 0, .int 0, .int 0, .int 0])), ((u1.1 13), .inl (cy 0, 4, .inl (fun _ => 0))), (q_2, .inr (12, [.int 0, .ref (u2.1 1), .int 0, .int 0, .int 0, .int 0, .int 0, .int 0, .int (-1), .ref (u2.1 9), .ref (u2.1 10), .ref (u2.1 11), .ref (u2.1 12), .ref (u2.1 13), .ref (u2.1 14), .ref (u2.1 15), .int 0, .int 0, .int 0, .ref (u2.1 19), .ref (u2.1 20), .ref (u2.1 21), .int 0, .ref (u2.1 23), .ref (u2.1 24), .ref (u2.1 25), .ref (u2.1 26), .ref (u2.1 27), .ref (u2.1 28), .int 0, .int 0, .int 0, .int 0, .ref (u2.1 33), .int (-1), .ref (u2.1 35), .int 0, .int 0])), ((u2.1 1), .inl (cy 0, 4, .inl (fun _ => 0))), ((u2.1 12), .inl (cy 0, 389, .inl sF))] H := hP
  have hD : va_D A [(q_1, .inr (11, [.ref (u1.1 0), .ref (u1.1 1), .ref (u1.1 2), .int 0, .int 0, .ref (u1.1 5), .ref (u1.1 6), .ref (u1.1 7), .ref (u1.1 8), .ref (u1.1 9), .int 0, .ref (u1.1 11), .ref (u1.1 12), .ref (u1.1 13)])), ((u1.1 5), .inr (6, [.int 0, .int 0, .ref (u1.1 21), .ref (u1.1 22), .int 0, .int 0, .ref (u1.1 23), .int 0, .ref (u1.1 24), .int 0, .int 0, .ref (u1.1 25), .int 0, .ref (u1.1 26), .int 0, .int 0, .int 0, .int 0, .int 0])), ((u1.1 13), .inl (cy 0, 4, .inl (fun _ => 0))), (q_2, .inr (12, [.int 0, .ref (u2.1 1), .int 0, .int 0, .int 0, .int 0, .int 0, .int 0, .int (-1), .ref (u2.1 9), .ref (u2.1 10), .ref (u2.1 11), .ref (u2.1 12), .ref (u2.1 13), .ref (u2.1 14), .ref (u2.1 15), .int 0, .int 0, .int 0, .ref (u2.1 19), .ref (u2.1 20), .ref (u2.1 21), .int 0, .ref (u2.1 23), .ref (u2.1 24), .ref (u2.1 25), .ref (u2.1 26), .ref (u2.1 27), .ref (u2.1 28), .int 0, .int 0, .int 0, .int 0, .ref (u2.1 33), .int (-1), .ref (u2.1 35), .int 0, .int 0])), ((u2.1 1), .inl (cy 0, 4, .inl (fun _ => 0))), ((u2.1 12), .inl (cy 0, 389, .inl sF))] := hD
  refine lv_astore_n (lv' := [(2, .ref q_2), (1, .ref q_1), (0, .ref b)]) hx hb dL_law__15 rfl hlv (by decide) rfl (fun ls hlv => ?_)
  refine lv_iconst (v := 1) hx hb dL_law__16 (by decide) ?_
  refine nw_a (atype := .long) (cy := cy) (a0 := (1, .inr (.inl (fun _ => 0)))) (N' := 1) hx hb ac2 (ty := .long) rfl 2 rfl (fun C h => nomatch h) hG.1 hP hD hS hA (fun cA => rfl) (by decide) (by decide) (Nat.le_of_ble_eq_true rfl) (Nat.le_of_ble_eq_true rfl) (Nat.le_of_ble_eq_true rfl) dL_law__17 (fun q_3 H hP hD hS => ?_)
  have hP : va_P D vwCl [(q_1, .inr (11, [.ref (u1.1 0), .ref (u1.1 1), .ref (u1.1 2), .int 0, .int 0, .ref (u1.1 5), .ref (u1.1 6), .ref (u1.1 7), .ref (u1.1 8), .ref (u1.1 9), .int 0, .ref (u1.1 11), .ref (u1.1 12), .ref (u1.1 13)])), ((u1.1 5), .inr (6, [.int 0, .int 0, .ref (u1.1 21), .ref (u1.1 22), .int 0, .int 0, .ref (u1.1 23), .int 0, .ref (u1.1 24), .int 0, .int 0, .ref (u1.1 25), .int 0, .ref (u1.1 26), .int 0, .int 0, .int 0, .int 0, .int 0])), ((u1.1 13), .inl (cy 0, 4, .inl (fun _ => 0))), (q_2, .inr (12, [.int 0, .ref (u2.1 1), .int 0, .int 0, .int 0, .int 0, .int 0, .int 0, .int (-1), .ref (u2.1 9), .ref (u2.1 10), .ref (u2.1 11), .ref (u2.1 12), .ref (u2.1 13), .ref (u2.1 14), .ref (u2.1 15), .int 0, .int 0, .int 0, .ref (u2.1 19), .ref (u2.1 20), .ref (u2.1 21), .int 0, .ref (u2.1 23), .ref (u2.1 24), .ref (u2.1 25), .ref (u2.1 26), .ref (u2.1 27), .ref (u2.1 28), .int 0, .int 0, .int 0, .int 0, .ref (u2.1 33), .int (-1), .ref (u2.1 35), .int 0, .int 0])), ((u2.1 1), .inl (cy 0, 4, .inl (fun _ => 0))), ((u2.1 12), .inl (cy 0, 389, .inl sF)), (q_3, .inl (cy 2, 1, .inr (.inl (fun _ => 0))))] H := hP
  have hD : va_D A [(q_1, .inr (11, [.ref (u1.1 0), .ref (u1.1 1), .ref (u1.1 2), .int 0, .int 0, .ref (u1.1 5), .ref (u1.1 6), .ref (u1.1 7), .ref (u1.1 8), .ref (u1.1 9), .int 0, .ref (u1.1 11), .ref (u1.1 12), .ref (u1.1 13)])), ((u1.1 5), .inr (6, [.int 0, .int 0, .ref (u1.1 21), .ref (u1.1 22), .int 0, .int 0, .ref (u1.1 23), .int 0, .ref (u1.1 24), .int 0, .int 0, .ref (u1.1 25), .int 0, .ref (u1.1 26), .int 0, .int 0, .int 0, .int 0, .int 0])), ((u1.1 13), .inl (cy 0, 4, .inl (fun _ => 0))), (q_2, .inr (12, [.int 0, .ref (u2.1 1), .int 0, .int 0, .int 0, .int 0, .int 0, .int 0, .int (-1), .ref (u2.1 9), .ref (u2.1 10), .ref (u2.1 11), .ref (u2.1 12), .ref (u2.1 13), .ref (u2.1 14), .ref (u2.1 15), .int 0, .int 0, .int 0, .ref (u2.1 19), .ref (u2.1 20), .ref (u2.1 21), .int 0, .ref (u2.1 23), .ref (u2.1 24), .ref (u2.1 25), .ref (u2.1 26), .ref (u2.1 27), .ref (u2.1 28), .int 0, .int 0, .int 0, .int 0, .ref (u2.1 33), .int (-1), .ref (u2.1 35), .int 0, .int 0])), ((u2.1 1), .inl (cy 0, 4, .inl (fun _ => 0))), ((u2.1 12), .inl (cy 0, 389, .inl sF)), (q_3, .inl (cy 2, 1, .inr (.inl (fun _ => 0))))] := hD
  refine lv_astore_n (lv' := [(3, .ref q_3), (2, .ref q_2), (1, .ref q_1), (0, .ref b)]) hx hb dL_law__19 rfl hlv (by decide) rfl (fun ls hlv => ?_)
  refine lv_iconst (v := 0) hx hb dL_law__20 (by decide) ?_
  refine lv_istore (lv' := [(4, .int 0), (3, .ref q_3), (2, .ref q_2), (1, .ref q_1), (0, .ref b)]) hx hb dL_law__21 hlv (by decide) rfl (fun ls hlv => ?_)
  refine lv_iload hx hb dL_law__23 (lv_at hlv 0 rfl) ?_
  refine lv_aload_n hx hb dL_law__25 rfl (lv_at hlv 4 rfl) ?_
  refine va_slen hx hb hX hbl hbA hS dL_law__26 ?_
  refine lt_i (y := 10) (by decide) ?_
  refine lv_bipush (v := 10) hx hb dL_law__27 (by decide) ?_
  refine lv_isub hx hb dL_law__29 ?_
  refine lt_i (y := 0) (by decide) ?_
  refine lv_icmp_gt (tgt := 2761) hx hb dL_law__30 (by decide) (fun c => absurd c (by decide)) (fun _ => ?_)
  refine lv_aload_n hx hb dL_law__33 rfl (lv_at hlv 4 rfl) ?_
  refine lv_iload hx hb dL_law__34 (lv_at hlv 0 rfl) ?_
  refine va_sld hx hb hX hbl hbA hS (vpd (by decide)) dL_law__36 ?_
  refine lt_i (y := xs 0) rfl ?_
  refine lv_bipush (v := 63) hx hb dL_law__37 (by decide) ?_
  refine lv_iand hx hb dL_law__39 ?_
  refine lt_i (y := 14) h63 ?_
  refine lv_tableIn (tgt := 1050) hx hb dL_law__40 (by decide) (by decide) rfl (by decide) ?_
  refine lv_aload_n hx hb dL_law__1050 rfl (lv_at hlv 3 rfl) ?_
  refine lv_aload_n hx hb dL_law__1051 rfl (lv_at hlv 4 rfl) ?_
  refine lv_iload hx hb dL_law__1052 (lv_at hlv 0 rfl) ?_
  refine lv_iconst (v := 1) hx hb dL_law__1054 (by decide) ?_
  refine lv_iadd hx hb dL_law__1055 ?_
  refine lt_i (y := 1) (by decide) ?_
  refine va_sld hx hb hX hbl hbA hS (vpd (by decide)) dL_law__1056 ?_
  refine lt_i (y := 2) hv1 ?_
  refine lv_aload_n hx hb dL_law__1057 rfl (lv_at hlv 1 rfl) ?_
  refine cj_i (wr := [(q_2, .inr (12, [.int 0, .ref (u2.1 1), .int 0, .int 0, .int 0, .int 0, .int 0, .int 0, .int (-1), .ref (u2.1 9), .ref (u2.1 10), .ref (u2.1 11), .ref (u2.1 12), .ref (u2.1 13), .ref (u2.1 14), .ref (u2.1 15), .int 0, .int 0, .int 0, .ref (u2.1 19), .ref (u2.1 20), .ref (u2.1 21), .int 0, .ref (u2.1 23), .ref (u2.1 24), .ref (u2.1 25), .ref (u2.1 26), .ref (u2.1 27), .ref (u2.1 28), .int 0, .int 0, .int 0, .int 0, .ref (u2.1 33), .int (-1), .ref (u2.1 35), .int 0, .int 0])), ((u2.1 1), .inl (cy 0, 4, .inl (fun _ => 0))), ((u2.1 12), .inl (cy 0, 389, .inl sF))]) (vx_runSW (As := [.ref q_1, .int 2, .ref q_3]) (rest := []) ⟨hx, hb, hml, hown, hts⟩ (w_sums l hl D cy sa q_1 u1.1 2 q_3 H.size) (vx_cwSW 3 hts gl_w_sums rfl rfl rfl (by decide +kernel) ⟨Nat.le_of_ble_eq_true rfl, Nat.le_of_ble_eq_true rfl⟩) ⟨pcW.blind, (pcW.mk hP hD hS hA hG hT [0, 1, 2, 6] rfl (by decide))⟩ rfl rfl hlv.1 rfl (lv_room (Nat.le_of_ble_eq_true rfl)) dL_law__1058 ⟨Nat.le_of_ble_eq_true rfl, Nat.le_of_ble_eq_true rfl⟩) hP hD hS hA [0, 1, 2, 6] [3, 4, 5] rfl rfl (by decide) (by decide) (fun r3 u3 H locs hw3 hP hD hS => ?_)
  rcases hw3 with ⟨hg3, rfl, he3_0⟩ | ⟨hg3, rfl⟩
  · rw [he3_0] at hP hD
    have hP : va_P D vwCl [(q_2, .inr (12, [.int 0, .ref (u2.1 1), .int 0, .int 0, .int 0, .int 0, .int 0, .int 0, .int (-1), .ref (u2.1 9), .ref (u2.1 10), .ref (u2.1 11), .ref (u2.1 12), .ref (u2.1 13), .ref (u2.1 14), .ref (u2.1 15), .int 0, .int 0, .int 0, .ref (u2.1 19), .ref (u2.1 20), .ref (u2.1 21), .int 0, .ref (u2.1 23), .ref (u2.1 24), .ref (u2.1 25), .ref (u2.1 26), .ref (u2.1 27), .ref (u2.1 28), .int 0, .int 0, .int 0, .int 0, .ref (u2.1 33), .int (-1), .ref (u2.1 35), .int 0, .int 0])), ((u2.1 1), .inl (cy 0, 4, .inl (fun _ => 0))), ((u2.1 12), .inl (cy 0, 389, .inl sF)), (q_3, .inl (cy 2, 1, .inr (.inl (fun _ => (0 : Int32).toInt64))))] H := hP
    have hD : va_D A [(q_2, .inr (12, [.int 0, .ref (u2.1 1), .int 0, .int 0, .int 0, .int 0, .int 0, .int 0, .int (-1), .ref (u2.1 9), .ref (u2.1 10), .ref (u2.1 11), .ref (u2.1 12), .ref (u2.1 13), .ref (u2.1 14), .ref (u2.1 15), .int 0, .int 0, .int 0, .ref (u2.1 19), .ref (u2.1 20), .ref (u2.1 21), .int 0, .ref (u2.1 23), .ref (u2.1 24), .ref (u2.1 25), .ref (u2.1 26), .ref (u2.1 27), .ref (u2.1 28), .int 0, .int 0, .int 0, .int 0, .ref (u2.1 33), .int (-1), .ref (u2.1 35), .int 0, .int 0])), ((u2.1 1), .inl (cy 0, 4, .inl (fun _ => 0))), ((u2.1 12), .inl (cy 0, 389, .inl sF)), (q_3, .inl (cy 2, 1, .inr (.inl (fun _ => (0 : Int32).toInt64))))] := hD
    refine lv_istore (lv' := [(5, .int 0), (4, .int 0), (3, .ref q_3), (2, .ref q_2), (1, .ref q_1), (0, .ref b)]) hx hb dL_law__1061 hlv (by decide) rfl (fun ls hlv => ?_)
    refine lv_aload_n hx hb dL_law__1063 rfl (lv_at hlv 3 rfl) ?_
    refine lv_aload_n hx hb dL_law__1064 rfl (lv_at hlv 5 rfl) ?_
    refine lv_iload hx hb dL_law__1065 (lv_at hlv 1 rfl) ?_
    refine lv_iconst (v := 1) hx hb dL_law__1067 (by decide) ?_
    refine lv_iadd hx hb dL_law__1068 ?_
    refine lt_i (y := 1) (by decide) ?_
    refine va_sld hx hb hX hbl hbA hS (vpd (by decide)) dL_law__1069 ?_
    refine lt_i (y := 2) hv1 ?_
    refine cj_i (wr := [(q_3, .inl (cy 2, 1, .inr (.inl (fun _ => (0 : Int32).toInt64))))]) (va_runV (As := [.int 2]) (rest := []) ⟨hx, hb, hml, hown, hts⟩ (m_sums2 l hl D cy sa q_2 u2.1 H.size) (cwV 1 hts gl_m_sums2 rfl rfl rfl (by decide +kernel) ⟨Nat.le_of_ble_eq_true rfl, Nat.le_of_ble_eq_true rfl⟩) ⟨pcW.blind, (va_recv hG.1 hP (ci := 12) (q0 := 0) rfl rfl), (pcW.mk hP hD hS hA hG hT [0, 1, 2] rfl (by decide))⟩ rfl rfl hlv.1 rfl (lv_room (Nat.le_of_ble_eq_true rfl)) dL_law__1070 ⟨Nat.le_of_ble_eq_true rfl, Nat.le_of_ble_eq_true rfl⟩) hP hD hS hA [0, 1, 2] [3] rfl rfl (by decide) (by decide) (fun r4 u4 H locs hw4 hP hD hS => ?_)
    obtain ⟨rfl, he4_0⟩ := hw4
    rw [he4_0] at hP hD
    have hP : va_P D vwCl [(q_3, .inl (cy 2, 1, .inr (.inl (fun _ => (0 : Int32).toInt64)))), (q_2, .inr (12, [.int 0, .ref (u2.1 1), .int 0, .int 0, .int 0, .int 0, .int 0, .int 0, .int (-1), .ref (u2.1 9), .ref (u2.1 10), .ref (u2.1 11), .ref (u2.1 12), .ref (u2.1 13), .ref (u2.1 14), .ref (u2.1 15), .int 0, .int 0, .int 0, .ref (u2.1 19), .ref (u2.1 20), .ref (u2.1 21), .int 0, .ref (u2.1 23), .ref (u2.1 24), .ref (u2.1 25), .ref (u2.1 26), .ref (u2.1 27), .ref (u2.1 28), .int 0, .int 0, .int 0, .int 0, .ref (u2.1 33), .int (-1), .ref (u2.1 35), .int 0, .int 0]))] H := hP
    have hD : va_D A [(q_3, .inl (cy 2, 1, .inr (.inl (fun _ => (0 : Int32).toInt64)))), (q_2, .inr (12, [.int 0, .ref (u2.1 1), .int 0, .int 0, .int 0, .int 0, .int 0, .int 0, .int (-1), .ref (u2.1 9), .ref (u2.1 10), .ref (u2.1 11), .ref (u2.1 12), .ref (u2.1 13), .ref (u2.1 14), .ref (u2.1 15), .int 0, .int 0, .int 0, .ref (u2.1 19), .ref (u2.1 20), .ref (u2.1 21), .int 0, .ref (u2.1 23), .ref (u2.1 24), .ref (u2.1 25), .ref (u2.1 26), .ref (u2.1 27), .ref (u2.1 28), .int 0, .int 0, .int 0, .int 0, .ref (u2.1 33), .int (-1), .ref (u2.1 35), .int 0, .int 0]))] := hD
    refine lv_istore (lv' := [(6, .int 0), (5, .int 0), (4, .int 0), (3, .ref q_3), (2, .ref q_2), (1, .ref q_1), (0, .ref b)]) hx hb dL_law__1073 hlv (by decide) rfl (fun ls hlv => ?_)
    refine lv_aload_n hx hb dL_law__1075 rfl (lv_at hlv 4 rfl) ?_
    refine cj_i (wr := [(q_3, .inl (cy 2, 1, .inr (.inl (fun _ => (0 : Int32).toInt64))))]) (va_runV (As := []) (rest := []) ⟨hx, hb, hml, hown, hts⟩ (c_thrown l hl D cy sa q_2 u2.1 0 0 0 0 0 0 0 (-1) 0 0 0 0 0 0 0 0 (-1) 0 0 H.size) (cwV 0 hts gl_c_thrown rfl rfl rfl (by decide +kernel) ⟨Nat.le_of_ble_eq_true rfl, Nat.le_of_ble_eq_true rfl⟩) ⟨pcW.blind, (va_recv hG.1 hP (ci := 12) (q0 := 1) rfl rfl), (pcW.mk hP hD hS hA hG hT [1] rfl (by decide))⟩ rfl rfl hlv.1 rfl (lv_room (Nat.le_of_ble_eq_true rfl)) dL_law__1076 ⟨Nat.le_of_ble_eq_true rfl, Nat.le_of_ble_eq_true rfl⟩) hP hD hS hA [1] [0] rfl rfl (by decide) (by decide) (fun r5 u5 H locs hw5 hP hD hS => ?_)
    obtain rfl := hw5
    have hP : va_P D vwCl [(q_3, .inl (cy 2, 1, .inr (.inl (fun _ => (0 : Int32).toInt64))))] H := hP
    have hD : va_D A [(q_3, .inl (cy 2, 1, .inr (.inl (fun _ => (0 : Int32).toInt64))))] := hD
    refine lv_iload hx hb dL_law__1079 (lv_at hlv 1 rfl) ?_
    refine lv_icmp_eq (tgt := 1086) hx hb dL_law__1081 (by decide) (fun _ => ?_) (fun c => absurd (by decide) c)
    refine lv_iload hx hb dL_law__1086 (lv_at hlv 1 rfl) ?_
    refine lv_if_ne (tgt := 1103) hx hb dL_law__1088 (by decide) (fun c => absurd (by decide) c) (fun _ => ?_)
    refine lv_aload_n hx hb dL_law__1091 rfl (lv_at hlv 3 rfl) ?_
    refine lv_iconst (v := 0) hx hb dL_law__1092 (by decide) ?_
    refine va_lald hx hb hG.1 hP 0 2 rfl rfl (vpd (by decide)) dL_law__1093 ?_
    refine ltv (y := .long ((0 : Int32).toInt64)) rfl ?_
    refine lv_iload hx hb dL_law__1094 (lv_at hlv 0 rfl) ?_
    refine lv_i2l (v := (0 : Int32).toInt64) hx hb dL_law__1096 rfl ?_
    refine W.lcmp hx hb dL_law__1097 ?_
    refine lt_i (y := 0) (lcmp_self _) ?_
    refine lv_if_eq (tgt := 1103) hx hb dL_law__1098 (by decide) (fun _ => ?_) (fun c => absurd (by decide) c)
    refine lv_goto (tgt := 2755) hx hb dL_law__1103 (by decide) ?_
    refine lv_iinc (v := 10) (lv' := [(4, .int 10), (6, .int 0), (5, .int 0), (3, .ref q_3), (2, .ref q_2), (1, .ref q_1), (0, .ref b)]) hx hb dL_law__2755 hlv (k := 2) rfl (by decide) (by decide) rfl (fun ls hlv => ?_)
    refine lv_goto (tgt := 23) hx hb dL_law__2758 (by decide) ?_
    refine lv_iload hx hb dL_law__23 (lv_at hlv 0 rfl) ?_
    refine lv_aload_n hx hb dL_law__25 rfl (lv_at hlv 6 rfl) ?_
    refine va_slen hx hb hX hbl hbA hS dL_law__26 ?_
    refine lt_i (y := 10) (by decide) ?_
    refine lv_bipush (v := 10) hx hb dL_law__27 (by decide) ?_
    refine lv_isub hx hb dL_law__29 ?_
    refine lt_i (y := 0) (by decide) ?_
    refine lv_icmp_gt (tgt := 2761) hx hb dL_law__30 (by decide) (fun _ => ?_) (fun c => absurd (by decide) c)
    refine lv_iconst (v := 1) hx hb dL_law__2761 (by decide) ?_
    refine va_forget (fun q hq => by have h9 := hS.2.2 q hq; rw [hAe] at h9; exact h9) ?_
    refine W.widen (k := 600002) (n := 7302232) (Nat.le_of_ble_eq_true rfl) (Nat.le_of_ble_eq_true rfl) ?_
    exact lw_ret hx hb hr hlocks dL_law__2762
  · exact absurd hg3 (fun q => absurd (by decide) q)
set_option maxHeartbeats 4000000 in
set_option maxRecDepth 100000 in
theorem law_sums3 {p : Program} {e : Env} {s : State} {m : MethodId} {below : List Frame} {meth : Method} {c : Code} (l : Launch) (hl : l.stackTraces = false) {b : Nat} {xs : Nat → Int32} {D : va_G} {cy : Nat → ClassId} {sa : Nat → Nat} {A : Nat → Prop} (hAe : A = fun q => s.heap.size ≤ q) (C0 : lw_At p s m meth c b 10 xs) (hG : GC D cy sa s) (hT : TH A s s.heap) (h63 : xs 0 &&& 63 = 14) (hv1 : xs 1 = 3) : W p l e room_1 s m #[Value.ref b] below meth c s.heap [] 0 0 (lw_Z below #[Value.ref b] s) (entryFrame m ([Value.ref b] : List Value).toArray 7) := by
  obtain ⟨hx, hb, hr, hml, hown0, hts0, hX, hbl, hlocks, hgv⟩ := id C0
  have hown : s.vm.findClass RL = some m.cls := hown0
  have hts := hts0
  have hA : ∀ q : Nat, s.heap.size ≤ q → A q := fun q h => by rw [hAe]; exact h
  have hbA : ¬ A b := by rw [hAe]; exact Nat.not_le.mpr hbl
  have hS : va_S A s.heap s.heap [] := va_S.rf
  have hP : va_P D vwCl [] s.heap := fun k q h => by simp at h
  have hD : va_D A [] := ⟨fun i j p q h => by simp at h, fun k q h => by simp at h⟩
  have hl0 := lv_entry ([.ref b]) (n := 7) (Nat.le_of_ble_eq_true rfl)
  rw [lg_entry_eq]
  generalize (lg_sl ([.ref b]) ++ List.replicate (7 - (lg_sl ([.ref b])).length) Slot.unset).toArray = ls at hl0 ⊢
  have hlv : lv_has ls 7 [(0, .ref b)] := hl0
  have cl8 := hts (.classLink RL 8 RX11) lwd_0
  have in11 := hts (.instantiable RX11 14) lwd_1
  have ini11 := hts (.initialized RX11) lwd_2
  have ini_RX11 := hts (.initialized RX11) lwd_2
  have ml117 := hts (.methodLink RL 117 yX11_init) lwd_3
  have im_X11_init := hts (.instanceMethod yX11_init) lwd_4
  have cl118 := hts (.classLink RL 118 RX12) lwd_5
  have in12 := hts (.instantiable RX12 38) lwd_6
  have ini12 := hts (.initialized RX12) lwd_7
  have ini_RX12 := hts (.initialized RX12) lwd_7
  have ml120 := hts (.methodLink RL 120 yX12_init) lwd_8
  have im_X12_init := hts (.instanceMethod yX12_init) lwd_9
  have ac2 := hts (.arrayClass .long) lwd_10
  refine va_new (ci := 11) (fs := [.null, .null, .null, .int 0, .int 0, .null, .null, .null, .null, .null, .int 0, .null, .null, .null]) (C := RX11) (T := TX11) (N := 14) hx hb hts inX11 tyX11 tyX11_ok hown cl8 in11 ini11 hG.1 hP hD hS hA rfl (by decide) (Nat.le_of_ble_eq_true rfl) (Nat.le_of_ble_eq_true rfl) dL_law__0 (fun q_1 H hP hD hS => ?_)
  have hP : va_P D vwCl [(q_1, .inr (11, [.null, .null, .null, .int 0, .int 0, .null, .null, .null, .null, .null, .int 0, .null, .null, .null]))] H := hP
  have hD : va_D A [(q_1, .inr (11, [.null, .null, .null, .int 0, .int 0, .null, .null, .null, .null, .null, .int 0, .null, .null, .null]))] := hD
  refine lv_dup hx hb dL_law__3 rfl ?_
  refine cj_v (wr := []) (va_runI (As := []) (rest := [.ref q_1]) ⟨hx, hb, hml, hown, hts⟩ (c_K_sums3 l hl D cy sa q_1 H.size) (cwI 0 hts gl_X11_init rfl rfl rfl ini_RX11 ml117 im_X11_init rfl (by decide +kernel) ⟨Nat.le_of_ble_eq_true rfl, Nat.le_of_ble_eq_true rfl⟩) ⟨pcW.blind, (pcW.mk hP hD hS hA hG hT [0] rfl (by decide))⟩ rfl rfl hlv.1 rfl (lv_room (Nat.le_of_ble_eq_true rfl)) dL_law__4 ⟨Nat.le_of_ble_eq_true rfl, Nat.le_of_ble_eq_true rfl⟩) hP hD hS hA [0] [] rfl rfl (by decide) (by decide) (fun u1 H locs hw1 hP hD hS => ?_)
  have hP : va_P D vwCl [(q_1, .inr (11, [.ref (u1.1 0), .ref (u1.1 1), .ref (u1.1 2), .int 0, .int 0, .ref (u1.1 5), .ref (u1.1 6), .ref (u1.1 7), .ref (u1.1 8), .ref (u1.1 9), .int 0, .ref (u1.1 11), .ref (u1.1 12), .ref (u1.1 13)])), ((u1.1 5), .inr (6, [.int 0, .int 0, .ref (u1.1 21), .ref (u1.1 22), .int 0, .int 0, .ref (u1.1 23), .int 0, .ref (u1.1 24), .int 0, .int 0, .ref (u1.1 25), .int 0, .ref (u1.1 26), .int 0, .int 0, .int 0, .int 0, .int 0])), ((u1.1 13), .inl (cy 0, 4, .inl (fun _ => 0)))] H := hP
  have hD : va_D A [(q_1, .inr (11, [.ref (u1.1 0), .ref (u1.1 1), .ref (u1.1 2), .int 0, .int 0, .ref (u1.1 5), .ref (u1.1 6), .ref (u1.1 7), .ref (u1.1 8), .ref (u1.1 9), .int 0, .ref (u1.1 11), .ref (u1.1 12), .ref (u1.1 13)])), ((u1.1 5), .inr (6, [.int 0, .int 0, .ref (u1.1 21), .ref (u1.1 22), .int 0, .int 0, .ref (u1.1 23), .int 0, .ref (u1.1 24), .int 0, .int 0, .ref (u1.1 25), .int 0, .ref (u1.1 26), .int 0, .int 0, .int 0, .int 0, .int 0])), ((u1.1 13), .inl (cy 0, 4, .inl (fun _ => 0)))] := hD
  refine lv_astore_n (lv' := [(1, .ref q_1), (0, .ref b)]) hx hb dL_law__7 rfl hlv (by decide) rfl (fun ls hlv => ?_)
  refine va_new (ci := 12) (fs := [.int 0, .null, .int 0, .int 0, .int 0, .int 0, .int 0, .int 0, .int 0, .null, .null, .null, .null, .null, .null, .null, .int 0, .int 0, .int 0, .null, .null, .null, .int 0, .null, .null, .null, .null, .null, .null, .int 0, .int 0, .int 0, .int 0, .null, .int 0, .null, .int 0, .int 0]) (C := RX12) (T := TX12) (N := 38) hx hb hts inX12 tyX12 tyX12_ok hown cl118 in12 ini12 hG.1 hP hD hS hA rfl (by decide) (Nat.le_of_ble_eq_true rfl) (Nat.le_of_ble_eq_true rfl) dL_law__8 (fun q_2 H hP hD hS => ?_)
  have hP : va_P D vwCl [(q_1, .inr (11, [.ref (u1.1 0), .ref (u1.1 1), .ref (u1.1 2), .int 0, .int 0, .ref (u1.1 5), .ref (u1.1 6), .ref (u1.1 7), .ref (u1.1 8), .ref (u1.1 9), .int 0, .ref (u1.1 11), .ref (u1.1 12), .ref (u1.1 13)])), ((u1.1 5), .inr (6, [.int 0, .int 0, .ref (u1.1 21), .ref (u1.1 22), .int 0, .int 0, .ref (u1.1 23), .int 0, .ref (u1.1 24), .int 0, .int 0, .ref (u1.1 25), .int 0, .ref (u1.1 26), .int 0, .int 0, .int 0, .int 0, .int 0])), ((u1.1 13), .inl (cy 0, 4, .inl (fun _ => 0))), (q_2, .inr (12, [.int 0, .null, .int 0, .int 0, .int 0, .int 0, .int 0, .int 0, .int 0, .null, .null, .null, .null, .null, .null, .null, .int 0, .int 0, .int 0, .null, .null, .null, .int 0, .null, .null, .null, .null, .null, .null, .int 0, .int 0, .int 0, .int 0, .null, .int 0, .null, .int 0, .int 0]))] H := hP
  have hD : va_D A [(q_1, .inr (11, [.ref (u1.1 0), .ref (u1.1 1), .ref (u1.1 2), .int 0, .int 0, .ref (u1.1 5), .ref (u1.1 6), .ref (u1.1 7), .ref (u1.1 8), .ref (u1.1 9), .int 0, .ref (u1.1 11), .ref (u1.1 12), .ref (u1.1 13)])), ((u1.1 5), .inr (6, [.int 0, .int 0, .ref (u1.1 21), .ref (u1.1 22), .int 0, .int 0, .ref (u1.1 23), .int 0, .ref (u1.1 24), .int 0, .int 0, .ref (u1.1 25), .int 0, .ref (u1.1 26), .int 0, .int 0, .int 0, .int 0, .int 0])), ((u1.1 13), .inl (cy 0, 4, .inl (fun _ => 0))), (q_2, .inr (12, [.int 0, .null, .int 0, .int 0, .int 0, .int 0, .int 0, .int 0, .int 0, .null, .null, .null, .null, .null, .null, .null, .int 0, .int 0, .int 0, .null, .null, .null, .int 0, .null, .null, .null, .null, .null, .null, .int 0, .int 0, .int 0, .int 0, .null, .int 0, .null, .int 0, .int 0]))] := hD
  refine lv_dup hx hb dL_law__11 rfl ?_
  refine cj_v (wr := [(q_1, .inr (11, [.ref (u1.1 0), .ref (u1.1 1), .ref (u1.1 2), .int 0, .int 0, .ref (u1.1 5), .ref (u1.1 6), .ref (u1.1 7), .ref (u1.1 8), .ref (u1.1 9), .int 0, .ref (u1.1 11), .ref (u1.1 12), .ref (u1.1 13)])), ((u1.1 5), .inr (6, [.int 0, .int 0, .ref (u1.1 21), .ref (u1.1 22), .int 0, .int 0, .ref (u1.1 23), .int 0, .ref (u1.1 24), .int 0, .int 0, .ref (u1.1 25), .int 0, .ref (u1.1 26), .int 0, .int 0, .int 0, .int 0, .int 0])), ((u1.1 13), .inl (cy 0, 4, .inl (fun _ => 0)))]) (va_runI (As := []) (rest := [.ref q_2]) ⟨hx, hb, hml, hown, hts⟩ (c_M_sums3 l hl D cy sa q_2 H.size) (cwI 0 hts gl_X12_init rfl rfl rfl ini_RX12 ml120 im_X12_init rfl (by decide +kernel) ⟨Nat.le_of_ble_eq_true rfl, Nat.le_of_ble_eq_true rfl⟩) ⟨pcW.blind, (pcW.mk hP hD hS hA hG hT [3] rfl (by decide))⟩ rfl rfl hlv.1 rfl (lv_room (Nat.le_of_ble_eq_true rfl)) dL_law__12 ⟨Nat.le_of_ble_eq_true rfl, Nat.le_of_ble_eq_true rfl⟩) hP hD hS hA [3] [0, 1, 2] rfl rfl (by decide) (by decide) (fun u2 H locs hw2 hP hD hS => ?_)
  have hP : va_P D vwCl [(q_1, .inr (11, [.ref (u1.1 0), .ref (u1.1 1), .ref (u1.1 2), .int 0, .int 0, .ref (u1.1 5), .ref (u1.1 6), .ref (u1.1 7), .ref (u1.1 8), .ref (u1.1 9), .int 0, .ref (u1.1 11), .ref (u1.1 12), .ref (u1.1 13)])), ((u1.1 5), .inr (6, [.int 0, .int 0, .ref (u1.1 21), .ref (u1.1 22), .int 0, .int 0, .ref (u1.1 23), .int 0, .ref (u1.1 24), .int 0, .int 0, .ref (u1.1 25), .int 0, .ref (u1.1 26), .int 0, .int 0, .int 0, .int 0, .int 0])), ((u1.1 13), .inl (cy 0, 4, .inl (fun _ => 0))), (q_2, .inr (12, [.int 0, .ref (u2.1 1), .int 0, .int 0, .int 0, .int 0, .int 0, .int 0, .int (-1), .ref (u2.1 9), .ref (u2.1 10), .ref (u2.1 11), .ref (u2.1 12), .ref (u2.1 13), .ref (u2.1 14), .ref (u2.1 15), .int 0, .int 0, .int 0, .ref (u2.1 19), .ref (u2.1 20), .ref (u2.1 21), .int 0, .ref (u2.1 23), .ref (u2.1 24), .ref (u2.1 25), .ref (u2.1 26), .ref (u2.1 27), .ref (u2.1 28), .int 0, .int 0, .int 0, .int 0, .ref (u2.1 33), .int (-1), .ref (u2.1 35), .int 0, .int 0])), ((u2.1 1), .inl (cy 0, 4, .inl (fun _ => 0))), ((u2.1 12), .inl (cy 0, 389, .inl sF))] H := hP
  have hD : va_D A [(q_1, .inr (11, [.ref (u1.1 0), .ref (u1.1 1), .ref (u1.1 2), .int 0, .int 0, .ref (u1.1 5), .ref (u1.1 6), .ref (u1.1 7), .ref (u1.1 8), .ref (u1.1 9), .int 0, .ref (u1.1 11), .ref (u1.1 12), .ref (u1.1 13)])), ((u1.1 5), .inr (6, [.int 0, .int 0, .ref (u1.1 21), .ref (u1.1 22), .int 0, .int 0, .ref (u1.1 23), .int 0, .ref (u1.1 24), .int 0, .int 0, .ref (u1.1 25), .int 0, .ref (u1.1 26), .int 0, .int 0, .int 0, .int 0, .int 0])), ((u1.1 13), .inl (cy 0, 4, .inl (fun _ => 0))), (q_2, .inr (12, [.int 0, .ref (u2.1 1), .int 0, .int 0, .int 0, .int 0, .int 0, .int 0, .int (-1), .ref (u2.1 9), .ref (u2.1 10), .ref (u2.1 11), .ref (u2.1 12), .ref (u2.1 13), .ref (u2.1 14), .ref (u2.1 15), .int 0, .int 0, .int 0, .ref (u2.1 19), .ref (u2.1 20), .ref (u2.1 21), .int 0, .ref (u2.1 23), .ref (u2.1 24), .ref (u2.1 25), .ref (u2.1 26), .ref (u2.1 27), .ref (u2.1 28), .int 0, .int 0, .int 0, .int 0, .ref (u2.1 33), .int (-1), .ref (u2.1 35), .int 0, .int 0])), ((u2.1 1), .inl (cy 0, 4, .inl (fun _ => 0))), ((u2.1 12), .inl (cy 0, 389, .inl sF))] := hD
  refine lv_astore_n (lv' := [(2, .ref q_2), (1, .ref q_1), (0, .ref b)]) hx hb dL_law__15 rfl hlv (by decide) rfl (fun ls hlv => ?_)
  refine lv_iconst (v := 1) hx hb dL_law__16 (by decide) ?_
  refine nw_a (atype := .long) (cy := cy) (a0 := (1, .inr (.inl (fun _ => 0)))) (N' := 1) hx hb ac2 (ty := .long) rfl 2 rfl (fun C h => nomatch h) hG.1 hP hD hS hA (fun cA => rfl) (by decide) (by decide) (Nat.le_of_ble_eq_true rfl) (Nat.le_of_ble_eq_true rfl) (Nat.le_of_ble_eq_true rfl) dL_law__17 (fun q_3 H hP hD hS => ?_)
  have hP : va_P D vwCl [(q_1, .inr (11, [.ref (u1.1 0), .ref (u1.1 1), .ref (u1.1 2), .int 0, .int 0, .ref (u1.1 5), .ref (u1.1 6), .ref (u1.1 7), .ref (u1.1 8), .ref (u1.1 9), .int 0, .ref (u1.1 11), .ref (u1.1 12), .ref (u1.1 13)])), ((u1.1 5), .inr (6, [.int 0, .int 0, .ref (u1.1 21), .ref (u1.1 22), .int 0, .int 0, .ref (u1.1 23), .int 0, .ref (u1.1 24), .int 0, .int 0, .ref (u1.1 25), .int 0, .ref (u1.1 26), .int 0, .int 0, .int 0, .int 0, .int 0])), ((u1.1 13), .inl (cy 0, 4, .inl (fun _ => 0))), (q_2, .inr (12, [.int 0, .ref (u2.1 1), .int 0, .int 0, .int 0, .int 0, .int 0, .int 0, .int (-1), .ref (u2.1 9), .ref (u2.1 10), .ref (u2.1 11), .ref (u2.1 12), .ref (u2.1 13), .ref (u2.1 14), .ref (u2.1 15), .int 0, .int 0, .int 0, .ref (u2.1 19), .ref (u2.1 20), .ref (u2.1 21), .int 0, .ref (u2.1 23), .ref (u2.1 24), .ref (u2.1 25), .ref (u2.1 26), .ref (u2.1 27), .ref (u2.1 28), .int 0, .int 0, .int 0, .int 0, .ref (u2.1 33), .int (-1), .ref (u2.1 35), .int 0, .int 0])), ((u2.1 1), .inl (cy 0, 4, .inl (fun _ => 0))), ((u2.1 12), .inl (cy 0, 389, .inl sF)), (q_3, .inl (cy 2, 1, .inr (.inl (fun _ => 0))))] H := hP
  have hD : va_D A [(q_1, .inr (11, [.ref (u1.1 0), .ref (u1.1 1), .ref (u1.1 2), .int 0, .int 0, .ref (u1.1 5), .ref (u1.1 6), .ref (u1.1 7), .ref (u1.1 8), .ref (u1.1 9), .int 0, .ref (u1.1 11), .ref (u1.1 12), .ref (u1.1 13)])), ((u1.1 5), .inr (6, [.int 0, .int 0, .ref (u1.1 21), .ref (u1.1 22), .int 0, .int 0, .ref (u1.1 23), .int 0, .ref (u1.1 24), .int 0, .int 0, .ref (u1.1 25), .int 0, .ref (u1.1 26), .int 0, .int 0, .int 0, .int 0, .int 0])), ((u1.1 13), .inl (cy 0, 4, .inl (fun _ => 0))), (q_2, .inr (12, [.int 0, .ref (u2.1 1), .int 0, .int 0, .int 0, .int 0, .int 0, .int 0, .int (-1), .ref (u2.1 9), .ref (u2.1 10), .ref (u2.1 11), .ref (u2.1 12), .ref (u2.1 13), .ref (u2.1 14), .ref (u2.1 15), .int 0, .int 0, .int 0, .ref (u2.1 19), .ref (u2.1 20), .ref (u2.1 21), .int 0, .ref (u2.1 23), .ref (u2.1 24), .ref (u2.1 25), .ref (u2.1 26), .ref (u2.1 27), .ref (u2.1 28), .int 0, .int 0, .int 0, .int 0, .ref (u2.1 33), .int (-1), .ref (u2.1 35), .int 0, .int 0])), ((u2.1 1), .inl (cy 0, 4, .inl (fun _ => 0))), ((u2.1 12), .inl (cy 0, 389, .inl sF)), (q_3, .inl (cy 2, 1, .inr (.inl (fun _ => 0))))] := hD
  refine lv_astore_n (lv' := [(3, .ref q_3), (2, .ref q_2), (1, .ref q_1), (0, .ref b)]) hx hb dL_law__19 rfl hlv (by decide) rfl (fun ls hlv => ?_)
  refine lv_iconst (v := 0) hx hb dL_law__20 (by decide) ?_
  refine lv_istore (lv' := [(4, .int 0), (3, .ref q_3), (2, .ref q_2), (1, .ref q_1), (0, .ref b)]) hx hb dL_law__21 hlv (by decide) rfl (fun ls hlv => ?_)
  refine lv_iload hx hb dL_law__23 (lv_at hlv 0 rfl) ?_
  refine lv_aload_n hx hb dL_law__25 rfl (lv_at hlv 4 rfl) ?_
  refine va_slen hx hb hX hbl hbA hS dL_law__26 ?_
  refine lt_i (y := 10) (by decide) ?_
  refine lv_bipush (v := 10) hx hb dL_law__27 (by decide) ?_
  refine lv_isub hx hb dL_law__29 ?_
  refine lt_i (y := 0) (by decide) ?_
  refine lv_icmp_gt (tgt := 2761) hx hb dL_law__30 (by decide) (fun c => absurd c (by decide)) (fun _ => ?_)
  refine lv_aload_n hx hb dL_law__33 rfl (lv_at hlv 4 rfl) ?_
  refine lv_iload hx hb dL_law__34 (lv_at hlv 0 rfl) ?_
  refine va_sld hx hb hX hbl hbA hS (vpd (by decide)) dL_law__36 ?_
  refine lt_i (y := xs 0) rfl ?_
  refine lv_bipush (v := 63) hx hb dL_law__37 (by decide) ?_
  refine lv_iand hx hb dL_law__39 ?_
  refine lt_i (y := 14) h63 ?_
  refine lv_tableIn (tgt := 1050) hx hb dL_law__40 (by decide) (by decide) rfl (by decide) ?_
  refine lv_aload_n hx hb dL_law__1050 rfl (lv_at hlv 3 rfl) ?_
  refine lv_aload_n hx hb dL_law__1051 rfl (lv_at hlv 4 rfl) ?_
  refine lv_iload hx hb dL_law__1052 (lv_at hlv 0 rfl) ?_
  refine lv_iconst (v := 1) hx hb dL_law__1054 (by decide) ?_
  refine lv_iadd hx hb dL_law__1055 ?_
  refine lt_i (y := 1) (by decide) ?_
  refine va_sld hx hb hX hbl hbA hS (vpd (by decide)) dL_law__1056 ?_
  refine lt_i (y := 3) hv1 ?_
  refine lv_aload_n hx hb dL_law__1057 rfl (lv_at hlv 1 rfl) ?_
  refine cj_i (wr := [(q_2, .inr (12, [.int 0, .ref (u2.1 1), .int 0, .int 0, .int 0, .int 0, .int 0, .int 0, .int (-1), .ref (u2.1 9), .ref (u2.1 10), .ref (u2.1 11), .ref (u2.1 12), .ref (u2.1 13), .ref (u2.1 14), .ref (u2.1 15), .int 0, .int 0, .int 0, .ref (u2.1 19), .ref (u2.1 20), .ref (u2.1 21), .int 0, .ref (u2.1 23), .ref (u2.1 24), .ref (u2.1 25), .ref (u2.1 26), .ref (u2.1 27), .ref (u2.1 28), .int 0, .int 0, .int 0, .int 0, .ref (u2.1 33), .int (-1), .ref (u2.1 35), .int 0, .int 0])), ((u2.1 1), .inl (cy 0, 4, .inl (fun _ => 0))), ((u2.1 12), .inl (cy 0, 389, .inl sF))]) (vx_runSW (As := [.ref q_1, .int 3, .ref q_3]) (rest := []) ⟨hx, hb, hml, hown, hts⟩ (w_sums l hl D cy sa q_1 u1.1 3 q_3 H.size) (vx_cwSW 3 hts gl_w_sums rfl rfl rfl (by decide +kernel) ⟨Nat.le_of_ble_eq_true rfl, Nat.le_of_ble_eq_true rfl⟩) ⟨pcW.blind, (pcW.mk hP hD hS hA hG hT [0, 1, 2, 6] rfl (by decide))⟩ rfl rfl hlv.1 rfl (lv_room (Nat.le_of_ble_eq_true rfl)) dL_law__1058 ⟨Nat.le_of_ble_eq_true rfl, Nat.le_of_ble_eq_true rfl⟩) hP hD hS hA [0, 1, 2, 6] [3, 4, 5] rfl rfl (by decide) (by decide) (fun r3 u3 H locs hw3 hP hD hS => ?_)
  rcases hw3 with ⟨hg3, rfl, he3_0⟩ | ⟨hg3, rfl⟩
  · rw [he3_0] at hP hD
    have hP : va_P D vwCl [(q_2, .inr (12, [.int 0, .ref (u2.1 1), .int 0, .int 0, .int 0, .int 0, .int 0, .int 0, .int (-1), .ref (u2.1 9), .ref (u2.1 10), .ref (u2.1 11), .ref (u2.1 12), .ref (u2.1 13), .ref (u2.1 14), .ref (u2.1 15), .int 0, .int 0, .int 0, .ref (u2.1 19), .ref (u2.1 20), .ref (u2.1 21), .int 0, .ref (u2.1 23), .ref (u2.1 24), .ref (u2.1 25), .ref (u2.1 26), .ref (u2.1 27), .ref (u2.1 28), .int 0, .int 0, .int 0, .int 0, .ref (u2.1 33), .int (-1), .ref (u2.1 35), .int 0, .int 0])), ((u2.1 1), .inl (cy 0, 4, .inl (fun _ => 0))), ((u2.1 12), .inl (cy 0, 389, .inl sF)), (q_3, .inl (cy 2, 1, .inr (.inl (fun _ => (0 : Int32).toInt64))))] H := hP
    have hD : va_D A [(q_2, .inr (12, [.int 0, .ref (u2.1 1), .int 0, .int 0, .int 0, .int 0, .int 0, .int 0, .int (-1), .ref (u2.1 9), .ref (u2.1 10), .ref (u2.1 11), .ref (u2.1 12), .ref (u2.1 13), .ref (u2.1 14), .ref (u2.1 15), .int 0, .int 0, .int 0, .ref (u2.1 19), .ref (u2.1 20), .ref (u2.1 21), .int 0, .ref (u2.1 23), .ref (u2.1 24), .ref (u2.1 25), .ref (u2.1 26), .ref (u2.1 27), .ref (u2.1 28), .int 0, .int 0, .int 0, .int 0, .ref (u2.1 33), .int (-1), .ref (u2.1 35), .int 0, .int 0])), ((u2.1 1), .inl (cy 0, 4, .inl (fun _ => 0))), ((u2.1 12), .inl (cy 0, 389, .inl sF)), (q_3, .inl (cy 2, 1, .inr (.inl (fun _ => (0 : Int32).toInt64))))] := hD
    refine lv_istore (lv' := [(5, .int 0), (4, .int 0), (3, .ref q_3), (2, .ref q_2), (1, .ref q_1), (0, .ref b)]) hx hb dL_law__1061 hlv (by decide) rfl (fun ls hlv => ?_)
    refine lv_aload_n hx hb dL_law__1063 rfl (lv_at hlv 3 rfl) ?_
    refine lv_aload_n hx hb dL_law__1064 rfl (lv_at hlv 5 rfl) ?_
    refine lv_iload hx hb dL_law__1065 (lv_at hlv 1 rfl) ?_
    refine lv_iconst (v := 1) hx hb dL_law__1067 (by decide) ?_
    refine lv_iadd hx hb dL_law__1068 ?_
    refine lt_i (y := 1) (by decide) ?_
    refine va_sld hx hb hX hbl hbA hS (vpd (by decide)) dL_law__1069 ?_
    refine lt_i (y := 3) hv1 ?_
    refine cj_i (wr := [(q_3, .inl (cy 2, 1, .inr (.inl (fun _ => (0 : Int32).toInt64))))]) (va_runV (As := [.int 3]) (rest := []) ⟨hx, hb, hml, hown, hts⟩ (m_sums3 l hl D cy sa q_2 u2.1 H.size) (cwV 1 hts gl_m_sums3 rfl rfl rfl (by decide +kernel) ⟨Nat.le_of_ble_eq_true rfl, Nat.le_of_ble_eq_true rfl⟩) ⟨pcW.blind, (va_recv hG.1 hP (ci := 12) (q0 := 0) rfl rfl), (pcW.mk hP hD hS hA hG hT [0, 1, 2] rfl (by decide))⟩ rfl rfl hlv.1 rfl (lv_room (Nat.le_of_ble_eq_true rfl)) dL_law__1070 ⟨Nat.le_of_ble_eq_true rfl, Nat.le_of_ble_eq_true rfl⟩) hP hD hS hA [0, 1, 2] [3] rfl rfl (by decide) (by decide) (fun r4 u4 H locs hw4 hP hD hS => ?_)
    obtain ⟨rfl, he4_0⟩ := hw4
    rw [he4_0] at hP hD
    have hP : va_P D vwCl [(q_3, .inl (cy 2, 1, .inr (.inl (fun _ => (0 : Int32).toInt64)))), (q_2, .inr (12, [.int 0, .ref (u2.1 1), .int 0, .int 0, .int 0, .int 0, .int 0, .int 0, .int (-1), .ref (u2.1 9), .ref (u2.1 10), .ref (u2.1 11), .ref (u2.1 12), .ref (u2.1 13), .ref (u2.1 14), .ref (u2.1 15), .int 0, .int 0, .int 0, .ref (u2.1 19), .ref (u2.1 20), .ref (u2.1 21), .int 0, .ref (u2.1 23), .ref (u2.1 24), .ref (u2.1 25), .ref (u2.1 26), .ref (u2.1 27), .ref (u2.1 28), .int 0, .int 0, .int 0, .int 0, .ref (u2.1 33), .int (-1), .ref (u2.1 35), .int 0, .int 0]))] H := hP
    have hD : va_D A [(q_3, .inl (cy 2, 1, .inr (.inl (fun _ => (0 : Int32).toInt64)))), (q_2, .inr (12, [.int 0, .ref (u2.1 1), .int 0, .int 0, .int 0, .int 0, .int 0, .int 0, .int (-1), .ref (u2.1 9), .ref (u2.1 10), .ref (u2.1 11), .ref (u2.1 12), .ref (u2.1 13), .ref (u2.1 14), .ref (u2.1 15), .int 0, .int 0, .int 0, .ref (u2.1 19), .ref (u2.1 20), .ref (u2.1 21), .int 0, .ref (u2.1 23), .ref (u2.1 24), .ref (u2.1 25), .ref (u2.1 26), .ref (u2.1 27), .ref (u2.1 28), .int 0, .int 0, .int 0, .int 0, .ref (u2.1 33), .int (-1), .ref (u2.1 35), .int 0, .int 0]))] := hD
    refine lv_istore (lv' := [(6, .int 0), (5, .int 0), (4, .int 0), (3, .ref q_3), (2, .ref q_2), (1, .ref q_1), (0, .ref b)]) hx hb dL_law__1073 hlv (by decide) rfl (fun ls hlv => ?_)
    refine lv_aload_n hx hb dL_law__1075 rfl (lv_at hlv 4 rfl) ?_
    refine cj_i (wr := [(q_3, .inl (cy 2, 1, .inr (.inl (fun _ => (0 : Int32).toInt64))))]) (va_runV (As := []) (rest := []) ⟨hx, hb, hml, hown, hts⟩ (c_thrown l hl D cy sa q_2 u2.1 0 0 0 0 0 0 0 (-1) 0 0 0 0 0 0 0 0 (-1) 0 0 H.size) (cwV 0 hts gl_c_thrown rfl rfl rfl (by decide +kernel) ⟨Nat.le_of_ble_eq_true rfl, Nat.le_of_ble_eq_true rfl⟩) ⟨pcW.blind, (va_recv hG.1 hP (ci := 12) (q0 := 1) rfl rfl), (pcW.mk hP hD hS hA hG hT [1] rfl (by decide))⟩ rfl rfl hlv.1 rfl (lv_room (Nat.le_of_ble_eq_true rfl)) dL_law__1076 ⟨Nat.le_of_ble_eq_true rfl, Nat.le_of_ble_eq_true rfl⟩) hP hD hS hA [1] [0] rfl rfl (by decide) (by decide) (fun r5 u5 H locs hw5 hP hD hS => ?_)
    obtain rfl := hw5
    have hP : va_P D vwCl [(q_3, .inl (cy 2, 1, .inr (.inl (fun _ => (0 : Int32).toInt64))))] H := hP
    have hD : va_D A [(q_3, .inl (cy 2, 1, .inr (.inl (fun _ => (0 : Int32).toInt64))))] := hD
    refine lv_iload hx hb dL_law__1079 (lv_at hlv 1 rfl) ?_
    refine lv_icmp_eq (tgt := 1086) hx hb dL_law__1081 (by decide) (fun _ => ?_) (fun c => absurd (by decide) c)
    refine lv_iload hx hb dL_law__1086 (lv_at hlv 1 rfl) ?_
    refine lv_if_ne (tgt := 1103) hx hb dL_law__1088 (by decide) (fun c => absurd (by decide) c) (fun _ => ?_)
    refine lv_aload_n hx hb dL_law__1091 rfl (lv_at hlv 3 rfl) ?_
    refine lv_iconst (v := 0) hx hb dL_law__1092 (by decide) ?_
    refine va_lald hx hb hG.1 hP 0 2 rfl rfl (vpd (by decide)) dL_law__1093 ?_
    refine ltv (y := .long ((0 : Int32).toInt64)) rfl ?_
    refine lv_iload hx hb dL_law__1094 (lv_at hlv 0 rfl) ?_
    refine lv_i2l (v := (0 : Int32).toInt64) hx hb dL_law__1096 rfl ?_
    refine W.lcmp hx hb dL_law__1097 ?_
    refine lt_i (y := 0) (lcmp_self _) ?_
    refine lv_if_eq (tgt := 1103) hx hb dL_law__1098 (by decide) (fun _ => ?_) (fun c => absurd (by decide) c)
    refine lv_goto (tgt := 2755) hx hb dL_law__1103 (by decide) ?_
    refine lv_iinc (v := 10) (lv' := [(4, .int 10), (6, .int 0), (5, .int 0), (3, .ref q_3), (2, .ref q_2), (1, .ref q_1), (0, .ref b)]) hx hb dL_law__2755 hlv (k := 2) rfl (by decide) (by decide) rfl (fun ls hlv => ?_)
    refine lv_goto (tgt := 23) hx hb dL_law__2758 (by decide) ?_
    refine lv_iload hx hb dL_law__23 (lv_at hlv 0 rfl) ?_
    refine lv_aload_n hx hb dL_law__25 rfl (lv_at hlv 6 rfl) ?_
    refine va_slen hx hb hX hbl hbA hS dL_law__26 ?_
    refine lt_i (y := 10) (by decide) ?_
    refine lv_bipush (v := 10) hx hb dL_law__27 (by decide) ?_
    refine lv_isub hx hb dL_law__29 ?_
    refine lt_i (y := 0) (by decide) ?_
    refine lv_icmp_gt (tgt := 2761) hx hb dL_law__30 (by decide) (fun _ => ?_) (fun c => absurd (by decide) c)
    refine lv_iconst (v := 1) hx hb dL_law__2761 (by decide) ?_
    refine va_forget (fun q hq => by have h9 := hS.2.2 q hq; rw [hAe] at h9; exact h9) ?_
    refine W.widen (k := 600002) (n := 7302232) (Nat.le_of_ble_eq_true rfl) (Nat.le_of_ble_eq_true rfl) ?_
    exact lw_ret hx hb hr hlocks dL_law__2762
  · exact absurd hg3 (fun q => absurd (by decide) q)
set_option maxHeartbeats 4000000 in
set_option maxRecDepth 100000 in
theorem law_sumsx {p : Program} {e : Env} {s : State} {m : MethodId} {below : List Frame} {meth : Method} {c : Code} (l : Launch) (hl : l.stackTraces = false) {b : Nat} {xs : Nat → Int32} {D : va_G} {cy : Nat → ClassId} {sa : Nat → Nat} {A : Nat → Prop} (hAe : A = fun q => s.heap.size ≤ q) (C0 : lw_At p s m meth c b 10 xs) (hG : GC D cy sa s) (hT : TH A s s.heap) (h63 : xs 0 &&& 63 = 14) (hv : ¬ (0 ≤ (xs 1) ∧ (xs 1) ≤ 3)) : W p l e room_1 s m #[Value.ref b] below meth c s.heap [] 0 0 (lw_Z below #[Value.ref b] s) (entryFrame m ([Value.ref b] : List Value).toArray 7) := by
  obtain ⟨hx, hb, hr, hml, hown0, hts0, hX, hbl, hlocks, hgv⟩ := id C0
  have hown : s.vm.findClass RL = some m.cls := hown0
  have hts := hts0
  have hA : ∀ q : Nat, s.heap.size ≤ q → A q := fun q h => by rw [hAe]; exact h
  have hbA : ¬ A b := by rw [hAe]; exact Nat.not_le.mpr hbl
  have hS : va_S A s.heap s.heap [] := va_S.rf
  have hP : va_P D vwCl [] s.heap := fun k q h => by simp at h
  have hD : va_D A [] := ⟨fun i j p q h => by simp at h, fun k q h => by simp at h⟩
  have hl0 := lv_entry ([.ref b]) (n := 7) (Nat.le_of_ble_eq_true rfl)
  rw [lg_entry_eq]
  generalize (lg_sl ([.ref b]) ++ List.replicate (7 - (lg_sl ([.ref b])).length) Slot.unset).toArray = ls at hl0 ⊢
  have hlv : lv_has ls 7 [(0, .ref b)] := hl0
  have cl8 := hts (.classLink RL 8 RX11) lwd_0
  have in11 := hts (.instantiable RX11 14) lwd_1
  have ini11 := hts (.initialized RX11) lwd_2
  have ini_RX11 := hts (.initialized RX11) lwd_2
  have ml117 := hts (.methodLink RL 117 yX11_init) lwd_3
  have im_X11_init := hts (.instanceMethod yX11_init) lwd_4
  have cl118 := hts (.classLink RL 118 RX12) lwd_5
  have in12 := hts (.instantiable RX12 38) lwd_6
  have ini12 := hts (.initialized RX12) lwd_7
  have ini_RX12 := hts (.initialized RX12) lwd_7
  have ml120 := hts (.methodLink RL 120 yX12_init) lwd_8
  have im_X12_init := hts (.instanceMethod yX12_init) lwd_9
  have ac2 := hts (.arrayClass .long) lwd_10
  refine va_new (ci := 11) (fs := [.null, .null, .null, .int 0, .int 0, .null, .null, .null, .null, .null, .int 0, .null, .null, .null]) (C := RX11) (T := TX11) (N := 14) hx hb hts inX11 tyX11 tyX11_ok hown cl8 in11 ini11 hG.1 hP hD hS hA rfl (by decide) (Nat.le_of_ble_eq_true rfl) (Nat.le_of_ble_eq_true rfl) dL_law__0 (fun q_1 H hP hD hS => ?_)
  have hP : va_P D vwCl [(q_1, .inr (11, [.null, .null, .null, .int 0, .int 0, .null, .null, .null, .null, .null, .int 0, .null, .null, .null]))] H := hP
  have hD : va_D A [(q_1, .inr (11, [.null, .null, .null, .int 0, .int 0, .null, .null, .null, .null, .null, .int 0, .null, .null, .null]))] := hD
  refine lv_dup hx hb dL_law__3 rfl ?_
  refine cj_v (wr := []) (va_runI (As := []) (rest := [.ref q_1]) ⟨hx, hb, hml, hown, hts⟩ (c_K_sumsx l hl D cy sa q_1 H.size) (cwI 0 hts gl_X11_init rfl rfl rfl ini_RX11 ml117 im_X11_init rfl (by decide +kernel) ⟨Nat.le_of_ble_eq_true rfl, Nat.le_of_ble_eq_true rfl⟩) ⟨pcW.blind, (pcW.mk hP hD hS hA hG hT [0] rfl (by decide))⟩ rfl rfl hlv.1 rfl (lv_room (Nat.le_of_ble_eq_true rfl)) dL_law__4 ⟨Nat.le_of_ble_eq_true rfl, Nat.le_of_ble_eq_true rfl⟩) hP hD hS hA [0] [] rfl rfl (by decide) (by decide) (fun u1 H locs hw1 hP hD hS => ?_)
  have hP : va_P D vwCl [(q_1, .inr (11, [.ref (u1.1 0), .ref (u1.1 1), .ref (u1.1 2), .int 0, .int 0, .ref (u1.1 5), .ref (u1.1 6), .ref (u1.1 7), .ref (u1.1 8), .ref (u1.1 9), .int 0, .ref (u1.1 11), .ref (u1.1 12), .ref (u1.1 13)])), ((u1.1 5), .inr (6, [.int 0, .int 0, .ref (u1.1 21), .ref (u1.1 22), .int 0, .int 0, .ref (u1.1 23), .int 0, .ref (u1.1 24), .int 0, .int 0, .ref (u1.1 25), .int 0, .ref (u1.1 26), .int 0, .int 0, .int 0, .int 0, .int 0])), ((u1.1 13), .inl (cy 0, 4, .inl (fun _ => 0)))] H := hP
  have hD : va_D A [(q_1, .inr (11, [.ref (u1.1 0), .ref (u1.1 1), .ref (u1.1 2), .int 0, .int 0, .ref (u1.1 5), .ref (u1.1 6), .ref (u1.1 7), .ref (u1.1 8), .ref (u1.1 9), .int 0, .ref (u1.1 11), .ref (u1.1 12), .ref (u1.1 13)])), ((u1.1 5), .inr (6, [.int 0, .int 0, .ref (u1.1 21), .ref (u1.1 22), .int 0, .int 0, .ref (u1.1 23), .int 0, .ref (u1.1 24), .int 0, .int 0, .ref (u1.1 25), .int 0, .ref (u1.1 26), .int 0, .int 0, .int 0, .int 0, .int 0])), ((u1.1 13), .inl (cy 0, 4, .inl (fun _ => 0)))] := hD
  refine lv_astore_n (lv' := [(1, .ref q_1), (0, .ref b)]) hx hb dL_law__7 rfl hlv (by decide) rfl (fun ls hlv => ?_)
  refine va_new (ci := 12) (fs := [.int 0, .null, .int 0, .int 0, .int 0, .int 0, .int 0, .int 0, .int 0, .null, .null, .null, .null, .null, .null, .null, .int 0, .int 0, .int 0, .null, .null, .null, .int 0, .null, .null, .null, .null, .null, .null, .int 0, .int 0, .int 0, .int 0, .null, .int 0, .null, .int 0, .int 0]) (C := RX12) (T := TX12) (N := 38) hx hb hts inX12 tyX12 tyX12_ok hown cl118 in12 ini12 hG.1 hP hD hS hA rfl (by decide) (Nat.le_of_ble_eq_true rfl) (Nat.le_of_ble_eq_true rfl) dL_law__8 (fun q_2 H hP hD hS => ?_)
  have hP : va_P D vwCl [(q_1, .inr (11, [.ref (u1.1 0), .ref (u1.1 1), .ref (u1.1 2), .int 0, .int 0, .ref (u1.1 5), .ref (u1.1 6), .ref (u1.1 7), .ref (u1.1 8), .ref (u1.1 9), .int 0, .ref (u1.1 11), .ref (u1.1 12), .ref (u1.1 13)])), ((u1.1 5), .inr (6, [.int 0, .int 0, .ref (u1.1 21), .ref (u1.1 22), .int 0, .int 0, .ref (u1.1 23), .int 0, .ref (u1.1 24), .int 0, .int 0, .ref (u1.1 25), .int 0, .ref (u1.1 26), .int 0, .int 0, .int 0, .int 0, .int 0])), ((u1.1 13), .inl (cy 0, 4, .inl (fun _ => 0))), (q_2, .inr (12, [.int 0, .null, .int 0, .int 0, .int 0, .int 0, .int 0, .int 0, .int 0, .null, .null, .null, .null, .null, .null, .null, .int 0, .int 0, .int 0, .null, .null, .null, .int 0, .null, .null, .null, .null, .null, .null, .int 0, .int 0, .int 0, .int 0, .null, .int 0, .null, .int 0, .int 0]))] H := hP
  have hD : va_D A [(q_1, .inr (11, [.ref (u1.1 0), .ref (u1.1 1), .ref (u1.1 2), .int 0, .int 0, .ref (u1.1 5), .ref (u1.1 6), .ref (u1.1 7), .ref (u1.1 8), .ref (u1.1 9), .int 0, .ref (u1.1 11), .ref (u1.1 12), .ref (u1.1 13)])), ((u1.1 5), .inr (6, [.int 0, .int 0, .ref (u1.1 21), .ref (u1.1 22), .int 0, .int 0, .ref (u1.1 23), .int 0, .ref (u1.1 24), .int 0, .int 0, .ref (u1.1 25), .int 0, .ref (u1.1 26), .int 0, .int 0, .int 0, .int 0, .int 0])), ((u1.1 13), .inl (cy 0, 4, .inl (fun _ => 0))), (q_2, .inr (12, [.int 0, .null, .int 0, .int 0, .int 0, .int 0, .int 0, .int 0, .int 0, .null, .null, .null, .null, .null, .null, .null, .int 0, .int 0, .int 0, .null, .null, .null, .int 0, .null, .null, .null, .null, .null, .null, .int 0, .int 0, .int 0, .int 0, .null, .int 0, .null, .int 0, .int 0]))] := hD
  refine lv_dup hx hb dL_law__11 rfl ?_
  refine cj_v (wr := [(q_1, .inr (11, [.ref (u1.1 0), .ref (u1.1 1), .ref (u1.1 2), .int 0, .int 0, .ref (u1.1 5), .ref (u1.1 6), .ref (u1.1 7), .ref (u1.1 8), .ref (u1.1 9), .int 0, .ref (u1.1 11), .ref (u1.1 12), .ref (u1.1 13)])), ((u1.1 5), .inr (6, [.int 0, .int 0, .ref (u1.1 21), .ref (u1.1 22), .int 0, .int 0, .ref (u1.1 23), .int 0, .ref (u1.1 24), .int 0, .int 0, .ref (u1.1 25), .int 0, .ref (u1.1 26), .int 0, .int 0, .int 0, .int 0, .int 0])), ((u1.1 13), .inl (cy 0, 4, .inl (fun _ => 0)))]) (va_runI (As := []) (rest := [.ref q_2]) ⟨hx, hb, hml, hown, hts⟩ (c_M_sumsx l hl D cy sa q_2 H.size) (cwI 0 hts gl_X12_init rfl rfl rfl ini_RX12 ml120 im_X12_init rfl (by decide +kernel) ⟨Nat.le_of_ble_eq_true rfl, Nat.le_of_ble_eq_true rfl⟩) ⟨pcW.blind, (pcW.mk hP hD hS hA hG hT [3] rfl (by decide))⟩ rfl rfl hlv.1 rfl (lv_room (Nat.le_of_ble_eq_true rfl)) dL_law__12 ⟨Nat.le_of_ble_eq_true rfl, Nat.le_of_ble_eq_true rfl⟩) hP hD hS hA [3] [0, 1, 2] rfl rfl (by decide) (by decide) (fun u2 H locs hw2 hP hD hS => ?_)
  have hP : va_P D vwCl [(q_1, .inr (11, [.ref (u1.1 0), .ref (u1.1 1), .ref (u1.1 2), .int 0, .int 0, .ref (u1.1 5), .ref (u1.1 6), .ref (u1.1 7), .ref (u1.1 8), .ref (u1.1 9), .int 0, .ref (u1.1 11), .ref (u1.1 12), .ref (u1.1 13)])), ((u1.1 5), .inr (6, [.int 0, .int 0, .ref (u1.1 21), .ref (u1.1 22), .int 0, .int 0, .ref (u1.1 23), .int 0, .ref (u1.1 24), .int 0, .int 0, .ref (u1.1 25), .int 0, .ref (u1.1 26), .int 0, .int 0, .int 0, .int 0, .int 0])), ((u1.1 13), .inl (cy 0, 4, .inl (fun _ => 0))), (q_2, .inr (12, [.int 0, .ref (u2.1 1), .int 0, .int 0, .int 0, .int 0, .int 0, .int 0, .int (-1), .ref (u2.1 9), .ref (u2.1 10), .ref (u2.1 11), .ref (u2.1 12), .ref (u2.1 13), .ref (u2.1 14), .ref (u2.1 15), .int 0, .int 0, .int 0, .ref (u2.1 19), .ref (u2.1 20), .ref (u2.1 21), .int 0, .ref (u2.1 23), .ref (u2.1 24), .ref (u2.1 25), .ref (u2.1 26), .ref (u2.1 27), .ref (u2.1 28), .int 0, .int 0, .int 0, .int 0, .ref (u2.1 33), .int (-1), .ref (u2.1 35), .int 0, .int 0])), ((u2.1 1), .inl (cy 0, 4, .inl (fun _ => 0)))] H := hP
  have hD : va_D A [(q_1, .inr (11, [.ref (u1.1 0), .ref (u1.1 1), .ref (u1.1 2), .int 0, .int 0, .ref (u1.1 5), .ref (u1.1 6), .ref (u1.1 7), .ref (u1.1 8), .ref (u1.1 9), .int 0, .ref (u1.1 11), .ref (u1.1 12), .ref (u1.1 13)])), ((u1.1 5), .inr (6, [.int 0, .int 0, .ref (u1.1 21), .ref (u1.1 22), .int 0, .int 0, .ref (u1.1 23), .int 0, .ref (u1.1 24), .int 0, .int 0, .ref (u1.1 25), .int 0, .ref (u1.1 26), .int 0, .int 0, .int 0, .int 0, .int 0])), ((u1.1 13), .inl (cy 0, 4, .inl (fun _ => 0))), (q_2, .inr (12, [.int 0, .ref (u2.1 1), .int 0, .int 0, .int 0, .int 0, .int 0, .int 0, .int (-1), .ref (u2.1 9), .ref (u2.1 10), .ref (u2.1 11), .ref (u2.1 12), .ref (u2.1 13), .ref (u2.1 14), .ref (u2.1 15), .int 0, .int 0, .int 0, .ref (u2.1 19), .ref (u2.1 20), .ref (u2.1 21), .int 0, .ref (u2.1 23), .ref (u2.1 24), .ref (u2.1 25), .ref (u2.1 26), .ref (u2.1 27), .ref (u2.1 28), .int 0, .int 0, .int 0, .int 0, .ref (u2.1 33), .int (-1), .ref (u2.1 35), .int 0, .int 0])), ((u2.1 1), .inl (cy 0, 4, .inl (fun _ => 0)))] := hD
  refine lv_astore_n (lv' := [(2, .ref q_2), (1, .ref q_1), (0, .ref b)]) hx hb dL_law__15 rfl hlv (by decide) rfl (fun ls hlv => ?_)
  refine lv_iconst (v := 1) hx hb dL_law__16 (by decide) ?_
  refine nw_a (atype := .long) (cy := cy) (a0 := (1, .inr (.inl (fun _ => 0)))) (N' := 1) hx hb ac2 (ty := .long) rfl 2 rfl (fun C h => nomatch h) hG.1 hP hD hS hA (fun cA => rfl) (by decide) (by decide) (Nat.le_of_ble_eq_true rfl) (Nat.le_of_ble_eq_true rfl) (Nat.le_of_ble_eq_true rfl) dL_law__17 (fun q_3 H hP hD hS => ?_)
  have hP : va_P D vwCl [(q_1, .inr (11, [.ref (u1.1 0), .ref (u1.1 1), .ref (u1.1 2), .int 0, .int 0, .ref (u1.1 5), .ref (u1.1 6), .ref (u1.1 7), .ref (u1.1 8), .ref (u1.1 9), .int 0, .ref (u1.1 11), .ref (u1.1 12), .ref (u1.1 13)])), ((u1.1 5), .inr (6, [.int 0, .int 0, .ref (u1.1 21), .ref (u1.1 22), .int 0, .int 0, .ref (u1.1 23), .int 0, .ref (u1.1 24), .int 0, .int 0, .ref (u1.1 25), .int 0, .ref (u1.1 26), .int 0, .int 0, .int 0, .int 0, .int 0])), ((u1.1 13), .inl (cy 0, 4, .inl (fun _ => 0))), (q_2, .inr (12, [.int 0, .ref (u2.1 1), .int 0, .int 0, .int 0, .int 0, .int 0, .int 0, .int (-1), .ref (u2.1 9), .ref (u2.1 10), .ref (u2.1 11), .ref (u2.1 12), .ref (u2.1 13), .ref (u2.1 14), .ref (u2.1 15), .int 0, .int 0, .int 0, .ref (u2.1 19), .ref (u2.1 20), .ref (u2.1 21), .int 0, .ref (u2.1 23), .ref (u2.1 24), .ref (u2.1 25), .ref (u2.1 26), .ref (u2.1 27), .ref (u2.1 28), .int 0, .int 0, .int 0, .int 0, .ref (u2.1 33), .int (-1), .ref (u2.1 35), .int 0, .int 0])), ((u2.1 1), .inl (cy 0, 4, .inl (fun _ => 0))), (q_3, .inl (cy 2, 1, .inr (.inl (fun _ => 0))))] H := hP
  have hD : va_D A [(q_1, .inr (11, [.ref (u1.1 0), .ref (u1.1 1), .ref (u1.1 2), .int 0, .int 0, .ref (u1.1 5), .ref (u1.1 6), .ref (u1.1 7), .ref (u1.1 8), .ref (u1.1 9), .int 0, .ref (u1.1 11), .ref (u1.1 12), .ref (u1.1 13)])), ((u1.1 5), .inr (6, [.int 0, .int 0, .ref (u1.1 21), .ref (u1.1 22), .int 0, .int 0, .ref (u1.1 23), .int 0, .ref (u1.1 24), .int 0, .int 0, .ref (u1.1 25), .int 0, .ref (u1.1 26), .int 0, .int 0, .int 0, .int 0, .int 0])), ((u1.1 13), .inl (cy 0, 4, .inl (fun _ => 0))), (q_2, .inr (12, [.int 0, .ref (u2.1 1), .int 0, .int 0, .int 0, .int 0, .int 0, .int 0, .int (-1), .ref (u2.1 9), .ref (u2.1 10), .ref (u2.1 11), .ref (u2.1 12), .ref (u2.1 13), .ref (u2.1 14), .ref (u2.1 15), .int 0, .int 0, .int 0, .ref (u2.1 19), .ref (u2.1 20), .ref (u2.1 21), .int 0, .ref (u2.1 23), .ref (u2.1 24), .ref (u2.1 25), .ref (u2.1 26), .ref (u2.1 27), .ref (u2.1 28), .int 0, .int 0, .int 0, .int 0, .ref (u2.1 33), .int (-1), .ref (u2.1 35), .int 0, .int 0])), ((u2.1 1), .inl (cy 0, 4, .inl (fun _ => 0))), (q_3, .inl (cy 2, 1, .inr (.inl (fun _ => 0))))] := hD
  refine lv_astore_n (lv' := [(3, .ref q_3), (2, .ref q_2), (1, .ref q_1), (0, .ref b)]) hx hb dL_law__19 rfl hlv (by decide) rfl (fun ls hlv => ?_)
  refine lv_iconst (v := 0) hx hb dL_law__20 (by decide) ?_
  refine lv_istore (lv' := [(4, .int 0), (3, .ref q_3), (2, .ref q_2), (1, .ref q_1), (0, .ref b)]) hx hb dL_law__21 hlv (by decide) rfl (fun ls hlv => ?_)
  refine lv_iload hx hb dL_law__23 (lv_at hlv 0 rfl) ?_
  refine lv_aload_n hx hb dL_law__25 rfl (lv_at hlv 4 rfl) ?_
  refine va_slen hx hb hX hbl hbA hS dL_law__26 ?_
  refine lt_i (y := 10) (by decide) ?_
  refine lv_bipush (v := 10) hx hb dL_law__27 (by decide) ?_
  refine lv_isub hx hb dL_law__29 ?_
  refine lt_i (y := 0) (by decide) ?_
  refine lv_icmp_gt (tgt := 2761) hx hb dL_law__30 (by decide) (fun c => absurd c (by decide)) (fun _ => ?_)
  refine lv_aload_n hx hb dL_law__33 rfl (lv_at hlv 4 rfl) ?_
  refine lv_iload hx hb dL_law__34 (lv_at hlv 0 rfl) ?_
  refine va_sld hx hb hX hbl hbA hS (vpd (by decide)) dL_law__36 ?_
  refine lt_i (y := xs 0) rfl ?_
  refine lv_bipush (v := 63) hx hb dL_law__37 (by decide) ?_
  refine lv_iand hx hb dL_law__39 ?_
  refine lt_i (y := 14) h63 ?_
  refine lv_tableIn (tgt := 1050) hx hb dL_law__40 (by decide) (by decide) rfl (by decide) ?_
  refine lv_aload_n hx hb dL_law__1050 rfl (lv_at hlv 3 rfl) ?_
  refine lv_aload_n hx hb dL_law__1051 rfl (lv_at hlv 4 rfl) ?_
  refine lv_iload hx hb dL_law__1052 (lv_at hlv 0 rfl) ?_
  refine lv_iconst (v := 1) hx hb dL_law__1054 (by decide) ?_
  refine lv_iadd hx hb dL_law__1055 ?_
  refine lt_i (y := 1) (by decide) ?_
  refine va_sld hx hb hX hbl hbA hS (vpd (by decide)) dL_law__1056 ?_
  refine lt_i (y := xs 1) rfl ?_
  refine lv_aload_n hx hb dL_law__1057 rfl (lv_at hlv 1 rfl) ?_
  refine cj_i (wr := [(q_2, .inr (12, [.int 0, .ref (u2.1 1), .int 0, .int 0, .int 0, .int 0, .int 0, .int 0, .int (-1), .ref (u2.1 9), .ref (u2.1 10), .ref (u2.1 11), .ref (u2.1 12), .ref (u2.1 13), .ref (u2.1 14), .ref (u2.1 15), .int 0, .int 0, .int 0, .ref (u2.1 19), .ref (u2.1 20), .ref (u2.1 21), .int 0, .ref (u2.1 23), .ref (u2.1 24), .ref (u2.1 25), .ref (u2.1 26), .ref (u2.1 27), .ref (u2.1 28), .int 0, .int 0, .int 0, .int 0, .ref (u2.1 33), .int (-1), .ref (u2.1 35), .int 0, .int 0])), ((u2.1 1), .inl (cy 0, 4, .inl (fun _ => 0)))]) (vx_runSW (As := [.ref q_1, .int (xs 1), .ref q_3]) (rest := []) ⟨hx, hb, hml, hown, hts⟩ (w_sums l hl D cy sa q_1 u1.1 (xs 1) q_3 H.size) (vx_cwSW 3 hts gl_w_sums rfl rfl rfl (by decide +kernel) ⟨Nat.le_of_ble_eq_true rfl, Nat.le_of_ble_eq_true rfl⟩) ⟨pcW.blind, (pcW.mk hP hD hS hA hG hT [0, 1, 2, 5] rfl (by decide))⟩ rfl rfl hlv.1 rfl (lv_room (Nat.le_of_ble_eq_true rfl)) dL_law__1058 ⟨Nat.le_of_ble_eq_true rfl, Nat.le_of_ble_eq_true rfl⟩) hP hD hS hA [0, 1, 2, 5] [3, 4] rfl rfl (by decide) (by decide) (fun r3 u3 H locs hw3 hP hD hS => ?_)
  rcases hw3 with ⟨hg3, rfl, he3_0⟩ | ⟨hg3, rfl⟩
  · exact absurd hg3 hv
  · have hP : va_P D vwCl [(q_2, .inr (12, [.int 0, .ref (u2.1 1), .int 0, .int 0, .int 0, .int 0, .int 0, .int 0, .int (-1), .ref (u2.1 9), .ref (u2.1 10), .ref (u2.1 11), .ref (u2.1 12), .ref (u2.1 13), .ref (u2.1 14), .ref (u2.1 15), .int 0, .int 0, .int 0, .ref (u2.1 19), .ref (u2.1 20), .ref (u2.1 21), .int 0, .ref (u2.1 23), .ref (u2.1 24), .ref (u2.1 25), .ref (u2.1 26), .ref (u2.1 27), .ref (u2.1 28), .int 0, .int 0, .int 0, .int 0, .ref (u2.1 33), .int (-1), .ref (u2.1 35), .int 0, .int 0])), ((u2.1 1), .inl (cy 0, 4, .inl (fun _ => 0))), (q_3, .inl (cy 2, 1, .inr (.inl (fun _ => (u3.2.1 0 : Int32).toInt64))))] H := hP
    have hD : va_D A [(q_2, .inr (12, [.int 0, .ref (u2.1 1), .int 0, .int 0, .int 0, .int 0, .int 0, .int 0, .int (-1), .ref (u2.1 9), .ref (u2.1 10), .ref (u2.1 11), .ref (u2.1 12), .ref (u2.1 13), .ref (u2.1 14), .ref (u2.1 15), .int 0, .int 0, .int 0, .ref (u2.1 19), .ref (u2.1 20), .ref (u2.1 21), .int 0, .ref (u2.1 23), .ref (u2.1 24), .ref (u2.1 25), .ref (u2.1 26), .ref (u2.1 27), .ref (u2.1 28), .int 0, .int 0, .int 0, .int 0, .ref (u2.1 33), .int (-1), .ref (u2.1 35), .int 0, .int 0])), ((u2.1 1), .inl (cy 0, 4, .inl (fun _ => 0))), (q_3, .inl (cy 2, 1, .inr (.inl (fun _ => (u3.2.1 0 : Int32).toInt64))))] := hD
    refine lv_istore (lv' := [(5, .int 1), (4, .int 0), (3, .ref q_3), (2, .ref q_2), (1, .ref q_1), (0, .ref b)]) hx hb dL_law__1061 hlv (by decide) rfl (fun ls hlv => ?_)
    refine lv_aload_n hx hb dL_law__1063 rfl (lv_at hlv 3 rfl) ?_
    refine lv_aload_n hx hb dL_law__1064 rfl (lv_at hlv 5 rfl) ?_
    refine lv_iload hx hb dL_law__1065 (lv_at hlv 1 rfl) ?_
    refine lv_iconst (v := 1) hx hb dL_law__1067 (by decide) ?_
    refine lv_iadd hx hb dL_law__1068 ?_
    refine lt_i (y := 1) (by decide) ?_
    refine va_sld hx hb hX hbl hbA hS (vpd (by decide)) dL_law__1069 ?_
    refine lt_i (y := xs 1) rfl ?_
    refine cj_i (wr := [(q_3, .inl (cy 2, 1, .inr (.inl (fun _ => (u3.2.1 0 : Int32).toInt64))))]) (va_runV (As := [.int (xs 1)]) (rest := []) ⟨hx, hb, hml, hown, hts⟩ (m_sumsx l hl D cy sa q_2 u2.1 (xs 1) H.size hv) (cwV 1 hts gl_m_sumsx rfl rfl rfl (by decide +kernel) ⟨Nat.le_of_ble_eq_true rfl, Nat.le_of_ble_eq_true rfl⟩) ⟨pcW.blind, (va_recv hG.1 hP (ci := 12) (q0 := 0) rfl rfl), (pcW.mk hP hD hS hA hG hT [0, 1] rfl (by decide))⟩ rfl rfl hlv.1 rfl (lv_room (Nat.le_of_ble_eq_true rfl)) dL_law__1070 ⟨Nat.le_of_ble_eq_true rfl, Nat.le_of_ble_eq_true rfl⟩) hP hD hS hA [0, 1] [2] rfl rfl (by decide) (by decide) (fun r4 u4 H locs hw4 hP hD hS => ?_)
    obtain ⟨rfl, he4_0⟩ := hw4
    rw [he4_0] at hP hD
    have hP : va_P D vwCl [(q_3, .inl (cy 2, 1, .inr (.inl (fun _ => (u3.2.1 0 : Int32).toInt64)))), (q_2, .inr (12, [.int 1, .ref (u2.1 1), .int 0, .int 0, .int 0, .int 0, .int 0, .int 0, .int (-1), .ref (u2.1 9), .ref (u2.1 10), .ref (u2.1 11), .ref (u2.1 12), .ref (u2.1 13), .ref (u2.1 14), .ref (u2.1 15), .int 0, .int 0, .int 0, .ref (u2.1 19), .ref (u2.1 20), .ref (u2.1 21), .int 0, .ref (u2.1 23), .ref (u2.1 24), .ref (u2.1 25), .ref (u2.1 26), .ref (u2.1 27), .ref (u2.1 28), .int 0, .int 0, .int 0, .int 0, .ref (u2.1 33), .int (-1), .ref (u2.1 35), .int 0, .int 0]))] H := hP
    have hD : va_D A [(q_3, .inl (cy 2, 1, .inr (.inl (fun _ => (u3.2.1 0 : Int32).toInt64)))), (q_2, .inr (12, [.int 1, .ref (u2.1 1), .int 0, .int 0, .int 0, .int 0, .int 0, .int 0, .int (-1), .ref (u2.1 9), .ref (u2.1 10), .ref (u2.1 11), .ref (u2.1 12), .ref (u2.1 13), .ref (u2.1 14), .ref (u2.1 15), .int 0, .int 0, .int 0, .ref (u2.1 19), .ref (u2.1 20), .ref (u2.1 21), .int 0, .ref (u2.1 23), .ref (u2.1 24), .ref (u2.1 25), .ref (u2.1 26), .ref (u2.1 27), .ref (u2.1 28), .int 0, .int 0, .int 0, .int 0, .ref (u2.1 33), .int (-1), .ref (u2.1 35), .int 0, .int 0]))] := hD
    refine lv_istore (lv' := [(6, .int 0), (5, .int 1), (4, .int 0), (3, .ref q_3), (2, .ref q_2), (1, .ref q_1), (0, .ref b)]) hx hb dL_law__1073 hlv (by decide) rfl (fun ls hlv => ?_)
    refine lv_aload_n hx hb dL_law__1075 rfl (lv_at hlv 4 rfl) ?_
    refine cj_i (wr := [(q_3, .inl (cy 2, 1, .inr (.inl (fun _ => (u3.2.1 0 : Int32).toInt64))))]) (va_runV (As := []) (rest := []) ⟨hx, hb, hml, hown, hts⟩ (c_thrown l hl D cy sa q_2 u2.1 1 0 0 0 0 0 0 (-1) 0 0 0 0 0 0 0 0 (-1) 0 0 H.size) (cwV 0 hts gl_c_thrown rfl rfl rfl (by decide +kernel) ⟨Nat.le_of_ble_eq_true rfl, Nat.le_of_ble_eq_true rfl⟩) ⟨pcW.blind, (va_recv hG.1 hP (ci := 12) (q0 := 1) rfl rfl), (pcW.mk hP hD hS hA hG hT [1] rfl (by decide))⟩ rfl rfl hlv.1 rfl (lv_room (Nat.le_of_ble_eq_true rfl)) dL_law__1076 ⟨Nat.le_of_ble_eq_true rfl, Nat.le_of_ble_eq_true rfl⟩) hP hD hS hA [1] [0] rfl rfl (by decide) (by decide) (fun r5 u5 H locs hw5 hP hD hS => ?_)
    obtain rfl := hw5
    have hP : va_P D vwCl [(q_3, .inl (cy 2, 1, .inr (.inl (fun _ => (u3.2.1 0 : Int32).toInt64))))] H := hP
    have hD : va_D A [(q_3, .inl (cy 2, 1, .inr (.inl (fun _ => (u3.2.1 0 : Int32).toInt64))))] := hD
    refine lv_iload hx hb dL_law__1079 (lv_at hlv 1 rfl) ?_
    refine lv_icmp_eq (tgt := 1086) hx hb dL_law__1081 (by decide) (fun _ => ?_) (fun c => absurd (by decide) c)
    refine lv_iload hx hb dL_law__1086 (lv_at hlv 1 rfl) ?_
    refine lv_if_ne (tgt := 1103) hx hb dL_law__1088 (by decide) (fun _ => ?_) (fun c => absurd c (by decide))
    refine lv_goto (tgt := 2755) hx hb dL_law__1103 (by decide) ?_
    refine lv_iinc (v := 10) (lv' := [(4, .int 10), (6, .int 0), (5, .int 1), (3, .ref q_3), (2, .ref q_2), (1, .ref q_1), (0, .ref b)]) hx hb dL_law__2755 hlv (k := 2) rfl (by decide) (by decide) rfl (fun ls hlv => ?_)
    refine lv_goto (tgt := 23) hx hb dL_law__2758 (by decide) ?_
    refine lv_iload hx hb dL_law__23 (lv_at hlv 0 rfl) ?_
    refine lv_aload_n hx hb dL_law__25 rfl (lv_at hlv 6 rfl) ?_
    refine va_slen hx hb hX hbl hbA hS dL_law__26 ?_
    refine lt_i (y := 10) (by decide) ?_
    refine lv_bipush (v := 10) hx hb dL_law__27 (by decide) ?_
    refine lv_isub hx hb dL_law__29 ?_
    refine lt_i (y := 0) (by decide) ?_
    refine lv_icmp_gt (tgt := 2761) hx hb dL_law__30 (by decide) (fun _ => ?_) (fun c => absurd (by decide) c)
    refine lv_iconst (v := 1) hx hb dL_law__2761 (by decide) ?_
    refine va_forget (fun q hq => by have h9 := hS.2.2 q hq; rw [hAe] at h9; exact h9) ?_
    refine W.widen (k := 600002) (n := 7302232) (Nat.le_of_ble_eq_true rfl) (Nat.le_of_ble_eq_true rfl) ?_
    exact lw_ret hx hb hr hlocks dL_law__2762
