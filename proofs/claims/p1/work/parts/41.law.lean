theorem dL_law__393 : decode cL_law_ 393 = .ok (.aload_n 1, 1) := by decide +kernel
theorem dL_law__394 : decode cL_law_ 394 = .ok (.aload_n 0, 1) := by decide +kernel
theorem dL_law__395 : decode cL_law_ 395 = .ok (.iload 4, 2) := by decide +kernel
theorem dL_law__397 : decode cL_law_ 397 = .ok (.iconst 1, 1) := by decide +kernel
theorem dL_law__398 : decode cL_law_ 398 = .ok (.iadd, 1) := by decide +kernel
theorem dL_law__399 : decode cL_law_ 399 = .ok (.iaload, 1) := by decide +kernel
theorem dL_law__400 : decode cL_law_ 400 = .ok (.aload_n 3, 1) := by decide +kernel
theorem dL_law__401 : decode cL_law_ 401 = .ok (.invokestatic 138, 3) := by decide +kernel
theorem dL_law__404 : decode cL_law_ 404 = .ok (.istore 5, 2) := by decide +kernel
theorem dL_law__406 : decode cL_law_ 406 = .ok (.aload_n 2, 1) := by decide +kernel
theorem dL_law__407 : decode cL_law_ 407 = .ok (.aload_n 0, 1) := by decide +kernel
theorem dL_law__408 : decode cL_law_ 408 = .ok (.iload 4, 2) := by decide +kernel
theorem dL_law__410 : decode cL_law_ 410 = .ok (.iconst 1, 1) := by decide +kernel
theorem dL_law__411 : decode cL_law_ 411 = .ok (.iadd, 1) := by decide +kernel
theorem dL_law__412 : decode cL_law_ 412 = .ok (.iaload, 1) := by decide +kernel
theorem dL_law__413 : decode cL_law_ 413 = .ok (.invokevirtual 140, 3) := by decide +kernel
theorem dL_law__416 : decode cL_law_ 416 = .ok (.istore 6, 2) := by decide +kernel
theorem dL_law__418 : decode cL_law_ 418 = .ok (.aload_n 2, 1) := by decide +kernel
theorem dL_law__419 : decode cL_law_ 419 = .ok (.invokevirtual 131, 3) := by decide +kernel
theorem dL_law__422 : decode cL_law_ 422 = .ok (.iload 5, 2) := by decide +kernel
theorem dL_law__424 : decode cL_law_ 424 = .ok (.if_icmp .eq 5, 3) := by decide +kernel
theorem dL_law__429 : decode cL_law_ 429 = .ok (.iload 5, 2) := by decide +kernel
theorem dL_law__431 : decode cL_law_ 431 = .ok (.ifCond .ne 15, 3) := by decide +kernel
theorem dL_law__434 : decode cL_law_ 434 = .ok (.aload_n 3, 1) := by decide +kernel
theorem dL_law__435 : decode cL_law_ 435 = .ok (.iconst 0, 1) := by decide +kernel
theorem dL_law__436 : decode cL_law_ 436 = .ok (.laload, 1) := by decide +kernel
theorem dL_law__437 : decode cL_law_ 437 = .ok (.iload 6, 2) := by decide +kernel
theorem dL_law__439 : decode cL_law_ 439 = .ok (.i2l, 1) := by decide +kernel
theorem dL_law__440 : decode cL_law_ 440 = .ok (.lcmp, 1) := by decide +kernel
theorem dL_law__441 : decode cL_law_ 441 = .ok (.ifCond .eq 5, 3) := by decide +kernel
theorem dL_law__446 : decode cL_law_ 446 = .ok (.goto 2309, 3) := by decide +kernel
theorem dL_law__449 : decode cL_law_ 449 = .ok (.aload_n 1, 1) := by decide +kernel
theorem dL_law__450 : decode cL_law_ 450 = .ok (.invokevirtual 141, 3) := by decide +kernel
theorem dL_law__453 : decode cL_law_ 453 = .ok (.aload_n 2, 1) := by decide +kernel
theorem dL_law__454 : decode cL_law_ 454 = .ok (.invokevirtual 144, 3) := by decide +kernel
theorem dL_law__457 : decode cL_law_ 457 = .ok (.if_icmp .eq 2298, 3) := by decide +kernel
theorem dL_law__462 : decode cL_law_ 462 = .ok (.aload_n 1, 1) := by decide +kernel
theorem dL_law__463 : decode cL_law_ 463 = .ok (.aload_n 0, 1) := by decide +kernel
theorem dL_law__464 : decode cL_law_ 464 = .ok (.iload 4, 2) := by decide +kernel
theorem dL_law__466 : decode cL_law_ 466 = .ok (.iconst 1, 1) := by decide +kernel
theorem dL_law__467 : decode cL_law_ 467 = .ok (.iadd, 1) := by decide +kernel
theorem dL_law__468 : decode cL_law_ 468 = .ok (.iaload, 1) := by decide +kernel
theorem dL_law__469 : decode cL_law_ 469 = .ok (.aload_n 3, 1) := by decide +kernel
theorem dL_law__470 : decode cL_law_ 470 = .ok (.invokestatic 145, 3) := by decide +kernel
theorem dL_law__473 : decode cL_law_ 473 = .ok (.istore 5, 2) := by decide +kernel
theorem dL_law__475 : decode cL_law_ 475 = .ok (.aload_n 2, 1) := by decide +kernel
theorem dL_law__476 : decode cL_law_ 476 = .ok (.aload_n 0, 1) := by decide +kernel
theorem dL_law__477 : decode cL_law_ 477 = .ok (.iload 4, 2) := by decide +kernel
theorem dL_law__479 : decode cL_law_ 479 = .ok (.iconst 1, 1) := by decide +kernel
theorem dL_law__480 : decode cL_law_ 480 = .ok (.iadd, 1) := by decide +kernel
theorem dL_law__481 : decode cL_law_ 481 = .ok (.iaload, 1) := by decide +kernel
theorem dL_law__482 : decode cL_law_ 482 = .ok (.invokevirtual 147, 3) := by decide +kernel
theorem dL_law__485 : decode cL_law_ 485 = .ok (.istore 6, 2) := by decide +kernel
theorem dL_law__487 : decode cL_law_ 487 = .ok (.aload_n 2, 1) := by decide +kernel
theorem dL_law__488 : decode cL_law_ 488 = .ok (.invokevirtual 131, 3) := by decide +kernel
theorem dL_law__491 : decode cL_law_ 491 = .ok (.iload 5, 2) := by decide +kernel
theorem dL_law__493 : decode cL_law_ 493 = .ok (.if_icmp .eq 5, 3) := by decide +kernel
theorem dL_law__498 : decode cL_law_ 498 = .ok (.iload 5, 2) := by decide +kernel
theorem dL_law__500 : decode cL_law_ 500 = .ok (.ifCond .ne 15, 3) := by decide +kernel
theorem dL_law__503 : decode cL_law_ 503 = .ok (.aload_n 3, 1) := by decide +kernel
theorem dL_law__504 : decode cL_law_ 504 = .ok (.iconst 0, 1) := by decide +kernel
theorem dL_law__505 : decode cL_law_ 505 = .ok (.laload, 1) := by decide +kernel
theorem dL_law__506 : decode cL_law_ 506 = .ok (.iload 6, 2) := by decide +kernel
theorem dL_law__508 : decode cL_law_ 508 = .ok (.i2l, 1) := by decide +kernel
theorem dL_law__509 : decode cL_law_ 509 = .ok (.lcmp, 1) := by decide +kernel
theorem dL_law__510 : decode cL_law_ 510 = .ok (.ifCond .eq 5, 3) := by decide +kernel
theorem dL_law__515 : decode cL_law_ 515 = .ok (.goto 2240, 3) := by decide +kernel
theorem dL_law__518 : decode cL_law_ 518 = .ok (.aload_n 1, 1) := by decide +kernel
theorem dL_law__519 : decode cL_law_ 519 = .ok (.aload_n 0, 1) := by decide +kernel
theorem dL_law__520 : decode cL_law_ 520 = .ok (.iload 4, 2) := by decide +kernel
theorem dL_law__522 : decode cL_law_ 522 = .ok (.iconst 1, 1) := by decide +kernel
theorem dL_law__523 : decode cL_law_ 523 = .ok (.iadd, 1) := by decide +kernel
theorem dL_law__524 : decode cL_law_ 524 = .ok (.iaload, 1) := by decide +kernel
theorem dL_law__525 : decode cL_law_ 525 = .ok (.aload_n 0, 1) := by decide +kernel
theorem dL_law__526 : decode cL_law_ 526 = .ok (.iload 4, 2) := by decide +kernel
theorem dL_law__528 : decode cL_law_ 528 = .ok (.iconst 2, 1) := by decide +kernel
theorem dL_law__529 : decode cL_law_ 529 = .ok (.iadd, 1) := by decide +kernel
theorem dL_law__530 : decode cL_law_ 530 = .ok (.iaload, 1) := by decide +kernel
theorem dL_law__531 : decode cL_law_ 531 = .ok (.aload_n 0, 1) := by decide +kernel
theorem dL_law__532 : decode cL_law_ 532 = .ok (.iload 4, 2) := by decide +kernel
theorem dL_law__534 : decode cL_law_ 534 = .ok (.iconst 3, 1) := by decide +kernel
theorem dL_law__535 : decode cL_law_ 535 = .ok (.iadd, 1) := by decide +kernel
theorem dL_law__536 : decode cL_law_ 536 = .ok (.iaload, 1) := by decide +kernel
theorem dL_law__537 : decode cL_law_ 537 = .ok (.aload_n 3, 1) := by decide +kernel
theorem dL_law__538 : decode cL_law_ 538 = .ok (.invokestatic 148, 3) := by decide +kernel
theorem dL_law__541 : decode cL_law_ 541 = .ok (.istore 5, 2) := by decide +kernel
theorem dL_law__543 : decode cL_law_ 543 = .ok (.aload_n 2, 1) := by decide +kernel
theorem dL_law__544 : decode cL_law_ 544 = .ok (.aload_n 0, 1) := by decide +kernel
theorem dL_law__545 : decode cL_law_ 545 = .ok (.iload 4, 2) := by decide +kernel
theorem dL_law__547 : decode cL_law_ 547 = .ok (.iconst 1, 1) := by decide +kernel
theorem dL_law__548 : decode cL_law_ 548 = .ok (.iadd, 1) := by decide +kernel
theorem dL_law__549 : decode cL_law_ 549 = .ok (.iaload, 1) := by decide +kernel
theorem dL_law__550 : decode cL_law_ 550 = .ok (.aload_n 0, 1) := by decide +kernel
theorem dL_law__551 : decode cL_law_ 551 = .ok (.iload 4, 2) := by decide +kernel
theorem dL_law__553 : decode cL_law_ 553 = .ok (.iconst 2, 1) := by decide +kernel
theorem dL_law__554 : decode cL_law_ 554 = .ok (.iadd, 1) := by decide +kernel
theorem dL_law__555 : decode cL_law_ 555 = .ok (.iaload, 1) := by decide +kernel
theorem dL_law__556 : decode cL_law_ 556 = .ok (.aload_n 0, 1) := by decide +kernel
theorem dL_law__557 : decode cL_law_ 557 = .ok (.iload 4, 2) := by decide +kernel
theorem dL_law__559 : decode cL_law_ 559 = .ok (.iconst 3, 1) := by decide +kernel
theorem dL_law__560 : decode cL_law_ 560 = .ok (.iadd, 1) := by decide +kernel
theorem dL_law__561 : decode cL_law_ 561 = .ok (.iaload, 1) := by decide +kernel
theorem dL_law__562 : decode cL_law_ 562 = .ok (.invokevirtual 151, 3) := by decide +kernel
theorem dL_law__565 : decode cL_law_ 565 = .ok (.istore 6, 2) := by decide +kernel
theorem dL_law__567 : decode cL_law_ 567 = .ok (.aload_n 2, 1) := by decide +kernel
theorem dL_law__568 : decode cL_law_ 568 = .ok (.invokevirtual 131, 3) := by decide +kernel
theorem dL_law__571 : decode cL_law_ 571 = .ok (.iload 5, 2) := by decide +kernel
theorem dL_law__573 : decode cL_law_ 573 = .ok (.if_icmp .eq 5, 3) := by decide +kernel
theorem dL_law__578 : decode cL_law_ 578 = .ok (.iload 5, 2) := by decide +kernel
theorem dL_law__580 : decode cL_law_ 580 = .ok (.ifCond .ne 15, 3) := by decide +kernel
theorem dL_law__595 : decode cL_law_ 595 = .ok (.goto 2160, 3) := by decide +kernel
set_option maxHeartbeats 4000000 in
set_option maxRecDepth 100000 in
theorem law_rainx {p : Program} {e : Env} {s : State} {m : MethodId} {below : List Frame} {meth : Method} {c : Code} (l : Launch) (hl : l.stackTraces = false) {b : Nat} {xs : Nat → Int32} {D : va_G} {cy : Nat → ClassId} {sa : Nat → Nat} {A : Nat → Prop} (hAe : A = fun q => s.heap.size ≤ q) (C0 : lw_At p s m meth c b 10 xs) (hG : GC D cy sa s) (hT : TH A s s.heap) (h63 : xs 0 &&& 63 = 2) (hv : ¬ (0 ≤ (xs 1) ∧ (xs 1) ≤ 0)) : W p l e room_1 s m #[Value.ref b] below meth c s.heap [] 0 0 (lw_Z below #[Value.ref b] s) (entryFrame m ([Value.ref b] : List Value).toArray 7) := by
  obtain ⟨hx, hb, hr, hml, hown0, hts0, hX, hbl, hlocks, hgv⟩ := id C0
  have hown : s.vm.findClass RL = some m.cls := hown0
  have hts := hts0
  have hA : ∀ q : Nat, s.heap.size ≤ q → A q := fun q h => by rw [hAe]; exact h
  have hbA : ¬ A b := by rw [hAe]; exact Nat.not_le.mpr hbl
  have hS : va_S A s.heap s.heap [] := va_S.rf
  have hP : va_P D vwCl [] s.heap := fun k q h => by simp at h
  have hD : va_D A [] := ⟨fun i j p q h => by simp at h, fun k q h => by simp at h⟩
  have hl0 := lv_entry ([.ref b]) (n := 7) (Nat.le_of_ble_eq_true rfl)
  rw [lg_entry_eq]
  generalize (lg_sl ([.ref b]) ++ List.replicate (7 - (lg_sl ([.ref b])).length) Slot.unset).toArray = ls at hl0 ⊢
  have hlv : lv_has ls 7 [(0, .ref b)] := hl0
  have cl8 := hts (.classLink RL 8 RX11) lwd_0
  have in11 := hts (.instantiable RX11 14) lwd_1
  have ini11 := hts (.initialized RX11) lwd_2
  have ini_RX11 := hts (.initialized RX11) lwd_2
  have ml117 := hts (.methodLink RL 117 yX11_init) lwd_3
  have im_X11_init := hts (.instanceMethod yX11_init) lwd_4
  have cl118 := hts (.classLink RL 118 RX12) lwd_5
  have in12 := hts (.instantiable RX12 38) lwd_6
  have ini12 := hts (.initialized RX12) lwd_7
  have ini_RX12 := hts (.initialized RX12) lwd_7
  have ml120 := hts (.methodLink RL 120 yX12_init) lwd_8
  have im_X12_init := hts (.instanceMethod yX12_init) lwd_9
  have ac2 := hts (.arrayClass .long) lwd_10
  refine va_new (ci := 11) (fs := [.null, .null, .null, .int 0, .int 0, .null, .null, .null, .null, .null, .int 0, .null, .null, .null]) (C := RX11) (T := TX11) (N := 14) hx hb hts inX11 tyX11 tyX11_ok hown cl8 in11 ini11 hG.1 hP hD hS hA rfl (by decide) (Nat.le_of_ble_eq_true rfl) (Nat.le_of_ble_eq_true rfl) dL_law__0 (fun q_1 H hP hD hS => ?_)
  have hP : va_P D vwCl [(q_1, .inr (11, [.null, .null, .null, .int 0, .int 0, .null, .null, .null, .null, .null, .int 0, .null, .null, .null]))] H := hP
  have hD : va_D A [(q_1, .inr (11, [.null, .null, .null, .int 0, .int 0, .null, .null, .null, .null, .null, .int 0, .null, .null, .null]))] := hD
  refine lv_dup hx hb dL_law__3 rfl ?_
  refine cj_v (wr := []) (va_runI (As := []) (rest := [.ref q_1]) ⟨hx, hb, hml, hown, hts⟩ (c_K_rainx l hl D cy sa q_1 H.size) (cwI 0 hts gl_X11_init rfl rfl rfl ini_RX11 ml117 im_X11_init rfl (by decide +kernel) ⟨Nat.le_of_ble_eq_true rfl, Nat.le_of_ble_eq_true rfl⟩) ⟨pcW.blind, (pcW.mk hP hD hS hA hG hT [0] rfl (by decide))⟩ rfl rfl hlv.1 rfl (lv_room (Nat.le_of_ble_eq_true rfl)) dL_law__4 ⟨Nat.le_of_ble_eq_true rfl, Nat.le_of_ble_eq_true rfl⟩) hP hD hS hA [0] [] rfl rfl (by decide) (by decide) (fun u1 H locs hw1 hP hD hS => ?_)
  have hP : va_P D vwCl [(q_1, .inr (11, [.ref (u1.1 0), .ref (u1.1 1), .ref (u1.1 2), .int 0, .int 0, .ref (u1.1 5), .ref (u1.1 6), .ref (u1.1 7), .ref (u1.1 8), .ref (u1.1 9), .int 0, .ref (u1.1 11), .ref (u1.1 12), .ref (u1.1 13)])), ((u1.1 0), .inr (8, [.ref (u1.1 20), .int 0, .int 0, .int 0, .int 0, .int 0, .int (-1)])), ((u1.1 13), .inl (cy 0, 4, .inl (fun _ => 0)))] H := hP
  have hD : va_D A [(q_1, .inr (11, [.ref (u1.1 0), .ref (u1.1 1), .ref (u1.1 2), .int 0, .int 0, .ref (u1.1 5), .ref (u1.1 6), .ref (u1.1 7), .ref (u1.1 8), .ref (u1.1 9), .int 0, .ref (u1.1 11), .ref (u1.1 12), .ref (u1.1 13)])), ((u1.1 0), .inr (8, [.ref (u1.1 20), .int 0, .int 0, .int 0, .int 0, .int 0, .int (-1)])), ((u1.1 13), .inl (cy 0, 4, .inl (fun _ => 0)))] := hD
  refine lv_astore_n (lv' := [(1, .ref q_1), (0, .ref b)]) hx hb dL_law__7 rfl hlv (by decide) rfl (fun ls hlv => ?_)
  refine va_new (ci := 12) (fs := [.int 0, .null, .int 0, .int 0, .int 0, .int 0, .int 0, .int 0, .int 0, .null, .null, .null, .null, .null, .null, .null, .int 0, .int 0, .int 0, .null, .null, .null, .int 0, .null, .null, .null, .null, .null, .null, .int 0, .int 0, .int 0, .int 0, .null, .int 0, .null, .int 0, .int 0]) (C := RX12) (T := TX12) (N := 38) hx hb hts inX12 tyX12 tyX12_ok hown cl118 in12 ini12 hG.1 hP hD hS hA rfl (by decide) (Nat.le_of_ble_eq_true rfl) (Nat.le_of_ble_eq_true rfl) dL_law__8 (fun q_2 H hP hD hS => ?_)
  have hP : va_P D vwCl [(q_1, .inr (11, [.ref (u1.1 0), .ref (u1.1 1), .ref (u1.1 2), .int 0, .int 0, .ref (u1.1 5), .ref (u1.1 6), .ref (u1.1 7), .ref (u1.1 8), .ref (u1.1 9), .int 0, .ref (u1.1 11), .ref (u1.1 12), .ref (u1.1 13)])), ((u1.1 0), .inr (8, [.ref (u1.1 20), .int 0, .int 0, .int 0, .int 0, .int 0, .int (-1)])), ((u1.1 13), .inl (cy 0, 4, .inl (fun _ => 0))), (q_2, .inr (12, [.int 0, .null, .int 0, .int 0, .int 0, .int 0, .int 0, .int 0, .int 0, .null, .null, .null, .null, .null, .null, .null, .int 0, .int 0, .int 0, .null, .null, .null, .int 0, .null, .null, .null, .null, .null, .null, .int 0, .int 0, .int 0, .int 0, .null, .int 0, .null, .int 0, .int 0]))] H := hP
  have hD : va_D A [(q_1, .inr (11, [.ref (u1.1 0), .ref (u1.1 1), .ref (u1.1 2), .int 0, .int 0, .ref (u1.1 5), .ref (u1.1 6), .ref (u1.1 7), .ref (u1.1 8), .ref (u1.1 9), .int 0, .ref (u1.1 11), .ref (u1.1 12), .ref (u1.1 13)])), ((u1.1 0), .inr (8, [.ref (u1.1 20), .int 0, .int 0, .int 0, .int 0, .int 0, .int (-1)])), ((u1.1 13), .inl (cy 0, 4, .inl (fun _ => 0))), (q_2, .inr (12, [.int 0, .null, .int 0, .int 0, .int 0, .int 0, .int 0, .int 0, .int 0, .null, .null, .null, .null, .null, .null, .null, .int 0, .int 0, .int 0, .null, .null, .null, .int 0, .null, .null, .null, .null, .null, .null, .int 0, .int 0, .int 0, .int 0, .null, .int 0, .null, .int 0, .int 0]))] := hD
  refine lv_dup hx hb dL_law__11 rfl ?_
  refine cj_v (wr := [(q_1, .inr (11, [.ref (u1.1 0), .ref (u1.1 1), .ref (u1.1 2), .int 0, .int 0, .ref (u1.1 5), .ref (u1.1 6), .ref (u1.1 7), .ref (u1.1 8), .ref (u1.1 9), .int 0, .ref (u1.1 11), .ref (u1.1 12), .ref (u1.1 13)])), ((u1.1 0), .inr (8, [.ref (u1.1 20), .int 0, .int 0, .int 0, .int 0, .int 0, .int (-1)])), ((u1.1 13), .inl (cy 0, 4, .inl (fun _ => 0)))]) (va_runI (As := []) (rest := [.ref q_2]) ⟨hx, hb, hml, hown, hts⟩ (c_M_rainx l hl D cy sa q_2 H.size) (cwI 0 hts gl_X12_init rfl rfl rfl ini_RX12 ml120 im_X12_init rfl (by decide +kernel) ⟨Nat.le_of_ble_eq_true rfl, Nat.le_of_ble_eq_true rfl⟩) ⟨pcW.blind, (pcW.mk hP hD hS hA hG hT [3] rfl (by decide))⟩ rfl rfl hlv.1 rfl (lv_room (Nat.le_of_ble_eq_true rfl)) dL_law__12 ⟨Nat.le_of_ble_eq_true rfl, Nat.le_of_ble_eq_true rfl⟩) hP hD hS hA [3] [0, 1, 2] rfl rfl (by decide) (by decide) (fun u2 H locs hw2 hP hD hS => ?_)
  have hP : va_P D vwCl [(q_1, .inr (11, [.ref (u1.1 0), .ref (u1.1 1), .ref (u1.1 2), .int 0, .int 0, .ref (u1.1 5), .ref (u1.1 6), .ref (u1.1 7), .ref (u1.1 8), .ref (u1.1 9), .int 0, .ref (u1.1 11), .ref (u1.1 12), .ref (u1.1 13)])), ((u1.1 0), .inr (8, [.ref (u1.1 20), .int 0, .int 0, .int 0, .int 0, .int 0, .int (-1)])), ((u1.1 13), .inl (cy 0, 4, .inl (fun _ => 0))), (q_2, .inr (12, [.int 0, .ref (u2.1 1), .int 0, .int 0, .int 0, .int 0, .int 0, .int 0, .int (-1), .ref (u2.1 9), .ref (u2.1 10), .ref (u2.1 11), .ref (u2.1 12), .ref (u2.1 13), .ref (u2.1 14), .ref (u2.1 15), .int 0, .int 0, .int 0, .ref (u2.1 19), .ref (u2.1 20), .ref (u2.1 21), .int 0, .ref (u2.1 23), .ref (u2.1 24), .ref (u2.1 25), .ref (u2.1 26), .ref (u2.1 27), .ref (u2.1 28), .int 0, .int 0, .int 0, .int 0, .ref (u2.1 33), .int (-1), .ref (u2.1 35), .int 0, .int 0])), ((u2.1 1), .inl (cy 0, 4, .inl (fun _ => 0)))] H := hP
  have hD : va_D A [(q_1, .inr (11, [.ref (u1.1 0), .ref (u1.1 1), .ref (u1.1 2), .int 0, .int 0, .ref (u1.1 5), .ref (u1.1 6), .ref (u1.1 7), .ref (u1.1 8), .ref (u1.1 9), .int 0, .ref (u1.1 11), .ref (u1.1 12), .ref (u1.1 13)])), ((u1.1 0), .inr (8, [.ref (u1.1 20), .int 0, .int 0, .int 0, .int 0, .int 0, .int (-1)])), ((u1.1 13), .inl (cy 0, 4, .inl (fun _ => 0))), (q_2, .inr (12, [.int 0, .ref (u2.1 1), .int 0, .int 0, .int 0, .int 0, .int 0, .int 0, .int (-1), .ref (u2.1 9), .ref (u2.1 10), .ref (u2.1 11), .ref (u2.1 12), .ref (u2.1 13), .ref (u2.1 14), .ref (u2.1 15), .int 0, .int 0, .int 0, .ref (u2.1 19), .ref (u2.1 20), .ref (u2.1 21), .int 0, .ref (u2.1 23), .ref (u2.1 24), .ref (u2.1 25), .ref (u2.1 26), .ref (u2.1 27), .ref (u2.1 28), .int 0, .int 0, .int 0, .int 0, .ref (u2.1 33), .int (-1), .ref (u2.1 35), .int 0, .int 0])), ((u2.1 1), .inl (cy 0, 4, .inl (fun _ => 0)))] := hD
  refine lv_astore_n (lv' := [(2, .ref q_2), (1, .ref q_1), (0, .ref b)]) hx hb dL_law__15 rfl hlv (by decide) rfl (fun ls hlv => ?_)
  refine lv_iconst (v := 1) hx hb dL_law__16 (by decide) ?_
  refine nw_a (atype := .long) (cy := cy) (a0 := (1, .inr (.inl (fun _ => 0)))) (N' := 1) hx hb ac2 (ty := .long) rfl 2 rfl (fun C h => nomatch h) hG.1 hP hD hS hA (fun cA => rfl) (by decide) (by decide) (Nat.le_of_ble_eq_true rfl) (Nat.le_of_ble_eq_true rfl) (Nat.le_of_ble_eq_true rfl) dL_law__17 (fun q_3 H hP hD hS => ?_)
  have hP : va_P D vwCl [(q_1, .inr (11, [.ref (u1.1 0), .ref (u1.1 1), .ref (u1.1 2), .int 0, .int 0, .ref (u1.1 5), .ref (u1.1 6), .ref (u1.1 7), .ref (u1.1 8), .ref (u1.1 9), .int 0, .ref (u1.1 11), .ref (u1.1 12), .ref (u1.1 13)])), ((u1.1 0), .inr (8, [.ref (u1.1 20), .int 0, .int 0, .int 0, .int 0, .int 0, .int (-1)])), ((u1.1 13), .inl (cy 0, 4, .inl (fun _ => 0))), (q_2, .inr (12, [.int 0, .ref (u2.1 1), .int 0, .int 0, .int 0, .int 0, .int 0, .int 0, .int (-1), .ref (u2.1 9), .ref (u2.1 10), .ref (u2.1 11), .ref (u2.1 12), .ref (u2.1 13), .ref (u2.1 14), .ref (u2.1 15), .int 0, .int 0, .int 0, .ref (u2.1 19), .ref (u2.1 20), .ref (u2.1 21), .int 0, .ref (u2.1 23), .ref (u2.1 24), .ref (u2.1 25), .ref (u2.1 26), .ref (u2.1 27), .ref (u2.1 28), .int 0, .int 0, .int 0, .int 0, .ref (u2.1 33), .int (-1), .ref (u2.1 35), .int 0, .int 0])), ((u2.1 1), .inl (cy 0, 4, .inl (fun _ => 0))), (q_3, .inl (cy 2, 1, .inr (.inl (fun _ => 0))))] H := hP
  have hD : va_D A [(q_1, .inr (11, [.ref (u1.1 0), .ref (u1.1 1), .ref (u1.1 2), .int 0, .int 0, .ref (u1.1 5), .ref (u1.1 6), .ref (u1.1 7), .ref (u1.1 8), .ref (u1.1 9), .int 0, .ref (u1.1 11), .ref (u1.1 12), .ref (u1.1 13)])), ((u1.1 0), .inr (8, [.ref (u1.1 20), .int 0, .int 0, .int 0, .int 0, .int 0, .int (-1)])), ((u1.1 13), .inl (cy 0, 4, .inl (fun _ => 0))), (q_2, .inr (12, [.int 0, .ref (u2.1 1), .int 0, .int 0, .int 0, .int 0, .int 0, .int 0, .int (-1), .ref (u2.1 9), .ref (u2.1 10), .ref (u2.1 11), .ref (u2.1 12), .ref (u2.1 13), .ref (u2.1 14), .ref (u2.1 15), .int 0, .int 0, .int 0, .ref (u2.1 19), .ref (u2.1 20), .ref (u2.1 21), .int 0, .ref (u2.1 23), .ref (u2.1 24), .ref (u2.1 25), .ref (u2.1 26), .ref (u2.1 27), .ref (u2.1 28), .int 0, .int 0, .int 0, .int 0, .ref (u2.1 33), .int (-1), .ref (u2.1 35), .int 0, .int 0])), ((u2.1 1), .inl (cy 0, 4, .inl (fun _ => 0))), (q_3, .inl (cy 2, 1, .inr (.inl (fun _ => 0))))] := hD
  refine lv_astore_n (lv' := [(3, .ref q_3), (2, .ref q_2), (1, .ref q_1), (0, .ref b)]) hx hb dL_law__19 rfl hlv (by decide) rfl (fun ls hlv => ?_)
  refine lv_iconst (v := 0) hx hb dL_law__20 (by decide) ?_
  refine lv_istore (lv' := [(4, .int 0), (3, .ref q_3), (2, .ref q_2), (1, .ref q_1), (0, .ref b)]) hx hb dL_law__21 hlv (by decide) rfl (fun ls hlv => ?_)
  refine lv_iload hx hb dL_law__23 (lv_at hlv 0 rfl) ?_
  refine lv_aload_n hx hb dL_law__25 rfl (lv_at hlv 4 rfl) ?_
  refine va_slen hx hb hX hbl hbA hS dL_law__26 ?_
  refine lt_i (y := 10) (by decide) ?_
  refine lv_bipush (v := 10) hx hb dL_law__27 (by decide) ?_
  refine lv_isub hx hb dL_law__29 ?_
  refine lt_i (y := 0) (by decide) ?_
  refine lv_icmp_gt (tgt := 2761) hx hb dL_law__30 (by decide) (fun c => absurd c (by decide)) (fun _ => ?_)
  refine lv_aload_n hx hb dL_law__33 rfl (lv_at hlv 4 rfl) ?_
  refine lv_iload hx hb dL_law__34 (lv_at hlv 0 rfl) ?_
  refine va_sld hx hb hX hbl hbA hS (vpd (by decide)) dL_law__36 ?_
  refine lt_i (y := xs 0) rfl ?_
  refine lv_bipush (v := 63) hx hb dL_law__37 (by decide) ?_
  refine lv_iand hx hb dL_law__39 ?_
  refine lt_i (y := 2) h63 ?_
  refine lv_tableIn (tgt := 337) hx hb dL_law__40 (by decide) (by decide) rfl (by decide) ?_
  refine lv_aload_n hx hb dL_law__337 rfl (lv_at hlv 3 rfl) ?_
  refine lv_aload_n hx hb dL_law__338 rfl (lv_at hlv 4 rfl) ?_
  refine lv_iload hx hb dL_law__339 (lv_at hlv 0 rfl) ?_
  refine lv_iconst (v := 1) hx hb dL_law__341 (by decide) ?_
  refine lv_iadd hx hb dL_law__342 ?_
  refine lt_i (y := 1) (by decide) ?_
  refine va_sld hx hb hX hbl hbA hS (vpd (by decide)) dL_law__343 ?_
  refine lt_i (y := xs 1) rfl ?_
  refine lv_aload_n hx hb dL_law__344 rfl (lv_at hlv 1 rfl) ?_
  refine cj_i (wr := [(q_2, .inr (12, [.int 0, .ref (u2.1 1), .int 0, .int 0, .int 0, .int 0, .int 0, .int 0, .int (-1), .ref (u2.1 9), .ref (u2.1 10), .ref (u2.1 11), .ref (u2.1 12), .ref (u2.1 13), .ref (u2.1 14), .ref (u2.1 15), .int 0, .int 0, .int 0, .ref (u2.1 19), .ref (u2.1 20), .ref (u2.1 21), .int 0, .ref (u2.1 23), .ref (u2.1 24), .ref (u2.1 25), .ref (u2.1 26), .ref (u2.1 27), .ref (u2.1 28), .int 0, .int 0, .int 0, .int 0, .ref (u2.1 33), .int (-1), .ref (u2.1 35), .int 0, .int 0])), ((u2.1 1), .inl (cy 0, 4, .inl (fun _ => 0)))]) (vx_runSW (As := [.ref q_1, .int (xs 1), .ref q_3]) (rest := []) ⟨hx, hb, hml, hown, hts⟩ (w_rainx l hl D cy sa q_1 u1.1 (xs 1) q_3 H.size hv) (vx_cwSW 3 hts gl_w_rainx rfl rfl rfl (by decide +kernel) ⟨Nat.le_of_ble_eq_true rfl, Nat.le_of_ble_eq_true rfl⟩) ⟨pcW.blind, (pcW.mk hP hD hS hA hG hT [0, 1, 2, 5] rfl (by decide))⟩ rfl rfl hlv.1 rfl (lv_room (Nat.le_of_ble_eq_true rfl)) dL_law__345 ⟨Nat.le_of_ble_eq_true rfl, Nat.le_of_ble_eq_true rfl⟩) hP hD hS hA [0, 1, 2, 5] [3, 4] rfl rfl (by decide) (by decide) (fun r3 u3 H locs hw3 hP hD hS => ?_)
  obtain rfl := hw3
  have hP : va_P D vwCl [(q_2, .inr (12, [.int 0, .ref (u2.1 1), .int 0, .int 0, .int 0, .int 0, .int 0, .int 0, .int (-1), .ref (u2.1 9), .ref (u2.1 10), .ref (u2.1 11), .ref (u2.1 12), .ref (u2.1 13), .ref (u2.1 14), .ref (u2.1 15), .int 0, .int 0, .int 0, .ref (u2.1 19), .ref (u2.1 20), .ref (u2.1 21), .int 0, .ref (u2.1 23), .ref (u2.1 24), .ref (u2.1 25), .ref (u2.1 26), .ref (u2.1 27), .ref (u2.1 28), .int 0, .int 0, .int 0, .int 0, .ref (u2.1 33), .int (-1), .ref (u2.1 35), .int 0, .int 0])), ((u2.1 1), .inl (cy 0, 4, .inl (fun _ => 0))), (q_3, .inl (cy 2, 1, .inr (.inl (fun _ => (u3.2.1 0 : Int32).toInt64))))] H := hP
  have hD : va_D A [(q_2, .inr (12, [.int 0, .ref (u2.1 1), .int 0, .int 0, .int 0, .int 0, .int 0, .int 0, .int (-1), .ref (u2.1 9), .ref (u2.1 10), .ref (u2.1 11), .ref (u2.1 12), .ref (u2.1 13), .ref (u2.1 14), .ref (u2.1 15), .int 0, .int 0, .int 0, .ref (u2.1 19), .ref (u2.1 20), .ref (u2.1 21), .int 0, .ref (u2.1 23), .ref (u2.1 24), .ref (u2.1 25), .ref (u2.1 26), .ref (u2.1 27), .ref (u2.1 28), .int 0, .int 0, .int 0, .int 0, .ref (u2.1 33), .int (-1), .ref (u2.1 35), .int 0, .int 0])), ((u2.1 1), .inl (cy 0, 4, .inl (fun _ => 0))), (q_3, .inl (cy 2, 1, .inr (.inl (fun _ => (u3.2.1 0 : Int32).toInt64))))] := hD
  refine lv_istore (lv' := [(5, .int 1), (4, .int 0), (3, .ref q_3), (2, .ref q_2), (1, .ref q_1), (0, .ref b)]) hx hb dL_law__348 hlv (by decide) rfl (fun ls hlv => ?_)
  refine lv_aload_n hx hb dL_law__350 rfl (lv_at hlv 3 rfl) ?_
  refine lv_aload_n hx hb dL_law__351 rfl (lv_at hlv 5 rfl) ?_
  refine lv_iload hx hb dL_law__352 (lv_at hlv 1 rfl) ?_
  refine lv_iconst (v := 1) hx hb dL_law__354 (by decide) ?_
  refine lv_iadd hx hb dL_law__355 ?_
  refine lt_i (y := 1) (by decide) ?_
  refine va_sld hx hb hX hbl hbA hS (vpd (by decide)) dL_law__356 ?_
  refine lt_i (y := xs 1) rfl ?_
  refine cj_i (wr := [(q_3, .inl (cy 2, 1, .inr (.inl (fun _ => (u3.2.1 0 : Int32).toInt64))))]) (va_runV (As := [.int (xs 1)]) (rest := []) ⟨hx, hb, hml, hown, hts⟩ (m_rainx l hl D cy sa q_2 u2.1 (xs 1) H.size hv) (cwV 1 hts gl_m_rainx rfl rfl rfl (by decide +kernel) ⟨Nat.le_of_ble_eq_true rfl, Nat.le_of_ble_eq_true rfl⟩) ⟨pcW.blind, (va_recv hG.1 hP (ci := 12) (q0 := 0) rfl rfl), (pcW.mk hP hD hS hA hG hT [0, 1] rfl (by decide))⟩ rfl rfl hlv.1 rfl (lv_room (Nat.le_of_ble_eq_true rfl)) dL_law__357 ⟨Nat.le_of_ble_eq_true rfl, Nat.le_of_ble_eq_true rfl⟩) hP hD hS hA [0, 1] [2] rfl rfl (by decide) (by decide) (fun r4 u4 H locs hw4 hP hD hS => ?_)
  obtain rfl := hw4
  have hP : va_P D vwCl [(q_3, .inl (cy 2, 1, .inr (.inl (fun _ => (u3.2.1 0 : Int32).toInt64)))), (q_2, .inr (12, [.int 1, .ref (u2.1 1), .int 0, .int 0, .int 0, .int 0, .int 0, .int 0, .int (-1), .ref (u2.1 9), .ref (u2.1 10), .ref (u2.1 11), .ref (u2.1 12), .ref (u2.1 13), .ref (u2.1 14), .ref (u2.1 15), .int 0, .int 0, .int 0, .ref (u2.1 19), .ref (u2.1 20), .ref (u2.1 21), .int 0, .ref (u2.1 23), .ref (u2.1 24), .ref (u2.1 25), .ref (u2.1 26), .ref (u2.1 27), .ref (u2.1 28), .int 0, .int 0, .int 0, .int 0, .ref (u2.1 33), .int (-1), .ref (u2.1 35), .int 0, .int 0]))] H := hP
  have hD : va_D A [(q_3, .inl (cy 2, 1, .inr (.inl (fun _ => (u3.2.1 0 : Int32).toInt64)))), (q_2, .inr (12, [.int 1, .ref (u2.1 1), .int 0, .int 0, .int 0, .int 0, .int 0, .int 0, .int (-1), .ref (u2.1 9), .ref (u2.1 10), .ref (u2.1 11), .ref (u2.1 12), .ref (u2.1 13), .ref (u2.1 14), .ref (u2.1 15), .int 0, .int 0, .int 0, .ref (u2.1 19), .ref (u2.1 20), .ref (u2.1 21), .int 0, .ref (u2.1 23), .ref (u2.1 24), .ref (u2.1 25), .ref (u2.1 26), .ref (u2.1 27), .ref (u2.1 28), .int 0, .int 0, .int 0, .int 0, .ref (u2.1 33), .int (-1), .ref (u2.1 35), .int 0, .int 0]))] := hD
  refine lv_istore (lv' := [(6, .int 0), (5, .int 1), (4, .int 0), (3, .ref q_3), (2, .ref q_2), (1, .ref q_1), (0, .ref b)]) hx hb dL_law__360 hlv (by decide) rfl (fun ls hlv => ?_)
  refine lv_aload_n hx hb dL_law__362 rfl (lv_at hlv 4 rfl) ?_
  refine cj_i (wr := [(q_3, .inl (cy 2, 1, .inr (.inl (fun _ => (u3.2.1 0 : Int32).toInt64))))]) (va_runV (As := []) (rest := []) ⟨hx, hb, hml, hown, hts⟩ (c_thrown l hl D cy sa q_2 u2.1 1 0 0 0 0 0 0 (-1) 0 0 0 0 0 0 0 0 (-1) 0 0 H.size) (cwV 0 hts gl_c_thrown rfl rfl rfl (by decide +kernel) ⟨Nat.le_of_ble_eq_true rfl, Nat.le_of_ble_eq_true rfl⟩) ⟨pcW.blind, (va_recv hG.1 hP (ci := 12) (q0 := 1) rfl rfl), (pcW.mk hP hD hS hA hG hT [1] rfl (by decide))⟩ rfl rfl hlv.1 rfl (lv_room (Nat.le_of_ble_eq_true rfl)) dL_law__363 ⟨Nat.le_of_ble_eq_true rfl, Nat.le_of_ble_eq_true rfl⟩) hP hD hS hA [1] [0] rfl rfl (by decide) (by decide) (fun r5 u5 H locs hw5 hP hD hS => ?_)
  obtain rfl := hw5
  have hP : va_P D vwCl [(q_3, .inl (cy 2, 1, .inr (.inl (fun _ => (u3.2.1 0 : Int32).toInt64))))] H := hP
  have hD : va_D A [(q_3, .inl (cy 2, 1, .inr (.inl (fun _ => (u3.2.1 0 : Int32).toInt64))))] := hD
  refine lv_iload hx hb dL_law__366 (lv_at hlv 1 rfl) ?_
  refine lv_icmp_eq (tgt := 373) hx hb dL_law__368 (by decide) (fun _ => ?_) (fun c => absurd (by decide) c)
  refine lv_iload hx hb dL_law__373 (lv_at hlv 1 rfl) ?_
  refine lv_if_ne (tgt := 390) hx hb dL_law__375 (by decide) (fun _ => ?_) (fun c => absurd c (by decide))
  refine lv_goto (tgt := 2755) hx hb dL_law__390 (by decide) ?_
  refine lv_iinc (v := 10) (lv' := [(4, .int 10), (6, .int 0), (5, .int 1), (3, .ref q_3), (2, .ref q_2), (1, .ref q_1), (0, .ref b)]) hx hb dL_law__2755 hlv (k := 2) rfl (by decide) (by decide) rfl (fun ls hlv => ?_)
  refine lv_goto (tgt := 23) hx hb dL_law__2758 (by decide) ?_
  refine lv_iload hx hb dL_law__23 (lv_at hlv 0 rfl) ?_
  refine lv_aload_n hx hb dL_law__25 rfl (lv_at hlv 6 rfl) ?_
  refine va_slen hx hb hX hbl hbA hS dL_law__26 ?_
  refine lt_i (y := 10) (by decide) ?_
  refine lv_bipush (v := 10) hx hb dL_law__27 (by decide) ?_
  refine lv_isub hx hb dL_law__29 ?_
  refine lt_i (y := 0) (by decide) ?_
  refine lv_icmp_gt (tgt := 2761) hx hb dL_law__30 (by decide) (fun _ => ?_) (fun c => absurd (by decide) c)
  refine lv_iconst (v := 1) hx hb dL_law__2761 (by decide) ?_
  refine va_forget (fun q hq => by have h9 := hS.2.2 q hq; rw [hAe] at h9; exact h9) ?_
  refine W.widen (k := 600002) (n := 7302232) (Nat.le_of_ble_eq_true rfl) (Nat.le_of_ble_eq_true rfl) ?_
  exact lw_ret hx hb hr hlocks dL_law__2762
set_option maxHeartbeats 4000000 in
set_option maxRecDepth 100000 in
theorem law_law0 {p : Program} {e : Env} {s : State} {m : MethodId} {below : List Frame} {meth : Method} {c : Code} (l : Launch) (hl : l.stackTraces = false) {b : Nat} {xs : Nat → Int32} {D : va_G} {cy : Nat → ClassId} {sa : Nat → Nat} {A : Nat → Prop} (hAe : A = fun q => s.heap.size ≤ q) (C0 : lw_At p s m meth c b 10 xs) (hG : GC D cy sa s) (hT : TH A s s.heap) (h63 : xs 0 &&& 63 = 3) (hv1 : xs 1 = 0) : W p l e room_1 s m #[Value.ref b] below meth c s.heap [] 0 0 (lw_Z below #[Value.ref b] s) (entryFrame m ([Value.ref b] : List Value).toArray 7) := by
  obtain ⟨hx, hb, hr, hml, hown0, hts0, hX, hbl, hlocks, hgv⟩ := id C0
  have hown : s.vm.findClass RL = some m.cls := hown0
  have hts := hts0
  have hA : ∀ q : Nat, s.heap.size ≤ q → A q := fun q h => by rw [hAe]; exact h
  have hbA : ¬ A b := by rw [hAe]; exact Nat.not_le.mpr hbl
  have hS : va_S A s.heap s.heap [] := va_S.rf
  have hP : va_P D vwCl [] s.heap := fun k q h => by simp at h
  have hD : va_D A [] := ⟨fun i j p q h => by simp at h, fun k q h => by simp at h⟩
  have hl0 := lv_entry ([.ref b]) (n := 7) (Nat.le_of_ble_eq_true rfl)
  rw [lg_entry_eq]
  generalize (lg_sl ([.ref b]) ++ List.replicate (7 - (lg_sl ([.ref b])).length) Slot.unset).toArray = ls at hl0 ⊢
  have hlv : lv_has ls 7 [(0, .ref b)] := hl0
  have cl8 := hts (.classLink RL 8 RX11) lwd_0
  have in11 := hts (.instantiable RX11 14) lwd_1
  have ini11 := hts (.initialized RX11) lwd_2
  have ini_RX11 := hts (.initialized RX11) lwd_2
  have ml117 := hts (.methodLink RL 117 yX11_init) lwd_3
  have im_X11_init := hts (.instanceMethod yX11_init) lwd_4
  have cl118 := hts (.classLink RL 118 RX12) lwd_5
  have in12 := hts (.instantiable RX12 38) lwd_6
  have ini12 := hts (.initialized RX12) lwd_7
  have ini_RX12 := hts (.initialized RX12) lwd_7
  have ml120 := hts (.methodLink RL 120 yX12_init) lwd_8
  have im_X12_init := hts (.instanceMethod yX12_init) lwd_9
  have ac2 := hts (.arrayClass .long) lwd_10
  refine va_new (ci := 11) (fs := [.null, .null, .null, .int 0, .int 0, .null, .null, .null, .null, .null, .int 0, .null, .null, .null]) (C := RX11) (T := TX11) (N := 14) hx hb hts inX11 tyX11 tyX11_ok hown cl8 in11 ini11 hG.1 hP hD hS hA rfl (by decide) (Nat.le_of_ble_eq_true rfl) (Nat.le_of_ble_eq_true rfl) dL_law__0 (fun q_1 H hP hD hS => ?_)
  have hP : va_P D vwCl [(q_1, .inr (11, [.null, .null, .null, .int 0, .int 0, .null, .null, .null, .null, .null, .int 0, .null, .null, .null]))] H := hP
  have hD : va_D A [(q_1, .inr (11, [.null, .null, .null, .int 0, .int 0, .null, .null, .null, .null, .null, .int 0, .null, .null, .null]))] := hD
  refine lv_dup hx hb dL_law__3 rfl ?_
  refine cj_v (wr := []) (va_runI (As := []) (rest := [.ref q_1]) ⟨hx, hb, hml, hown, hts⟩ (c_K_law0 l hl D cy sa q_1 H.size) (cwI 0 hts gl_X11_init rfl rfl rfl ini_RX11 ml117 im_X11_init rfl (by decide +kernel) ⟨Nat.le_of_ble_eq_true rfl, Nat.le_of_ble_eq_true rfl⟩) ⟨pcW.blind, (pcW.mk hP hD hS hA hG hT [0] rfl (by decide))⟩ rfl rfl hlv.1 rfl (lv_room (Nat.le_of_ble_eq_true rfl)) dL_law__4 ⟨Nat.le_of_ble_eq_true rfl, Nat.le_of_ble_eq_true rfl⟩) hP hD hS hA [0] [] rfl rfl (by decide) (by decide) (fun u1 H locs hw1 hP hD hS => ?_)
  have hP : va_P D vwCl [(q_1, .inr (11, [.ref (u1.1 0), .ref (u1.1 1), .ref (u1.1 2), .int 0, .int 0, .ref (u1.1 5), .ref (u1.1 6), .ref (u1.1 7), .ref (u1.1 8), .ref (u1.1 9), .int 0, .ref (u1.1 11), .ref (u1.1 12), .ref (u1.1 13)])), ((u1.1 0), .inr (8, [.ref (u1.1 20), .int 0, .int 0, .int 0, .int 0, .int 0, .int (-1)])), ((u1.1 2), .inl (cy 5, 4, .inr (.inr (.inr (.inr (fun k => some (u1.1 (110 + k)))))))), ((u1.1 110), .inr (1, [.ref (u1.1 53), .int 0, .ref (u1.1 54), .ref (u1.1 55)])), ((u1.1 54), .inl (cy 0, 5, .inl (fun _ => 0)))] H := hP
  have hD : va_D A [(q_1, .inr (11, [.ref (u1.1 0), .ref (u1.1 1), .ref (u1.1 2), .int 0, .int 0, .ref (u1.1 5), .ref (u1.1 6), .ref (u1.1 7), .ref (u1.1 8), .ref (u1.1 9), .int 0, .ref (u1.1 11), .ref (u1.1 12), .ref (u1.1 13)])), ((u1.1 0), .inr (8, [.ref (u1.1 20), .int 0, .int 0, .int 0, .int 0, .int 0, .int (-1)])), ((u1.1 2), .inl (cy 5, 4, .inr (.inr (.inr (.inr (fun k => some (u1.1 (110 + k)))))))), ((u1.1 110), .inr (1, [.ref (u1.1 53), .int 0, .ref (u1.1 54), .ref (u1.1 55)])), ((u1.1 54), .inl (cy 0, 5, .inl (fun _ => 0)))] := hD
  refine lv_astore_n (lv' := [(1, .ref q_1), (0, .ref b)]) hx hb dL_law__7 rfl hlv (by decide) rfl (fun ls hlv => ?_)
  refine va_new (ci := 12) (fs := [.int 0, .null, .int 0, .int 0, .int 0, .int 0, .int 0, .int 0, .int 0, .null, .null, .null, .null, .null, .null, .null, .int 0, .int 0, .int 0, .null, .null, .null, .int 0, .null, .null, .null, .null, .null, .null, .int 0, .int 0, .int 0, .int 0, .null, .int 0, .null, .int 0, .int 0]) (C := RX12) (T := TX12) (N := 38) hx hb hts inX12 tyX12 tyX12_ok hown cl118 in12 ini12 hG.1 hP hD hS hA rfl (by decide) (Nat.le_of_ble_eq_true rfl) (Nat.le_of_ble_eq_true rfl) dL_law__8 (fun q_2 H hP hD hS => ?_)
  have hP : va_P D vwCl [(q_1, .inr (11, [.ref (u1.1 0), .ref (u1.1 1), .ref (u1.1 2), .int 0, .int 0, .ref (u1.1 5), .ref (u1.1 6), .ref (u1.1 7), .ref (u1.1 8), .ref (u1.1 9), .int 0, .ref (u1.1 11), .ref (u1.1 12), .ref (u1.1 13)])), ((u1.1 0), .inr (8, [.ref (u1.1 20), .int 0, .int 0, .int 0, .int 0, .int 0, .int (-1)])), ((u1.1 2), .inl (cy 5, 4, .inr (.inr (.inr (.inr (fun k => some (u1.1 (110 + k)))))))), ((u1.1 110), .inr (1, [.ref (u1.1 53), .int 0, .ref (u1.1 54), .ref (u1.1 55)])), ((u1.1 54), .inl (cy 0, 5, .inl (fun _ => 0))), (q_2, .inr (12, [.int 0, .null, .int 0, .int 0, .int 0, .int 0, .int 0, .int 0, .int 0, .null, .null, .null, .null, .null, .null, .null, .int 0, .int 0, .int 0, .null, .null, .null, .int 0, .null, .null, .null, .null, .null, .null, .int 0, .int 0, .int 0, .int 0, .null, .int 0, .null, .int 0, .int 0]))] H := hP
  have hD : va_D A [(q_1, .inr (11, [.ref (u1.1 0), .ref (u1.1 1), .ref (u1.1 2), .int 0, .int 0, .ref (u1.1 5), .ref (u1.1 6), .ref (u1.1 7), .ref (u1.1 8), .ref (u1.1 9), .int 0, .ref (u1.1 11), .ref (u1.1 12), .ref (u1.1 13)])), ((u1.1 0), .inr (8, [.ref (u1.1 20), .int 0, .int 0, .int 0, .int 0, .int 0, .int (-1)])), ((u1.1 2), .inl (cy 5, 4, .inr (.inr (.inr (.inr (fun k => some (u1.1 (110 + k)))))))), ((u1.1 110), .inr (1, [.ref (u1.1 53), .int 0, .ref (u1.1 54), .ref (u1.1 55)])), ((u1.1 54), .inl (cy 0, 5, .inl (fun _ => 0))), (q_2, .inr (12, [.int 0, .null, .int 0, .int 0, .int 0, .int 0, .int 0, .int 0, .int 0, .null, .null, .null, .null, .null, .null, .null, .int 0, .int 0, .int 0, .null, .null, .null, .int 0, .null, .null, .null, .null, .null, .null, .int 0, .int 0, .int 0, .int 0, .null, .int 0, .null, .int 0, .int 0]))] := hD
  refine lv_dup hx hb dL_law__11 rfl ?_
  refine cj_v (wr := [(q_1, .inr (11, [.ref (u1.1 0), .ref (u1.1 1), .ref (u1.1 2), .int 0, .int 0, .ref (u1.1 5), .ref (u1.1 6), .ref (u1.1 7), .ref (u1.1 8), .ref (u1.1 9), .int 0, .ref (u1.1 11), .ref (u1.1 12), .ref (u1.1 13)])), ((u1.1 0), .inr (8, [.ref (u1.1 20), .int 0, .int 0, .int 0, .int 0, .int 0, .int (-1)])), ((u1.1 2), .inl (cy 5, 4, .inr (.inr (.inr (.inr (fun k => some (u1.1 (110 + k)))))))), ((u1.1 110), .inr (1, [.ref (u1.1 53), .int 0, .ref (u1.1 54), .ref (u1.1 55)])), ((u1.1 54), .inl (cy 0, 5, .inl (fun _ => 0)))]) (va_runI (As := []) (rest := [.ref q_2]) ⟨hx, hb, hml, hown, hts⟩ (c_M_law0 l hl D cy sa q_2 H.size) (cwI 0 hts gl_X12_init rfl rfl rfl ini_RX12 ml120 im_X12_init rfl (by decide +kernel) ⟨Nat.le_of_ble_eq_true rfl, Nat.le_of_ble_eq_true rfl⟩) ⟨pcW.blind, (pcW.mk hP hD hS hA hG hT [5] rfl (by decide))⟩ rfl rfl hlv.1 rfl (lv_room (Nat.le_of_ble_eq_true rfl)) dL_law__12 ⟨Nat.le_of_ble_eq_true rfl, Nat.le_of_ble_eq_true rfl⟩) hP hD hS hA [5] [0, 1, 2, 3, 4] rfl rfl (by decide) (by decide) (fun u2 H locs hw2 hP hD hS => ?_)
  have hP : va_P D vwCl [(q_1, .inr (11, [.ref (u1.1 0), .ref (u1.1 1), .ref (u1.1 2), .int 0, .int 0, .ref (u1.1 5), .ref (u1.1 6), .ref (u1.1 7), .ref (u1.1 8), .ref (u1.1 9), .int 0, .ref (u1.1 11), .ref (u1.1 12), .ref (u1.1 13)])), ((u1.1 0), .inr (8, [.ref (u1.1 20), .int 0, .int 0, .int 0, .int 0, .int 0, .int (-1)])), ((u1.1 2), .inl (cy 5, 4, .inr (.inr (.inr (.inr (fun k => some (u1.1 (110 + k)))))))), ((u1.1 110), .inr (1, [.ref (u1.1 53), .int 0, .ref (u1.1 54), .ref (u1.1 55)])), ((u1.1 54), .inl (cy 0, 5, .inl (fun _ => 0))), (q_2, .inr (12, [.int 0, .ref (u2.1 1), .int 0, .int 0, .int 0, .int 0, .int 0, .int 0, .int (-1), .ref (u2.1 9), .ref (u2.1 10), .ref (u2.1 11), .ref (u2.1 12), .ref (u2.1 13), .ref (u2.1 14), .ref (u2.1 15), .int 0, .int 0, .int 0, .ref (u2.1 19), .ref (u2.1 20), .ref (u2.1 21), .int 0, .ref (u2.1 23), .ref (u2.1 24), .ref (u2.1 25), .ref (u2.1 26), .ref (u2.1 27), .ref (u2.1 28), .int 0, .int 0, .int 0, .int 0, .ref (u2.1 33), .int (-1), .ref (u2.1 35), .int 0, .int 0])), ((u2.1 25), .inl (cy 0, 20, .inl (fun _ => 0))), ((u2.1 26), .inl (cy 0, 20, .inl (fun _ => 0)))] H := hP
  have hD : va_D A [(q_1, .inr (11, [.ref (u1.1 0), .ref (u1.1 1), .ref (u1.1 2), .int 0, .int 0, .ref (u1.1 5), .ref (u1.1 6), .ref (u1.1 7), .ref (u1.1 8), .ref (u1.1 9), .int 0, .ref (u1.1 11), .ref (u1.1 12), .ref (u1.1 13)])), ((u1.1 0), .inr (8, [.ref (u1.1 20), .int 0, .int 0, .int 0, .int 0, .int 0, .int (-1)])), ((u1.1 2), .inl (cy 5, 4, .inr (.inr (.inr (.inr (fun k => some (u1.1 (110 + k)))))))), ((u1.1 110), .inr (1, [.ref (u1.1 53), .int 0, .ref (u1.1 54), .ref (u1.1 55)])), ((u1.1 54), .inl (cy 0, 5, .inl (fun _ => 0))), (q_2, .inr (12, [.int 0, .ref (u2.1 1), .int 0, .int 0, .int 0, .int 0, .int 0, .int 0, .int (-1), .ref (u2.1 9), .ref (u2.1 10), .ref (u2.1 11), .ref (u2.1 12), .ref (u2.1 13), .ref (u2.1 14), .ref (u2.1 15), .int 0, .int 0, .int 0, .ref (u2.1 19), .ref (u2.1 20), .ref (u2.1 21), .int 0, .ref (u2.1 23), .ref (u2.1 24), .ref (u2.1 25), .ref (u2.1 26), .ref (u2.1 27), .ref (u2.1 28), .int 0, .int 0, .int 0, .int 0, .ref (u2.1 33), .int (-1), .ref (u2.1 35), .int 0, .int 0])), ((u2.1 25), .inl (cy 0, 20, .inl (fun _ => 0))), ((u2.1 26), .inl (cy 0, 20, .inl (fun _ => 0)))] := hD
  refine lv_astore_n (lv' := [(2, .ref q_2), (1, .ref q_1), (0, .ref b)]) hx hb dL_law__15 rfl hlv (by decide) rfl (fun ls hlv => ?_)
  refine lv_iconst (v := 1) hx hb dL_law__16 (by decide) ?_
  refine nw_a (atype := .long) (cy := cy) (a0 := (1, .inr (.inl (fun _ => 0)))) (N' := 1) hx hb ac2 (ty := .long) rfl 2 rfl (fun C h => nomatch h) hG.1 hP hD hS hA (fun cA => rfl) (by decide) (by decide) (Nat.le_of_ble_eq_true rfl) (Nat.le_of_ble_eq_true rfl) (Nat.le_of_ble_eq_true rfl) dL_law__17 (fun q_3 H hP hD hS => ?_)
  have hP : va_P D vwCl [(q_1, .inr (11, [.ref (u1.1 0), .ref (u1.1 1), .ref (u1.1 2), .int 0, .int 0, .ref (u1.1 5), .ref (u1.1 6), .ref (u1.1 7), .ref (u1.1 8), .ref (u1.1 9), .int 0, .ref (u1.1 11), .ref (u1.1 12), .ref (u1.1 13)])), ((u1.1 0), .inr (8, [.ref (u1.1 20), .int 0, .int 0, .int 0, .int 0, .int 0, .int (-1)])), ((u1.1 2), .inl (cy 5, 4, .inr (.inr (.inr (.inr (fun k => some (u1.1 (110 + k)))))))), ((u1.1 110), .inr (1, [.ref (u1.1 53), .int 0, .ref (u1.1 54), .ref (u1.1 55)])), ((u1.1 54), .inl (cy 0, 5, .inl (fun _ => 0))), (q_2, .inr (12, [.int 0, .ref (u2.1 1), .int 0, .int 0, .int 0, .int 0, .int 0, .int 0, .int (-1), .ref (u2.1 9), .ref (u2.1 10), .ref (u2.1 11), .ref (u2.1 12), .ref (u2.1 13), .ref (u2.1 14), .ref (u2.1 15), .int 0, .int 0, .int 0, .ref (u2.1 19), .ref (u2.1 20), .ref (u2.1 21), .int 0, .ref (u2.1 23), .ref (u2.1 24), .ref (u2.1 25), .ref (u2.1 26), .ref (u2.1 27), .ref (u2.1 28), .int 0, .int 0, .int 0, .int 0, .ref (u2.1 33), .int (-1), .ref (u2.1 35), .int 0, .int 0])), ((u2.1 25), .inl (cy 0, 20, .inl (fun _ => 0))), ((u2.1 26), .inl (cy 0, 20, .inl (fun _ => 0))), (q_3, .inl (cy 2, 1, .inr (.inl (fun _ => 0))))] H := hP
  have hD : va_D A [(q_1, .inr (11, [.ref (u1.1 0), .ref (u1.1 1), .ref (u1.1 2), .int 0, .int 0, .ref (u1.1 5), .ref (u1.1 6), .ref (u1.1 7), .ref (u1.1 8), .ref (u1.1 9), .int 0, .ref (u1.1 11), .ref (u1.1 12), .ref (u1.1 13)])), ((u1.1 0), .inr (8, [.ref (u1.1 20), .int 0, .int 0, .int 0, .int 0, .int 0, .int (-1)])), ((u1.1 2), .inl (cy 5, 4, .inr (.inr (.inr (.inr (fun k => some (u1.1 (110 + k)))))))), ((u1.1 110), .inr (1, [.ref (u1.1 53), .int 0, .ref (u1.1 54), .ref (u1.1 55)])), ((u1.1 54), .inl (cy 0, 5, .inl (fun _ => 0))), (q_2, .inr (12, [.int 0, .ref (u2.1 1), .int 0, .int 0, .int 0, .int 0, .int 0, .int 0, .int (-1), .ref (u2.1 9), .ref (u2.1 10), .ref (u2.1 11), .ref (u2.1 12), .ref (u2.1 13), .ref (u2.1 14), .ref (u2.1 15), .int 0, .int 0, .int 0, .ref (u2.1 19), .ref (u2.1 20), .ref (u2.1 21), .int 0, .ref (u2.1 23), .ref (u2.1 24), .ref (u2.1 25), .ref (u2.1 26), .ref (u2.1 27), .ref (u2.1 28), .int 0, .int 0, .int 0, .int 0, .ref (u2.1 33), .int (-1), .ref (u2.1 35), .int 0, .int 0])), ((u2.1 25), .inl (cy 0, 20, .inl (fun _ => 0))), ((u2.1 26), .inl (cy 0, 20, .inl (fun _ => 0))), (q_3, .inl (cy 2, 1, .inr (.inl (fun _ => 0))))] := hD
  refine lv_astore_n (lv' := [(3, .ref q_3), (2, .ref q_2), (1, .ref q_1), (0, .ref b)]) hx hb dL_law__19 rfl hlv (by decide) rfl (fun ls hlv => ?_)
  refine lv_iconst (v := 0) hx hb dL_law__20 (by decide) ?_
  refine lv_istore (lv' := [(4, .int 0), (3, .ref q_3), (2, .ref q_2), (1, .ref q_1), (0, .ref b)]) hx hb dL_law__21 hlv (by decide) rfl (fun ls hlv => ?_)
  refine lv_iload hx hb dL_law__23 (lv_at hlv 0 rfl) ?_
  refine lv_aload_n hx hb dL_law__25 rfl (lv_at hlv 4 rfl) ?_
  refine va_slen hx hb hX hbl hbA hS dL_law__26 ?_
  refine lt_i (y := 10) (by decide) ?_
  refine lv_bipush (v := 10) hx hb dL_law__27 (by decide) ?_
  refine lv_isub hx hb dL_law__29 ?_
  refine lt_i (y := 0) (by decide) ?_
  refine lv_icmp_gt (tgt := 2761) hx hb dL_law__30 (by decide) (fun c => absurd c (by decide)) (fun _ => ?_)
  refine lv_aload_n hx hb dL_law__33 rfl (lv_at hlv 4 rfl) ?_
  refine lv_iload hx hb dL_law__34 (lv_at hlv 0 rfl) ?_
  refine va_sld hx hb hX hbl hbA hS (vpd (by decide)) dL_law__36 ?_
  refine lt_i (y := xs 0) rfl ?_
  refine lv_bipush (v := 63) hx hb dL_law__37 (by decide) ?_
  refine lv_iand hx hb dL_law__39 ?_
  refine lt_i (y := 3) h63 ?_
  refine lv_tableIn (tgt := 393) hx hb dL_law__40 (by decide) (by decide) rfl (by decide) ?_
  refine lv_aload_n hx hb dL_law__393 rfl (lv_at hlv 3 rfl) ?_
  refine lv_aload_n hx hb dL_law__394 rfl (lv_at hlv 4 rfl) ?_
  refine lv_iload hx hb dL_law__395 (lv_at hlv 0 rfl) ?_
  refine lv_iconst (v := 1) hx hb dL_law__397 (by decide) ?_
  refine lv_iadd hx hb dL_law__398 ?_
  refine lt_i (y := 1) (by decide) ?_
  refine va_sld hx hb hX hbl hbA hS (vpd (by decide)) dL_law__399 ?_
  refine lt_i (y := 0) hv1 ?_
  refine lv_aload_n hx hb dL_law__400 rfl (lv_at hlv 1 rfl) ?_
  refine cj_i (wr := [(q_2, .inr (12, [.int 0, .ref (u2.1 1), .int 0, .int 0, .int 0, .int 0, .int 0, .int 0, .int (-1), .ref (u2.1 9), .ref (u2.1 10), .ref (u2.1 11), .ref (u2.1 12), .ref (u2.1 13), .ref (u2.1 14), .ref (u2.1 15), .int 0, .int 0, .int 0, .ref (u2.1 19), .ref (u2.1 20), .ref (u2.1 21), .int 0, .ref (u2.1 23), .ref (u2.1 24), .ref (u2.1 25), .ref (u2.1 26), .ref (u2.1 27), .ref (u2.1 28), .int 0, .int 0, .int 0, .int 0, .ref (u2.1 33), .int (-1), .ref (u2.1 35), .int 0, .int 0])), ((u2.1 25), .inl (cy 0, 20, .inl (fun _ => 0))), ((u2.1 26), .inl (cy 0, 20, .inl (fun _ => 0)))]) (vx_runSW (As := [.ref q_1, .int 0, .ref q_3]) (rest := []) ⟨hx, hb, hml, hown, hts⟩ (w_law0 l hl D cy sa q_1 u1.1 (fun _ => 0) q_3 H.size) (vx_cwSW 3 hts gl_w_law0 rfl rfl rfl (by decide +kernel) ⟨Nat.le_of_ble_eq_true rfl, Nat.le_of_ble_eq_true rfl⟩) ⟨pcW.blind, (pcW.mk hP hD hS hA hG hT [0, 1, 2, 3, 4, 8] rfl (by decide))⟩ rfl rfl hlv.1 rfl (lv_room (Nat.le_of_ble_eq_true rfl)) dL_law__401 ⟨Nat.le_of_ble_eq_true rfl, Nat.le_of_ble_eq_true rfl⟩) hP hD hS hA [0, 1, 2, 3, 4, 8] [5, 6, 7] rfl rfl (by decide) (by decide) (fun r3 u3 H locs hw3 hP hD hS => ?_)
  obtain ⟨rfl, he3_0⟩ := hw3
  rw [he3_0] at hP hD
  have hP : va_P D vwCl [(q_2, .inr (12, [.int 0, .ref (u2.1 1), .int 0, .int 0, .int 0, .int 0, .int 0, .int 0, .int (-1), .ref (u2.1 9), .ref (u2.1 10), .ref (u2.1 11), .ref (u2.1 12), .ref (u2.1 13), .ref (u2.1 14), .ref (u2.1 15), .int 0, .int 0, .int 0, .ref (u2.1 19), .ref (u2.1 20), .ref (u2.1 21), .int 0, .ref (u2.1 23), .ref (u2.1 24), .ref (u2.1 25), .ref (u2.1 26), .ref (u2.1 27), .ref (u2.1 28), .int 0, .int 0, .int 0, .int 0, .ref (u2.1 33), .int (-1), .ref (u2.1 35), .int 0, .int 0])), ((u2.1 25), .inl (cy 0, 20, .inl (fun _ => 0))), ((u2.1 26), .inl (cy 0, 20, .inl (fun _ => 0))), (q_3, .inl (cy 2, 1, .inr (.inl (fun _ => (0 : Int32).toInt64))))] H := hP
  have hD : va_D A [(q_2, .inr (12, [.int 0, .ref (u2.1 1), .int 0, .int 0, .int 0, .int 0, .int 0, .int 0, .int (-1), .ref (u2.1 9), .ref (u2.1 10), .ref (u2.1 11), .ref (u2.1 12), .ref (u2.1 13), .ref (u2.1 14), .ref (u2.1 15), .int 0, .int 0, .int 0, .ref (u2.1 19), .ref (u2.1 20), .ref (u2.1 21), .int 0, .ref (u2.1 23), .ref (u2.1 24), .ref (u2.1 25), .ref (u2.1 26), .ref (u2.1 27), .ref (u2.1 28), .int 0, .int 0, .int 0, .int 0, .ref (u2.1 33), .int (-1), .ref (u2.1 35), .int 0, .int 0])), ((u2.1 25), .inl (cy 0, 20, .inl (fun _ => 0))), ((u2.1 26), .inl (cy 0, 20, .inl (fun _ => 0))), (q_3, .inl (cy 2, 1, .inr (.inl (fun _ => (0 : Int32).toInt64))))] := hD
  refine lv_istore (lv' := [(5, .int 0), (4, .int 0), (3, .ref q_3), (2, .ref q_2), (1, .ref q_1), (0, .ref b)]) hx hb dL_law__404 hlv (by decide) rfl (fun ls hlv => ?_)
  refine lv_aload_n hx hb dL_law__406 rfl (lv_at hlv 3 rfl) ?_
  refine lv_aload_n hx hb dL_law__407 rfl (lv_at hlv 5 rfl) ?_
  refine lv_iload hx hb dL_law__408 (lv_at hlv 1 rfl) ?_
  refine lv_iconst (v := 1) hx hb dL_law__410 (by decide) ?_
  refine lv_iadd hx hb dL_law__411 ?_
  refine lt_i (y := 1) (by decide) ?_
  refine va_sld hx hb hX hbl hbA hS (vpd (by decide)) dL_law__412 ?_
  refine lt_i (y := 0) hv1 ?_
  refine cj_i (wr := [(q_3, .inl (cy 2, 1, .inr (.inl (fun _ => (0 : Int32).toInt64))))]) (va_runV (As := [.int 0]) (rest := []) ⟨hx, hb, hml, hown, hts⟩ (m_law0 l hl D cy sa q_2 u2.1 H.size) (cwV 1 hts gl_m_law0 rfl rfl rfl (by decide +kernel) ⟨Nat.le_of_ble_eq_true rfl, Nat.le_of_ble_eq_true rfl⟩) ⟨pcW.blind, (va_recv hG.1 hP (ci := 12) (q0 := 0) rfl rfl), (pcW.mk hP hD hS hA hG hT [0, 1, 2] rfl (by decide))⟩ rfl rfl hlv.1 rfl (lv_room (Nat.le_of_ble_eq_true rfl)) dL_law__413 ⟨Nat.le_of_ble_eq_true rfl, Nat.le_of_ble_eq_true rfl⟩) hP hD hS hA [0, 1, 2] [3] rfl rfl (by decide) (by decide) (fun r4 u4 H locs hw4 hP hD hS => ?_)
  obtain rfl := hw4
  have hP : va_P D vwCl [(q_3, .inl (cy 2, 1, .inr (.inl (fun _ => (0 : Int32).toInt64)))), (q_2, .inr (12, [.int 0, .ref (u2.1 1), .int 0, .int 0, .int 0, .int (-1), .int 0, .int 0, .int (-1), .ref (u2.1 9), .ref (u2.1 10), .ref (u2.1 11), .ref (u2.1 12), .ref (u2.1 13), .ref (u2.1 14), .ref (u2.1 15), .int 0, .int 0, .int 1, .ref (u2.1 19), .ref (u2.1 20), .ref (u2.1 21), .int 0, .ref (u2.1 23), .ref (u2.1 24), .ref (u2.1 25), .ref (u2.1 26), .ref (u2.1 27), .ref (u2.1 28), .int 0, .int 0, .int 0, .int 0, .ref (u2.1 33), .int (-1), .ref (u2.1 35), .int 0, .int 0]))] H := hP
  have hD : va_D A [(q_3, .inl (cy 2, 1, .inr (.inl (fun _ => (0 : Int32).toInt64)))), (q_2, .inr (12, [.int 0, .ref (u2.1 1), .int 0, .int 0, .int 0, .int (-1), .int 0, .int 0, .int (-1), .ref (u2.1 9), .ref (u2.1 10), .ref (u2.1 11), .ref (u2.1 12), .ref (u2.1 13), .ref (u2.1 14), .ref (u2.1 15), .int 0, .int 0, .int 1, .ref (u2.1 19), .ref (u2.1 20), .ref (u2.1 21), .int 0, .ref (u2.1 23), .ref (u2.1 24), .ref (u2.1 25), .ref (u2.1 26), .ref (u2.1 27), .ref (u2.1 28), .int 0, .int 0, .int 0, .int 0, .ref (u2.1 33), .int (-1), .ref (u2.1 35), .int 0, .int 0]))] := hD
  refine lv_istore (lv' := [(6, .int 0), (5, .int 0), (4, .int 0), (3, .ref q_3), (2, .ref q_2), (1, .ref q_1), (0, .ref b)]) hx hb dL_law__416 hlv (by decide) rfl (fun ls hlv => ?_)
  refine lv_aload_n hx hb dL_law__418 rfl (lv_at hlv 4 rfl) ?_
  refine cj_i (wr := [(q_3, .inl (cy 2, 1, .inr (.inl (fun _ => (0 : Int32).toInt64))))]) (va_runV (As := []) (rest := []) ⟨hx, hb, hml, hown, hts⟩ (c_thrown l hl D cy sa q_2 u2.1 0 0 0 0 (-1) 0 0 (-1) 0 0 1 0 0 0 0 0 (-1) 0 0 H.size) (cwV 0 hts gl_c_thrown rfl rfl rfl (by decide +kernel) ⟨Nat.le_of_ble_eq_true rfl, Nat.le_of_ble_eq_true rfl⟩) ⟨pcW.blind, (va_recv hG.1 hP (ci := 12) (q0 := 1) rfl rfl), (pcW.mk hP hD hS hA hG hT [1] rfl (by decide))⟩ rfl rfl hlv.1 rfl (lv_room (Nat.le_of_ble_eq_true rfl)) dL_law__419 ⟨Nat.le_of_ble_eq_true rfl, Nat.le_of_ble_eq_true rfl⟩) hP hD hS hA [1] [0] rfl rfl (by decide) (by decide) (fun r5 u5 H locs hw5 hP hD hS => ?_)
  obtain rfl := hw5
  have hP : va_P D vwCl [(q_3, .inl (cy 2, 1, .inr (.inl (fun _ => (0 : Int32).toInt64))))] H := hP
  have hD : va_D A [(q_3, .inl (cy 2, 1, .inr (.inl (fun _ => (0 : Int32).toInt64))))] := hD
  refine lv_iload hx hb dL_law__422 (lv_at hlv 1 rfl) ?_
  refine lv_icmp_eq (tgt := 429) hx hb dL_law__424 (by decide) (fun _ => ?_) (fun c => absurd (by decide) c)
  refine lv_iload hx hb dL_law__429 (lv_at hlv 1 rfl) ?_
  refine lv_if_ne (tgt := 446) hx hb dL_law__431 (by decide) (fun c => absurd (by decide) c) (fun _ => ?_)
  refine lv_aload_n hx hb dL_law__434 rfl (lv_at hlv 3 rfl) ?_
  refine lv_iconst (v := 0) hx hb dL_law__435 (by decide) ?_
  refine va_lald hx hb hG.1 hP 0 2 rfl rfl (vpd (by decide)) dL_law__436 ?_
  refine ltv (y := .long ((0 : Int32).toInt64)) rfl ?_
  refine lv_iload hx hb dL_law__437 (lv_at hlv 0 rfl) ?_
  refine lv_i2l (v := (0 : Int32).toInt64) hx hb dL_law__439 rfl ?_
  refine W.lcmp hx hb dL_law__440 ?_
  refine lt_i (y := 0) (lcmp_self _) ?_
  refine lv_if_eq (tgt := 446) hx hb dL_law__441 (by decide) (fun _ => ?_) (fun c => absurd (by decide) c)
  refine lv_goto (tgt := 2755) hx hb dL_law__446 (by decide) ?_
  refine lv_iinc (v := 10) (lv' := [(4, .int 10), (6, .int 0), (5, .int 0), (3, .ref q_3), (2, .ref q_2), (1, .ref q_1), (0, .ref b)]) hx hb dL_law__2755 hlv (k := 2) rfl (by decide) (by decide) rfl (fun ls hlv => ?_)
  refine lv_goto (tgt := 23) hx hb dL_law__2758 (by decide) ?_
  refine lv_iload hx hb dL_law__23 (lv_at hlv 0 rfl) ?_
  refine lv_aload_n hx hb dL_law__25 rfl (lv_at hlv 6 rfl) ?_
  refine va_slen hx hb hX hbl hbA hS dL_law__26 ?_
  refine lt_i (y := 10) (by decide) ?_
  refine lv_bipush (v := 10) hx hb dL_law__27 (by decide) ?_
  refine lv_isub hx hb dL_law__29 ?_
  refine lt_i (y := 0) (by decide) ?_
  refine lv_icmp_gt (tgt := 2761) hx hb dL_law__30 (by decide) (fun _ => ?_) (fun c => absurd (by decide) c)
  refine lv_iconst (v := 1) hx hb dL_law__2761 (by decide) ?_
  refine va_forget (fun q hq => by have h9 := hS.2.2 q hq; rw [hAe] at h9; exact h9) ?_
  refine W.widen (k := 600002) (n := 7302232) (Nat.le_of_ble_eq_true rfl) (Nat.le_of_ble_eq_true rfl) ?_
  exact lw_ret hx hb hr hlocks dL_law__2762
set_option maxHeartbeats 4000000 in
set_option maxRecDepth 100000 in
theorem law_lawx {p : Program} {e : Env} {s : State} {m : MethodId} {below : List Frame} {meth : Method} {c : Code} (l : Launch) (hl : l.stackTraces = false) {b : Nat} {xs : Nat → Int32} {D : va_G} {cy : Nat → ClassId} {sa : Nat → Nat} {A : Nat → Prop} (hAe : A = fun q => s.heap.size ≤ q) (C0 : lw_At p s m meth c b 10 xs) (hG : GC D cy sa s) (hT : TH A s s.heap) (h63 : xs 0 &&& 63 = 3) (hv : ¬ (0 ≤ (xs 1) ∧ (xs 1) ≤ 0)) : W p l e room_1 s m #[Value.ref b] below meth c s.heap [] 0 0 (lw_Z below #[Value.ref b] s) (entryFrame m ([Value.ref b] : List Value).toArray 7) := by
  obtain ⟨hx, hb, hr, hml, hown0, hts0, hX, hbl, hlocks, hgv⟩ := id C0
  have hown : s.vm.findClass RL = some m.cls := hown0
  have hts := hts0
  have hA : ∀ q : Nat, s.heap.size ≤ q → A q := fun q h => by rw [hAe]; exact h
  have hbA : ¬ A b := by rw [hAe]; exact Nat.not_le.mpr hbl
  have hS : va_S A s.heap s.heap [] := va_S.rf
  have hP : va_P D vwCl [] s.heap := fun k q h => by simp at h
  have hD : va_D A [] := ⟨fun i j p q h => by simp at h, fun k q h => by simp at h⟩
  have hl0 := lv_entry ([.ref b]) (n := 7) (Nat.le_of_ble_eq_true rfl)
  rw [lg_entry_eq]
  generalize (lg_sl ([.ref b]) ++ List.replicate (7 - (lg_sl ([.ref b])).length) Slot.unset).toArray = ls at hl0 ⊢
  have hlv : lv_has ls 7 [(0, .ref b)] := hl0
  have cl8 := hts (.classLink RL 8 RX11) lwd_0
  have in11 := hts (.instantiable RX11 14) lwd_1
  have ini11 := hts (.initialized RX11) lwd_2
  have ini_RX11 := hts (.initialized RX11) lwd_2
  have ml117 := hts (.methodLink RL 117 yX11_init) lwd_3
  have im_X11_init := hts (.instanceMethod yX11_init) lwd_4
  have cl118 := hts (.classLink RL 118 RX12) lwd_5
  have in12 := hts (.instantiable RX12 38) lwd_6
  have ini12 := hts (.initialized RX12) lwd_7
  have ini_RX12 := hts (.initialized RX12) lwd_7
  have ml120 := hts (.methodLink RL 120 yX12_init) lwd_8
  have im_X12_init := hts (.instanceMethod yX12_init) lwd_9
  have ac2 := hts (.arrayClass .long) lwd_10
  refine va_new (ci := 11) (fs := [.null, .null, .null, .int 0, .int 0, .null, .null, .null, .null, .null, .int 0, .null, .null, .null]) (C := RX11) (T := TX11) (N := 14) hx hb hts inX11 tyX11 tyX11_ok hown cl8 in11 ini11 hG.1 hP hD hS hA rfl (by decide) (Nat.le_of_ble_eq_true rfl) (Nat.le_of_ble_eq_true rfl) dL_law__0 (fun q_1 H hP hD hS => ?_)
  have hP : va_P D vwCl [(q_1, .inr (11, [.null, .null, .null, .int 0, .int 0, .null, .null, .null, .null, .null, .int 0, .null, .null, .null]))] H := hP
  have hD : va_D A [(q_1, .inr (11, [.null, .null, .null, .int 0, .int 0, .null, .null, .null, .null, .null, .int 0, .null, .null, .null]))] := hD
  refine lv_dup hx hb dL_law__3 rfl ?_
  refine cj_v (wr := []) (va_runI (As := []) (rest := [.ref q_1]) ⟨hx, hb, hml, hown, hts⟩ (c_K_lawx l hl D cy sa q_1 H.size) (cwI 0 hts gl_X11_init rfl rfl rfl ini_RX11 ml117 im_X11_init rfl (by decide +kernel) ⟨Nat.le_of_ble_eq_true rfl, Nat.le_of_ble_eq_true rfl⟩) ⟨pcW.blind, (pcW.mk hP hD hS hA hG hT [0] rfl (by decide))⟩ rfl rfl hlv.1 rfl (lv_room (Nat.le_of_ble_eq_true rfl)) dL_law__4 ⟨Nat.le_of_ble_eq_true rfl, Nat.le_of_ble_eq_true rfl⟩) hP hD hS hA [0] [] rfl rfl (by decide) (by decide) (fun u1 H locs hw1 hP hD hS => ?_)
  have hP : va_P D vwCl [(q_1, .inr (11, [.ref (u1.1 0), .ref (u1.1 1), .ref (u1.1 2), .int 0, .int 0, .ref (u1.1 5), .ref (u1.1 6), .ref (u1.1 7), .ref (u1.1 8), .ref (u1.1 9), .int 0, .ref (u1.1 11), .ref (u1.1 12), .ref (u1.1 13)])), ((u1.1 0), .inr (8, [.ref (u1.1 20), .int 0, .int 0, .int 0, .int 0, .int 0, .int (-1)])), ((u1.1 13), .inl (cy 0, 4, .inl (fun _ => 0)))] H := hP
  have hD : va_D A [(q_1, .inr (11, [.ref (u1.1 0), .ref (u1.1 1), .ref (u1.1 2), .int 0, .int 0, .ref (u1.1 5), .ref (u1.1 6), .ref (u1.1 7), .ref (u1.1 8), .ref (u1.1 9), .int 0, .ref (u1.1 11), .ref (u1.1 12), .ref (u1.1 13)])), ((u1.1 0), .inr (8, [.ref (u1.1 20), .int 0, .int 0, .int 0, .int 0, .int 0, .int (-1)])), ((u1.1 13), .inl (cy 0, 4, .inl (fun _ => 0)))] := hD
  refine lv_astore_n (lv' := [(1, .ref q_1), (0, .ref b)]) hx hb dL_law__7 rfl hlv (by decide) rfl (fun ls hlv => ?_)
  refine va_new (ci := 12) (fs := [.int 0, .null, .int 0, .int 0, .int 0, .int 0, .int 0, .int 0, .int 0, .null, .null, .null, .null, .null, .null, .null, .int 0, .int 0, .int 0, .null, .null, .null, .int 0, .null, .null, .null, .null, .null, .null, .int 0, .int 0, .int 0, .int 0, .null, .int 0, .null, .int 0, .int 0]) (C := RX12) (T := TX12) (N := 38) hx hb hts inX12 tyX12 tyX12_ok hown cl118 in12 ini12 hG.1 hP hD hS hA rfl (by decide) (Nat.le_of_ble_eq_true rfl) (Nat.le_of_ble_eq_true rfl) dL_law__8 (fun q_2 H hP hD hS => ?_)
  have hP : va_P D vwCl [(q_1, .inr (11, [.ref (u1.1 0), .ref (u1.1 1), .ref (u1.1 2), .int 0, .int 0, .ref (u1.1 5), .ref (u1.1 6), .ref (u1.1 7), .ref (u1.1 8), .ref (u1.1 9), .int 0, .ref (u1.1 11), .ref (u1.1 12), .ref (u1.1 13)])), ((u1.1 0), .inr (8, [.ref (u1.1 20), .int 0, .int 0, .int 0, .int 0, .int 0, .int (-1)])), ((u1.1 13), .inl (cy 0, 4, .inl (fun _ => 0))), (q_2, .inr (12, [.int 0, .null, .int 0, .int 0, .int 0, .int 0, .int 0, .int 0, .int 0, .null, .null, .null, .null, .null, .null, .null, .int 0, .int 0, .int 0, .null, .null, .null, .int 0, .null, .null, .null, .null, .null, .null, .int 0, .int 0, .int 0, .int 0, .null, .int 0, .null, .int 0, .int 0]))] H := hP
  have hD : va_D A [(q_1, .inr (11, [.ref (u1.1 0), .ref (u1.1 1), .ref (u1.1 2), .int 0, .int 0, .ref (u1.1 5), .ref (u1.1 6), .ref (u1.1 7), .ref (u1.1 8), .ref (u1.1 9), .int 0, .ref (u1.1 11), .ref (u1.1 12), .ref (u1.1 13)])), ((u1.1 0), .inr (8, [.ref (u1.1 20), .int 0, .int 0, .int 0, .int 0, .int 0, .int (-1)])), ((u1.1 13), .inl (cy 0, 4, .inl (fun _ => 0))), (q_2, .inr (12, [.int 0, .null, .int 0, .int 0, .int 0, .int 0, .int 0, .int 0, .int 0, .null, .null, .null, .null, .null, .null, .null, .int 0, .int 0, .int 0, .null, .null, .null, .int 0, .null, .null, .null, .null, .null, .null, .int 0, .int 0, .int 0, .int 0, .null, .int 0, .null, .int 0, .int 0]))] := hD
  refine lv_dup hx hb dL_law__11 rfl ?_
  refine cj_v (wr := [(q_1, .inr (11, [.ref (u1.1 0), .ref (u1.1 1), .ref (u1.1 2), .int 0, .int 0, .ref (u1.1 5), .ref (u1.1 6), .ref (u1.1 7), .ref (u1.1 8), .ref (u1.1 9), .int 0, .ref (u1.1 11), .ref (u1.1 12), .ref (u1.1 13)])), ((u1.1 0), .inr (8, [.ref (u1.1 20), .int 0, .int 0, .int 0, .int 0, .int 0, .int (-1)])), ((u1.1 13), .inl (cy 0, 4, .inl (fun _ => 0)))]) (va_runI (As := []) (rest := [.ref q_2]) ⟨hx, hb, hml, hown, hts⟩ (c_M_lawx l hl D cy sa q_2 H.size) (cwI 0 hts gl_X12_init rfl rfl rfl ini_RX12 ml120 im_X12_init rfl (by decide +kernel) ⟨Nat.le_of_ble_eq_true rfl, Nat.le_of_ble_eq_true rfl⟩) ⟨pcW.blind, (pcW.mk hP hD hS hA hG hT [3] rfl (by decide))⟩ rfl rfl hlv.1 rfl (lv_room (Nat.le_of_ble_eq_true rfl)) dL_law__12 ⟨Nat.le_of_ble_eq_true rfl, Nat.le_of_ble_eq_true rfl⟩) hP hD hS hA [3] [0, 1, 2] rfl rfl (by decide) (by decide) (fun u2 H locs hw2 hP hD hS => ?_)
  have hP : va_P D vwCl [(q_1, .inr (11, [.ref (u1.1 0), .ref (u1.1 1), .ref (u1.1 2), .int 0, .int 0, .ref (u1.1 5), .ref (u1.1 6), .ref (u1.1 7), .ref (u1.1 8), .ref (u1.1 9), .int 0, .ref (u1.1 11), .ref (u1.1 12), .ref (u1.1 13)])), ((u1.1 0), .inr (8, [.ref (u1.1 20), .int 0, .int 0, .int 0, .int 0, .int 0, .int (-1)])), ((u1.1 13), .inl (cy 0, 4, .inl (fun _ => 0))), (q_2, .inr (12, [.int 0, .ref (u2.1 1), .int 0, .int 0, .int 0, .int 0, .int 0, .int 0, .int (-1), .ref (u2.1 9), .ref (u2.1 10), .ref (u2.1 11), .ref (u2.1 12), .ref (u2.1 13), .ref (u2.1 14), .ref (u2.1 15), .int 0, .int 0, .int 0, .ref (u2.1 19), .ref (u2.1 20), .ref (u2.1 21), .int 0, .ref (u2.1 23), .ref (u2.1 24), .ref (u2.1 25), .ref (u2.1 26), .ref (u2.1 27), .ref (u2.1 28), .int 0, .int 0, .int 0, .int 0, .ref (u2.1 33), .int (-1), .ref (u2.1 35), .int 0, .int 0])), ((u2.1 1), .inl (cy 0, 4, .inl (fun _ => 0)))] H := hP
  have hD : va_D A [(q_1, .inr (11, [.ref (u1.1 0), .ref (u1.1 1), .ref (u1.1 2), .int 0, .int 0, .ref (u1.1 5), .ref (u1.1 6), .ref (u1.1 7), .ref (u1.1 8), .ref (u1.1 9), .int 0, .ref (u1.1 11), .ref (u1.1 12), .ref (u1.1 13)])), ((u1.1 0), .inr (8, [.ref (u1.1 20), .int 0, .int 0, .int 0, .int 0, .int 0, .int (-1)])), ((u1.1 13), .inl (cy 0, 4, .inl (fun _ => 0))), (q_2, .inr (12, [.int 0, .ref (u2.1 1), .int 0, .int 0, .int 0, .int 0, .int 0, .int 0, .int (-1), .ref (u2.1 9), .ref (u2.1 10), .ref (u2.1 11), .ref (u2.1 12), .ref (u2.1 13), .ref (u2.1 14), .ref (u2.1 15), .int 0, .int 0, .int 0, .ref (u2.1 19), .ref (u2.1 20), .ref (u2.1 21), .int 0, .ref (u2.1 23), .ref (u2.1 24), .ref (u2.1 25), .ref (u2.1 26), .ref (u2.1 27), .ref (u2.1 28), .int 0, .int 0, .int 0, .int 0, .ref (u2.1 33), .int (-1), .ref (u2.1 35), .int 0, .int 0])), ((u2.1 1), .inl (cy 0, 4, .inl (fun _ => 0)))] := hD
  refine lv_astore_n (lv' := [(2, .ref q_2), (1, .ref q_1), (0, .ref b)]) hx hb dL_law__15 rfl hlv (by decide) rfl (fun ls hlv => ?_)
  refine lv_iconst (v := 1) hx hb dL_law__16 (by decide) ?_
  refine nw_a (atype := .long) (cy := cy) (a0 := (1, .inr (.inl (fun _ => 0)))) (N' := 1) hx hb ac2 (ty := .long) rfl 2 rfl (fun C h => nomatch h) hG.1 hP hD hS hA (fun cA => rfl) (by decide) (by decide) (Nat.le_of_ble_eq_true rfl) (Nat.le_of_ble_eq_true rfl) (Nat.le_of_ble_eq_true rfl) dL_law__17 (fun q_3 H hP hD hS => ?_)
  have hP : va_P D vwCl [(q_1, .inr (11, [.ref (u1.1 0), .ref (u1.1 1), .ref (u1.1 2), .int 0, .int 0, .ref (u1.1 5), .ref (u1.1 6), .ref (u1.1 7), .ref (u1.1 8), .ref (u1.1 9), .int 0, .ref (u1.1 11), .ref (u1.1 12), .ref (u1.1 13)])), ((u1.1 0), .inr (8, [.ref (u1.1 20), .int 0, .int 0, .int 0, .int 0, .int 0, .int (-1)])), ((u1.1 13), .inl (cy 0, 4, .inl (fun _ => 0))), (q_2, .inr (12, [.int 0, .ref (u2.1 1), .int 0, .int 0, .int 0, .int 0, .int 0, .int 0, .int (-1), .ref (u2.1 9), .ref (u2.1 10), .ref (u2.1 11), .ref (u2.1 12), .ref (u2.1 13), .ref (u2.1 14), .ref (u2.1 15), .int 0, .int 0, .int 0, .ref (u2.1 19), .ref (u2.1 20), .ref (u2.1 21), .int 0, .ref (u2.1 23), .ref (u2.1 24), .ref (u2.1 25), .ref (u2.1 26), .ref (u2.1 27), .ref (u2.1 28), .int 0, .int 0, .int 0, .int 0, .ref (u2.1 33), .int (-1), .ref (u2.1 35), .int 0, .int 0])), ((u2.1 1), .inl (cy 0, 4, .inl (fun _ => 0))), (q_3, .inl (cy 2, 1, .inr (.inl (fun _ => 0))))] H := hP
  have hD : va_D A [(q_1, .inr (11, [.ref (u1.1 0), .ref (u1.1 1), .ref (u1.1 2), .int 0, .int 0, .ref (u1.1 5), .ref (u1.1 6), .ref (u1.1 7), .ref (u1.1 8), .ref (u1.1 9), .int 0, .ref (u1.1 11), .ref (u1.1 12), .ref (u1.1 13)])), ((u1.1 0), .inr (8, [.ref (u1.1 20), .int 0, .int 0, .int 0, .int 0, .int 0, .int (-1)])), ((u1.1 13), .inl (cy 0, 4, .inl (fun _ => 0))), (q_2, .inr (12, [.int 0, .ref (u2.1 1), .int 0, .int 0, .int 0, .int 0, .int 0, .int 0, .int (-1), .ref (u2.1 9), .ref (u2.1 10), .ref (u2.1 11), .ref (u2.1 12), .ref (u2.1 13), .ref (u2.1 14), .ref (u2.1 15), .int 0, .int 0, .int 0, .ref (u2.1 19), .ref (u2.1 20), .ref (u2.1 21), .int 0, .ref (u2.1 23), .ref (u2.1 24), .ref (u2.1 25), .ref (u2.1 26), .ref (u2.1 27), .ref (u2.1 28), .int 0, .int 0, .int 0, .int 0, .ref (u2.1 33), .int (-1), .ref (u2.1 35), .int 0, .int 0])), ((u2.1 1), .inl (cy 0, 4, .inl (fun _ => 0))), (q_3, .inl (cy 2, 1, .inr (.inl (fun _ => 0))))] := hD
  refine lv_astore_n (lv' := [(3, .ref q_3), (2, .ref q_2), (1, .ref q_1), (0, .ref b)]) hx hb dL_law__19 rfl hlv (by decide) rfl (fun ls hlv => ?_)
  refine lv_iconst (v := 0) hx hb dL_law__20 (by decide) ?_
  refine lv_istore (lv' := [(4, .int 0), (3, .ref q_3), (2, .ref q_2), (1, .ref q_1), (0, .ref b)]) hx hb dL_law__21 hlv (by decide) rfl (fun ls hlv => ?_)
  refine lv_iload hx hb dL_law__23 (lv_at hlv 0 rfl) ?_
  refine lv_aload_n hx hb dL_law__25 rfl (lv_at hlv 4 rfl) ?_
  refine va_slen hx hb hX hbl hbA hS dL_law__26 ?_
  refine lt_i (y := 10) (by decide) ?_
  refine lv_bipush (v := 10) hx hb dL_law__27 (by decide) ?_
  refine lv_isub hx hb dL_law__29 ?_
  refine lt_i (y := 0) (by decide) ?_
  refine lv_icmp_gt (tgt := 2761) hx hb dL_law__30 (by decide) (fun c => absurd c (by decide)) (fun _ => ?_)
  refine lv_aload_n hx hb dL_law__33 rfl (lv_at hlv 4 rfl) ?_
  refine lv_iload hx hb dL_law__34 (lv_at hlv 0 rfl) ?_
  refine va_sld hx hb hX hbl hbA hS (vpd (by decide)) dL_law__36 ?_
  refine lt_i (y := xs 0) rfl ?_
  refine lv_bipush (v := 63) hx hb dL_law__37 (by decide) ?_
  refine lv_iand hx hb dL_law__39 ?_
  refine lt_i (y := 3) h63 ?_
  refine lv_tableIn (tgt := 393) hx hb dL_law__40 (by decide) (by decide) rfl (by decide) ?_
  refine lv_aload_n hx hb dL_law__393 rfl (lv_at hlv 3 rfl) ?_
  refine lv_aload_n hx hb dL_law__394 rfl (lv_at hlv 4 rfl) ?_
  refine lv_iload hx hb dL_law__395 (lv_at hlv 0 rfl) ?_
  refine lv_iconst (v := 1) hx hb dL_law__397 (by decide) ?_
  refine lv_iadd hx hb dL_law__398 ?_
  refine lt_i (y := 1) (by decide) ?_
  refine va_sld hx hb hX hbl hbA hS (vpd (by decide)) dL_law__399 ?_
  refine lt_i (y := xs 1) rfl ?_
  refine lv_aload_n hx hb dL_law__400 rfl (lv_at hlv 1 rfl) ?_
  refine cj_i (wr := [(q_2, .inr (12, [.int 0, .ref (u2.1 1), .int 0, .int 0, .int 0, .int 0, .int 0, .int 0, .int (-1), .ref (u2.1 9), .ref (u2.1 10), .ref (u2.1 11), .ref (u2.1 12), .ref (u2.1 13), .ref (u2.1 14), .ref (u2.1 15), .int 0, .int 0, .int 0, .ref (u2.1 19), .ref (u2.1 20), .ref (u2.1 21), .int 0, .ref (u2.1 23), .ref (u2.1 24), .ref (u2.1 25), .ref (u2.1 26), .ref (u2.1 27), .ref (u2.1 28), .int 0, .int 0, .int 0, .int 0, .ref (u2.1 33), .int (-1), .ref (u2.1 35), .int 0, .int 0])), ((u2.1 1), .inl (cy 0, 4, .inl (fun _ => 0)))]) (vx_runSW (As := [.ref q_1, .int (xs 1), .ref q_3]) (rest := []) ⟨hx, hb, hml, hown, hts⟩ (w_lawx l hl D cy sa q_1 u1.1 (xs 1) q_3 H.size hv) (vx_cwSW 3 hts gl_w_lawx rfl rfl rfl (by decide +kernel) ⟨Nat.le_of_ble_eq_true rfl, Nat.le_of_ble_eq_true rfl⟩) ⟨pcW.blind, (pcW.mk hP hD hS hA hG hT [0, 1, 2, 5] rfl (by decide))⟩ rfl rfl hlv.1 rfl (lv_room (Nat.le_of_ble_eq_true rfl)) dL_law__401 ⟨Nat.le_of_ble_eq_true rfl, Nat.le_of_ble_eq_true rfl⟩) hP hD hS hA [0, 1, 2, 5] [3, 4] rfl rfl (by decide) (by decide) (fun r3 u3 H locs hw3 hP hD hS => ?_)
  obtain rfl := hw3
  have hP : va_P D vwCl [(q_2, .inr (12, [.int 0, .ref (u2.1 1), .int 0, .int 0, .int 0, .int 0, .int 0, .int 0, .int (-1), .ref (u2.1 9), .ref (u2.1 10), .ref (u2.1 11), .ref (u2.1 12), .ref (u2.1 13), .ref (u2.1 14), .ref (u2.1 15), .int 0, .int 0, .int 0, .ref (u2.1 19), .ref (u2.1 20), .ref (u2.1 21), .int 0, .ref (u2.1 23), .ref (u2.1 24), .ref (u2.1 25), .ref (u2.1 26), .ref (u2.1 27), .ref (u2.1 28), .int 0, .int 0, .int 0, .int 0, .ref (u2.1 33), .int (-1), .ref (u2.1 35), .int 0, .int 0])), ((u2.1 1), .inl (cy 0, 4, .inl (fun _ => 0))), (q_3, .inl (cy 2, 1, .inr (.inl (fun _ => (u3.2.1 0 : Int32).toInt64))))] H := hP
  have hD : va_D A [(q_2, .inr (12, [.int 0, .ref (u2.1 1), .int 0, .int 0, .int 0, .int 0, .int 0, .int 0, .int (-1), .ref (u2.1 9), .ref (u2.1 10), .ref (u2.1 11), .ref (u2.1 12), .ref (u2.1 13), .ref (u2.1 14), .ref (u2.1 15), .int 0, .int 0, .int 0, .ref (u2.1 19), .ref (u2.1 20), .ref (u2.1 21), .int 0, .ref (u2.1 23), .ref (u2.1 24), .ref (u2.1 25), .ref (u2.1 26), .ref (u2.1 27), .ref (u2.1 28), .int 0, .int 0, .int 0, .int 0, .ref (u2.1 33), .int (-1), .ref (u2.1 35), .int 0, .int 0])), ((u2.1 1), .inl (cy 0, 4, .inl (fun _ => 0))), (q_3, .inl (cy 2, 1, .inr (.inl (fun _ => (u3.2.1 0 : Int32).toInt64))))] := hD
  refine lv_istore (lv' := [(5, .int 1), (4, .int 0), (3, .ref q_3), (2, .ref q_2), (1, .ref q_1), (0, .ref b)]) hx hb dL_law__404 hlv (by decide) rfl (fun ls hlv => ?_)
  refine lv_aload_n hx hb dL_law__406 rfl (lv_at hlv 3 rfl) ?_
  refine lv_aload_n hx hb dL_law__407 rfl (lv_at hlv 5 rfl) ?_
  refine lv_iload hx hb dL_law__408 (lv_at hlv 1 rfl) ?_
  refine lv_iconst (v := 1) hx hb dL_law__410 (by decide) ?_
  refine lv_iadd hx hb dL_law__411 ?_
  refine lt_i (y := 1) (by decide) ?_
  refine va_sld hx hb hX hbl hbA hS (vpd (by decide)) dL_law__412 ?_
  refine lt_i (y := xs 1) rfl ?_
  refine cj_i (wr := [(q_3, .inl (cy 2, 1, .inr (.inl (fun _ => (u3.2.1 0 : Int32).toInt64))))]) (va_runV (As := [.int (xs 1)]) (rest := []) ⟨hx, hb, hml, hown, hts⟩ (m_lawx l hl D cy sa q_2 u2.1 (xs 1) H.size hv) (cwV 1 hts gl_m_lawx rfl rfl rfl (by decide +kernel) ⟨Nat.le_of_ble_eq_true rfl, Nat.le_of_ble_eq_true rfl⟩) ⟨pcW.blind, (va_recv hG.1 hP (ci := 12) (q0 := 0) rfl rfl), (pcW.mk hP hD hS hA hG hT [0, 1] rfl (by decide))⟩ rfl rfl hlv.1 rfl (lv_room (Nat.le_of_ble_eq_true rfl)) dL_law__413 ⟨Nat.le_of_ble_eq_true rfl, Nat.le_of_ble_eq_true rfl⟩) hP hD hS hA [0, 1] [2] rfl rfl (by decide) (by decide) (fun r4 u4 H locs hw4 hP hD hS => ?_)
  obtain rfl := hw4
  have hP : va_P D vwCl [(q_3, .inl (cy 2, 1, .inr (.inl (fun _ => (u3.2.1 0 : Int32).toInt64)))), (q_2, .inr (12, [.int 1, .ref (u2.1 1), .int 0, .int 0, .int 0, .int 0, .int 0, .int 0, .int (-1), .ref (u2.1 9), .ref (u2.1 10), .ref (u2.1 11), .ref (u2.1 12), .ref (u2.1 13), .ref (u2.1 14), .ref (u2.1 15), .int 0, .int 0, .int 0, .ref (u2.1 19), .ref (u2.1 20), .ref (u2.1 21), .int 0, .ref (u2.1 23), .ref (u2.1 24), .ref (u2.1 25), .ref (u2.1 26), .ref (u2.1 27), .ref (u2.1 28), .int 0, .int 0, .int 0, .int 0, .ref (u2.1 33), .int (-1), .ref (u2.1 35), .int 0, .int 0]))] H := hP
  have hD : va_D A [(q_3, .inl (cy 2, 1, .inr (.inl (fun _ => (u3.2.1 0 : Int32).toInt64)))), (q_2, .inr (12, [.int 1, .ref (u2.1 1), .int 0, .int 0, .int 0, .int 0, .int 0, .int 0, .int (-1), .ref (u2.1 9), .ref (u2.1 10), .ref (u2.1 11), .ref (u2.1 12), .ref (u2.1 13), .ref (u2.1 14), .ref (u2.1 15), .int 0, .int 0, .int 0, .ref (u2.1 19), .ref (u2.1 20), .ref (u2.1 21), .int 0, .ref (u2.1 23), .ref (u2.1 24), .ref (u2.1 25), .ref (u2.1 26), .ref (u2.1 27), .ref (u2.1 28), .int 0, .int 0, .int 0, .int 0, .ref (u2.1 33), .int (-1), .ref (u2.1 35), .int 0, .int 0]))] := hD
  refine lv_istore (lv' := [(6, .int 0), (5, .int 1), (4, .int 0), (3, .ref q_3), (2, .ref q_2), (1, .ref q_1), (0, .ref b)]) hx hb dL_law__416 hlv (by decide) rfl (fun ls hlv => ?_)
  refine lv_aload_n hx hb dL_law__418 rfl (lv_at hlv 4 rfl) ?_
  refine cj_i (wr := [(q_3, .inl (cy 2, 1, .inr (.inl (fun _ => (u3.2.1 0 : Int32).toInt64))))]) (va_runV (As := []) (rest := []) ⟨hx, hb, hml, hown, hts⟩ (c_thrown l hl D cy sa q_2 u2.1 1 0 0 0 0 0 0 (-1) 0 0 0 0 0 0 0 0 (-1) 0 0 H.size) (cwV 0 hts gl_c_thrown rfl rfl rfl (by decide +kernel) ⟨Nat.le_of_ble_eq_true rfl, Nat.le_of_ble_eq_true rfl⟩) ⟨pcW.blind, (va_recv hG.1 hP (ci := 12) (q0 := 1) rfl rfl), (pcW.mk hP hD hS hA hG hT [1] rfl (by decide))⟩ rfl rfl hlv.1 rfl (lv_room (Nat.le_of_ble_eq_true rfl)) dL_law__419 ⟨Nat.le_of_ble_eq_true rfl, Nat.le_of_ble_eq_true rfl⟩) hP hD hS hA [1] [0] rfl rfl (by decide) (by decide) (fun r5 u5 H locs hw5 hP hD hS => ?_)
  obtain rfl := hw5
  have hP : va_P D vwCl [(q_3, .inl (cy 2, 1, .inr (.inl (fun _ => (u3.2.1 0 : Int32).toInt64))))] H := hP
  have hD : va_D A [(q_3, .inl (cy 2, 1, .inr (.inl (fun _ => (u3.2.1 0 : Int32).toInt64))))] := hD
  refine lv_iload hx hb dL_law__422 (lv_at hlv 1 rfl) ?_
  refine lv_icmp_eq (tgt := 429) hx hb dL_law__424 (by decide) (fun _ => ?_) (fun c => absurd (by decide) c)
  refine lv_iload hx hb dL_law__429 (lv_at hlv 1 rfl) ?_
  refine lv_if_ne (tgt := 446) hx hb dL_law__431 (by decide) (fun _ => ?_) (fun c => absurd c (by decide))
  refine lv_goto (tgt := 2755) hx hb dL_law__446 (by decide) ?_
  refine lv_iinc (v := 10) (lv' := [(4, .int 10), (6, .int 0), (5, .int 1), (3, .ref q_3), (2, .ref q_2), (1, .ref q_1), (0, .ref b)]) hx hb dL_law__2755 hlv (k := 2) rfl (by decide) (by decide) rfl (fun ls hlv => ?_)
  refine lv_goto (tgt := 23) hx hb dL_law__2758 (by decide) ?_
  refine lv_iload hx hb dL_law__23 (lv_at hlv 0 rfl) ?_
  refine lv_aload_n hx hb dL_law__25 rfl (lv_at hlv 6 rfl) ?_
  refine va_slen hx hb hX hbl hbA hS dL_law__26 ?_
  refine lt_i (y := 10) (by decide) ?_
  refine lv_bipush (v := 10) hx hb dL_law__27 (by decide) ?_
  refine lv_isub hx hb dL_law__29 ?_
  refine lt_i (y := 0) (by decide) ?_
  refine lv_icmp_gt (tgt := 2761) hx hb dL_law__30 (by decide) (fun _ => ?_) (fun c => absurd (by decide) c)
  refine lv_iconst (v := 1) hx hb dL_law__2761 (by decide) ?_
  refine va_forget (fun q hq => by have h9 := hS.2.2 q hq; rw [hAe] at h9; exact h9) ?_
  refine W.widen (k := 600002) (n := 7302232) (Nat.le_of_ble_eq_true rfl) (Nat.le_of_ble_eq_true rfl) ?_
  exact lw_ret hx hb hr hlocks dL_law__2762
set_option maxHeartbeats 4000000 in
set_option maxRecDepth 100000 in
theorem law_fault {p : Program} {e : Env} {s : State} {m : MethodId} {below : List Frame} {meth : Method} {c : Code} (l : Launch) (hl : l.stackTraces = false) {b : Nat} {xs : Nat → Int32} {D : va_G} {cy : Nat → ClassId} {sa : Nat → Nat} {A : Nat → Prop} (hAe : A = fun q => s.heap.size ≤ q) (C0 : lw_At p s m meth c b 10 xs) (hG : GC D cy sa s) (hT : TH A s s.heap) (h63 : xs 0 &&& 63 = 4) : W p l e room_1 s m #[Value.ref b] below meth c s.heap [] 0 0 (lw_Z below #[Value.ref b] s) (entryFrame m ([Value.ref b] : List Value).toArray 7) := by
  obtain ⟨hx, hb, hr, hml, hown0, hts0, hX, hbl, hlocks, hgv⟩ := id C0
  have hown : s.vm.findClass RL = some m.cls := hown0
  have hts := hts0
  have hA : ∀ q : Nat, s.heap.size ≤ q → A q := fun q h => by rw [hAe]; exact h
  have hbA : ¬ A b := by rw [hAe]; exact Nat.not_le.mpr hbl
  have hS : va_S A s.heap s.heap [] := va_S.rf
  have hP : va_P D vwCl [] s.heap := fun k q h => by simp at h
  have hD : va_D A [] := ⟨fun i j p q h => by simp at h, fun k q h => by simp at h⟩
  have hl0 := lv_entry ([.ref b]) (n := 7) (Nat.le_of_ble_eq_true rfl)
  rw [lg_entry_eq]
  generalize (lg_sl ([.ref b]) ++ List.replicate (7 - (lg_sl ([.ref b])).length) Slot.unset).toArray = ls at hl0 ⊢
  have hlv : lv_has ls 7 [(0, .ref b)] := hl0
  have cl8 := hts (.classLink RL 8 RX11) lwd_0
  have in11 := hts (.instantiable RX11 14) lwd_1
  have ini11 := hts (.initialized RX11) lwd_2
  have ini_RX11 := hts (.initialized RX11) lwd_2
  have ml117 := hts (.methodLink RL 117 yX11_init) lwd_3
  have im_X11_init := hts (.instanceMethod yX11_init) lwd_4
  have cl118 := hts (.classLink RL 118 RX12) lwd_5
  have in12 := hts (.instantiable RX12 38) lwd_6
  have ini12 := hts (.initialized RX12) lwd_7
  have ini_RX12 := hts (.initialized RX12) lwd_7
  have ml120 := hts (.methodLink RL 120 yX12_init) lwd_8
  have im_X12_init := hts (.instanceMethod yX12_init) lwd_9
  have ac2 := hts (.arrayClass .long) lwd_10
  refine va_new (ci := 11) (fs := [.null, .null, .null, .int 0, .int 0, .null, .null, .null, .null, .null, .int 0, .null, .null, .null]) (C := RX11) (T := TX11) (N := 14) hx hb hts inX11 tyX11 tyX11_ok hown cl8 in11 ini11 hG.1 hP hD hS hA rfl (by decide) (Nat.le_of_ble_eq_true rfl) (Nat.le_of_ble_eq_true rfl) dL_law__0 (fun q_1 H hP hD hS => ?_)
  have hP : va_P D vwCl [(q_1, .inr (11, [.null, .null, .null, .int 0, .int 0, .null, .null, .null, .null, .null, .int 0, .null, .null, .null]))] H := hP
  have hD : va_D A [(q_1, .inr (11, [.null, .null, .null, .int 0, .int 0, .null, .null, .null, .null, .null, .int 0, .null, .null, .null]))] := hD
  refine lv_dup hx hb dL_law__3 rfl ?_
  refine cj_v (wr := []) (va_runI (As := []) (rest := [.ref q_1]) ⟨hx, hb, hml, hown, hts⟩ (c_K_fault l hl D cy sa q_1 H.size) (cwI 0 hts gl_X11_init rfl rfl rfl ini_RX11 ml117 im_X11_init rfl (by decide +kernel) ⟨Nat.le_of_ble_eq_true rfl, Nat.le_of_ble_eq_true rfl⟩) ⟨pcW.blind, (pcW.mk hP hD hS hA hG hT [0] rfl (by decide))⟩ rfl rfl hlv.1 rfl (lv_room (Nat.le_of_ble_eq_true rfl)) dL_law__4 ⟨Nat.le_of_ble_eq_true rfl, Nat.le_of_ble_eq_true rfl⟩) hP hD hS hA [0] [] rfl rfl (by decide) (by decide) (fun u1 H locs hw1 hP hD hS => ?_)
  have hP : va_P D vwCl [(q_1, .inr (11, [.ref (u1.1 0), .ref (u1.1 1), .ref (u1.1 2), .int 0, .int 0, .ref (u1.1 5), .ref (u1.1 6), .ref (u1.1 7), .ref (u1.1 8), .ref (u1.1 9), .int 0, .ref (u1.1 11), .ref (u1.1 12), .ref (u1.1 13)])), ((u1.1 0), .inr (8, [.ref (u1.1 20), .int 0, .int 0, .int 0, .int 0, .int 0, .int (-1)]))] H := hP
  have hD : va_D A [(q_1, .inr (11, [.ref (u1.1 0), .ref (u1.1 1), .ref (u1.1 2), .int 0, .int 0, .ref (u1.1 5), .ref (u1.1 6), .ref (u1.1 7), .ref (u1.1 8), .ref (u1.1 9), .int 0, .ref (u1.1 11), .ref (u1.1 12), .ref (u1.1 13)])), ((u1.1 0), .inr (8, [.ref (u1.1 20), .int 0, .int 0, .int 0, .int 0, .int 0, .int (-1)]))] := hD
  refine lv_astore_n (lv' := [(1, .ref q_1), (0, .ref b)]) hx hb dL_law__7 rfl hlv (by decide) rfl (fun ls hlv => ?_)
  refine va_new (ci := 12) (fs := [.int 0, .null, .int 0, .int 0, .int 0, .int 0, .int 0, .int 0, .int 0, .null, .null, .null, .null, .null, .null, .null, .int 0, .int 0, .int 0, .null, .null, .null, .int 0, .null, .null, .null, .null, .null, .null, .int 0, .int 0, .int 0, .int 0, .null, .int 0, .null, .int 0, .int 0]) (C := RX12) (T := TX12) (N := 38) hx hb hts inX12 tyX12 tyX12_ok hown cl118 in12 ini12 hG.1 hP hD hS hA rfl (by decide) (Nat.le_of_ble_eq_true rfl) (Nat.le_of_ble_eq_true rfl) dL_law__8 (fun q_2 H hP hD hS => ?_)
  have hP : va_P D vwCl [(q_1, .inr (11, [.ref (u1.1 0), .ref (u1.1 1), .ref (u1.1 2), .int 0, .int 0, .ref (u1.1 5), .ref (u1.1 6), .ref (u1.1 7), .ref (u1.1 8), .ref (u1.1 9), .int 0, .ref (u1.1 11), .ref (u1.1 12), .ref (u1.1 13)])), ((u1.1 0), .inr (8, [.ref (u1.1 20), .int 0, .int 0, .int 0, .int 0, .int 0, .int (-1)])), (q_2, .inr (12, [.int 0, .null, .int 0, .int 0, .int 0, .int 0, .int 0, .int 0, .int 0, .null, .null, .null, .null, .null, .null, .null, .int 0, .int 0, .int 0, .null, .null, .null, .int 0, .null, .null, .null, .null, .null, .null, .int 0, .int 0, .int 0, .int 0, .null, .int 0, .null, .int 0, .int 0]))] H := hP
  have hD : va_D A [(q_1, .inr (11, [.ref (u1.1 0), .ref (u1.1 1), .ref (u1.1 2), .int 0, .int 0, .ref (u1.1 5), .ref (u1.1 6), .ref (u1.1 7), .ref (u1.1 8), .ref (u1.1 9), .int 0, .ref (u1.1 11), .ref (u1.1 12), .ref (u1.1 13)])), ((u1.1 0), .inr (8, [.ref (u1.1 20), .int 0, .int 0, .int 0, .int 0, .int 0, .int (-1)])), (q_2, .inr (12, [.int 0, .null, .int 0, .int 0, .int 0, .int 0, .int 0, .int 0, .int 0, .null, .null, .null, .null, .null, .null, .null, .int 0, .int 0, .int 0, .null, .null, .null, .int 0, .null, .null, .null, .null, .null, .null, .int 0, .int 0, .int 0, .int 0, .null, .int 0, .null, .int 0, .int 0]))] := hD
  refine lv_dup hx hb dL_law__11 rfl ?_
  refine cj_v (wr := [(q_1, .inr (11, [.ref (u1.1 0), .ref (u1.1 1), .ref (u1.1 2), .int 0, .int 0, .ref (u1.1 5), .ref (u1.1 6), .ref (u1.1 7), .ref (u1.1 8), .ref (u1.1 9), .int 0, .ref (u1.1 11), .ref (u1.1 12), .ref (u1.1 13)])), ((u1.1 0), .inr (8, [.ref (u1.1 20), .int 0, .int 0, .int 0, .int 0, .int 0, .int (-1)]))]) (va_runI (As := []) (rest := [.ref q_2]) ⟨hx, hb, hml, hown, hts⟩ (c_M_fault l hl D cy sa q_2 H.size) (cwI 0 hts gl_X12_init rfl rfl rfl ini_RX12 ml120 im_X12_init rfl (by decide +kernel) ⟨Nat.le_of_ble_eq_true rfl, Nat.le_of_ble_eq_true rfl⟩) ⟨pcW.blind, (pcW.mk hP hD hS hA hG hT [2] rfl (by decide))⟩ rfl rfl hlv.1 rfl (lv_room (Nat.le_of_ble_eq_true rfl)) dL_law__12 ⟨Nat.le_of_ble_eq_true rfl, Nat.le_of_ble_eq_true rfl⟩) hP hD hS hA [2] [0, 1] rfl rfl (by decide) (by decide) (fun u2 H locs hw2 hP hD hS => ?_)
  have hP : va_P D vwCl [(q_1, .inr (11, [.ref (u1.1 0), .ref (u1.1 1), .ref (u1.1 2), .int 0, .int 0, .ref (u1.1 5), .ref (u1.1 6), .ref (u1.1 7), .ref (u1.1 8), .ref (u1.1 9), .int 0, .ref (u1.1 11), .ref (u1.1 12), .ref (u1.1 13)])), ((u1.1 0), .inr (8, [.ref (u1.1 20), .int 0, .int 0, .int 0, .int 0, .int 0, .int (-1)])), (q_2, .inr (12, [.int 0, .ref (u2.1 1), .int 0, .int 0, .int 0, .int 0, .int 0, .int 0, .int (-1), .ref (u2.1 9), .ref (u2.1 10), .ref (u2.1 11), .ref (u2.1 12), .ref (u2.1 13), .ref (u2.1 14), .ref (u2.1 15), .int 0, .int 0, .int 0, .ref (u2.1 19), .ref (u2.1 20), .ref (u2.1 21), .int 0, .ref (u2.1 23), .ref (u2.1 24), .ref (u2.1 25), .ref (u2.1 26), .ref (u2.1 27), .ref (u2.1 28), .int 0, .int 0, .int 0, .int 0, .ref (u2.1 33), .int (-1), .ref (u2.1 35), .int 0, .int 0]))] H := hP
  have hD : va_D A [(q_1, .inr (11, [.ref (u1.1 0), .ref (u1.1 1), .ref (u1.1 2), .int 0, .int 0, .ref (u1.1 5), .ref (u1.1 6), .ref (u1.1 7), .ref (u1.1 8), .ref (u1.1 9), .int 0, .ref (u1.1 11), .ref (u1.1 12), .ref (u1.1 13)])), ((u1.1 0), .inr (8, [.ref (u1.1 20), .int 0, .int 0, .int 0, .int 0, .int 0, .int (-1)])), (q_2, .inr (12, [.int 0, .ref (u2.1 1), .int 0, .int 0, .int 0, .int 0, .int 0, .int 0, .int (-1), .ref (u2.1 9), .ref (u2.1 10), .ref (u2.1 11), .ref (u2.1 12), .ref (u2.1 13), .ref (u2.1 14), .ref (u2.1 15), .int 0, .int 0, .int 0, .ref (u2.1 19), .ref (u2.1 20), .ref (u2.1 21), .int 0, .ref (u2.1 23), .ref (u2.1 24), .ref (u2.1 25), .ref (u2.1 26), .ref (u2.1 27), .ref (u2.1 28), .int 0, .int 0, .int 0, .int 0, .ref (u2.1 33), .int (-1), .ref (u2.1 35), .int 0, .int 0]))] := hD
  refine lv_astore_n (lv' := [(2, .ref q_2), (1, .ref q_1), (0, .ref b)]) hx hb dL_law__15 rfl hlv (by decide) rfl (fun ls hlv => ?_)
  refine lv_iconst (v := 1) hx hb dL_law__16 (by decide) ?_
  refine nw_a (atype := .long) (cy := cy) (a0 := (1, .inr (.inl (fun _ => 0)))) (N' := 1) hx hb ac2 (ty := .long) rfl 2 rfl (fun C h => nomatch h) hG.1 hP hD hS hA (fun cA => rfl) (by decide) (by decide) (Nat.le_of_ble_eq_true rfl) (Nat.le_of_ble_eq_true rfl) (Nat.le_of_ble_eq_true rfl) dL_law__17 (fun q_3 H hP hD hS => ?_)
  have hP : va_P D vwCl [(q_1, .inr (11, [.ref (u1.1 0), .ref (u1.1 1), .ref (u1.1 2), .int 0, .int 0, .ref (u1.1 5), .ref (u1.1 6), .ref (u1.1 7), .ref (u1.1 8), .ref (u1.1 9), .int 0, .ref (u1.1 11), .ref (u1.1 12), .ref (u1.1 13)])), ((u1.1 0), .inr (8, [.ref (u1.1 20), .int 0, .int 0, .int 0, .int 0, .int 0, .int (-1)])), (q_2, .inr (12, [.int 0, .ref (u2.1 1), .int 0, .int 0, .int 0, .int 0, .int 0, .int 0, .int (-1), .ref (u2.1 9), .ref (u2.1 10), .ref (u2.1 11), .ref (u2.1 12), .ref (u2.1 13), .ref (u2.1 14), .ref (u2.1 15), .int 0, .int 0, .int 0, .ref (u2.1 19), .ref (u2.1 20), .ref (u2.1 21), .int 0, .ref (u2.1 23), .ref (u2.1 24), .ref (u2.1 25), .ref (u2.1 26), .ref (u2.1 27), .ref (u2.1 28), .int 0, .int 0, .int 0, .int 0, .ref (u2.1 33), .int (-1), .ref (u2.1 35), .int 0, .int 0])), (q_3, .inl (cy 2, 1, .inr (.inl (fun _ => 0))))] H := hP
  have hD : va_D A [(q_1, .inr (11, [.ref (u1.1 0), .ref (u1.1 1), .ref (u1.1 2), .int 0, .int 0, .ref (u1.1 5), .ref (u1.1 6), .ref (u1.1 7), .ref (u1.1 8), .ref (u1.1 9), .int 0, .ref (u1.1 11), .ref (u1.1 12), .ref (u1.1 13)])), ((u1.1 0), .inr (8, [.ref (u1.1 20), .int 0, .int 0, .int 0, .int 0, .int 0, .int (-1)])), (q_2, .inr (12, [.int 0, .ref (u2.1 1), .int 0, .int 0, .int 0, .int 0, .int 0, .int 0, .int (-1), .ref (u2.1 9), .ref (u2.1 10), .ref (u2.1 11), .ref (u2.1 12), .ref (u2.1 13), .ref (u2.1 14), .ref (u2.1 15), .int 0, .int 0, .int 0, .ref (u2.1 19), .ref (u2.1 20), .ref (u2.1 21), .int 0, .ref (u2.1 23), .ref (u2.1 24), .ref (u2.1 25), .ref (u2.1 26), .ref (u2.1 27), .ref (u2.1 28), .int 0, .int 0, .int 0, .int 0, .ref (u2.1 33), .int (-1), .ref (u2.1 35), .int 0, .int 0])), (q_3, .inl (cy 2, 1, .inr (.inl (fun _ => 0))))] := hD
  refine lv_astore_n (lv' := [(3, .ref q_3), (2, .ref q_2), (1, .ref q_1), (0, .ref b)]) hx hb dL_law__19 rfl hlv (by decide) rfl (fun ls hlv => ?_)
  refine lv_iconst (v := 0) hx hb dL_law__20 (by decide) ?_
  refine lv_istore (lv' := [(4, .int 0), (3, .ref q_3), (2, .ref q_2), (1, .ref q_1), (0, .ref b)]) hx hb dL_law__21 hlv (by decide) rfl (fun ls hlv => ?_)
  refine lv_iload hx hb dL_law__23 (lv_at hlv 0 rfl) ?_
  refine lv_aload_n hx hb dL_law__25 rfl (lv_at hlv 4 rfl) ?_
  refine va_slen hx hb hX hbl hbA hS dL_law__26 ?_
  refine lt_i (y := 10) (by decide) ?_
  refine lv_bipush (v := 10) hx hb dL_law__27 (by decide) ?_
  refine lv_isub hx hb dL_law__29 ?_
  refine lt_i (y := 0) (by decide) ?_
  refine lv_icmp_gt (tgt := 2761) hx hb dL_law__30 (by decide) (fun c => absurd c (by decide)) (fun _ => ?_)
  refine lv_aload_n hx hb dL_law__33 rfl (lv_at hlv 4 rfl) ?_
  refine lv_iload hx hb dL_law__34 (lv_at hlv 0 rfl) ?_
  refine va_sld hx hb hX hbl hbA hS (vpd (by decide)) dL_law__36 ?_
  refine lt_i (y := xs 0) rfl ?_
  refine lv_bipush (v := 63) hx hb dL_law__37 (by decide) ?_
  refine lv_iand hx hb dL_law__39 ?_
  refine lt_i (y := 4) h63 ?_
  refine lv_tableIn (tgt := 449) hx hb dL_law__40 (by decide) (by decide) rfl (by decide) ?_
  refine lv_aload_n hx hb dL_law__449 rfl (lv_at hlv 3 rfl) ?_
  refine cj_i (wr := [(q_2, .inr (12, [.int 0, .ref (u2.1 1), .int 0, .int 0, .int 0, .int 0, .int 0, .int 0, .int (-1), .ref (u2.1 9), .ref (u2.1 10), .ref (u2.1 11), .ref (u2.1 12), .ref (u2.1 13), .ref (u2.1 14), .ref (u2.1 15), .int 0, .int 0, .int 0, .ref (u2.1 19), .ref (u2.1 20), .ref (u2.1 21), .int 0, .ref (u2.1 23), .ref (u2.1 24), .ref (u2.1 25), .ref (u2.1 26), .ref (u2.1 27), .ref (u2.1 28), .int 0, .int 0, .int 0, .int 0, .ref (u2.1 33), .int (-1), .ref (u2.1 35), .int 0, .int 0])), (q_3, .inl (cy 2, 1, .inr (.inl (fun _ => 0))))]) (va_runV (As := []) (rest := []) ⟨hx, hb, hml, hown, hts⟩ (c_fault l hl D cy sa q_1 u1.1 H.size) (cwV 0 hts gl_c_fault rfl rfl rfl (by decide +kernel) ⟨Nat.le_of_ble_eq_true rfl, Nat.le_of_ble_eq_true rfl⟩) ⟨pcW.blind, (va_recv hG.1 hP (ci := 11) (q0 := 0) rfl rfl), (pcW.mk hP hD hS hA hG hT [0, 1] rfl (by decide))⟩ rfl rfl hlv.1 rfl (lv_room (Nat.le_of_ble_eq_true rfl)) dL_law__450 ⟨Nat.le_of_ble_eq_true rfl, Nat.le_of_ble_eq_true rfl⟩) hP hD hS hA [0, 1] [2, 3] rfl rfl (by decide) (by decide) (fun r3 u3 H locs hw3 hP hD hS => ?_)
  obtain rfl := hw3
  have hP : va_P D vwCl [(q_2, .inr (12, [.int 0, .ref (u2.1 1), .int 0, .int 0, .int 0, .int 0, .int 0, .int 0, .int (-1), .ref (u2.1 9), .ref (u2.1 10), .ref (u2.1 11), .ref (u2.1 12), .ref (u2.1 13), .ref (u2.1 14), .ref (u2.1 15), .int 0, .int 0, .int 0, .ref (u2.1 19), .ref (u2.1 20), .ref (u2.1 21), .int 0, .ref (u2.1 23), .ref (u2.1 24), .ref (u2.1 25), .ref (u2.1 26), .ref (u2.1 27), .ref (u2.1 28), .int 0, .int 0, .int 0, .int 0, .ref (u2.1 33), .int (-1), .ref (u2.1 35), .int 0, .int 0])), (q_3, .inl (cy 2, 1, .inr (.inl (fun _ => 0))))] H := hP
  have hD : va_D A [(q_2, .inr (12, [.int 0, .ref (u2.1 1), .int 0, .int 0, .int 0, .int 0, .int 0, .int 0, .int (-1), .ref (u2.1 9), .ref (u2.1 10), .ref (u2.1 11), .ref (u2.1 12), .ref (u2.1 13), .ref (u2.1 14), .ref (u2.1 15), .int 0, .int 0, .int 0, .ref (u2.1 19), .ref (u2.1 20), .ref (u2.1 21), .int 0, .ref (u2.1 23), .ref (u2.1 24), .ref (u2.1 25), .ref (u2.1 26), .ref (u2.1 27), .ref (u2.1 28), .int 0, .int 0, .int 0, .int 0, .ref (u2.1 33), .int (-1), .ref (u2.1 35), .int 0, .int 0])), (q_3, .inl (cy 2, 1, .inr (.inl (fun _ => 0))))] := hD
  refine lv_aload_n hx hb dL_law__453 rfl (lv_at hlv 2 rfl) ?_
  refine cj_i (wr := [(q_3, .inl (cy 2, 1, .inr (.inl (fun _ => 0))))]) (va_runV (As := []) (rest := [.int (-1)]) ⟨hx, hb, hml, hown, hts⟩ (m_fault l hl D cy sa q_2 u2.1 H.size) (cwV 0 hts gl_m_fault rfl rfl rfl (by decide +kernel) ⟨Nat.le_of_ble_eq_true rfl, Nat.le_of_ble_eq_true rfl⟩) ⟨pcW.blind, (va_recv hG.1 hP (ci := 12) (q0 := 0) rfl rfl), (pcW.mk hP hD hS hA hG hT [0] rfl (by decide))⟩ rfl rfl hlv.1 rfl (lv_room (Nat.le_of_ble_eq_true rfl)) dL_law__454 ⟨Nat.le_of_ble_eq_true rfl, Nat.le_of_ble_eq_true rfl⟩) hP hD hS hA [0] [1] rfl rfl (by decide) (by decide) (fun r4 u4 H locs hw4 hP hD hS => ?_)
  obtain rfl := hw4
  have hP : va_P D vwCl [(q_3, .inl (cy 2, 1, .inr (.inl (fun _ => 0))))] H := hP
  have hD : va_D A [(q_3, .inl (cy 2, 1, .inr (.inl (fun _ => 0))))] := hD
  refine lv_icmp_eq (tgt := 2755) hx hb dL_law__457 (by decide) (fun _ => ?_) (fun c => absurd (by decide) c)
  refine lv_iinc (v := 10) (lv' := [(4, .int 10), (3, .ref q_3), (2, .ref q_2), (1, .ref q_1), (0, .ref b)]) hx hb dL_law__2755 hlv (k := 0) rfl (by decide) (by decide) rfl (fun ls hlv => ?_)
  refine lv_goto (tgt := 23) hx hb dL_law__2758 (by decide) ?_
  refine lv_iload hx hb dL_law__23 (lv_at hlv 0 rfl) ?_
  refine lv_aload_n hx hb dL_law__25 rfl (lv_at hlv 4 rfl) ?_
  refine va_slen hx hb hX hbl hbA hS dL_law__26 ?_
  refine lt_i (y := 10) (by decide) ?_
  refine lv_bipush (v := 10) hx hb dL_law__27 (by decide) ?_
  refine lv_isub hx hb dL_law__29 ?_
  refine lt_i (y := 0) (by decide) ?_
  refine lv_icmp_gt (tgt := 2761) hx hb dL_law__30 (by decide) (fun _ => ?_) (fun c => absurd (by decide) c)
  refine lv_iconst (v := 1) hx hb dL_law__2761 (by decide) ?_
  refine va_forget (fun q hq => by have h9 := hS.2.2 q hq; rw [hAe] at h9; exact h9) ?_
  refine W.widen (k := 600002) (n := 7302232) (Nat.le_of_ble_eq_true rfl) (Nat.le_of_ble_eq_true rfl) ?_
  exact lw_ret hx hb hr hlocks dL_law__2762
set_option maxHeartbeats 4000000 in
set_option maxRecDepth 100000 in
theorem law_told {p : Program} {e : Env} {s : State} {m : MethodId} {below : List Frame} {meth : Method} {c : Code} (l : Launch) (hl : l.stackTraces = false) {b : Nat} {xs : Nat → Int32} {D : va_G} {cy : Nat → ClassId} {sa : Nat → Nat} {A : Nat → Prop} (hAe : A = fun q => s.heap.size ≤ q) (C0 : lw_At p s m meth c b 10 xs) (hG : GC D cy sa s) (hT : TH A s s.heap) (h63 : xs 0 &&& 63 = 5) : W p l e room_1 s m #[Value.ref b] below meth c s.heap [] 0 0 (lw_Z below #[Value.ref b] s) (entryFrame m ([Value.ref b] : List Value).toArray 7) := by
  obtain ⟨hx, hb, hr, hml, hown0, hts0, hX, hbl, hlocks, hgv⟩ := id C0
  have hown : s.vm.findClass RL = some m.cls := hown0
  have hts := hts0
  have hA : ∀ q : Nat, s.heap.size ≤ q → A q := fun q h => by rw [hAe]; exact h
  have hbA : ¬ A b := by rw [hAe]; exact Nat.not_le.mpr hbl
  have hS : va_S A s.heap s.heap [] := va_S.rf
  have hP : va_P D vwCl [] s.heap := fun k q h => by simp at h
  have hD : va_D A [] := ⟨fun i j p q h => by simp at h, fun k q h => by simp at h⟩
  have hl0 := lv_entry ([.ref b]) (n := 7) (Nat.le_of_ble_eq_true rfl)
  rw [lg_entry_eq]
  generalize (lg_sl ([.ref b]) ++ List.replicate (7 - (lg_sl ([.ref b])).length) Slot.unset).toArray = ls at hl0 ⊢
  have hlv : lv_has ls 7 [(0, .ref b)] := hl0
  have cl8 := hts (.classLink RL 8 RX11) lwd_0
  have in11 := hts (.instantiable RX11 14) lwd_1
  have ini11 := hts (.initialized RX11) lwd_2
  have ini_RX11 := hts (.initialized RX11) lwd_2
  have ml117 := hts (.methodLink RL 117 yX11_init) lwd_3
  have im_X11_init := hts (.instanceMethod yX11_init) lwd_4
  have cl118 := hts (.classLink RL 118 RX12) lwd_5
  have in12 := hts (.instantiable RX12 38) lwd_6
  have ini12 := hts (.initialized RX12) lwd_7
  have ini_RX12 := hts (.initialized RX12) lwd_7
  have ml120 := hts (.methodLink RL 120 yX12_init) lwd_8
  have im_X12_init := hts (.instanceMethod yX12_init) lwd_9
  have ac2 := hts (.arrayClass .long) lwd_10
  refine va_new (ci := 11) (fs := [.null, .null, .null, .int 0, .int 0, .null, .null, .null, .null, .null, .int 0, .null, .null, .null]) (C := RX11) (T := TX11) (N := 14) hx hb hts inX11 tyX11 tyX11_ok hown cl8 in11 ini11 hG.1 hP hD hS hA rfl (by decide) (Nat.le_of_ble_eq_true rfl) (Nat.le_of_ble_eq_true rfl) dL_law__0 (fun q_1 H hP hD hS => ?_)
  have hP : va_P D vwCl [(q_1, .inr (11, [.null, .null, .null, .int 0, .int 0, .null, .null, .null, .null, .null, .int 0, .null, .null, .null]))] H := hP
  have hD : va_D A [(q_1, .inr (11, [.null, .null, .null, .int 0, .int 0, .null, .null, .null, .null, .null, .int 0, .null, .null, .null]))] := hD
  refine lv_dup hx hb dL_law__3 rfl ?_
  refine cj_v (wr := []) (va_runI (As := []) (rest := [.ref q_1]) ⟨hx, hb, hml, hown, hts⟩ (c_K_told l hl D cy sa q_1 H.size) (cwI 0 hts gl_X11_init rfl rfl rfl ini_RX11 ml117 im_X11_init rfl (by decide +kernel) ⟨Nat.le_of_ble_eq_true rfl, Nat.le_of_ble_eq_true rfl⟩) ⟨pcW.blind, (pcW.mk hP hD hS hA hG hT [0] rfl (by decide))⟩ rfl rfl hlv.1 rfl (lv_room (Nat.le_of_ble_eq_true rfl)) dL_law__4 ⟨Nat.le_of_ble_eq_true rfl, Nat.le_of_ble_eq_true rfl⟩) hP hD hS hA [0] [] rfl rfl (by decide) (by decide) (fun u1 H locs hw1 hP hD hS => ?_)
  have hP : va_P D vwCl [(q_1, .inr (11, [.ref (u1.1 0), .ref (u1.1 1), .ref (u1.1 2), .int 0, .int 0, .ref (u1.1 5), .ref (u1.1 6), .ref (u1.1 7), .ref (u1.1 8), .ref (u1.1 9), .int 0, .ref (u1.1 11), .ref (u1.1 12), .ref (u1.1 13)])), ((u1.1 5), .inr (6, [.int 0, .int 0, .ref (u1.1 21), .ref (u1.1 22), .int 0, .int 0, .ref (u1.1 23), .int 0, .ref (u1.1 24), .int 0, .int 0, .ref (u1.1 25), .int 0, .ref (u1.1 26), .int 0, .int 0, .int 0, .int 0, .int 0])), ((u1.1 13), .inl (cy 0, 4, .inl (fun _ => 0)))] H := hP
  have hD : va_D A [(q_1, .inr (11, [.ref (u1.1 0), .ref (u1.1 1), .ref (u1.1 2), .int 0, .int 0, .ref (u1.1 5), .ref (u1.1 6), .ref (u1.1 7), .ref (u1.1 8), .ref (u1.1 9), .int 0, .ref (u1.1 11), .ref (u1.1 12), .ref (u1.1 13)])), ((u1.1 5), .inr (6, [.int 0, .int 0, .ref (u1.1 21), .ref (u1.1 22), .int 0, .int 0, .ref (u1.1 23), .int 0, .ref (u1.1 24), .int 0, .int 0, .ref (u1.1 25), .int 0, .ref (u1.1 26), .int 0, .int 0, .int 0, .int 0, .int 0])), ((u1.1 13), .inl (cy 0, 4, .inl (fun _ => 0)))] := hD
  refine lv_astore_n (lv' := [(1, .ref q_1), (0, .ref b)]) hx hb dL_law__7 rfl hlv (by decide) rfl (fun ls hlv => ?_)
  refine va_new (ci := 12) (fs := [.int 0, .null, .int 0, .int 0, .int 0, .int 0, .int 0, .int 0, .int 0, .null, .null, .null, .null, .null, .null, .null, .int 0, .int 0, .int 0, .null, .null, .null, .int 0, .null, .null, .null, .null, .null, .null, .int 0, .int 0, .int 0, .int 0, .null, .int 0, .null, .int 0, .int 0]) (C := RX12) (T := TX12) (N := 38) hx hb hts inX12 tyX12 tyX12_ok hown cl118 in12 ini12 hG.1 hP hD hS hA rfl (by decide) (Nat.le_of_ble_eq_true rfl) (Nat.le_of_ble_eq_true rfl) dL_law__8 (fun q_2 H hP hD hS => ?_)
  have hP : va_P D vwCl [(q_1, .inr (11, [.ref (u1.1 0), .ref (u1.1 1), .ref (u1.1 2), .int 0, .int 0, .ref (u1.1 5), .ref (u1.1 6), .ref (u1.1 7), .ref (u1.1 8), .ref (u1.1 9), .int 0, .ref (u1.1 11), .ref (u1.1 12), .ref (u1.1 13)])), ((u1.1 5), .inr (6, [.int 0, .int 0, .ref (u1.1 21), .ref (u1.1 22), .int 0, .int 0, .ref (u1.1 23), .int 0, .ref (u1.1 24), .int 0, .int 0, .ref (u1.1 25), .int 0, .ref (u1.1 26), .int 0, .int 0, .int 0, .int 0, .int 0])), ((u1.1 13), .inl (cy 0, 4, .inl (fun _ => 0))), (q_2, .inr (12, [.int 0, .null, .int 0, .int 0, .int 0, .int 0, .int 0, .int 0, .int 0, .null, .null, .null, .null, .null, .null, .null, .int 0, .int 0, .int 0, .null, .null, .null, .int 0, .null, .null, .null, .null, .null, .null, .int 0, .int 0, .int 0, .int 0, .null, .int 0, .null, .int 0, .int 0]))] H := hP
  have hD : va_D A [(q_1, .inr (11, [.ref (u1.1 0), .ref (u1.1 1), .ref (u1.1 2), .int 0, .int 0, .ref (u1.1 5), .ref (u1.1 6), .ref (u1.1 7), .ref (u1.1 8), .ref (u1.1 9), .int 0, .ref (u1.1 11), .ref (u1.1 12), .ref (u1.1 13)])), ((u1.1 5), .inr (6, [.int 0, .int 0, .ref (u1.1 21), .ref (u1.1 22), .int 0, .int 0, .ref (u1.1 23), .int 0, .ref (u1.1 24), .int 0, .int 0, .ref (u1.1 25), .int 0, .ref (u1.1 26), .int 0, .int 0, .int 0, .int 0, .int 0])), ((u1.1 13), .inl (cy 0, 4, .inl (fun _ => 0))), (q_2, .inr (12, [.int 0, .null, .int 0, .int 0, .int 0, .int 0, .int 0, .int 0, .int 0, .null, .null, .null, .null, .null, .null, .null, .int 0, .int 0, .int 0, .null, .null, .null, .int 0, .null, .null, .null, .null, .null, .null, .int 0, .int 0, .int 0, .int 0, .null, .int 0, .null, .int 0, .int 0]))] := hD
  refine lv_dup hx hb dL_law__11 rfl ?_
  refine cj_v (wr := [(q_1, .inr (11, [.ref (u1.1 0), .ref (u1.1 1), .ref (u1.1 2), .int 0, .int 0, .ref (u1.1 5), .ref (u1.1 6), .ref (u1.1 7), .ref (u1.1 8), .ref (u1.1 9), .int 0, .ref (u1.1 11), .ref (u1.1 12), .ref (u1.1 13)])), ((u1.1 5), .inr (6, [.int 0, .int 0, .ref (u1.1 21), .ref (u1.1 22), .int 0, .int 0, .ref (u1.1 23), .int 0, .ref (u1.1 24), .int 0, .int 0, .ref (u1.1 25), .int 0, .ref (u1.1 26), .int 0, .int 0, .int 0, .int 0, .int 0])), ((u1.1 13), .inl (cy 0, 4, .inl (fun _ => 0)))]) (va_runI (As := []) (rest := [.ref q_2]) ⟨hx, hb, hml, hown, hts⟩ (c_M_told l hl D cy sa q_2 H.size) (cwI 0 hts gl_X12_init rfl rfl rfl ini_RX12 ml120 im_X12_init rfl (by decide +kernel) ⟨Nat.le_of_ble_eq_true rfl, Nat.le_of_ble_eq_true rfl⟩) ⟨pcW.blind, (pcW.mk hP hD hS hA hG hT [3] rfl (by decide))⟩ rfl rfl hlv.1 rfl (lv_room (Nat.le_of_ble_eq_true rfl)) dL_law__12 ⟨Nat.le_of_ble_eq_true rfl, Nat.le_of_ble_eq_true rfl⟩) hP hD hS hA [3] [0, 1, 2] rfl rfl (by decide) (by decide) (fun u2 H locs hw2 hP hD hS => ?_)
  have hP : va_P D vwCl [(q_1, .inr (11, [.ref (u1.1 0), .ref (u1.1 1), .ref (u1.1 2), .int 0, .int 0, .ref (u1.1 5), .ref (u1.1 6), .ref (u1.1 7), .ref (u1.1 8), .ref (u1.1 9), .int 0, .ref (u1.1 11), .ref (u1.1 12), .ref (u1.1 13)])), ((u1.1 5), .inr (6, [.int 0, .int 0, .ref (u1.1 21), .ref (u1.1 22), .int 0, .int 0, .ref (u1.1 23), .int 0, .ref (u1.1 24), .int 0, .int 0, .ref (u1.1 25), .int 0, .ref (u1.1 26), .int 0, .int 0, .int 0, .int 0, .int 0])), ((u1.1 13), .inl (cy 0, 4, .inl (fun _ => 0))), (q_2, .inr (12, [.int 0, .ref (u2.1 1), .int 0, .int 0, .int 0, .int 0, .int 0, .int 0, .int (-1), .ref (u2.1 9), .ref (u2.1 10), .ref (u2.1 11), .ref (u2.1 12), .ref (u2.1 13), .ref (u2.1 14), .ref (u2.1 15), .int 0, .int 0, .int 0, .ref (u2.1 19), .ref (u2.1 20), .ref (u2.1 21), .int 0, .ref (u2.1 23), .ref (u2.1 24), .ref (u2.1 25), .ref (u2.1 26), .ref (u2.1 27), .ref (u2.1 28), .int 0, .int 0, .int 0, .int 0, .ref (u2.1 33), .int (-1), .ref (u2.1 35), .int 0, .int 0])), ((u2.1 1), .inl (cy 0, 4, .inl (fun _ => 0))), ((u2.1 10), .inl (cy 0, 68, .inl (fun _ => 0))), ((u2.1 12), .inl (cy 0, 389, .inl sF))] H := hP
  have hD : va_D A [(q_1, .inr (11, [.ref (u1.1 0), .ref (u1.1 1), .ref (u1.1 2), .int 0, .int 0, .ref (u1.1 5), .ref (u1.1 6), .ref (u1.1 7), .ref (u1.1 8), .ref (u1.1 9), .int 0, .ref (u1.1 11), .ref (u1.1 12), .ref (u1.1 13)])), ((u1.1 5), .inr (6, [.int 0, .int 0, .ref (u1.1 21), .ref (u1.1 22), .int 0, .int 0, .ref (u1.1 23), .int 0, .ref (u1.1 24), .int 0, .int 0, .ref (u1.1 25), .int 0, .ref (u1.1 26), .int 0, .int 0, .int 0, .int 0, .int 0])), ((u1.1 13), .inl (cy 0, 4, .inl (fun _ => 0))), (q_2, .inr (12, [.int 0, .ref (u2.1 1), .int 0, .int 0, .int 0, .int 0, .int 0, .int 0, .int (-1), .ref (u2.1 9), .ref (u2.1 10), .ref (u2.1 11), .ref (u2.1 12), .ref (u2.1 13), .ref (u2.1 14), .ref (u2.1 15), .int 0, .int 0, .int 0, .ref (u2.1 19), .ref (u2.1 20), .ref (u2.1 21), .int 0, .ref (u2.1 23), .ref (u2.1 24), .ref (u2.1 25), .ref (u2.1 26), .ref (u2.1 27), .ref (u2.1 28), .int 0, .int 0, .int 0, .int 0, .ref (u2.1 33), .int (-1), .ref (u2.1 35), .int 0, .int 0])), ((u2.1 1), .inl (cy 0, 4, .inl (fun _ => 0))), ((u2.1 10), .inl (cy 0, 68, .inl (fun _ => 0))), ((u2.1 12), .inl (cy 0, 389, .inl sF))] := hD
  refine lv_astore_n (lv' := [(2, .ref q_2), (1, .ref q_1), (0, .ref b)]) hx hb dL_law__15 rfl hlv (by decide) rfl (fun ls hlv => ?_)
  refine lv_iconst (v := 1) hx hb dL_law__16 (by decide) ?_
  refine nw_a (atype := .long) (cy := cy) (a0 := (1, .inr (.inl (fun _ => 0)))) (N' := 1) hx hb ac2 (ty := .long) rfl 2 rfl (fun C h => nomatch h) hG.1 hP hD hS hA (fun cA => rfl) (by decide) (by decide) (Nat.le_of_ble_eq_true rfl) (Nat.le_of_ble_eq_true rfl) (Nat.le_of_ble_eq_true rfl) dL_law__17 (fun q_3 H hP hD hS => ?_)
  have hP : va_P D vwCl [(q_1, .inr (11, [.ref (u1.1 0), .ref (u1.1 1), .ref (u1.1 2), .int 0, .int 0, .ref (u1.1 5), .ref (u1.1 6), .ref (u1.1 7), .ref (u1.1 8), .ref (u1.1 9), .int 0, .ref (u1.1 11), .ref (u1.1 12), .ref (u1.1 13)])), ((u1.1 5), .inr (6, [.int 0, .int 0, .ref (u1.1 21), .ref (u1.1 22), .int 0, .int 0, .ref (u1.1 23), .int 0, .ref (u1.1 24), .int 0, .int 0, .ref (u1.1 25), .int 0, .ref (u1.1 26), .int 0, .int 0, .int 0, .int 0, .int 0])), ((u1.1 13), .inl (cy 0, 4, .inl (fun _ => 0))), (q_2, .inr (12, [.int 0, .ref (u2.1 1), .int 0, .int 0, .int 0, .int 0, .int 0, .int 0, .int (-1), .ref (u2.1 9), .ref (u2.1 10), .ref (u2.1 11), .ref (u2.1 12), .ref (u2.1 13), .ref (u2.1 14), .ref (u2.1 15), .int 0, .int 0, .int 0, .ref (u2.1 19), .ref (u2.1 20), .ref (u2.1 21), .int 0, .ref (u2.1 23), .ref (u2.1 24), .ref (u2.1 25), .ref (u2.1 26), .ref (u2.1 27), .ref (u2.1 28), .int 0, .int 0, .int 0, .int 0, .ref (u2.1 33), .int (-1), .ref (u2.1 35), .int 0, .int 0])), ((u2.1 1), .inl (cy 0, 4, .inl (fun _ => 0))), ((u2.1 10), .inl (cy 0, 68, .inl (fun _ => 0))), ((u2.1 12), .inl (cy 0, 389, .inl sF)), (q_3, .inl (cy 2, 1, .inr (.inl (fun _ => 0))))] H := hP
  have hD : va_D A [(q_1, .inr (11, [.ref (u1.1 0), .ref (u1.1 1), .ref (u1.1 2), .int 0, .int 0, .ref (u1.1 5), .ref (u1.1 6), .ref (u1.1 7), .ref (u1.1 8), .ref (u1.1 9), .int 0, .ref (u1.1 11), .ref (u1.1 12), .ref (u1.1 13)])), ((u1.1 5), .inr (6, [.int 0, .int 0, .ref (u1.1 21), .ref (u1.1 22), .int 0, .int 0, .ref (u1.1 23), .int 0, .ref (u1.1 24), .int 0, .int 0, .ref (u1.1 25), .int 0, .ref (u1.1 26), .int 0, .int 0, .int 0, .int 0, .int 0])), ((u1.1 13), .inl (cy 0, 4, .inl (fun _ => 0))), (q_2, .inr (12, [.int 0, .ref (u2.1 1), .int 0, .int 0, .int 0, .int 0, .int 0, .int 0, .int (-1), .ref (u2.1 9), .ref (u2.1 10), .ref (u2.1 11), .ref (u2.1 12), .ref (u2.1 13), .ref (u2.1 14), .ref (u2.1 15), .int 0, .int 0, .int 0, .ref (u2.1 19), .ref (u2.1 20), .ref (u2.1 21), .int 0, .ref (u2.1 23), .ref (u2.1 24), .ref (u2.1 25), .ref (u2.1 26), .ref (u2.1 27), .ref (u2.1 28), .int 0, .int 0, .int 0, .int 0, .ref (u2.1 33), .int (-1), .ref (u2.1 35), .int 0, .int 0])), ((u2.1 1), .inl (cy 0, 4, .inl (fun _ => 0))), ((u2.1 10), .inl (cy 0, 68, .inl (fun _ => 0))), ((u2.1 12), .inl (cy 0, 389, .inl sF)), (q_3, .inl (cy 2, 1, .inr (.inl (fun _ => 0))))] := hD
  refine lv_astore_n (lv' := [(3, .ref q_3), (2, .ref q_2), (1, .ref q_1), (0, .ref b)]) hx hb dL_law__19 rfl hlv (by decide) rfl (fun ls hlv => ?_)
  refine lv_iconst (v := 0) hx hb dL_law__20 (by decide) ?_
  refine lv_istore (lv' := [(4, .int 0), (3, .ref q_3), (2, .ref q_2), (1, .ref q_1), (0, .ref b)]) hx hb dL_law__21 hlv (by decide) rfl (fun ls hlv => ?_)
  refine lv_iload hx hb dL_law__23 (lv_at hlv 0 rfl) ?_
  refine lv_aload_n hx hb dL_law__25 rfl (lv_at hlv 4 rfl) ?_
  refine va_slen hx hb hX hbl hbA hS dL_law__26 ?_
  refine lt_i (y := 10) (by decide) ?_
  refine lv_bipush (v := 10) hx hb dL_law__27 (by decide) ?_
  refine lv_isub hx hb dL_law__29 ?_
  refine lt_i (y := 0) (by decide) ?_
  refine lv_icmp_gt (tgt := 2761) hx hb dL_law__30 (by decide) (fun c => absurd c (by decide)) (fun _ => ?_)
  refine lv_aload_n hx hb dL_law__33 rfl (lv_at hlv 4 rfl) ?_
  refine lv_iload hx hb dL_law__34 (lv_at hlv 0 rfl) ?_
  refine va_sld hx hb hX hbl hbA hS (vpd (by decide)) dL_law__36 ?_
  refine lt_i (y := xs 0) rfl ?_
  refine lv_bipush (v := 63) hx hb dL_law__37 (by decide) ?_
  refine lv_iand hx hb dL_law__39 ?_
  refine lt_i (y := 5) h63 ?_
  refine lv_tableIn (tgt := 462) hx hb dL_law__40 (by decide) (by decide) rfl (by decide) ?_
  refine lv_aload_n hx hb dL_law__462 rfl (lv_at hlv 3 rfl) ?_
  refine lv_aload_n hx hb dL_law__463 rfl (lv_at hlv 4 rfl) ?_
  refine lv_iload hx hb dL_law__464 (lv_at hlv 0 rfl) ?_
  refine lv_iconst (v := 1) hx hb dL_law__466 (by decide) ?_
  refine lv_iadd hx hb dL_law__467 ?_
  refine lt_i (y := 1) (by decide) ?_
  refine va_sld hx hb hX hbl hbA hS (vpd (by decide)) dL_law__468 ?_
  refine lt_i (y := xs 1) rfl ?_
  refine lv_aload_n hx hb dL_law__469 rfl (lv_at hlv 1 rfl) ?_
  refine cj_i (wr := [(q_2, .inr (12, [.int 0, .ref (u2.1 1), .int 0, .int 0, .int 0, .int 0, .int 0, .int 0, .int (-1), .ref (u2.1 9), .ref (u2.1 10), .ref (u2.1 11), .ref (u2.1 12), .ref (u2.1 13), .ref (u2.1 14), .ref (u2.1 15), .int 0, .int 0, .int 0, .ref (u2.1 19), .ref (u2.1 20), .ref (u2.1 21), .int 0, .ref (u2.1 23), .ref (u2.1 24), .ref (u2.1 25), .ref (u2.1 26), .ref (u2.1 27), .ref (u2.1 28), .int 0, .int 0, .int 0, .int 0, .ref (u2.1 33), .int (-1), .ref (u2.1 35), .int 0, .int 0])), ((u2.1 1), .inl (cy 0, 4, .inl (fun _ => 0))), ((u2.1 10), .inl (cy 0, 68, .inl (fun _ => 0))), ((u2.1 12), .inl (cy 0, 389, .inl sF))]) (vx_runSW (As := [.ref q_1, .int (xs 1), .ref q_3]) (rest := []) ⟨hx, hb, hml, hown, hts⟩ (w_told l hl D cy sa q_1 u1.1 (xs 1) q_3 H.size) (vx_cwSW 3 hts gl_w_told rfl rfl rfl (by decide +kernel) ⟨Nat.le_of_ble_eq_true rfl, Nat.le_of_ble_eq_true rfl⟩) ⟨pcW.blind, (pcW.mk hP hD hS hA hG hT [0, 1, 2, 7] rfl (by decide))⟩ rfl rfl hlv.1 rfl (lv_room (Nat.le_of_ble_eq_true rfl)) dL_law__470 ⟨Nat.le_of_ble_eq_true rfl, Nat.le_of_ble_eq_true rfl⟩) hP hD hS hA [0, 1, 2, 7] [3, 4, 5, 6] rfl rfl (by decide) (by decide) (fun r3 u3 H locs hw3 hP hD hS => ?_)
  rcases hw3 with ⟨hg3, rfl, he3_0⟩ | ⟨hg3, rfl⟩
  · rw [he3_0] at hP hD
    have hP : va_P D vwCl [(q_2, .inr (12, [.int 0, .ref (u2.1 1), .int 0, .int 0, .int 0, .int 0, .int 0, .int 0, .int (-1), .ref (u2.1 9), .ref (u2.1 10), .ref (u2.1 11), .ref (u2.1 12), .ref (u2.1 13), .ref (u2.1 14), .ref (u2.1 15), .int 0, .int 0, .int 0, .ref (u2.1 19), .ref (u2.1 20), .ref (u2.1 21), .int 0, .ref (u2.1 23), .ref (u2.1 24), .ref (u2.1 25), .ref (u2.1 26), .ref (u2.1 27), .ref (u2.1 28), .int 0, .int 0, .int 0, .int 0, .ref (u2.1 33), .int (-1), .ref (u2.1 35), .int 0, .int 0])), ((u2.1 1), .inl (cy 0, 4, .inl (fun _ => 0))), ((u2.1 10), .inl (cy 0, 68, .inl (fun _ => 0))), ((u2.1 12), .inl (cy 0, 389, .inl sF)), (q_3, .inl (cy 2, 1, .inr (.inl (fun _ => (0 : Int32).toInt64))))] H := hP
    have hD : va_D A [(q_2, .inr (12, [.int 0, .ref (u2.1 1), .int 0, .int 0, .int 0, .int 0, .int 0, .int 0, .int (-1), .ref (u2.1 9), .ref (u2.1 10), .ref (u2.1 11), .ref (u2.1 12), .ref (u2.1 13), .ref (u2.1 14), .ref (u2.1 15), .int 0, .int 0, .int 0, .ref (u2.1 19), .ref (u2.1 20), .ref (u2.1 21), .int 0, .ref (u2.1 23), .ref (u2.1 24), .ref (u2.1 25), .ref (u2.1 26), .ref (u2.1 27), .ref (u2.1 28), .int 0, .int 0, .int 0, .int 0, .ref (u2.1 33), .int (-1), .ref (u2.1 35), .int 0, .int 0])), ((u2.1 1), .inl (cy 0, 4, .inl (fun _ => 0))), ((u2.1 10), .inl (cy 0, 68, .inl (fun _ => 0))), ((u2.1 12), .inl (cy 0, 389, .inl sF)), (q_3, .inl (cy 2, 1, .inr (.inl (fun _ => (0 : Int32).toInt64))))] := hD
    refine lv_istore (lv' := [(5, .int 0), (4, .int 0), (3, .ref q_3), (2, .ref q_2), (1, .ref q_1), (0, .ref b)]) hx hb dL_law__473 hlv (by decide) rfl (fun ls hlv => ?_)
    refine lv_aload_n hx hb dL_law__475 rfl (lv_at hlv 3 rfl) ?_
    refine lv_aload_n hx hb dL_law__476 rfl (lv_at hlv 5 rfl) ?_
    refine lv_iload hx hb dL_law__477 (lv_at hlv 1 rfl) ?_
    refine lv_iconst (v := 1) hx hb dL_law__479 (by decide) ?_
    refine lv_iadd hx hb dL_law__480 ?_
    refine lt_i (y := 1) (by decide) ?_
    refine va_sld hx hb hX hbl hbA hS (vpd (by decide)) dL_law__481 ?_
    refine lt_i (y := xs 1) rfl ?_
    refine cj_i (wr := [(q_3, .inl (cy 2, 1, .inr (.inl (fun _ => (0 : Int32).toInt64))))]) (va_runV (As := [.int (xs 1)]) (rest := []) ⟨hx, hb, hml, hown, hts⟩ (m_told l hl D cy sa q_2 u2.1 (xs 1) H.size) (cwV 1 hts gl_m_told rfl rfl rfl (by decide +kernel) ⟨Nat.le_of_ble_eq_true rfl, Nat.le_of_ble_eq_true rfl⟩) ⟨pcW.blind, (va_recv hG.1 hP (ci := 12) (q0 := 0) rfl rfl), (pcW.mk hP hD hS hA hG hT [0, 1, 2, 3] rfl (by decide))⟩ rfl rfl hlv.1 rfl (lv_room (Nat.le_of_ble_eq_true rfl)) dL_law__482 ⟨Nat.le_of_ble_eq_true rfl, Nat.le_of_ble_eq_true rfl⟩) hP hD hS hA [0, 1, 2, 3] [4] rfl rfl (by decide) (by decide) (fun r4 u4 H locs hw4 hP hD hS => ?_)
    rcases hw4 with ⟨hg4, rfl, he4_0⟩ | ⟨hg4, rfl, he4_0⟩
    · exact absurd hg4 (fun q => absurd hg3 q)
    · rw [he4_0] at hP hD
      have hP : va_P D vwCl [(q_3, .inl (cy 2, 1, .inr (.inl (fun _ => (0 : Int32).toInt64)))), (q_2, .inr (12, [.int 0, .ref (u2.1 1), .int 0, .int 0, .int 0, .int 0, .int 0, .int 0, .int (-1), .ref (u2.1 9), .ref (u2.1 10), .ref (u2.1 11), .ref (u2.1 12), .ref (u2.1 13), .ref (u2.1 14), .ref (u2.1 15), .int 0, .int 0, .int 0, .ref (u2.1 19), .ref (u2.1 20), .ref (u2.1 21), .int 0, .ref (u2.1 23), .ref (u2.1 24), .ref (u2.1 25), .ref (u2.1 26), .ref (u2.1 27), .ref (u2.1 28), .int 0, .int 0, .int 0, .int 0, .ref (u2.1 33), .int (-1), .ref (u2.1 35), .int 0, .int 0]))] H := hP
      have hD : va_D A [(q_3, .inl (cy 2, 1, .inr (.inl (fun _ => (0 : Int32).toInt64)))), (q_2, .inr (12, [.int 0, .ref (u2.1 1), .int 0, .int 0, .int 0, .int 0, .int 0, .int 0, .int (-1), .ref (u2.1 9), .ref (u2.1 10), .ref (u2.1 11), .ref (u2.1 12), .ref (u2.1 13), .ref (u2.1 14), .ref (u2.1 15), .int 0, .int 0, .int 0, .ref (u2.1 19), .ref (u2.1 20), .ref (u2.1 21), .int 0, .ref (u2.1 23), .ref (u2.1 24), .ref (u2.1 25), .ref (u2.1 26), .ref (u2.1 27), .ref (u2.1 28), .int 0, .int 0, .int 0, .int 0, .ref (u2.1 33), .int (-1), .ref (u2.1 35), .int 0, .int 0]))] := hD
      refine lv_istore (lv' := [(6, .int 0), (5, .int 0), (4, .int 0), (3, .ref q_3), (2, .ref q_2), (1, .ref q_1), (0, .ref b)]) hx hb dL_law__485 hlv (by decide) rfl (fun ls hlv => ?_)
      refine lv_aload_n hx hb dL_law__487 rfl (lv_at hlv 4 rfl) ?_
      refine cj_i (wr := [(q_3, .inl (cy 2, 1, .inr (.inl (fun _ => (0 : Int32).toInt64))))]) (va_runV (As := []) (rest := []) ⟨hx, hb, hml, hown, hts⟩ (c_thrown l hl D cy sa q_2 u2.1 0 0 0 0 0 0 0 (-1) 0 0 0 0 0 0 0 0 (-1) 0 0 H.size) (cwV 0 hts gl_c_thrown rfl rfl rfl (by decide +kernel) ⟨Nat.le_of_ble_eq_true rfl, Nat.le_of_ble_eq_true rfl⟩) ⟨pcW.blind, (va_recv hG.1 hP (ci := 12) (q0 := 1) rfl rfl), (pcW.mk hP hD hS hA hG hT [1] rfl (by decide))⟩ rfl rfl hlv.1 rfl (lv_room (Nat.le_of_ble_eq_true rfl)) dL_law__488 ⟨Nat.le_of_ble_eq_true rfl, Nat.le_of_ble_eq_true rfl⟩) hP hD hS hA [1] [0] rfl rfl (by decide) (by decide) (fun r5 u5 H locs hw5 hP hD hS => ?_)
      obtain rfl := hw5
      have hP : va_P D vwCl [(q_3, .inl (cy 2, 1, .inr (.inl (fun _ => (0 : Int32).toInt64))))] H := hP
      have hD : va_D A [(q_3, .inl (cy 2, 1, .inr (.inl (fun _ => (0 : Int32).toInt64))))] := hD
      refine lv_iload hx hb dL_law__491 (lv_at hlv 1 rfl) ?_
      refine lv_icmp_eq (tgt := 498) hx hb dL_law__493 (by decide) (fun _ => ?_) (fun c => absurd (by decide) c)
      refine lv_iload hx hb dL_law__498 (lv_at hlv 1 rfl) ?_
      refine lv_if_ne (tgt := 515) hx hb dL_law__500 (by decide) (fun c => absurd (by decide) c) (fun _ => ?_)
      refine lv_aload_n hx hb dL_law__503 rfl (lv_at hlv 3 rfl) ?_
      refine lv_iconst (v := 0) hx hb dL_law__504 (by decide) ?_
      refine va_lald hx hb hG.1 hP 0 2 rfl rfl (vpd (by decide)) dL_law__505 ?_
      refine ltv (y := .long ((0 : Int32).toInt64)) rfl ?_
      refine lv_iload hx hb dL_law__506 (lv_at hlv 0 rfl) ?_
      refine lv_i2l (v := (0 : Int32).toInt64) hx hb dL_law__508 rfl ?_
      refine W.lcmp hx hb dL_law__509 ?_
      refine lt_i (y := 0) (lcmp_self _) ?_
      refine lv_if_eq (tgt := 515) hx hb dL_law__510 (by decide) (fun _ => ?_) (fun c => absurd (by decide) c)
      refine lv_goto (tgt := 2755) hx hb dL_law__515 (by decide) ?_
      refine lv_iinc (v := 10) (lv' := [(4, .int 10), (6, .int 0), (5, .int 0), (3, .ref q_3), (2, .ref q_2), (1, .ref q_1), (0, .ref b)]) hx hb dL_law__2755 hlv (k := 2) rfl (by decide) (by decide) rfl (fun ls hlv => ?_)
      refine lv_goto (tgt := 23) hx hb dL_law__2758 (by decide) ?_
      refine lv_iload hx hb dL_law__23 (lv_at hlv 0 rfl) ?_
      refine lv_aload_n hx hb dL_law__25 rfl (lv_at hlv 6 rfl) ?_
      refine va_slen hx hb hX hbl hbA hS dL_law__26 ?_
      refine lt_i (y := 10) (by decide) ?_
      refine lv_bipush (v := 10) hx hb dL_law__27 (by decide) ?_
      refine lv_isub hx hb dL_law__29 ?_
      refine lt_i (y := 0) (by decide) ?_
      refine lv_icmp_gt (tgt := 2761) hx hb dL_law__30 (by decide) (fun _ => ?_) (fun c => absurd (by decide) c)
      refine lv_iconst (v := 1) hx hb dL_law__2761 (by decide) ?_
      refine va_forget (fun q hq => by have h9 := hS.2.2 q hq; rw [hAe] at h9; exact h9) ?_
      refine W.widen (k := 600002) (n := 7302232) (Nat.le_of_ble_eq_true rfl) (Nat.le_of_ble_eq_true rfl) ?_
      exact lw_ret hx hb hr hlocks dL_law__2762
  · have hP : va_P D vwCl [(q_2, .inr (12, [.int 0, .ref (u2.1 1), .int 0, .int 0, .int 0, .int 0, .int 0, .int 0, .int (-1), .ref (u2.1 9), .ref (u2.1 10), .ref (u2.1 11), .ref (u2.1 12), .ref (u2.1 13), .ref (u2.1 14), .ref (u2.1 15), .int 0, .int 0, .int 0, .ref (u2.1 19), .ref (u2.1 20), .ref (u2.1 21), .int 0, .ref (u2.1 23), .ref (u2.1 24), .ref (u2.1 25), .ref (u2.1 26), .ref (u2.1 27), .ref (u2.1 28), .int 0, .int 0, .int 0, .int 0, .ref (u2.1 33), .int (-1), .ref (u2.1 35), .int 0, .int 0])), ((u2.1 1), .inl (cy 0, 4, .inl (fun _ => 0))), ((u2.1 10), .inl (cy 0, 68, .inl (fun _ => 0))), ((u2.1 12), .inl (cy 0, 389, .inl sF)), (q_3, .inl (cy 2, 1, .inr (.inl (fun _ => (u3.2.1 0 : Int32).toInt64))))] H := hP
    have hD : va_D A [(q_2, .inr (12, [.int 0, .ref (u2.1 1), .int 0, .int 0, .int 0, .int 0, .int 0, .int 0, .int (-1), .ref (u2.1 9), .ref (u2.1 10), .ref (u2.1 11), .ref (u2.1 12), .ref (u2.1 13), .ref (u2.1 14), .ref (u2.1 15), .int 0, .int 0, .int 0, .ref (u2.1 19), .ref (u2.1 20), .ref (u2.1 21), .int 0, .ref (u2.1 23), .ref (u2.1 24), .ref (u2.1 25), .ref (u2.1 26), .ref (u2.1 27), .ref (u2.1 28), .int 0, .int 0, .int 0, .int 0, .ref (u2.1 33), .int (-1), .ref (u2.1 35), .int 0, .int 0])), ((u2.1 1), .inl (cy 0, 4, .inl (fun _ => 0))), ((u2.1 10), .inl (cy 0, 68, .inl (fun _ => 0))), ((u2.1 12), .inl (cy 0, 389, .inl sF)), (q_3, .inl (cy 2, 1, .inr (.inl (fun _ => (u3.2.1 0 : Int32).toInt64))))] := hD
    refine lv_istore (lv' := [(5, .int 1), (4, .int 0), (3, .ref q_3), (2, .ref q_2), (1, .ref q_1), (0, .ref b)]) hx hb dL_law__473 hlv (by decide) rfl (fun ls hlv => ?_)
    refine lv_aload_n hx hb dL_law__475 rfl (lv_at hlv 3 rfl) ?_
    refine lv_aload_n hx hb dL_law__476 rfl (lv_at hlv 5 rfl) ?_
    refine lv_iload hx hb dL_law__477 (lv_at hlv 1 rfl) ?_
    refine lv_iconst (v := 1) hx hb dL_law__479 (by decide) ?_
    refine lv_iadd hx hb dL_law__480 ?_
    refine lt_i (y := 1) (by decide) ?_
    refine va_sld hx hb hX hbl hbA hS (vpd (by decide)) dL_law__481 ?_
    refine lt_i (y := xs 1) rfl ?_
    refine cj_i (wr := [(q_3, .inl (cy 2, 1, .inr (.inl (fun _ => (u3.2.1 0 : Int32).toInt64))))]) (va_runV (As := [.int (xs 1)]) (rest := []) ⟨hx, hb, hml, hown, hts⟩ (m_told l hl D cy sa q_2 u2.1 (xs 1) H.size) (cwV 1 hts gl_m_told rfl rfl rfl (by decide +kernel) ⟨Nat.le_of_ble_eq_true rfl, Nat.le_of_ble_eq_true rfl⟩) ⟨pcW.blind, (va_recv hG.1 hP (ci := 12) (q0 := 0) rfl rfl), (pcW.mk hP hD hS hA hG hT [0, 1, 2, 3] rfl (by decide))⟩ rfl rfl hlv.1 rfl (lv_room (Nat.le_of_ble_eq_true rfl)) dL_law__482 ⟨Nat.le_of_ble_eq_true rfl, Nat.le_of_ble_eq_true rfl⟩) hP hD hS hA [0, 1, 2, 3] [4] rfl rfl (by decide) (by decide) (fun r6 u6 H locs hw6 hP hD hS => ?_)
    rcases hw6 with ⟨hg6, rfl, he6_0⟩ | ⟨hg6, rfl, he6_0⟩
    · rw [he6_0] at hP hD
      have hP : va_P D vwCl [(q_3, .inl (cy 2, 1, .inr (.inl (fun _ => (u3.2.1 0 : Int32).toInt64)))), (q_2, .inr (12, [.int 1, .ref (u2.1 1), .int 0, .int 0, .int 0, .int 0, .int 0, .int 0, .int (-1), .ref (u2.1 9), .ref (u2.1 10), .ref (u2.1 11), .ref (u2.1 12), .ref (u2.1 13), .ref (u2.1 14), .ref (u2.1 15), .int 0, .int 0, .int 0, .ref (u2.1 19), .ref (u2.1 20), .ref (u2.1 21), .int 0, .ref (u2.1 23), .ref (u2.1 24), .ref (u2.1 25), .ref (u2.1 26), .ref (u2.1 27), .ref (u2.1 28), .int 0, .int 0, .int 0, .int 0, .ref (u2.1 33), .int (-1), .ref (u2.1 35), .int 0, .int 0]))] H := hP
      have hD : va_D A [(q_3, .inl (cy 2, 1, .inr (.inl (fun _ => (u3.2.1 0 : Int32).toInt64)))), (q_2, .inr (12, [.int 1, .ref (u2.1 1), .int 0, .int 0, .int 0, .int 0, .int 0, .int 0, .int (-1), .ref (u2.1 9), .ref (u2.1 10), .ref (u2.1 11), .ref (u2.1 12), .ref (u2.1 13), .ref (u2.1 14), .ref (u2.1 15), .int 0, .int 0, .int 0, .ref (u2.1 19), .ref (u2.1 20), .ref (u2.1 21), .int 0, .ref (u2.1 23), .ref (u2.1 24), .ref (u2.1 25), .ref (u2.1 26), .ref (u2.1 27), .ref (u2.1 28), .int 0, .int 0, .int 0, .int 0, .ref (u2.1 33), .int (-1), .ref (u2.1 35), .int 0, .int 0]))] := hD
      refine lv_istore (lv' := [(6, .int 0), (5, .int 1), (4, .int 0), (3, .ref q_3), (2, .ref q_2), (1, .ref q_1), (0, .ref b)]) hx hb dL_law__485 hlv (by decide) rfl (fun ls hlv => ?_)
      refine lv_aload_n hx hb dL_law__487 rfl (lv_at hlv 4 rfl) ?_
      refine cj_i (wr := [(q_3, .inl (cy 2, 1, .inr (.inl (fun _ => (u3.2.1 0 : Int32).toInt64))))]) (va_runV (As := []) (rest := []) ⟨hx, hb, hml, hown, hts⟩ (c_thrown l hl D cy sa q_2 u2.1 1 0 0 0 0 0 0 (-1) 0 0 0 0 0 0 0 0 (-1) 0 0 H.size) (cwV 0 hts gl_c_thrown rfl rfl rfl (by decide +kernel) ⟨Nat.le_of_ble_eq_true rfl, Nat.le_of_ble_eq_true rfl⟩) ⟨pcW.blind, (va_recv hG.1 hP (ci := 12) (q0 := 1) rfl rfl), (pcW.mk hP hD hS hA hG hT [1] rfl (by decide))⟩ rfl rfl hlv.1 rfl (lv_room (Nat.le_of_ble_eq_true rfl)) dL_law__488 ⟨Nat.le_of_ble_eq_true rfl, Nat.le_of_ble_eq_true rfl⟩) hP hD hS hA [1] [0] rfl rfl (by decide) (by decide) (fun r7 u7 H locs hw7 hP hD hS => ?_)
      obtain rfl := hw7
      have hP : va_P D vwCl [(q_3, .inl (cy 2, 1, .inr (.inl (fun _ => (u3.2.1 0 : Int32).toInt64))))] H := hP
      have hD : va_D A [(q_3, .inl (cy 2, 1, .inr (.inl (fun _ => (u3.2.1 0 : Int32).toInt64))))] := hD
      refine lv_iload hx hb dL_law__491 (lv_at hlv 1 rfl) ?_
      refine lv_icmp_eq (tgt := 498) hx hb dL_law__493 (by decide) (fun _ => ?_) (fun c => absurd (by decide) c)
      refine lv_iload hx hb dL_law__498 (lv_at hlv 1 rfl) ?_
      refine lv_if_ne (tgt := 515) hx hb dL_law__500 (by decide) (fun _ => ?_) (fun c => absurd c (by decide))
      refine lv_goto (tgt := 2755) hx hb dL_law__515 (by decide) ?_
      refine lv_iinc (v := 10) (lv' := [(4, .int 10), (6, .int 0), (5, .int 1), (3, .ref q_3), (2, .ref q_2), (1, .ref q_1), (0, .ref b)]) hx hb dL_law__2755 hlv (k := 2) rfl (by decide) (by decide) rfl (fun ls hlv => ?_)
      refine lv_goto (tgt := 23) hx hb dL_law__2758 (by decide) ?_
      refine lv_iload hx hb dL_law__23 (lv_at hlv 0 rfl) ?_
      refine lv_aload_n hx hb dL_law__25 rfl (lv_at hlv 6 rfl) ?_
      refine va_slen hx hb hX hbl hbA hS dL_law__26 ?_
      refine lt_i (y := 10) (by decide) ?_
      refine lv_bipush (v := 10) hx hb dL_law__27 (by decide) ?_
      refine lv_isub hx hb dL_law__29 ?_
      refine lt_i (y := 0) (by decide) ?_
      refine lv_icmp_gt (tgt := 2761) hx hb dL_law__30 (by decide) (fun _ => ?_) (fun c => absurd (by decide) c)
      refine lv_iconst (v := 1) hx hb dL_law__2761 (by decide) ?_
      refine va_forget (fun q hq => by have h9 := hS.2.2 q hq; rw [hAe] at h9; exact h9) ?_
      refine W.widen (k := 600002) (n := 7302232) (Nat.le_of_ble_eq_true rfl) (Nat.le_of_ble_eq_true rfl) ?_
      exact lw_ret hx hb hr hlocks dL_law__2762
    · exact absurd hg6 hg3
set_option maxHeartbeats 4000000 in
set_option maxRecDepth 100000 in
theorem law_cell {p : Program} {e : Env} {s : State} {m : MethodId} {below : List Frame} {meth : Method} {c : Code} (l : Launch) (hl : l.stackTraces = false) {b : Nat} {xs : Nat → Int32} {D : va_G} {cy : Nat → ClassId} {sa : Nat → Nat} {A : Nat → Prop} (hAe : A = fun q => s.heap.size ≤ q) (C0 : lw_At p s m meth c b 10 xs) (hG : GC D cy sa s) (hT : TH A s s.heap) (h63 : xs 0 &&& 63 = 6) : W p l e room_1 s m #[Value.ref b] below meth c s.heap [] 0 0 (lw_Z below #[Value.ref b] s) (entryFrame m ([Value.ref b] : List Value).toArray 7) := by
  obtain ⟨hx, hb, hr, hml, hown0, hts0, hX, hbl, hlocks, hgv⟩ := id C0
  have hown : s.vm.findClass RL = some m.cls := hown0
  have hts := hts0
  have hA : ∀ q : Nat, s.heap.size ≤ q → A q := fun q h => by rw [hAe]; exact h
  have hbA : ¬ A b := by rw [hAe]; exact Nat.not_le.mpr hbl
  have hS : va_S A s.heap s.heap [] := va_S.rf
  have hP : va_P D vwCl [] s.heap := fun k q h => by simp at h
  have hD : va_D A [] := ⟨fun i j p q h => by simp at h, fun k q h => by simp at h⟩
  have hl0 := lv_entry ([.ref b]) (n := 7) (Nat.le_of_ble_eq_true rfl)
  rw [lg_entry_eq]
  generalize (lg_sl ([.ref b]) ++ List.replicate (7 - (lg_sl ([.ref b])).length) Slot.unset).toArray = ls at hl0 ⊢
  have hlv : lv_has ls 7 [(0, .ref b)] := hl0
  have cl8 := hts (.classLink RL 8 RX11) lwd_0
  have in11 := hts (.instantiable RX11 14) lwd_1
  have ini11 := hts (.initialized RX11) lwd_2
  have ini_RX11 := hts (.initialized RX11) lwd_2
  have ml117 := hts (.methodLink RL 117 yX11_init) lwd_3
  have im_X11_init := hts (.instanceMethod yX11_init) lwd_4
  have cl118 := hts (.classLink RL 118 RX12) lwd_5
  have in12 := hts (.instantiable RX12 38) lwd_6
  have ini12 := hts (.initialized RX12) lwd_7
  have ini_RX12 := hts (.initialized RX12) lwd_7
  have ml120 := hts (.methodLink RL 120 yX12_init) lwd_8
  have im_X12_init := hts (.instanceMethod yX12_init) lwd_9
  have ac2 := hts (.arrayClass .long) lwd_10
  refine va_new (ci := 11) (fs := [.null, .null, .null, .int 0, .int 0, .null, .null, .null, .null, .null, .int 0, .null, .null, .null]) (C := RX11) (T := TX11) (N := 14) hx hb hts inX11 tyX11 tyX11_ok hown cl8 in11 ini11 hG.1 hP hD hS hA rfl (by decide) (Nat.le_of_ble_eq_true rfl) (Nat.le_of_ble_eq_true rfl) dL_law__0 (fun q_1 H hP hD hS => ?_)
  have hP : va_P D vwCl [(q_1, .inr (11, [.null, .null, .null, .int 0, .int 0, .null, .null, .null, .null, .null, .int 0, .null, .null, .null]))] H := hP
  have hD : va_D A [(q_1, .inr (11, [.null, .null, .null, .int 0, .int 0, .null, .null, .null, .null, .null, .int 0, .null, .null, .null]))] := hD
  refine lv_dup hx hb dL_law__3 rfl ?_
  refine cj_v (wr := []) (va_runI (As := []) (rest := [.ref q_1]) ⟨hx, hb, hml, hown, hts⟩ (c_K_cell l hl D cy sa q_1 H.size) (cwI 0 hts gl_X11_init rfl rfl rfl ini_RX11 ml117 im_X11_init rfl (by decide +kernel) ⟨Nat.le_of_ble_eq_true rfl, Nat.le_of_ble_eq_true rfl⟩) ⟨pcW.blind, (pcW.mk hP hD hS hA hG hT [0] rfl (by decide))⟩ rfl rfl hlv.1 rfl (lv_room (Nat.le_of_ble_eq_true rfl)) dL_law__4 ⟨Nat.le_of_ble_eq_true rfl, Nat.le_of_ble_eq_true rfl⟩) hP hD hS hA [0] [] rfl rfl (by decide) (by decide) (fun u1 H locs hw1 hP hD hS => ?_)
  have hP : va_P D vwCl [(q_1, .inr (11, [.ref (u1.1 0), .ref (u1.1 1), .ref (u1.1 2), .int 0, .int 0, .ref (u1.1 5), .ref (u1.1 6), .ref (u1.1 7), .ref (u1.1 8), .ref (u1.1 9), .int 0, .ref (u1.1 11), .ref (u1.1 12), .ref (u1.1 13)])), ((u1.1 5), .inr (6, [.int 0, .int 0, .ref (u1.1 21), .ref (u1.1 22), .int 0, .int 0, .ref (u1.1 23), .int 0, .ref (u1.1 24), .int 0, .int 0, .ref (u1.1 25), .int 0, .ref (u1.1 26), .int 0, .int 0, .int 0, .int 0, .int 0])), ((u1.1 13), .inl (cy 0, 4, .inl (fun _ => 0)))] H := hP
  have hD : va_D A [(q_1, .inr (11, [.ref (u1.1 0), .ref (u1.1 1), .ref (u1.1 2), .int 0, .int 0, .ref (u1.1 5), .ref (u1.1 6), .ref (u1.1 7), .ref (u1.1 8), .ref (u1.1 9), .int 0, .ref (u1.1 11), .ref (u1.1 12), .ref (u1.1 13)])), ((u1.1 5), .inr (6, [.int 0, .int 0, .ref (u1.1 21), .ref (u1.1 22), .int 0, .int 0, .ref (u1.1 23), .int 0, .ref (u1.1 24), .int 0, .int 0, .ref (u1.1 25), .int 0, .ref (u1.1 26), .int 0, .int 0, .int 0, .int 0, .int 0])), ((u1.1 13), .inl (cy 0, 4, .inl (fun _ => 0)))] := hD
  refine lv_astore_n (lv' := [(1, .ref q_1), (0, .ref b)]) hx hb dL_law__7 rfl hlv (by decide) rfl (fun ls hlv => ?_)
  refine va_new (ci := 12) (fs := [.int 0, .null, .int 0, .int 0, .int 0, .int 0, .int 0, .int 0, .int 0, .null, .null, .null, .null, .null, .null, .null, .int 0, .int 0, .int 0, .null, .null, .null, .int 0, .null, .null, .null, .null, .null, .null, .int 0, .int 0, .int 0, .int 0, .null, .int 0, .null, .int 0, .int 0]) (C := RX12) (T := TX12) (N := 38) hx hb hts inX12 tyX12 tyX12_ok hown cl118 in12 ini12 hG.1 hP hD hS hA rfl (by decide) (Nat.le_of_ble_eq_true rfl) (Nat.le_of_ble_eq_true rfl) dL_law__8 (fun q_2 H hP hD hS => ?_)
  have hP : va_P D vwCl [(q_1, .inr (11, [.ref (u1.1 0), .ref (u1.1 1), .ref (u1.1 2), .int 0, .int 0, .ref (u1.1 5), .ref (u1.1 6), .ref (u1.1 7), .ref (u1.1 8), .ref (u1.1 9), .int 0, .ref (u1.1 11), .ref (u1.1 12), .ref (u1.1 13)])), ((u1.1 5), .inr (6, [.int 0, .int 0, .ref (u1.1 21), .ref (u1.1 22), .int 0, .int 0, .ref (u1.1 23), .int 0, .ref (u1.1 24), .int 0, .int 0, .ref (u1.1 25), .int 0, .ref (u1.1 26), .int 0, .int 0, .int 0, .int 0, .int 0])), ((u1.1 13), .inl (cy 0, 4, .inl (fun _ => 0))), (q_2, .inr (12, [.int 0, .null, .int 0, .int 0, .int 0, .int 0, .int 0, .int 0, .int 0, .null, .null, .null, .null, .null, .null, .null, .int 0, .int 0, .int 0, .null, .null, .null, .int 0, .null, .null, .null, .null, .null, .null, .int 0, .int 0, .int 0, .int 0, .null, .int 0, .null, .int 0, .int 0]))] H := hP
  have hD : va_D A [(q_1, .inr (11, [.ref (u1.1 0), .ref (u1.1 1), .ref (u1.1 2), .int 0, .int 0, .ref (u1.1 5), .ref (u1.1 6), .ref (u1.1 7), .ref (u1.1 8), .ref (u1.1 9), .int 0, .ref (u1.1 11), .ref (u1.1 12), .ref (u1.1 13)])), ((u1.1 5), .inr (6, [.int 0, .int 0, .ref (u1.1 21), .ref (u1.1 22), .int 0, .int 0, .ref (u1.1 23), .int 0, .ref (u1.1 24), .int 0, .int 0, .ref (u1.1 25), .int 0, .ref (u1.1 26), .int 0, .int 0, .int 0, .int 0, .int 0])), ((u1.1 13), .inl (cy 0, 4, .inl (fun _ => 0))), (q_2, .inr (12, [.int 0, .null, .int 0, .int 0, .int 0, .int 0, .int 0, .int 0, .int 0, .null, .null, .null, .null, .null, .null, .null, .int 0, .int 0, .int 0, .null, .null, .null, .int 0, .null, .null, .null, .null, .null, .null, .int 0, .int 0, .int 0, .int 0, .null, .int 0, .null, .int 0, .int 0]))] := hD
  refine lv_dup hx hb dL_law__11 rfl ?_
  refine cj_v (wr := [(q_1, .inr (11, [.ref (u1.1 0), .ref (u1.1 1), .ref (u1.1 2), .int 0, .int 0, .ref (u1.1 5), .ref (u1.1 6), .ref (u1.1 7), .ref (u1.1 8), .ref (u1.1 9), .int 0, .ref (u1.1 11), .ref (u1.1 12), .ref (u1.1 13)])), ((u1.1 5), .inr (6, [.int 0, .int 0, .ref (u1.1 21), .ref (u1.1 22), .int 0, .int 0, .ref (u1.1 23), .int 0, .ref (u1.1 24), .int 0, .int 0, .ref (u1.1 25), .int 0, .ref (u1.1 26), .int 0, .int 0, .int 0, .int 0, .int 0])), ((u1.1 13), .inl (cy 0, 4, .inl (fun _ => 0)))]) (va_runI (As := []) (rest := [.ref q_2]) ⟨hx, hb, hml, hown, hts⟩ (c_M_cell l hl D cy sa q_2 H.size) (cwI 0 hts gl_X12_init rfl rfl rfl ini_RX12 ml120 im_X12_init rfl (by decide +kernel) ⟨Nat.le_of_ble_eq_true rfl, Nat.le_of_ble_eq_true rfl⟩) ⟨pcW.blind, (pcW.mk hP hD hS hA hG hT [3] rfl (by decide))⟩ rfl rfl hlv.1 rfl (lv_room (Nat.le_of_ble_eq_true rfl)) dL_law__12 ⟨Nat.le_of_ble_eq_true rfl, Nat.le_of_ble_eq_true rfl⟩) hP hD hS hA [3] [0, 1, 2] rfl rfl (by decide) (by decide) (fun u2 H locs hw2 hP hD hS => ?_)
  have hP : va_P D vwCl [(q_1, .inr (11, [.ref (u1.1 0), .ref (u1.1 1), .ref (u1.1 2), .int 0, .int 0, .ref (u1.1 5), .ref (u1.1 6), .ref (u1.1 7), .ref (u1.1 8), .ref (u1.1 9), .int 0, .ref (u1.1 11), .ref (u1.1 12), .ref (u1.1 13)])), ((u1.1 5), .inr (6, [.int 0, .int 0, .ref (u1.1 21), .ref (u1.1 22), .int 0, .int 0, .ref (u1.1 23), .int 0, .ref (u1.1 24), .int 0, .int 0, .ref (u1.1 25), .int 0, .ref (u1.1 26), .int 0, .int 0, .int 0, .int 0, .int 0])), ((u1.1 13), .inl (cy 0, 4, .inl (fun _ => 0))), (q_2, .inr (12, [.int 0, .ref (u2.1 1), .int 0, .int 0, .int 0, .int 0, .int 0, .int 0, .int (-1), .ref (u2.1 9), .ref (u2.1 10), .ref (u2.1 11), .ref (u2.1 12), .ref (u2.1 13), .ref (u2.1 14), .ref (u2.1 15), .int 0, .int 0, .int 0, .ref (u2.1 19), .ref (u2.1 20), .ref (u2.1 21), .int 0, .ref (u2.1 23), .ref (u2.1 24), .ref (u2.1 25), .ref (u2.1 26), .ref (u2.1 27), .ref (u2.1 28), .int 0, .int 0, .int 0, .int 0, .ref (u2.1 33), .int (-1), .ref (u2.1 35), .int 0, .int 0])), ((u2.1 1), .inl (cy 0, 4, .inl (fun _ => 0))), ((u2.1 10), .inl (cy 0, 68, .inl (fun _ => 0)))] H := hP
  have hD : va_D A [(q_1, .inr (11, [.ref (u1.1 0), .ref (u1.1 1), .ref (u1.1 2), .int 0, .int 0, .ref (u1.1 5), .ref (u1.1 6), .ref (u1.1 7), .ref (u1.1 8), .ref (u1.1 9), .int 0, .ref (u1.1 11), .ref (u1.1 12), .ref (u1.1 13)])), ((u1.1 5), .inr (6, [.int 0, .int 0, .ref (u1.1 21), .ref (u1.1 22), .int 0, .int 0, .ref (u1.1 23), .int 0, .ref (u1.1 24), .int 0, .int 0, .ref (u1.1 25), .int 0, .ref (u1.1 26), .int 0, .int 0, .int 0, .int 0, .int 0])), ((u1.1 13), .inl (cy 0, 4, .inl (fun _ => 0))), (q_2, .inr (12, [.int 0, .ref (u2.1 1), .int 0, .int 0, .int 0, .int 0, .int 0, .int 0, .int (-1), .ref (u2.1 9), .ref (u2.1 10), .ref (u2.1 11), .ref (u2.1 12), .ref (u2.1 13), .ref (u2.1 14), .ref (u2.1 15), .int 0, .int 0, .int 0, .ref (u2.1 19), .ref (u2.1 20), .ref (u2.1 21), .int 0, .ref (u2.1 23), .ref (u2.1 24), .ref (u2.1 25), .ref (u2.1 26), .ref (u2.1 27), .ref (u2.1 28), .int 0, .int 0, .int 0, .int 0, .ref (u2.1 33), .int (-1), .ref (u2.1 35), .int 0, .int 0])), ((u2.1 1), .inl (cy 0, 4, .inl (fun _ => 0))), ((u2.1 10), .inl (cy 0, 68, .inl (fun _ => 0)))] := hD
  refine lv_astore_n (lv' := [(2, .ref q_2), (1, .ref q_1), (0, .ref b)]) hx hb dL_law__15 rfl hlv (by decide) rfl (fun ls hlv => ?_)
  refine lv_iconst (v := 1) hx hb dL_law__16 (by decide) ?_
  refine nw_a (atype := .long) (cy := cy) (a0 := (1, .inr (.inl (fun _ => 0)))) (N' := 1) hx hb ac2 (ty := .long) rfl 2 rfl (fun C h => nomatch h) hG.1 hP hD hS hA (fun cA => rfl) (by decide) (by decide) (Nat.le_of_ble_eq_true rfl) (Nat.le_of_ble_eq_true rfl) (Nat.le_of_ble_eq_true rfl) dL_law__17 (fun q_3 H hP hD hS => ?_)
  have hP : va_P D vwCl [(q_1, .inr (11, [.ref (u1.1 0), .ref (u1.1 1), .ref (u1.1 2), .int 0, .int 0, .ref (u1.1 5), .ref (u1.1 6), .ref (u1.1 7), .ref (u1.1 8), .ref (u1.1 9), .int 0, .ref (u1.1 11), .ref (u1.1 12), .ref (u1.1 13)])), ((u1.1 5), .inr (6, [.int 0, .int 0, .ref (u1.1 21), .ref (u1.1 22), .int 0, .int 0, .ref (u1.1 23), .int 0, .ref (u1.1 24), .int 0, .int 0, .ref (u1.1 25), .int 0, .ref (u1.1 26), .int 0, .int 0, .int 0, .int 0, .int 0])), ((u1.1 13), .inl (cy 0, 4, .inl (fun _ => 0))), (q_2, .inr (12, [.int 0, .ref (u2.1 1), .int 0, .int 0, .int 0, .int 0, .int 0, .int 0, .int (-1), .ref (u2.1 9), .ref (u2.1 10), .ref (u2.1 11), .ref (u2.1 12), .ref (u2.1 13), .ref (u2.1 14), .ref (u2.1 15), .int 0, .int 0, .int 0, .ref (u2.1 19), .ref (u2.1 20), .ref (u2.1 21), .int 0, .ref (u2.1 23), .ref (u2.1 24), .ref (u2.1 25), .ref (u2.1 26), .ref (u2.1 27), .ref (u2.1 28), .int 0, .int 0, .int 0, .int 0, .ref (u2.1 33), .int (-1), .ref (u2.1 35), .int 0, .int 0])), ((u2.1 1), .inl (cy 0, 4, .inl (fun _ => 0))), ((u2.1 10), .inl (cy 0, 68, .inl (fun _ => 0))), (q_3, .inl (cy 2, 1, .inr (.inl (fun _ => 0))))] H := hP
  have hD : va_D A [(q_1, .inr (11, [.ref (u1.1 0), .ref (u1.1 1), .ref (u1.1 2), .int 0, .int 0, .ref (u1.1 5), .ref (u1.1 6), .ref (u1.1 7), .ref (u1.1 8), .ref (u1.1 9), .int 0, .ref (u1.1 11), .ref (u1.1 12), .ref (u1.1 13)])), ((u1.1 5), .inr (6, [.int 0, .int 0, .ref (u1.1 21), .ref (u1.1 22), .int 0, .int 0, .ref (u1.1 23), .int 0, .ref (u1.1 24), .int 0, .int 0, .ref (u1.1 25), .int 0, .ref (u1.1 26), .int 0, .int 0, .int 0, .int 0, .int 0])), ((u1.1 13), .inl (cy 0, 4, .inl (fun _ => 0))), (q_2, .inr (12, [.int 0, .ref (u2.1 1), .int 0, .int 0, .int 0, .int 0, .int 0, .int 0, .int (-1), .ref (u2.1 9), .ref (u2.1 10), .ref (u2.1 11), .ref (u2.1 12), .ref (u2.1 13), .ref (u2.1 14), .ref (u2.1 15), .int 0, .int 0, .int 0, .ref (u2.1 19), .ref (u2.1 20), .ref (u2.1 21), .int 0, .ref (u2.1 23), .ref (u2.1 24), .ref (u2.1 25), .ref (u2.1 26), .ref (u2.1 27), .ref (u2.1 28), .int 0, .int 0, .int 0, .int 0, .ref (u2.1 33), .int (-1), .ref (u2.1 35), .int 0, .int 0])), ((u2.1 1), .inl (cy 0, 4, .inl (fun _ => 0))), ((u2.1 10), .inl (cy 0, 68, .inl (fun _ => 0))), (q_3, .inl (cy 2, 1, .inr (.inl (fun _ => 0))))] := hD
  refine lv_astore_n (lv' := [(3, .ref q_3), (2, .ref q_2), (1, .ref q_1), (0, .ref b)]) hx hb dL_law__19 rfl hlv (by decide) rfl (fun ls hlv => ?_)
  refine lv_iconst (v := 0) hx hb dL_law__20 (by decide) ?_
  refine lv_istore (lv' := [(4, .int 0), (3, .ref q_3), (2, .ref q_2), (1, .ref q_1), (0, .ref b)]) hx hb dL_law__21 hlv (by decide) rfl (fun ls hlv => ?_)
  refine lv_iload hx hb dL_law__23 (lv_at hlv 0 rfl) ?_
  refine lv_aload_n hx hb dL_law__25 rfl (lv_at hlv 4 rfl) ?_
  refine va_slen hx hb hX hbl hbA hS dL_law__26 ?_
  refine lt_i (y := 10) (by decide) ?_
  refine lv_bipush (v := 10) hx hb dL_law__27 (by decide) ?_
  refine lv_isub hx hb dL_law__29 ?_
  refine lt_i (y := 0) (by decide) ?_
  refine lv_icmp_gt (tgt := 2761) hx hb dL_law__30 (by decide) (fun c => absurd c (by decide)) (fun _ => ?_)
  refine lv_aload_n hx hb dL_law__33 rfl (lv_at hlv 4 rfl) ?_
  refine lv_iload hx hb dL_law__34 (lv_at hlv 0 rfl) ?_
  refine va_sld hx hb hX hbl hbA hS (vpd (by decide)) dL_law__36 ?_
  refine lt_i (y := xs 0) rfl ?_
  refine lv_bipush (v := 63) hx hb dL_law__37 (by decide) ?_
  refine lv_iand hx hb dL_law__39 ?_
  refine lt_i (y := 6) h63 ?_
  refine lv_tableIn (tgt := 518) hx hb dL_law__40 (by decide) (by decide) rfl (by decide) ?_
  refine lv_aload_n hx hb dL_law__518 rfl (lv_at hlv 3 rfl) ?_
  refine lv_aload_n hx hb dL_law__519 rfl (lv_at hlv 4 rfl) ?_
  refine lv_iload hx hb dL_law__520 (lv_at hlv 0 rfl) ?_
  refine lv_iconst (v := 1) hx hb dL_law__522 (by decide) ?_
  refine lv_iadd hx hb dL_law__523 ?_
  refine lt_i (y := 1) (by decide) ?_
  refine va_sld hx hb hX hbl hbA hS (vpd (by decide)) dL_law__524 ?_
  refine lt_i (y := xs 1) rfl ?_
  refine lv_aload_n hx hb dL_law__525 rfl (lv_at hlv 4 rfl) ?_
  refine lv_iload hx hb dL_law__526 (lv_at hlv 0 rfl) ?_
  refine lv_iconst (v := 2) hx hb dL_law__528 (by decide) ?_
  refine lv_iadd hx hb dL_law__529 ?_
  refine lt_i (y := 2) (by decide) ?_
  refine va_sld hx hb hX hbl hbA hS (vpd (by decide)) dL_law__530 ?_
  refine lt_i (y := xs 2) rfl ?_
  refine lv_aload_n hx hb dL_law__531 rfl (lv_at hlv 4 rfl) ?_
  refine lv_iload hx hb dL_law__532 (lv_at hlv 0 rfl) ?_
  refine lv_iconst (v := 3) hx hb dL_law__534 (by decide) ?_
  refine lv_iadd hx hb dL_law__535 ?_
  refine lt_i (y := 3) (by decide) ?_
  refine va_sld hx hb hX hbl hbA hS (vpd (by decide)) dL_law__536 ?_
  refine lt_i (y := xs 3) rfl ?_
  refine lv_aload_n hx hb dL_law__537 rfl (lv_at hlv 1 rfl) ?_
  refine cj_i (wr := [(q_2, .inr (12, [.int 0, .ref (u2.1 1), .int 0, .int 0, .int 0, .int 0, .int 0, .int 0, .int (-1), .ref (u2.1 9), .ref (u2.1 10), .ref (u2.1 11), .ref (u2.1 12), .ref (u2.1 13), .ref (u2.1 14), .ref (u2.1 15), .int 0, .int 0, .int 0, .ref (u2.1 19), .ref (u2.1 20), .ref (u2.1 21), .int 0, .ref (u2.1 23), .ref (u2.1 24), .ref (u2.1 25), .ref (u2.1 26), .ref (u2.1 27), .ref (u2.1 28), .int 0, .int 0, .int 0, .int 0, .ref (u2.1 33), .int (-1), .ref (u2.1 35), .int 0, .int 0])), ((u2.1 1), .inl (cy 0, 4, .inl (fun _ => 0))), ((u2.1 10), .inl (cy 0, 68, .inl (fun _ => 0)))]) (vx_runSW (As := [.ref q_1, .int (xs 1), .int (xs 2), .int (xs 3), .ref q_3]) (rest := []) ⟨hx, hb, hml, hown, hts⟩ (w_cell l hl D cy sa q_1 u1.1 (xs 1) (xs 2) (xs 3) q_3 H.size) (vx_cwSW 5 hts gl_w_cell rfl rfl rfl (by decide +kernel) ⟨Nat.le_of_ble_eq_true rfl, Nat.le_of_ble_eq_true rfl⟩) ⟨pcW.blind, (pcW.mk hP hD hS hA hG hT [0, 1, 2, 6] rfl (by decide))⟩ rfl rfl hlv.1 rfl (lv_room (Nat.le_of_ble_eq_true rfl)) dL_law__538 ⟨Nat.le_of_ble_eq_true rfl, Nat.le_of_ble_eq_true rfl⟩) hP hD hS hA [0, 1, 2, 6] [3, 4, 5] rfl rfl (by decide) (by decide) (fun r3 u3 H locs hw3 hP hD hS => ?_)
  obtain rfl := hw3
  have hP : va_P D vwCl [(q_2, .inr (12, [.int 0, .ref (u2.1 1), .int 0, .int 0, .int 0, .int 0, .int 0, .int 0, .int (-1), .ref (u2.1 9), .ref (u2.1 10), .ref (u2.1 11), .ref (u2.1 12), .ref (u2.1 13), .ref (u2.1 14), .ref (u2.1 15), .int 0, .int 0, .int 0, .ref (u2.1 19), .ref (u2.1 20), .ref (u2.1 21), .int 0, .ref (u2.1 23), .ref (u2.1 24), .ref (u2.1 25), .ref (u2.1 26), .ref (u2.1 27), .ref (u2.1 28), .int 0, .int 0, .int 0, .int 0, .ref (u2.1 33), .int (-1), .ref (u2.1 35), .int 0, .int 0])), ((u2.1 1), .inl (cy 0, 4, .inl (fun _ => 0))), ((u2.1 10), .inl (cy 0, 68, .inl (fun _ => 0))), (q_3, .inl (cy 2, 1, .inr (.inl (fun _ => (u3.2.1 0 : Int32).toInt64))))] H := hP
  have hD : va_D A [(q_2, .inr (12, [.int 0, .ref (u2.1 1), .int 0, .int 0, .int 0, .int 0, .int 0, .int 0, .int (-1), .ref (u2.1 9), .ref (u2.1 10), .ref (u2.1 11), .ref (u2.1 12), .ref (u2.1 13), .ref (u2.1 14), .ref (u2.1 15), .int 0, .int 0, .int 0, .ref (u2.1 19), .ref (u2.1 20), .ref (u2.1 21), .int 0, .ref (u2.1 23), .ref (u2.1 24), .ref (u2.1 25), .ref (u2.1 26), .ref (u2.1 27), .ref (u2.1 28), .int 0, .int 0, .int 0, .int 0, .ref (u2.1 33), .int (-1), .ref (u2.1 35), .int 0, .int 0])), ((u2.1 1), .inl (cy 0, 4, .inl (fun _ => 0))), ((u2.1 10), .inl (cy 0, 68, .inl (fun _ => 0))), (q_3, .inl (cy 2, 1, .inr (.inl (fun _ => (u3.2.1 0 : Int32).toInt64))))] := hD
  refine lv_istore (lv' := [(5, .int 1), (4, .int 0), (3, .ref q_3), (2, .ref q_2), (1, .ref q_1), (0, .ref b)]) hx hb dL_law__541 hlv (by decide) rfl (fun ls hlv => ?_)
  refine lv_aload_n hx hb dL_law__543 rfl (lv_at hlv 3 rfl) ?_
  refine lv_aload_n hx hb dL_law__544 rfl (lv_at hlv 5 rfl) ?_
  refine lv_iload hx hb dL_law__545 (lv_at hlv 1 rfl) ?_
  refine lv_iconst (v := 1) hx hb dL_law__547 (by decide) ?_
  refine lv_iadd hx hb dL_law__548 ?_
  refine lt_i (y := 1) (by decide) ?_
  refine va_sld hx hb hX hbl hbA hS (vpd (by decide)) dL_law__549 ?_
  refine lt_i (y := xs 1) rfl ?_
  refine lv_aload_n hx hb dL_law__550 rfl (lv_at hlv 5 rfl) ?_
  refine lv_iload hx hb dL_law__551 (lv_at hlv 1 rfl) ?_
  refine lv_iconst (v := 2) hx hb dL_law__553 (by decide) ?_
  refine lv_iadd hx hb dL_law__554 ?_
  refine lt_i (y := 2) (by decide) ?_
  refine va_sld hx hb hX hbl hbA hS (vpd (by decide)) dL_law__555 ?_
  refine lt_i (y := xs 2) rfl ?_
  refine lv_aload_n hx hb dL_law__556 rfl (lv_at hlv 5 rfl) ?_
  refine lv_iload hx hb dL_law__557 (lv_at hlv 1 rfl) ?_
  refine lv_iconst (v := 3) hx hb dL_law__559 (by decide) ?_
  refine lv_iadd hx hb dL_law__560 ?_
  refine lt_i (y := 3) (by decide) ?_
  refine va_sld hx hb hX hbl hbA hS (vpd (by decide)) dL_law__561 ?_
  refine lt_i (y := xs 3) rfl ?_
  refine cj_i (wr := [(q_3, .inl (cy 2, 1, .inr (.inl (fun _ => (u3.2.1 0 : Int32).toInt64))))]) (va_runV (As := [.int (xs 1), .int (xs 2), .int (xs 3)]) (rest := []) ⟨hx, hb, hml, hown, hts⟩ (m_cell l hl D cy sa q_2 u2.1 (xs 1) (xs 2) (xs 3) H.size) (cwV 3 hts gl_m_cell rfl rfl rfl (by decide +kernel) ⟨Nat.le_of_ble_eq_true rfl, Nat.le_of_ble_eq_true rfl⟩) ⟨pcW.blind, (va_recv hG.1 hP (ci := 12) (q0 := 0) rfl rfl), (pcW.mk hP hD hS hA hG hT [0, 1, 2] rfl (by decide))⟩ rfl rfl hlv.1 rfl (lv_room (Nat.le_of_ble_eq_true rfl)) dL_law__562 ⟨Nat.le_of_ble_eq_true rfl, Nat.le_of_ble_eq_true rfl⟩) hP hD hS hA [0, 1, 2] [3] rfl rfl (by decide) (by decide) (fun r4 u4 H locs hw4 hP hD hS => ?_)
  obtain rfl := hw4
  have hP : va_P D vwCl [(q_3, .inl (cy 2, 1, .inr (.inl (fun _ => (u3.2.1 0 : Int32).toInt64)))), (q_2, .inr (12, [.int 1, .ref (u2.1 1), .int 0, .int 0, .int 0, .int 0, .int 0, .int 0, .int (-1), .ref (u2.1 9), .ref (u2.1 10), .ref (u2.1 11), .ref (u2.1 12), .ref (u2.1 13), .ref (u2.1 14), .ref (u2.1 15), .int 0, .int 0, .int 0, .ref (u2.1 19), .ref (u2.1 20), .ref (u2.1 21), .int 0, .ref (u2.1 23), .ref (u2.1 24), .ref (u2.1 25), .ref (u2.1 26), .ref (u2.1 27), .ref (u2.1 28), .int 0, .int 0, .int 0, .int 0, .ref (u2.1 33), .int (-1), .ref (u2.1 35), .int 0, .int 0]))] H := hP
  have hD : va_D A [(q_3, .inl (cy 2, 1, .inr (.inl (fun _ => (u3.2.1 0 : Int32).toInt64)))), (q_2, .inr (12, [.int 1, .ref (u2.1 1), .int 0, .int 0, .int 0, .int 0, .int 0, .int 0, .int (-1), .ref (u2.1 9), .ref (u2.1 10), .ref (u2.1 11), .ref (u2.1 12), .ref (u2.1 13), .ref (u2.1 14), .ref (u2.1 15), .int 0, .int 0, .int 0, .ref (u2.1 19), .ref (u2.1 20), .ref (u2.1 21), .int 0, .ref (u2.1 23), .ref (u2.1 24), .ref (u2.1 25), .ref (u2.1 26), .ref (u2.1 27), .ref (u2.1 28), .int 0, .int 0, .int 0, .int 0, .ref (u2.1 33), .int (-1), .ref (u2.1 35), .int 0, .int 0]))] := hD
  refine lv_istore (lv' := [(6, .int 0), (5, .int 1), (4, .int 0), (3, .ref q_3), (2, .ref q_2), (1, .ref q_1), (0, .ref b)]) hx hb dL_law__565 hlv (by decide) rfl (fun ls hlv => ?_)
  refine lv_aload_n hx hb dL_law__567 rfl (lv_at hlv 4 rfl) ?_
  refine cj_i (wr := [(q_3, .inl (cy 2, 1, .inr (.inl (fun _ => (u3.2.1 0 : Int32).toInt64))))]) (va_runV (As := []) (rest := []) ⟨hx, hb, hml, hown, hts⟩ (c_thrown l hl D cy sa q_2 u2.1 1 0 0 0 0 0 0 (-1) 0 0 0 0 0 0 0 0 (-1) 0 0 H.size) (cwV 0 hts gl_c_thrown rfl rfl rfl (by decide +kernel) ⟨Nat.le_of_ble_eq_true rfl, Nat.le_of_ble_eq_true rfl⟩) ⟨pcW.blind, (va_recv hG.1 hP (ci := 12) (q0 := 1) rfl rfl), (pcW.mk hP hD hS hA hG hT [1] rfl (by decide))⟩ rfl rfl hlv.1 rfl (lv_room (Nat.le_of_ble_eq_true rfl)) dL_law__568 ⟨Nat.le_of_ble_eq_true rfl, Nat.le_of_ble_eq_true rfl⟩) hP hD hS hA [1] [0] rfl rfl (by decide) (by decide) (fun r5 u5 H locs hw5 hP hD hS => ?_)
  obtain rfl := hw5
  have hP : va_P D vwCl [(q_3, .inl (cy 2, 1, .inr (.inl (fun _ => (u3.2.1 0 : Int32).toInt64))))] H := hP
  have hD : va_D A [(q_3, .inl (cy 2, 1, .inr (.inl (fun _ => (u3.2.1 0 : Int32).toInt64))))] := hD
  refine lv_iload hx hb dL_law__571 (lv_at hlv 1 rfl) ?_
  refine lv_icmp_eq (tgt := 578) hx hb dL_law__573 (by decide) (fun _ => ?_) (fun c => absurd (by decide) c)
  refine lv_iload hx hb dL_law__578 (lv_at hlv 1 rfl) ?_
  refine lv_if_ne (tgt := 595) hx hb dL_law__580 (by decide) (fun _ => ?_) (fun c => absurd c (by decide))
  refine lv_goto (tgt := 2755) hx hb dL_law__595 (by decide) ?_
  refine lv_iinc (v := 10) (lv' := [(4, .int 10), (6, .int 0), (5, .int 1), (3, .ref q_3), (2, .ref q_2), (1, .ref q_1), (0, .ref b)]) hx hb dL_law__2755 hlv (k := 2) rfl (by decide) (by decide) rfl (fun ls hlv => ?_)
  refine lv_goto (tgt := 23) hx hb dL_law__2758 (by decide) ?_
  refine lv_iload hx hb dL_law__23 (lv_at hlv 0 rfl) ?_
  refine lv_aload_n hx hb dL_law__25 rfl (lv_at hlv 6 rfl) ?_
  refine va_slen hx hb hX hbl hbA hS dL_law__26 ?_
  refine lt_i (y := 10) (by decide) ?_
  refine lv_bipush (v := 10) hx hb dL_law__27 (by decide) ?_
  refine lv_isub hx hb dL_law__29 ?_
  refine lt_i (y := 0) (by decide) ?_
  refine lv_icmp_gt (tgt := 2761) hx hb dL_law__30 (by decide) (fun _ => ?_) (fun c => absurd (by decide) c)
  refine lv_iconst (v := 1) hx hb dL_law__2761 (by decide) ?_
  refine va_forget (fun q hq => by have h9 := hS.2.2 q hq; rw [hAe] at h9; exact h9) ?_
  refine W.widen (k := 600002) (n := 7302232) (Nat.le_of_ble_eq_true rfl) (Nat.le_of_ble_eq_true rfl) ?_
  exact lw_ret hx hb hr hlocks dL_law__2762
