theorem dX12_image_0 : decode cX12_image 0 = .ok (.aload_n 0, 1) := by decide +kernel
theorem dX12_image_1 : decode cX12_image 1 = .ok (.iconst 0, 1) := by decide +kernel
theorem dX12_image_10 : decode cX12_image 10 = .ok (.if_icmp .ne 5, 3) := by decide +kernel
theorem dX12_image_15 : decode cX12_image 15 = .ok (.iconst 0, 1) := by decide +kernel
theorem dX12_image_16 : decode cX12_image 16 = .ok (.istore_n 1, 1) := by decide +kernel
theorem dX12_image_17 : decode cX12_image 17 = .ok (.iload_n 1, 1) := by decide +kernel
theorem dX12_image_18 : decode cX12_image 18 = .ok (.sipush 389, 3) := by decide +kernel
theorem dX12_image_2 : decode cX12_image 2 = .ok (.putfield 1, 3) := by decide +kernel
theorem dX12_image_21 : decode cX12_image 21 = .ok (.if_icmp .ge 30, 3) := by decide +kernel
theorem dX12_image_24 : decode cX12_image 24 = .ok (.aload_n 0, 1) := by decide +kernel
theorem dX12_image_25 : decode cX12_image 25 = .ok (.getfield 38, 3) := by decide +kernel
theorem dX12_image_28 : decode cX12_image 28 = .ok (.sipush 389, 3) := by decide +kernel
theorem dX12_image_31 : decode cX12_image 31 = .ok (.aload_n 0, 1) := by decide +kernel
theorem dX12_image_32 : decode cX12_image 32 = .ok (.getfield 201, 3) := by decide +kernel
theorem dX12_image_35 : decode cX12_image 35 = .ok (.imul, 1) := by decide +kernel
theorem dX12_image_36 : decode cX12_image 36 = .ok (.iload_n 1, 1) := by decide +kernel
theorem dX12_image_37 : decode cX12_image 37 = .ok (.iadd, 1) := by decide +kernel
theorem dX12_image_38 : decode cX12_image 38 = .ok (.aload_n 0, 1) := by decide +kernel
theorem dX12_image_39 : decode cX12_image 39 = .ok (.getfield 29, 3) := by decide +kernel
theorem dX12_image_42 : decode cX12_image 42 = .ok (.iload_n 1, 1) := by decide +kernel
theorem dX12_image_43 : decode cX12_image 43 = .ok (.iaload, 1) := by decide +kernel
theorem dX12_image_44 : decode cX12_image 44 = .ok (.iastore, 1) := by decide +kernel
theorem dX12_image_45 : decode cX12_image 45 = .ok (.iinc 1 1, 3) := by decide +kernel
theorem dX12_image_48 : decode cX12_image 48 = .ok (.goto (-31), 3) := by decide +kernel
theorem dX12_image_5 : decode cX12_image 5 = .ok (.aload_n 0, 1) := by decide +kernel
theorem dX12_image_51 : decode cX12_image 51 = .ok (.aload_n 0, 1) := by decide +kernel
theorem dX12_image_52 : decode cX12_image 52 = .ok (.dup, 1) := by decide +kernel
theorem dX12_image_53 : decode cX12_image 53 = .ok (.getfield 201, 3) := by decide +kernel
theorem dX12_image_56 : decode cX12_image 56 = .ok (.iconst 1, 1) := by decide +kernel
theorem dX12_image_57 : decode cX12_image 57 = .ok (.iadd, 1) := by decide +kernel
theorem dX12_image_58 : decode cX12_image 58 = .ok (.putfield 201, 3) := by decide +kernel
theorem dX12_image_6 : decode cX12_image 6 = .ok (.getfield 201, 3) := by decide +kernel
theorem dX12_image_61 : decode cX12_image 61 = .ok (.aload_n 0, 1) := by decide +kernel
theorem dX12_image_62 : decode cX12_image 62 = .ok (.getfield 201, 3) := by decide +kernel
theorem dX12_image_65 : decode cX12_image 65 = .ok (.ireturn, 1) := by decide +kernel
theorem dX12_image_9 : decode cX12_image 9 = .ok (.iconst 3, 1) := by decide +kernel
theorem dX12_street_102 : decode cX12_street 102 = .ok (.iconst 0, 1) := by decide +kernel
theorem dX12_street_103 : decode cX12_street 103 = .ok (.iastore, 1) := by decide +kernel
theorem dX12_street_104 : decode cX12_street 104 = .ok (.iinc 2 1, 3) := by decide +kernel
theorem dX12_street_107 : decode cX12_street 107 = .ok (.goto (-46), 3) := by decide +kernel
theorem dX12_street_110 : decode cX12_street 110 = .ok (.aload_n 0, 1) := by decide +kernel
theorem dX12_street_111 : decode cX12_street 111 = .ok (.getfield 26, 3) := by decide +kernel
theorem dX12_street_114 : decode cX12_street 114 = .ok (.iconst 0, 1) := by decide +kernel
theorem dX12_street_115 : decode cX12_street 115 = .ok (.bipush 8, 2) := by decide +kernel
theorem dX12_street_117 : decode cX12_street 117 = .ok (.iastore, 1) := by decide +kernel
theorem dX12_street_118 : decode cX12_street 118 = .ok (.aload_n 0, 1) := by decide +kernel
theorem dX12_street_119 : decode cX12_street 119 = .ok (.getfield 26, 3) := by decide +kernel
theorem dX12_street_122 : decode cX12_street 122 = .ok (.iconst 1, 1) := by decide +kernel
theorem dX12_street_123 : decode cX12_street 123 = .ok (.iconst 3, 1) := by decide +kernel
theorem dX12_street_124 : decode cX12_street 124 = .ok (.iastore, 1) := by decide +kernel
theorem dX12_street_125 : decode cX12_street 125 = .ok (.iconst 0, 1) := by decide +kernel
theorem dX12_street_126 : decode cX12_street 126 = .ok (.istore_n 2, 1) := by decide +kernel
theorem dX12_street_127 : decode cX12_street 127 = .ok (.aload_n 0, 1) := by decide +kernel
theorem dX12_street_128 : decode cX12_street 128 = .ok (.invokevirtual 109, 3) := by decide +kernel
theorem dX12_street_131 : decode cX12_street 131 = .ok (.ifCond .eq 226, 3) := by decide +kernel
theorem dX12_street_134 : decode cX12_street 134 = .ok (.aload_n 0, 1) := by decide +kernel
theorem dX12_street_135 : decode cX12_street 135 = .ok (.invokevirtual 182, 3) := by decide +kernel
theorem dX12_street_138 : decode cX12_street 138 = .ok (.ifCond .eq 219, 3) := by decide +kernel
theorem dX12_street_18 : decode cX12_street 18 = .ok (.iconst 1, 1) := by decide +kernel
theorem dX12_street_19 : decode cX12_street 19 = .ok (.goto 4, 3) := by decide +kernel
theorem dX12_street_33 : decode cX12_street 33 = .ok (.aload_n 0, 1) := by decide +kernel
theorem dX12_street_34 : decode cX12_street 34 = .ok (.iload_n 1, 1) := by decide +kernel
theorem dX12_street_35 : decode cX12_street 35 = .ok (.invokevirtual 179, 3) := by decide +kernel
theorem dX12_street_357 : decode cX12_street 357 = .ok (.aload_n 0, 1) := by decide +kernel
theorem dX12_street_358 : decode cX12_street 358 = .ok (.invokevirtual 109, 3) := by decide +kernel
theorem dX12_street_361 : decode cX12_street 361 = .ok (.ifCond .ne 9, 3) := by decide +kernel
theorem dX12_street_370 : decode cX12_street 370 = .ok (.aload_n 0, 1) := by decide +kernel
theorem dX12_street_371 : decode cX12_street 371 = .ok (.getfield 32, 3) := by decide +kernel
theorem dX12_street_374 : decode cX12_street 374 = .ok (.sipush 215, 3) := by decide +kernel
theorem dX12_street_377 : decode cX12_street 377 = .ok (.aload_n 0, 1) := by decide +kernel
theorem dX12_street_378 : decode cX12_street 378 = .ok (.getfield 26, 3) := by decide +kernel
theorem dX12_street_38 : decode cX12_street 38 = .ok (.iconst 0, 1) := by decide +kernel
theorem dX12_street_381 : decode cX12_street 381 = .ok (.iconst 3, 1) := by decide +kernel
theorem dX12_street_382 : decode cX12_street 382 = .ok (.iaload, 1) := by decide +kernel
theorem dX12_street_383 : decode cX12_street 383 = .ok (.iastore, 1) := by decide +kernel
theorem dX12_street_384 : decode cX12_street 384 = .ok (.iconst 0, 1) := by decide +kernel
theorem dX12_street_385 : decode cX12_street 385 = .ok (.istore_n 3, 1) := by decide +kernel
theorem dX12_street_386 : decode cX12_street 386 = .ok (.iload_n 3, 1) := by decide +kernel
theorem dX12_street_387 : decode cX12_street 387 = .ok (.bipush 68, 2) := by decide +kernel
theorem dX12_street_389 : decode cX12_street 389 = .ok (.if_icmp .ge 21, 3) := by decide +kernel
theorem dX12_street_39 : decode cX12_street 39 = .ok (.istore_n 2, 1) := by decide +kernel
theorem dX12_street_392 : decode cX12_street 392 = .ok (.aload_n 0, 1) := by decide +kernel
theorem dX12_street_393 : decode cX12_street 393 = .ok (.getfield 23, 3) := by decide +kernel
theorem dX12_street_396 : decode cX12_street 396 = .ok (.iload_n 3, 1) := by decide +kernel
theorem dX12_street_397 : decode cX12_street 397 = .ok (.aload_n 0, 1) := by decide +kernel
theorem dX12_street_398 : decode cX12_street 398 = .ok (.getfield 26, 3) := by decide +kernel
theorem dX12_street_40 : decode cX12_street 40 = .ok (.iload_n 2, 1) := by decide +kernel
theorem dX12_street_401 : decode cX12_street 401 = .ok (.iload_n 3, 1) := by decide +kernel
theorem dX12_street_402 : decode cX12_street 402 = .ok (.iaload, 1) := by decide +kernel
theorem dX12_street_403 : decode cX12_street 403 = .ok (.iastore, 1) := by decide +kernel
theorem dX12_street_404 : decode cX12_street 404 = .ok (.iinc 3 1, 3) := by decide +kernel
theorem dX12_street_407 : decode cX12_street 407 = .ok (.goto (-21), 3) := by decide +kernel
theorem dX12_street_41 : decode cX12_street 41 = .ok (.bipush 68, 2) := by decide +kernel
theorem dX12_street_410 : decode cX12_street 410 = .ok (.iconst 0, 1) := by decide +kernel
theorem dX12_street_411 : decode cX12_street 411 = .ok (.istore_n 3, 1) := by decide +kernel
theorem dX12_street_412 : decode cX12_street 412 = .ok (.iload_n 3, 1) := by decide +kernel
theorem dX12_street_413 : decode cX12_street 413 = .ok (.sipush 389, 3) := by decide +kernel
theorem dX12_street_416 : decode cX12_street 416 = .ok (.if_icmp .ge 21, 3) := by decide +kernel
theorem dX12_street_419 : decode cX12_street 419 = .ok (.aload_n 0, 1) := by decide +kernel
theorem dX12_street_420 : decode cX12_street 420 = .ok (.getfield 29, 3) := by decide +kernel
theorem dX12_street_423 : decode cX12_street 423 = .ok (.iload_n 3, 1) := by decide +kernel
theorem dX12_street_424 : decode cX12_street 424 = .ok (.aload_n 0, 1) := by decide +kernel
theorem dX12_street_425 : decode cX12_street 425 = .ok (.getfield 32, 3) := by decide +kernel
theorem dX12_street_428 : decode cX12_street 428 = .ok (.iload_n 3, 1) := by decide +kernel
theorem dX12_street_429 : decode cX12_street 429 = .ok (.iaload, 1) := by decide +kernel
theorem dX12_street_43 : decode cX12_street 43 = .ok (.if_icmp .ge 16, 3) := by decide +kernel
theorem dX12_street_430 : decode cX12_street 430 = .ok (.iastore, 1) := by decide +kernel
theorem dX12_street_431 : decode cX12_street 431 = .ok (.iinc 3 1, 3) := by decide +kernel
theorem dX12_street_434 : decode cX12_street 434 = .ok (.goto (-22), 3) := by decide +kernel
theorem dX12_street_437 : decode cX12_street 437 = .ok (.aload_n 0, 1) := by decide +kernel
theorem dX12_street_438 : decode cX12_street 438 = .ok (.iconst 0, 1) := by decide +kernel
theorem dX12_street_439 : decode cX12_street 439 = .ok (.putfield 201, 3) := by decide +kernel
theorem dX12_street_442 : decode cX12_street 442 = .ok (.aload_n 0, 1) := by decide +kernel
theorem dX12_street_443 : decode cX12_street 443 = .ok (.aload_n 0, 1) := by decide +kernel
theorem dX12_street_444 : decode cX12_street 444 = .ok (.getfield 23, 3) := by decide +kernel
theorem dX12_street_447 : decode cX12_street 447 = .ok (.iconst 0, 1) := by decide +kernel
theorem dX12_street_448 : decode cX12_street 448 = .ok (.iaload, 1) := by decide +kernel
theorem dX12_street_449 : decode cX12_street 449 = .ok (.aload_n 0, 1) := by decide +kernel
theorem dX12_street_450 : decode cX12_street 450 = .ok (.getfield 23, 3) := by decide +kernel
theorem dX12_street_453 : decode cX12_street 453 = .ok (.iconst 1, 1) := by decide +kernel
theorem dX12_street_454 : decode cX12_street 454 = .ok (.iaload, 1) := by decide +kernel
theorem dX12_street_455 : decode cX12_street 455 = .ok (.imul, 1) := by decide +kernel
theorem dX12_street_456 : decode cX12_street 456 = .ok (.invokevirtual 198, 3) := by decide +kernel
theorem dX12_street_459 : decode cX12_street 459 = .ok (.ireturn, 1) := by decide +kernel
theorem dX12_street_46 : decode cX12_street 46 = .ok (.aload_n 0, 1) := by decide +kernel
theorem dX12_street_47 : decode cX12_street 47 = .ok (.getfield 26, 3) := by decide +kernel
theorem dX12_street_50 : decode cX12_street 50 = .ok (.iload_n 2, 1) := by decide +kernel
theorem dX12_street_51 : decode cX12_street 51 = .ok (.iconst 0, 1) := by decide +kernel
theorem dX12_street_52 : decode cX12_street 52 = .ok (.iastore, 1) := by decide +kernel
theorem dX12_street_53 : decode cX12_street 53 = .ok (.iinc 2 1, 3) := by decide +kernel
theorem dX12_street_56 : decode cX12_street 56 = .ok (.goto (-16), 3) := by decide +kernel
theorem dX12_street_59 : decode cX12_street 59 = .ok (.iconst 0, 1) := by decide +kernel
theorem dX12_street_60 : decode cX12_street 60 = .ok (.istore_n 2, 1) := by decide +kernel
theorem dX12_street_61 : decode cX12_street 61 = .ok (.iload_n 2, 1) := by decide +kernel
theorem dX12_street_62 : decode cX12_street 62 = .ok (.sipush 389, 3) := by decide +kernel
theorem dX12_street_65 : decode cX12_street 65 = .ok (.if_icmp .ge 45, 3) := by decide +kernel
theorem dX12_street_68 : decode cX12_street 68 = .ok (.aload_n 0, 1) := by decide +kernel
theorem dX12_street_69 : decode cX12_street 69 = .ok (.getfield 32, 3) := by decide +kernel
theorem dX12_street_72 : decode cX12_street 72 = .ok (.iload_n 2, 1) := by decide +kernel
theorem dX12_street_73 : decode cX12_street 73 = .ok (.iload_n 2, 1) := by decide +kernel
theorem dX12_street_74 : decode cX12_street 74 = .ok (.bipush 96, 2) := by decide +kernel
theorem dX12_street_76 : decode cX12_street 76 = .ok (.if_icmp .ge 8, 3) := by decide +kernel
theorem dX12_street_79 : decode cX12_street 79 = .ok (.bipush 50, 2) := by decide +kernel
theorem dX12_street_81 : decode cX12_street 81 = .ok (.goto 22, 3) := by decide +kernel
theorem dX12_street_84 : decode cX12_street 84 = .ok (.iload_n 2, 1) := by decide +kernel
theorem dX12_street_85 : decode cX12_street 85 = .ok (.sipush 353, 3) := by decide +kernel
theorem dX12_street_88 : decode cX12_street 88 = .ok (.if_icmp .lt 14, 3) := by decide +kernel
theorem dX12_street_91 : decode cX12_street 91 = .ok (.iload_n 2, 1) := by decide +kernel
theorem dX12_street_92 : decode cX12_street 92 = .ok (.sipush 357, 3) := by decide +kernel
theorem dX12_street_95 : decode cX12_street 95 = .ok (.if_icmp .ge 7, 3) := by decide +kernel
theorem dX12_street_98 : decode cX12_street 98 = .ok (.iconst 1, 1) := by decide +kernel
theorem dX12_street_99 : decode cX12_street 99 = .ok (.goto 4, 3) := by decide +kernel
def vs_m_image : List Cond := .code yX12_image cX12_image 2 (some .int) :: (([.fieldLink RX12 1 "KerbSplashModel" "thrown" "I", .fieldLink RX12 201 "KerbSplashModel" "images" "I", .fieldLink RX12 38 "KerbSplashModel" "image" "[I", .fieldLink RX12 29 "KerbSplashModel" "s" "[I"] : List Cond) ++ ((wsX120) ++ ([])))
set_option maxHeartbeats 4000000 in
set_option maxRecDepth 100000 in
theorem l_mimage {p : Program} {l : Launch} {e : Env} {R : Room} {s : State} {m : MethodId} {args : Array Value} {below : List Frame} {meth : Method} {c : Code} {Q : State → Prop} {cells slots : Nat} {D : va_G} {cy : Nat → ClassId} {sa : Nat → Nat} {A : Nat → Prop} {mo : Nat} {ma : Nat → Nat}  (hx : p.tables.exec = Jvm.exec) (hb : c.code = cX12_image) (hts : ∀ w ∈ vs_m_image, w.before args s = true) (hown : s.vm.findClass RX12 = some m.cls) (hG : GC D cy sa s)
    (kk : ∀ (fm0 : Nat → Int32) (H : Heap) (locs : List Loc) (ls : Array Slot), va_P D vwCl [(mo, .inr (12, [.int 0, .ref (ma 1), .int 0, .int 0, .int 0, .int 0, .int 0, .int 0, .int (-1), .ref (ma 9), .ref (ma 10), .ref (ma 11), .ref (ma 12), .ref (ma 13), .ref (ma 14), .ref (ma 15), .int 0, .int 0, .int 0, .ref (ma 19), .ref (ma 20), .ref (ma 21), .int 0, .ref (ma 23), .ref (ma 24), .ref (ma 25), .ref (ma 26), .ref (ma 27), .ref (ma 28), .int 0, .int 0, .int 0, .int 0, .ref (ma 33), .int (-1), .ref (ma 35), .int 0, .int 0])), ((ma 12), .inl (cy 0, 389, .inl sF)), ((ma 15), .inl (cy 0, 1167, .inl fm0))] H → va_D A [(mo, .inr (12, [.int 0, .ref (ma 1), .int 0, .int 0, .int 0, .int 0, .int 0, .int 0, .int (-1), .ref (ma 9), .ref (ma 10), .ref (ma 11), .ref (ma 12), .ref (ma 13), .ref (ma 14), .ref (ma 15), .int 0, .int 0, .int 0, .ref (ma 19), .ref (ma 20), .ref (ma 21), .int 0, .ref (ma 23), .ref (ma 24), .ref (ma 25), .ref (ma 26), .ref (ma 27), .ref (ma 28), .int 0, .int 0, .int 0, .int 0, .ref (ma 33), .int (-1), .ref (ma 35), .int 0, .int 0])), ((ma 12), .inl (cy 0, 389, .inl sF)), ((ma 15), .inl (cy 0, 1167, .inl fm0))] → va_S A s.heap H locs → lv_has ls 2 [(1, .int 389), (0, .ref mo)] → W p l e R s m args below meth c H locs cells slots Q (F0 m 51 ls [])) :
    ∀ (k i : Nat) (fm0 : Nat → Int32) (H : Heap) (locs : List Loc) (ls : Array Slot), i + k = 389 → 0 ≤ i → va_P D vwCl [(mo, .inr (12, [.int 0, .ref (ma 1), .int 0, .int 0, .int 0, .int 0, .int 0, .int 0, .int (-1), .ref (ma 9), .ref (ma 10), .ref (ma 11), .ref (ma 12), .ref (ma 13), .ref (ma 14), .ref (ma 15), .int 0, .int 0, .int 0, .ref (ma 19), .ref (ma 20), .ref (ma 21), .int 0, .ref (ma 23), .ref (ma 24), .ref (ma 25), .ref (ma 26), .ref (ma 27), .ref (ma 28), .int 0, .int 0, .int 0, .int 0, .ref (ma 33), .int (-1), .ref (ma 35), .int 0, .int 0])), ((ma 12), .inl (cy 0, 389, .inl sF)), ((ma 15), .inl (cy 0, 1167, .inl fm0))] H → va_D A [(mo, .inr (12, [.int 0, .ref (ma 1), .int 0, .int 0, .int 0, .int 0, .int 0, .int 0, .int (-1), .ref (ma 9), .ref (ma 10), .ref (ma 11), .ref (ma 12), .ref (ma 13), .ref (ma 14), .ref (ma 15), .int 0, .int 0, .int 0, .ref (ma 19), .ref (ma 20), .ref (ma 21), .int 0, .ref (ma 23), .ref (ma 24), .ref (ma 25), .ref (ma 26), .ref (ma 27), .ref (ma 28), .int 0, .int 0, .int 0, .int 0, .ref (ma 33), .int (-1), .ref (ma 35), .int 0, .int 0])), ((ma 12), .inl (cy 0, 389, .inl sF)), ((ma 15), .inl (cy 0, 1167, .inl fm0))] → va_S A s.heap H locs → lv_has ls 2 [(1, .int (nI i)), (0, .ref mo)] → W p l e R s m args below meth c H locs cells slots Q (F0 m 17 ls []) := by
  have lf38 := hts (.fieldLink RX12 38 "KerbSplashModel" "image" "[I") (List.mem_of_getElem? (i := 3) rfl)
  have hi12 : ∀ w ∈ wsX120, w ∈ vs_m_image := fun w h => List.mem_cons_of_mem _ (List.mem_append_right _ (List.mem_append_left _ h))
  have lf201 := hts (.fieldLink RX12 201 "KerbSplashModel" "images" "I") (List.mem_of_getElem? (i := 2) rfl)
  have lf29 := hts (.fieldLink RX12 29 "KerbSplashModel" "s" "[I") (List.mem_of_getElem? (i := 4) rfl)
  intro k
  induction k with
  | zero =>
    intro i fm0 H locs ls hi hlo hP hD hS hlv
    obtain rfl : i = 389 := by omega
    refine lv_iload_n hx hb dX12_image_17 rfl (lv_at hlv 0 rfl) ?_
    refine lv_sipush (v := 389) hx hb dX12_image_18 (by decide) ?_
    refine lv_icmp_ge (tgt := 51) hx hb dX12_image_21 (by decide) (fun _ => ?_) (fun c => absurd (nI_le (Nat.le_refl 389) (by decide)) c)
    exact kk fm0 H locs ls hP hD hS hlv
  | succ k ih =>
    intro i fm0 H locs ls hi hlo hP hD hS hlv
    have hin : i < 389 := by omega
    refine lv_iload_n hx hb dX12_image_17 rfl (lv_at hlv 0 rfl) ?_
    refine lv_sipush (v := 389) hx hb dX12_image_18 (by decide) ?_
    refine lv_icmp_ge (tgt := 51) hx hb dX12_image_21 (by decide) (fun c => absurd c (nI_ge hin (by decide))) (fun _ => ?_)
    refine lv_aload_n hx hb dX12_image_24 rfl (lv_at hlv 1 rfl) ?_
    refine va_get (D := D) (ci := 12) (v := .ref (ma 15)) (C := RX12) (T := TX12) (N := 38) hx hb hts hi12 hown hG.1 hP 0 rfl rfl 15 (by decide) lf38 (fun _ h9 => h9) rfl dX12_image_25 ?_
    refine lv_sipush (v := 389) hx hb dX12_image_28 (by decide) ?_
    refine lv_aload_n hx hb dX12_image_31 rfl (lv_at hlv 1 rfl) ?_
    refine va_get (D := D) (ci := 12) (v := .int 0) (C := RX12) (T := TX12) (N := 38) hx hb hts hi12 hown hG.1 hP 0 rfl rfl 16 (by decide) lf201 (fun _ h9 => h9) rfl dX12_image_32 ?_
    refine lv_imul hx hb dX12_image_35 ?_
    refine lt_i (y := 0) (by decide) ?_
    refine lv_iload_n hx hb dX12_image_36 rfl (lv_at hlv 0 rfl) ?_
    refine lv_iadd hx hb dX12_image_37 ?_
    refine lt_i (y := (nI i)) (Int32.zero_add _) ?_
    refine lv_aload_n hx hb dX12_image_38 rfl (lv_at hlv 1 rfl) ?_
    refine va_get (D := D) (ci := 12) (v := .ref (ma 12)) (C := RX12) (T := TX12) (N := 38) hx hb hts hi12 hown hG.1 hP 0 rfl rfl 12 (by decide) lf29 (fun _ h9 => h9) rfl dX12_image_39 ?_
    refine lv_iload_n hx hb dX12_image_42 rfl (lv_at hlv 0 rfl) ?_
    refine va_iald hx hb hG.1 hP 1 0 rfl rfl (vp_in_nI (Nat.lt_of_lt_of_le hin (by decide)) (by decide)) dX12_image_43 ?_
    refine lv_topi (fun z_1 ez_1 => ?_)
    refine va_iast hx hb hG.1 hP hD hS 2 0 rfl rfl (vp_in_nI (Nat.lt_of_lt_of_le hin (by decide)) (by decide)) dX12_image_44 (fun H locs hP hD hS => ?_)
    have ⟨f_2, hP, hD⟩ : ∃ f_2 : Nat → Int32, va_P D vwCl [(mo, .inr (12, [.int 0, .ref (ma 1), .int 0, .int 0, .int 0, .int 0, .int 0, .int 0, .int (-1), .ref (ma 9), .ref (ma 10), .ref (ma 11), .ref (ma 12), .ref (ma 13), .ref (ma 14), .ref (ma 15), .int 0, .int 0, .int 0, .ref (ma 19), .ref (ma 20), .ref (ma 21), .int 0, .ref (ma 23), .ref (ma 24), .ref (ma 25), .ref (ma 26), .ref (ma 27), .ref (ma 28), .int 0, .int 0, .int 0, .int 0, .ref (ma 33), .int (-1), .ref (ma 35), .int 0, .int 0])), ((ma 12), .inl (cy 0, 389, .inl sF)), ((ma 15), .inl (cy 0, 1167, .inl f_2))] H ∧ va_D A [(mo, .inr (12, [.int 0, .ref (ma 1), .int 0, .int 0, .int 0, .int 0, .int 0, .int 0, .int (-1), .ref (ma 9), .ref (ma 10), .ref (ma 11), .ref (ma 12), .ref (ma 13), .ref (ma 14), .ref (ma 15), .int 0, .int 0, .int 0, .ref (ma 19), .ref (ma 20), .ref (ma 21), .int 0, .ref (ma 23), .ref (ma 24), .ref (ma 25), .ref (ma 26), .ref (ma 27), .ref (ma 28), .int 0, .int 0, .int 0, .int 0, .ref (ma 33), .int (-1), .ref (ma 35), .int 0, .int 0])), ((ma 12), .inl (cy 0, 389, .inl sF)), ((ma 15), .inl (cy 0, 1167, .inl f_2))] := ⟨_, hP, hD⟩
    refine lv_iinc (v := (nI (i + 1))) (lv' := [(1, .int (nI (i + 1))), (0, .ref mo)]) hx hb dX12_image_45 hlv (k := 0) rfl (nI_1 i) (by decide) rfl (fun ls hlv => ?_)
    refine lv_goto (tgt := 17) hx hb dX12_image_48 (by decide) ?_
    exact ih (i + 1) _ H locs ls (by omega) (by omega) hP hD hS hlv
set_option maxHeartbeats 4000000 in
set_option maxRecDepth 100000 in
theorem m_image (l : Launch) (hl : l.stackTraces = false) (D : va_G) (cy : Nat → ClassId) (sa : Nat → Nat) (mo : Nat) (ma : Nat → Nat) (f0 : Nat → Int32) (sz : Nat) : Met l yX12_image vs_m_image ({ frames := 0, cells := 0, slots := 0, locals := 0 }) (va_Pc [.ref mo] (pcW D cy sa sz [(mo, .inr (12, [.int 0, .ref (ma 1), .int 0, .int 0, .int 0, .int 0, .int 0, .int 0, .int (-1), .ref (ma 9), .ref (ma 10), .ref (ma 11), .ref (ma 12), .ref (ma 13), .ref (ma 14), .ref (ma 15), .int 0, .int 0, .int 0, .ref (ma 19), .ref (ma 20), .ref (ma 21), .int 0, .ref (ma 23), .ref (ma 24), .ref (ma 25), .ref (ma 26), .ref (ma 27), .ref (ma 28), .int 0, .int 0, .int 0, .int 0, .ref (ma 33), .int (-1), .ref (ma 35), .int 0, .int 0])), ((ma 12), .inl (cy 0, 389, .inl sF)), ((ma 15), .inl (cy 0, 1167, .inl f0))])) (va_Qi (fun (r : Int32) (u : SU) => (r = 1)) (fun u t => atW D (va_A [(mo, .inr (12, [.int 0, .ref (ma 1), .int 0, .int 0, .int 0, .int 0, .int 0, .int 0, .int (-1), .ref (ma 9), .ref (ma 10), .ref (ma 11), .ref (ma 12), .ref (ma 13), .ref (ma 14), .ref (ma 15), .int 0, .int 0, .int 0, .ref (ma 19), .ref (ma 20), .ref (ma 21), .int 0, .ref (ma 23), .ref (ma 24), .ref (ma 25), .ref (ma 26), .ref (ma 27), .ref (ma 28), .int 0, .int 0, .int 0, .int 0, .ref (ma 33), .int (-1), .ref (ma 35), .int 0, .int 0])), ((ma 12), .inl (cy 0, 389, .inl sF)), ((ma 15), .inl (cy 0, 1167, .inl f0))] sz) [] t) (va_A [(mo, .inr (12, [.int 0, .ref (ma 1), .int 0, .int 0, .int 0, .int 0, .int 0, .int 0, .int (-1), .ref (ma 9), .ref (ma 10), .ref (ma 11), .ref (ma 12), .ref (ma 13), .ref (ma 14), .ref (ma 15), .int 0, .int 0, .int 0, .ref (ma 19), .ref (ma 20), .ref (ma 21), .int 0, .ref (ma 23), .ref (ma 24), .ref (ma 25), .ref (ma 26), .ref (ma 27), .ref (ma 28), .int 0, .int 0, .int 0, .int 0, .ref (ma 33), .int (-1), .ref (ma 35), .int 0, .int 0])), ((ma 12), .inl (cy 0, 389, .inl sF)), ((ma 15), .inl (cy 0, 1167, .inl f0))] sz)) 0 0 (va_A [(mo, .inr (12, [.int 0, .ref (ma 1), .int 0, .int 0, .int 0, .int 0, .int 0, .int 0, .int (-1), .ref (ma 9), .ref (ma 10), .ref (ma 11), .ref (ma 12), .ref (ma 13), .ref (ma 14), .ref (ma 15), .int 0, .int 0, .int 0, .ref (ma 19), .ref (ma 20), .ref (ma 21), .int 0, .ref (ma 23), .ref (ma 24), .ref (ma 25), .ref (ma 26), .ref (ma 27), .ref (ma 28), .int 0, .int 0, .int 0, .int 0, .ref (ma 33), .int (-1), .ref (ma 35), .int 0, .int 0])), ((ma 12), .inl (cy 0, 389, .inl sF)), ((ma 15), .inl (cy 0, 1167, .inl f0))] sz) := by
  refine Met.ofW (cc := cX12_image) (maxL := 2) (ret := (some .int)) (by decide) rfl ?_
  intro p e s m args below meth c s₁ B hml hv
  obtain ⟨rfl, hsz, hP, hG, hD0, hT⟩ := hv
  have hx := B.exec
  have hb := B.bytes
  have hr := B.returns
  have hts := atoms_spec (ws := vs_m_image) B.pre
  have hown : s.vm.findClass RX12 = some m.cls := findClass_of_methodNamed B.named
  have hlocks := B.notSynchronized
  subst hsz
  have hD := hD0.self (sz := s.heap.size)
  generalize hAe : va_A [(mo, .inr (12, [.int 0, .ref (ma 1), .int 0, .int 0, .int 0, .int 0, .int 0, .int 0, .int (-1), .ref (ma 9), .ref (ma 10), .ref (ma 11), .ref (ma 12), .ref (ma 13), .ref (ma 14), .ref (ma 15), .int 0, .int 0, .int 0, .ref (ma 19), .ref (ma 20), .ref (ma 21), .int 0, .ref (ma 23), .ref (ma 24), .ref (ma 25), .ref (ma 26), .ref (ma 27), .ref (ma 28), .int 0, .int 0, .int 0, .int 0, .ref (ma 33), .int (-1), .ref (ma 35), .int 0, .int 0])), ((ma 12), .inl (cy 0, 389, .inl sF)), ((ma 15), .inl (cy 0, 1167, .inl f0))] s.heap.size = A at hD hT ⊢
  have hA : ∀ q : Nat, s.heap.size ≤ q → A q := fun q h => by rw [← hAe]; exact Or.inr h
  have hS : va_S A s.heap s.heap [] := va_S.rf
  have hl0 := lv_entry ([.ref mo]) (n := 2) (Nat.le_of_ble_eq_true rfl)
  rw [lg_entry_eq]
  generalize (lg_sl ([.ref mo]) ++ List.replicate (2 - (lg_sl ([.ref mo])).length) Slot.unset).toArray = ls at hl0 ⊢
  have hlv : lv_has ls 2 [(0, .ref mo)] := hl0
  have lf1 := hts (.fieldLink RX12 1 "KerbSplashModel" "thrown" "I") (List.mem_of_getElem? (i := 1) rfl)
  have hi12 : ∀ w ∈ wsX120, w ∈ vs_m_image := fun w h => List.mem_cons_of_mem _ (List.mem_append_right _ (List.mem_append_left _ h))
  have lf201 := hts (.fieldLink RX12 201 "KerbSplashModel" "images" "I") (List.mem_of_getElem? (i := 2) rfl)
  refine lv_aload_n hx hb dX12_image_0 rfl (lv_at hlv 0 rfl) ?_
  refine lv_iconst (v := 0) hx hb dX12_image_1 (by decide) ?_
  refine va_put (D := D) (ci := 12) (v := .int 0) (ty := .int) (C := RX12) (T := TX12) (N := 38) hx hb hts hi12 tyX12 tyX12_ok nmX12 hown hG.1 hP hD hS 0 rfl rfl 0 (by decide) lf1 (fun _ h9 => h9) rfl (by decide +kernel) rfl rfl (Nat.le_of_ble_eq_true rfl) dX12_image_2 (fun H locs hP hD hS => ?_)
  have hP : va_P D vwCl [(mo, .inr (12, [.int 0, .ref (ma 1), .int 0, .int 0, .int 0, .int 0, .int 0, .int 0, .int (-1), .ref (ma 9), .ref (ma 10), .ref (ma 11), .ref (ma 12), .ref (ma 13), .ref (ma 14), .ref (ma 15), .int 0, .int 0, .int 0, .ref (ma 19), .ref (ma 20), .ref (ma 21), .int 0, .ref (ma 23), .ref (ma 24), .ref (ma 25), .ref (ma 26), .ref (ma 27), .ref (ma 28), .int 0, .int 0, .int 0, .int 0, .ref (ma 33), .int (-1), .ref (ma 35), .int 0, .int 0])), ((ma 12), .inl (cy 0, 389, .inl sF)), ((ma 15), .inl (cy 0, 1167, .inl f0))] H := hP
  have hD : va_D A [(mo, .inr (12, [.int 0, .ref (ma 1), .int 0, .int 0, .int 0, .int 0, .int 0, .int 0, .int (-1), .ref (ma 9), .ref (ma 10), .ref (ma 11), .ref (ma 12), .ref (ma 13), .ref (ma 14), .ref (ma 15), .int 0, .int 0, .int 0, .ref (ma 19), .ref (ma 20), .ref (ma 21), .int 0, .ref (ma 23), .ref (ma 24), .ref (ma 25), .ref (ma 26), .ref (ma 27), .ref (ma 28), .int 0, .int 0, .int 0, .int 0, .ref (ma 33), .int (-1), .ref (ma 35), .int 0, .int 0])), ((ma 12), .inl (cy 0, 389, .inl sF)), ((ma 15), .inl (cy 0, 1167, .inl f0))] := hD
  refine lv_aload_n hx hb dX12_image_5 rfl (lv_at hlv 0 rfl) ?_
  refine va_get (D := D) (ci := 12) (v := .int 0) (C := RX12) (T := TX12) (N := 38) hx hb hts hi12 hown hG.1 hP 0 rfl rfl 16 (by decide) lf201 (fun _ h9 => h9) rfl dX12_image_6 ?_
  refine lv_iconst (v := 3) hx hb dX12_image_9 (by decide) ?_
  refine lv_icmp_ne (tgt := 15) hx hb dX12_image_10 (by decide) (fun _ => ?_) (fun c => absurd c (by decide))
  refine lv_iconst (v := 0) hx hb dX12_image_15 (by decide) ?_
  refine lv_istore_n (lv' := [(1, .int 0), (0, .ref mo)]) hx hb dX12_image_16 rfl hlv (by decide) rfl (fun ls hlv => ?_)
  refine l_mimage hx hb hts hown hG (fun f_1 H locs ls hP hD hS hlv => ?_) 389 0 _ _ _ _ rfl (by decide) hP hD hS (lv_sub hlv [0, 1] rfl)
  refine lv_aload_n hx hb dX12_image_51 rfl (lv_at hlv 1 rfl) ?_
  refine lv_dup hx hb dX12_image_52 rfl ?_
  refine va_get (D := D) (ci := 12) (v := .int 0) (C := RX12) (T := TX12) (N := 38) hx hb hts hi12 hown hG.1 hP 0 rfl rfl 16 (by decide) lf201 (fun _ h9 => h9) rfl dX12_image_53 ?_
  refine lv_iconst (v := 1) hx hb dX12_image_56 (by decide) ?_
  refine lv_iadd hx hb dX12_image_57 ?_
  refine lt_i (y := 1) (by decide) ?_
  refine va_put (D := D) (ci := 12) (v := .int 1) (ty := .int) (C := RX12) (T := TX12) (N := 38) hx hb hts hi12 tyX12 tyX12_ok nmX12 hown hG.1 hP hD hS 0 rfl rfl 16 (by decide) lf201 (fun _ h9 => h9) rfl (by decide +kernel) rfl rfl (Nat.le_of_ble_eq_true rfl) dX12_image_58 (fun H locs hP hD hS => ?_)
  have hP : va_P D vwCl [(mo, .inr (12, [.int 0, .ref (ma 1), .int 0, .int 0, .int 0, .int 0, .int 0, .int 0, .int (-1), .ref (ma 9), .ref (ma 10), .ref (ma 11), .ref (ma 12), .ref (ma 13), .ref (ma 14), .ref (ma 15), .int 1, .int 0, .int 0, .ref (ma 19), .ref (ma 20), .ref (ma 21), .int 0, .ref (ma 23), .ref (ma 24), .ref (ma 25), .ref (ma 26), .ref (ma 27), .ref (ma 28), .int 0, .int 0, .int 0, .int 0, .ref (ma 33), .int (-1), .ref (ma 35), .int 0, .int 0])), ((ma 12), .inl (cy 0, 389, .inl sF)), ((ma 15), .inl (cy 0, 1167, .inl f_1))] H := hP
  have hD : va_D A [(mo, .inr (12, [.int 0, .ref (ma 1), .int 0, .int 0, .int 0, .int 0, .int 0, .int 0, .int (-1), .ref (ma 9), .ref (ma 10), .ref (ma 11), .ref (ma 12), .ref (ma 13), .ref (ma 14), .ref (ma 15), .int 1, .int 0, .int 0, .ref (ma 19), .ref (ma 20), .ref (ma 21), .int 0, .ref (ma 23), .ref (ma 24), .ref (ma 25), .ref (ma 26), .ref (ma 27), .ref (ma 28), .int 0, .int 0, .int 0, .int 0, .ref (ma 33), .int (-1), .ref (ma 35), .int 0, .int 0])), ((ma 12), .inl (cy 0, 389, .inl sF)), ((ma 15), .inl (cy 0, 1167, .inl f_1))] := hD
  refine lv_aload_n hx hb dX12_image_61 rfl (lv_at hlv 1 rfl) ?_
  refine va_get (D := D) (ci := 12) (v := .int 1) (C := RX12) (T := TX12) (N := 38) hx hb hts hi12 hown hG.1 hP 0 rfl rfl 16 (by decide) lf201 (fun _ h9 => h9) rfl dX12_image_62 ?_
  refine W.widen (k := 0) (n := 0) (Nat.le_of_ble_eq_true rfl) (Nat.le_of_ble_eq_true rfl) ?_
  exact W.iret (v := 1) hx hb hr (fun t ht hW => ⟨⟨1, ((fun k => ([] : List Nat).getD k 0), (fun k => ([] : List Int32).getD k 0), (fun k => ([] : List (Nat → Int32)).getD k (fun _ => 0))), rfl, (by first | (exact (by rfl))), by rw [ht]; exact hP.sub [] rfl, hD.sub [] (by decide) rfl⟩, hS.F ht⟩) hS.2.2 dX12_image_65
def vs_m_street0 : List Cond := .code yX12_street cX12_street 5 (some .int) :: (([.fieldLink RX12 1 "KerbSplashModel" "thrown" "I", .fieldLink RX12 77 "KerbSplashModel" "taped" "I", .fieldLink RX12 26 "KerbSplashModel" "newStreet" "[I", .fieldLink RX12 32 "KerbSplashModel" "newState" "[I", .fieldLink RX12 23 "KerbSplashModel" "b" "[I", .fieldLink RX12 29 "KerbSplashModel" "s" "[I", .fieldLink RX12 201 "KerbSplashModel" "images" "I"] : List Cond) ++ ((wsX120) ++ ((wsV RX12 175 RX12 yX12_may vs_c_may1) ++ ((wsV RX12 179 RX12 yX12_begins vs_m_begins) ++ ((wsV RX12 109 RX12 yX12_fine vs_m_fine) ++ ((wsV RX12 182 RX12 yX12_isMore vs_m_isMore) ++ ((wsV RX12 198 RX12 yX12_result vs_m_result) ++ ([]))))))))
set_option maxHeartbeats 4000000 in
set_option maxRecDepth 100000 in
theorem l_mstreet1 {p : Program} {l : Launch} {e : Env} {R : Room} {s : State} {m : MethodId} {args : Array Value} {below : List Frame} {meth : Method} {c : Code} {Q : State → Prop} {cells slots : Nat} {D : va_G} {cy : Nat → ClassId} {sa : Nat → Nat} {A : Nat → Prop} {mo : Nat} {ma : Nat → Nat} {f0 f2 f3 : Nat → Int32}  (hx : p.tables.exec = Jvm.exec) (hb : c.code = cX12_street) (hts : ∀ w ∈ vs_m_street0, w.before args s = true) (hown : s.vm.findClass RX12 = some m.cls) (hG : GC D cy sa s)
    (kk : ∀ (fm0 : Nat → Int32) (H : Heap) (locs : List Loc) (ls : Array Slot), va_P D vwCl [((ma 10), .inl (cy 0, 68, .inl f0)), ((ma 11), .inl (cy 0, 68, .inl fm0)), ((ma 12), .inl (cy 0, 389, .inl f2)), ((ma 13), .inl (cy 0, 389, .inl f3)), (mo, .inr (12, [.int 0, .ref (ma 1), .int 0, .int 0, .int 0, .int (-1), .int 0, .int 0, .int (-1), .ref (ma 9), .ref (ma 10), .ref (ma 11), .ref (ma 12), .ref (ma 13), .ref (ma 14), .ref (ma 15), .int 0, .int 0, .int 0, .ref (ma 19), .ref (ma 20), .ref (ma 21), .int 0, .ref (ma 23), .ref (ma 24), .ref (ma 25), .ref (ma 26), .ref (ma 27), .ref (ma 28), .int 0, .int 0, .int 0, .int 0, .ref (ma 33), .int (-1), .ref (ma 35), .int 0, .int 0]))] H → va_D A [((ma 10), .inl (cy 0, 68, .inl f0)), ((ma 11), .inl (cy 0, 68, .inl fm0)), ((ma 12), .inl (cy 0, 389, .inl f2)), ((ma 13), .inl (cy 0, 389, .inl f3)), (mo, .inr (12, [.int 0, .ref (ma 1), .int 0, .int 0, .int 0, .int (-1), .int 0, .int 0, .int (-1), .ref (ma 9), .ref (ma 10), .ref (ma 11), .ref (ma 12), .ref (ma 13), .ref (ma 14), .ref (ma 15), .int 0, .int 0, .int 0, .ref (ma 19), .ref (ma 20), .ref (ma 21), .int 0, .ref (ma 23), .ref (ma 24), .ref (ma 25), .ref (ma 26), .ref (ma 27), .ref (ma 28), .int 0, .int 0, .int 0, .int 0, .ref (ma 33), .int (-1), .ref (ma 35), .int 0, .int 0]))] → va_S A s.heap H locs → lv_has ls 5 [(2, .int 68), (0, .ref mo), (1, .int 0)] → W p l e R s m args below meth c H locs cells slots Q (F0 m 59 ls [])) :
    ∀ (k i : Nat) (fm0 : Nat → Int32) (H : Heap) (locs : List Loc) (ls : Array Slot), i + k = 68 → 0 ≤ i → va_P D vwCl [((ma 10), .inl (cy 0, 68, .inl f0)), ((ma 11), .inl (cy 0, 68, .inl fm0)), ((ma 12), .inl (cy 0, 389, .inl f2)), ((ma 13), .inl (cy 0, 389, .inl f3)), (mo, .inr (12, [.int 0, .ref (ma 1), .int 0, .int 0, .int 0, .int (-1), .int 0, .int 0, .int (-1), .ref (ma 9), .ref (ma 10), .ref (ma 11), .ref (ma 12), .ref (ma 13), .ref (ma 14), .ref (ma 15), .int 0, .int 0, .int 0, .ref (ma 19), .ref (ma 20), .ref (ma 21), .int 0, .ref (ma 23), .ref (ma 24), .ref (ma 25), .ref (ma 26), .ref (ma 27), .ref (ma 28), .int 0, .int 0, .int 0, .int 0, .ref (ma 33), .int (-1), .ref (ma 35), .int 0, .int 0]))] H → va_D A [((ma 10), .inl (cy 0, 68, .inl f0)), ((ma 11), .inl (cy 0, 68, .inl fm0)), ((ma 12), .inl (cy 0, 389, .inl f2)), ((ma 13), .inl (cy 0, 389, .inl f3)), (mo, .inr (12, [.int 0, .ref (ma 1), .int 0, .int 0, .int 0, .int (-1), .int 0, .int 0, .int (-1), .ref (ma 9), .ref (ma 10), .ref (ma 11), .ref (ma 12), .ref (ma 13), .ref (ma 14), .ref (ma 15), .int 0, .int 0, .int 0, .ref (ma 19), .ref (ma 20), .ref (ma 21), .int 0, .ref (ma 23), .ref (ma 24), .ref (ma 25), .ref (ma 26), .ref (ma 27), .ref (ma 28), .int 0, .int 0, .int 0, .int 0, .ref (ma 33), .int (-1), .ref (ma 35), .int 0, .int 0]))] → va_S A s.heap H locs → lv_has ls 5 [(2, .int (nI i)), (0, .ref mo), (1, .int 0)] → W p l e R s m args below meth c H locs cells slots Q (F0 m 40 ls []) := by
  have lf26 := hts (.fieldLink RX12 26 "KerbSplashModel" "newStreet" "[I") (List.mem_of_getElem? (i := 3) rfl)
  have hi12 : ∀ w ∈ wsX120, w ∈ vs_m_street0 := fun w h => List.mem_cons_of_mem _ (List.mem_append_right _ (List.mem_append_left _ h))
  intro k
  induction k with
  | zero =>
    intro i fm0 H locs ls hi hlo hP hD hS hlv
    obtain rfl : i = 68 := by omega
    refine lv_iload_n hx hb dX12_street_40 rfl (lv_at hlv 0 rfl) ?_
    refine lv_bipush (v := 68) hx hb dX12_street_41 (by decide) ?_
    refine lv_icmp_ge (tgt := 59) hx hb dX12_street_43 (by decide) (fun _ => ?_) (fun c => absurd (nI_le (Nat.le_refl 68) (by decide)) c)
    exact kk fm0 H locs ls hP hD hS hlv
  | succ k ih =>
    intro i fm0 H locs ls hi hlo hP hD hS hlv
    have hin : i < 68 := by omega
    refine lv_iload_n hx hb dX12_street_40 rfl (lv_at hlv 0 rfl) ?_
    refine lv_bipush (v := 68) hx hb dX12_street_41 (by decide) ?_
    refine lv_icmp_ge (tgt := 59) hx hb dX12_street_43 (by decide) (fun c => absurd c (nI_ge hin (by decide))) (fun _ => ?_)
    refine lv_aload_n hx hb dX12_street_46 rfl (lv_at hlv 1 rfl) ?_
    refine va_get (D := D) (ci := 12) (v := .ref (ma 11)) (C := RX12) (T := TX12) (N := 38) hx hb hts hi12 hown hG.1 hP 4 rfl rfl 11 (by decide) lf26 (fun _ h9 => h9) rfl dX12_street_47 ?_
    refine lv_iload_n hx hb dX12_street_50 rfl (lv_at hlv 0 rfl) ?_
    refine lv_iconst (v := 0) hx hb dX12_street_51 (by decide) ?_
    refine va_iast hx hb hG.1 hP hD hS 1 0 rfl rfl (vp_in_nI (Nat.lt_of_lt_of_le hin (by decide)) (by decide)) dX12_street_52 (fun H locs hP hD hS => ?_)
    have ⟨f_1, hP, hD⟩ : ∃ f_1 : Nat → Int32, va_P D vwCl [((ma 10), .inl (cy 0, 68, .inl f0)), ((ma 11), .inl (cy 0, 68, .inl f_1)), ((ma 12), .inl (cy 0, 389, .inl f2)), ((ma 13), .inl (cy 0, 389, .inl f3)), (mo, .inr (12, [.int 0, .ref (ma 1), .int 0, .int 0, .int 0, .int (-1), .int 0, .int 0, .int (-1), .ref (ma 9), .ref (ma 10), .ref (ma 11), .ref (ma 12), .ref (ma 13), .ref (ma 14), .ref (ma 15), .int 0, .int 0, .int 0, .ref (ma 19), .ref (ma 20), .ref (ma 21), .int 0, .ref (ma 23), .ref (ma 24), .ref (ma 25), .ref (ma 26), .ref (ma 27), .ref (ma 28), .int 0, .int 0, .int 0, .int 0, .ref (ma 33), .int (-1), .ref (ma 35), .int 0, .int 0]))] H ∧ va_D A [((ma 10), .inl (cy 0, 68, .inl f0)), ((ma 11), .inl (cy 0, 68, .inl f_1)), ((ma 12), .inl (cy 0, 389, .inl f2)), ((ma 13), .inl (cy 0, 389, .inl f3)), (mo, .inr (12, [.int 0, .ref (ma 1), .int 0, .int 0, .int 0, .int (-1), .int 0, .int 0, .int (-1), .ref (ma 9), .ref (ma 10), .ref (ma 11), .ref (ma 12), .ref (ma 13), .ref (ma 14), .ref (ma 15), .int 0, .int 0, .int 0, .ref (ma 19), .ref (ma 20), .ref (ma 21), .int 0, .ref (ma 23), .ref (ma 24), .ref (ma 25), .ref (ma 26), .ref (ma 27), .ref (ma 28), .int 0, .int 0, .int 0, .int 0, .ref (ma 33), .int (-1), .ref (ma 35), .int 0, .int 0]))] := ⟨_, hP, hD⟩
    refine lv_iinc (v := (nI (i + 1))) (lv' := [(2, .int (nI (i + 1))), (0, .ref mo), (1, .int 0)]) hx hb dX12_street_53 hlv (k := 0) rfl (nI_1 i) (by decide) rfl (fun ls hlv => ?_)
    refine lv_goto (tgt := 40) hx hb dX12_street_56 (by decide) ?_
    exact ih (i + 1) _ H locs ls (by omega) (by omega) hP hD hS hlv
set_option maxHeartbeats 4000000 in
set_option maxRecDepth 100000 in
theorem l_mstreet2 {p : Program} {l : Launch} {e : Env} {R : Room} {s : State} {m : MethodId} {args : Array Value} {below : List Frame} {meth : Method} {c : Code} {Q : State → Prop} {cells slots : Nat} {D : va_G} {cy : Nat → ClassId} {sa : Nat → Nat} {A : Nat → Prop} {mo : Nat} {ma : Nat → Nat} {f0 f2 : Nat → Int32} {f_1 : Nat → Int32} (hx : p.tables.exec = Jvm.exec) (hb : c.code = cX12_street) (hts : ∀ w ∈ vs_m_street0, w.before args s = true) (hown : s.vm.findClass RX12 = some m.cls) (hG : GC D cy sa s)
    (kk : ∀ (fm0 : Nat → Int32) (H : Heap) (locs : List Loc) (ls : Array Slot), va_P D vwCl [((ma 10), .inl (cy 0, 68, .inl f0)), ((ma 11), .inl (cy 0, 68, .inl f_1)), ((ma 12), .inl (cy 0, 389, .inl f2)), ((ma 13), .inl (cy 0, 389, .inl fm0)), (mo, .inr (12, [.int 0, .ref (ma 1), .int 0, .int 0, .int 0, .int (-1), .int 0, .int 0, .int (-1), .ref (ma 9), .ref (ma 10), .ref (ma 11), .ref (ma 12), .ref (ma 13), .ref (ma 14), .ref (ma 15), .int 0, .int 0, .int 0, .ref (ma 19), .ref (ma 20), .ref (ma 21), .int 0, .ref (ma 23), .ref (ma 24), .ref (ma 25), .ref (ma 26), .ref (ma 27), .ref (ma 28), .int 0, .int 0, .int 0, .int 0, .ref (ma 33), .int (-1), .ref (ma 35), .int 0, .int 0]))] H → va_D A [((ma 10), .inl (cy 0, 68, .inl f0)), ((ma 11), .inl (cy 0, 68, .inl f_1)), ((ma 12), .inl (cy 0, 389, .inl f2)), ((ma 13), .inl (cy 0, 389, .inl fm0)), (mo, .inr (12, [.int 0, .ref (ma 1), .int 0, .int 0, .int 0, .int (-1), .int 0, .int 0, .int (-1), .ref (ma 9), .ref (ma 10), .ref (ma 11), .ref (ma 12), .ref (ma 13), .ref (ma 14), .ref (ma 15), .int 0, .int 0, .int 0, .ref (ma 19), .ref (ma 20), .ref (ma 21), .int 0, .ref (ma 23), .ref (ma 24), .ref (ma 25), .ref (ma 26), .ref (ma 27), .ref (ma 28), .int 0, .int 0, .int 0, .int 0, .ref (ma 33), .int (-1), .ref (ma 35), .int 0, .int 0]))] → va_S A s.heap H locs → lv_has ls 5 [(2, .int 389), (0, .ref mo), (1, .int 0)] → W p l e R s m args below meth c H locs cells slots Q (F0 m 110 ls [])) :
    ∀ (k i : Nat) (fm0 : Nat → Int32) (H : Heap) (locs : List Loc) (ls : Array Slot), i + k = 389 → 0 ≤ i → va_P D vwCl [((ma 10), .inl (cy 0, 68, .inl f0)), ((ma 11), .inl (cy 0, 68, .inl f_1)), ((ma 12), .inl (cy 0, 389, .inl f2)), ((ma 13), .inl (cy 0, 389, .inl fm0)), (mo, .inr (12, [.int 0, .ref (ma 1), .int 0, .int 0, .int 0, .int (-1), .int 0, .int 0, .int (-1), .ref (ma 9), .ref (ma 10), .ref (ma 11), .ref (ma 12), .ref (ma 13), .ref (ma 14), .ref (ma 15), .int 0, .int 0, .int 0, .ref (ma 19), .ref (ma 20), .ref (ma 21), .int 0, .ref (ma 23), .ref (ma 24), .ref (ma 25), .ref (ma 26), .ref (ma 27), .ref (ma 28), .int 0, .int 0, .int 0, .int 0, .ref (ma 33), .int (-1), .ref (ma 35), .int 0, .int 0]))] H → va_D A [((ma 10), .inl (cy 0, 68, .inl f0)), ((ma 11), .inl (cy 0, 68, .inl f_1)), ((ma 12), .inl (cy 0, 389, .inl f2)), ((ma 13), .inl (cy 0, 389, .inl fm0)), (mo, .inr (12, [.int 0, .ref (ma 1), .int 0, .int 0, .int 0, .int (-1), .int 0, .int 0, .int (-1), .ref (ma 9), .ref (ma 10), .ref (ma 11), .ref (ma 12), .ref (ma 13), .ref (ma 14), .ref (ma 15), .int 0, .int 0, .int 0, .ref (ma 19), .ref (ma 20), .ref (ma 21), .int 0, .ref (ma 23), .ref (ma 24), .ref (ma 25), .ref (ma 26), .ref (ma 27), .ref (ma 28), .int 0, .int 0, .int 0, .int 0, .ref (ma 33), .int (-1), .ref (ma 35), .int 0, .int 0]))] → va_S A s.heap H locs → lv_has ls 5 [(2, .int (nI i)), (0, .ref mo), (1, .int 0)] → W p l e R s m args below meth c H locs cells slots Q (F0 m 61 ls []) := by
  have lf32 := hts (.fieldLink RX12 32 "KerbSplashModel" "newState" "[I") (List.mem_of_getElem? (i := 4) rfl)
  have hi12 : ∀ w ∈ wsX120, w ∈ vs_m_street0 := fun w h => List.mem_cons_of_mem _ (List.mem_append_right _ (List.mem_append_left _ h))
  intro k
  induction k with
  | zero =>
    intro i fm0 H locs ls hi hlo hP hD hS hlv
    obtain rfl : i = 389 := by omega
    refine lv_iload_n hx hb dX12_street_61 rfl (lv_at hlv 0 rfl) ?_
    refine lv_sipush (v := 389) hx hb dX12_street_62 (by decide) ?_
    refine lv_icmp_ge (tgt := 110) hx hb dX12_street_65 (by decide) (fun _ => ?_) (fun c => absurd (nI_le (Nat.le_refl 389) (by decide)) c)
    exact kk fm0 H locs ls hP hD hS hlv
  | succ k ih =>
    intro i fm0 H locs ls hi hlo hP hD hS hlv
    have hin : i < 389 := by omega
    refine lv_iload_n hx hb dX12_street_61 rfl (lv_at hlv 0 rfl) ?_
    refine lv_sipush (v := 389) hx hb dX12_street_62 (by decide) ?_
    refine lv_icmp_ge (tgt := 110) hx hb dX12_street_65 (by decide) (fun c => absurd c (nI_ge hin (by decide))) (fun _ => ?_)
    refine lv_aload_n hx hb dX12_street_68 rfl (lv_at hlv 1 rfl) ?_
    refine va_get (D := D) (ci := 12) (v := .ref (ma 13)) (C := RX12) (T := TX12) (N := 38) hx hb hts hi12 hown hG.1 hP 4 rfl rfl 13 (by decide) lf32 (fun _ h9 => h9) rfl dX12_street_69 ?_
    refine lv_iload_n hx hb dX12_street_72 rfl (lv_at hlv 0 rfl) ?_
    refine lv_iload_n hx hb dX12_street_73 rfl (lv_at hlv 0 rfl) ?_
    refine lv_bipush (v := 96) hx hb dX12_street_74 (by decide) ?_
    refine lv_icmp_ge (tgt := 84) hx hb dX12_street_76 (by decide) (fun c_1 => ?_) (fun c_1 => ?_)
    · refine lv_iload_n hx hb dX12_street_84 rfl (lv_at hlv 0 rfl) ?_
      refine lv_sipush (v := 353) hx hb dX12_street_85 (by decide) ?_
      refine lv_icmp_lt (tgt := 102) hx hb dX12_street_88 (by decide) (fun c_2 => ?_) (fun c_2 => ?_)
      · refine lv_iconst (v := 0) hx hb dX12_street_102 (by decide) ?_
        refine va_iast hx hb hG.1 hP hD hS 3 0 rfl rfl (vp_in_nI (Nat.lt_of_lt_of_le hin (by decide)) (by decide)) dX12_street_103 (fun H locs hP hD hS => ?_)
        have ⟨f_3, hP, hD⟩ : ∃ f_3 : Nat → Int32, va_P D vwCl [((ma 10), .inl (cy 0, 68, .inl f0)), ((ma 11), .inl (cy 0, 68, .inl f_1)), ((ma 12), .inl (cy 0, 389, .inl f2)), ((ma 13), .inl (cy 0, 389, .inl f_3)), (mo, .inr (12, [.int 0, .ref (ma 1), .int 0, .int 0, .int 0, .int (-1), .int 0, .int 0, .int (-1), .ref (ma 9), .ref (ma 10), .ref (ma 11), .ref (ma 12), .ref (ma 13), .ref (ma 14), .ref (ma 15), .int 0, .int 0, .int 0, .ref (ma 19), .ref (ma 20), .ref (ma 21), .int 0, .ref (ma 23), .ref (ma 24), .ref (ma 25), .ref (ma 26), .ref (ma 27), .ref (ma 28), .int 0, .int 0, .int 0, .int 0, .ref (ma 33), .int (-1), .ref (ma 35), .int 0, .int 0]))] H ∧ va_D A [((ma 10), .inl (cy 0, 68, .inl f0)), ((ma 11), .inl (cy 0, 68, .inl f_1)), ((ma 12), .inl (cy 0, 389, .inl f2)), ((ma 13), .inl (cy 0, 389, .inl f_3)), (mo, .inr (12, [.int 0, .ref (ma 1), .int 0, .int 0, .int 0, .int (-1), .int 0, .int 0, .int (-1), .ref (ma 9), .ref (ma 10), .ref (ma 11), .ref (ma 12), .ref (ma 13), .ref (ma 14), .ref (ma 15), .int 0, .int 0, .int 0, .ref (ma 19), .ref (ma 20), .ref (ma 21), .int 0, .ref (ma 23), .ref (ma 24), .ref (ma 25), .ref (ma 26), .ref (ma 27), .ref (ma 28), .int 0, .int 0, .int 0, .int 0, .ref (ma 33), .int (-1), .ref (ma 35), .int 0, .int 0]))] := ⟨_, hP, hD⟩
        refine lv_iinc (v := (nI (i + 1))) (lv' := [(2, .int (nI (i + 1))), (0, .ref mo), (1, .int 0)]) hx hb dX12_street_104 hlv (k := 0) rfl (nI_1 i) (by decide) rfl (fun ls hlv => ?_)
        refine lv_goto (tgt := 61) hx hb dX12_street_107 (by decide) ?_
        exact ih (i + 1) _ H locs ls (by omega) (by omega) hP hD hS hlv
      · refine lv_iload_n hx hb dX12_street_91 rfl (lv_at hlv 0 rfl) ?_
        refine lv_sipush (v := 357) hx hb dX12_street_92 (by decide) ?_
        refine lv_icmp_ge (tgt := 102) hx hb dX12_street_95 (by decide) (fun c_4 => ?_) (fun c_4 => ?_)
        · refine lv_iconst (v := 0) hx hb dX12_street_102 (by decide) ?_
          refine va_iast hx hb hG.1 hP hD hS 3 0 rfl rfl (vp_in_nI (Nat.lt_of_lt_of_le hin (by decide)) (by decide)) dX12_street_103 (fun H locs hP hD hS => ?_)
          have ⟨f_5, hP, hD⟩ : ∃ f_5 : Nat → Int32, va_P D vwCl [((ma 10), .inl (cy 0, 68, .inl f0)), ((ma 11), .inl (cy 0, 68, .inl f_1)), ((ma 12), .inl (cy 0, 389, .inl f2)), ((ma 13), .inl (cy 0, 389, .inl f_5)), (mo, .inr (12, [.int 0, .ref (ma 1), .int 0, .int 0, .int 0, .int (-1), .int 0, .int 0, .int (-1), .ref (ma 9), .ref (ma 10), .ref (ma 11), .ref (ma 12), .ref (ma 13), .ref (ma 14), .ref (ma 15), .int 0, .int 0, .int 0, .ref (ma 19), .ref (ma 20), .ref (ma 21), .int 0, .ref (ma 23), .ref (ma 24), .ref (ma 25), .ref (ma 26), .ref (ma 27), .ref (ma 28), .int 0, .int 0, .int 0, .int 0, .ref (ma 33), .int (-1), .ref (ma 35), .int 0, .int 0]))] H ∧ va_D A [((ma 10), .inl (cy 0, 68, .inl f0)), ((ma 11), .inl (cy 0, 68, .inl f_1)), ((ma 12), .inl (cy 0, 389, .inl f2)), ((ma 13), .inl (cy 0, 389, .inl f_5)), (mo, .inr (12, [.int 0, .ref (ma 1), .int 0, .int 0, .int 0, .int (-1), .int 0, .int 0, .int (-1), .ref (ma 9), .ref (ma 10), .ref (ma 11), .ref (ma 12), .ref (ma 13), .ref (ma 14), .ref (ma 15), .int 0, .int 0, .int 0, .ref (ma 19), .ref (ma 20), .ref (ma 21), .int 0, .ref (ma 23), .ref (ma 24), .ref (ma 25), .ref (ma 26), .ref (ma 27), .ref (ma 28), .int 0, .int 0, .int 0, .int 0, .ref (ma 33), .int (-1), .ref (ma 35), .int 0, .int 0]))] := ⟨_, hP, hD⟩
          refine lv_iinc (v := (nI (i + 1))) (lv' := [(2, .int (nI (i + 1))), (0, .ref mo), (1, .int 0)]) hx hb dX12_street_104 hlv (k := 0) rfl (nI_1 i) (by decide) rfl (fun ls hlv => ?_)
          refine lv_goto (tgt := 61) hx hb dX12_street_107 (by decide) ?_
          exact ih (i + 1) _ H locs ls (by omega) (by omega) hP hD hS hlv
        · refine lv_iconst (v := 1) hx hb dX12_street_98 (by decide) ?_
          refine lv_goto (tgt := 103) hx hb dX12_street_99 (by decide) ?_
          refine va_iast hx hb hG.1 hP hD hS 3 0 rfl rfl (vp_in_nI (Nat.lt_of_lt_of_le hin (by decide)) (by decide)) dX12_street_103 (fun H locs hP hD hS => ?_)
          have ⟨f_6, hP, hD⟩ : ∃ f_6 : Nat → Int32, va_P D vwCl [((ma 10), .inl (cy 0, 68, .inl f0)), ((ma 11), .inl (cy 0, 68, .inl f_1)), ((ma 12), .inl (cy 0, 389, .inl f2)), ((ma 13), .inl (cy 0, 389, .inl f_6)), (mo, .inr (12, [.int 0, .ref (ma 1), .int 0, .int 0, .int 0, .int (-1), .int 0, .int 0, .int (-1), .ref (ma 9), .ref (ma 10), .ref (ma 11), .ref (ma 12), .ref (ma 13), .ref (ma 14), .ref (ma 15), .int 0, .int 0, .int 0, .ref (ma 19), .ref (ma 20), .ref (ma 21), .int 0, .ref (ma 23), .ref (ma 24), .ref (ma 25), .ref (ma 26), .ref (ma 27), .ref (ma 28), .int 0, .int 0, .int 0, .int 0, .ref (ma 33), .int (-1), .ref (ma 35), .int 0, .int 0]))] H ∧ va_D A [((ma 10), .inl (cy 0, 68, .inl f0)), ((ma 11), .inl (cy 0, 68, .inl f_1)), ((ma 12), .inl (cy 0, 389, .inl f2)), ((ma 13), .inl (cy 0, 389, .inl f_6)), (mo, .inr (12, [.int 0, .ref (ma 1), .int 0, .int 0, .int 0, .int (-1), .int 0, .int 0, .int (-1), .ref (ma 9), .ref (ma 10), .ref (ma 11), .ref (ma 12), .ref (ma 13), .ref (ma 14), .ref (ma 15), .int 0, .int 0, .int 0, .ref (ma 19), .ref (ma 20), .ref (ma 21), .int 0, .ref (ma 23), .ref (ma 24), .ref (ma 25), .ref (ma 26), .ref (ma 27), .ref (ma 28), .int 0, .int 0, .int 0, .int 0, .ref (ma 33), .int (-1), .ref (ma 35), .int 0, .int 0]))] := ⟨_, hP, hD⟩
          refine lv_iinc (v := (nI (i + 1))) (lv' := [(2, .int (nI (i + 1))), (0, .ref mo), (1, .int 0)]) hx hb dX12_street_104 hlv (k := 0) rfl (nI_1 i) (by decide) rfl (fun ls hlv => ?_)
          refine lv_goto (tgt := 61) hx hb dX12_street_107 (by decide) ?_
          exact ih (i + 1) _ H locs ls (by omega) (by omega) hP hD hS hlv
    · refine lv_bipush (v := 50) hx hb dX12_street_79 (by decide) ?_
      refine lv_goto (tgt := 103) hx hb dX12_street_81 (by decide) ?_
      refine va_iast hx hb hG.1 hP hD hS 3 0 rfl rfl (vp_in_nI (Nat.lt_of_lt_of_le hin (by decide)) (by decide)) dX12_street_103 (fun H locs hP hD hS => ?_)
      have ⟨f_7, hP, hD⟩ : ∃ f_7 : Nat → Int32, va_P D vwCl [((ma 10), .inl (cy 0, 68, .inl f0)), ((ma 11), .inl (cy 0, 68, .inl f_1)), ((ma 12), .inl (cy 0, 389, .inl f2)), ((ma 13), .inl (cy 0, 389, .inl f_7)), (mo, .inr (12, [.int 0, .ref (ma 1), .int 0, .int 0, .int 0, .int (-1), .int 0, .int 0, .int (-1), .ref (ma 9), .ref (ma 10), .ref (ma 11), .ref (ma 12), .ref (ma 13), .ref (ma 14), .ref (ma 15), .int 0, .int 0, .int 0, .ref (ma 19), .ref (ma 20), .ref (ma 21), .int 0, .ref (ma 23), .ref (ma 24), .ref (ma 25), .ref (ma 26), .ref (ma 27), .ref (ma 28), .int 0, .int 0, .int 0, .int 0, .ref (ma 33), .int (-1), .ref (ma 35), .int 0, .int 0]))] H ∧ va_D A [((ma 10), .inl (cy 0, 68, .inl f0)), ((ma 11), .inl (cy 0, 68, .inl f_1)), ((ma 12), .inl (cy 0, 389, .inl f2)), ((ma 13), .inl (cy 0, 389, .inl f_7)), (mo, .inr (12, [.int 0, .ref (ma 1), .int 0, .int 0, .int 0, .int (-1), .int 0, .int 0, .int (-1), .ref (ma 9), .ref (ma 10), .ref (ma 11), .ref (ma 12), .ref (ma 13), .ref (ma 14), .ref (ma 15), .int 0, .int 0, .int 0, .ref (ma 19), .ref (ma 20), .ref (ma 21), .int 0, .ref (ma 23), .ref (ma 24), .ref (ma 25), .ref (ma 26), .ref (ma 27), .ref (ma 28), .int 0, .int 0, .int 0, .int 0, .ref (ma 33), .int (-1), .ref (ma 35), .int 0, .int 0]))] := ⟨_, hP, hD⟩
      refine lv_iinc (v := (nI (i + 1))) (lv' := [(2, .int (nI (i + 1))), (0, .ref mo), (1, .int 0)]) hx hb dX12_street_104 hlv (k := 0) rfl (nI_1 i) (by decide) rfl (fun ls hlv => ?_)
      refine lv_goto (tgt := 61) hx hb dX12_street_107 (by decide) ?_
      exact ih (i + 1) _ H locs ls (by omega) (by omega) hP hD hS hlv
set_option maxHeartbeats 4000000 in
set_option maxRecDepth 100000 in
theorem l_mstreet3 {p : Program} {l : Launch} {e : Env} {R : Room} {s : State} {m : MethodId} {args : Array Value} {below : List Frame} {meth : Method} {c : Code} {Q : State → Prop} {cells slots : Nat} {D : va_G} {cy : Nat → ClassId} {sa : Nat → Nat} {A : Nat → Prop} {mo : Nat} {ma : Nat → Nat} {f2 : Nat → Int32} {f_6 : Nat → Int32} {gS : Nat → Int32} (hx : p.tables.exec = Jvm.exec) (hb : c.code = cX12_street) (hts : ∀ w ∈ vs_m_street0, w.before args s = true) (hown : s.vm.findClass RX12 = some m.cls) (hG : GC D cy sa s)
    (kk : ∀ (fm0 : Nat → Int32) (H : Heap) (locs : List Loc) (ls : Array Slot), va_P D vwCl [((ma 10), .inl (cy 0, 68, .inl fm0)), ((ma 11), .inl (cy 0, 68, .inl gS)), ((ma 12), .inl (cy 0, 389, .inl f2)), ((ma 13), .inl (cy 0, 389, .inl f_6)), (mo, .inr (12, [.int 0, .ref (ma 1), .int 0, .int 0, .int 0, .int (-1), .int 0, .int 0, .int (-1), .ref (ma 9), .ref (ma 10), .ref (ma 11), .ref (ma 12), .ref (ma 13), .ref (ma 14), .ref (ma 15), .int 0, .int 0, .int 0, .ref (ma 19), .ref (ma 20), .ref (ma 21), .int 0, .ref (ma 23), .ref (ma 24), .ref (ma 25), .ref (ma 26), .ref (ma 27), .ref (ma 28), .int 0, .int 0, .int 0, .int 0, .ref (ma 33), .int (-1), .ref (ma 35), .int 0, .int 0]))] H → va_D A [((ma 10), .inl (cy 0, 68, .inl fm0)), ((ma 11), .inl (cy 0, 68, .inl gS)), ((ma 12), .inl (cy 0, 389, .inl f2)), ((ma 13), .inl (cy 0, 389, .inl f_6)), (mo, .inr (12, [.int 0, .ref (ma 1), .int 0, .int 0, .int 0, .int (-1), .int 0, .int 0, .int (-1), .ref (ma 9), .ref (ma 10), .ref (ma 11), .ref (ma 12), .ref (ma 13), .ref (ma 14), .ref (ma 15), .int 0, .int 0, .int 0, .ref (ma 19), .ref (ma 20), .ref (ma 21), .int 0, .ref (ma 23), .ref (ma 24), .ref (ma 25), .ref (ma 26), .ref (ma 27), .ref (ma 28), .int 0, .int 0, .int 0, .int 0, .ref (ma 33), .int (-1), .ref (ma 35), .int 0, .int 0]))] → va_S A s.heap H locs → lv_has ls 5 [(3, .int 68), (2, .int 0), (0, .ref mo), (1, .int 0)] → (∀ j : Nat, j < 68 → fm0 j = gS j) → W p l e R s m args below meth c H locs cells slots Q (F0 m 410 ls [])) :
    ∀ (k i : Nat) (fm0 : Nat → Int32) (H : Heap) (locs : List Loc) (ls : Array Slot), i + k = 68 → 0 ≤ i → va_P D vwCl [((ma 10), .inl (cy 0, 68, .inl fm0)), ((ma 11), .inl (cy 0, 68, .inl gS)), ((ma 12), .inl (cy 0, 389, .inl f2)), ((ma 13), .inl (cy 0, 389, .inl f_6)), (mo, .inr (12, [.int 0, .ref (ma 1), .int 0, .int 0, .int 0, .int (-1), .int 0, .int 0, .int (-1), .ref (ma 9), .ref (ma 10), .ref (ma 11), .ref (ma 12), .ref (ma 13), .ref (ma 14), .ref (ma 15), .int 0, .int 0, .int 0, .ref (ma 19), .ref (ma 20), .ref (ma 21), .int 0, .ref (ma 23), .ref (ma 24), .ref (ma 25), .ref (ma 26), .ref (ma 27), .ref (ma 28), .int 0, .int 0, .int 0, .int 0, .ref (ma 33), .int (-1), .ref (ma 35), .int 0, .int 0]))] H → va_D A [((ma 10), .inl (cy 0, 68, .inl fm0)), ((ma 11), .inl (cy 0, 68, .inl gS)), ((ma 12), .inl (cy 0, 389, .inl f2)), ((ma 13), .inl (cy 0, 389, .inl f_6)), (mo, .inr (12, [.int 0, .ref (ma 1), .int 0, .int 0, .int 0, .int (-1), .int 0, .int 0, .int (-1), .ref (ma 9), .ref (ma 10), .ref (ma 11), .ref (ma 12), .ref (ma 13), .ref (ma 14), .ref (ma 15), .int 0, .int 0, .int 0, .ref (ma 19), .ref (ma 20), .ref (ma 21), .int 0, .ref (ma 23), .ref (ma 24), .ref (ma 25), .ref (ma 26), .ref (ma 27), .ref (ma 28), .int 0, .int 0, .int 0, .int 0, .ref (ma 33), .int (-1), .ref (ma 35), .int 0, .int 0]))] → va_S A s.heap H locs → lv_has ls 5 [(3, .int (nI i)), (2, .int 0), (0, .ref mo), (1, .int 0)] → (∀ j : Nat, j < i → fm0 j = gS j) → W p l e R s m args below meth c H locs cells slots Q (F0 m 386 ls []) := by
  have lf23 := hts (.fieldLink RX12 23 "KerbSplashModel" "b" "[I") (List.mem_of_getElem? (i := 5) rfl)
  have hi12 : ∀ w ∈ wsX120, w ∈ vs_m_street0 := fun w h => List.mem_cons_of_mem _ (List.mem_append_right _ (List.mem_append_left _ h))
  have lf26 := hts (.fieldLink RX12 26 "KerbSplashModel" "newStreet" "[I") (List.mem_of_getElem? (i := 3) rfl)
  intro k
  induction k with
  | zero =>
    intro i fm0 H locs ls hi hlo hP hD hS hlv hq
    obtain rfl : i = 68 := by omega
    refine lv_iload_n hx hb dX12_street_386 rfl (lv_at hlv 0 rfl) ?_
    refine lv_bipush (v := 68) hx hb dX12_street_387 (by decide) ?_
    refine lv_icmp_ge (tgt := 410) hx hb dX12_street_389 (by decide) (fun _ => ?_) (fun c => absurd (nI_le (Nat.le_refl 68) (by decide)) c)
    exact kk fm0 H locs ls hP hD hS hlv hq
  | succ k ih =>
    intro i fm0 H locs ls hi hlo hP hD hS hlv hq
    have hin : i < 68 := by omega
    refine lv_iload_n hx hb dX12_street_386 rfl (lv_at hlv 0 rfl) ?_
    refine lv_bipush (v := 68) hx hb dX12_street_387 (by decide) ?_
    refine lv_icmp_ge (tgt := 410) hx hb dX12_street_389 (by decide) (fun c => absurd c (nI_ge hin (by decide))) (fun _ => ?_)
    refine lv_aload_n hx hb dX12_street_392 rfl (lv_at hlv 2 rfl) ?_
    refine va_get (D := D) (ci := 12) (v := .ref (ma 10)) (C := RX12) (T := TX12) (N := 38) hx hb hts hi12 hown hG.1 hP 4 rfl rfl 10 (by decide) lf23 (fun _ h9 => h9) rfl dX12_street_393 ?_
    refine lv_iload_n hx hb dX12_street_396 rfl (lv_at hlv 0 rfl) ?_
    refine lv_aload_n hx hb dX12_street_397 rfl (lv_at hlv 2 rfl) ?_
    refine va_get (D := D) (ci := 12) (v := .ref (ma 11)) (C := RX12) (T := TX12) (N := 38) hx hb hts hi12 hown hG.1 hP 4 rfl rfl 11 (by decide) lf26 (fun _ h9 => h9) rfl dX12_street_398 ?_
    refine lv_iload_n hx hb dX12_street_401 rfl (lv_at hlv 0 rfl) ?_
    refine va_iald hx hb hG.1 hP 1 0 rfl rfl (vp_in_nI (Nat.lt_of_lt_of_le hin (by decide)) (by decide)) dX12_street_402 ?_
    refine lt_i (y := gS i) (by rw [nI_clamp (by omega)]) ?_
    refine va_iast hx hb hG.1 hP hD hS 0 0 rfl rfl (vp_in_nI (Nat.lt_of_lt_of_le hin (by decide)) (by decide)) dX12_street_403 (fun H locs hP hD hS => ?_)
    have ⟨f_1, hq, hP, hD⟩ : ∃ f_1 : Nat → Int32, (∀ j : Nat, j < i + 1 → f_1 j = gS j) ∧ va_P D vwCl [((ma 10), .inl (cy 0, 68, .inl f_1)), ((ma 11), .inl (cy 0, 68, .inl gS)), ((ma 12), .inl (cy 0, 389, .inl f2)), ((ma 13), .inl (cy 0, 389, .inl f_6)), (mo, .inr (12, [.int 0, .ref (ma 1), .int 0, .int 0, .int 0, .int (-1), .int 0, .int 0, .int (-1), .ref (ma 9), .ref (ma 10), .ref (ma 11), .ref (ma 12), .ref (ma 13), .ref (ma 14), .ref (ma 15), .int 0, .int 0, .int 0, .ref (ma 19), .ref (ma 20), .ref (ma 21), .int 0, .ref (ma 23), .ref (ma 24), .ref (ma 25), .ref (ma 26), .ref (ma 27), .ref (ma 28), .int 0, .int 0, .int 0, .int 0, .ref (ma 33), .int (-1), .ref (ma 35), .int 0, .int 0]))] H ∧ va_D A [((ma 10), .inl (cy 0, 68, .inl f_1)), ((ma 11), .inl (cy 0, 68, .inl gS)), ((ma 12), .inl (cy 0, 389, .inl f2)), ((ma 13), .inl (cy 0, 389, .inl f_6)), (mo, .inr (12, [.int 0, .ref (ma 1), .int 0, .int 0, .int 0, .int (-1), .int 0, .int 0, .int (-1), .ref (ma 9), .ref (ma 10), .ref (ma 11), .ref (ma 12), .ref (ma 13), .ref (ma 14), .ref (ma 15), .int 0, .int 0, .int 0, .ref (ma 19), .ref (ma 20), .ref (ma 21), .int 0, .ref (ma 23), .ref (ma 24), .ref (ma 25), .ref (ma 26), .ref (ma 27), .ref (ma 28), .int 0, .int 0, .int 0, .int 0, .ref (ma 33), .int (-1), .ref (ma 35), .int 0, .int 0]))] := ⟨upd fm0 (nI i).toNatClampNeg (gS i), fun j hj => by
        rw [nI_clamp (by omega)]
        unfold upd
        by_cases h : j = i
        · rw [if_pos h, h]
        · rw [if_neg h]; exact hq j (by omega), hP, hD⟩
    refine lv_iinc (v := (nI (i + 1))) (lv' := [(3, .int (nI (i + 1))), (2, .int 0), (0, .ref mo), (1, .int 0)]) hx hb dX12_street_404 hlv (k := 0) rfl (nI_1 i) (by decide) rfl (fun ls hlv => ?_)
    refine lv_goto (tgt := 386) hx hb dX12_street_407 (by decide) ?_
    exact ih (i + 1) _ H locs ls (by omega) (by omega) hP hD hS hlv hq
set_option maxHeartbeats 4000000 in
set_option maxRecDepth 100000 in
theorem l_mstreet4 {p : Program} {l : Launch} {e : Env} {R : Room} {s : State} {m : MethodId} {args : Array Value} {below : List Frame} {meth : Method} {c : Code} {Q : State → Prop} {cells slots : Nat} {D : va_G} {cy : Nat → ClassId} {sa : Nat → Nat} {A : Nat → Prop} {mo : Nat} {ma : Nat → Nat} {f_6 : Nat → Int32} {f_7 : Nat → Int32} {gS : Nat → Int32} (hx : p.tables.exec = Jvm.exec) (hb : c.code = cX12_street) (hts : ∀ w ∈ vs_m_street0, w.before args s = true) (hown : s.vm.findClass RX12 = some m.cls) (hG : GC D cy sa s)
    (kk : ∀ (fm0 : Nat → Int32) (H : Heap) (locs : List Loc) (ls : Array Slot), va_P D vwCl [((ma 10), .inl (cy 0, 68, .inl f_7)), ((ma 11), .inl (cy 0, 68, .inl gS)), ((ma 12), .inl (cy 0, 389, .inl fm0)), ((ma 13), .inl (cy 0, 389, .inl f_6)), (mo, .inr (12, [.int 0, .ref (ma 1), .int 0, .int 0, .int 0, .int (-1), .int 0, .int 0, .int (-1), .ref (ma 9), .ref (ma 10), .ref (ma 11), .ref (ma 12), .ref (ma 13), .ref (ma 14), .ref (ma 15), .int 0, .int 0, .int 0, .ref (ma 19), .ref (ma 20), .ref (ma 21), .int 0, .ref (ma 23), .ref (ma 24), .ref (ma 25), .ref (ma 26), .ref (ma 27), .ref (ma 28), .int 0, .int 0, .int 0, .int 0, .ref (ma 33), .int (-1), .ref (ma 35), .int 0, .int 0]))] H → va_D A [((ma 10), .inl (cy 0, 68, .inl f_7)), ((ma 11), .inl (cy 0, 68, .inl gS)), ((ma 12), .inl (cy 0, 389, .inl fm0)), ((ma 13), .inl (cy 0, 389, .inl f_6)), (mo, .inr (12, [.int 0, .ref (ma 1), .int 0, .int 0, .int 0, .int (-1), .int 0, .int 0, .int (-1), .ref (ma 9), .ref (ma 10), .ref (ma 11), .ref (ma 12), .ref (ma 13), .ref (ma 14), .ref (ma 15), .int 0, .int 0, .int 0, .ref (ma 19), .ref (ma 20), .ref (ma 21), .int 0, .ref (ma 23), .ref (ma 24), .ref (ma 25), .ref (ma 26), .ref (ma 27), .ref (ma 28), .int 0, .int 0, .int 0, .int 0, .ref (ma 33), .int (-1), .ref (ma 35), .int 0, .int 0]))] → va_S A s.heap H locs → lv_has ls 5 [(3, .int 389), (2, .int 0), (0, .ref mo), (1, .int 0)] → W p l e R s m args below meth c H locs cells slots Q (F0 m 437 ls [])) :
    ∀ (k i : Nat) (fm0 : Nat → Int32) (H : Heap) (locs : List Loc) (ls : Array Slot), i + k = 389 → 0 ≤ i → va_P D vwCl [((ma 10), .inl (cy 0, 68, .inl f_7)), ((ma 11), .inl (cy 0, 68, .inl gS)), ((ma 12), .inl (cy 0, 389, .inl fm0)), ((ma 13), .inl (cy 0, 389, .inl f_6)), (mo, .inr (12, [.int 0, .ref (ma 1), .int 0, .int 0, .int 0, .int (-1), .int 0, .int 0, .int (-1), .ref (ma 9), .ref (ma 10), .ref (ma 11), .ref (ma 12), .ref (ma 13), .ref (ma 14), .ref (ma 15), .int 0, .int 0, .int 0, .ref (ma 19), .ref (ma 20), .ref (ma 21), .int 0, .ref (ma 23), .ref (ma 24), .ref (ma 25), .ref (ma 26), .ref (ma 27), .ref (ma 28), .int 0, .int 0, .int 0, .int 0, .ref (ma 33), .int (-1), .ref (ma 35), .int 0, .int 0]))] H → va_D A [((ma 10), .inl (cy 0, 68, .inl f_7)), ((ma 11), .inl (cy 0, 68, .inl gS)), ((ma 12), .inl (cy 0, 389, .inl fm0)), ((ma 13), .inl (cy 0, 389, .inl f_6)), (mo, .inr (12, [.int 0, .ref (ma 1), .int 0, .int 0, .int 0, .int (-1), .int 0, .int 0, .int (-1), .ref (ma 9), .ref (ma 10), .ref (ma 11), .ref (ma 12), .ref (ma 13), .ref (ma 14), .ref (ma 15), .int 0, .int 0, .int 0, .ref (ma 19), .ref (ma 20), .ref (ma 21), .int 0, .ref (ma 23), .ref (ma 24), .ref (ma 25), .ref (ma 26), .ref (ma 27), .ref (ma 28), .int 0, .int 0, .int 0, .int 0, .ref (ma 33), .int (-1), .ref (ma 35), .int 0, .int 0]))] → va_S A s.heap H locs → lv_has ls 5 [(3, .int (nI i)), (2, .int 0), (0, .ref mo), (1, .int 0)] → W p l e R s m args below meth c H locs cells slots Q (F0 m 412 ls []) := by
  have lf29 := hts (.fieldLink RX12 29 "KerbSplashModel" "s" "[I") (List.mem_of_getElem? (i := 6) rfl)
  have hi12 : ∀ w ∈ wsX120, w ∈ vs_m_street0 := fun w h => List.mem_cons_of_mem _ (List.mem_append_right _ (List.mem_append_left _ h))
  have lf32 := hts (.fieldLink RX12 32 "KerbSplashModel" "newState" "[I") (List.mem_of_getElem? (i := 4) rfl)
  intro k
  induction k with
  | zero =>
    intro i fm0 H locs ls hi hlo hP hD hS hlv
    obtain rfl : i = 389 := by omega
    refine lv_iload_n hx hb dX12_street_412 rfl (lv_at hlv 0 rfl) ?_
    refine lv_sipush (v := 389) hx hb dX12_street_413 (by decide) ?_
    refine lv_icmp_ge (tgt := 437) hx hb dX12_street_416 (by decide) (fun _ => ?_) (fun c => absurd (nI_le (Nat.le_refl 389) (by decide)) c)
    exact kk fm0 H locs ls hP hD hS hlv
  | succ k ih =>
    intro i fm0 H locs ls hi hlo hP hD hS hlv
    have hin : i < 389 := by omega
    refine lv_iload_n hx hb dX12_street_412 rfl (lv_at hlv 0 rfl) ?_
    refine lv_sipush (v := 389) hx hb dX12_street_413 (by decide) ?_
    refine lv_icmp_ge (tgt := 437) hx hb dX12_street_416 (by decide) (fun c => absurd c (nI_ge hin (by decide))) (fun _ => ?_)
    refine lv_aload_n hx hb dX12_street_419 rfl (lv_at hlv 2 rfl) ?_
    refine va_get (D := D) (ci := 12) (v := .ref (ma 12)) (C := RX12) (T := TX12) (N := 38) hx hb hts hi12 hown hG.1 hP 4 rfl rfl 12 (by decide) lf29 (fun _ h9 => h9) rfl dX12_street_420 ?_
    refine lv_iload_n hx hb dX12_street_423 rfl (lv_at hlv 0 rfl) ?_
    refine lv_aload_n hx hb dX12_street_424 rfl (lv_at hlv 2 rfl) ?_
    refine va_get (D := D) (ci := 12) (v := .ref (ma 13)) (C := RX12) (T := TX12) (N := 38) hx hb hts hi12 hown hG.1 hP 4 rfl rfl 13 (by decide) lf32 (fun _ h9 => h9) rfl dX12_street_425 ?_
    refine lv_iload_n hx hb dX12_street_428 rfl (lv_at hlv 0 rfl) ?_
    refine va_iald hx hb hG.1 hP 3 0 rfl rfl (vp_in_nI (Nat.lt_of_lt_of_le hin (by decide)) (by decide)) dX12_street_429 ?_
    refine lv_topi (fun z_1 ez_1 => ?_)
    refine va_iast hx hb hG.1 hP hD hS 2 0 rfl rfl (vp_in_nI (Nat.lt_of_lt_of_le hin (by decide)) (by decide)) dX12_street_430 (fun H locs hP hD hS => ?_)
    have ⟨f_2, hP, hD⟩ : ∃ f_2 : Nat → Int32, va_P D vwCl [((ma 10), .inl (cy 0, 68, .inl f_7)), ((ma 11), .inl (cy 0, 68, .inl gS)), ((ma 12), .inl (cy 0, 389, .inl f_2)), ((ma 13), .inl (cy 0, 389, .inl f_6)), (mo, .inr (12, [.int 0, .ref (ma 1), .int 0, .int 0, .int 0, .int (-1), .int 0, .int 0, .int (-1), .ref (ma 9), .ref (ma 10), .ref (ma 11), .ref (ma 12), .ref (ma 13), .ref (ma 14), .ref (ma 15), .int 0, .int 0, .int 0, .ref (ma 19), .ref (ma 20), .ref (ma 21), .int 0, .ref (ma 23), .ref (ma 24), .ref (ma 25), .ref (ma 26), .ref (ma 27), .ref (ma 28), .int 0, .int 0, .int 0, .int 0, .ref (ma 33), .int (-1), .ref (ma 35), .int 0, .int 0]))] H ∧ va_D A [((ma 10), .inl (cy 0, 68, .inl f_7)), ((ma 11), .inl (cy 0, 68, .inl gS)), ((ma 12), .inl (cy 0, 389, .inl f_2)), ((ma 13), .inl (cy 0, 389, .inl f_6)), (mo, .inr (12, [.int 0, .ref (ma 1), .int 0, .int 0, .int 0, .int (-1), .int 0, .int 0, .int (-1), .ref (ma 9), .ref (ma 10), .ref (ma 11), .ref (ma 12), .ref (ma 13), .ref (ma 14), .ref (ma 15), .int 0, .int 0, .int 0, .ref (ma 19), .ref (ma 20), .ref (ma 21), .int 0, .ref (ma 23), .ref (ma 24), .ref (ma 25), .ref (ma 26), .ref (ma 27), .ref (ma 28), .int 0, .int 0, .int 0, .int 0, .ref (ma 33), .int (-1), .ref (ma 35), .int 0, .int 0]))] := ⟨_, hP, hD⟩
    refine lv_iinc (v := (nI (i + 1))) (lv' := [(3, .int (nI (i + 1))), (2, .int 0), (0, .ref mo), (1, .int 0)]) hx hb dX12_street_431 hlv (k := 0) rfl (nI_1 i) (by decide) rfl (fun ls hlv => ?_)
    refine lv_goto (tgt := 412) hx hb dX12_street_434 (by decide) ?_
    exact ih (i + 1) _ H locs ls (by omega) (by omega) hP hD hS hlv
set_option maxHeartbeats 4000000 in
set_option maxRecDepth 100000 in
theorem m_street0 (l : Launch) (hl : l.stackTraces = false) (D : va_G) (cy : Nat → ClassId) (sa : Nat → Nat) (mo : Nat) (ma : Nat → Nat) (f0 f1 f2 f3 : Nat → Int32) (sz : Nat) : Met l yX12_street vs_m_street0 ({ frames := 2, cells := 0, slots := 0, locals := 41 }) (va_Pc [.ref mo, .int 0] (pcW D cy sa sz [(mo, .inr (12, [.int 0, .ref (ma 1), .int 0, .int 0, .int 0, .int 0, .int 0, .int 0, .int (-1), .ref (ma 9), .ref (ma 10), .ref (ma 11), .ref (ma 12), .ref (ma 13), .ref (ma 14), .ref (ma 15), .int 0, .int 0, .int 0, .ref (ma 19), .ref (ma 20), .ref (ma 21), .int 0, .ref (ma 23), .ref (ma 24), .ref (ma 25), .ref (ma 26), .ref (ma 27), .ref (ma 28), .int 0, .int 0, .int 0, .int 0, .ref (ma 33), .int (-1), .ref (ma 35), .int 0, .int 0])), ((ma 10), .inl (cy 0, 68, .inl f0)), ((ma 11), .inl (cy 0, 68, .inl f1)), ((ma 12), .inl (cy 0, 389, .inl f2)), ((ma 13), .inl (cy 0, 389, .inl f3))])) (va_Qi (fun (r : Int32) (u : SU) => (r = 24)) (fun u t => atW D (va_A [(mo, .inr (12, [.int 0, .ref (ma 1), .int 0, .int 0, .int 0, .int 0, .int 0, .int 0, .int (-1), .ref (ma 9), .ref (ma 10), .ref (ma 11), .ref (ma 12), .ref (ma 13), .ref (ma 14), .ref (ma 15), .int 0, .int 0, .int 0, .ref (ma 19), .ref (ma 20), .ref (ma 21), .int 0, .ref (ma 23), .ref (ma 24), .ref (ma 25), .ref (ma 26), .ref (ma 27), .ref (ma 28), .int 0, .int 0, .int 0, .int 0, .ref (ma 33), .int (-1), .ref (ma 35), .int 0, .int 0])), ((ma 10), .inl (cy 0, 68, .inl f0)), ((ma 11), .inl (cy 0, 68, .inl f1)), ((ma 12), .inl (cy 0, 389, .inl f2)), ((ma 13), .inl (cy 0, 389, .inl f3))] sz) [(mo, .inr (12, [.int 0, .ref (ma 1), .int 0, .int 0, .int 0, .int (-1), .int 0, .int 0, .int (-1), .ref (ma 9), .ref (ma 10), .ref (ma 11), .ref (ma 12), .ref (ma 13), .ref (ma 14), .ref (ma 15), .int 0, .int 0, .int 0, .ref (ma 19), .ref (ma 20), .ref (ma 21), .int 0, .ref (ma 23), .ref (ma 24), .ref (ma 25), .ref (ma 26), .ref (ma 27), .ref (ma 28), .int 0, .int 0, .int 0, .int 0, .ref (ma 33), .int (-1), .ref (ma 35), .int 0, .int 0]))] t) (va_A [(mo, .inr (12, [.int 0, .ref (ma 1), .int 0, .int 0, .int 0, .int 0, .int 0, .int 0, .int (-1), .ref (ma 9), .ref (ma 10), .ref (ma 11), .ref (ma 12), .ref (ma 13), .ref (ma 14), .ref (ma 15), .int 0, .int 0, .int 0, .ref (ma 19), .ref (ma 20), .ref (ma 21), .int 0, .ref (ma 23), .ref (ma 24), .ref (ma 25), .ref (ma 26), .ref (ma 27), .ref (ma 28), .int 0, .int 0, .int 0, .int 0, .ref (ma 33), .int (-1), .ref (ma 35), .int 0, .int 0])), ((ma 10), .inl (cy 0, 68, .inl f0)), ((ma 11), .inl (cy 0, 68, .inl f1)), ((ma 12), .inl (cy 0, 389, .inl f2)), ((ma 13), .inl (cy 0, 389, .inl f3))] sz)) 0 0 (va_A [(mo, .inr (12, [.int 0, .ref (ma 1), .int 0, .int 0, .int 0, .int 0, .int 0, .int 0, .int (-1), .ref (ma 9), .ref (ma 10), .ref (ma 11), .ref (ma 12), .ref (ma 13), .ref (ma 14), .ref (ma 15), .int 0, .int 0, .int 0, .ref (ma 19), .ref (ma 20), .ref (ma 21), .int 0, .ref (ma 23), .ref (ma 24), .ref (ma 25), .ref (ma 26), .ref (ma 27), .ref (ma 28), .int 0, .int 0, .int 0, .int 0, .ref (ma 33), .int (-1), .ref (ma 35), .int 0, .int 0])), ((ma 10), .inl (cy 0, 68, .inl f0)), ((ma 11), .inl (cy 0, 68, .inl f1)), ((ma 12), .inl (cy 0, 389, .inl f2)), ((ma 13), .inl (cy 0, 389, .inl f3))] sz) := by
  refine Met.ofW (cc := cX12_street) (maxL := 5) (ret := (some .int)) (by decide) rfl ?_
  intro p e s m args below meth c s₁ B hml hv
  obtain ⟨rfl, hsz, hP, hG, hD0, hT⟩ := hv
  have hx := B.exec
  have hb := B.bytes
  have hr := B.returns
  have hts := atoms_spec (ws := vs_m_street0) B.pre
  have hown : s.vm.findClass RX12 = some m.cls := findClass_of_methodNamed B.named
  have hlocks := B.notSynchronized
  subst hsz
  have hD := hD0.self (sz := s.heap.size)
  generalize hAe : va_A [(mo, .inr (12, [.int 0, .ref (ma 1), .int 0, .int 0, .int 0, .int 0, .int 0, .int 0, .int (-1), .ref (ma 9), .ref (ma 10), .ref (ma 11), .ref (ma 12), .ref (ma 13), .ref (ma 14), .ref (ma 15), .int 0, .int 0, .int 0, .ref (ma 19), .ref (ma 20), .ref (ma 21), .int 0, .ref (ma 23), .ref (ma 24), .ref (ma 25), .ref (ma 26), .ref (ma 27), .ref (ma 28), .int 0, .int 0, .int 0, .int 0, .ref (ma 33), .int (-1), .ref (ma 35), .int 0, .int 0])), ((ma 10), .inl (cy 0, 68, .inl f0)), ((ma 11), .inl (cy 0, 68, .inl f1)), ((ma 12), .inl (cy 0, 389, .inl f2)), ((ma 13), .inl (cy 0, 389, .inl f3))] s.heap.size = A at hD hT ⊢
  have hA : ∀ q : Nat, s.heap.size ≤ q → A q := fun q h => by rw [← hAe]; exact Or.inr h
  have hS : va_S A s.heap s.heap [] := va_S.rf
  have hl0 := lv_entry ([.ref mo, .int 0]) (n := 5) (Nat.le_of_ble_eq_true rfl)
  rw [lg_entry_eq]
  generalize (lg_sl ([.ref mo, .int 0]) ++ List.replicate (5 - (lg_sl ([.ref mo, .int 0])).length) Slot.unset).toArray = ls at hl0 ⊢
  have hlv : lv_has ls 5 [(0, .ref mo), (1, .int 0)] := hl0
  have lf1 := hts (.fieldLink RX12 1 "KerbSplashModel" "thrown" "I") (List.mem_of_getElem? (i := 1) rfl)
  have hi12 : ∀ w ∈ wsX120, w ∈ vs_m_street0 := fun w h => List.mem_cons_of_mem _ (List.mem_append_right _ (List.mem_append_left _ h))
  have lf77 := hts (.fieldLink RX12 77 "KerbSplashModel" "taped" "I") (List.mem_of_getElem? (i := 2) rfl)
  have gg_1 : GoodIn vs_m_street0 (wsV RX12 175 RX12 yX12_may vs_c_may1) := goodIn_sub (fun w h => List.mem_cons_of_mem _ (List.mem_append_right _ (List.mem_append_right _ (List.mem_append_left _ h)))) (by decide +kernel)
  have gg_2 : GoodIn vs_m_street0 (wsV RX12 179 RX12 yX12_begins vs_m_begins) := goodIn_sub (fun w h => List.mem_cons_of_mem _ (List.mem_append_right _ (List.mem_append_right _ (List.mem_append_right _ (List.mem_append_left _ h))))) (by decide +kernel)
  have lf26 := hts (.fieldLink RX12 26 "KerbSplashModel" "newStreet" "[I") (List.mem_of_getElem? (i := 3) rfl)
  have gg_3 : GoodIn vs_m_street0 (wsV RX12 109 RX12 yX12_fine vs_m_fine) := goodIn_sub (fun w h => List.mem_cons_of_mem _ (List.mem_append_right _ (List.mem_append_right _ (List.mem_append_right _ (List.mem_append_right _ (List.mem_append_left _ h)))))) (by decide +kernel)
  have gg_4 : GoodIn vs_m_street0 (wsV RX12 182 RX12 yX12_isMore vs_m_isMore) := goodIn_sub (fun w h => List.mem_cons_of_mem _ (List.mem_append_right _ (List.mem_append_right _ (List.mem_append_right _ (List.mem_append_right _ (List.mem_append_right _ (List.mem_append_left _ h))))))) (by decide +kernel)
  have lf32 := hts (.fieldLink RX12 32 "KerbSplashModel" "newState" "[I") (List.mem_of_getElem? (i := 4) rfl)
  have lf201 := hts (.fieldLink RX12 201 "KerbSplashModel" "images" "I") (List.mem_of_getElem? (i := 7) rfl)
  have lf23 := hts (.fieldLink RX12 23 "KerbSplashModel" "b" "[I") (List.mem_of_getElem? (i := 5) rfl)
  have gg_5 : GoodIn vs_m_street0 (wsV RX12 198 RX12 yX12_result vs_m_result) := goodIn_sub (fun w h => List.mem_cons_of_mem _ (List.mem_append_right _ (List.mem_append_right _ (List.mem_append_right _ (List.mem_append_right _ (List.mem_append_right _ (List.mem_append_right _ (List.mem_append_left _ h)))))))) (by decide +kernel)
  refine lv_aload_n hx hb dX12_street_0 rfl (lv_at hlv 0 rfl) ?_
  refine lv_iconst (v := 0) hx hb dX12_street_1 (by decide) ?_
  refine va_put (D := D) (ci := 12) (v := .int 0) (ty := .int) (C := RX12) (T := TX12) (N := 38) hx hb hts hi12 tyX12 tyX12_ok nmX12 hown hG.1 hP hD hS 0 rfl rfl 0 (by decide) lf1 (fun _ h9 => h9) rfl (by decide +kernel) rfl rfl (Nat.le_of_ble_eq_true rfl) dX12_street_2 (fun H locs hP hD hS => ?_)
  have hP : va_P D vwCl [(mo, .inr (12, [.int 0, .ref (ma 1), .int 0, .int 0, .int 0, .int 0, .int 0, .int 0, .int (-1), .ref (ma 9), .ref (ma 10), .ref (ma 11), .ref (ma 12), .ref (ma 13), .ref (ma 14), .ref (ma 15), .int 0, .int 0, .int 0, .ref (ma 19), .ref (ma 20), .ref (ma 21), .int 0, .ref (ma 23), .ref (ma 24), .ref (ma 25), .ref (ma 26), .ref (ma 27), .ref (ma 28), .int 0, .int 0, .int 0, .int 0, .ref (ma 33), .int (-1), .ref (ma 35), .int 0, .int 0])), ((ma 10), .inl (cy 0, 68, .inl f0)), ((ma 11), .inl (cy 0, 68, .inl f1)), ((ma 12), .inl (cy 0, 389, .inl f2)), ((ma 13), .inl (cy 0, 389, .inl f3))] H := hP
  have hD : va_D A [(mo, .inr (12, [.int 0, .ref (ma 1), .int 0, .int 0, .int 0, .int 0, .int 0, .int 0, .int (-1), .ref (ma 9), .ref (ma 10), .ref (ma 11), .ref (ma 12), .ref (ma 13), .ref (ma 14), .ref (ma 15), .int 0, .int 0, .int 0, .ref (ma 19), .ref (ma 20), .ref (ma 21), .int 0, .ref (ma 23), .ref (ma 24), .ref (ma 25), .ref (ma 26), .ref (ma 27), .ref (ma 28), .int 0, .int 0, .int 0, .int 0, .ref (ma 33), .int (-1), .ref (ma 35), .int 0, .int 0])), ((ma 10), .inl (cy 0, 68, .inl f0)), ((ma 11), .inl (cy 0, 68, .inl f1)), ((ma 12), .inl (cy 0, 389, .inl f2)), ((ma 13), .inl (cy 0, 389, .inl f3))] := hD
  refine lv_aload_n hx hb dX12_street_5 rfl (lv_at hlv 0 rfl) ?_
  refine lv_iload_n hx hb dX12_street_6 rfl (lv_at hlv 1 rfl) ?_
  refine lv_if_lt (tgt := 22) hx hb dX12_street_7 (by decide) (fun c => absurd c (by decide)) (fun _ => ?_)
  refine lv_iload_n hx hb dX12_street_10 rfl (lv_at hlv 1 rfl) ?_
  refine lv_aload_n hx hb dX12_street_11 rfl (lv_at hlv 0 rfl) ?_
  refine va_get (D := D) (ci := 12) (v := .int 0) (C := RX12) (T := TX12) (N := 38) hx hb hts hi12 hown hG.1 hP 0 rfl rfl 2 (by decide) lf77 (fun _ h9 => h9) rfl dX12_street_12 ?_
  refine lv_icmp_gt (tgt := 22) hx hb dX12_street_15 (by decide) (fun c => absurd c (by decide)) (fun _ => ?_)
  refine lv_iconst (v := 1) hx hb dX12_street_18 (by decide) ?_
  refine lv_goto (tgt := 23) hx hb dX12_street_19 (by decide) ?_
  refine lv_iconst (v := 1) hx hb dX12_street_23 (by decide) ?_
  refine lv_iconst (v := 2) hx hb dX12_street_24 (by decide) ?_
  refine cj_i (wr := [((ma 10), .inl (cy 0, 68, .inl f0)), ((ma 11), .inl (cy 0, 68, .inl f1)), ((ma 12), .inl (cy 0, 389, .inl f2)), ((ma 13), .inl (cy 0, 389, .inl f3))]) (va_runV (As := [.int 1, .int 1, .int 2]) (rest := []) ⟨hx, hb, hml, hown, hts⟩ (c_may1 l hl D cy sa mo ma 1 2 H.size) (cwV 3 hts gg_1 rfl rfl rfl (by decide +kernel) ⟨Nat.le_of_ble_eq_true rfl, Nat.le_of_ble_eq_true rfl⟩) ⟨pcW.blind, (va_recv hG.1 hP (ci := 12) (q0 := 0) rfl rfl), (pcW.mk hP hD hS hA hG hT [0] rfl (by decide))⟩ rfl rfl hlv.1 rfl (lv_room (Nat.le_of_ble_eq_true rfl)) dX12_street_25 ⟨Nat.le_of_ble_eq_true rfl, Nat.le_of_ble_eq_true rfl⟩) hP hD hS hA [0] [1, 2, 3, 4] rfl rfl (by decide) (by decide) (fun r1 u1 H locs hw1 hP hD hS => ?_)
  obtain rfl := hw1
  have hP : va_P D vwCl [((ma 10), .inl (cy 0, 68, .inl f0)), ((ma 11), .inl (cy 0, 68, .inl f1)), ((ma 12), .inl (cy 0, 389, .inl f2)), ((ma 13), .inl (cy 0, 389, .inl f3)), (mo, .inr (12, [.int 0, .ref (ma 1), .int 0, .int 0, .int 0, .int 0, .int 0, .int 0, .int (-1), .ref (ma 9), .ref (ma 10), .ref (ma 11), .ref (ma 12), .ref (ma 13), .ref (ma 14), .ref (ma 15), .int 0, .int 0, .int 0, .ref (ma 19), .ref (ma 20), .ref (ma 21), .int 0, .ref (ma 23), .ref (ma 24), .ref (ma 25), .ref (ma 26), .ref (ma 27), .ref (ma 28), .int 0, .int 0, .int 0, .int 0, .ref (ma 33), .int (-1), .ref (ma 35), .int 0, .int 0]))] H := hP
  have hD : va_D A [((ma 10), .inl (cy 0, 68, .inl f0)), ((ma 11), .inl (cy 0, 68, .inl f1)), ((ma 12), .inl (cy 0, 389, .inl f2)), ((ma 13), .inl (cy 0, 389, .inl f3)), (mo, .inr (12, [.int 0, .ref (ma 1), .int 0, .int 0, .int 0, .int 0, .int 0, .int 0, .int (-1), .ref (ma 9), .ref (ma 10), .ref (ma 11), .ref (ma 12), .ref (ma 13), .ref (ma 14), .ref (ma 15), .int 0, .int 0, .int 0, .ref (ma 19), .ref (ma 20), .ref (ma 21), .int 0, .ref (ma 23), .ref (ma 24), .ref (ma 25), .ref (ma 26), .ref (ma 27), .ref (ma 28), .int 0, .int 0, .int 0, .int 0, .ref (ma 33), .int (-1), .ref (ma 35), .int 0, .int 0]))] := hD
  refine lv_if_ne (tgt := 33) hx hb dX12_street_28 (by decide) (fun _ => ?_) (fun c => absurd c (by decide))
  refine lv_aload_n hx hb dX12_street_33 rfl (lv_at hlv 0 rfl) ?_
  refine lv_iload_n hx hb dX12_street_34 rfl (lv_at hlv 1 rfl) ?_
  refine cj_v (wr := [((ma 10), .inl (cy 0, 68, .inl f0)), ((ma 11), .inl (cy 0, 68, .inl f1)), ((ma 12), .inl (cy 0, 389, .inl f2)), ((ma 13), .inl (cy 0, 389, .inl f3))]) (va_runV (As := [.int 0]) (rest := []) ⟨hx, hb, hml, hown, hts⟩ (m_begins l hl D cy sa mo ma H.size) (cwV 1 hts gg_2 rfl rfl rfl (by decide +kernel) ⟨Nat.le_of_ble_eq_true rfl, Nat.le_of_ble_eq_true rfl⟩) ⟨pcW.blind, (va_recv hG.1 hP (ci := 12) (q0 := 4) rfl rfl), (pcW.mk hP hD hS hA hG hT [4] rfl (by decide))⟩ rfl rfl hlv.1 rfl (lv_room (Nat.le_of_ble_eq_true rfl)) dX12_street_35 ⟨Nat.le_of_ble_eq_true rfl, Nat.le_of_ble_eq_true rfl⟩) hP hD hS hA [4] [0, 1, 2, 3] rfl rfl (by decide) (by decide) (fun u2 H locs hw2 hP hD hS => ?_)
  have hP : va_P D vwCl [((ma 10), .inl (cy 0, 68, .inl f0)), ((ma 11), .inl (cy 0, 68, .inl f1)), ((ma 12), .inl (cy 0, 389, .inl f2)), ((ma 13), .inl (cy 0, 389, .inl f3)), (mo, .inr (12, [.int 0, .ref (ma 1), .int 0, .int 0, .int 0, .int (-1), .int 0, .int 0, .int (-1), .ref (ma 9), .ref (ma 10), .ref (ma 11), .ref (ma 12), .ref (ma 13), .ref (ma 14), .ref (ma 15), .int 0, .int 0, .int 0, .ref (ma 19), .ref (ma 20), .ref (ma 21), .int 0, .ref (ma 23), .ref (ma 24), .ref (ma 25), .ref (ma 26), .ref (ma 27), .ref (ma 28), .int 0, .int 0, .int 0, .int 0, .ref (ma 33), .int (-1), .ref (ma 35), .int 0, .int 0]))] H := hP
  have hD : va_D A [((ma 10), .inl (cy 0, 68, .inl f0)), ((ma 11), .inl (cy 0, 68, .inl f1)), ((ma 12), .inl (cy 0, 389, .inl f2)), ((ma 13), .inl (cy 0, 389, .inl f3)), (mo, .inr (12, [.int 0, .ref (ma 1), .int 0, .int 0, .int 0, .int (-1), .int 0, .int 0, .int (-1), .ref (ma 9), .ref (ma 10), .ref (ma 11), .ref (ma 12), .ref (ma 13), .ref (ma 14), .ref (ma 15), .int 0, .int 0, .int 0, .ref (ma 19), .ref (ma 20), .ref (ma 21), .int 0, .ref (ma 23), .ref (ma 24), .ref (ma 25), .ref (ma 26), .ref (ma 27), .ref (ma 28), .int 0, .int 0, .int 0, .int 0, .ref (ma 33), .int (-1), .ref (ma 35), .int 0, .int 0]))] := hD
  refine lv_iconst (v := 0) hx hb dX12_street_38 (by decide) ?_
  refine lv_istore_n (lv' := [(2, .int 0), (0, .ref mo), (1, .int 0)]) hx hb dX12_street_39 rfl hlv (by decide) rfl (fun ls hlv => ?_)
  refine l_mstreet1 hx hb hts hown hG (fun f_1 H locs ls hP hD hS hlv => ?_) 68 0 _ _ _ _ rfl (by decide) hP hD hS (lv_sub hlv [0, 1, 2] rfl)
  refine lv_iconst (v := 0) hx hb dX12_street_59 (by decide) ?_
  refine lv_istore_n (lv' := [(2, .int 0), (0, .ref mo), (1, .int 0)]) hx hb dX12_street_60 rfl hlv (by decide) rfl (fun ls hlv => ?_)
  refine l_mstreet2 hx hb hts hown hG (fun f_2 H locs ls hP hD hS hlv => ?_) 389 0 _ _ _ _ rfl (by decide) hP hD hS (lv_sub hlv [0, 1, 2] rfl)
  refine lv_aload_n hx hb dX12_street_110 rfl (lv_at hlv 1 rfl) ?_
  refine va_get (D := D) (ci := 12) (v := .ref (ma 11)) (C := RX12) (T := TX12) (N := 38) hx hb hts hi12 hown hG.1 hP 4 rfl rfl 11 (by decide) lf26 (fun _ h9 => h9) rfl dX12_street_111 ?_
  refine lv_iconst (v := 0) hx hb dX12_street_114 (by decide) ?_
  refine lv_bipush (v := 8) hx hb dX12_street_115 (by decide) ?_
  refine va_iast hx hb hG.1 hP hD hS 1 0 rfl rfl (vpd (by decide)) dX12_street_117 (fun H locs hP hD hS => ?_)
  have hP : va_P D vwCl [((ma 10), .inl (cy 0, 68, .inl f0)), ((ma 11), .inl (cy 0, 68, .inl (upd f_1 0 8))), ((ma 12), .inl (cy 0, 389, .inl f2)), ((ma 13), .inl (cy 0, 389, .inl f_2)), (mo, .inr (12, [.int 0, .ref (ma 1), .int 0, .int 0, .int 0, .int (-1), .int 0, .int 0, .int (-1), .ref (ma 9), .ref (ma 10), .ref (ma 11), .ref (ma 12), .ref (ma 13), .ref (ma 14), .ref (ma 15), .int 0, .int 0, .int 0, .ref (ma 19), .ref (ma 20), .ref (ma 21), .int 0, .ref (ma 23), .ref (ma 24), .ref (ma 25), .ref (ma 26), .ref (ma 27), .ref (ma 28), .int 0, .int 0, .int 0, .int 0, .ref (ma 33), .int (-1), .ref (ma 35), .int 0, .int 0]))] H := hP
  have hD : va_D A [((ma 10), .inl (cy 0, 68, .inl f0)), ((ma 11), .inl (cy 0, 68, .inl (upd f_1 0 8))), ((ma 12), .inl (cy 0, 389, .inl f2)), ((ma 13), .inl (cy 0, 389, .inl f_2)), (mo, .inr (12, [.int 0, .ref (ma 1), .int 0, .int 0, .int 0, .int (-1), .int 0, .int 0, .int (-1), .ref (ma 9), .ref (ma 10), .ref (ma 11), .ref (ma 12), .ref (ma 13), .ref (ma 14), .ref (ma 15), .int 0, .int 0, .int 0, .ref (ma 19), .ref (ma 20), .ref (ma 21), .int 0, .ref (ma 23), .ref (ma 24), .ref (ma 25), .ref (ma 26), .ref (ma 27), .ref (ma 28), .int 0, .int 0, .int 0, .int 0, .ref (ma 33), .int (-1), .ref (ma 35), .int 0, .int 0]))] := hD
  refine lv_aload_n hx hb dX12_street_118 rfl (lv_at hlv 1 rfl) ?_
  refine va_get (D := D) (ci := 12) (v := .ref (ma 11)) (C := RX12) (T := TX12) (N := 38) hx hb hts hi12 hown hG.1 hP 4 rfl rfl 11 (by decide) lf26 (fun _ h9 => h9) rfl dX12_street_119 ?_
  refine lv_iconst (v := 1) hx hb dX12_street_122 (by decide) ?_
  refine lv_iconst (v := 3) hx hb dX12_street_123 (by decide) ?_
  refine va_iast hx hb hG.1 hP hD hS 1 0 rfl rfl (vpd (by decide)) dX12_street_124 (fun H locs hP hD hS => ?_)
  have hP : va_P D vwCl [((ma 10), .inl (cy 0, 68, .inl f0)), ((ma 11), .inl (cy 0, 68, .inl (upd (upd f_1 0 8) 1 3))), ((ma 12), .inl (cy 0, 389, .inl f2)), ((ma 13), .inl (cy 0, 389, .inl f_2)), (mo, .inr (12, [.int 0, .ref (ma 1), .int 0, .int 0, .int 0, .int (-1), .int 0, .int 0, .int (-1), .ref (ma 9), .ref (ma 10), .ref (ma 11), .ref (ma 12), .ref (ma 13), .ref (ma 14), .ref (ma 15), .int 0, .int 0, .int 0, .ref (ma 19), .ref (ma 20), .ref (ma 21), .int 0, .ref (ma 23), .ref (ma 24), .ref (ma 25), .ref (ma 26), .ref (ma 27), .ref (ma 28), .int 0, .int 0, .int 0, .int 0, .ref (ma 33), .int (-1), .ref (ma 35), .int 0, .int 0]))] H := hP
  have hD : va_D A [((ma 10), .inl (cy 0, 68, .inl f0)), ((ma 11), .inl (cy 0, 68, .inl (upd (upd f_1 0 8) 1 3))), ((ma 12), .inl (cy 0, 389, .inl f2)), ((ma 13), .inl (cy 0, 389, .inl f_2)), (mo, .inr (12, [.int 0, .ref (ma 1), .int 0, .int 0, .int 0, .int (-1), .int 0, .int 0, .int (-1), .ref (ma 9), .ref (ma 10), .ref (ma 11), .ref (ma 12), .ref (ma 13), .ref (ma 14), .ref (ma 15), .int 0, .int 0, .int 0, .ref (ma 19), .ref (ma 20), .ref (ma 21), .int 0, .ref (ma 23), .ref (ma 24), .ref (ma 25), .ref (ma 26), .ref (ma 27), .ref (ma 28), .int 0, .int 0, .int 0, .int 0, .ref (ma 33), .int (-1), .ref (ma 35), .int 0, .int 0]))] := hD
  refine lv_iconst (v := 0) hx hb dX12_street_125 (by decide) ?_
  refine lv_istore_n (lv' := [(2, .int 0), (0, .ref mo), (1, .int 0)]) hx hb dX12_street_126 rfl hlv (by decide) rfl (fun ls hlv => ?_)
  refine lv_aload_n hx hb dX12_street_127 rfl (lv_at hlv 1 rfl) ?_
  refine cj_i (wr := [((ma 10), .inl (cy 0, 68, .inl f0)), ((ma 11), .inl (cy 0, 68, .inl (upd (upd f_1 0 8) 1 3))), ((ma 12), .inl (cy 0, 389, .inl f2)), ((ma 13), .inl (cy 0, 389, .inl f_2))]) (va_runV (As := []) (rest := []) ⟨hx, hb, hml, hown, hts⟩ (m_fine l hl D cy sa mo ma H.size) (cwV 0 hts gg_3 rfl rfl rfl (by decide +kernel) ⟨Nat.le_of_ble_eq_true rfl, Nat.le_of_ble_eq_true rfl⟩) ⟨pcW.blind, (va_recv hG.1 hP (ci := 12) (q0 := 4) rfl rfl), (pcW.mk hP hD hS hA hG hT [4] rfl (by decide))⟩ rfl rfl hlv.1 rfl (lv_room (Nat.le_of_ble_eq_true rfl)) dX12_street_128 ⟨Nat.le_of_ble_eq_true rfl, Nat.le_of_ble_eq_true rfl⟩) hP hD hS hA [4] [0, 1, 2, 3] rfl rfl (by decide) (by decide) (fun r3 u3 H locs hw3 hP hD hS => ?_)
  obtain rfl := hw3
  have hP : va_P D vwCl [((ma 10), .inl (cy 0, 68, .inl f0)), ((ma 11), .inl (cy 0, 68, .inl (upd (upd f_1 0 8) 1 3))), ((ma 12), .inl (cy 0, 389, .inl f2)), ((ma 13), .inl (cy 0, 389, .inl f_2)), (mo, .inr (12, [.int 0, .ref (ma 1), .int 0, .int 0, .int 0, .int (-1), .int 0, .int 0, .int (-1), .ref (ma 9), .ref (ma 10), .ref (ma 11), .ref (ma 12), .ref (ma 13), .ref (ma 14), .ref (ma 15), .int 0, .int 0, .int 0, .ref (ma 19), .ref (ma 20), .ref (ma 21), .int 0, .ref (ma 23), .ref (ma 24), .ref (ma 25), .ref (ma 26), .ref (ma 27), .ref (ma 28), .int 0, .int 0, .int 0, .int 0, .ref (ma 33), .int (-1), .ref (ma 35), .int 0, .int 0]))] H := hP
  have hD : va_D A [((ma 10), .inl (cy 0, 68, .inl f0)), ((ma 11), .inl (cy 0, 68, .inl (upd (upd f_1 0 8) 1 3))), ((ma 12), .inl (cy 0, 389, .inl f2)), ((ma 13), .inl (cy 0, 389, .inl f_2)), (mo, .inr (12, [.int 0, .ref (ma 1), .int 0, .int 0, .int 0, .int (-1), .int 0, .int 0, .int (-1), .ref (ma 9), .ref (ma 10), .ref (ma 11), .ref (ma 12), .ref (ma 13), .ref (ma 14), .ref (ma 15), .int 0, .int 0, .int 0, .ref (ma 19), .ref (ma 20), .ref (ma 21), .int 0, .ref (ma 23), .ref (ma 24), .ref (ma 25), .ref (ma 26), .ref (ma 27), .ref (ma 28), .int 0, .int 0, .int 0, .int 0, .ref (ma 33), .int (-1), .ref (ma 35), .int 0, .int 0]))] := hD
  refine lv_if_eq (tgt := 357) hx hb dX12_street_131 (by decide) (fun c => absurd c (by decide)) (fun _ => ?_)
  refine lv_aload_n hx hb dX12_street_134 rfl (lv_at hlv 1 rfl) ?_
  refine cj_i (wr := [((ma 10), .inl (cy 0, 68, .inl f0)), ((ma 11), .inl (cy 0, 68, .inl (upd (upd f_1 0 8) 1 3))), ((ma 12), .inl (cy 0, 389, .inl f2)), ((ma 13), .inl (cy 0, 389, .inl f_2))]) (va_runV (As := []) (rest := []) ⟨hx, hb, hml, hown, hts⟩ (m_isMore l hl D cy sa mo ma H.size) (cwV 0 hts gg_4 rfl rfl rfl (by decide +kernel) ⟨Nat.le_of_ble_eq_true rfl, Nat.le_of_ble_eq_true rfl⟩) ⟨pcW.blind, (va_recv hG.1 hP (ci := 12) (q0 := 4) rfl rfl), (pcW.mk hP hD hS hA hG hT [4] rfl (by decide))⟩ rfl rfl hlv.1 rfl (lv_room (Nat.le_of_ble_eq_true rfl)) dX12_street_135 ⟨Nat.le_of_ble_eq_true rfl, Nat.le_of_ble_eq_true rfl⟩) hP hD hS hA [4] [0, 1, 2, 3] rfl rfl (by decide) (by decide) (fun r4 u4 H locs hw4 hP hD hS => ?_)
  obtain rfl := hw4
  have hP : va_P D vwCl [((ma 10), .inl (cy 0, 68, .inl f0)), ((ma 11), .inl (cy 0, 68, .inl (upd (upd f_1 0 8) 1 3))), ((ma 12), .inl (cy 0, 389, .inl f2)), ((ma 13), .inl (cy 0, 389, .inl f_2)), (mo, .inr (12, [.int 0, .ref (ma 1), .int 0, .int 0, .int 0, .int (-1), .int 0, .int 0, .int (-1), .ref (ma 9), .ref (ma 10), .ref (ma 11), .ref (ma 12), .ref (ma 13), .ref (ma 14), .ref (ma 15), .int 0, .int 0, .int 0, .ref (ma 19), .ref (ma 20), .ref (ma 21), .int 0, .ref (ma 23), .ref (ma 24), .ref (ma 25), .ref (ma 26), .ref (ma 27), .ref (ma 28), .int 0, .int 0, .int 0, .int 0, .ref (ma 33), .int (-1), .ref (ma 35), .int 0, .int 0]))] H := hP
  have hD : va_D A [((ma 10), .inl (cy 0, 68, .inl f0)), ((ma 11), .inl (cy 0, 68, .inl (upd (upd f_1 0 8) 1 3))), ((ma 12), .inl (cy 0, 389, .inl f2)), ((ma 13), .inl (cy 0, 389, .inl f_2)), (mo, .inr (12, [.int 0, .ref (ma 1), .int 0, .int 0, .int 0, .int (-1), .int 0, .int 0, .int (-1), .ref (ma 9), .ref (ma 10), .ref (ma 11), .ref (ma 12), .ref (ma 13), .ref (ma 14), .ref (ma 15), .int 0, .int 0, .int 0, .ref (ma 19), .ref (ma 20), .ref (ma 21), .int 0, .ref (ma 23), .ref (ma 24), .ref (ma 25), .ref (ma 26), .ref (ma 27), .ref (ma 28), .int 0, .int 0, .int 0, .int 0, .ref (ma 33), .int (-1), .ref (ma 35), .int 0, .int 0]))] := hD
  refine lv_if_eq (tgt := 357) hx hb dX12_street_138 (by decide) (fun _ => ?_) (fun c => absurd (by decide) c)
  refine lv_aload_n hx hb dX12_street_357 rfl (lv_at hlv 1 rfl) ?_
  refine cj_i (wr := [((ma 10), .inl (cy 0, 68, .inl f0)), ((ma 11), .inl (cy 0, 68, .inl (upd (upd f_1 0 8) 1 3))), ((ma 12), .inl (cy 0, 389, .inl f2)), ((ma 13), .inl (cy 0, 389, .inl f_2))]) (va_runV (As := []) (rest := []) ⟨hx, hb, hml, hown, hts⟩ (m_fine l hl D cy sa mo ma H.size) (cwV 0 hts gg_3 rfl rfl rfl (by decide +kernel) ⟨Nat.le_of_ble_eq_true rfl, Nat.le_of_ble_eq_true rfl⟩) ⟨pcW.blind, (va_recv hG.1 hP (ci := 12) (q0 := 4) rfl rfl), (pcW.mk hP hD hS hA hG hT [4] rfl (by decide))⟩ rfl rfl hlv.1 rfl (lv_room (Nat.le_of_ble_eq_true rfl)) dX12_street_358 ⟨Nat.le_of_ble_eq_true rfl, Nat.le_of_ble_eq_true rfl⟩) hP hD hS hA [4] [0, 1, 2, 3] rfl rfl (by decide) (by decide) (fun r5 u5 H locs hw5 hP hD hS => ?_)
  obtain rfl := hw5
  have hP : va_P D vwCl [((ma 10), .inl (cy 0, 68, .inl f0)), ((ma 11), .inl (cy 0, 68, .inl (upd (upd f_1 0 8) 1 3))), ((ma 12), .inl (cy 0, 389, .inl f2)), ((ma 13), .inl (cy 0, 389, .inl f_2)), (mo, .inr (12, [.int 0, .ref (ma 1), .int 0, .int 0, .int 0, .int (-1), .int 0, .int 0, .int (-1), .ref (ma 9), .ref (ma 10), .ref (ma 11), .ref (ma 12), .ref (ma 13), .ref (ma 14), .ref (ma 15), .int 0, .int 0, .int 0, .ref (ma 19), .ref (ma 20), .ref (ma 21), .int 0, .ref (ma 23), .ref (ma 24), .ref (ma 25), .ref (ma 26), .ref (ma 27), .ref (ma 28), .int 0, .int 0, .int 0, .int 0, .ref (ma 33), .int (-1), .ref (ma 35), .int 0, .int 0]))] H := hP
  have hD : va_D A [((ma 10), .inl (cy 0, 68, .inl f0)), ((ma 11), .inl (cy 0, 68, .inl (upd (upd f_1 0 8) 1 3))), ((ma 12), .inl (cy 0, 389, .inl f2)), ((ma 13), .inl (cy 0, 389, .inl f_2)), (mo, .inr (12, [.int 0, .ref (ma 1), .int 0, .int 0, .int 0, .int (-1), .int 0, .int 0, .int (-1), .ref (ma 9), .ref (ma 10), .ref (ma 11), .ref (ma 12), .ref (ma 13), .ref (ma 14), .ref (ma 15), .int 0, .int 0, .int 0, .ref (ma 19), .ref (ma 20), .ref (ma 21), .int 0, .ref (ma 23), .ref (ma 24), .ref (ma 25), .ref (ma 26), .ref (ma 27), .ref (ma 28), .int 0, .int 0, .int 0, .int 0, .ref (ma 33), .int (-1), .ref (ma 35), .int 0, .int 0]))] := hD
  refine lv_if_ne (tgt := 370) hx hb dX12_street_361 (by decide) (fun _ => ?_) (fun c => absurd c (by decide))
  refine lv_aload_n hx hb dX12_street_370 rfl (lv_at hlv 1 rfl) ?_
  refine va_get (D := D) (ci := 12) (v := .ref (ma 13)) (C := RX12) (T := TX12) (N := 38) hx hb hts hi12 hown hG.1 hP 4 rfl rfl 13 (by decide) lf32 (fun _ h9 => h9) rfl dX12_street_371 ?_
  refine lv_sipush (v := 215) hx hb dX12_street_374 (by decide) ?_
  refine lv_aload_n hx hb dX12_street_377 rfl (lv_at hlv 1 rfl) ?_
  refine va_get (D := D) (ci := 12) (v := .ref (ma 11)) (C := RX12) (T := TX12) (N := 38) hx hb hts hi12 hown hG.1 hP 4 rfl rfl 11 (by decide) lf26 (fun _ h9 => h9) rfl dX12_street_378 ?_
  refine lv_iconst (v := 3) hx hb dX12_street_381 (by decide) ?_
  refine va_iald hx hb hG.1 hP 1 0 rfl rfl (vpd (by decide)) dX12_street_382 ?_
  refine lv_topi (fun z_5 ez_5 => ?_)
  refine va_iast hx hb hG.1 hP hD hS 3 0 rfl rfl (vpd (by decide)) dX12_street_383 (fun H locs hP hD hS => ?_)
  have ⟨f_6, hP, hD⟩ : ∃ f_6 : Nat → Int32, va_P D vwCl [((ma 10), .inl (cy 0, 68, .inl f0)), ((ma 11), .inl (cy 0, 68, .inl (upd (upd f_1 0 8) 1 3))), ((ma 12), .inl (cy 0, 389, .inl f2)), ((ma 13), .inl (cy 0, 389, .inl f_6)), (mo, .inr (12, [.int 0, .ref (ma 1), .int 0, .int 0, .int 0, .int (-1), .int 0, .int 0, .int (-1), .ref (ma 9), .ref (ma 10), .ref (ma 11), .ref (ma 12), .ref (ma 13), .ref (ma 14), .ref (ma 15), .int 0, .int 0, .int 0, .ref (ma 19), .ref (ma 20), .ref (ma 21), .int 0, .ref (ma 23), .ref (ma 24), .ref (ma 25), .ref (ma 26), .ref (ma 27), .ref (ma 28), .int 0, .int 0, .int 0, .int 0, .ref (ma 33), .int (-1), .ref (ma 35), .int 0, .int 0]))] H ∧ va_D A [((ma 10), .inl (cy 0, 68, .inl f0)), ((ma 11), .inl (cy 0, 68, .inl (upd (upd f_1 0 8) 1 3))), ((ma 12), .inl (cy 0, 389, .inl f2)), ((ma 13), .inl (cy 0, 389, .inl f_6)), (mo, .inr (12, [.int 0, .ref (ma 1), .int 0, .int 0, .int 0, .int (-1), .int 0, .int 0, .int (-1), .ref (ma 9), .ref (ma 10), .ref (ma 11), .ref (ma 12), .ref (ma 13), .ref (ma 14), .ref (ma 15), .int 0, .int 0, .int 0, .ref (ma 19), .ref (ma 20), .ref (ma 21), .int 0, .ref (ma 23), .ref (ma 24), .ref (ma 25), .ref (ma 26), .ref (ma 27), .ref (ma 28), .int 0, .int 0, .int 0, .int 0, .ref (ma 33), .int (-1), .ref (ma 35), .int 0, .int 0]))] := ⟨_, hP, hD⟩
  refine lv_iconst (v := 0) hx hb dX12_street_384 (by decide) ?_
  refine lv_istore_n (lv' := [(3, .int 0), (2, .int 0), (0, .ref mo), (1, .int 0)]) hx hb dX12_street_385 rfl hlv (by decide) rfl (fun ls hlv => ?_)
  have ⟨gS, hg0, hg1, hP, hD⟩ : ∃ gS : Nat → Int32, gS 0 = 8 ∧ gS 1 = 3 ∧ va_P D vwCl [((ma 10), .inl (cy 0, 68, .inl f0)), ((ma 11), .inl (cy 0, 68, .inl gS)), ((ma 12), .inl (cy 0, 389, .inl f2)), ((ma 13), .inl (cy 0, 389, .inl f_6)), (mo, .inr (12, [.int 0, .ref (ma 1), .int 0, .int 0, .int 0, .int (-1), .int 0, .int 0, .int (-1), .ref (ma 9), .ref (ma 10), .ref (ma 11), .ref (ma 12), .ref (ma 13), .ref (ma 14), .ref (ma 15), .int 0, .int 0, .int 0, .ref (ma 19), .ref (ma 20), .ref (ma 21), .int 0, .ref (ma 23), .ref (ma 24), .ref (ma 25), .ref (ma 26), .ref (ma 27), .ref (ma 28), .int 0, .int 0, .int 0, .int 0, .ref (ma 33), .int (-1), .ref (ma 35), .int 0, .int 0]))] H ∧ va_D A [((ma 10), .inl (cy 0, 68, .inl f0)), ((ma 11), .inl (cy 0, 68, .inl gS)), ((ma 12), .inl (cy 0, 389, .inl f2)), ((ma 13), .inl (cy 0, 389, .inl f_6)), (mo, .inr (12, [.int 0, .ref (ma 1), .int 0, .int 0, .int 0, .int (-1), .int 0, .int 0, .int (-1), .ref (ma 9), .ref (ma 10), .ref (ma 11), .ref (ma 12), .ref (ma 13), .ref (ma 14), .ref (ma 15), .int 0, .int 0, .int 0, .ref (ma 19), .ref (ma 20), .ref (ma 21), .int 0, .ref (ma 23), .ref (ma 24), .ref (ma 25), .ref (ma 26), .ref (ma 27), .ref (ma 28), .int 0, .int 0, .int 0, .int 0, .ref (ma 33), .int (-1), .ref (ma 35), .int 0, .int 0]))] := ⟨(upd (upd f_1 0 8) 1 3), rfl, rfl, hP, hD⟩
  refine l_mstreet3 hx hb hts hown hG (fun f_7 H locs ls hP hD hS hlv hqb => ?_) 68 0 _ _ _ _ rfl (by decide) hP hD hS (lv_sub hlv [0, 1, 2, 3] rfl) (fun j hj => absurd hj (Nat.not_lt_zero j))
  refine lv_iconst (v := 0) hx hb dX12_street_410 (by decide) ?_
  refine lv_istore_n (lv' := [(3, .int 0), (2, .int 0), (0, .ref mo), (1, .int 0)]) hx hb dX12_street_411 rfl hlv (by decide) rfl (fun ls hlv => ?_)
  refine l_mstreet4 hx hb hts hown hG (fun f_8 H locs ls hP hD hS hlv => ?_) 389 0 _ _ _ _ rfl (by decide) hP hD hS (lv_sub hlv [0, 1, 2, 3] rfl)
  refine lv_aload_n hx hb dX12_street_437 rfl (lv_at hlv 2 rfl) ?_
  refine lv_iconst (v := 0) hx hb dX12_street_438 (by decide) ?_
  refine va_put (D := D) (ci := 12) (v := .int 0) (ty := .int) (C := RX12) (T := TX12) (N := 38) hx hb hts hi12 tyX12 tyX12_ok nmX12 hown hG.1 hP hD hS 4 rfl rfl 16 (by decide) lf201 (fun _ h9 => h9) rfl (by decide +kernel) rfl rfl (Nat.le_of_ble_eq_true rfl) dX12_street_439 (fun H locs hP hD hS => ?_)
  have hP : va_P D vwCl [((ma 10), .inl (cy 0, 68, .inl f_7)), ((ma 11), .inl (cy 0, 68, .inl gS)), ((ma 12), .inl (cy 0, 389, .inl f_8)), ((ma 13), .inl (cy 0, 389, .inl f_6)), (mo, .inr (12, [.int 0, .ref (ma 1), .int 0, .int 0, .int 0, .int (-1), .int 0, .int 0, .int (-1), .ref (ma 9), .ref (ma 10), .ref (ma 11), .ref (ma 12), .ref (ma 13), .ref (ma 14), .ref (ma 15), .int 0, .int 0, .int 0, .ref (ma 19), .ref (ma 20), .ref (ma 21), .int 0, .ref (ma 23), .ref (ma 24), .ref (ma 25), .ref (ma 26), .ref (ma 27), .ref (ma 28), .int 0, .int 0, .int 0, .int 0, .ref (ma 33), .int (-1), .ref (ma 35), .int 0, .int 0]))] H := hP
  have hD : va_D A [((ma 10), .inl (cy 0, 68, .inl f_7)), ((ma 11), .inl (cy 0, 68, .inl gS)), ((ma 12), .inl (cy 0, 389, .inl f_8)), ((ma 13), .inl (cy 0, 389, .inl f_6)), (mo, .inr (12, [.int 0, .ref (ma 1), .int 0, .int 0, .int 0, .int (-1), .int 0, .int 0, .int (-1), .ref (ma 9), .ref (ma 10), .ref (ma 11), .ref (ma 12), .ref (ma 13), .ref (ma 14), .ref (ma 15), .int 0, .int 0, .int 0, .ref (ma 19), .ref (ma 20), .ref (ma 21), .int 0, .ref (ma 23), .ref (ma 24), .ref (ma 25), .ref (ma 26), .ref (ma 27), .ref (ma 28), .int 0, .int 0, .int 0, .int 0, .ref (ma 33), .int (-1), .ref (ma 35), .int 0, .int 0]))] := hD
  refine lv_aload_n hx hb dX12_street_442 rfl (lv_at hlv 2 rfl) ?_
  refine lv_aload_n hx hb dX12_street_443 rfl (lv_at hlv 2 rfl) ?_
  refine va_get (D := D) (ci := 12) (v := .ref (ma 10)) (C := RX12) (T := TX12) (N := 38) hx hb hts hi12 hown hG.1 hP 4 rfl rfl 10 (by decide) lf23 (fun _ h9 => h9) rfl dX12_street_444 ?_
  refine lv_iconst (v := 0) hx hb dX12_street_447 (by decide) ?_
  refine va_iald hx hb hG.1 hP 0 0 rfl rfl (vpd (by decide)) dX12_street_448 ?_
  refine lt_i (y := 8) (by first | exact (hqb 0 (by decide)).trans hg0 | exact (hqb 1 (by decide)).trans hg1) ?_
  refine lv_aload_n hx hb dX12_street_449 rfl (lv_at hlv 2 rfl) ?_
  refine va_get (D := D) (ci := 12) (v := .ref (ma 10)) (C := RX12) (T := TX12) (N := 38) hx hb hts hi12 hown hG.1 hP 4 rfl rfl 10 (by decide) lf23 (fun _ h9 => h9) rfl dX12_street_450 ?_
  refine lv_iconst (v := 1) hx hb dX12_street_453 (by decide) ?_
  refine va_iald hx hb hG.1 hP 0 0 rfl rfl (vpd (by decide)) dX12_street_454 ?_
  refine lt_i (y := 3) (by first | exact (hqb 0 (by decide)).trans hg0 | exact (hqb 1 (by decide)).trans hg1) ?_
  refine lv_imul hx hb dX12_street_455 ?_
  refine lt_i (y := 24) (by decide) ?_
  refine cj_i (wr := [((ma 10), .inl (cy 0, 68, .inl f_7)), ((ma 11), .inl (cy 0, 68, .inl gS)), ((ma 12), .inl (cy 0, 389, .inl f_8)), ((ma 13), .inl (cy 0, 389, .inl f_6))]) (va_runV (As := [.int 24]) (rest := []) ⟨hx, hb, hml, hown, hts⟩ (m_result l hl D cy sa mo ma 24 H.size) (cwV 1 hts gg_5 rfl rfl rfl (by decide +kernel) ⟨Nat.le_of_ble_eq_true rfl, Nat.le_of_ble_eq_true rfl⟩) ⟨pcW.blind, (va_recv hG.1 hP (ci := 12) (q0 := 4) rfl rfl), (pcW.mk hP hD hS hA hG hT [4] rfl (by decide))⟩ rfl rfl hlv.1 rfl (lv_room (Nat.le_of_ble_eq_true rfl)) dX12_street_456 ⟨Nat.le_of_ble_eq_true rfl, Nat.le_of_ble_eq_true rfl⟩) hP hD hS hA [4] [0, 1, 2, 3] rfl rfl (by decide) (by decide) (fun r6 u6 H locs hw6 hP hD hS => ?_)
  obtain rfl := hw6
  have hP : va_P D vwCl [((ma 10), .inl (cy 0, 68, .inl f_7)), ((ma 11), .inl (cy 0, 68, .inl gS)), ((ma 12), .inl (cy 0, 389, .inl f_8)), ((ma 13), .inl (cy 0, 389, .inl f_6)), (mo, .inr (12, [.int 0, .ref (ma 1), .int 0, .int 0, .int 0, .int (-1), .int 0, .int 0, .int (-1), .ref (ma 9), .ref (ma 10), .ref (ma 11), .ref (ma 12), .ref (ma 13), .ref (ma 14), .ref (ma 15), .int 0, .int 0, .int 0, .ref (ma 19), .ref (ma 20), .ref (ma 21), .int 0, .ref (ma 23), .ref (ma 24), .ref (ma 25), .ref (ma 26), .ref (ma 27), .ref (ma 28), .int 0, .int 0, .int 0, .int 0, .ref (ma 33), .int (-1), .ref (ma 35), .int 0, .int 0]))] H := hP
  have hD : va_D A [((ma 10), .inl (cy 0, 68, .inl f_7)), ((ma 11), .inl (cy 0, 68, .inl gS)), ((ma 12), .inl (cy 0, 389, .inl f_8)), ((ma 13), .inl (cy 0, 389, .inl f_6)), (mo, .inr (12, [.int 0, .ref (ma 1), .int 0, .int 0, .int 0, .int (-1), .int 0, .int 0, .int (-1), .ref (ma 9), .ref (ma 10), .ref (ma 11), .ref (ma 12), .ref (ma 13), .ref (ma 14), .ref (ma 15), .int 0, .int 0, .int 0, .ref (ma 19), .ref (ma 20), .ref (ma 21), .int 0, .ref (ma 23), .ref (ma 24), .ref (ma 25), .ref (ma 26), .ref (ma 27), .ref (ma 28), .int 0, .int 0, .int 0, .int 0, .ref (ma 33), .int (-1), .ref (ma 35), .int 0, .int 0]))] := hD
  refine W.widen (k := 0) (n := 0) (Nat.le_of_ble_eq_true rfl) (Nat.le_of_ble_eq_true rfl) ?_
  exact W.iret (v := 24) hx hb hr (fun t ht hW => ⟨⟨24, ((fun k => ([] : List Nat).getD k 0), (fun k => ([] : List Int32).getD k 0), (fun k => ([] : List (Nat → Int32)).getD k (fun _ => 0))), rfl, (by first | (exact (by rfl))), by rw [ht]; exact hP.sub [4] rfl, hD.sub [4] (by decide) rfl⟩, hS.F ht⟩) hS.2.2 dX12_street_459
