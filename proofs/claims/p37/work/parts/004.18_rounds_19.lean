section
theorem dX6_passMinute_0 : decode cX6_passMinute 0 = .ok (.aload_n 0, 1) := by decide +kernel
theorem dX6_passMinute_1 : decode cX6_passMinute 1 = .ok (.invokevirtual 80, 3) := by decide +kernel
theorem dX6_passMinute_12 : decode cX6_passMinute 12 = .ok (.aload_n 0, 1) := by decide +kernel
theorem dX6_passMinute_13 : decode cX6_passMinute 13 = .ok (.getfield 13, 3) := by decide +kernel
theorem dX6_passMinute_16 : decode cX6_passMinute 16 = .ok (.iload_n 3, 1) := by decide +kernel
theorem dX6_passMinute_17 : decode cX6_passMinute 17 = .ok (.dup2, 1) := by decide +kernel
theorem dX6_passMinute_18 : decode cX6_passMinute 18 = .ok (.iaload, 1) := by decide +kernel
theorem dX6_passMinute_19 : decode cX6_passMinute 19 = .ok (.iload_n 1, 1) := by decide +kernel
theorem dX6_passMinute_20 : decode cX6_passMinute 20 = .ok (.iadd, 1) := by decide +kernel
theorem dX6_passMinute_21 : decode cX6_passMinute 21 = .ok (.iastore, 1) := by decide +kernel
theorem dX6_passMinute_22 : decode cX6_passMinute 22 = .ok (.iinc 3 1, 3) := by decide +kernel
theorem dX6_passMinute_25 : decode cX6_passMinute 25 = .ok (.goto (-18), 3) := by decide +kernel
theorem dX6_passMinute_28 : decode cX6_passMinute 28 = .ok (.aload_n 0, 1) := by decide +kernel
theorem dX6_passMinute_29 : decode cX6_passMinute 29 = .ok (.dup, 1) := by decide +kernel
theorem dX6_passMinute_30 : decode cX6_passMinute 30 = .ok (.getfield 65, 3) := by decide +kernel
theorem dX6_passMinute_33 : decode cX6_passMinute 33 = .ok (.iload_n 1, 1) := by decide +kernel
theorem dX6_passMinute_34 : decode cX6_passMinute 34 = .ok (.iload_n 2, 1) := by decide +kernel
theorem dX6_passMinute_35 : decode cX6_passMinute 35 = .ok (.imul, 1) := by decide +kernel
theorem dX6_passMinute_36 : decode cX6_passMinute 36 = .ok (.iadd, 1) := by decide +kernel
theorem dX6_passMinute_37 : decode cX6_passMinute 37 = .ok (.putfield 65, 3) := by decide +kernel
theorem dX6_passMinute_4 : decode cX6_passMinute 4 = .ok (.istore_n 2, 1) := by decide +kernel
theorem dX6_passMinute_40 : decode cX6_passMinute 40 = .ok (.aload_n 0, 1) := by decide +kernel
theorem dX6_passMinute_41 : decode cX6_passMinute 41 = .ok (.bipush 8, 2) := by decide +kernel
theorem dX6_passMinute_43 : decode cX6_passMinute 43 = .ok (.invokevirtual 125, 3) := by decide +kernel
theorem dX6_passMinute_46 : decode cX6_passMinute 46 = .ok (.iconst 0, 1) := by decide +kernel
theorem dX6_passMinute_47 : decode cX6_passMinute 47 = .ok (.istore_n 3, 1) := by decide +kernel
theorem dX6_passMinute_48 : decode cX6_passMinute 48 = .ok (.iload_n 3, 1) := by decide +kernel
theorem dX6_passMinute_49 : decode cX6_passMinute 49 = .ok (.aload_n 0, 1) := by decide +kernel
theorem dX6_passMinute_5 : decode cX6_passMinute 5 = .ok (.iconst 0, 1) := by decide +kernel
theorem dX6_passMinute_50 : decode cX6_passMinute 50 = .ok (.getfield 41, 3) := by decide +kernel
theorem dX6_passMinute_53 : decode cX6_passMinute 53 = .ok (.if_icmp .ge 16, 3) := by decide +kernel
theorem dX6_passMinute_56 : decode cX6_passMinute 56 = .ok (.aload_n 0, 1) := by decide +kernel
theorem dX6_passMinute_57 : decode cX6_passMinute 57 = .ok (.iconst 4, 1) := by decide +kernel
theorem dX6_passMinute_58 : decode cX6_passMinute 58 = .ok (.iload_n 3, 1) := by decide +kernel
theorem dX6_passMinute_59 : decode cX6_passMinute 59 = .ok (.imul, 1) := by decide +kernel
theorem dX6_passMinute_6 : decode cX6_passMinute 6 = .ok (.istore_n 3, 1) := by decide +kernel
theorem dX6_passMinute_60 : decode cX6_passMinute 60 = .ok (.invokevirtual 128, 3) := by decide +kernel
theorem dX6_passMinute_63 : decode cX6_passMinute 63 = .ok (.iinc 3 1, 3) := by decide +kernel
theorem dX6_passMinute_66 : decode cX6_passMinute 66 = .ok (.goto (-18), 3) := by decide +kernel
theorem dX6_passMinute_69 : decode cX6_passMinute 69 = .ok (.aload_n 0, 1) := by decide +kernel
theorem dX6_passMinute_7 : decode cX6_passMinute 7 = .ok (.iload_n 3, 1) := by decide +kernel
theorem dX6_passMinute_70 : decode cX6_passMinute 70 = .ok (.dup, 1) := by decide +kernel
theorem dX6_passMinute_71 : decode cX6_passMinute 71 = .ok (.getfield 62, 3) := by decide +kernel
theorem dX6_passMinute_74 : decode cX6_passMinute 74 = .ok (.iconst 1, 1) := by decide +kernel
theorem dX6_passMinute_75 : decode cX6_passMinute 75 = .ok (.iadd, 1) := by decide +kernel
theorem dX6_passMinute_76 : decode cX6_passMinute 76 = .ok (.putfield 62, 3) := by decide +kernel
theorem dX6_passMinute_79 : decode cX6_passMinute 79 = .ok (.return_, 1) := by decide +kernel
theorem dX6_passMinute_8 : decode cX6_passMinute 8 = .ok (.iload_n 2, 1) := by decide +kernel
theorem dX6_passMinute_9 : decode cX6_passMinute 9 = .ok (.if_icmp .ge 19, 3) := by decide +kernel
theorem dX6_runRound_0 : decode cX6_runRound 0 = .ok (.iconst 0, 1) := by decide +kernel
theorem dX6_runRound_1 : decode cX6_runRound 1 = .ok (.istore_n 1, 1) := by decide +kernel
theorem dX6_runRound_11 : decode cX6_runRound 11 = .ok (.if_icmp .ge 52, 3) := by decide +kernel
theorem dX6_runRound_14 : decode cX6_runRound 14 = .ok (.iconst 0, 1) := by decide +kernel
theorem dX6_runRound_15 : decode cX6_runRound 15 = .ok (.istore 4, 2) := by decide +kernel
theorem dX6_runRound_17 : decode cX6_runRound 17 = .ok (.iload 4, 2) := by decide +kernel
theorem dX6_runRound_19 : decode cX6_runRound 19 = .ok (.aload_n 0, 1) := by decide +kernel
theorem dX6_runRound_2 : decode cX6_runRound 2 = .ok (.iconst 0, 1) := by decide +kernel
theorem dX6_runRound_20 : decode cX6_runRound 20 = .ok (.getfield 28, 3) := by decide +kernel
theorem dX6_runRound_23 : decode cX6_runRound 23 = .ok (.if_icmp .ge 34, 3) := by decide +kernel
theorem dX6_runRound_26 : decode cX6_runRound 26 = .ok (.aload_n 0, 1) := by decide +kernel
theorem dX6_runRound_27 : decode cX6_runRound 27 = .ok (.getfield 13, 3) := by decide +kernel
theorem dX6_runRound_3 : decode cX6_runRound 3 = .ok (.istore_n 2, 1) := by decide +kernel
theorem dX6_runRound_30 : decode cX6_runRound 30 = .ok (.iload_n 2, 1) := by decide +kernel
theorem dX6_runRound_31 : decode cX6_runRound 31 = .ok (.iaload, 1) := by decide +kernel
theorem dX6_runRound_32 : decode cX6_runRound 32 = .ok (.ifCond .le 16, 3) := by decide +kernel
theorem dX6_runRound_35 : decode cX6_runRound 35 = .ok (.aload_n 0, 1) := by decide +kernel
theorem dX6_runRound_36 : decode cX6_runRound 36 = .ok (.iload 4, 2) := by decide +kernel
theorem dX6_runRound_38 : decode cX6_runRound 38 = .ok (.iload_n 3, 1) := by decide +kernel
theorem dX6_runRound_39 : decode cX6_runRound 39 = .ok (.iload_n 2, 1) := by decide +kernel
theorem dX6_runRound_4 : decode cX6_runRound 4 = .ok (.iconst 0, 1) := by decide +kernel
theorem dX6_runRound_40 : decode cX6_runRound 40 = .ok (.invokevirtual 135, 3) := by decide +kernel
theorem dX6_runRound_43 : decode cX6_runRound 43 = .ok (.ifCond .eq 5, 3) := by decide +kernel
theorem dX6_runRound_46 : decode cX6_runRound 46 = .ok (.iconst 1, 1) := by decide +kernel
theorem dX6_runRound_47 : decode cX6_runRound 47 = .ok (.istore_n 1, 1) := by decide +kernel
theorem dX6_runRound_48 : decode cX6_runRound 48 = .ok (.iinc 2 1, 3) := by decide +kernel
theorem dX6_runRound_5 : decode cX6_runRound 5 = .ok (.istore_n 3, 1) := by decide +kernel
theorem dX6_runRound_51 : decode cX6_runRound 51 = .ok (.iinc 4 1, 3) := by decide +kernel
theorem dX6_runRound_54 : decode cX6_runRound 54 = .ok (.goto (-37), 3) := by decide +kernel
theorem dX6_runRound_57 : decode cX6_runRound 57 = .ok (.iinc 3 1, 3) := by decide +kernel
theorem dX6_runRound_6 : decode cX6_runRound 6 = .ok (.iload_n 3, 1) := by decide +kernel
theorem dX6_runRound_60 : decode cX6_runRound 60 = .ok (.goto (-54), 3) := by decide +kernel
theorem dX6_runRound_63 : decode cX6_runRound 63 = .ok (.iload_n 1, 1) := by decide +kernel
theorem dX6_runRound_64 : decode cX6_runRound 64 = .ok (.ireturn, 1) := by decide +kernel
theorem dX6_runRound_7 : decode cX6_runRound 7 = .ok (.aload_n 0, 1) := by decide +kernel
theorem dX6_runRound_8 : decode cX6_runRound 8 = .ok (.getfield 32, 3) := by decide +kernel
theorem dX6_runRounds_0 : decode cX6_runRounds 0 = .ok (.iconst 1, 1) := by decide +kernel
theorem dX6_runRounds_1 : decode cX6_runRounds 1 = .ok (.istore_n 2, 1) := by decide +kernel
theorem dX6_runRounds_10 : decode cX6_runRounds 10 = .ok (.ifCond .eq 14, 3) := by decide +kernel
theorem dX6_runRounds_13 : decode cX6_runRounds 13 = .ok (.aload_n 0, 1) := by decide +kernel
theorem dX6_runRounds_14 : decode cX6_runRounds 14 = .ok (.invokevirtual 131, 3) := by decide +kernel
theorem dX6_runRounds_17 : decode cX6_runRounds 17 = .ok (.istore_n 2, 1) := by decide +kernel
theorem dX6_runRounds_18 : decode cX6_runRounds 18 = .ok (.iinc 3 1, 3) := by decide +kernel
theorem dX6_runRounds_2 : decode cX6_runRounds 2 = .ok (.iconst 0, 1) := by decide +kernel
theorem dX6_runRounds_21 : decode cX6_runRounds 21 = .ok (.goto (-17), 3) := by decide +kernel
theorem dX6_runRounds_24 : decode cX6_runRounds 24 = .ok (.return_, 1) := by decide +kernel
theorem dX6_runRounds_3 : decode cX6_runRounds 3 = .ok (.istore_n 3, 1) := by decide +kernel
theorem dX6_runRounds_4 : decode cX6_runRounds 4 = .ok (.iload_n 3, 1) := by decide +kernel
theorem dX6_runRounds_5 : decode cX6_runRounds 5 = .ok (.iload_n 1, 1) := by decide +kernel
theorem dX6_runRounds_6 : decode cX6_runRounds 6 = .ok (.if_icmp .ge 18, 3) := by decide +kernel
theorem dX6_runRounds_9 : decode cX6_runRounds 9 = .ok (.iload_n 2, 1) := by decide +kernel
theorem dX6_takeByDrain_0 : decode cX6_takeByDrain 0 = .ok (.aload_n 0, 1) := by decide +kernel
theorem dX6_takeByDrain_1 : decode cX6_takeByDrain 1 = .ok (.aload_n 0, 1) := by decide +kernel
theorem dX6_takeByDrain_11 : decode cX6_takeByDrain 11 = .ok (.iload_n 1, 1) := by decide +kernel
theorem dX6_takeByDrain_12 : decode cX6_takeByDrain 12 = .ok (.iconst 1, 1) := by decide +kernel
theorem dX6_takeByDrain_13 : decode cX6_takeByDrain 13 = .ok (.iadd, 1) := by decide +kernel
theorem dX6_takeByDrain_14 : decode cX6_takeByDrain 14 = .ok (.iaload, 1) := by decide +kernel
theorem dX6_takeByDrain_15 : decode cX6_takeByDrain 15 = .ok (.invokevirtual 88, 3) := by decide +kernel
theorem dX6_takeByDrain_18 : decode cX6_takeByDrain 18 = .ok (.istore_n 2, 1) := by decide +kernel
theorem dX6_takeByDrain_19 : decode cX6_takeByDrain 19 = .ok (.aload_n 0, 1) := by decide +kernel
theorem dX6_takeByDrain_2 : decode cX6_takeByDrain 2 = .ok (.getfield 16, 3) := by decide +kernel
theorem dX6_takeByDrain_20 : decode cX6_takeByDrain 20 = .ok (.getfield 16, 3) := by decide +kernel
theorem dX6_takeByDrain_23 : decode cX6_takeByDrain 23 = .ok (.iload_n 1, 1) := by decide +kernel
theorem dX6_takeByDrain_24 : decode cX6_takeByDrain 24 = .ok (.iconst 2, 1) := by decide +kernel
theorem dX6_takeByDrain_25 : decode cX6_takeByDrain 25 = .ok (.iadd, 1) := by decide +kernel
theorem dX6_takeByDrain_26 : decode cX6_takeByDrain 26 = .ok (.iaload, 1) := by decide +kernel
theorem dX6_takeByDrain_27 : decode cX6_takeByDrain 27 = .ok (.bipush 16, 2) := by decide +kernel
theorem dX6_takeByDrain_29 : decode cX6_takeByDrain 29 = .ok (.aload_n 0, 1) := by decide +kernel
theorem dX6_takeByDrain_30 : decode cX6_takeByDrain 30 = .ok (.getfield 16, 3) := by decide +kernel
theorem dX6_takeByDrain_33 : decode cX6_takeByDrain 33 = .ok (.iload_n 1, 1) := by decide +kernel
theorem dX6_takeByDrain_34 : decode cX6_takeByDrain 34 = .ok (.iconst 3, 1) := by decide +kernel
theorem dX6_takeByDrain_35 : decode cX6_takeByDrain 35 = .ok (.iadd, 1) := by decide +kernel
theorem dX6_takeByDrain_36 : decode cX6_takeByDrain 36 = .ok (.iaload, 1) := by decide +kernel
theorem dX6_takeByDrain_37 : decode cX6_takeByDrain 37 = .ok (.isub, 1) := by decide +kernel
theorem dX6_takeByDrain_38 : decode cX6_takeByDrain 38 = .ok (.imul, 1) := by decide +kernel
theorem dX6_takeByDrain_39 : decode cX6_takeByDrain 39 = .ok (.bipush 16, 2) := by decide +kernel
theorem dX6_takeByDrain_41 : decode cX6_takeByDrain 41 = .ok (.idiv, 1) := by decide +kernel
theorem dX6_takeByDrain_42 : decode cX6_takeByDrain 42 = .ok (.istore_n 3, 1) := by decide +kernel
theorem dX6_takeByDrain_43 : decode cX6_takeByDrain 43 = .ok (.iload_n 3, 1) := by decide +kernel
theorem dX6_takeByDrain_44 : decode cX6_takeByDrain 44 = .ok (.aload_n 0, 1) := by decide +kernel
theorem dX6_takeByDrain_45 : decode cX6_takeByDrain 45 = .ok (.getfield 13, 3) := by decide +kernel
theorem dX6_takeByDrain_48 : decode cX6_takeByDrain 48 = .ok (.iload_n 2, 1) := by decide +kernel
theorem dX6_takeByDrain_49 : decode cX6_takeByDrain 49 = .ok (.iaload, 1) := by decide +kernel
theorem dX6_takeByDrain_5 : decode cX6_takeByDrain 5 = .ok (.iload_n 1, 1) := by decide +kernel
theorem dX6_takeByDrain_50 : decode cX6_takeByDrain 50 = .ok (.invokestatic 110, 3) := by decide +kernel
theorem dX6_takeByDrain_53 : decode cX6_takeByDrain 53 = .ok (.istore 4, 2) := by decide +kernel
theorem dX6_takeByDrain_55 : decode cX6_takeByDrain 55 = .ok (.aload_n 0, 1) := by decide +kernel
theorem dX6_takeByDrain_56 : decode cX6_takeByDrain 56 = .ok (.getfield 13, 3) := by decide +kernel
theorem dX6_takeByDrain_59 : decode cX6_takeByDrain 59 = .ok (.iload_n 2, 1) := by decide +kernel
theorem dX6_takeByDrain_6 : decode cX6_takeByDrain 6 = .ok (.iaload, 1) := by decide +kernel
theorem dX6_takeByDrain_60 : decode cX6_takeByDrain 60 = .ok (.dup2, 1) := by decide +kernel
theorem dX6_takeByDrain_61 : decode cX6_takeByDrain 61 = .ok (.iaload, 1) := by decide +kernel
theorem dX6_takeByDrain_62 : decode cX6_takeByDrain 62 = .ok (.iload 4, 2) := by decide +kernel
theorem dX6_takeByDrain_64 : decode cX6_takeByDrain 64 = .ok (.isub, 1) := by decide +kernel
theorem dX6_takeByDrain_65 : decode cX6_takeByDrain 65 = .ok (.iastore, 1) := by decide +kernel
theorem dX6_takeByDrain_66 : decode cX6_takeByDrain 66 = .ok (.aload_n 0, 1) := by decide +kernel
theorem dX6_takeByDrain_67 : decode cX6_takeByDrain 67 = .ok (.dup, 1) := by decide +kernel
theorem dX6_takeByDrain_68 : decode cX6_takeByDrain 68 = .ok (.getfield 68, 3) := by decide +kernel
theorem dX6_takeByDrain_7 : decode cX6_takeByDrain 7 = .ok (.aload_n 0, 1) := by decide +kernel
theorem dX6_takeByDrain_71 : decode cX6_takeByDrain 71 = .ok (.iload 4, 2) := by decide +kernel
theorem dX6_takeByDrain_73 : decode cX6_takeByDrain 73 = .ok (.iadd, 1) := by decide +kernel
theorem dX6_takeByDrain_74 : decode cX6_takeByDrain 74 = .ok (.putfield 68, 3) := by decide +kernel
theorem dX6_takeByDrain_77 : decode cX6_takeByDrain 77 = .ok (.return_, 1) := by decide +kernel
theorem dX6_takeByDrain_8 : decode cX6_takeByDrain 8 = .ok (.getfield 16, 3) := by decide +kernel
def vs_s_runRound : List Cond := .code yX6_runRound cX6_runRound 5 (some .boolean) :: (([.fieldLink RX6 32 "KerbSplash$Street" "rows" "I", .fieldLink RX6 28 "KerbSplash$Street" "wide" "I", .fieldLink RX6 13 "KerbSplash$Street" "water" "[I"] : List Cond) ++ ((wsX60) ++ ((wsV RX6 135 RX6 yX6_runFrom vs_s_runFrom) ++ ([]))))
theorem gd_s_runRound : vs_s_runRound.all goodWord = true := gd_C (by decide +kernel) (gd_A (by decide +kernel) (gd_A (by decide +kernel) (gd_A (gd_V gd_s_runFrom (by decide +kernel)) rfl)))
set_option maxHeartbeats 4000000 in
set_option maxRecDepth 100000 in
theorem s_runRound (l : Launch) (hl : l.stackTraces = false) (D : va_G) (cy : Nat → ClassId) (sa : Nat → Nat) (sA s2 s3 s6 s8 s11 s13 : Nat) (wi ro dr dt pe gu sh wo dn mi fl tk go : Int) (hf wf : Nat → Int32) (sz : Nat) (hr_wi : 0 ≤ wi ∧ wi ≤ 16) (hr_ro : 0 ≤ ro ∧ ro ≤ 6) (hr_dr : 0 ≤ dr ∧ dr ≤ 14) (hr_dt : 0 ≤ dt ∧ dt ≤ 6) (hr_pe : 0 ≤ pe ∧ pe ≤ 8) (hr_gu : 0 ≤ gu ∧ gu ≤ 20) (hr_sh : 0 ≤ sh ∧ sh ≤ 2) (hr_wo : 0 ≤ wo ∧ wo ≤ 8) (hr_dn : (-2147483648) ≤ dn ∧ dn ≤ 2147483647) (hr_mi : 0 ≤ mi ∧ mi ≤ 600) (hr_fl : (-2147483648) ≤ fl ∧ fl ≤ 2147483647) (hr_tk : (-2147483648) ≤ tk ∧ tk ≤ 2147483647) (hr_go : (-2147483648) ≤ go ∧ go ≤ 2147483647) (hhf : inv_ 96 0 99 hf) : mI9 l yX6_runRound vs_s_runRound ({ frames := 1, cells := 0, slots := 0, locals := 28 }) D cy sa sz [vR sA] [zO sA 6 [vI wi, vI ro, vR s2, vR s3, vI dr, vI dt, vR s6, vI pe, vR s8, vI gu, vI sh, vR s11, vI wo, vR s13, vI dn, vI mi, vI fl, vI tk, vI go], zI s2 (cy 0) 96 hf, zI s3 (cy 0) 96 wf] (fun (r : Int32) (u : SV) => r = iI (u.2.1 0) ∧ (0 ≤ u.2.1 0 ∧ u.2.1 0 ≤ 1) ∧ inv_ 96 0 99 hf) (fun u : SV => [zO sA 6 [vI wi, vI ro, vR s2, vR s3, vI dr, vI dt, vR s6, vI pe, vR s8, vI gu, vI sh, vR s11, vI wo, vR s13, vI dn, vI mi, vI fl, vI tk, vI go], zI s2 (cy 0) 96 hf, zI s3 (cy 0) 96 (u.2.2 0)]) 0 0 := by
  refine Met.ofW (cc := cX6_runRound) (maxL := 5) (ret := (some .boolean)) (by decide) rfl ?_
  intro p e s m args below meth c s₁ B hml hv
  obtain ⟨rfl, hsz, hP, hG, hD0, hT⟩ := hv
  have hx := B.exec
  have hb := B.bytes
  have hr := B.returns
  have hts := atoms_spec (ws := vs_s_runRound) B.pre
  have hown : s.vm.findClass RX6 = some m.cls := findClass_of_methodNamed B.named
  have hlocks := B.notSynchronized
  subst hsz
  have hD := hD0.self (sz := s.heap.size)
  generalize hAe : va_A [zO sA 6 [vI wi, vI ro, vR s2, vR s3, vI dr, vI dt, vR s6, vI pe, vR s8, vI gu, vI sh, vR s11, vI wo, vR s13, vI dn, vI mi, vI fl, vI tk, vI go], zI s2 (cy 0) 96 hf, zI s3 (cy 0) 96 wf] s.heap.size = A at hD hT ⊢
  have hA : ∀ q : Nat, s.heap.size ≤ q → A q := fun q h => by rw [← hAe]; exact Or.inr h
  have hS : va_S A s.heap s.heap [] := va_S.rf
  have hl0 := lv_entry ([vR sA]) (n := 5) (Nat.le_of_ble_eq_true rfl)
  rw [lg_entry_eq]
  generalize (lg_sl ([vR sA]) ++ List.replicate (5 - (lg_sl ([vR sA])).length) Slot.unset).toArray = ls at hl0 ⊢
  have hlv : lv_has ls 5 [(0, vR sA)] := hl0
  have lf32 := hts (.fieldLink RX6 32 "KerbSplash$Street" "rows" "I") (List.mem_of_getElem? (i := 1) rfl)
  have hi6 : ∀ w ∈ wsX60, w ∈ vs_s_runRound := fun w h => List.mem_cons_of_mem _ (List.mem_append_right _ (List.mem_append_left _ h))
  have lf28 := hts (.fieldLink RX6 28 "KerbSplash$Street" "wide" "I") (List.mem_of_getElem? (i := 2) rfl)
  have lf13 := hts (.fieldLink RX6 13 "KerbSplash$Street" "water" "[I") (List.mem_of_getElem? (i := 3) rfl)
  have gg_1 : GoodIn vs_s_runRound (wsV RX6 135 RX6 yX6_runFrom vs_s_runFrom) := goodIn_sub (fun w h => List.mem_cons_of_mem _ (List.mem_append_right _ (List.mem_append_right _ (List.mem_append_left _ h)))) (gd_V gd_s_runFrom (by decide +kernel))
  refine lv_iconst (v := iI 0) hx hb dX6_runRound_0 (by decide) ?_
  refine lv_istore_n (lv' := [(1, vI 0), (0, vR sA)]) hx hb dX6_runRound_1 rfl hlv (by decide) rfl (fun ls hlv => ?_)
  refine lv_iconst (v := iI 0) hx hb dX6_runRound_2 (by decide) ?_
  refine lv_istore_n (lv' := [(2, vI 0), (1, vI 0), (0, vR sA)]) hx hb dX6_runRound_3 rfl hlv (by decide) rfl (fun ls hlv => ?_)
  refine lv_iconst (v := iI 0) hx hb dX6_runRound_4 (by decide) ?_
  refine lv_istore_n (lv' := [(3, vI 0), (2, vI 0), (1, vI 0), (0, vR sA)]) hx hb dX6_runRound_5 rfl hlv (by decide) rfl (fun ls hlv => ?_)
  refine (?_ : ∀ (fu : Nat) (q1 : Int) (q2 : Int) (q3 : Int) (wg : Nat → Int32) (H : Heap) (locs : List Loc) (ls : Array Slot), 6 - q3 < (fu : Int) → (0 ≤ q1 ∧ q1 ≤ 1) → (0 ≤ q2 ∧ q2 ≤ 96) → (0 ≤ q3 ∧ q3 ≤ 6) → (q2 ≤ 16 * q3) → (0 < q3 → wi ≤ q2) → (q3 ≤ ro) → va_P D vwCl [zO sA 6 [vI wi, vI ro, vR s2, vR s3, vI dr, vI dt, vR s6, vI pe, vR s8, vI gu, vI sh, vR s11, vI wo, vR s13, vI dn, vI mi, vI fl, vI tk, vI go], zI s2 (cy 0) 96 hf, zI s3 (cy 0) 96 wg] H → va_D A [zO sA 6 [vI wi, vI ro, vR s2, vR s3, vI dr, vI dt, vR s6, vI pe, vR s8, vI gu, vI sh, vR s11, vI wo, vR s13, vI dn, vI mi, vI fl, vI tk, vI go], zI s2 (cy 0) 96 hf, zI s3 (cy 0) 96 wg] → va_S A s.heap H locs → lv_has ls 5 [(3, vI q3), (2, vI q2), (1, vI q1), (0, vR sA)] → W p l e _ s m _ below meth c H locs _ _ _ (F0 m 6 ls [])) (((6 - 0) + 1 : Int)).toNat 0 0 0 wf _ _ _ (by omega) (by show (0 : Int) ≤ 0 ∧ (0 : Int) ≤ 1; decide) (by show (0 : Int) ≤ 0 ∧ (0 : Int) ≤ 96; decide) (by show (0 : Int) ≤ 0 ∧ (0 : Int) ≤ 6; decide) (by omega) (by omega) (by omega)  hP hD hS hlv
  clear hP hD hS hlv
  intro fu
  induction fu with
  | zero => intro q1 q2 q3 wg H locs ls hm6 hl6_0 hl6_1 hl6_2 hl6_3 hl6_4 hl6_5  hP hD hS hlv; omega
  | succ fu ih6 =>
    intro q1 q2 q3 wg H locs ls hm6 hl6_0 hl6_1 hl6_2 hl6_3 hl6_4 hl6_5  hP hD hS hlv
    refine lv_iload_n hx hb dX6_runRound_6 rfl (lv_at hlv 0 rfl) ?_
    refine lv_aload_n hx hb dX6_runRound_7 rfl (lv_at hlv 3 rfl) ?_
    refine va_get (D := D) (ci := 6) (v := vI ro) (C := RX6) (T := TX6) (N := 19) hx hb hts hi6 hown hG.1 hP 0 rfl rfl 1 (by decide) lf32 (fun _ h9 => h9) rfl dX6_runRound_8 ?_
    refine ir_ge (tgt := 63) hx hb dX6_runRound_11 (by decide) (by first | exact rgw hl6_2 (by decide) (by decide) | omega) (by first | exact rgw hr_ro (by decide) (by decide) | omega) (fun c_1 => ?_) (fun c_1 => ?_)
    · refine lv_iload_n hx hb dX6_runRound_63 rfl (lv_at hlv 2 rfl) ?_
      refine W.widen (k := 0) (n := 0) (Nat.le_of_ble_eq_true rfl) (Nat.le_of_ble_eq_true rfl) ?_
      exact W.zret (v := iI q1) hx hb hr (nar_b (by omega)) (fun t ht hW => ⟨⟨iI q1, ((fun k => ([] : List Nat).getD k 0), (fun k => ([q1] : List Int).getD k 0), (fun k => ([wg] : List (Nat → Int32)).getD k (fun _ => 0))), rfl, ⟨rfl, (by show (0 ≤ q1 ∧ q1 ≤ 1); first | exact hl6_0 | omega), hhf⟩, at9 ht hP hD [0, 1, 2] (by decide +kernel) rfl⟩, hS.F ht⟩) hS.2.2 dX6_runRound_64
    · refine lv_iconst (v := iI 0) hx hb dX6_runRound_14 (by decide) ?_
      refine lv_istore (lv' := [(4, vI 0), (3, vI q3), (2, vI q2), (1, vI q1), (0, vR sA)]) hx hb dX6_runRound_15 hlv (by decide) rfl (fun ls hlv => ?_)
      refine (?_ : ∀ (fu : Nat) (r1 : Int) (r2 : Int) (r4 : Int) (wh : Nat → Int32) (H : Heap) (locs : List Loc) (ls : Array Slot), 16 - r4 < (fu : Int) → (0 ≤ r1 ∧ r1 ≤ 1) → (0 ≤ r2 ∧ r2 ≤ 96) → (0 ≤ r4 ∧ r4 ≤ 16) → (r2 - r4 = q2) → (r4 ≤ wi) → va_P D vwCl [zO sA 6 [vI wi, vI ro, vR s2, vR s3, vI dr, vI dt, vR s6, vI pe, vR s8, vI gu, vI sh, vR s11, vI wo, vR s13, vI dn, vI mi, vI fl, vI tk, vI go], zI s2 (cy 0) 96 hf, zI s3 (cy 0) 96 wh] H → va_D A [zO sA 6 [vI wi, vI ro, vR s2, vR s3, vI dr, vI dt, vR s6, vI pe, vR s8, vI gu, vI sh, vR s11, vI wo, vR s13, vI dn, vI mi, vI fl, vI tk, vI go], zI s2 (cy 0) 96 hf, zI s3 (cy 0) 96 wh] → va_S A s.heap H locs → lv_has ls 5 [(4, vI r4), (3, vI q3), (2, vI r2), (1, vI r1), (0, vR sA)] → W p l e _ s m _ below meth c H locs _ _ _ (F0 m 17 ls [])) (((16 - 0) + 1 : Int)).toNat q1 q2 0 wg _ _ _ (by omega) (by first | exact hl6_0 | omega) (by first | exact hl6_1 | omega) (by show (0 : Int) ≤ 0 ∧ (0 : Int) ≤ 16; decide) (by omega) (by omega)  hP hD hS hlv
      clear hP hD hS hlv
      intro fu
      induction fu with
      | zero => intro r1 r2 r4 wh H locs ls hm17 hl17_0 hl17_1 hl17_2 hl17_3 hl17_4  hP hD hS hlv; omega
      | succ fu ih17 =>
        intro r1 r2 r4 wh H locs ls hm17 hl17_0 hl17_1 hl17_2 hl17_3 hl17_4  hP hD hS hlv
        refine lv_iload hx hb dX6_runRound_17 (lv_at hlv 0 rfl) ?_
        refine lv_aload_n hx hb dX6_runRound_19 rfl (lv_at hlv 4 rfl) ?_
        refine va_get (D := D) (ci := 6) (v := vI wi) (C := RX6) (T := TX6) (N := 19) hx hb hts hi6 hown hG.1 hP 0 rfl rfl 0 (by decide) lf28 (fun _ h9 => h9) rfl dX6_runRound_20 ?_
        refine ir_ge (tgt := 57) hx hb dX6_runRound_23 (by decide) (by first | exact rgw hl17_2 (by decide) (by decide) | omega) (by first | exact rgw hr_wi (by decide) (by decide) | omega) (fun c_2 => ?_) (fun c_2 => ?_)
        · obtain ⟨z_3, hz_3⟩ : ∃ z : Int, z = q3 + 1 := ⟨_, rfl⟩
          refine lv_iinc (v := iI z_3) (lv' := [(3, vI z_3), (4, vI r4), (2, vI r2), (1, vI r1), (0, vR sA)]) hx hb dX6_runRound_57 hlv (k := 1) rfl (by rw [hz_3]; exact (Int32.ofInt_add _ _).symm) (by decide) rfl (fun ls hlv => ?_)
          refine lv_goto (tgt := 6) hx hb dX6_runRound_60 (by decide) ?_
          exact ih6 r1 r2 z_3 wh H locs ls (by omega) (by first | exact hl17_0 | omega) (by first | exact hl17_1 | omega) (by omega) (by omega) (by omega) (by omega)  (hP.sub [0, 1, 2] rfl) (hD.sub [0, 1, 2] (by decide) rfl) hS (lv_sub hlv [0, 2, 3, 4] rfl)
        · refine lv_aload_n hx hb dX6_runRound_26 rfl (lv_at hlv 4 rfl) ?_
          refine va_get (D := D) (ci := 6) (v := vR s3) (C := RX6) (T := TX6) (N := 19) hx hb hts hi6 hown hG.1 hP 0 rfl rfl 3 (by decide) lf13 (fun _ h9 => h9) rfl dX6_runRound_27 ?_
          refine lv_iload_n hx hb dX6_runRound_30 rfl (lv_at hlv 2 rfl) ?_
          refine va_iald hx hb hG.1 hP 2 0 rfl rfl (iI_in (by omega) (by decide)) dX6_runRound_31 ?_
          refine lt_z (fun z_4 ez_4 lz_4 hz_4 => ?_)
          refine iz_le (tgt := 48) hx hb dX6_runRound_32 (by decide) (by omega) (fun c_5 => ?_) (fun c_5 => ?_)
          · obtain ⟨z_6, hz_6⟩ : ∃ z : Int, z = r2 + 1 := ⟨_, rfl⟩
            refine lv_iinc (v := iI z_6) (lv' := [(2, vI z_6), (4, vI r4), (3, vI q3), (1, vI r1), (0, vR sA)]) hx hb dX6_runRound_48 hlv (k := 2) rfl (by rw [hz_6]; exact (Int32.ofInt_add _ _).symm) (by decide) rfl (fun ls hlv => ?_)
            obtain ⟨z_7, hz_7⟩ : ∃ z : Int, z = r4 + 1 := ⟨_, rfl⟩
            refine lv_iinc (v := iI z_7) (lv' := [(4, vI z_7), (2, vI z_6), (3, vI q3), (1, vI r1), (0, vR sA)]) hx hb dX6_runRound_51 hlv (k := 1) rfl (by rw [hz_7]; exact (Int32.ofInt_add _ _).symm) (by decide) rfl (fun ls hlv => ?_)
            refine lv_goto (tgt := 17) hx hb dX6_runRound_54 (by decide) ?_
            exact ih17 r1 z_6 z_7 wh H locs ls (by omega) (by first | exact hl17_0 | omega) (by omega) (by omega) (by omega) (by omega)  (hP.sub [0, 1, 2] rfl) (hD.sub [0, 1, 2] (by decide) rfl) hS (lv_sub hlv [0, 2, 1, 3, 4] rfl)
          · refine lv_aload_n hx hb dX6_runRound_35 rfl (lv_at hlv 4 rfl) ?_
            refine lv_iload hx hb dX6_runRound_36 (lv_at hlv 0 rfl) ?_
            refine lv_iload_n hx hb dX6_runRound_38 rfl (lv_at hlv 1 rfl) ?_
            refine lv_iload_n hx hb dX6_runRound_39 rfl (lv_at hlv 2 rfl) ?_
            refine cjr_i [false, false, false] (fun pre9 => (va_runV (As := [vI r4, vI q3, vI r2]) (rest := []) ⟨hx, hb, hml, hown, hts⟩ (s_runFrom l hl D cy sa sA s2 s3 s6 s8 s11 s13 wi ro dr dt pe gu sh wo dn mi fl tk go hf wh r4 q3 r2 H.size (by first | exact hr_wi | omega) (by first | exact hr_ro | omega) (by first | exact hr_dr | omega) (by first | exact hr_dt | omega) (by first | exact hr_pe | omega) (by first | exact hr_gu | omega) (by first | exact hr_sh | omega) (by first | exact hr_wo | omega) (by first | exact hr_dn | omega) (by first | exact hr_mi | omega) (by first | exact hr_fl | omega) (by first | exact hr_tk | omega) (by first | exact hr_go | omega) (by omega) (by omega) (by omega) (by omega) (by omega) (by omega) hhf) (cwV 3 hts gg_1 rfl rfl rfl (by decide +kernel) ⟨Nat.le_of_ble_eq_true rfl, Nat.le_of_ble_eq_true rfl⟩) ⟨pcW.blind, (va_recv hG.1 hP (ci := 6) (q0 := 0) rfl rfl), pre9⟩ rfl rfl hlv.1 rfl (lv_room (Nat.le_of_ble_eq_true rfl)) dX6_runRound_40 ⟨Nat.le_of_ble_eq_true rfl, Nat.le_of_ble_eq_true rfl⟩)) hP hD hS hA hG hT [0, 1, 2] rfl (by decide +kernel) (fun r1 u1 H locs hw1 hq9 hS => ?_)
            obtain ⟨rfl, hq1_1, hq1_2⟩ := hw1
            obtain ⟨hP, hD⟩ := pd9 [zO sA 6 [vI wi, vI ro, vR s2, vR s3, vI dr, vI dt, vR s6, vI pe, vR s8, vI gu, vI sh, vR s11, vI wo, vR s13, vI dn, vI mi, vI fl, vI tk, vI go], zI s2 (cy 0) 96 hf, zI s3 (cy 0) 96 (u1.2.2 0)] hq9
            refine iz_eq (tgt := 48) hx hb dX6_runRound_43 (by decide) (by first | exact rgw hq1_1 (by decide) (by decide) | omega) (fun c_8 => ?_) (fun c_8 => ?_)
            · obtain ⟨z_9, hz_9⟩ : ∃ z : Int, z = r2 + 1 := ⟨_, rfl⟩
              refine lv_iinc (v := iI z_9) (lv' := [(2, vI z_9), (4, vI r4), (3, vI q3), (1, vI r1), (0, vR sA)]) hx hb dX6_runRound_48 hlv (k := 2) rfl (by rw [hz_9]; exact (Int32.ofInt_add _ _).symm) (by decide) rfl (fun ls hlv => ?_)
              obtain ⟨z_10, hz_10⟩ : ∃ z : Int, z = r4 + 1 := ⟨_, rfl⟩
              refine lv_iinc (v := iI z_10) (lv' := [(4, vI z_10), (2, vI z_9), (3, vI q3), (1, vI r1), (0, vR sA)]) hx hb dX6_runRound_51 hlv (k := 1) rfl (by rw [hz_10]; exact (Int32.ofInt_add _ _).symm) (by decide) rfl (fun ls hlv => ?_)
              refine lv_goto (tgt := 17) hx hb dX6_runRound_54 (by decide) ?_
              exact ih17 r1 z_9 z_10 (u1.2.2 0) H locs ls (by omega) (by first | exact hl17_0 | omega) (by omega) (by omega) (by omega) (by omega)  (hP.sub [0, 1, 2] rfl) (hD.sub [0, 1, 2] (by decide) rfl) hS (lv_sub hlv [0, 2, 1, 3, 4] rfl)
            · refine lv_iconst (v := iI 1) hx hb dX6_runRound_46 (by decide) ?_
              refine lv_istore_n (lv' := [(1, vI 1), (4, vI r4), (3, vI q3), (2, vI r2), (0, vR sA)]) hx hb dX6_runRound_47 rfl hlv (by decide) rfl (fun ls hlv => ?_)
              obtain ⟨z_11, hz_11⟩ : ∃ z : Int, z = r2 + 1 := ⟨_, rfl⟩
              refine lv_iinc (v := iI z_11) (lv' := [(2, vI z_11), (1, vI 1), (4, vI r4), (3, vI q3), (0, vR sA)]) hx hb dX6_runRound_48 hlv (k := 3) rfl (by rw [hz_11]; exact (Int32.ofInt_add _ _).symm) (by decide) rfl (fun ls hlv => ?_)
              obtain ⟨z_12, hz_12⟩ : ∃ z : Int, z = r4 + 1 := ⟨_, rfl⟩
              refine lv_iinc (v := iI z_12) (lv' := [(4, vI z_12), (2, vI z_11), (1, vI 1), (3, vI q3), (0, vR sA)]) hx hb dX6_runRound_51 hlv (k := 2) rfl (by rw [hz_12]; exact (Int32.ofInt_add _ _).symm) (by decide) rfl (fun ls hlv => ?_)
              refine lv_goto (tgt := 17) hx hb dX6_runRound_54 (by decide) ?_
              exact ih17 1 z_11 z_12 (u1.2.2 0) H locs ls (by omega) (by show (0 : Int) ≤ 1 ∧ (1 : Int) ≤ 1; decide) (by omega) (by omega) (by omega) (by omega)  (hP.sub [0, 1, 2] rfl) (hD.sub [0, 1, 2] (by decide) rfl) hS (lv_sub hlv [0, 3, 1, 2, 4] rfl)
def vs_s_runRounds : List Cond := .code yX6_runRounds cX6_runRounds 4 none :: (([] : List Cond) ++ ((wsV RX6 131 RX6 yX6_runRound vs_s_runRound) ++ ([])))
theorem gd_s_runRounds : vs_s_runRounds.all goodWord = true := gd_C (by decide +kernel) (gd_A (by decide +kernel) (gd_A (gd_V gd_s_runRound (by decide +kernel)) rfl))
set_option maxHeartbeats 4000000 in
set_option maxRecDepth 100000 in
theorem s_runRounds (l : Launch) (hl : l.stackTraces = false) (D : va_G) (cy : Nat → ClassId) (sa : Nat → Nat) (sA s2 s3 s6 s8 s11 s13 : Nat) (wi ro dr dt pe gu sh wo dn mi fl tk go : Int) (hf wf : Nat → Int32) (n : Int) (sz : Nat) (hr_wi : 0 ≤ wi ∧ wi ≤ 16) (hr_ro : 0 ≤ ro ∧ ro ≤ 6) (hr_dr : 0 ≤ dr ∧ dr ≤ 14) (hr_dt : 0 ≤ dt ∧ dt ≤ 6) (hr_pe : 0 ≤ pe ∧ pe ≤ 8) (hr_gu : 0 ≤ gu ∧ gu ≤ 20) (hr_sh : 0 ≤ sh ∧ sh ≤ 2) (hr_wo : 0 ≤ wo ∧ wo ≤ 8) (hr_dn : (-2147483648) ≤ dn ∧ dn ≤ 2147483647) (hr_mi : 0 ≤ mi ∧ mi ≤ 600) (hr_fl : (-2147483648) ≤ fl ∧ fl ≤ 2147483647) (hr_tk : (-2147483648) ≤ tk ∧ tk ≤ 2147483647) (hr_go : (-2147483648) ≤ go ∧ go ≤ 2147483647) (hr_n : 0 ≤ n ∧ n ≤ 99) (hhf : inv_ 96 0 99 hf) : mV9 l yX6_runRounds vs_s_runRounds ({ frames := 2, cells := 0, slots := 0, locals := 52 }) D cy sa sz [vR sA, vI n] [zO sA 6 [vI wi, vI ro, vR s2, vR s3, vI dr, vI dt, vR s6, vI pe, vR s8, vI gu, vI sh, vR s11, vI wo, vR s13, vI dn, vI mi, vI fl, vI tk, vI go], zI s2 (cy 0) 96 hf, zI s3 (cy 0) 96 wf] (fun u : SV => inv_ 96 0 99 hf) (fun u : SV => [zO sA 6 [vI wi, vI ro, vR s2, vR s3, vI dr, vI dt, vR s6, vI pe, vR s8, vI gu, vI sh, vR s11, vI wo, vR s13, vI dn, vI mi, vI fl, vI tk, vI go], zI s2 (cy 0) 96 hf, zI s3 (cy 0) 96 (u.2.2 0)]) 0 0 := by
  refine Met.ofW (cc := cX6_runRounds) (maxL := 4) (ret := none) (by decide) rfl ?_
  intro p e s m args below meth c s₁ B hml hv
  obtain ⟨rfl, hsz, hP, hG, hD0, hT⟩ := hv
  have hx := B.exec
  have hb := B.bytes
  have hr := B.returns
  have hts := atoms_spec (ws := vs_s_runRounds) B.pre
  have hown : s.vm.findClass RX6 = some m.cls := findClass_of_methodNamed B.named
  have hlocks := B.notSynchronized
  subst hsz
  have hD := hD0.self (sz := s.heap.size)
  generalize hAe : va_A [zO sA 6 [vI wi, vI ro, vR s2, vR s3, vI dr, vI dt, vR s6, vI pe, vR s8, vI gu, vI sh, vR s11, vI wo, vR s13, vI dn, vI mi, vI fl, vI tk, vI go], zI s2 (cy 0) 96 hf, zI s3 (cy 0) 96 wf] s.heap.size = A at hD hT ⊢
  have hA : ∀ q : Nat, s.heap.size ≤ q → A q := fun q h => by rw [← hAe]; exact Or.inr h
  have hS : va_S A s.heap s.heap [] := va_S.rf
  have hl0 := lv_entry ([vR sA, vI n]) (n := 4) (Nat.le_of_ble_eq_true rfl)
  rw [lg_entry_eq]
  generalize (lg_sl ([vR sA, vI n]) ++ List.replicate (4 - (lg_sl ([vR sA, vI n])).length) Slot.unset).toArray = ls at hl0 ⊢
  have hlv : lv_has ls 4 [(0, vR sA), (1, vI n)] := hl0
  have gg_0 : GoodIn vs_s_runRounds (wsV RX6 131 RX6 yX6_runRound vs_s_runRound) := goodIn_sub (fun w h => List.mem_cons_of_mem _ (List.mem_append_right _ (List.mem_append_left _ h))) (gd_V gd_s_runRound (by decide +kernel))
  refine lv_iconst (v := iI 1) hx hb dX6_runRounds_0 (by decide) ?_
  refine lv_istore_n (lv' := [(2, vI 1), (0, vR sA), (1, vI n)]) hx hb dX6_runRounds_1 rfl hlv (by decide) rfl (fun ls hlv => ?_)
  refine lv_iconst (v := iI 0) hx hb dX6_runRounds_2 (by decide) ?_
  refine lv_istore_n (lv' := [(3, vI 0), (2, vI 1), (0, vR sA), (1, vI n)]) hx hb dX6_runRounds_3 rfl hlv (by decide) rfl (fun ls hlv => ?_)
  refine (?_ : ∀ (fu : Nat) (q2 : Int) (q3 : Int) (wg : Nat → Int32) (H : Heap) (locs : List Loc) (ls : Array Slot), 99 - q3 < (fu : Int) → (0 ≤ q2 ∧ q2 ≤ 1) → (0 ≤ q3 ∧ q3 ≤ 99) → va_P D vwCl [zO sA 6 [vI wi, vI ro, vR s2, vR s3, vI dr, vI dt, vR s6, vI pe, vR s8, vI gu, vI sh, vR s11, vI wo, vR s13, vI dn, vI mi, vI fl, vI tk, vI go], zI s2 (cy 0) 96 hf, zI s3 (cy 0) 96 wg] H → va_D A [zO sA 6 [vI wi, vI ro, vR s2, vR s3, vI dr, vI dt, vR s6, vI pe, vR s8, vI gu, vI sh, vR s11, vI wo, vR s13, vI dn, vI mi, vI fl, vI tk, vI go], zI s2 (cy 0) 96 hf, zI s3 (cy 0) 96 wg] → va_S A s.heap H locs → lv_has ls 4 [(3, vI q3), (2, vI q2), (0, vR sA), (1, vI n)] → W p l e _ s m _ below meth c H locs _ _ _ (F0 m 4 ls [])) (((99 - 0) + 1 : Int)).toNat 1 0 wf _ _ _ (by omega) (by show (0 : Int) ≤ 1 ∧ (1 : Int) ≤ 1; decide) (by show (0 : Int) ≤ 0 ∧ (0 : Int) ≤ 99; decide)  hP hD hS hlv
  clear hP hD hS hlv
  intro fu
  induction fu with
  | zero => intro q2 q3 wg H locs ls hm4 hl4_0 hl4_1  hP hD hS hlv; omega
  | succ fu ih4 =>
    intro q2 q3 wg H locs ls hm4 hl4_0 hl4_1  hP hD hS hlv
    refine lv_iload_n hx hb dX6_runRounds_4 rfl (lv_at hlv 0 rfl) ?_
    refine lv_iload_n hx hb dX6_runRounds_5 rfl (lv_at hlv 3 rfl) ?_
    refine ir_ge (tgt := 24) hx hb dX6_runRounds_6 (by decide) (by first | exact rgw hl4_1 (by decide) (by decide) | omega) (by first | exact rgw hr_n (by decide) (by decide) | omega) (fun c_1 => ?_) (fun c_1 => ?_)
    · refine W.widen (k := 0) (n := 0) (Nat.le_of_ble_eq_true rfl) (Nat.le_of_ble_eq_true rfl) ?_
      exact W.vret hx hb hr (fun t ht hW => ⟨⟨((fun k => ([] : List Nat).getD k 0), (fun k => ([] : List Int).getD k 0), (fun k => ([wg] : List (Nat → Int32)).getD k (fun _ => 0))), rfl, hhf, at9 ht hP hD [0, 1, 2] (by decide +kernel) rfl⟩, hS.F ht⟩) hS.2.2 dX6_runRounds_24
    · refine lv_iload_n hx hb dX6_runRounds_9 rfl (lv_at hlv 1 rfl) ?_
      refine iz_eq (tgt := 24) hx hb dX6_runRounds_10 (by decide) (by first | exact rgw hl4_0 (by decide) (by decide) | omega) (fun c_2 => ?_) (fun c_2 => ?_)
      · refine W.widen (k := 0) (n := 0) (Nat.le_of_ble_eq_true rfl) (Nat.le_of_ble_eq_true rfl) ?_
        exact W.vret hx hb hr (fun t ht hW => ⟨⟨((fun k => ([] : List Nat).getD k 0), (fun k => ([] : List Int).getD k 0), (fun k => ([wg] : List (Nat → Int32)).getD k (fun _ => 0))), rfl, hhf, at9 ht hP hD [0, 1, 2] (by decide +kernel) rfl⟩, hS.F ht⟩) hS.2.2 dX6_runRounds_24
      · refine lv_aload_n hx hb dX6_runRounds_13 rfl (lv_at hlv 2 rfl) ?_
        refine cjr_i [false, false, false] (fun pre9 => (va_runV (As := []) (rest := []) ⟨hx, hb, hml, hown, hts⟩ (s_runRound l hl D cy sa sA s2 s3 s6 s8 s11 s13 wi ro dr dt pe gu sh wo dn mi fl tk go hf wg H.size (by first | exact hr_wi | omega) (by first | exact hr_ro | omega) (by first | exact hr_dr | omega) (by first | exact hr_dt | omega) (by first | exact hr_pe | omega) (by first | exact hr_gu | omega) (by first | exact hr_sh | omega) (by first | exact hr_wo | omega) (by first | exact hr_dn | omega) (by first | exact hr_mi | omega) (by first | exact hr_fl | omega) (by first | exact hr_tk | omega) (by first | exact hr_go | omega) hhf) (cwV 0 hts gg_0 rfl rfl rfl (by decide +kernel) ⟨Nat.le_of_ble_eq_true rfl, Nat.le_of_ble_eq_true rfl⟩) ⟨pcW.blind, (va_recv hG.1 hP (ci := 6) (q0 := 0) rfl rfl), pre9⟩ rfl rfl hlv.1 rfl (lv_room (Nat.le_of_ble_eq_true rfl)) dX6_runRounds_14 ⟨Nat.le_of_ble_eq_true rfl, Nat.le_of_ble_eq_true rfl⟩)) hP hD hS hA hG hT [0, 1, 2] rfl (by decide +kernel) (fun r1 u1 H locs hw1 hq9 hS => ?_)
        obtain ⟨rfl, hq1_1, hq1_2⟩ := hw1
        obtain ⟨hP, hD⟩ := pd9 [zO sA 6 [vI wi, vI ro, vR s2, vR s3, vI dr, vI dt, vR s6, vI pe, vR s8, vI gu, vI sh, vR s11, vI wo, vR s13, vI dn, vI mi, vI fl, vI tk, vI go], zI s2 (cy 0) 96 hf, zI s3 (cy 0) 96 (u1.2.2 0)] hq9
        refine lv_istore_n (lv' := [(2, vI (u1.2.1 0)), (3, vI q3), (0, vR sA), (1, vI n)]) hx hb dX6_runRounds_17 rfl hlv (by decide) rfl (fun ls hlv => ?_)
        obtain ⟨z_3, hz_3⟩ : ∃ z : Int, z = q3 + 1 := ⟨_, rfl⟩
        refine lv_iinc (v := iI z_3) (lv' := [(3, vI z_3), (2, vI (u1.2.1 0)), (0, vR sA), (1, vI n)]) hx hb dX6_runRounds_18 hlv (k := 1) rfl (by rw [hz_3]; exact (Int32.ofInt_add _ _).symm) (by decide) rfl (fun ls hlv => ?_)
        refine lv_goto (tgt := 4) hx hb dX6_runRounds_21 (by decide) ?_
        exact ih4 (u1.2.1 0) z_3 (u1.2.2 0) H locs ls (by omega) (by first | exact hq1_1 | omega) (by omega)  (hP.sub [0, 1, 2] rfl) (hD.sub [0, 1, 2] (by decide) rfl) hS (lv_sub hlv [0, 1, 2, 3] rfl)
def vs_s_takeByDrain : List Cond := .code yX6_takeByDrain cX6_takeByDrain 5 none :: (([.fieldLink RX6 16 "KerbSplash$Street" "drain" "[I", .fieldLink RX6 13 "KerbSplash$Street" "water" "[I", .methodLink RX6 110 Lib.Math.min.name, .static Lib.Math.min.name, .initialized "java/lang/Math", .code Lib.Math.min.name Lib.Math.min.code 2 (some .int), .fieldLink RX6 68 "KerbSplash$Street" "taken" "I"] : List Cond) ++ ((wsX60) ++ ((wsV RX6 88 RX6 yX6_index vs_s_index) ++ ([]))))
theorem gd_s_takeByDrain : vs_s_takeByDrain.all goodWord = true := gd_C (by decide +kernel) (gd_A (by decide +kernel) (gd_A (by decide +kernel) (gd_A (gd_V gd_s_index (by decide +kernel)) rfl)))
set_option maxHeartbeats 4000000 in
set_option maxRecDepth 100000 in
theorem s_takeByDrain (l : Launch) (hl : l.stackTraces = false) (D : va_G) (cy : Nat → ClassId) (sa : Nat → Nat) (sA s2 s3 s6 s8 s11 s13 : Nat) (wi ro dr dt pe gu sh wo dn mi fl tk go : Int) (df wf : Nat → Int32) (n k : Int) (sz : Nat) (hr_wi : 0 ≤ wi ∧ wi ≤ 16) (hr_ro : 0 ≤ ro ∧ ro ≤ 6) (hr_dr : 0 ≤ dr ∧ dr ≤ 14) (hr_dt : 0 ≤ dt ∧ dt ≤ 6) (hr_pe : 0 ≤ pe ∧ pe ≤ 8) (hr_gu : 0 ≤ gu ∧ gu ≤ 20) (hr_sh : 0 ≤ sh ∧ sh ≤ 2) (hr_wo : 0 ≤ wo ∧ wo ≤ 8) (hr_dn : (-2147483648) ≤ dn ∧ dn ≤ 2147483647) (hr_mi : 0 ≤ mi ∧ mi ≤ 600) (hr_fl : (-2147483648) ≤ fl ∧ fl ≤ 2147483647) (hr_tk : (-2147483648) ≤ tk ∧ tk ≤ 2147483647) (hr_go : (-2147483648) ≤ go ∧ go ≤ 2147483647) (hr_n : 0 ≤ n ∧ n ≤ 52) (hr_k : 0 ≤ k ∧ k ≤ 13) (hp0 : n = 4 * k) (hdf : tab_ 4 14 [0, 0, 0, 0] [15, 5, 99, 16] df) : mV9 l yX6_takeByDrain vs_s_takeByDrain ({ frames := 1, cells := 0, slots := 0, locals := 30 }) D cy sa sz [vR sA, vI n] [zO sA 6 [vI wi, vI ro, vR s2, vR s3, vI dr, vI dt, vR s6, vI pe, vR s8, vI gu, vI sh, vR s11, vI wo, vR s13, vI dn, vI mi, vI fl, vI tk, vI go], zI s6 (cy 0) 56 df, zI s3 (cy 0) 96 wf] (fun u : SV => ((-2147483648) ≤ u.2.1 0 ∧ u.2.1 0 ≤ 2147483647) ∧ tab_ 4 14 [0, 0, 0, 0] [15, 5, 99, 16] df) (fun u : SV => [zO sA 6 [vI wi, vI ro, vR s2, vR s3, vI dr, vI dt, vR s6, vI pe, vR s8, vI gu, vI sh, vR s11, vI wo, vR s13, vI dn, vI mi, vI fl, vI (u.2.1 0), vI go], zI s6 (cy 0) 56 df, zI s3 (cy 0) 96 (u.2.2 0)]) 0 0 := by
  refine Met.ofW (cc := cX6_takeByDrain) (maxL := 5) (ret := none) (by decide) rfl ?_
  intro p e s m args below meth c s₁ B hml hv
  obtain ⟨rfl, hsz, hP, hG, hD0, hT⟩ := hv
  have hx := B.exec
  have hb := B.bytes
  have hr := B.returns
  have hts := atoms_spec (ws := vs_s_takeByDrain) B.pre
  have hown : s.vm.findClass RX6 = some m.cls := findClass_of_methodNamed B.named
  have hlocks := B.notSynchronized
  subst hsz
  have hD := hD0.self (sz := s.heap.size)
  generalize hAe : va_A [zO sA 6 [vI wi, vI ro, vR s2, vR s3, vI dr, vI dt, vR s6, vI pe, vR s8, vI gu, vI sh, vR s11, vI wo, vR s13, vI dn, vI mi, vI fl, vI tk, vI go], zI s6 (cy 0) 56 df, zI s3 (cy 0) 96 wf] s.heap.size = A at hD hT ⊢
  have hA : ∀ q : Nat, s.heap.size ≤ q → A q := fun q h => by rw [← hAe]; exact Or.inr h
  have hS : va_S A s.heap s.heap [] := va_S.rf
  have hl0 := lv_entry ([vR sA, vI n]) (n := 5) (Nat.le_of_ble_eq_true rfl)
  rw [lg_entry_eq]
  generalize (lg_sl ([vR sA, vI n]) ++ List.replicate (5 - (lg_sl ([vR sA, vI n])).length) Slot.unset).toArray = ls at hl0 ⊢
  have hlv : lv_has ls 5 [(0, vR sA), (1, vI n)] := hl0
  have lf16 := hts (.fieldLink RX6 16 "KerbSplash$Street" "drain" "[I") (List.mem_of_getElem? (i := 1) rfl)
  have hi6 : ∀ w ∈ wsX60, w ∈ vs_s_takeByDrain := fun w h => List.mem_cons_of_mem _ (List.mem_append_right _ (List.mem_append_left _ h))
  have gg_1 : GoodIn vs_s_takeByDrain (wsV RX6 88 RX6 yX6_index vs_s_index) := goodIn_sub (fun w h => List.mem_cons_of_mem _ (List.mem_append_right _ (List.mem_append_right _ (List.mem_append_left _ h)))) (gd_V gd_s_index (by decide +kernel))
  have lf13 := hts (.fieldLink RX6 13 "KerbSplash$Street" "water" "[I") (List.mem_of_getElem? (i := 2) rfl)
  have mk110 := hts (.methodLink RX6 110 Lib.Math.min.name) (List.mem_of_getElem? (i := 3) rfl)
  have ms_min := hts (.static Lib.Math.min.name) (List.mem_of_getElem? (i := 4) rfl)
  have mi_ := hts (.initialized "java/lang/Math") (List.mem_of_getElem? (i := 5) rfl)
  have mc_min := hts (.code Lib.Math.min.name Lib.Math.min.code 2 (some .int)) (List.mem_of_getElem? (i := 6) rfl)
  have lf68 := hts (.fieldLink RX6 68 "KerbSplash$Street" "taken" "I") (List.mem_of_getElem? (i := 7) rfl)
  refine lv_aload_n hx hb dX6_takeByDrain_0 rfl (lv_at hlv 0 rfl) ?_
  refine lv_aload_n hx hb dX6_takeByDrain_1 rfl (lv_at hlv 0 rfl) ?_
  refine va_get (D := D) (ci := 6) (v := vR s6) (C := RX6) (T := TX6) (N := 19) hx hb hts hi6 hown hG.1 hP 0 rfl rfl 6 (by decide) lf16 (fun _ h9 => h9) rfl dX6_takeByDrain_2 ?_
  refine lv_iload_n hx hb dX6_takeByDrain_5 rfl (lv_at hlv 1 rfl) ?_
  refine va_iald hx hb hG.1 hP 1 0 rfl rfl (iI_in (by omega) (by decide)) dX6_takeByDrain_6 ?_
  obtain ⟨z_1, ez_1, hz_1, lz_1⟩ := tab_rd hdf (e := n) (k := k) (c := 0) (a := 0) (b := 15) (by omega) (by omega) (by decide) (by omega) rfl rfl
  refine lt_i (y := iI z_1) ez_1 ?_
  refine lv_aload_n hx hb dX6_takeByDrain_7 rfl (lv_at hlv 0 rfl) ?_
  refine va_get (D := D) (ci := 6) (v := vR s6) (C := RX6) (T := TX6) (N := 19) hx hb hts hi6 hown hG.1 hP 0 rfl rfl 6 (by decide) lf16 (fun _ h9 => h9) rfl dX6_takeByDrain_8 ?_
  refine lv_iload_n hx hb dX6_takeByDrain_11 rfl (lv_at hlv 1 rfl) ?_
  refine lv_iconst (v := iI 1) hx hb dX6_takeByDrain_12 (by decide) ?_
  refine lv_iadd hx hb dX6_takeByDrain_13 ?_
  refine lt_e (e0 := n + 1) (Int32.ofInt_add _ _).symm (fun z_2 hz_2 => ?_)
  refine va_iald hx hb hG.1 hP 1 0 rfl rfl (iI_in (by omega) (by decide)) dX6_takeByDrain_14 ?_
  obtain ⟨z_3, ez_3, hz_3, lz_3⟩ := tab_rd hdf (e := z_2) (k := k) (c := 1) (a := 0) (b := 5) (by omega) (by omega) (by decide) (by omega) rfl rfl
  refine lt_i (y := iI z_3) ez_3 ?_
  refine cjr_i [false, true, true] (fun pre9 => (va_runV (As := [vI z_1, vI z_3]) (rest := []) ⟨hx, hb, hml, hown, hts⟩ (s_index l hl D cy sa sA s2 s3 s6 s8 s11 s13 wi ro dr dt pe gu sh wo dn mi fl tk go z_1 z_3 s.heap.size (by first | exact hr_wi | omega) (by first | exact hr_ro | omega) (by first | exact hr_dr | omega) (by first | exact hr_dt | omega) (by first | exact hr_pe | omega) (by first | exact hr_gu | omega) (by first | exact hr_sh | omega) (by first | exact hr_wo | omega) (by first | exact hr_dn | omega) (by first | exact hr_mi | omega) (by first | exact hr_fl | omega) (by first | exact hr_tk | omega) (by first | exact hr_go | omega) (by first | exact lz_1 | omega) (by first | exact lz_3 | omega)) (cwV 2 hts gg_1 rfl rfl rfl (by decide +kernel) ⟨Nat.le_of_ble_eq_true rfl, Nat.le_of_ble_eq_true rfl⟩) ⟨pcW.blind, (va_recv hG.1 hP (ci := 6) (q0 := 0) rfl rfl), pre9⟩ rfl rfl hlv.1 rfl (lv_room (Nat.le_of_ble_eq_true rfl)) dX6_takeByDrain_15 ⟨Nat.le_of_ble_eq_true rfl, Nat.le_of_ble_eq_true rfl⟩)) hP hD hS hA hG hT [0] rfl (by decide +kernel) (fun r1 u1 H locs hw1 hq9 hS => ?_)
  obtain ⟨rfl, hq1_1⟩ := hw1
  obtain ⟨hP, hD⟩ := pd9 [zI s6 (cy 0) 56 df, zI s3 (cy 0) 96 wf, zO sA 6 [vI wi, vI ro, vR s2, vR s3, vI dr, vI dt, vR s6, vI pe, vR s8, vI gu, vI sh, vR s11, vI wo, vR s13, vI dn, vI mi, vI fl, vI tk, vI go]] hq9
  refine lv_istore_n (lv' := [(2, vI (u1.2.1 0)), (0, vR sA), (1, vI n)]) hx hb dX6_takeByDrain_18 rfl hlv (by decide) rfl (fun ls hlv => ?_)
  refine lv_aload_n hx hb dX6_takeByDrain_19 rfl (lv_at hlv 1 rfl) ?_
  refine va_get (D := D) (ci := 6) (v := vR s6) (C := RX6) (T := TX6) (N := 19) hx hb hts hi6 hown hG.1 hP 2 rfl rfl 6 (by decide) lf16 (fun _ h9 => h9) rfl dX6_takeByDrain_20 ?_
  refine lv_iload_n hx hb dX6_takeByDrain_23 rfl (lv_at hlv 2 rfl) ?_
  refine lv_iconst (v := iI 2) hx hb dX6_takeByDrain_24 (by decide) ?_
  refine lv_iadd hx hb dX6_takeByDrain_25 ?_
  refine lt_e (e0 := n + 2) (Int32.ofInt_add _ _).symm (fun z_4 hz_4 => ?_)
  refine va_iald hx hb hG.1 hP 0 0 rfl rfl (iI_in (by omega) (by decide)) dX6_takeByDrain_26 ?_
  obtain ⟨z_5, ez_5, hz_5, lz_5⟩ := tab_rd hdf (e := z_4) (k := k) (c := 2) (a := 0) (b := 99) (by omega) (by omega) (by decide) (by omega) rfl rfl
  refine lt_i (y := iI z_5) ez_5 ?_
  refine lv_bipush (v := iI 16) hx hb dX6_takeByDrain_27 (by decide) ?_
  refine lv_aload_n hx hb dX6_takeByDrain_29 rfl (lv_at hlv 1 rfl) ?_
  refine va_get (D := D) (ci := 6) (v := vR s6) (C := RX6) (T := TX6) (N := 19) hx hb hts hi6 hown hG.1 hP 2 rfl rfl 6 (by decide) lf16 (fun _ h9 => h9) rfl dX6_takeByDrain_30 ?_
  refine lv_iload_n hx hb dX6_takeByDrain_33 rfl (lv_at hlv 2 rfl) ?_
  refine lv_iconst (v := iI 3) hx hb dX6_takeByDrain_34 (by decide) ?_
  refine lv_iadd hx hb dX6_takeByDrain_35 ?_
  refine lt_e (e0 := n + 3) (Int32.ofInt_add _ _).symm (fun z_6 hz_6 => ?_)
  refine va_iald hx hb hG.1 hP 0 0 rfl rfl (iI_in (by omega) (by decide)) dX6_takeByDrain_36 ?_
  obtain ⟨z_7, ez_7, hz_7, lz_7⟩ := tab_rd hdf (e := z_6) (k := k) (c := 3) (a := 0) (b := 16) (by omega) (by omega) (by decide) (by omega) rfl rfl
  refine lt_i (y := iI z_7) ez_7 ?_
  refine lv_isub hx hb dX6_takeByDrain_37 ?_
  refine lt_e (e0 := 16 - z_7) (Int32.ofInt_sub _ _).symm (fun z_8 hz_8 => ?_)
  refine lv_imul hx hb dX6_takeByDrain_38 ?_
  refine lt_e (e0 := z_5 * z_8) (Int32.ofInt_mul _ _).symm (fun z_9 hz_9 => ?_)
  have bz_9 : 0 ≤ z_9 ∧ z_9 ≤ 1584 := by rw [hz_9]; exact mul_bd (x := 99) (y := 16) (by omega) (by omega) (by decide)
  refine lv_bipush (v := iI 16) hx hb dX6_takeByDrain_39 (by decide) ?_
  refine lv_idiv hx hb dX6_takeByDrain_41 (fun q => absurd ((iI_eq (a := 16) (b := 0) (by omega) (by omega)).mp q) (by omega)) ?_
  refine lt_e (e0 := z_9 / 16) (dv_eq (by omega) (by omega)) (fun z_10 hz_10 => ?_)
  refine lv_istore_n (lv' := [(3, vI z_10), (2, vI (u1.2.1 0)), (0, vR sA), (1, vI n)]) hx hb dX6_takeByDrain_42 rfl hlv (by decide) rfl (fun ls hlv => ?_)
  refine lv_iload_n hx hb dX6_takeByDrain_43 rfl (lv_at hlv 0 rfl) ?_
  refine lv_aload_n hx hb dX6_takeByDrain_44 rfl (lv_at hlv 2 rfl) ?_
  refine va_get (D := D) (ci := 6) (v := vR s3) (C := RX6) (T := TX6) (N := 19) hx hb hts hi6 hown hG.1 hP 2 rfl rfl 3 (by decide) lf13 (fun _ h9 => h9) rfl dX6_takeByDrain_45 ?_
  refine lv_iload_n hx hb dX6_takeByDrain_48 rfl (lv_at hlv 1 rfl) ?_
  refine va_iald hx hb hG.1 hP 1 0 rfl rfl (iI_in (by omega) (by decide)) dX6_takeByDrain_49 ?_
  refine lt_z (fun z_11 ez_11 lz_11 hz_11 => ?_)
  refine va_mmin hx hb (hml.trans hlv.1.symm) hown mk110 ms_min mi_ mc_min (Nat.le_of_ble_eq_true rfl) (Nat.le_of_ble_eq_true rfl) (Nat.le_of_ble_eq_true rfl) (Nat.le_of_ble_eq_true rfl) dX6_takeByDrain_50 ?_
  refine lt_mn (by omega) (by omega) (fun z_12 hz_12 => ?_)
  refine lv_istore (lv' := [(4, vI z_12), (3, vI z_10), (2, vI (u1.2.1 0)), (0, vR sA), (1, vI n)]) hx hb dX6_takeByDrain_53 hlv (by decide) rfl (fun ls hlv => ?_)
  refine lv_aload_n hx hb dX6_takeByDrain_55 rfl (lv_at hlv 3 rfl) ?_
  refine va_get (D := D) (ci := 6) (v := vR s3) (C := RX6) (T := TX6) (N := 19) hx hb hts hi6 hown hG.1 hP 2 rfl rfl 3 (by decide) lf13 (fun _ h9 => h9) rfl dX6_takeByDrain_56 ?_
  refine lv_iload_n hx hb dX6_takeByDrain_59 rfl (lv_at hlv 2 rfl) ?_
  refine lv_dup2_11 hx hb dX6_takeByDrain_60 rfl rfl ?_
  refine va_iald hx hb hG.1 hP 1 0 rfl rfl (iI_in (by omega) (by decide)) dX6_takeByDrain_61 ?_
  refine lt_i (y := iI z_11) ez_11 ?_
  refine lv_iload hx hb dX6_takeByDrain_62 (lv_at hlv 0 rfl) ?_
  refine lv_isub hx hb dX6_takeByDrain_64 ?_
  refine lt_z (fun z_13 ez_13 lz_13 hz_13 => ?_)
  refine va_iast hx hb hG.1 hP hD hS 1 0 rfl rfl (iI_in (by omega) (by decide)) dX6_takeByDrain_65 (fun H locs hP hD hS => ?_)
  obtain ⟨f_14, hP, hD⟩ := pe9 (fun f_14 => [zI s6 (cy 0) 56 df, zI s3 (cy 0) 96 f_14, zO sA 6 [vI wi, vI ro, vR s2, vR s3, vI dr, vI dt, vR s6, vI pe, vR s8, vI gu, vI sh, vR s11, vI wo, vR s13, vI dn, vI mi, vI fl, vI tk, vI go]]) _ hP hD
  refine lv_aload_n hx hb dX6_takeByDrain_66 rfl (lv_at hlv 3 rfl) ?_
  refine lv_dup hx hb dX6_takeByDrain_67 rfl ?_
  refine va_get (D := D) (ci := 6) (v := vI tk) (C := RX6) (T := TX6) (N := 19) hx hb hts hi6 hown hG.1 hP 2 rfl rfl 17 (by decide) lf68 (fun _ h9 => h9) rfl dX6_takeByDrain_68 ?_
  refine lv_iload hx hb dX6_takeByDrain_71 (lv_at hlv 0 rfl) ?_
  refine lv_iadd hx hb dX6_takeByDrain_73 ?_
  refine lt_z (fun z_15 ez_15 lz_15 hz_15 => ?_)
  refine va_put (D := D) (ci := 6) (v := vI z_15) (ty := .int) (C := RX6) (T := TX6) (N := 19) hx hb hts hi6 tyX6 tyX6_ok nmX6 hown hG.1 hP hD hS 2 rfl rfl 17 (by decide) lf68 (fun _ h9 => h9) rfl (by decide +kernel) rfl rfl (Nat.le_of_ble_eq_true rfl) dX6_takeByDrain_74 (fun H locs hP hD hS => ?_)
  obtain ⟨hP, hD⟩ := pw9 [zI s6 (cy 0) 56 df, zI s3 (cy 0) 96 f_14, zO sA 6 [vI wi, vI ro, vR s2, vR s3, vI dr, vI dt, vR s6, vI pe, vR s8, vI gu, vI sh, vR s11, vI wo, vR s13, vI dn, vI mi, vI fl, vI z_15, vI go]] hP hD
  refine W.widen (k := 0) (n := 0) (Nat.le_of_ble_eq_true rfl) (Nat.le_of_ble_eq_true rfl) ?_
  exact W.vret hx hb hr (fun t ht hW => ⟨⟨((fun k => ([] : List Nat).getD k 0), (fun k => ([z_15] : List Int).getD k 0), (fun k => ([f_14] : List (Nat → Int32)).getD k (fun _ => 0))), rfl, ⟨(by show ((-2147483648) ≤ z_15 ∧ z_15 ≤ 2147483647); omega), hdf⟩, at9 ht hP hD [2, 0, 1] (by decide +kernel) rfl⟩, hS.F ht⟩) hS.2.2 dX6_takeByDrain_77
def vs_s_passMinute : List Cond := .code yX6_passMinute cX6_passMinute 4 none :: (([.fieldLink RX6 65 "KerbSplash$Street" "fallen" "I", .fieldLink RX6 41 "KerbSplash$Street" "drains" "I", .fieldLink RX6 62 "KerbSplash$Street" "minutes" "I", .fieldLink RX6 13 "KerbSplash$Street" "water" "[I"] : List Cond) ++ ((wsV RX6 80 RX6 yX6_cells vs_s_cells) ++ ((wsX60) ++ ((wsV RX6 125 RX6 yX6_runRounds vs_s_runRounds) ++ ((wsV RX6 128 RX6 yX6_takeByDrain vs_s_takeByDrain) ++ ([]))))))
theorem gd_s_passMinute : vs_s_passMinute.all goodWord = true := gd_C (by decide +kernel) (gd_A (by decide +kernel) (gd_A (gd_V gd_s_cells (by decide +kernel)) (gd_A (by decide +kernel) (gd_A (gd_V gd_s_runRounds (by decide +kernel)) (gd_A (gd_V gd_s_takeByDrain (by decide +kernel)) rfl)))))
set_option maxHeartbeats 4000000 in
set_option maxRecDepth 100000 in
theorem s_passMinute (l : Launch) (hl : l.stackTraces = false) (D : va_G) (cy : Nat → ClassId) (sa : Nat → Nat) (sA s2 s3 s6 s8 s11 s13 : Nat) (wi ro dr dt pe gu sh wo dn mi fl tk go : Int) (hf wf df : Nat → Int32) (n : Int) (sz : Nat) (hr_wi : 0 ≤ wi ∧ wi ≤ 16) (hr_ro : 0 ≤ ro ∧ ro ≤ 6) (hr_dr : 0 ≤ dr ∧ dr ≤ 14) (hr_dt : 0 ≤ dt ∧ dt ≤ 6) (hr_pe : 0 ≤ pe ∧ pe ≤ 8) (hr_gu : 0 ≤ gu ∧ gu ≤ 20) (hr_sh : 0 ≤ sh ∧ sh ≤ 2) (hr_wo : 0 ≤ wo ∧ wo ≤ 8) (hr_dn : (-2147483648) ≤ dn ∧ dn ≤ 2147483647) (hr_mi : 0 ≤ mi ∧ mi ≤ 600) (hr_fl : (-2147483648) ≤ fl ∧ fl ≤ 2147483647) (hr_tk : (-2147483648) ≤ tk ∧ tk ≤ 2147483647) (hr_go : (-2147483648) ≤ go ∧ go ≤ 2147483647) (hr_n : 0 ≤ n ∧ n ≤ 20) (hp0 : mi < 600) (hhf : inv_ 96 0 99 hf) (hdf : tab_ 4 14 [0, 0, 0, 0] [15, 5, 99, 16] df) : mV9 l yX6_passMinute vs_s_passMinute ({ frames := 3, cells := 0, slots := 0, locals := 75 }) D cy sa sz [vR sA, vI n] [zO sA 6 [vI wi, vI ro, vR s2, vR s3, vI dr, vI dt, vR s6, vI pe, vR s8, vI gu, vI sh, vR s11, vI wo, vR s13, vI dn, vI mi, vI fl, vI tk, vI go], zI s2 (cy 0) 96 hf, zI s3 (cy 0) 96 wf, zI s6 (cy 0) 56 df] (fun u : SV => (0 ≤ u.2.1 0 ∧ u.2.1 0 ≤ 600) ∧ ((-2147483648) ≤ u.2.1 1 ∧ u.2.1 1 ≤ 2147483647) ∧ ((-2147483648) ≤ u.2.1 2 ∧ u.2.1 2 ≤ 2147483647) ∧ (u.2.1 0 = mi + 1) ∧ inv_ 96 0 99 hf ∧ tab_ 4 14 [0, 0, 0, 0] [15, 5, 99, 16] df) (fun u : SV => [zO sA 6 [vI wi, vI ro, vR s2, vR s3, vI dr, vI dt, vR s6, vI pe, vR s8, vI gu, vI sh, vR s11, vI wo, vR s13, vI dn, vI (u.2.1 0), vI (u.2.1 1), vI (u.2.1 2), vI go], zI s2 (cy 0) 96 hf, zI s3 (cy 0) 96 (u.2.2 0), zI s6 (cy 0) 56 df]) 0 0 := by
  refine Met.ofW (cc := cX6_passMinute) (maxL := 4) (ret := none) (by decide) rfl ?_
  intro p e s m args below meth c s₁ B hml hv
  obtain ⟨rfl, hsz, hP, hG, hD0, hT⟩ := hv
  have hx := B.exec
  have hb := B.bytes
  have hr := B.returns
  have hts := atoms_spec (ws := vs_s_passMinute) B.pre
  have hown : s.vm.findClass RX6 = some m.cls := findClass_of_methodNamed B.named
  have hlocks := B.notSynchronized
  subst hsz
  have hD := hD0.self (sz := s.heap.size)
  generalize hAe : va_A [zO sA 6 [vI wi, vI ro, vR s2, vR s3, vI dr, vI dt, vR s6, vI pe, vR s8, vI gu, vI sh, vR s11, vI wo, vR s13, vI dn, vI mi, vI fl, vI tk, vI go], zI s2 (cy 0) 96 hf, zI s3 (cy 0) 96 wf, zI s6 (cy 0) 56 df] s.heap.size = A at hD hT ⊢
  have hA : ∀ q : Nat, s.heap.size ≤ q → A q := fun q h => by rw [← hAe]; exact Or.inr h
  have hS : va_S A s.heap s.heap [] := va_S.rf
  have hl0 := lv_entry ([vR sA, vI n]) (n := 4) (Nat.le_of_ble_eq_true rfl)
  rw [lg_entry_eq]
  generalize (lg_sl ([vR sA, vI n]) ++ List.replicate (4 - (lg_sl ([vR sA, vI n])).length) Slot.unset).toArray = ls at hl0 ⊢
  have hlv : lv_has ls 4 [(0, vR sA), (1, vI n)] := hl0
  have gg_0 : GoodIn vs_s_passMinute (wsV RX6 80 RX6 yX6_cells vs_s_cells) := goodIn_sub (fun w h => List.mem_cons_of_mem _ (List.mem_append_right _ (List.mem_append_left _ h))) (gd_V gd_s_cells (by decide +kernel))
  have lf65 := hts (.fieldLink RX6 65 "KerbSplash$Street" "fallen" "I") (List.mem_of_getElem? (i := 1) rfl)
  have hi6 : ∀ w ∈ wsX60, w ∈ vs_s_passMinute := fun w h => List.mem_cons_of_mem _ (List.mem_append_right _ (List.mem_append_right _ (List.mem_append_left _ h)))
  have gg_2 : GoodIn vs_s_passMinute (wsV RX6 125 RX6 yX6_runRounds vs_s_runRounds) := goodIn_sub (fun w h => List.mem_cons_of_mem _ (List.mem_append_right _ (List.mem_append_right _ (List.mem_append_right _ (List.mem_append_left _ h))))) (gd_V gd_s_runRounds (by decide +kernel))
  have lf41 := hts (.fieldLink RX6 41 "KerbSplash$Street" "drains" "I") (List.mem_of_getElem? (i := 2) rfl)
  have lf62 := hts (.fieldLink RX6 62 "KerbSplash$Street" "minutes" "I") (List.mem_of_getElem? (i := 3) rfl)
  have gg_3 : GoodIn vs_s_passMinute (wsV RX6 128 RX6 yX6_takeByDrain vs_s_takeByDrain) := goodIn_sub (fun w h => List.mem_cons_of_mem _ (List.mem_append_right _ (List.mem_append_right _ (List.mem_append_right _ (List.mem_append_right _ (List.mem_append_left _ h)))))) (gd_V gd_s_takeByDrain (by decide +kernel))
  have lf13 := hts (.fieldLink RX6 13 "KerbSplash$Street" "water" "[I") (List.mem_of_getElem? (i := 4) rfl)
  refine lv_aload_n hx hb dX6_passMinute_0 rfl (lv_at hlv 0 rfl) ?_
  refine cjr_i [false, true, true, true] (fun pre9 => (va_runV (As := []) (rest := []) ⟨hx, hb, hml, hown, hts⟩ (s_cells l hl D cy sa sA s2 s3 s6 s8 s11 s13 wi ro dr dt pe gu sh wo dn mi fl tk go s.heap.size (by first | exact hr_wi | omega) (by first | exact hr_ro | omega) (by first | exact hr_dr | omega) (by first | exact hr_dt | omega) (by first | exact hr_pe | omega) (by first | exact hr_gu | omega) (by first | exact hr_sh | omega) (by first | exact hr_wo | omega) (by first | exact hr_dn | omega) (by first | exact hr_mi | omega) (by first | exact hr_fl | omega) (by first | exact hr_tk | omega) (by first | exact hr_go | omega)) (cwV 0 hts gg_0 rfl rfl rfl (by decide +kernel) ⟨Nat.le_of_ble_eq_true rfl, Nat.le_of_ble_eq_true rfl⟩) ⟨pcW.blind, (va_recv hG.1 hP (ci := 6) (q0 := 0) rfl rfl), pre9⟩ rfl rfl hlv.1 rfl (lv_room (Nat.le_of_ble_eq_true rfl)) dX6_passMinute_1 ⟨Nat.le_of_ble_eq_true rfl, Nat.le_of_ble_eq_true rfl⟩)) hP hD hS hA hG hT [0] rfl (by decide +kernel) (fun r1 u1 H locs hw1 hq9 hS => ?_)
  obtain ⟨rfl, hq1_1⟩ := hw1
  obtain ⟨hP, hD⟩ := pd9 [zI s2 (cy 0) 96 hf, zI s3 (cy 0) 96 wf, zI s6 (cy 0) 56 df, zO sA 6 [vI wi, vI ro, vR s2, vR s3, vI dr, vI dt, vR s6, vI pe, vR s8, vI gu, vI sh, vR s11, vI wo, vR s13, vI dn, vI mi, vI fl, vI tk, vI go]] hq9
  refine lv_istore_n (lv' := [(2, vI (u1.2.1 0)), (0, vR sA), (1, vI n)]) hx hb dX6_passMinute_4 rfl hlv (by decide) rfl (fun ls hlv => ?_)
  refine lv_iconst (v := iI 0) hx hb dX6_passMinute_5 (by decide) ?_
  refine lv_istore_n (lv' := [(3, vI 0), (2, vI (u1.2.1 0)), (0, vR sA), (1, vI n)]) hx hb dX6_passMinute_6 rfl hlv (by decide) rfl (fun ls hlv => ?_)
  refine (?_ : ∀ (fu : Nat) (q3 : Int) (wg : Nat → Int32) (H : Heap) (locs : List Loc) (ls : Array Slot), 96 - q3 < (fu : Int) → (0 ≤ q3 ∧ q3 ≤ 96) → va_P D vwCl [zI s2 (cy 0) 96 hf, zI s3 (cy 0) 96 wg, zI s6 (cy 0) 56 df, zO sA 6 [vI wi, vI ro, vR s2, vR s3, vI dr, vI dt, vR s6, vI pe, vR s8, vI gu, vI sh, vR s11, vI wo, vR s13, vI dn, vI mi, vI fl, vI tk, vI go]] H → va_D A [zI s2 (cy 0) 96 hf, zI s3 (cy 0) 96 wg, zI s6 (cy 0) 56 df, zO sA 6 [vI wi, vI ro, vR s2, vR s3, vI dr, vI dt, vR s6, vI pe, vR s8, vI gu, vI sh, vR s11, vI wo, vR s13, vI dn, vI mi, vI fl, vI tk, vI go]] → va_S A s.heap H locs → lv_has ls 4 [(3, vI q3), (2, vI (u1.2.1 0)), (0, vR sA), (1, vI n)] → W p l e _ s m _ below meth c H locs _ _ _ (F0 m 7 ls [])) (((96 - 0) + 1 : Int)).toNat 0 wf _ _ _ (by omega) (by show (0 : Int) ≤ 0 ∧ (0 : Int) ≤ 96; decide)  hP hD hS hlv
  clear hP hD hS hlv
  intro fu
  induction fu with
  | zero => intro q3 wg H locs ls hm7 hl7_0  hP hD hS hlv; omega
  | succ fu ih7 =>
    intro q3 wg H locs ls hm7 hl7_0  hP hD hS hlv
    refine lv_iload_n hx hb dX6_passMinute_7 rfl (lv_at hlv 0 rfl) ?_
    refine lv_iload_n hx hb dX6_passMinute_8 rfl (lv_at hlv 1 rfl) ?_
    refine ir_ge (tgt := 28) hx hb dX6_passMinute_9 (by decide) (by first | exact rgw hl7_0 (by decide) (by decide) | omega) (by first | exact rgw hq1_1 (by decide) (by decide) | omega) (fun c_1 => ?_) (fun c_1 => ?_)
    · refine lv_aload_n hx hb dX6_passMinute_28 rfl (lv_at hlv 2 rfl) ?_
      refine lv_dup hx hb dX6_passMinute_29 rfl ?_
      refine va_get (D := D) (ci := 6) (v := vI fl) (C := RX6) (T := TX6) (N := 19) hx hb hts hi6 hown hG.1 hP 3 rfl rfl 16 (by decide) lf65 (fun _ h9 => h9) rfl dX6_passMinute_30 ?_
      refine lv_iload_n hx hb dX6_passMinute_33 rfl (lv_at hlv 3 rfl) ?_
      refine lv_iload_n hx hb dX6_passMinute_34 rfl (lv_at hlv 1 rfl) ?_
      refine lv_imul hx hb dX6_passMinute_35 ?_
      refine lt_e (e0 := n * (u1.2.1 0)) (Int32.ofInt_mul _ _).symm (fun z_2 hz_2 => ?_)
      have bz_2 : 0 ≤ z_2 ∧ z_2 ≤ 1920 := by rw [hz_2]; exact mul_bd (x := 20) (y := 96) (by omega) (by omega) (by decide)
      refine lv_iadd hx hb dX6_passMinute_36 ?_
      refine lt_z (fun z_3 ez_3 lz_3 hz_3 => ?_)
      refine va_put (D := D) (ci := 6) (v := vI z_3) (ty := .int) (C := RX6) (T := TX6) (N := 19) hx hb hts hi6 tyX6 tyX6_ok nmX6 hown hG.1 hP hD hS 3 rfl rfl 16 (by decide) lf65 (fun _ h9 => h9) rfl (by decide +kernel) rfl rfl (Nat.le_of_ble_eq_true rfl) dX6_passMinute_37 (fun H locs hP hD hS => ?_)
      obtain ⟨hP, hD⟩ := pw9 [zI s2 (cy 0) 96 hf, zI s3 (cy 0) 96 wg, zI s6 (cy 0) 56 df, zO sA 6 [vI wi, vI ro, vR s2, vR s3, vI dr, vI dt, vR s6, vI pe, vR s8, vI gu, vI sh, vR s11, vI wo, vR s13, vI dn, vI mi, vI z_3, vI tk, vI go]] hP hD
      refine lv_aload_n hx hb dX6_passMinute_40 rfl (lv_at hlv 2 rfl) ?_
      refine lv_bipush (v := iI 8) hx hb dX6_passMinute_41 (by decide) ?_
      refine cjr_v [false, false, true, false] (fun pre9 => (va_runV (As := [vI 8]) (rest := []) ⟨hx, hb, hml, hown, hts⟩ (s_runRounds l hl D cy sa sA s2 s3 s6 s8 s11 s13 wi ro dr dt pe gu sh wo dn mi z_3 tk go hf wg 8 H.size (by first | exact hr_wi | omega) (by first | exact hr_ro | omega) (by first | exact hr_dr | omega) (by first | exact hr_dt | omega) (by first | exact hr_pe | omega) (by first | exact hr_gu | omega) (by first | exact hr_sh | omega) (by first | exact hr_wo | omega) (by first | exact hr_dn | omega) (by first | exact hr_mi | omega) (by omega) (by first | exact hr_tk | omega) (by first | exact hr_go | omega) (by show (0 : Int) ≤ 8 ∧ (8 : Int) ≤ 99; decide) hhf) (cwV 1 hts gg_2 rfl rfl rfl (by decide +kernel) ⟨Nat.le_of_ble_eq_true rfl, Nat.le_of_ble_eq_true rfl⟩) ⟨pcW.blind, (va_recv hG.1 hP (ci := 6) (q0 := 3) rfl rfl), pre9⟩ rfl rfl hlv.1 rfl (lv_room (Nat.le_of_ble_eq_true rfl)) dX6_passMinute_43 ⟨Nat.le_of_ble_eq_true rfl, Nat.le_of_ble_eq_true rfl⟩)) hP hD hS hA hG hT [3, 0, 1] rfl (by decide +kernel) (fun u2 H locs hw2 hq9 hS => ?_)
      have hq2_0 : inv_ 96 0 99 hf := hw2
      obtain ⟨hP, hD⟩ := pd9 [zI s6 (cy 0) 56 df, zO sA 6 [vI wi, vI ro, vR s2, vR s3, vI dr, vI dt, vR s6, vI pe, vR s8, vI gu, vI sh, vR s11, vI wo, vR s13, vI dn, vI mi, vI z_3, vI tk, vI go], zI s2 (cy 0) 96 hf, zI s3 (cy 0) 96 (u2.2.2 0)] hq9
      refine lv_iconst (v := iI 0) hx hb dX6_passMinute_46 (by decide) ?_
      refine lv_istore_n (lv' := [(3, vI 0), (2, vI (u1.2.1 0)), (0, vR sA), (1, vI n)]) hx hb dX6_passMinute_47 rfl hlv (by decide) rfl (fun ls hlv => ?_)
      refine (?_ : ∀ (fu : Nat) (r3 : Int) (rt : Int) (wh : Nat → Int32) (H : Heap) (locs : List Loc) (ls : Array Slot), 14 - r3 < (fu : Int) → (0 ≤ r3 ∧ r3 ≤ 14) → ((-2147483648) ≤ rt ∧ rt ≤ 2147483647) → (r3 ≤ dr) → va_P D vwCl [zI s6 (cy 0) 56 df, zO sA 6 [vI wi, vI ro, vR s2, vR s3, vI dr, vI dt, vR s6, vI pe, vR s8, vI gu, vI sh, vR s11, vI wo, vR s13, vI dn, vI mi, vI z_3, vI rt, vI go], zI s2 (cy 0) 96 hf, zI s3 (cy 0) 96 wh] H → va_D A [zI s6 (cy 0) 56 df, zO sA 6 [vI wi, vI ro, vR s2, vR s3, vI dr, vI dt, vR s6, vI pe, vR s8, vI gu, vI sh, vR s11, vI wo, vR s13, vI dn, vI mi, vI z_3, vI rt, vI go], zI s2 (cy 0) 96 hf, zI s3 (cy 0) 96 wh] → va_S A s.heap H locs → lv_has ls 4 [(3, vI r3), (2, vI (u1.2.1 0)), (0, vR sA), (1, vI n)] → W p l e _ s m _ below meth c H locs _ _ _ (F0 m 48 ls [])) (((14 - 0) + 1 : Int)).toNat 0 tk (u2.2.2 0) _ _ _ (by omega) (by show (0 : Int) ≤ 0 ∧ (0 : Int) ≤ 14; decide) (by first | exact hr_tk | omega) (by omega)  hP hD hS hlv
      clear hP hD hS hlv
      intro fu
      induction fu with
      | zero => intro r3 rt wh H locs ls hm48 hl48_0 hl48_1 hl48_2  hP hD hS hlv; omega
      | succ fu ih48 =>
        intro r3 rt wh H locs ls hm48 hl48_0 hl48_1 hl48_2  hP hD hS hlv
        refine lv_iload_n hx hb dX6_passMinute_48 rfl (lv_at hlv 0 rfl) ?_
        refine lv_aload_n hx hb dX6_passMinute_49 rfl (lv_at hlv 2 rfl) ?_
        refine va_get (D := D) (ci := 6) (v := vI dr) (C := RX6) (T := TX6) (N := 19) hx hb hts hi6 hown hG.1 hP 1 rfl rfl 4 (by decide) lf41 (fun _ h9 => h9) rfl dX6_passMinute_50 ?_
        refine ir_ge (tgt := 69) hx hb dX6_passMinute_53 (by decide) (by first | exact rgw hl48_0 (by decide) (by decide) | omega) (by first | exact rgw hr_dr (by decide) (by decide) | omega) (fun c_4 => ?_) (fun c_4 => ?_)
        · refine lv_aload_n hx hb dX6_passMinute_69 rfl (lv_at hlv 2 rfl) ?_
          refine lv_dup hx hb dX6_passMinute_70 rfl ?_
          refine va_get (D := D) (ci := 6) (v := vI mi) (C := RX6) (T := TX6) (N := 19) hx hb hts hi6 hown hG.1 hP 1 rfl rfl 15 (by decide) lf62 (fun _ h9 => h9) rfl dX6_passMinute_71 ?_
          refine lv_iconst (v := iI 1) hx hb dX6_passMinute_74 (by decide) ?_
          refine lv_iadd hx hb dX6_passMinute_75 ?_
          refine lt_e (e0 := mi + 1) (Int32.ofInt_add _ _).symm (fun z_5 hz_5 => ?_)
          refine va_put (D := D) (ci := 6) (v := vI z_5) (ty := .int) (C := RX6) (T := TX6) (N := 19) hx hb hts hi6 tyX6 tyX6_ok nmX6 hown hG.1 hP hD hS 1 rfl rfl 15 (by decide) lf62 (fun _ h9 => h9) rfl (by decide +kernel) rfl rfl (Nat.le_of_ble_eq_true rfl) dX6_passMinute_76 (fun H locs hP hD hS => ?_)
          obtain ⟨hP, hD⟩ := pw9 [zI s6 (cy 0) 56 df, zO sA 6 [vI wi, vI ro, vR s2, vR s3, vI dr, vI dt, vR s6, vI pe, vR s8, vI gu, vI sh, vR s11, vI wo, vR s13, vI dn, vI z_5, vI z_3, vI rt, vI go], zI s2 (cy 0) 96 hf, zI s3 (cy 0) 96 wh] hP hD
          refine W.widen (k := 0) (n := 0) (Nat.le_of_ble_eq_true rfl) (Nat.le_of_ble_eq_true rfl) ?_
          exact W.vret hx hb hr (fun t ht hW => ⟨⟨((fun k => ([] : List Nat).getD k 0), (fun k => ([z_5, z_3, rt] : List Int).getD k 0), (fun k => ([wh] : List (Nat → Int32)).getD k (fun _ => 0))), rfl, ⟨(by show (0 ≤ z_5 ∧ z_5 ≤ 600); omega), (by show ((-2147483648) ≤ z_3 ∧ z_3 ≤ 2147483647); omega), (by show ((-2147483648) ≤ rt ∧ rt ≤ 2147483647); first | exact hl48_1 | omega), (by show (z_5 = mi + 1); omega), hq2_0, hdf⟩, at9 ht hP hD [1, 2, 3, 0] (by decide +kernel) rfl⟩, hS.F ht⟩) hS.2.2 dX6_passMinute_79
        · refine lv_aload_n hx hb dX6_passMinute_56 rfl (lv_at hlv 2 rfl) ?_
          refine lv_iconst (v := iI 4) hx hb dX6_passMinute_57 (by decide) ?_
          refine lv_iload_n hx hb dX6_passMinute_58 rfl (lv_at hlv 0 rfl) ?_
          refine lv_imul hx hb dX6_passMinute_59 ?_
          refine lt_e (e0 := 4 * r3) (Int32.ofInt_mul _ _).symm (fun z_6 hz_6 => ?_)
          refine cjr_v [false, false, true, false] (fun pre9 => (va_runV (As := [vI z_6]) (rest := []) ⟨hx, hb, hml, hown, hts⟩ (s_takeByDrain l hl D cy sa sA s2 s3 s6 s8 s11 s13 wi ro dr dt pe gu sh wo dn mi z_3 rt go df wh z_6 r3 H.size (by first | exact hr_wi | omega) (by first | exact hr_ro | omega) (by first | exact hr_dr | omega) (by first | exact hr_dt | omega) (by first | exact hr_pe | omega) (by first | exact hr_gu | omega) (by first | exact hr_sh | omega) (by first | exact hr_wo | omega) (by first | exact hr_dn | omega) (by first | exact hr_mi | omega) (by omega) (by first | exact hl48_1 | omega) (by first | exact hr_go | omega) (by omega) (by omega) (by omega) hdf) (cwV 1 hts gg_3 rfl rfl rfl (by decide +kernel) ⟨Nat.le_of_ble_eq_true rfl, Nat.le_of_ble_eq_true rfl⟩) ⟨pcW.blind, (va_recv hG.1 hP (ci := 6) (q0 := 1) rfl rfl), pre9⟩ rfl rfl hlv.1 rfl (lv_room (Nat.le_of_ble_eq_true rfl)) dX6_passMinute_60 ⟨Nat.le_of_ble_eq_true rfl, Nat.le_of_ble_eq_true rfl⟩)) hP hD hS hA hG hT [1, 0, 3] rfl (by decide +kernel) (fun u3 H locs hw3 hq9 hS => ?_)
          obtain ⟨hq3_0, hq3_1⟩ := hw3
          obtain ⟨hP, hD⟩ := pd9 [zI s2 (cy 0) 96 hf, zO sA 6 [vI wi, vI ro, vR s2, vR s3, vI dr, vI dt, vR s6, vI pe, vR s8, vI gu, vI sh, vR s11, vI wo, vR s13, vI dn, vI mi, vI z_3, vI (u3.2.1 0), vI go], zI s6 (cy 0) 56 df, zI s3 (cy 0) 96 (u3.2.2 0)] hq9
          obtain ⟨z_7, hz_7⟩ : ∃ z : Int, z = r3 + 1 := ⟨_, rfl⟩
          refine lv_iinc (v := iI z_7) (lv' := [(3, vI z_7), (2, vI (u1.2.1 0)), (0, vR sA), (1, vI n)]) hx hb dX6_passMinute_63 hlv (k := 0) rfl (by rw [hz_7]; exact (Int32.ofInt_add _ _).symm) (by decide) rfl (fun ls hlv => ?_)
          refine lv_goto (tgt := 48) hx hb dX6_passMinute_66 (by decide) ?_
          exact ih48 z_7 (u3.2.1 0) (u3.2.2 0) H locs ls (by omega) (by omega) (by first | exact hq3_0 | omega) (by omega)  (hP.sub [2, 1, 0, 3] rfl) (hD.sub [2, 1, 0, 3] (by decide) rfl) hS (lv_sub hlv [0, 1, 2, 3] rfl)
    · refine lv_aload_n hx hb dX6_passMinute_12 rfl (lv_at hlv 2 rfl) ?_
      refine va_get (D := D) (ci := 6) (v := vR s3) (C := RX6) (T := TX6) (N := 19) hx hb hts hi6 hown hG.1 hP 3 rfl rfl 3 (by decide) lf13 (fun _ h9 => h9) rfl dX6_passMinute_13 ?_
      refine lv_iload_n hx hb dX6_passMinute_16 rfl (lv_at hlv 0 rfl) ?_
      refine lv_dup2_11 hx hb dX6_passMinute_17 rfl rfl ?_
      refine va_iald hx hb hG.1 hP 1 0 rfl rfl (iI_in (by omega) (by decide)) dX6_passMinute_18 ?_
      refine lt_z (fun z_8 ez_8 lz_8 hz_8 => ?_)
      refine lv_iload_n hx hb dX6_passMinute_19 rfl (lv_at hlv 3 rfl) ?_
      refine lv_iadd hx hb dX6_passMinute_20 ?_
      refine lt_z (fun z_9 ez_9 lz_9 hz_9 => ?_)
      refine va_iast hx hb hG.1 hP hD hS 1 0 rfl rfl (iI_in (by omega) (by decide)) dX6_passMinute_21 (fun H locs hP hD hS => ?_)
      obtain ⟨f_10, hP, hD⟩ := pe9 (fun f_10 => [zI s2 (cy 0) 96 hf, zI s3 (cy 0) 96 f_10, zI s6 (cy 0) 56 df, zO sA 6 [vI wi, vI ro, vR s2, vR s3, vI dr, vI dt, vR s6, vI pe, vR s8, vI gu, vI sh, vR s11, vI wo, vR s13, vI dn, vI mi, vI fl, vI tk, vI go]]) _ hP hD
      obtain ⟨z_11, hz_11⟩ : ∃ z : Int, z = q3 + 1 := ⟨_, rfl⟩
      refine lv_iinc (v := iI z_11) (lv' := [(3, vI z_11), (2, vI (u1.2.1 0)), (0, vR sA), (1, vI n)]) hx hb dX6_passMinute_22 hlv (k := 0) rfl (by rw [hz_11]; exact (Int32.ofInt_add _ _).symm) (by decide) rfl (fun ls hlv => ?_)
      refine lv_goto (tgt := 7) hx hb dX6_passMinute_25 (by decide) ?_
      exact ih7 z_11 f_10 H locs ls (by omega) (by omega)  (hP.sub [0, 1, 2, 3] rfl) (hD.sub [0, 1, 2, 3] (by decide) rfl) hS (lv_sub hlv [0, 1, 2, 3] rfl)
end
section
theorem dX6_longestIce_0 : decode cX6_longestIce 0 = .ok (.iconst 0, 1) := by decide +kernel
theorem dX6_longestIce_1 : decode cX6_longestIce 1 = .ok (.istore_n 2, 1) := by decide +kernel
theorem dX6_longestIce_12 : decode cX6_longestIce 12 = .ok (.iconst 0, 1) := by decide +kernel
theorem dX6_longestIce_13 : decode cX6_longestIce 13 = .ok (.istore 4, 2) := by decide +kernel
theorem dX6_longestIce_15 : decode cX6_longestIce 15 = .ok (.iconst 0, 1) := by decide +kernel
theorem dX6_longestIce_16 : decode cX6_longestIce 16 = .ok (.istore 5, 2) := by decide +kernel
theorem dX6_longestIce_18 : decode cX6_longestIce 18 = .ok (.iload 5, 2) := by decide +kernel
theorem dX6_longestIce_2 : decode cX6_longestIce 2 = .ok (.iconst 0, 1) := by decide +kernel
theorem dX6_longestIce_20 : decode cX6_longestIce 20 = .ok (.aload_n 0, 1) := by decide +kernel
theorem dX6_longestIce_21 : decode cX6_longestIce 21 = .ok (.getfield 28, 3) := by decide +kernel
theorem dX6_longestIce_24 : decode cX6_longestIce 24 = .ok (.if_icmp .ge 42, 3) := by decide +kernel
theorem dX6_longestIce_27 : decode cX6_longestIce 27 = .ok (.aload_n 0, 1) := by decide +kernel
theorem dX6_longestIce_28 : decode cX6_longestIce 28 = .ok (.getfield 13, 3) := by decide +kernel
theorem dX6_longestIce_3 : decode cX6_longestIce 3 = .ok (.istore_n 3, 1) := by decide +kernel
theorem dX6_longestIce_31 : decode cX6_longestIce 31 = .ok (.aload_n 0, 1) := by decide +kernel
theorem dX6_longestIce_32 : decode cX6_longestIce 32 = .ok (.iload 5, 2) := by decide +kernel
theorem dX6_longestIce_34 : decode cX6_longestIce 34 = .ok (.iload_n 3, 1) := by decide +kernel
theorem dX6_longestIce_35 : decode cX6_longestIce 35 = .ok (.invokevirtual 88, 3) := by decide +kernel
theorem dX6_longestIce_38 : decode cX6_longestIce 38 = .ok (.iaload, 1) := by decide +kernel
theorem dX6_longestIce_39 : decode cX6_longestIce 39 = .ok (.iload_n 1, 1) := by decide +kernel
theorem dX6_longestIce_4 : decode cX6_longestIce 4 = .ok (.iload_n 3, 1) := by decide +kernel
theorem dX6_longestIce_40 : decode cX6_longestIce 40 = .ok (.if_icmp .lt 10, 3) := by decide +kernel
theorem dX6_longestIce_43 : decode cX6_longestIce 43 = .ok (.iload 4, 2) := by decide +kernel
theorem dX6_longestIce_45 : decode cX6_longestIce 45 = .ok (.iconst 1, 1) := by decide +kernel
theorem dX6_longestIce_46 : decode cX6_longestIce 46 = .ok (.iadd, 1) := by decide +kernel
theorem dX6_longestIce_47 : decode cX6_longestIce 47 = .ok (.goto 4, 3) := by decide +kernel
theorem dX6_longestIce_5 : decode cX6_longestIce 5 = .ok (.aload_n 0, 1) := by decide +kernel
theorem dX6_longestIce_50 : decode cX6_longestIce 50 = .ok (.iconst 0, 1) := by decide +kernel
theorem dX6_longestIce_51 : decode cX6_longestIce 51 = .ok (.istore 4, 2) := by decide +kernel
theorem dX6_longestIce_53 : decode cX6_longestIce 53 = .ok (.iload_n 2, 1) := by decide +kernel
theorem dX6_longestIce_54 : decode cX6_longestIce 54 = .ok (.iload 4, 2) := by decide +kernel
theorem dX6_longestIce_56 : decode cX6_longestIce 56 = .ok (.invokestatic 142, 3) := by decide +kernel
theorem dX6_longestIce_59 : decode cX6_longestIce 59 = .ok (.istore_n 2, 1) := by decide +kernel
theorem dX6_longestIce_6 : decode cX6_longestIce 6 = .ok (.getfield 32, 3) := by decide +kernel
theorem dX6_longestIce_60 : decode cX6_longestIce 60 = .ok (.iinc 5 1, 3) := by decide +kernel
theorem dX6_longestIce_63 : decode cX6_longestIce 63 = .ok (.goto (-45), 3) := by decide +kernel
theorem dX6_longestIce_66 : decode cX6_longestIce 66 = .ok (.iinc 3 1, 3) := by decide +kernel
theorem dX6_longestIce_69 : decode cX6_longestIce 69 = .ok (.goto (-65), 3) := by decide +kernel
theorem dX6_longestIce_72 : decode cX6_longestIce 72 = .ok (.iload_n 2, 1) := by decide +kernel
theorem dX6_longestIce_73 : decode cX6_longestIce 73 = .ok (.ireturn, 1) := by decide +kernel
theorem dX6_longestIce_9 : decode cX6_longestIce 9 = .ok (.if_icmp .ge 63, 3) := by decide +kernel
theorem dX6_passMinutes_0 : decode cX6_passMinutes 0 = .ok (.iload_n 1, 1) := by decide +kernel
theorem dX6_passMinutes_1 : decode cX6_passMinutes 1 = .ok (.sipush 600, 3) := by decide +kernel
theorem dX6_passMinutes_12 : decode cX6_passMinutes 12 = .ok (.istore_n 3, 1) := by decide +kernel
theorem dX6_passMinutes_13 : decode cX6_passMinutes 13 = .ok (.iconst 0, 1) := by decide +kernel
theorem dX6_passMinutes_14 : decode cX6_passMinutes 14 = .ok (.istore 4, 2) := by decide +kernel
theorem dX6_passMinutes_16 : decode cX6_passMinutes 16 = .ok (.iload 4, 2) := by decide +kernel
theorem dX6_passMinutes_18 : decode cX6_passMinutes 18 = .ok (.iload_n 3, 1) := by decide +kernel
theorem dX6_passMinutes_19 : decode cX6_passMinutes 19 = .ok (.if_icmp .ge 14, 3) := by decide +kernel
theorem dX6_passMinutes_22 : decode cX6_passMinutes 22 = .ok (.aload_n 0, 1) := by decide +kernel
theorem dX6_passMinutes_23 : decode cX6_passMinutes 23 = .ok (.iload_n 2, 1) := by decide +kernel
theorem dX6_passMinutes_24 : decode cX6_passMinutes 24 = .ok (.invokevirtual 115, 3) := by decide +kernel
theorem dX6_passMinutes_27 : decode cX6_passMinutes 27 = .ok (.iinc 4 1, 3) := by decide +kernel
theorem dX6_passMinutes_30 : decode cX6_passMinutes 30 = .ok (.goto (-14), 3) := by decide +kernel
theorem dX6_passMinutes_33 : decode cX6_passMinutes 33 = .ok (.iload_n 3, 1) := by decide +kernel
theorem dX6_passMinutes_34 : decode cX6_passMinutes 34 = .ok (.ireturn, 1) := by decide +kernel
theorem dX6_passMinutes_4 : decode cX6_passMinutes 4 = .ok (.aload_n 0, 1) := by decide +kernel
theorem dX6_passMinutes_5 : decode cX6_passMinutes 5 = .ok (.getfield 62, 3) := by decide +kernel
theorem dX6_passMinutes_8 : decode cX6_passMinutes 8 = .ok (.isub, 1) := by decide +kernel
theorem dX6_passMinutes_9 : decode cX6_passMinutes 9 = .ok (.invokestatic 110, 3) := by decide +kernel
theorem dX6_personsOnIce_0 : decode cX6_personsOnIce 0 = .ok (.iconst 0, 1) := by decide +kernel
theorem dX6_personsOnIce_1 : decode cX6_personsOnIce 1 = .ok (.istore_n 2, 1) := by decide +kernel
theorem dX6_personsOnIce_12 : decode cX6_personsOnIce 12 = .ok (.aload_n 0, 1) := by decide +kernel
theorem dX6_personsOnIce_13 : decode cX6_personsOnIce 13 = .ok (.getfield 13, 3) := by decide +kernel
theorem dX6_personsOnIce_16 : decode cX6_personsOnIce 16 = .ok (.aload_n 0, 1) := by decide +kernel
theorem dX6_personsOnIce_17 : decode cX6_personsOnIce 17 = .ok (.aload_n 0, 1) := by decide +kernel
theorem dX6_personsOnIce_18 : decode cX6_personsOnIce 18 = .ok (.getfield 19, 3) := by decide +kernel
theorem dX6_personsOnIce_2 : decode cX6_personsOnIce 2 = .ok (.iconst 0, 1) := by decide +kernel
theorem dX6_personsOnIce_21 : decode cX6_personsOnIce 21 = .ok (.iconst 4, 1) := by decide +kernel
theorem dX6_personsOnIce_22 : decode cX6_personsOnIce 22 = .ok (.iload_n 3, 1) := by decide +kernel
theorem dX6_personsOnIce_23 : decode cX6_personsOnIce 23 = .ok (.imul, 1) := by decide +kernel
theorem dX6_personsOnIce_24 : decode cX6_personsOnIce 24 = .ok (.iaload, 1) := by decide +kernel
theorem dX6_personsOnIce_25 : decode cX6_personsOnIce 25 = .ok (.iconst 0, 1) := by decide +kernel
theorem dX6_personsOnIce_26 : decode cX6_personsOnIce 26 = .ok (.invokevirtual 88, 3) := by decide +kernel
theorem dX6_personsOnIce_29 : decode cX6_personsOnIce 29 = .ok (.iaload, 1) := by decide +kernel
theorem dX6_personsOnIce_3 : decode cX6_personsOnIce 3 = .ok (.istore_n 3, 1) := by decide +kernel
theorem dX6_personsOnIce_30 : decode cX6_personsOnIce 30 = .ok (.iload_n 1, 1) := by decide +kernel
theorem dX6_personsOnIce_31 : decode cX6_personsOnIce 31 = .ok (.if_icmp .lt 6, 3) := by decide +kernel
theorem dX6_personsOnIce_34 : decode cX6_personsOnIce 34 = .ok (.iinc 2 1, 3) := by decide +kernel
theorem dX6_personsOnIce_37 : decode cX6_personsOnIce 37 = .ok (.iinc 3 1, 3) := by decide +kernel
theorem dX6_personsOnIce_4 : decode cX6_personsOnIce 4 = .ok (.iload_n 3, 1) := by decide +kernel
theorem dX6_personsOnIce_40 : decode cX6_personsOnIce 40 = .ok (.goto (-36), 3) := by decide +kernel
theorem dX6_personsOnIce_43 : decode cX6_personsOnIce 43 = .ok (.iload_n 2, 1) := by decide +kernel
theorem dX6_personsOnIce_44 : decode cX6_personsOnIce 44 = .ok (.ireturn, 1) := by decide +kernel
theorem dX6_personsOnIce_5 : decode cX6_personsOnIce 5 = .ok (.aload_n 0, 1) := by decide +kernel
theorem dX6_personsOnIce_6 : decode cX6_personsOnIce 6 = .ok (.getfield 47, 3) := by decide +kernel
theorem dX6_personsOnIce_9 : decode cX6_personsOnIce 9 = .ok (.if_icmp .ge 34, 3) := by decide +kernel
def vs_s_passMinutes : List Cond := .code yX6_passMinutes cX6_passMinutes 5 (some .int) :: (([.fieldLink RX6 62 "KerbSplash$Street" "minutes" "I", .methodLink RX6 110 Lib.Math.min.name, .static Lib.Math.min.name, .initialized "java/lang/Math", .code Lib.Math.min.name Lib.Math.min.code 2 (some .int)] : List Cond) ++ ((wsX60) ++ ((wsV RX6 115 RX6 yX6_passMinute vs_s_passMinute) ++ ([]))))
theorem gd_s_passMinutes : vs_s_passMinutes.all goodWord = true := gd_C (by decide +kernel) (gd_A (by decide +kernel) (gd_A (by decide +kernel) (gd_A (gd_V gd_s_passMinute (by decide +kernel)) rfl)))
set_option maxHeartbeats 4000000 in
set_option maxRecDepth 100000 in
theorem s_passMinutes (l : Launch) (hl : l.stackTraces = false) (D : va_G) (cy : Nat → ClassId) (sa : Nat → Nat) (sA s2 s3 s6 s8 s11 s13 : Nat) (wi ro dr dt pe gu sh wo dn mi fl tk go : Int) (hf wf df : Nat → Int32) (n f : Int) (sz : Nat) (hr_wi : 0 ≤ wi ∧ wi ≤ 16) (hr_ro : 0 ≤ ro ∧ ro ≤ 6) (hr_dr : 0 ≤ dr ∧ dr ≤ 14) (hr_dt : 0 ≤ dt ∧ dt ≤ 6) (hr_pe : 0 ≤ pe ∧ pe ≤ 8) (hr_gu : 0 ≤ gu ∧ gu ≤ 20) (hr_sh : 0 ≤ sh ∧ sh ≤ 2) (hr_wo : 0 ≤ wo ∧ wo ≤ 8) (hr_dn : (-2147483648) ≤ dn ∧ dn ≤ 2147483647) (hr_mi : 0 ≤ mi ∧ mi ≤ 600) (hr_fl : (-2147483648) ≤ fl ∧ fl ≤ 2147483647) (hr_tk : (-2147483648) ≤ tk ∧ tk ≤ 2147483647) (hr_go : (-2147483648) ≤ go ∧ go ≤ 2147483647) (hr_n : 0 ≤ n ∧ n ≤ 60) (hr_f : 0 ≤ f ∧ f ≤ 20) (hhf : inv_ 96 0 99 hf) (hdf : tab_ 4 14 [0, 0, 0, 0] [15, 5, 99, 16] df) : mI9 l yX6_passMinutes vs_s_passMinutes ({ frames := 4, cells := 0, slots := 0, locals := 98 }) D cy sa sz [vR sA, vI n, vI f] [zO sA 6 [vI wi, vI ro, vR s2, vR s3, vI dr, vI dt, vR s6, vI pe, vR s8, vI gu, vI sh, vR s11, vI wo, vR s13, vI dn, vI mi, vI fl, vI tk, vI go], zI s2 (cy 0) 96 hf, zI s3 (cy 0) 96 wf, zI s6 (cy 0) 56 df] (fun (r : Int32) (u : SV) => r = iI (u.2.1 3) ∧ (0 ≤ u.2.1 0 ∧ u.2.1 0 ≤ 600) ∧ ((-2147483648) ≤ u.2.1 1 ∧ u.2.1 1 ≤ 2147483647) ∧ ((-2147483648) ≤ u.2.1 2 ∧ u.2.1 2 ≤ 2147483647) ∧ (0 ≤ u.2.1 3 ∧ u.2.1 3 ≤ 60) ∧ inv_ 96 0 99 hf ∧ tab_ 4 14 [0, 0, 0, 0] [15, 5, 99, 16] df) (fun u : SV => [zO sA 6 [vI wi, vI ro, vR s2, vR s3, vI dr, vI dt, vR s6, vI pe, vR s8, vI gu, vI sh, vR s11, vI wo, vR s13, vI dn, vI (u.2.1 0), vI (u.2.1 1), vI (u.2.1 2), vI go], zI s2 (cy 0) 96 hf, zI s3 (cy 0) 96 (u.2.2 0), zI s6 (cy 0) 56 df]) 0 0 := by
  refine Met.ofW (cc := cX6_passMinutes) (maxL := 5) (ret := (some .int)) (by decide) rfl ?_
  intro p e s m args below meth c s₁ B hml hv
  obtain ⟨rfl, hsz, hP, hG, hD0, hT⟩ := hv
  have hx := B.exec
  have hb := B.bytes
  have hr := B.returns
  have hts := atoms_spec (ws := vs_s_passMinutes) B.pre
  have hown : s.vm.findClass RX6 = some m.cls := findClass_of_methodNamed B.named
  have hlocks := B.notSynchronized
  subst hsz
  have hD := hD0.self (sz := s.heap.size)
  generalize hAe : va_A [zO sA 6 [vI wi, vI ro, vR s2, vR s3, vI dr, vI dt, vR s6, vI pe, vR s8, vI gu, vI sh, vR s11, vI wo, vR s13, vI dn, vI mi, vI fl, vI tk, vI go], zI s2 (cy 0) 96 hf, zI s3 (cy 0) 96 wf, zI s6 (cy 0) 56 df] s.heap.size = A at hD hT ⊢
  have hA : ∀ q : Nat, s.heap.size ≤ q → A q := fun q h => by rw [← hAe]; exact Or.inr h
  have hS : va_S A s.heap s.heap [] := va_S.rf
  have hl0 := lv_entry ([vR sA, vI n, vI f]) (n := 5) (Nat.le_of_ble_eq_true rfl)
  rw [lg_entry_eq]
  generalize (lg_sl ([vR sA, vI n, vI f]) ++ List.replicate (5 - (lg_sl ([vR sA, vI n, vI f])).length) Slot.unset).toArray = ls at hl0 ⊢
  have hlv : lv_has ls 5 [(0, vR sA), (1, vI n), (2, vI f)] := hl0
  have lf62 := hts (.fieldLink RX6 62 "KerbSplash$Street" "minutes" "I") (List.mem_of_getElem? (i := 1) rfl)
  have hi6 : ∀ w ∈ wsX60, w ∈ vs_s_passMinutes := fun w h => List.mem_cons_of_mem _ (List.mem_append_right _ (List.mem_append_left _ h))
  have mk110 := hts (.methodLink RX6 110 Lib.Math.min.name) (List.mem_of_getElem? (i := 2) rfl)
  have ms_min := hts (.static Lib.Math.min.name) (List.mem_of_getElem? (i := 3) rfl)
  have mi_ := hts (.initialized "java/lang/Math") (List.mem_of_getElem? (i := 4) rfl)
  have mc_min := hts (.code Lib.Math.min.name Lib.Math.min.code 2 (some .int)) (List.mem_of_getElem? (i := 5) rfl)
  have gg_1 : GoodIn vs_s_passMinutes (wsV RX6 115 RX6 yX6_passMinute vs_s_passMinute) := goodIn_sub (fun w h => List.mem_cons_of_mem _ (List.mem_append_right _ (List.mem_append_right _ (List.mem_append_left _ h)))) (gd_V gd_s_passMinute (by decide +kernel))
  refine lv_iload_n hx hb dX6_passMinutes_0 rfl (lv_at hlv 1 rfl) ?_
  refine lv_sipush (v := iI 600) hx hb dX6_passMinutes_1 (by decide) ?_
  refine lv_aload_n hx hb dX6_passMinutes_4 rfl (lv_at hlv 0 rfl) ?_
  refine va_get (D := D) (ci := 6) (v := vI mi) (C := RX6) (T := TX6) (N := 19) hx hb hts hi6 hown hG.1 hP 0 rfl rfl 15 (by decide) lf62 (fun _ h9 => h9) rfl dX6_passMinutes_5 ?_
  refine lv_isub hx hb dX6_passMinutes_8 ?_
  refine lt_e (e0 := 600 - mi) (Int32.ofInt_sub _ _).symm (fun z_1 hz_1 => ?_)
  refine va_mmin hx hb (hml.trans hlv.1.symm) hown mk110 ms_min mi_ mc_min (Nat.le_of_ble_eq_true rfl) (Nat.le_of_ble_eq_true rfl) (Nat.le_of_ble_eq_true rfl) (Nat.le_of_ble_eq_true rfl) dX6_passMinutes_9 ?_
  refine lt_mn (by omega) (by omega) (fun z_2 hz_2 => ?_)
  refine lv_istore_n (lv' := [(3, vI z_2), (0, vR sA), (1, vI n), (2, vI f)]) hx hb dX6_passMinutes_12 rfl hlv (by decide) rfl (fun ls hlv => ?_)
  refine lv_iconst (v := iI 0) hx hb dX6_passMinutes_13 (by decide) ?_
  refine lv_istore (lv' := [(4, vI 0), (3, vI z_2), (0, vR sA), (1, vI n), (2, vI f)]) hx hb dX6_passMinutes_14 hlv (by decide) rfl (fun ls hlv => ?_)
  refine (?_ : ∀ (fu : Nat) (q4 : Int) (qm : Int) (qf : Int) (qt : Int) (wg : Nat → Int32) (H : Heap) (locs : List Loc) (ls : Array Slot), 60 - q4 < (fu : Int) → (0 ≤ q4 ∧ q4 ≤ 60) → (0 ≤ qm ∧ qm ≤ 600) → ((-2147483648) ≤ qf ∧ qf ≤ 2147483647) → ((-2147483648) ≤ qt ∧ qt ≤ 2147483647) → (qm = mi + q4) → va_P D vwCl [zO sA 6 [vI wi, vI ro, vR s2, vR s3, vI dr, vI dt, vR s6, vI pe, vR s8, vI gu, vI sh, vR s11, vI wo, vR s13, vI dn, vI qm, vI qf, vI qt, vI go], zI s2 (cy 0) 96 hf, zI s3 (cy 0) 96 wg, zI s6 (cy 0) 56 df] H → va_D A [zO sA 6 [vI wi, vI ro, vR s2, vR s3, vI dr, vI dt, vR s6, vI pe, vR s8, vI gu, vI sh, vR s11, vI wo, vR s13, vI dn, vI qm, vI qf, vI qt, vI go], zI s2 (cy 0) 96 hf, zI s3 (cy 0) 96 wg, zI s6 (cy 0) 56 df] → va_S A s.heap H locs → lv_has ls 5 [(4, vI q4), (3, vI z_2), (0, vR sA), (1, vI n), (2, vI f)] → W p l e _ s m _ below meth c H locs _ _ _ (F0 m 16 ls [])) (((60 - 0) + 1 : Int)).toNat 0 mi fl tk wf _ _ _ (by omega) (by show (0 : Int) ≤ 0 ∧ (0 : Int) ≤ 60; decide) (by first | exact hr_mi | omega) (by first | exact hr_fl | omega) (by first | exact hr_tk | omega) (by omega)  hP hD hS hlv
  clear hP hD hS hlv
  intro fu
  induction fu with
  | zero => intro q4 qm qf qt wg H locs ls hm16 hl16_0 hl16_1 hl16_2 hl16_3 hl16_4  hP hD hS hlv; omega
  | succ fu ih16 =>
    intro q4 qm qf qt wg H locs ls hm16 hl16_0 hl16_1 hl16_2 hl16_3 hl16_4  hP hD hS hlv
    refine lv_iload hx hb dX6_passMinutes_16 (lv_at hlv 0 rfl) ?_
    refine lv_iload_n hx hb dX6_passMinutes_18 rfl (lv_at hlv 1 rfl) ?_
    refine ir_ge (tgt := 33) hx hb dX6_passMinutes_19 (by decide) (by first | exact rgw hl16_0 (by decide) (by decide) | omega) (by omega) (fun c_3 => ?_) (fun c_3 => ?_)
    · refine lv_iload_n hx hb dX6_passMinutes_33 rfl (lv_at hlv 1 rfl) ?_
      refine W.widen (k := 0) (n := 0) (Nat.le_of_ble_eq_true rfl) (Nat.le_of_ble_eq_true rfl) ?_
      exact W.iret (v := iI z_2) hx hb hr (fun t ht hW => ⟨⟨iI z_2, ((fun k => ([] : List Nat).getD k 0), (fun k => ([qm, qf, qt, z_2] : List Int).getD k 0), (fun k => ([wg] : List (Nat → Int32)).getD k (fun _ => 0))), rfl, ⟨rfl, (by show (0 ≤ qm ∧ qm ≤ 600); first | exact hl16_1 | omega), (by show ((-2147483648) ≤ qf ∧ qf ≤ 2147483647); first | exact hl16_2 | omega), (by show ((-2147483648) ≤ qt ∧ qt ≤ 2147483647); first | exact hl16_3 | omega), (by show (0 ≤ z_2 ∧ z_2 ≤ 60); omega), hhf, hdf⟩, at9 ht hP hD [0, 1, 2, 3] (by decide +kernel) rfl⟩, hS.F ht⟩) hS.2.2 dX6_passMinutes_34
    · refine lv_aload_n hx hb dX6_passMinutes_22 rfl (lv_at hlv 2 rfl) ?_
      refine lv_iload_n hx hb dX6_passMinutes_23 rfl (lv_at hlv 4 rfl) ?_
      refine cjr_v [false, false, false, false] (fun pre9 => (va_runV (As := [vI f]) (rest := []) ⟨hx, hb, hml, hown, hts⟩ (s_passMinute l hl D cy sa sA s2 s3 s6 s8 s11 s13 wi ro dr dt pe gu sh wo dn qm qf qt go hf wg df f H.size (by first | exact hr_wi | omega) (by first | exact hr_ro | omega) (by first | exact hr_dr | omega) (by first | exact hr_dt | omega) (by first | exact hr_pe | omega) (by first | exact hr_gu | omega) (by first | exact hr_sh | omega) (by first | exact hr_wo | omega) (by first | exact hr_dn | omega) (by first | exact hl16_1 | omega) (by first | exact hl16_2 | omega) (by first | exact hl16_3 | omega) (by first | exact hr_go | omega) (by first | exact hr_f | omega) (by omega) hhf hdf) (cwV 1 hts gg_1 rfl rfl rfl (by decide +kernel) ⟨Nat.le_of_ble_eq_true rfl, Nat.le_of_ble_eq_true rfl⟩) ⟨pcW.blind, (va_recv hG.1 hP (ci := 6) (q0 := 0) rfl rfl), pre9⟩ rfl rfl hlv.1 rfl (lv_room (Nat.le_of_ble_eq_true rfl)) dX6_passMinutes_24 ⟨Nat.le_of_ble_eq_true rfl, Nat.le_of_ble_eq_true rfl⟩)) hP hD hS hA hG hT [0, 1, 2, 3] rfl (by decide +kernel) (fun u1 H locs hw1 hq9 hS => ?_)
      obtain ⟨hq1_0, hq1_1, hq1_2, hq1_3, hq1_4, hq1_5⟩ := hw1
      obtain ⟨hP, hD⟩ := pd9 [zO sA 6 [vI wi, vI ro, vR s2, vR s3, vI dr, vI dt, vR s6, vI pe, vR s8, vI gu, vI sh, vR s11, vI wo, vR s13, vI dn, vI (u1.2.1 0), vI (u1.2.1 1), vI (u1.2.1 2), vI go], zI s2 (cy 0) 96 hf, zI s3 (cy 0) 96 (u1.2.2 0), zI s6 (cy 0) 56 df] hq9
      obtain ⟨z_4, hz_4⟩ : ∃ z : Int, z = q4 + 1 := ⟨_, rfl⟩
      refine lv_iinc (v := iI z_4) (lv' := [(4, vI z_4), (3, vI z_2), (0, vR sA), (1, vI n), (2, vI f)]) hx hb dX6_passMinutes_27 hlv (k := 0) rfl (by rw [hz_4]; exact (Int32.ofInt_add _ _).symm) (by decide) rfl (fun ls hlv => ?_)
      refine lv_goto (tgt := 16) hx hb dX6_passMinutes_30 (by decide) ?_
      exact ih16 z_4 (u1.2.1 0) (u1.2.1 1) (u1.2.1 2) (u1.2.2 0) H locs ls (by omega) (by omega) (by first | exact hq1_0 | omega) (by first | exact hq1_1 | omega) (by first | exact hq1_2 | omega) (by omega)  (hP.sub [0, 1, 2, 3] rfl) (hD.sub [0, 1, 2, 3] (by decide) rfl) hS (lv_sub hlv [0, 1, 2, 3, 4] rfl)
def vs_s_longestIce : List Cond := .code yX6_longestIce cX6_longestIce 6 (some .int) :: (([.fieldLink RX6 32 "KerbSplash$Street" "rows" "I", .fieldLink RX6 28 "KerbSplash$Street" "wide" "I", .fieldLink RX6 13 "KerbSplash$Street" "water" "[I", .methodLink RX6 142 Lib.Math.max.name, .static Lib.Math.max.name, .initialized "java/lang/Math", .code Lib.Math.max.name Lib.Math.max.code 2 (some .int)] : List Cond) ++ ((wsX60) ++ ((wsV RX6 88 RX6 yX6_index vs_s_index) ++ ([]))))
theorem gd_s_longestIce : vs_s_longestIce.all goodWord = true := gd_C (by decide +kernel) (gd_A (by decide +kernel) (gd_A (by decide +kernel) (gd_A (gd_V gd_s_index (by decide +kernel)) rfl)))
set_option maxHeartbeats 4000000 in
set_option maxRecDepth 100000 in
theorem s_longestIce (l : Launch) (hl : l.stackTraces = false) (D : va_G) (cy : Nat → ClassId) (sa : Nat → Nat) (sA s2 s3 s6 s8 s11 s13 : Nat) (wi ro dr dt pe gu sh wo dn mi fl tk go : Int) (wf : Nat → Int32) (n : Int) (sz : Nat) (hr_wi : 0 ≤ wi ∧ wi ≤ 16) (hr_ro : 0 ≤ ro ∧ ro ≤ 6) (hr_dr : 0 ≤ dr ∧ dr ≤ 14) (hr_dt : 0 ≤ dt ∧ dt ≤ 6) (hr_pe : 0 ≤ pe ∧ pe ≤ 8) (hr_gu : 0 ≤ gu ∧ gu ≤ 20) (hr_sh : 0 ≤ sh ∧ sh ≤ 2) (hr_wo : 0 ≤ wo ∧ wo ≤ 8) (hr_dn : (-2147483648) ≤ dn ∧ dn ≤ 2147483647) (hr_mi : 0 ≤ mi ∧ mi ≤ 600) (hr_fl : (-2147483648) ≤ fl ∧ fl ≤ 2147483647) (hr_tk : (-2147483648) ≤ tk ∧ tk ≤ 2147483647) (hr_go : (-2147483648) ≤ go ∧ go ≤ 2147483647) (hr_n : (-2147483648) ≤ n ∧ n ≤ 2147483647) : mI9 l yX6_longestIce vs_s_longestIce ({ frames := 1, cells := 0, slots := 0, locals := 30 }) D cy sa sz [vR sA, vI n] [zO sA 6 [vI wi, vI ro, vR s2, vR s3, vI dr, vI dt, vR s6, vI pe, vR s8, vI gu, vI sh, vR s11, vI wo, vR s13, vI dn, vI mi, vI fl, vI tk, vI go], zI s3 (cy 0) 96 wf] (fun (r : Int32) (u : SV) => r = iI (u.2.1 0) ∧ (0 ≤ u.2.1 0 ∧ u.2.1 0 ≤ 16)) (fun u : SV => [zO sA 6 [vI wi, vI ro, vR s2, vR s3, vI dr, vI dt, vR s6, vI pe, vR s8, vI gu, vI sh, vR s11, vI wo, vR s13, vI dn, vI mi, vI fl, vI tk, vI go], zI s3 (cy 0) 96 wf]) 0 0 := by
  refine Met.ofW (cc := cX6_longestIce) (maxL := 6) (ret := (some .int)) (by decide) rfl ?_
  intro p e s m args below meth c s₁ B hml hv
  obtain ⟨rfl, hsz, hP, hG, hD0, hT⟩ := hv
  have hx := B.exec
  have hb := B.bytes
  have hr := B.returns
  have hts := atoms_spec (ws := vs_s_longestIce) B.pre
  have hown : s.vm.findClass RX6 = some m.cls := findClass_of_methodNamed B.named
  have hlocks := B.notSynchronized
  subst hsz
  have hD := hD0.self (sz := s.heap.size)
  generalize hAe : va_A [zO sA 6 [vI wi, vI ro, vR s2, vR s3, vI dr, vI dt, vR s6, vI pe, vR s8, vI gu, vI sh, vR s11, vI wo, vR s13, vI dn, vI mi, vI fl, vI tk, vI go], zI s3 (cy 0) 96 wf] s.heap.size = A at hD hT ⊢
  have hA : ∀ q : Nat, s.heap.size ≤ q → A q := fun q h => by rw [← hAe]; exact Or.inr h
  have hS : va_S A s.heap s.heap [] := va_S.rf
  have hl0 := lv_entry ([vR sA, vI n]) (n := 6) (Nat.le_of_ble_eq_true rfl)
  rw [lg_entry_eq]
  generalize (lg_sl ([vR sA, vI n]) ++ List.replicate (6 - (lg_sl ([vR sA, vI n])).length) Slot.unset).toArray = ls at hl0 ⊢
  have hlv : lv_has ls 6 [(0, vR sA), (1, vI n)] := hl0
  have lf32 := hts (.fieldLink RX6 32 "KerbSplash$Street" "rows" "I") (List.mem_of_getElem? (i := 1) rfl)
  have hi6 : ∀ w ∈ wsX60, w ∈ vs_s_longestIce := fun w h => List.mem_cons_of_mem _ (List.mem_append_right _ (List.mem_append_left _ h))
  have lf28 := hts (.fieldLink RX6 28 "KerbSplash$Street" "wide" "I") (List.mem_of_getElem? (i := 2) rfl)
  have lf13 := hts (.fieldLink RX6 13 "KerbSplash$Street" "water" "[I") (List.mem_of_getElem? (i := 3) rfl)
  have gg_1 : GoodIn vs_s_longestIce (wsV RX6 88 RX6 yX6_index vs_s_index) := goodIn_sub (fun w h => List.mem_cons_of_mem _ (List.mem_append_right _ (List.mem_append_right _ (List.mem_append_left _ h)))) (gd_V gd_s_index (by decide +kernel))
  have mk142 := hts (.methodLink RX6 142 Lib.Math.max.name) (List.mem_of_getElem? (i := 4) rfl)
  have ms_max := hts (.static Lib.Math.max.name) (List.mem_of_getElem? (i := 5) rfl)
  have mi_ := hts (.initialized "java/lang/Math") (List.mem_of_getElem? (i := 6) rfl)
  have mc_max := hts (.code Lib.Math.max.name Lib.Math.max.code 2 (some .int)) (List.mem_of_getElem? (i := 7) rfl)
  refine lv_iconst (v := iI 0) hx hb dX6_longestIce_0 (by decide) ?_
  refine lv_istore_n (lv' := [(2, vI 0), (0, vR sA), (1, vI n)]) hx hb dX6_longestIce_1 rfl hlv (by decide) rfl (fun ls hlv => ?_)
  refine lv_iconst (v := iI 0) hx hb dX6_longestIce_2 (by decide) ?_
  refine lv_istore_n (lv' := [(3, vI 0), (2, vI 0), (0, vR sA), (1, vI n)]) hx hb dX6_longestIce_3 rfl hlv (by decide) rfl (fun ls hlv => ?_)
  refine (?_ : ∀ (fu : Nat) (q2 : Int) (q3 : Int) (H : Heap) (locs : List Loc) (ls : Array Slot), 6 - q3 < (fu : Int) → (0 ≤ q2 ∧ q2 ≤ 16) → (0 ≤ q3 ∧ q3 ≤ 6) → (q3 ≤ ro) → va_P D vwCl [zO sA 6 [vI wi, vI ro, vR s2, vR s3, vI dr, vI dt, vR s6, vI pe, vR s8, vI gu, vI sh, vR s11, vI wo, vR s13, vI dn, vI mi, vI fl, vI tk, vI go], zI s3 (cy 0) 96 wf] H → va_D A [zO sA 6 [vI wi, vI ro, vR s2, vR s3, vI dr, vI dt, vR s6, vI pe, vR s8, vI gu, vI sh, vR s11, vI wo, vR s13, vI dn, vI mi, vI fl, vI tk, vI go], zI s3 (cy 0) 96 wf] → va_S A s.heap H locs → lv_has ls 6 [(3, vI q3), (2, vI q2), (0, vR sA), (1, vI n)] → W p l e _ s m _ below meth c H locs _ _ _ (F0 m 4 ls [])) (((6 - 0) + 1 : Int)).toNat 0 0 _ _ _ (by omega) (by show (0 : Int) ≤ 0 ∧ (0 : Int) ≤ 16; decide) (by show (0 : Int) ≤ 0 ∧ (0 : Int) ≤ 6; decide) (by omega)  hP hD hS hlv
  clear hP hD hS hlv
  intro fu
  induction fu with
  | zero => intro q2 q3 H locs ls hm4 hl4_0 hl4_1 hl4_2  hP hD hS hlv; omega
  | succ fu ih4 =>
    intro q2 q3 H locs ls hm4 hl4_0 hl4_1 hl4_2  hP hD hS hlv
    refine lv_iload_n hx hb dX6_longestIce_4 rfl (lv_at hlv 0 rfl) ?_
    refine lv_aload_n hx hb dX6_longestIce_5 rfl (lv_at hlv 2 rfl) ?_
    refine va_get (D := D) (ci := 6) (v := vI ro) (C := RX6) (T := TX6) (N := 19) hx hb hts hi6 hown hG.1 hP 0 rfl rfl 1 (by decide) lf32 (fun _ h9 => h9) rfl dX6_longestIce_6 ?_
    refine ir_ge (tgt := 72) hx hb dX6_longestIce_9 (by decide) (by first | exact rgw hl4_1 (by decide) (by decide) | omega) (by first | exact rgw hr_ro (by decide) (by decide) | omega) (fun c_1 => ?_) (fun c_1 => ?_)
    · refine lv_iload_n hx hb dX6_longestIce_72 rfl (lv_at hlv 1 rfl) ?_
      refine W.widen (k := 0) (n := 0) (Nat.le_of_ble_eq_true rfl) (Nat.le_of_ble_eq_true rfl) ?_
      exact W.iret (v := iI q2) hx hb hr (fun t ht hW => ⟨⟨iI q2, ((fun k => ([] : List Nat).getD k 0), (fun k => ([q2] : List Int).getD k 0), (fun k => ([] : List (Nat → Int32)).getD k (fun _ => 0))), rfl, ⟨rfl, (by show (0 ≤ q2 ∧ q2 ≤ 16); first | exact hl4_0 | omega)⟩, at9 ht hP hD [0, 1] (by decide +kernel) rfl⟩, hS.F ht⟩) hS.2.2 dX6_longestIce_73
    · refine lv_iconst (v := iI 0) hx hb dX6_longestIce_12 (by decide) ?_
      refine lv_istore (lv' := [(4, vI 0), (3, vI q3), (2, vI q2), (0, vR sA), (1, vI n)]) hx hb dX6_longestIce_13 hlv (by decide) rfl (fun ls hlv => ?_)
      refine lv_iconst (v := iI 0) hx hb dX6_longestIce_15 (by decide) ?_
      refine lv_istore (lv' := [(5, vI 0), (4, vI 0), (3, vI q3), (2, vI q2), (0, vR sA), (1, vI n)]) hx hb dX6_longestIce_16 hlv (by decide) rfl (fun ls hlv => ?_)
      refine (?_ : ∀ (fu : Nat) (r2 : Int) (r4 : Int) (r5 : Int) (H : Heap) (locs : List Loc) (ls : Array Slot), 16 - r5 < (fu : Int) → (0 ≤ r2 ∧ r2 ≤ 16) → (0 ≤ r4 ∧ r4 ≤ 16) → (0 ≤ r5 ∧ r5 ≤ 16) → (r4 ≤ r5) → (r5 ≤ wi) → va_P D vwCl [zO sA 6 [vI wi, vI ro, vR s2, vR s3, vI dr, vI dt, vR s6, vI pe, vR s8, vI gu, vI sh, vR s11, vI wo, vR s13, vI dn, vI mi, vI fl, vI tk, vI go], zI s3 (cy 0) 96 wf] H → va_D A [zO sA 6 [vI wi, vI ro, vR s2, vR s3, vI dr, vI dt, vR s6, vI pe, vR s8, vI gu, vI sh, vR s11, vI wo, vR s13, vI dn, vI mi, vI fl, vI tk, vI go], zI s3 (cy 0) 96 wf] → va_S A s.heap H locs → lv_has ls 6 [(5, vI r5), (4, vI r4), (3, vI q3), (2, vI r2), (0, vR sA), (1, vI n)] → W p l e _ s m _ below meth c H locs _ _ _ (F0 m 18 ls [])) (((16 - 0) + 1 : Int)).toNat q2 0 0 _ _ _ (by omega) (by first | exact hl4_0 | omega) (by show (0 : Int) ≤ 0 ∧ (0 : Int) ≤ 16; decide) (by show (0 : Int) ≤ 0 ∧ (0 : Int) ≤ 16; decide) (by omega) (by omega)  hP hD hS hlv
      clear hP hD hS hlv
      intro fu
      induction fu with
      | zero => intro r2 r4 r5 H locs ls hm18 hl18_0 hl18_1 hl18_2 hl18_3 hl18_4  hP hD hS hlv; omega
      | succ fu ih18 =>
        intro r2 r4 r5 H locs ls hm18 hl18_0 hl18_1 hl18_2 hl18_3 hl18_4  hP hD hS hlv
        refine lv_iload hx hb dX6_longestIce_18 (lv_at hlv 0 rfl) ?_
        refine lv_aload_n hx hb dX6_longestIce_20 rfl (lv_at hlv 4 rfl) ?_
        refine va_get (D := D) (ci := 6) (v := vI wi) (C := RX6) (T := TX6) (N := 19) hx hb hts hi6 hown hG.1 hP 0 rfl rfl 0 (by decide) lf28 (fun _ h9 => h9) rfl dX6_longestIce_21 ?_
        refine ir_ge (tgt := 66) hx hb dX6_longestIce_24 (by decide) (by first | exact rgw hl18_2 (by decide) (by decide) | omega) (by first | exact rgw hr_wi (by decide) (by decide) | omega) (fun c_2 => ?_) (fun c_2 => ?_)
        · obtain ⟨z_3, hz_3⟩ : ∃ z : Int, z = q3 + 1 := ⟨_, rfl⟩
          refine lv_iinc (v := iI z_3) (lv' := [(3, vI z_3), (5, vI r5), (4, vI r4), (2, vI r2), (0, vR sA), (1, vI n)]) hx hb dX6_longestIce_66 hlv (k := 2) rfl (by rw [hz_3]; exact (Int32.ofInt_add _ _).symm) (by decide) rfl (fun ls hlv => ?_)
          refine lv_goto (tgt := 4) hx hb dX6_longestIce_69 (by decide) ?_
          exact ih4 r2 z_3 H locs ls (by omega) (by first | exact hl18_0 | omega) (by omega) (by omega)  (hP.sub [0, 1] rfl) (hD.sub [0, 1] (by decide) rfl) hS (lv_sub hlv [0, 3, 4, 5] rfl)
        · refine lv_aload_n hx hb dX6_longestIce_27 rfl (lv_at hlv 4 rfl) ?_
          refine va_get (D := D) (ci := 6) (v := vR s3) (C := RX6) (T := TX6) (N := 19) hx hb hts hi6 hown hG.1 hP 0 rfl rfl 3 (by decide) lf13 (fun _ h9 => h9) rfl dX6_longestIce_28 ?_
          refine lv_aload_n hx hb dX6_longestIce_31 rfl (lv_at hlv 4 rfl) ?_
          refine lv_iload hx hb dX6_longestIce_32 (lv_at hlv 0 rfl) ?_
          refine lv_iload_n hx hb dX6_longestIce_34 rfl (lv_at hlv 2 rfl) ?_
          refine cjr_i [false, true] (fun pre9 => (va_runV (As := [vI r5, vI q3]) (rest := [vR s3]) ⟨hx, hb, hml, hown, hts⟩ (s_index l hl D cy sa sA s2 s3 s6 s8 s11 s13 wi ro dr dt pe gu sh wo dn mi fl tk go r5 q3 H.size (by first | exact hr_wi | omega) (by first | exact hr_ro | omega) (by first | exact hr_dr | omega) (by first | exact hr_dt | omega) (by first | exact hr_pe | omega) (by first | exact hr_gu | omega) (by first | exact hr_sh | omega) (by first | exact hr_wo | omega) (by first | exact hr_dn | omega) (by first | exact hr_mi | omega) (by first | exact hr_fl | omega) (by first | exact hr_tk | omega) (by first | exact hr_go | omega) (by omega) (by omega)) (cwV 2 hts gg_1 rfl rfl rfl (by decide +kernel) ⟨Nat.le_of_ble_eq_true rfl, Nat.le_of_ble_eq_true rfl⟩) ⟨pcW.blind, (va_recv hG.1 hP (ci := 6) (q0 := 0) rfl rfl), pre9⟩ rfl rfl hlv.1 rfl (lv_room (Nat.le_of_ble_eq_true rfl)) dX6_longestIce_35 ⟨Nat.le_of_ble_eq_true rfl, Nat.le_of_ble_eq_true rfl⟩)) hP hD hS hA hG hT [0] rfl (by decide +kernel) (fun r1 u1 H locs hw1 hq9 hS => ?_)
          obtain ⟨rfl, hq1_1⟩ := hw1
          obtain ⟨hP, hD⟩ := pd9 [zI s3 (cy 0) 96 wf, zO sA 6 [vI wi, vI ro, vR s2, vR s3, vI dr, vI dt, vR s6, vI pe, vR s8, vI gu, vI sh, vR s11, vI wo, vR s13, vI dn, vI mi, vI fl, vI tk, vI go]] hq9
          refine va_iald hx hb hG.1 hP 0 0 rfl rfl (iI_in (by omega) (by decide)) dX6_longestIce_38 ?_
          refine lt_z (fun z_4 ez_4 lz_4 hz_4 => ?_)
          refine lv_iload_n hx hb dX6_longestIce_39 rfl (lv_at hlv 5 rfl) ?_
          refine ir_lt (tgt := 50) hx hb dX6_longestIce_40 (by decide) (by omega) (by first | exact hr_n | omega) (fun c_5 => ?_) (fun c_5 => ?_)
          · refine lv_iconst (v := iI 0) hx hb dX6_longestIce_50 (by decide) ?_
            refine lv_istore (lv' := [(4, vI 0), (5, vI r5), (3, vI q3), (2, vI r2), (0, vR sA), (1, vI n)]) hx hb dX6_longestIce_51 hlv (by decide) rfl (fun ls hlv => ?_)
            refine lv_iload_n hx hb dX6_longestIce_53 rfl (lv_at hlv 3 rfl) ?_
            refine lv_iload hx hb dX6_longestIce_54 (lv_at hlv 0 rfl) ?_
            refine va_mmax hx hb (hml.trans hlv.1.symm) hown mk142 ms_max mi_ mc_max (Nat.le_of_ble_eq_true rfl) (Nat.le_of_ble_eq_true rfl) (Nat.le_of_ble_eq_true rfl) (Nat.le_of_ble_eq_true rfl) dX6_longestIce_56 ?_
            refine lt_mx (by omega) (by omega) (fun z_6 hz_6 => ?_)
            refine lv_istore_n (lv' := [(2, vI z_6), (4, vI 0), (5, vI r5), (3, vI q3), (0, vR sA), (1, vI n)]) hx hb dX6_longestIce_59 rfl hlv (by decide) rfl (fun ls hlv => ?_)
            obtain ⟨z_7, hz_7⟩ : ∃ z : Int, z = r5 + 1 := ⟨_, rfl⟩
            refine lv_iinc (v := iI z_7) (lv' := [(5, vI z_7), (2, vI z_6), (4, vI 0), (3, vI q3), (0, vR sA), (1, vI n)]) hx hb dX6_longestIce_60 hlv (k := 2) rfl (by rw [hz_7]; exact (Int32.ofInt_add _ _).symm) (by decide) rfl (fun ls hlv => ?_)
            refine lv_goto (tgt := 18) hx hb dX6_longestIce_63 (by decide) ?_
            exact ih18 z_6 0 z_7 H locs ls (by omega) (by omega) (by show (0 : Int) ≤ 0 ∧ (0 : Int) ≤ 16; decide) (by omega) (by omega) (by omega)  (hP.sub [1, 0] rfl) (hD.sub [1, 0] (by decide) rfl) hS (lv_sub hlv [0, 2, 3, 1, 4, 5] rfl)
          · refine lv_iload hx hb dX6_longestIce_43 (lv_at hlv 1 rfl) ?_
            refine lv_iconst (v := iI 1) hx hb dX6_longestIce_45 (by decide) ?_
            refine lv_iadd hx hb dX6_longestIce_46 ?_
            refine lt_e (e0 := r4 + 1) (Int32.ofInt_add _ _).symm (fun z_8 hz_8 => ?_)
            refine lv_goto (tgt := 51) hx hb dX6_longestIce_47 (by decide) ?_
            refine lv_istore (lv' := [(4, vI z_8), (5, vI r5), (3, vI q3), (2, vI r2), (0, vR sA), (1, vI n)]) hx hb dX6_longestIce_51 hlv (by decide) rfl (fun ls hlv => ?_)
            refine lv_iload_n hx hb dX6_longestIce_53 rfl (lv_at hlv 3 rfl) ?_
            refine lv_iload hx hb dX6_longestIce_54 (lv_at hlv 0 rfl) ?_
            refine va_mmax hx hb (hml.trans hlv.1.symm) hown mk142 ms_max mi_ mc_max (Nat.le_of_ble_eq_true rfl) (Nat.le_of_ble_eq_true rfl) (Nat.le_of_ble_eq_true rfl) (Nat.le_of_ble_eq_true rfl) dX6_longestIce_56 ?_
            refine lt_mx (by omega) (by omega) (fun z_9 hz_9 => ?_)
            refine lv_istore_n (lv' := [(2, vI z_9), (4, vI z_8), (5, vI r5), (3, vI q3), (0, vR sA), (1, vI n)]) hx hb dX6_longestIce_59 rfl hlv (by decide) rfl (fun ls hlv => ?_)
            obtain ⟨z_10, hz_10⟩ : ∃ z : Int, z = r5 + 1 := ⟨_, rfl⟩
            refine lv_iinc (v := iI z_10) (lv' := [(5, vI z_10), (2, vI z_9), (4, vI z_8), (3, vI q3), (0, vR sA), (1, vI n)]) hx hb dX6_longestIce_60 hlv (k := 2) rfl (by rw [hz_10]; exact (Int32.ofInt_add _ _).symm) (by decide) rfl (fun ls hlv => ?_)
            refine lv_goto (tgt := 18) hx hb dX6_longestIce_63 (by decide) ?_
            exact ih18 z_9 z_8 z_10 H locs ls (by omega) (by omega) (by omega) (by omega) (by omega) (by omega)  (hP.sub [1, 0] rfl) (hD.sub [1, 0] (by decide) rfl) hS (lv_sub hlv [0, 2, 3, 1, 4, 5] rfl)
def vs_s_personsOnIce : List Cond := .code yX6_personsOnIce cX6_personsOnIce 4 (some .int) :: (([.fieldLink RX6 47 "KerbSplash$Street" "persons" "I", .fieldLink RX6 13 "KerbSplash$Street" "water" "[I", .fieldLink RX6 19 "KerbSplash$Street" "person" "[I"] : List Cond) ++ ((wsX60) ++ ((wsV RX6 88 RX6 yX6_index vs_s_index) ++ ([]))))
theorem gd_s_personsOnIce : vs_s_personsOnIce.all goodWord = true := gd_C (by decide +kernel) (gd_A (by decide +kernel) (gd_A (by decide +kernel) (gd_A (gd_V gd_s_index (by decide +kernel)) rfl)))
set_option maxHeartbeats 4000000 in
set_option maxRecDepth 100000 in
theorem s_personsOnIce (l : Launch) (hl : l.stackTraces = false) (D : va_G) (cy : Nat → ClassId) (sa : Nat → Nat) (sA s2 s3 s6 s8 s11 s13 : Nat) (wi ro dr dt pe gu sh wo dn mi fl tk go : Int) (wf pf : Nat → Int32) (n : Int) (sz : Nat) (hr_wi : 0 ≤ wi ∧ wi ≤ 16) (hr_ro : 0 ≤ ro ∧ ro ≤ 6) (hr_dr : 0 ≤ dr ∧ dr ≤ 14) (hr_dt : 0 ≤ dt ∧ dt ≤ 6) (hr_pe : 0 ≤ pe ∧ pe ≤ 8) (hr_gu : 0 ≤ gu ∧ gu ≤ 20) (hr_sh : 0 ≤ sh ∧ sh ≤ 2) (hr_wo : 0 ≤ wo ∧ wo ≤ 8) (hr_dn : (-2147483648) ≤ dn ∧ dn ≤ 2147483647) (hr_mi : 0 ≤ mi ∧ mi ≤ 600) (hr_fl : (-2147483648) ≤ fl ∧ fl ≤ 2147483647) (hr_tk : (-2147483648) ≤ tk ∧ tk ≤ 2147483647) (hr_go : (-2147483648) ≤ go ∧ go ≤ 2147483647) (hr_n : (-2147483648) ≤ n ∧ n ≤ 2147483647) (hpf : tab_ 4 28 [0, 0, (-2147483648), (-2147483648)] [15, 19, 2147483647, 2147483647] pf) : mI9 l yX6_personsOnIce vs_s_personsOnIce ({ frames := 1, cells := 0, slots := 0, locals := 22 }) D cy sa sz [vR sA, vI n] [zO sA 6 [vI wi, vI ro, vR s2, vR s3, vI dr, vI dt, vR s6, vI pe, vR s8, vI gu, vI sh, vR s11, vI wo, vR s13, vI dn, vI mi, vI fl, vI tk, vI go], zI s3 (cy 0) 96 wf, zI s8 (cy 0) 112 pf] (fun (r : Int32) (u : SV) => r = iI (u.2.1 0) ∧ (0 ≤ u.2.1 0 ∧ u.2.1 0 ≤ 8) ∧ tab_ 4 28 [0, 0, (-2147483648), (-2147483648)] [15, 19, 2147483647, 2147483647] pf) (fun u : SV => [zO sA 6 [vI wi, vI ro, vR s2, vR s3, vI dr, vI dt, vR s6, vI pe, vR s8, vI gu, vI sh, vR s11, vI wo, vR s13, vI dn, vI mi, vI fl, vI tk, vI go], zI s3 (cy 0) 96 wf, zI s8 (cy 0) 112 pf]) 0 0 := by
  refine Met.ofW (cc := cX6_personsOnIce) (maxL := 4) (ret := (some .int)) (by decide) rfl ?_
  intro p e s m args below meth c s₁ B hml hv
  obtain ⟨rfl, hsz, hP, hG, hD0, hT⟩ := hv
  have hx := B.exec
  have hb := B.bytes
  have hr := B.returns
  have hts := atoms_spec (ws := vs_s_personsOnIce) B.pre
  have hown : s.vm.findClass RX6 = some m.cls := findClass_of_methodNamed B.named
  have hlocks := B.notSynchronized
  subst hsz
  have hD := hD0.self (sz := s.heap.size)
  generalize hAe : va_A [zO sA 6 [vI wi, vI ro, vR s2, vR s3, vI dr, vI dt, vR s6, vI pe, vR s8, vI gu, vI sh, vR s11, vI wo, vR s13, vI dn, vI mi, vI fl, vI tk, vI go], zI s3 (cy 0) 96 wf, zI s8 (cy 0) 112 pf] s.heap.size = A at hD hT ⊢
  have hA : ∀ q : Nat, s.heap.size ≤ q → A q := fun q h => by rw [← hAe]; exact Or.inr h
  have hS : va_S A s.heap s.heap [] := va_S.rf
  have hl0 := lv_entry ([vR sA, vI n]) (n := 4) (Nat.le_of_ble_eq_true rfl)
  rw [lg_entry_eq]
  generalize (lg_sl ([vR sA, vI n]) ++ List.replicate (4 - (lg_sl ([vR sA, vI n])).length) Slot.unset).toArray = ls at hl0 ⊢
  have hlv : lv_has ls 4 [(0, vR sA), (1, vI n)] := hl0
  have lf47 := hts (.fieldLink RX6 47 "KerbSplash$Street" "persons" "I") (List.mem_of_getElem? (i := 1) rfl)
  have hi6 : ∀ w ∈ wsX60, w ∈ vs_s_personsOnIce := fun w h => List.mem_cons_of_mem _ (List.mem_append_right _ (List.mem_append_left _ h))
  have lf13 := hts (.fieldLink RX6 13 "KerbSplash$Street" "water" "[I") (List.mem_of_getElem? (i := 2) rfl)
  have lf19 := hts (.fieldLink RX6 19 "KerbSplash$Street" "person" "[I") (List.mem_of_getElem? (i := 3) rfl)
  have gg_1 : GoodIn vs_s_personsOnIce (wsV RX6 88 RX6 yX6_index vs_s_index) := goodIn_sub (fun w h => List.mem_cons_of_mem _ (List.mem_append_right _ (List.mem_append_right _ (List.mem_append_left _ h)))) (gd_V gd_s_index (by decide +kernel))
  refine lv_iconst (v := iI 0) hx hb dX6_personsOnIce_0 (by decide) ?_
  refine lv_istore_n (lv' := [(2, vI 0), (0, vR sA), (1, vI n)]) hx hb dX6_personsOnIce_1 rfl hlv (by decide) rfl (fun ls hlv => ?_)
  refine lv_iconst (v := iI 0) hx hb dX6_personsOnIce_2 (by decide) ?_
  refine lv_istore_n (lv' := [(3, vI 0), (2, vI 0), (0, vR sA), (1, vI n)]) hx hb dX6_personsOnIce_3 rfl hlv (by decide) rfl (fun ls hlv => ?_)
  refine (?_ : ∀ (fu : Nat) (q2 : Int) (q3 : Int) (H : Heap) (locs : List Loc) (ls : Array Slot), 8 - q3 < (fu : Int) → (0 ≤ q2 ∧ q2 ≤ 8) → (0 ≤ q3 ∧ q3 ≤ 8) → (q2 ≤ q3) → (q3 ≤ pe) → va_P D vwCl [zO sA 6 [vI wi, vI ro, vR s2, vR s3, vI dr, vI dt, vR s6, vI pe, vR s8, vI gu, vI sh, vR s11, vI wo, vR s13, vI dn, vI mi, vI fl, vI tk, vI go], zI s3 (cy 0) 96 wf, zI s8 (cy 0) 112 pf] H → va_D A [zO sA 6 [vI wi, vI ro, vR s2, vR s3, vI dr, vI dt, vR s6, vI pe, vR s8, vI gu, vI sh, vR s11, vI wo, vR s13, vI dn, vI mi, vI fl, vI tk, vI go], zI s3 (cy 0) 96 wf, zI s8 (cy 0) 112 pf] → va_S A s.heap H locs → lv_has ls 4 [(3, vI q3), (2, vI q2), (0, vR sA), (1, vI n)] → W p l e _ s m _ below meth c H locs _ _ _ (F0 m 4 ls [])) (((8 - 0) + 1 : Int)).toNat 0 0 _ _ _ (by omega) (by show (0 : Int) ≤ 0 ∧ (0 : Int) ≤ 8; decide) (by show (0 : Int) ≤ 0 ∧ (0 : Int) ≤ 8; decide) (by omega) (by omega)  hP hD hS hlv
  clear hP hD hS hlv
  intro fu
  induction fu with
  | zero => intro q2 q3 H locs ls hm4 hl4_0 hl4_1 hl4_2 hl4_3  hP hD hS hlv; omega
  | succ fu ih4 =>
    intro q2 q3 H locs ls hm4 hl4_0 hl4_1 hl4_2 hl4_3  hP hD hS hlv
    refine lv_iload_n hx hb dX6_personsOnIce_4 rfl (lv_at hlv 0 rfl) ?_
    refine lv_aload_n hx hb dX6_personsOnIce_5 rfl (lv_at hlv 2 rfl) ?_
    refine va_get (D := D) (ci := 6) (v := vI pe) (C := RX6) (T := TX6) (N := 19) hx hb hts hi6 hown hG.1 hP 0 rfl rfl 7 (by decide) lf47 (fun _ h9 => h9) rfl dX6_personsOnIce_6 ?_
    refine ir_ge (tgt := 43) hx hb dX6_personsOnIce_9 (by decide) (by first | exact rgw hl4_1 (by decide) (by decide) | omega) (by first | exact rgw hr_pe (by decide) (by decide) | omega) (fun c_1 => ?_) (fun c_1 => ?_)
    · refine lv_iload_n hx hb dX6_personsOnIce_43 rfl (lv_at hlv 1 rfl) ?_
      refine W.widen (k := 0) (n := 0) (Nat.le_of_ble_eq_true rfl) (Nat.le_of_ble_eq_true rfl) ?_
      exact W.iret (v := iI q2) hx hb hr (fun t ht hW => ⟨⟨iI q2, ((fun k => ([] : List Nat).getD k 0), (fun k => ([q2] : List Int).getD k 0), (fun k => ([] : List (Nat → Int32)).getD k (fun _ => 0))), rfl, ⟨rfl, (by show (0 ≤ q2 ∧ q2 ≤ 8); first | exact hl4_0 | omega), hpf⟩, at9 ht hP hD [0, 1, 2] (by decide +kernel) rfl⟩, hS.F ht⟩) hS.2.2 dX6_personsOnIce_44
    · refine lv_aload_n hx hb dX6_personsOnIce_12 rfl (lv_at hlv 2 rfl) ?_
      refine va_get (D := D) (ci := 6) (v := vR s3) (C := RX6) (T := TX6) (N := 19) hx hb hts hi6 hown hG.1 hP 0 rfl rfl 3 (by decide) lf13 (fun _ h9 => h9) rfl dX6_personsOnIce_13 ?_
      refine lv_aload_n hx hb dX6_personsOnIce_16 rfl (lv_at hlv 2 rfl) ?_
      refine lv_aload_n hx hb dX6_personsOnIce_17 rfl (lv_at hlv 2 rfl) ?_
      refine va_get (D := D) (ci := 6) (v := vR s8) (C := RX6) (T := TX6) (N := 19) hx hb hts hi6 hown hG.1 hP 0 rfl rfl 8 (by decide) lf19 (fun _ h9 => h9) rfl dX6_personsOnIce_18 ?_
      refine lv_iconst (v := iI 4) hx hb dX6_personsOnIce_21 (by decide) ?_
      refine lv_iload_n hx hb dX6_personsOnIce_22 rfl (lv_at hlv 0 rfl) ?_
      refine lv_imul hx hb dX6_personsOnIce_23 ?_
      refine lt_e (e0 := 4 * q3) (Int32.ofInt_mul _ _).symm (fun z_2 hz_2 => ?_)
      refine va_iald hx hb hG.1 hP 2 0 rfl rfl (iI_in (by omega) (by decide)) dX6_personsOnIce_24 ?_
      obtain ⟨z_3, ez_3, hz_3, lz_3⟩ := tab_rd hpf (e := z_2) (k := q3) (c := 0) (a := 0) (b := 15) (by omega) (by omega) (by decide) (by omega) rfl rfl
      refine lt_i (y := iI z_3) ez_3 ?_
      refine lv_iconst (v := iI 0) hx hb dX6_personsOnIce_25 (by decide) ?_
      refine cjr_i [false, true, true] (fun pre9 => (va_runV (As := [vI z_3, vI 0]) (rest := [vR s3]) ⟨hx, hb, hml, hown, hts⟩ (s_index l hl D cy sa sA s2 s3 s6 s8 s11 s13 wi ro dr dt pe gu sh wo dn mi fl tk go z_3 0 H.size (by first | exact hr_wi | omega) (by first | exact hr_ro | omega) (by first | exact hr_dr | omega) (by first | exact hr_dt | omega) (by first | exact hr_pe | omega) (by first | exact hr_gu | omega) (by first | exact hr_sh | omega) (by first | exact hr_wo | omega) (by first | exact hr_dn | omega) (by first | exact hr_mi | omega) (by first | exact hr_fl | omega) (by first | exact hr_tk | omega) (by first | exact hr_go | omega) (by first | exact lz_3 | omega) (by show (0 : Int) ≤ 0 ∧ (0 : Int) ≤ 5; decide)) (cwV 2 hts gg_1 rfl rfl rfl (by decide +kernel) ⟨Nat.le_of_ble_eq_true rfl, Nat.le_of_ble_eq_true rfl⟩) ⟨pcW.blind, (va_recv hG.1 hP (ci := 6) (q0 := 0) rfl rfl), pre9⟩ rfl rfl hlv.1 rfl (lv_room (Nat.le_of_ble_eq_true rfl)) dX6_personsOnIce_26 ⟨Nat.le_of_ble_eq_true rfl, Nat.le_of_ble_eq_true rfl⟩)) hP hD hS hA hG hT [0] rfl (by decide +kernel) (fun r1 u1 H locs hw1 hq9 hS => ?_)
      obtain ⟨rfl, hq1_1⟩ := hw1
      obtain ⟨hP, hD⟩ := pd9 [zI s3 (cy 0) 96 wf, zI s8 (cy 0) 112 pf, zO sA 6 [vI wi, vI ro, vR s2, vR s3, vI dr, vI dt, vR s6, vI pe, vR s8, vI gu, vI sh, vR s11, vI wo, vR s13, vI dn, vI mi, vI fl, vI tk, vI go]] hq9
      refine va_iald hx hb hG.1 hP 0 0 rfl rfl (iI_in (by omega) (by decide)) dX6_personsOnIce_29 ?_
      refine lt_z (fun z_4 ez_4 lz_4 hz_4 => ?_)
      refine lv_iload_n hx hb dX6_personsOnIce_30 rfl (lv_at hlv 3 rfl) ?_
      refine ir_lt (tgt := 37) hx hb dX6_personsOnIce_31 (by decide) (by omega) (by first | exact hr_n | omega) (fun c_5 => ?_) (fun c_5 => ?_)
      · obtain ⟨z_6, hz_6⟩ : ∃ z : Int, z = q3 + 1 := ⟨_, rfl⟩
        refine lv_iinc (v := iI z_6) (lv' := [(3, vI z_6), (2, vI q2), (0, vR sA), (1, vI n)]) hx hb dX6_personsOnIce_37 hlv (k := 0) rfl (by rw [hz_6]; exact (Int32.ofInt_add _ _).symm) (by decide) rfl (fun ls hlv => ?_)
        refine lv_goto (tgt := 4) hx hb dX6_personsOnIce_40 (by decide) ?_
        exact ih4 q2 z_6 H locs ls (by omega) (by first | exact hl4_0 | omega) (by omega) (by omega) (by omega)  (hP.sub [2, 0, 1] rfl) (hD.sub [2, 0, 1] (by decide) rfl) hS (lv_sub hlv [0, 1, 2, 3] rfl)
      · obtain ⟨z_7, hz_7⟩ : ∃ z : Int, z = q2 + 1 := ⟨_, rfl⟩
        refine lv_iinc (v := iI z_7) (lv' := [(2, vI z_7), (3, vI q3), (0, vR sA), (1, vI n)]) hx hb dX6_personsOnIce_34 hlv (k := 1) rfl (by rw [hz_7]; exact (Int32.ofInt_add _ _).symm) (by decide) rfl (fun ls hlv => ?_)
        obtain ⟨z_8, hz_8⟩ : ∃ z : Int, z = q3 + 1 := ⟨_, rfl⟩
        refine lv_iinc (v := iI z_8) (lv' := [(3, vI z_8), (2, vI z_7), (0, vR sA), (1, vI n)]) hx hb dX6_personsOnIce_37 hlv (k := 1) rfl (by rw [hz_8]; exact (Int32.ofInt_add _ _).symm) (by decide) rfl (fun ls hlv => ?_)
        refine lv_goto (tgt := 4) hx hb dX6_personsOnIce_40 (by decide) ?_
        exact ih4 z_7 z_8 H locs ls (by omega) (by omega) (by omega) (by omega) (by omega)  (hP.sub [2, 0, 1] rfl) (hD.sub [2, 0, 1] (by decide) rfl) hS (lv_sub hlv [0, 1, 2, 3] rfl)
end
