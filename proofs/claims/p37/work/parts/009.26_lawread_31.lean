section
theorem dX2_readSaying_0 : decode cX2_readSaying 0 = .ok (.aload_n 0, 1) := by decide +kernel
theorem dX2_readSaying_1 : decode cX2_readSaying 1 = .ok (.getfield 9, 3) := by decide +kernel
theorem dX2_readSaying_100 : decode cX2_readSaying 100 = .ok (.aload_n 0, 1) := by decide +kernel
theorem dX2_readSaying_101 : decode cX2_readSaying 101 = .ok (.getfield 15, 3) := by decide +kernel
theorem dX2_readSaying_104 : decode cX2_readSaying 104 = .ok (.bipush 13, 2) := by decide +kernel
theorem dX2_readSaying_106 : decode cX2_readSaying 106 = .ok (.iconst 0, 1) := by decide +kernel
theorem dX2_readSaying_107 : decode cX2_readSaying 107 = .ok (.invokevirtual 65, 3) := by decide +kernel
theorem dX2_readSaying_110 : decode cX2_readSaying 110 = .ok (.pop, 1) := by decide +kernel
theorem dX2_readSaying_111 : decode cX2_readSaying 111 = .ok (.return_, 1) := by decide +kernel
theorem dX2_readSaying_12 : decode cX2_readSaying 12 = .ok (.iconst (-1), 1) := by decide +kernel
theorem dX2_readSaying_13 : decode cX2_readSaying 13 = .ok (.if_icmp .ne 12, 3) := by decide +kernel
theorem dX2_readSaying_16 : decode cX2_readSaying 16 = .ok (.aload_n 0, 1) := by decide +kernel
theorem dX2_readSaying_17 : decode cX2_readSaying 17 = .ok (.getfield 9, 3) := by decide +kernel
theorem dX2_readSaying_20 : decode cX2_readSaying 20 = .ok (.iconst 1, 1) := by decide +kernel
theorem dX2_readSaying_21 : decode cX2_readSaying 21 = .ok (.invokevirtual 43, 3) := by decide +kernel
theorem dX2_readSaying_24 : decode cX2_readSaying 24 = .ok (.return_, 1) := by decide +kernel
theorem dX2_readSaying_25 : decode cX2_readSaying 25 = .ok (.aload_n 0, 1) := by decide +kernel
theorem dX2_readSaying_26 : decode cX2_readSaying 26 = .ok (.getfield 15, 3) := by decide +kernel
theorem dX2_readSaying_29 : decode cX2_readSaying 29 = .ok (.getfield 47, 3) := by decide +kernel
theorem dX2_readSaying_32 : decode cX2_readSaying 32 = .ok (.aload_n 1, 1) := by decide +kernel
theorem dX2_readSaying_33 : decode cX2_readSaying 33 = .ok (.getfield 37, 3) := by decide +kernel
theorem dX2_readSaying_36 : decode cX2_readSaying 36 = .ok (.iaload, 1) := by decide +kernel
theorem dX2_readSaying_37 : decode cX2_readSaying 37 = .ok (.iconst (-1), 1) := by decide +kernel
theorem dX2_readSaying_38 : decode cX2_readSaying 38 = .ok (.if_icmp .eq 12, 3) := by decide +kernel
theorem dX2_readSaying_4 : decode cX2_readSaying 4 = .ok (.invokevirtual 33, 3) := by decide +kernel
theorem dX2_readSaying_41 : decode cX2_readSaying 41 = .ok (.aload_n 0, 1) := by decide +kernel
theorem dX2_readSaying_42 : decode cX2_readSaying 42 = .ok (.getfield 9, 3) := by decide +kernel
theorem dX2_readSaying_45 : decode cX2_readSaying 45 = .ok (.iconst 4, 1) := by decide +kernel
theorem dX2_readSaying_46 : decode cX2_readSaying 46 = .ok (.invokevirtual 43, 3) := by decide +kernel
theorem dX2_readSaying_49 : decode cX2_readSaying 49 = .ok (.return_, 1) := by decide +kernel
theorem dX2_readSaying_50 : decode cX2_readSaying 50 = .ok (.aload_n 0, 1) := by decide +kernel
theorem dX2_readSaying_51 : decode cX2_readSaying 51 = .ok (.getfield 15, 3) := by decide +kernel
theorem dX2_readSaying_54 : decode cX2_readSaying 54 = .ok (.getfield 47, 3) := by decide +kernel
theorem dX2_readSaying_57 : decode cX2_readSaying 57 = .ok (.aload_n 1, 1) := by decide +kernel
theorem dX2_readSaying_58 : decode cX2_readSaying 58 = .ok (.getfield 37, 3) := by decide +kernel
theorem dX2_readSaying_61 : decode cX2_readSaying 61 = .ok (.aload_n 0, 1) := by decide +kernel
theorem dX2_readSaying_62 : decode cX2_readSaying 62 = .ok (.getfield 15, 3) := by decide +kernel
theorem dX2_readSaying_65 : decode cX2_readSaying 65 = .ok (.getfield 51, 3) := by decide +kernel
theorem dX2_readSaying_68 : decode cX2_readSaying 68 = .ok (.iastore, 1) := by decide +kernel
theorem dX2_readSaying_69 : decode cX2_readSaying 69 = .ok (.aload_n 0, 1) := by decide +kernel
theorem dX2_readSaying_7 : decode cX2_readSaying 7 = .ok (.astore_n 1, 1) := by decide +kernel
theorem dX2_readSaying_70 : decode cX2_readSaying 70 = .ok (.getfield 9, 3) := by decide +kernel
theorem dX2_readSaying_73 : decode cX2_readSaying 73 = .ok (.aload_n 1, 1) := by decide +kernel
theorem dX2_readSaying_74 : decode cX2_readSaying 74 = .ok (.invokevirtual 54, 3) := by decide +kernel
theorem dX2_readSaying_77 : decode cX2_readSaying 77 = .ok (.pop, 1) := by decide +kernel
theorem dX2_readSaying_78 : decode cX2_readSaying 78 = .ok (.aload_n 0, 1) := by decide +kernel
theorem dX2_readSaying_79 : decode cX2_readSaying 79 = .ok (.getfield 9, 3) := by decide +kernel
theorem dX2_readSaying_8 : decode cX2_readSaying 8 = .ok (.aload_n 1, 1) := by decide +kernel
theorem dX2_readSaying_82 : decode cX2_readSaying 82 = .ok (.bipush 61, 2) := by decide +kernel
theorem dX2_readSaying_84 : decode cX2_readSaying 84 = .ok (.invokevirtual 58, 3) := by decide +kernel
theorem dX2_readSaying_87 : decode cX2_readSaying 87 = .ok (.aload_n 0, 1) := by decide +kernel
theorem dX2_readSaying_88 : decode cX2_readSaying 88 = .ok (.invokevirtual 62, 3) := by decide +kernel
theorem dX2_readSaying_9 : decode cX2_readSaying 9 = .ok (.getfield 37, 3) := by decide +kernel
theorem dX2_readSaying_91 : decode cX2_readSaying 91 = .ok (.aload_n 0, 1) := by decide +kernel
theorem dX2_readSaying_92 : decode cX2_readSaying 92 = .ok (.getfield 9, 3) := by decide +kernel
theorem dX2_readSaying_95 : decode cX2_readSaying 95 = .ok (.bipush 59, 2) := by decide +kernel
theorem dX2_readSaying_97 : decode cX2_readSaying 97 = .ok (.invokevirtual 58, 3) := by decide +kernel
theorem dX2_read_0 : decode cX2_read 0 = .ok (.aload_n 0, 1) := by decide +kernel
theorem dX2_read_1 : decode cX2_read 1 = .ok (.getfield 15, 3) := by decide +kernel
theorem dX2_read_10 : decode cX2_read 10 = .ok (.sipush 600, 3) := by decide +kernel
theorem dX2_read_13 : decode cX2_read 13 = .ok (.if_icmp .ge 23, 3) := by decide +kernel
theorem dX2_read_16 : decode cX2_read 16 = .ok (.aload_n 0, 1) := by decide +kernel
theorem dX2_read_17 : decode cX2_read 17 = .ok (.getfield 9, 3) := by decide +kernel
theorem dX2_read_20 : decode cX2_read 20 = .ok (.invokevirtual 26, 3) := by decide +kernel
theorem dX2_read_23 : decode cX2_read 23 = .ok (.ifCond .eq 13, 3) := by decide +kernel
theorem dX2_read_26 : decode cX2_read 26 = .ok (.aload_n 0, 1) := by decide +kernel
theorem dX2_read_27 : decode cX2_read 27 = .ok (.invokevirtual 30, 3) := by decide +kernel
theorem dX2_read_30 : decode cX2_read 30 = .ok (.iinc 1 1, 3) := by decide +kernel
theorem dX2_read_33 : decode cX2_read 33 = .ok (.goto (-24), 3) := by decide +kernel
theorem dX2_read_36 : decode cX2_read 36 = .ok (.return_, 1) := by decide +kernel
theorem dX2_read_4 : decode cX2_read 4 = .ok (.invokevirtual 19, 3) := by decide +kernel
theorem dX2_read_7 : decode cX2_read 7 = .ok (.iconst 0, 1) := by decide +kernel
theorem dX2_read_8 : decode cX2_read 8 = .ok (.istore_n 1, 1) := by decide +kernel
theorem dX2_read_9 : decode cX2_read 9 = .ok (.iload_n 1, 1) := by decide +kernel
def vs_w_saying : List Cond := .code yX2_readSaying cX2_readSaying 2 none :: (([.fieldLink RX2 9 "KerbSplash$LawReader" "tape" "LKerbSplash$Tape;", .initialized RX8, .instanceMethod yX8_word, .selects RX8 yX8_word yX8_word, .fieldLink RX2 15 "KerbSplash$LawReader" "law" "LKerbSplash$Law;", .instanceMethod yX8_takeWord, .selects RX8 yX8_takeWord yX8_takeWord, .instanceMethod yX8_want, .selects RX8 yX8_want yX8_want, .initialized RX1, .instanceMethod yX1_add, .selects RX1 yX1_add yX1_add, .instanceMethod yX8_refuse, .selects RX8 yX8_refuse yX8_refuse] : List Cond) ++ ((wsX20) ++ ((vs_s_word) ++ ((wsX10) ++ ((vs_s_takeWord) ++ ((vs_s_want) ++ ((wsV RX2 62 RX2 yX2_readValue vs_w_val) ++ ((vs_s_ladd) ++ ((vs_s_refuse) ++ ([]))))))))))
theorem gd_w_saying : vs_w_saying.all goodWord = true := gd_C (by decide +kernel) (gd_A (by decide +kernel) (gd_A (by decide +kernel) (gd_A gd_s_word (gd_A (by decide +kernel) (gd_A gd_s_takeWord (gd_A gd_s_want (gd_A (gd_V gd_w_val (by decide +kernel)) (gd_A gd_s_ladd (gd_A gd_s_refuse rfl)))))))))
set_option maxHeartbeats 4000000 in
set_option maxRecDepth 100000 in
theorem w_saying (l : Launch) (hl : l.stackTraces = false) (D : va_G) (cy : Nat → ClassId) (sa : Nat → Nat) (lr : Nat) (ta tb : Nat) (fed len at_ we fa fp : Int) (bf : Nat → Int32) (la l0 l2 l3 : Nat) (size : Int) (st : Nat → Int32) (op : Int) (sf : Nat → Int32) (sz : Nat) (hr_fed : 0 ≤ fed ∧ fed ≤ 600) (hr_len : 0 ≤ len ∧ len ≤ 600) (hr_at_ : 0 ≤ at_ ∧ at_ ≤ 600) (hr_we : 0 ≤ we ∧ we ≤ 600) (hr_fa : 0 ≤ fa ∧ fa ≤ 4) (hr_fp : (-1) ≤ fp ∧ fp ≤ 600) (hr_size : 0 ≤ size ∧ size ≤ 600) (hr_op : 0 ≤ op ∧ op ≤ 6) (hst : inv_ 600 0 2147483647 st) : mV9 l yX2_readSaying vs_w_saying ({ frames := 87, cells := 0, slots := 0, locals := 6401 }) D cy sa sz [vR lr] [zO lr 2 [vR ta, vR la, vI op], zO ta 8 [vR tb, vI fed, vI len, vI at_, vI we, vI fa, vI fp], zI tb (cy 1) 600 bf, zO la 1 [vR l0, vI size, vR l2, vR l3], zI l0 (cy 0) 600 st, zI l2 (cy 0) 5 sf] (fun u : SV => (0 ≤ u.2.1 0 ∧ u.2.1 0 ≤ 600) ∧ (0 ≤ u.2.1 1 ∧ u.2.1 1 ≤ 600) ∧ (0 ≤ u.2.1 2 ∧ u.2.1 2 ≤ 4) ∧ ((-1) ≤ u.2.1 3 ∧ u.2.1 3 ≤ 600) ∧ (0 ≤ u.2.1 4 ∧ u.2.1 4 ≤ 600) ∧ (0 ≤ u.2.1 5 ∧ u.2.1 5 ≤ 6) ∧ (u.2.1 5 = op) ∧ inv_ 600 0 2147483647 (u.2.2 0)) (fun u : SV => [zO lr 2 [vR ta, vR la, vI (u.2.1 5)], zO ta 8 [vR tb, vI fed, vI len, vI (u.2.1 0), vI (u.2.1 1), vI (u.2.1 2), vI (u.2.1 3)], zI tb (cy 1) 600 bf, zO la 1 [vR l0, vI (u.2.1 4), vR l2, vR l3], zI l0 (cy 0) 600 (u.2.2 0), zI l2 (cy 0) 5 (u.2.2 1)]) 0 0 := by
  refine Met.ofW (cc := cX2_readSaying) (maxL := 2) (ret := none) (by decide) rfl ?_
  intro p e s m args below meth c s₁ B hml hv
  obtain ⟨rfl, hsz, hP, hG, hD0, hT⟩ := hv
  have hx := B.exec
  have hb := B.bytes
  have hr := B.returns
  have hts := atoms_spec (ws := vs_w_saying) B.pre
  have hown : s.vm.findClass RX2 = some m.cls := findClass_of_methodNamed B.named
  have hlocks := B.notSynchronized
  subst hsz
  have hD := hD0.self (sz := s.heap.size)
  generalize hAe : va_A [zO lr 2 [vR ta, vR la, vI op], zO ta 8 [vR tb, vI fed, vI len, vI at_, vI we, vI fa, vI fp], zI tb (cy 1) 600 bf, zO la 1 [vR l0, vI size, vR l2, vR l3], zI l0 (cy 0) 600 st, zI l2 (cy 0) 5 sf] s.heap.size = A at hD hT ⊢
  have hA : ∀ q : Nat, s.heap.size ≤ q → A q := fun q h => by rw [← hAe]; exact Or.inr h
  have hS : va_S A s.heap s.heap [] := va_S.rf
  have hl0 := lv_entry ([vR lr]) (n := 2) (Nat.le_of_ble_eq_true rfl)
  rw [lg_entry_eq]
  generalize (lg_sl ([vR lr]) ++ List.replicate (2 - (lg_sl ([vR lr])).length) Slot.unset).toArray = ls at hl0 ⊢
  have hlv : lv_has ls 2 [(0, vR lr)] := hl0
  have lf9 := hts (.fieldLink RX2 9 "KerbSplash$LawReader" "tape" "LKerbSplash$Tape;") (List.mem_of_getElem? (i := 1) rfl)
  have hi2 : ∀ w ∈ wsX20, w ∈ vs_w_saying := fun w h => List.mem_cons_of_mem _ (List.mem_append_right _ (List.mem_append_left _ h))
  have gg_1 : GoodIn vs_w_saying (vs_s_word) := goodIn_sub (fun w h => List.mem_cons_of_mem _ (List.mem_append_right _ (List.mem_append_right _ (List.mem_append_left _ h)))) gd_s_word
  have ini_RX8 := hts (.initialized RX8) (List.mem_of_getElem? (i := 2) rfl)
  have im_X8_word := hts (.instanceMethod yX8_word) (List.mem_of_getElem? (i := 3) rfl)
  have se_X8_word := hts (.selects RX8 yX8_word yX8_word) (List.mem_of_getElem? (i := 4) rfl)
  have lf15 := hts (.fieldLink RX2 15 "KerbSplash$LawReader" "law" "LKerbSplash$Law;") (List.mem_of_getElem? (i := 5) rfl)
  have hi1 : ∀ w ∈ wsX10, w ∈ vs_w_saying := fun w h => List.mem_cons_of_mem _ (List.mem_append_right _ (List.mem_append_right _ (List.mem_append_right _ (List.mem_append_left _ h))))
  have gg_3 : GoodIn vs_w_saying (vs_s_takeWord) := goodIn_sub (fun w h => List.mem_cons_of_mem _ (List.mem_append_right _ (List.mem_append_right _ (List.mem_append_right _ (List.mem_append_right _ (List.mem_append_left _ h)))))) gd_s_takeWord
  have im_X8_takeWord := hts (.instanceMethod yX8_takeWord) (List.mem_of_getElem? (i := 6) rfl)
  have se_X8_takeWord := hts (.selects RX8 yX8_takeWord yX8_takeWord) (List.mem_of_getElem? (i := 7) rfl)
  have gg_4 : GoodIn vs_w_saying (vs_s_want) := goodIn_sub (fun w h => List.mem_cons_of_mem _ (List.mem_append_right _ (List.mem_append_right _ (List.mem_append_right _ (List.mem_append_right _ (List.mem_append_right _ (List.mem_append_left _ h))))))) gd_s_want
  have im_X8_want := hts (.instanceMethod yX8_want) (List.mem_of_getElem? (i := 8) rfl)
  have se_X8_want := hts (.selects RX8 yX8_want yX8_want) (List.mem_of_getElem? (i := 9) rfl)
  have gg_5 : GoodIn vs_w_saying (wsV RX2 62 RX2 yX2_readValue vs_w_val) := goodIn_sub (fun w h => List.mem_cons_of_mem _ (List.mem_append_right _ (List.mem_append_right _ (List.mem_append_right _ (List.mem_append_right _ (List.mem_append_right _ (List.mem_append_right _ (List.mem_append_left _ h)))))))) (gd_V gd_w_val (by decide +kernel))
  have gg_6 : GoodIn vs_w_saying (vs_s_ladd) := goodIn_sub (fun w h => List.mem_cons_of_mem _ (List.mem_append_right _ (List.mem_append_right _ (List.mem_append_right _ (List.mem_append_right _ (List.mem_append_right _ (List.mem_append_right _ (List.mem_append_right _ (List.mem_append_left _ h))))))))) gd_s_ladd
  have ini_RX1 := hts (.initialized RX1) (List.mem_of_getElem? (i := 10) rfl)
  have im_X1_add := hts (.instanceMethod yX1_add) (List.mem_of_getElem? (i := 11) rfl)
  have se_X1_add := hts (.selects RX1 yX1_add yX1_add) (List.mem_of_getElem? (i := 12) rfl)
  have gg_7 : GoodIn vs_w_saying (vs_s_refuse) := goodIn_sub (fun w h => List.mem_cons_of_mem _ (List.mem_append_right _ (List.mem_append_right _ (List.mem_append_right _ (List.mem_append_right _ (List.mem_append_right _ (List.mem_append_right _ (List.mem_append_right _ (List.mem_append_right _ (List.mem_append_left _ h)))))))))) gd_s_refuse
  have im_X8_refuse := hts (.instanceMethod yX8_refuse) (List.mem_of_getElem? (i := 13) rfl)
  have se_X8_refuse := hts (.selects RX8 yX8_refuse yX8_refuse) (List.mem_of_getElem? (i := 14) rfl)
  refine lv_aload_n hx hb dX2_readSaying_0 rfl (lv_at hlv 0 rfl) ?_
  refine va_get (D := D) (ci := 2) (v := vR ta) (C := RX2) (T := TX2) (N := 3) hx hb hts hi2 hown hG.1 hP 0 rfl rfl 0 (by decide) lf9 (fun _ h9 => h9) rfl dX2_readSaying_1 ?_
  refine cjr_r (ra := fun u : SV => wd sa (u.2.1 0)) [true, false, false, true, true, true] (fun pre9 => (va_runVN (host := "KerbSplash") (As := []) (rest := []) ⟨hx, hb, hml, hown, hts⟩ (s_word l hl D cy sa ta tb fed len at_ we fa fp bf s.heap.size (by first | exact hr_fed | omega) (by first | exact hr_len | omega) (by first | exact hr_at_ | omega) (by first | exact hr_we | omega) (by first | exact hr_fa | omega) (by first | exact hr_fp | omega)) ⟨va_cnB 0 hts gg_1 rfl rfl rfl (nM_LawReader_33 hG.2.1) ini_RX8 (by decide +kernel) ⟨Nat.le_of_ble_eq_true rfl, Nat.le_of_ble_eq_true rfl⟩, im_X8_word, se_X8_word⟩ ⟨pcW.blind, (va_recv hG.1 hP (ci := 8) (q0 := 1) rfl rfl), pre9⟩ rfl rfl hlv.1 rfl (lv_room (Nat.le_of_ble_eq_true rfl)) dX2_readSaying_4 ⟨Nat.le_of_ble_eq_true rfl, Nat.le_of_ble_eq_true rfl⟩)) hP hD hS hA hG hT [1, 2] rfl (by decide +kernel) (fun u1 H locs hw1 hq9 hS => ?_)
  obtain ⟨hq1_0, hq1_1, hq1_2⟩ := hw1
  obtain ⟨hP, hD⟩ := pd9 [zO lr 2 [vR ta, vR la, vI op], zO la 1 [vR l0, vI size, vR l2, vR l3], zI l0 (cy 0) 600 st, zI l2 (cy 0) 5 sf, zO ta 8 [vR tb, vI fed, vI len, vI (u1.2.1 1), vI (u1.2.1 2), vI fa, vI fp], zI tb (cy 1) 600 bf] hq9
  refine lv_astore_n (lv' := [(1, .ref (wd sa (u1.2.1 0))), (0, vR lr)]) hx hb dX2_readSaying_7 rfl hlv (by decide) rfl (fun ls hlv => ?_)
  refine lv_aload_n hx hb dX2_readSaying_8 rfl (lv_at hlv 0 rfl) ?_
  refine vk_getfN (o := "KerbSplash$Word") (n := "saying") (d := "I") (ref := "KerbSplash$Word") (v := .int (iI (fS (u1.2.1 0)))) hx hb (hT.2.2.1 ((u1.2.1 0) : Int).toNat (by omega)).1.2.2.2.1 hS hown (va_Nw.use rfl (nF_LawReader_37 hG.2.1)) (fun _ h9 => h9) dX2_readSaying_9 ?_
  have hbfS_ := fS_b (k := (u1.2.1 0)) (by omega)
  refine lt_e (e0 := fS (u1.2.1 0)) rfl (fun z_1 hz_1 => ?_)
  refine lv_iconst (v := iI (-1)) hx hb dX2_readSaying_12 (by decide) ?_
  refine ir_ne (tgt := 25) hx hb dX2_readSaying_13 (by decide) (by omega) (by show ((-2147483648) : Int) ≤ (-1) ∧ ((-1) : Int) ≤ 2147483647; decide) (fun c_2 => ?_) (fun c_2 => ?_)
  · refine lv_aload_n hx hb dX2_readSaying_25 rfl (lv_at hlv 1 rfl) ?_
    refine va_get (D := D) (ci := 2) (v := vR la) (C := RX2) (T := TX2) (N := 3) hx hb hts hi2 hown hG.1 hP 0 rfl rfl 1 (by decide) lf15 (fun _ h9 => h9) rfl dX2_readSaying_26 ?_
    refine va_getN (D := D) (ci := 1) (v := vR l2) (C := RX1) (T := TX1) (N := 4) hx hb hts hi1 hown hG.1 hP 1 rfl rfl 2 (by decide) (va_Nw.use rfl (nF_LawReader_47 hG.2.1)) (fun _ h9 => h9) rfl dX2_readSaying_29 ?_
    refine lv_aload_n hx hb dX2_readSaying_32 rfl (lv_at hlv 0 rfl) ?_
    refine vk_getfN (o := "KerbSplash$Word") (n := "saying") (d := "I") (ref := "KerbSplash$Word") (v := .int (iI (fS (u1.2.1 0)))) hx hb (hT.2.2.1 ((u1.2.1 0) : Int).toNat (by omega)).1.2.2.2.1 hS hown (va_Nw.use rfl (nF_LawReader_37 hG.2.1)) (fun _ h9 => h9) dX2_readSaying_33 ?_
    have hbfS_ := fS_b (k := (u1.2.1 0)) (by omega)
    refine lt_e (e0 := fS (u1.2.1 0)) rfl (fun z_3 hz_3 => ?_)
    refine va_iald hx hb hG.1 hP 3 0 rfl rfl (iI_in (by omega) (by decide)) dX2_readSaying_36 ?_
    refine lt_z (fun z_4 ez_4 lz_4 hz_4 => ?_)
    refine lv_iconst (v := iI (-1)) hx hb dX2_readSaying_37 (by decide) ?_
    refine ir_eq (tgt := 50) hx hb dX2_readSaying_38 (by decide) (by omega) (by show ((-2147483648) : Int) ≤ (-1) ∧ ((-1) : Int) ≤ 2147483647; decide) (fun c_5 => ?_) (fun c_5 => ?_)
    · refine lv_aload_n hx hb dX2_readSaying_50 rfl (lv_at hlv 1 rfl) ?_
      refine va_get (D := D) (ci := 2) (v := vR la) (C := RX2) (T := TX2) (N := 3) hx hb hts hi2 hown hG.1 hP 0 rfl rfl 1 (by decide) lf15 (fun _ h9 => h9) rfl dX2_readSaying_51 ?_
      refine va_getN (D := D) (ci := 1) (v := vR l2) (C := RX1) (T := TX1) (N := 4) hx hb hts hi1 hown hG.1 hP 1 rfl rfl 2 (by decide) (va_Nw.use rfl (nF_LawReader_47 hG.2.1)) (fun _ h9 => h9) rfl dX2_readSaying_54 ?_
      refine lv_aload_n hx hb dX2_readSaying_57 rfl (lv_at hlv 0 rfl) ?_
      refine vk_getfN (o := "KerbSplash$Word") (n := "saying") (d := "I") (ref := "KerbSplash$Word") (v := .int (iI (fS (u1.2.1 0)))) hx hb (hT.2.2.1 ((u1.2.1 0) : Int).toNat (by omega)).1.2.2.2.1 hS hown (va_Nw.use rfl (nF_LawReader_37 hG.2.1)) (fun _ h9 => h9) dX2_readSaying_58 ?_
      have hbfS_ := fS_b (k := (u1.2.1 0)) (by omega)
      refine lt_e (e0 := fS (u1.2.1 0)) rfl (fun z_6 hz_6 => ?_)
      refine lv_aload_n hx hb dX2_readSaying_61 rfl (lv_at hlv 1 rfl) ?_
      refine va_get (D := D) (ci := 2) (v := vR la) (C := RX2) (T := TX2) (N := 3) hx hb hts hi2 hown hG.1 hP 0 rfl rfl 1 (by decide) lf15 (fun _ h9 => h9) rfl dX2_readSaying_62 ?_
      refine va_getN (D := D) (ci := 1) (v := vI size) (C := RX1) (T := TX1) (N := 4) hx hb hts hi1 hown hG.1 hP 1 rfl rfl 1 (by decide) (va_Nw.use rfl (nF_LawReader_51 hG.2.1)) (fun _ h9 => h9) rfl dX2_readSaying_65 ?_
      refine va_iast hx hb hG.1 hP hD hS 3 0 rfl rfl (iI_in (by omega) (by decide)) dX2_readSaying_68 (fun H locs hP hD hS => ?_)
      obtain ⟨f_7, hP, hD⟩ := pe9 (fun f_7 => [zO lr 2 [vR ta, vR la, vI op], zO la 1 [vR l0, vI size, vR l2, vR l3], zI l0 (cy 0) 600 st, zI l2 (cy 0) 5 f_7, zO ta 8 [vR tb, vI fed, vI len, vI (u1.2.1 1), vI (u1.2.1 2), vI fa, vI fp], zI tb (cy 1) 600 bf]) _ hP hD
      refine lv_aload_n hx hb dX2_readSaying_69 rfl (lv_at hlv 1 rfl) ?_
      refine va_get (D := D) (ci := 2) (v := vR ta) (C := RX2) (T := TX2) (N := 3) hx hb hts hi2 hown hG.1 hP 0 rfl rfl 0 (by decide) lf9 (fun _ h9 => h9) rfl dX2_readSaying_70 ?_
      refine lv_aload_n hx hb dX2_readSaying_73 rfl (lv_at hlv 0 rfl) ?_
      refine cjr_i [true, true, true, true, false, false] (fun pre9 => (va_runVN (host := "KerbSplash") (As := [.ref (wd sa (u1.2.1 0))]) (rest := []) ⟨hx, hb, hml, hown, hts⟩ (s_takeWord l hl D cy sa ta tb fed len (u1.2.1 1) (u1.2.1 2) fa fp bf (u1.2.1 0) H.size (by first | exact hr_fed | omega) (by first | exact hr_len | omega) (by first | exact hq1_1 | omega) (by first | exact hq1_2 | omega) (by first | exact hr_fa | omega) (by first | exact hr_fp | omega) (by first | exact hq1_0 | omega)) ⟨va_cnB 1 hts gg_3 rfl rfl rfl (nM_LawReader_54 hG.2.1) ini_RX8 (by decide +kernel) ⟨Nat.le_of_ble_eq_true rfl, Nat.le_of_ble_eq_true rfl⟩, im_X8_takeWord, se_X8_takeWord⟩ ⟨pcW.blind, (va_recv hG.1 hP (ci := 8) (q0 := 4) rfl rfl), pre9⟩ rfl rfl hlv.1 rfl (lv_room (Nat.le_of_ble_eq_true rfl)) dX2_readSaying_74 ⟨Nat.le_of_ble_eq_true rfl, Nat.le_of_ble_eq_true rfl⟩)) hP hD hS hA hG hT [4, 5] rfl (by decide +kernel) (fun r2 u2 H locs hw2 hq9 hS => ?_)
      obtain ⟨rfl, hq2_1, hq2_2, hq2_3⟩ := hw2
      obtain ⟨hP, hD⟩ := pd9 [zO lr 2 [vR ta, vR la, vI op], zO la 1 [vR l0, vI size, vR l2, vR l3], zI l0 (cy 0) 600 st, zI l2 (cy 0) 5 f_7, zO ta 8 [vR tb, vI fed, vI len, vI (u2.2.1 1), vI (u2.2.1 2), vI fa, vI fp], zI tb (cy 1) 600 bf] hq9
      refine lv_pop hx hb dX2_readSaying_77 rfl ?_
      refine lv_aload_n hx hb dX2_readSaying_78 rfl (lv_at hlv 1 rfl) ?_
      refine va_get (D := D) (ci := 2) (v := vR ta) (C := RX2) (T := TX2) (N := 3) hx hb hts hi2 hown hG.1 hP 0 rfl rfl 0 (by decide) lf9 (fun _ h9 => h9) rfl dX2_readSaying_79 ?_
      refine lv_bipush (v := iI 61) hx hb dX2_readSaying_82 (by decide) ?_
      refine cjr_v [true, true, true, true, false, false] (fun pre9 => (va_runVN (host := "KerbSplash") (As := [vI 61]) (rest := []) ⟨hx, hb, hml, hown, hts⟩ (s_want l hl D cy sa ta tb fed len (u2.2.1 1) (u2.2.1 2) fa fp bf 61 H.size (by first | exact hr_fed | omega) (by first | exact hr_len | omega) (by first | exact hq2_2 | omega) (by first | exact hq2_3 | omega) (by first | exact hr_fa | omega) (by first | exact hr_fp | omega) (by show (0 : Int) ≤ 61 ∧ (61 : Int) ≤ 65535; decide)) ⟨va_cnB 1 hts gg_4 rfl rfl rfl (nM_LawReader_58 hG.2.1) ini_RX8 (by decide +kernel) ⟨Nat.le_of_ble_eq_true rfl, Nat.le_of_ble_eq_true rfl⟩, im_X8_want, se_X8_want⟩ ⟨pcW.blind, (va_recv hG.1 hP (ci := 8) (q0 := 4) rfl rfl), pre9⟩ rfl rfl hlv.1 rfl (lv_room (Nat.le_of_ble_eq_true rfl)) dX2_readSaying_84 ⟨Nat.le_of_ble_eq_true rfl, Nat.le_of_ble_eq_true rfl⟩)) hP hD hS hA hG hT [4, 5] rfl (by decide +kernel) (fun u3 H locs hw3 hq9 hS => ?_)
      obtain ⟨hq3_0, hq3_1, hq3_2, hq3_3, hq3_4⟩ := hw3
      obtain ⟨hP, hD⟩ := pd9 [zO lr 2 [vR ta, vR la, vI op], zO la 1 [vR l0, vI size, vR l2, vR l3], zI l0 (cy 0) 600 st, zI l2 (cy 0) 5 f_7, zO ta 8 [vR tb, vI fed, vI len, vI (u3.2.1 0), vI (u2.2.1 2), vI (u3.2.1 1), vI (u3.2.1 2)], zI tb (cy 1) 600 bf] hq9
      refine lv_aload_n hx hb dX2_readSaying_87 rfl (lv_at hlv 1 rfl) ?_
      refine cjr_v [false, false, false, true, false, false] (fun pre9 => (va_runV (As := []) (rest := []) ⟨hx, hb, hml, hown, hts⟩ (w_val l hl D cy sa lr ta tb fed len (u3.2.1 0) (u2.2.1 2) (u3.2.1 1) (u3.2.1 2) bf la l0 l2 l3 size st op H.size (by first | exact hr_fed | omega) (by first | exact hr_len | omega) (by first | exact hq3_0 | omega) (by first | exact hq2_3 | omega) (by first | exact hq3_1 | omega) (by first | exact hq3_2 | omega) (by first | exact hr_size | omega) (by first | exact hr_op | omega) hst) (cwV 0 hts gg_5 rfl rfl rfl (by decide +kernel) ⟨Nat.le_of_ble_eq_true rfl, Nat.le_of_ble_eq_true rfl⟩) ⟨pcW.blind, (va_recv hG.1 hP (ci := 2) (q0 := 0) rfl rfl), pre9⟩ rfl rfl hlv.1 rfl (lv_room (Nat.le_of_ble_eq_true rfl)) dX2_readSaying_88 ⟨Nat.le_of_ble_eq_true rfl, Nat.le_of_ble_eq_true rfl⟩)) hP hD hS hA hG hT [0, 4, 5, 1, 2] rfl (by decide +kernel) (fun u4 H locs hw4 hq9 hS => ?_)
      obtain ⟨hq4_0, hq4_1, hq4_2, hq4_3, hq4_4, hq4_5, hq4_6, hq4_7⟩ := hw4
      obtain ⟨hP, hD⟩ := pd9 [zI l2 (cy 0) 5 f_7, zO lr 2 [vR ta, vR la, vI (u4.2.1 5)], zO ta 8 [vR tb, vI fed, vI len, vI (u4.2.1 0), vI (u4.2.1 1), vI (u4.2.1 2), vI (u4.2.1 3)], zI tb (cy 1) 600 bf, zO la 1 [vR l0, vI (u4.2.1 4), vR l2, vR l3], zI l0 (cy 0) 600 (u4.2.2 0)] hq9
      refine lv_aload_n hx hb dX2_readSaying_91 rfl (lv_at hlv 1 rfl) ?_
      refine va_get (D := D) (ci := 2) (v := vR ta) (C := RX2) (T := TX2) (N := 3) hx hb hts hi2 hown hG.1 hP 1 rfl rfl 0 (by decide) lf9 (fun _ h9 => h9) rfl dX2_readSaying_92 ?_
      refine lv_bipush (v := iI 59) hx hb dX2_readSaying_95 (by decide) ?_
      refine cjr_v [true, true, false, false, true, true] (fun pre9 => (va_runVN (host := "KerbSplash") (As := [vI 59]) (rest := []) ⟨hx, hb, hml, hown, hts⟩ (s_want l hl D cy sa ta tb fed len (u4.2.1 0) (u4.2.1 1) (u4.2.1 2) (u4.2.1 3) bf 59 H.size (by first | exact hr_fed | omega) (by first | exact hr_len | omega) (by first | exact hq4_0 | omega) (by first | exact hq4_1 | omega) (by first | exact hq4_2 | omega) (by first | exact hq4_3 | omega) (by show (0 : Int) ≤ 59 ∧ (59 : Int) ≤ 65535; decide)) ⟨va_cnB 1 hts gg_4 rfl rfl rfl (nM_LawReader_58 hG.2.1) ini_RX8 (by decide +kernel) ⟨Nat.le_of_ble_eq_true rfl, Nat.le_of_ble_eq_true rfl⟩, im_X8_want, se_X8_want⟩ ⟨pcW.blind, (va_recv hG.1 hP (ci := 8) (q0 := 2) rfl rfl), pre9⟩ rfl rfl hlv.1 rfl (lv_room (Nat.le_of_ble_eq_true rfl)) dX2_readSaying_97 ⟨Nat.le_of_ble_eq_true rfl, Nat.le_of_ble_eq_true rfl⟩)) hP hD hS hA hG hT [2, 3] rfl (by decide +kernel) (fun u5 H locs hw5 hq9 hS => ?_)
      obtain ⟨hq5_0, hq5_1, hq5_2, hq5_3, hq5_4⟩ := hw5
      obtain ⟨hP, hD⟩ := pd9 [zI l2 (cy 0) 5 f_7, zO lr 2 [vR ta, vR la, vI (u4.2.1 5)], zO la 1 [vR l0, vI (u4.2.1 4), vR l2, vR l3], zI l0 (cy 0) 600 (u4.2.2 0), zO ta 8 [vR tb, vI fed, vI len, vI (u5.2.1 0), vI (u4.2.1 1), vI (u5.2.1 1), vI (u5.2.1 2)], zI tb (cy 1) 600 bf] hq9
      refine lv_aload_n hx hb dX2_readSaying_100 rfl (lv_at hlv 1 rfl) ?_
      refine va_get (D := D) (ci := 2) (v := vR la) (C := RX2) (T := TX2) (N := 3) hx hb hts hi2 hown hG.1 hP 1 rfl rfl 1 (by decide) lf15 (fun _ h9 => h9) rfl dX2_readSaying_101 ?_
      refine lv_bipush (v := iI 13) hx hb dX2_readSaying_104 (by decide) ?_
      refine lv_iconst (v := iI 0) hx hb dX2_readSaying_106 (by decide) ?_
      refine cjr_i [true, true, false, false, true, true] (fun pre9 => (va_runVN (host := "KerbSplash") (As := [vI 13, vI 0]) (rest := []) ⟨hx, hb, hml, hown, hts⟩ (s_ladd l hl D cy sa la l0 l2 l3 (u4.2.1 4) (u4.2.2 0) 13 0 H.size (by first | exact hq4_4 | omega) (by show (0 : Int) ≤ 13 ∧ (13 : Int) ≤ 15; decide) (by show (0 : Int) ≤ 0 ∧ (0 : Int) ≤ 10000; decide) hq4_7) ⟨va_cnB 2 hts gg_6 rfl rfl rfl (nM_LawReader_65 hG.2.1) ini_RX1 (by decide +kernel) ⟨Nat.le_of_ble_eq_true rfl, Nat.le_of_ble_eq_true rfl⟩, im_X1_add, se_X1_add⟩ ⟨pcW.blind, (va_recv hG.1 hP (ci := 1) (q0 := 2) rfl rfl), pre9⟩ rfl rfl hlv.1 rfl (lv_room (Nat.le_of_ble_eq_true rfl)) dX2_readSaying_107 ⟨Nat.le_of_ble_eq_true rfl, Nat.le_of_ble_eq_true rfl⟩)) hP hD hS hA hG hT [2, 3] rfl (by decide +kernel) (fun r6 u6 H locs hw6 hq9 hS => ?_)
      obtain ⟨rfl, hq6_1, hq6_2, hq6_3, hq6_4⟩ := hw6
      obtain ⟨hP, hD⟩ := pd9 [zI l2 (cy 0) 5 f_7, zO lr 2 [vR ta, vR la, vI (u4.2.1 5)], zO ta 8 [vR tb, vI fed, vI len, vI (u5.2.1 0), vI (u4.2.1 1), vI (u5.2.1 1), vI (u5.2.1 2)], zI tb (cy 1) 600 bf, zO la 1 [vR l0, vI (u6.2.1 1), vR l2, vR l3], zI l0 (cy 0) 600 (u6.2.2 0)] hq9
      refine lv_pop hx hb dX2_readSaying_110 rfl ?_
      refine W.widen (k := 0) (n := 0) (Nat.le_of_ble_eq_true rfl) (Nat.le_of_ble_eq_true rfl) ?_
      exact W.vret hx hb hr (fun t ht hW => ⟨⟨((fun k => ([] : List Nat).getD k 0), (fun k => ([(u5.2.1 0), (u4.2.1 1), (u5.2.1 1), (u5.2.1 2), (u6.2.1 1), (u4.2.1 5)] : List Int).getD k 0), (fun k => ([(u6.2.2 0), f_7] : List (Nat → Int32)).getD k (fun _ => 0))), rfl, ⟨(by show (0 ≤ (u5.2.1 0) ∧ (u5.2.1 0) ≤ 600); first | exact hq5_0 | omega), (by show (0 ≤ (u4.2.1 1) ∧ (u4.2.1 1) ≤ 600); first | exact hq4_1 | omega), (by show (0 ≤ (u5.2.1 1) ∧ (u5.2.1 1) ≤ 4); first | exact hq5_1 | omega), (by show ((-1) ≤ (u5.2.1 2) ∧ (u5.2.1 2) ≤ 600); first | exact hq5_2 | omega), (by show (0 ≤ (u6.2.1 1) ∧ (u6.2.1 1) ≤ 600); first | exact hq6_2 | omega), (by show (0 ≤ (u4.2.1 5) ∧ (u4.2.1 5) ≤ 6); first | exact hq4_5 | omega), (by show ((u4.2.1 5) = op); omega), hq6_4⟩, at9 ht hP hD [1, 2, 3, 4, 5, 0] (by decide +kernel) rfl⟩, hS.F ht⟩) hS.2.2 dX2_readSaying_111
    · refine lv_aload_n hx hb dX2_readSaying_41 rfl (lv_at hlv 1 rfl) ?_
      refine va_get (D := D) (ci := 2) (v := vR ta) (C := RX2) (T := TX2) (N := 3) hx hb hts hi2 hown hG.1 hP 0 rfl rfl 0 (by decide) lf9 (fun _ h9 => h9) rfl dX2_readSaying_42 ?_
      refine lv_iconst (v := iI 4) hx hb dX2_readSaying_45 (by decide) ?_
      refine cjr_v [true, true, true, true, false, true] (fun pre9 => (va_runVN (host := "KerbSplash") (As := [vI 4]) (rest := []) ⟨hx, hb, hml, hown, hts⟩ (s_refuse l hl D cy sa ta tb fed len (u1.2.1 1) (u1.2.1 2) fa fp 4 H.size (by first | exact hr_fed | omega) (by first | exact hr_len | omega) (by first | exact hq1_1 | omega) (by first | exact hq1_2 | omega) (by first | exact hr_fa | omega) (by first | exact hr_fp | omega) (by show (1 : Int) ≤ 4 ∧ (4 : Int) ≤ 4; decide)) ⟨va_cnB 1 hts gg_7 rfl rfl rfl (nM_LawReader_43 hG.2.1) ini_RX8 (by decide +kernel) ⟨Nat.le_of_ble_eq_true rfl, Nat.le_of_ble_eq_true rfl⟩, im_X8_refuse, se_X8_refuse⟩ ⟨pcW.blind, (va_recv hG.1 hP (ci := 8) (q0 := 4) rfl rfl), pre9⟩ rfl rfl hlv.1 rfl (lv_room (Nat.le_of_ble_eq_true rfl)) dX2_readSaying_46 ⟨Nat.le_of_ble_eq_true rfl, Nat.le_of_ble_eq_true rfl⟩)) hP hD hS hA hG hT [4] rfl (by decide +kernel) (fun u7 H locs hw7 hq9 hS => ?_)
      obtain ⟨hq7_0, hq7_1⟩ := hw7
      obtain ⟨hP, hD⟩ := pd9 [zO lr 2 [vR ta, vR la, vI op], zO la 1 [vR l0, vI size, vR l2, vR l3], zI l0 (cy 0) 600 st, zI l2 (cy 0) 5 sf, zI tb (cy 1) 600 bf, zO ta 8 [vR tb, vI fed, vI len, vI (u1.2.1 1), vI (u1.2.1 2), vI (u7.2.1 0), vI (u7.2.1 1)]] hq9
      refine W.widen (k := 0) (n := 0) (Nat.le_of_ble_eq_true rfl) (Nat.le_of_ble_eq_true rfl) ?_
      exact W.vret hx hb hr (fun t ht hW => ⟨⟨((fun k => ([] : List Nat).getD k 0), (fun k => ([(u1.2.1 1), (u1.2.1 2), (u7.2.1 0), (u7.2.1 1), size, op] : List Int).getD k 0), (fun k => ([st, sf] : List (Nat → Int32)).getD k (fun _ => 0))), rfl, ⟨(by show (0 ≤ (u1.2.1 1) ∧ (u1.2.1 1) ≤ 600); first | exact hq1_1 | omega), (by show (0 ≤ (u1.2.1 2) ∧ (u1.2.1 2) ≤ 600); first | exact hq1_2 | omega), (by show (0 ≤ (u7.2.1 0) ∧ (u7.2.1 0) ≤ 4); first | exact rgw hq7_0 (by decide) (by decide) | omega), (by show ((-1) ≤ (u7.2.1 1) ∧ (u7.2.1 1) ≤ 600); first | exact hq7_1 | omega), (by show (0 ≤ size ∧ size ≤ 600); first | exact hr_size | omega), (by show (0 ≤ op ∧ op ≤ 6); first | exact hr_op | omega), (by show (op = op); omega), hst⟩, at9 ht hP hD [0, 5, 4, 1, 2, 3] (by decide +kernel) rfl⟩, hS.F ht⟩) hS.2.2 dX2_readSaying_49
  · refine lv_aload_n hx hb dX2_readSaying_16 rfl (lv_at hlv 1 rfl) ?_
    refine va_get (D := D) (ci := 2) (v := vR ta) (C := RX2) (T := TX2) (N := 3) hx hb hts hi2 hown hG.1 hP 0 rfl rfl 0 (by decide) lf9 (fun _ h9 => h9) rfl dX2_readSaying_17 ?_
    refine lv_iconst (v := iI 1) hx hb dX2_readSaying_20 (by decide) ?_
    refine cjr_v [true, true, true, true, false, true] (fun pre9 => (va_runVN (host := "KerbSplash") (As := [vI 1]) (rest := []) ⟨hx, hb, hml, hown, hts⟩ (s_refuse l hl D cy sa ta tb fed len (u1.2.1 1) (u1.2.1 2) fa fp 1 H.size (by first | exact hr_fed | omega) (by first | exact hr_len | omega) (by first | exact hq1_1 | omega) (by first | exact hq1_2 | omega) (by first | exact hr_fa | omega) (by first | exact hr_fp | omega) (by show (1 : Int) ≤ 1 ∧ (1 : Int) ≤ 4; decide)) ⟨va_cnB 1 hts gg_7 rfl rfl rfl (nM_LawReader_43 hG.2.1) ini_RX8 (by decide +kernel) ⟨Nat.le_of_ble_eq_true rfl, Nat.le_of_ble_eq_true rfl⟩, im_X8_refuse, se_X8_refuse⟩ ⟨pcW.blind, (va_recv hG.1 hP (ci := 8) (q0 := 4) rfl rfl), pre9⟩ rfl rfl hlv.1 rfl (lv_room (Nat.le_of_ble_eq_true rfl)) dX2_readSaying_21 ⟨Nat.le_of_ble_eq_true rfl, Nat.le_of_ble_eq_true rfl⟩)) hP hD hS hA hG hT [4] rfl (by decide +kernel) (fun u8 H locs hw8 hq9 hS => ?_)
    obtain ⟨hq8_0, hq8_1⟩ := hw8
    obtain ⟨hP, hD⟩ := pd9 [zO lr 2 [vR ta, vR la, vI op], zO la 1 [vR l0, vI size, vR l2, vR l3], zI l0 (cy 0) 600 st, zI l2 (cy 0) 5 sf, zI tb (cy 1) 600 bf, zO ta 8 [vR tb, vI fed, vI len, vI (u1.2.1 1), vI (u1.2.1 2), vI (u8.2.1 0), vI (u8.2.1 1)]] hq9
    refine W.widen (k := 0) (n := 0) (Nat.le_of_ble_eq_true rfl) (Nat.le_of_ble_eq_true rfl) ?_
    exact W.vret hx hb hr (fun t ht hW => ⟨⟨((fun k => ([] : List Nat).getD k 0), (fun k => ([(u1.2.1 1), (u1.2.1 2), (u8.2.1 0), (u8.2.1 1), size, op] : List Int).getD k 0), (fun k => ([st, sf] : List (Nat → Int32)).getD k (fun _ => 0))), rfl, ⟨(by show (0 ≤ (u1.2.1 1) ∧ (u1.2.1 1) ≤ 600); first | exact hq1_1 | omega), (by show (0 ≤ (u1.2.1 2) ∧ (u1.2.1 2) ≤ 600); first | exact hq1_2 | omega), (by show (0 ≤ (u8.2.1 0) ∧ (u8.2.1 0) ≤ 4); first | exact rgw hq8_0 (by decide) (by decide) | omega), (by show ((-1) ≤ (u8.2.1 1) ∧ (u8.2.1 1) ≤ 600); first | exact hq8_1 | omega), (by show (0 ≤ size ∧ size ≤ 600); first | exact hr_size | omega), (by show (0 ≤ op ∧ op ≤ 6); first | exact hr_op | omega), (by show (op = op); omega), hst⟩, at9 ht hP hD [0, 5, 4, 1, 2, 3] (by decide +kernel) rfl⟩, hS.F ht⟩) hS.2.2 dX2_readSaying_24
def vs_w_read : List Cond := .code yX2_read cX2_read 2 none :: (([.fieldLink RX2 15 "KerbSplash$LawReader" "law" "LKerbSplash$Law;", .initialized RX1, .instanceMethod yX1_reset, .selects RX1 yX1_reset yX1_reset, .fieldLink RX2 9 "KerbSplash$LawReader" "tape" "LKerbSplash$Tape;", .initialized RX8, .instanceMethod yX8_hasMore, .selects RX8 yX8_hasMore yX8_hasMore] : List Cond) ++ ((wsX20) ++ ((vs_w_reset) ++ ((vs_s_hasMore) ++ ((wsV RX2 30 RX2 yX2_readSaying vs_w_saying) ++ ([]))))))
theorem gd_w_read : vs_w_read.all goodWord = true := gd_C (by decide +kernel) (gd_A (by decide +kernel) (gd_A (by decide +kernel) (gd_A gd_w_reset (gd_A gd_s_hasMore (gd_A (gd_V gd_w_saying (by decide +kernel)) rfl)))))
set_option maxHeartbeats 4000000 in
set_option maxRecDepth 100000 in
theorem w_read (l : Launch) (hl : l.stackTraces = false) (D : va_G) (cy : Nat → ClassId) (sa : Nat → Nat) (lr : Nat) (ta tb : Nat) (fed len at_ we fa fp : Int) (bf : Nat → Int32) (la l0 l2 l3 : Nat) (size : Int) (st : Nat → Int32) (op : Int) (sf : Nat → Int32) (sz : Nat) (hr_fed : 0 ≤ fed ∧ fed ≤ 600) (hr_len : 0 ≤ len ∧ len ≤ 600) (hr_at_ : 0 ≤ at_ ∧ at_ ≤ 600) (hr_we : 0 ≤ we ∧ we ≤ 600) (hr_fa : 0 ≤ fa ∧ fa ≤ 4) (hr_fp : (-1) ≤ fp ∧ fp ≤ 600) (hr_size : 0 ≤ size ∧ size ≤ 600) (hr_op : 0 ≤ op ∧ op ≤ 6) (hst : inv_ 600 0 2147483647 st) : mV9 l yX2_read vs_w_read ({ frames := 88, cells := 0, slots := 0, locals := 6422 }) D cy sa sz [vR lr] [zO lr 2 [vR ta, vR la, vI op], zO ta 8 [vR tb, vI fed, vI len, vI at_, vI we, vI fa, vI fp], zI tb (cy 1) 600 bf, zO la 1 [vR l0, vI size, vR l2, vR l3], zI l0 (cy 0) 600 st, zI l2 (cy 0) 5 sf] (fun u : SV => (0 ≤ u.2.1 0 ∧ u.2.1 0 ≤ 600) ∧ (0 ≤ u.2.1 1 ∧ u.2.1 1 ≤ 600) ∧ (0 ≤ u.2.1 2 ∧ u.2.1 2 ≤ 4) ∧ ((-1) ≤ u.2.1 3 ∧ u.2.1 3 ≤ 600) ∧ (0 ≤ u.2.1 4 ∧ u.2.1 4 ≤ 600) ∧ (0 ≤ u.2.1 5 ∧ u.2.1 5 ≤ 6) ∧ (u.2.1 5 = op) ∧ inv_ 600 0 2147483647 (u.2.2 0)) (fun u : SV => [zO lr 2 [vR ta, vR la, vI (u.2.1 5)], zO ta 8 [vR tb, vI fed, vI len, vI (u.2.1 0), vI (u.2.1 1), vI (u.2.1 2), vI (u.2.1 3)], zI tb (cy 1) 600 bf, zO la 1 [vR l0, vI (u.2.1 4), vR l2, vR l3], zI l0 (cy 0) 600 (u.2.2 0), zI l2 (cy 0) 5 (u.2.2 1)]) 0 0 := by
  refine Met.ofW (cc := cX2_read) (maxL := 2) (ret := none) (by decide) rfl ?_
  intro p e s m args below meth c s₁ B hml hv
  obtain ⟨rfl, hsz, hP, hG, hD0, hT⟩ := hv
  have hx := B.exec
  have hb := B.bytes
  have hr := B.returns
  have hts := atoms_spec (ws := vs_w_read) B.pre
  have hown : s.vm.findClass RX2 = some m.cls := findClass_of_methodNamed B.named
  have hlocks := B.notSynchronized
  subst hsz
  have hD := hD0.self (sz := s.heap.size)
  generalize hAe : va_A [zO lr 2 [vR ta, vR la, vI op], zO ta 8 [vR tb, vI fed, vI len, vI at_, vI we, vI fa, vI fp], zI tb (cy 1) 600 bf, zO la 1 [vR l0, vI size, vR l2, vR l3], zI l0 (cy 0) 600 st, zI l2 (cy 0) 5 sf] s.heap.size = A at hD hT ⊢
  have hA : ∀ q : Nat, s.heap.size ≤ q → A q := fun q h => by rw [← hAe]; exact Or.inr h
  have hS : va_S A s.heap s.heap [] := va_S.rf
  have hl0 := lv_entry ([vR lr]) (n := 2) (Nat.le_of_ble_eq_true rfl)
  rw [lg_entry_eq]
  generalize (lg_sl ([vR lr]) ++ List.replicate (2 - (lg_sl ([vR lr])).length) Slot.unset).toArray = ls at hl0 ⊢
  have hlv : lv_has ls 2 [(0, vR lr)] := hl0
  have lf15 := hts (.fieldLink RX2 15 "KerbSplash$LawReader" "law" "LKerbSplash$Law;") (List.mem_of_getElem? (i := 1) rfl)
  have hi2 : ∀ w ∈ wsX20, w ∈ vs_w_read := fun w h => List.mem_cons_of_mem _ (List.mem_append_right _ (List.mem_append_left _ h))
  have gg_1 : GoodIn vs_w_read (vs_w_reset) := goodIn_sub (fun w h => List.mem_cons_of_mem _ (List.mem_append_right _ (List.mem_append_right _ (List.mem_append_left _ h)))) gd_w_reset
  have ini_RX1 := hts (.initialized RX1) (List.mem_of_getElem? (i := 2) rfl)
  have im_X1_reset := hts (.instanceMethod yX1_reset) (List.mem_of_getElem? (i := 3) rfl)
  have se_X1_reset := hts (.selects RX1 yX1_reset yX1_reset) (List.mem_of_getElem? (i := 4) rfl)
  have lf9 := hts (.fieldLink RX2 9 "KerbSplash$LawReader" "tape" "LKerbSplash$Tape;") (List.mem_of_getElem? (i := 5) rfl)
  have gg_2 : GoodIn vs_w_read (vs_s_hasMore) := goodIn_sub (fun w h => List.mem_cons_of_mem _ (List.mem_append_right _ (List.mem_append_right _ (List.mem_append_right _ (List.mem_append_left _ h))))) gd_s_hasMore
  have ini_RX8 := hts (.initialized RX8) (List.mem_of_getElem? (i := 6) rfl)
  have im_X8_hasMore := hts (.instanceMethod yX8_hasMore) (List.mem_of_getElem? (i := 7) rfl)
  have se_X8_hasMore := hts (.selects RX8 yX8_hasMore yX8_hasMore) (List.mem_of_getElem? (i := 8) rfl)
  have gg_3 : GoodIn vs_w_read (wsV RX2 30 RX2 yX2_readSaying vs_w_saying) := goodIn_sub (fun w h => List.mem_cons_of_mem _ (List.mem_append_right _ (List.mem_append_right _ (List.mem_append_right _ (List.mem_append_right _ (List.mem_append_left _ h)))))) (gd_V gd_w_saying (by decide +kernel))
  refine lv_aload_n hx hb dX2_read_0 rfl (lv_at hlv 0 rfl) ?_
  refine va_get (D := D) (ci := 2) (v := vR la) (C := RX2) (T := TX2) (N := 3) hx hb hts hi2 hown hG.1 hP 0 rfl rfl 1 (by decide) lf15 (fun _ h9 => h9) rfl dX2_read_1 ?_
  refine cjr_v [true, true, true, false, true, false] (fun pre9 => (va_runVN (host := "KerbSplash") (As := []) (rest := []) ⟨hx, hb, hml, hown, hts⟩ (w_reset l hl D cy sa la l0 l2 l3 size sf s.heap.size (by first | exact hr_size | omega)) ⟨va_cnB 0 hts gg_1 rfl rfl rfl (nM_LawReader_19 hG.2.1) ini_RX1 (by decide +kernel) ⟨Nat.le_of_ble_eq_true rfl, Nat.le_of_ble_eq_true rfl⟩, im_X1_reset, se_X1_reset⟩ ⟨pcW.blind, (va_recv hG.1 hP (ci := 1) (q0 := 3) rfl rfl), pre9⟩ rfl rfl hlv.1 rfl (lv_room (Nat.le_of_ble_eq_true rfl)) dX2_read_4 ⟨Nat.le_of_ble_eq_true rfl, Nat.le_of_ble_eq_true rfl⟩)) hP hD hS hA hG hT [3, 5] rfl (by decide +kernel) (fun u1 H locs hw1 hq9 hS => ?_)
  obtain ⟨hP, hD⟩ := pd9 [zO lr 2 [vR ta, vR la, vI op], zO ta 8 [vR tb, vI fed, vI len, vI at_, vI we, vI fa, vI fp], zI tb (cy 1) 600 bf, zI l0 (cy 0) 600 st, zO la 1 [vR l0, vI 0, vR l2, vR l3], zI l2 (cy 0) 5 (u1.2.2 0)] hq9
  refine lv_iconst (v := iI 0) hx hb dX2_read_7 (by decide) ?_
  refine lv_istore_n (lv' := [(1, vI 0), (0, vR lr)]) hx hb dX2_read_8 rfl hlv (by decide) rfl (fun ls hlv => ?_)
  refine (?_ : ∀ (fu : Nat) (q : Int) (ys : Int) (yo : Int) (yl : Nat → Int32) (yf2 : Nat → Int32) (ya : Int) (yw : Int) (yf : Int) (yg : Int) (H : Heap) (locs : List Loc) (ls : Array Slot), 600 - q < (fu : Int) → (0 ≤ q ∧ q ≤ 600) → (0 ≤ ys ∧ ys ≤ 600) → (0 ≤ yo ∧ yo ≤ 6) → (0 ≤ ya ∧ ya ≤ 600) → (0 ≤ yw ∧ yw ≤ 600) → (0 ≤ yf ∧ yf ≤ 4) → ((-1) ≤ yg ∧ yg ≤ 600) → (yo = op) → inv_ 600 0 2147483647 yl → va_P D vwCl [zO lr 2 [vR ta, vR la, vI yo], zO ta 8 [vR tb, vI fed, vI len, vI ya, vI yw, vI yf, vI yg], zI tb (cy 1) 600 bf, zI l0 (cy 0) 600 yl, zO la 1 [vR l0, vI ys, vR l2, vR l3], zI l2 (cy 0) 5 yf2] H → va_D A [zO lr 2 [vR ta, vR la, vI yo], zO ta 8 [vR tb, vI fed, vI len, vI ya, vI yw, vI yf, vI yg], zI tb (cy 1) 600 bf, zI l0 (cy 0) 600 yl, zO la 1 [vR l0, vI ys, vR l2, vR l3], zI l2 (cy 0) 5 yf2] → va_S A s.heap H locs → lv_has ls 2 [(1, vI q), (0, vR lr)] → W p l e _ s m _ below meth c H locs _ _ _ (F0 m 9 ls [])) (((600 - 0) + 1 : Int)).toNat 0 0 op st (u1.2.2 0) at_ we fa fp _ _ _ (by omega) (by show (0 : Int) ≤ 0 ∧ (0 : Int) ≤ 600; decide) (by show (0 : Int) ≤ 0 ∧ (0 : Int) ≤ 600; decide) (by first | exact hr_op | omega) (by first | exact hr_at_ | omega) (by first | exact hr_we | omega) (by first | exact hr_fa | omega) (by first | exact hr_fp | omega) (by omega) hst hP hD hS hlv
  clear hP hD hS hlv
  intro fu
  induction fu with
  | zero => intro q ys yo yl yf2 ya yw yf yg H locs ls hm9 hl9_0 hl9_1 hl9_2 hl9_3 hl9_4 hl9_5 hl9_6 hl9_7 hiyl hP hD hS hlv; omega
  | succ fu ih9 =>
    intro q ys yo yl yf2 ya yw yf yg H locs ls hm9 hl9_0 hl9_1 hl9_2 hl9_3 hl9_4 hl9_5 hl9_6 hl9_7 hiyl hP hD hS hlv
    refine lv_iload_n hx hb dX2_read_9 rfl (lv_at hlv 0 rfl) ?_
    refine lv_sipush (v := iI 600) hx hb dX2_read_10 (by decide) ?_
    refine ir_ge (tgt := 36) hx hb dX2_read_13 (by decide) (by first | exact rgw hl9_0 (by decide) (by decide) | omega) (by show ((-2147483648) : Int) ≤ 600 ∧ (600 : Int) ≤ 2147483647; decide) (fun c_1 => ?_) (fun c_1 => ?_)
    · refine W.widen (k := 0) (n := 0) (Nat.le_of_ble_eq_true rfl) (Nat.le_of_ble_eq_true rfl) ?_
      exact W.vret hx hb hr (fun t ht hW => ⟨⟨((fun k => ([] : List Nat).getD k 0), (fun k => ([ya, yw, yf, yg, ys, yo] : List Int).getD k 0), (fun k => ([yl, yf2] : List (Nat → Int32)).getD k (fun _ => 0))), rfl, ⟨(by show (0 ≤ ya ∧ ya ≤ 600); first | exact hl9_3 | omega), (by show (0 ≤ yw ∧ yw ≤ 600); first | exact hl9_4 | omega), (by show (0 ≤ yf ∧ yf ≤ 4); first | exact hl9_5 | omega), (by show ((-1) ≤ yg ∧ yg ≤ 600); first | exact hl9_6 | omega), (by show (0 ≤ ys ∧ ys ≤ 600); first | exact hl9_1 | omega), (by show (0 ≤ yo ∧ yo ≤ 6); first | exact hl9_2 | omega), (by show (yo = op); omega), hiyl⟩, at9 ht hP hD [0, 1, 2, 4, 3, 5] (by decide +kernel) rfl⟩, hS.F ht⟩) hS.2.2 dX2_read_36
    · refine lv_aload_n hx hb dX2_read_16 rfl (lv_at hlv 1 rfl) ?_
      refine va_get (D := D) (ci := 2) (v := vR ta) (C := RX2) (T := TX2) (N := 3) hx hb hts hi2 hown hG.1 hP 0 rfl rfl 0 (by decide) lf9 (fun _ h9 => h9) rfl dX2_read_17 ?_
      refine cjr_i [true, false, false, true, true, true] (fun pre9 => (va_runVN (host := "KerbSplash") (As := []) (rest := []) ⟨hx, hb, hml, hown, hts⟩ (s_hasMore l hl D cy sa ta tb fed len ya yw yf yg bf H.size (by first | exact hr_fed | omega) (by first | exact hr_len | omega) (by first | exact hl9_3 | omega) (by first | exact hl9_4 | omega) (by first | exact hl9_5 | omega) (by first | exact hl9_6 | omega)) ⟨va_cnB 0 hts gg_2 rfl rfl rfl (nM_LawReader_26 hG.2.1) ini_RX8 (by decide +kernel) ⟨Nat.le_of_ble_eq_true rfl, Nat.le_of_ble_eq_true rfl⟩, im_X8_hasMore, se_X8_hasMore⟩ ⟨pcW.blind, (va_recv hG.1 hP (ci := 8) (q0 := 1) rfl rfl), pre9⟩ rfl rfl hlv.1 rfl (lv_room (Nat.le_of_ble_eq_true rfl)) dX2_read_20 ⟨Nat.le_of_ble_eq_true rfl, Nat.le_of_ble_eq_true rfl⟩)) hP hD hS hA hG hT [1, 2] rfl (by decide +kernel) (fun r2 u2 H locs hw2 hq9 hS => ?_)
      obtain ⟨rfl, hq2_1, hq2_2, hq2_3, hq2_4⟩ := hw2
      obtain ⟨hP, hD⟩ := pd9 [zO lr 2 [vR ta, vR la, vI yo], zI l0 (cy 0) 600 yl, zO la 1 [vR l0, vI ys, vR l2, vR l3], zI l2 (cy 0) 5 yf2, zO ta 8 [vR tb, vI fed, vI len, vI (u2.2.1 1), vI yw, vI yf, vI yg], zI tb (cy 1) 600 bf] hq9
      refine iz_eq (tgt := 36) hx hb dX2_read_23 (by decide) (by first | exact rgw hq2_1 (by decide) (by decide) | omega) (fun c_2 => ?_) (fun c_2 => ?_)
      · refine W.widen (k := 0) (n := 0) (Nat.le_of_ble_eq_true rfl) (Nat.le_of_ble_eq_true rfl) ?_
        exact W.vret hx hb hr (fun t ht hW => ⟨⟨((fun k => ([] : List Nat).getD k 0), (fun k => ([(u2.2.1 1), yw, yf, yg, ys, yo] : List Int).getD k 0), (fun k => ([yl, yf2] : List (Nat → Int32)).getD k (fun _ => 0))), rfl, ⟨(by show (0 ≤ (u2.2.1 1) ∧ (u2.2.1 1) ≤ 600); first | exact hq2_2 | omega), (by show (0 ≤ yw ∧ yw ≤ 600); first | exact hl9_4 | omega), (by show (0 ≤ yf ∧ yf ≤ 4); first | exact hl9_5 | omega), (by show ((-1) ≤ yg ∧ yg ≤ 600); first | exact hl9_6 | omega), (by show (0 ≤ ys ∧ ys ≤ 600); first | exact hl9_1 | omega), (by show (0 ≤ yo ∧ yo ≤ 6); first | exact hl9_2 | omega), (by show (yo = op); omega), hiyl⟩, at9 ht hP hD [0, 4, 5, 2, 1, 3] (by decide +kernel) rfl⟩, hS.F ht⟩) hS.2.2 dX2_read_36
      · refine lv_aload_n hx hb dX2_read_26 rfl (lv_at hlv 1 rfl) ?_
        refine cjr_v [false, false, false, false, false, false] (fun pre9 => (va_runV (As := []) (rest := []) ⟨hx, hb, hml, hown, hts⟩ (w_saying l hl D cy sa lr ta tb fed len (u2.2.1 1) yw yf yg bf la l0 l2 l3 ys yl yo yf2 H.size (by first | exact hr_fed | omega) (by first | exact hr_len | omega) (by first | exact hq2_2 | omega) (by first | exact hl9_4 | omega) (by first | exact hl9_5 | omega) (by first | exact hl9_6 | omega) (by first | exact hl9_1 | omega) (by first | exact hl9_2 | omega) hiyl) (cwV 0 hts gg_3 rfl rfl rfl (by decide +kernel) ⟨Nat.le_of_ble_eq_true rfl, Nat.le_of_ble_eq_true rfl⟩) ⟨pcW.blind, (va_recv hG.1 hP (ci := 2) (q0 := 0) rfl rfl), pre9⟩ rfl rfl hlv.1 rfl (lv_room (Nat.le_of_ble_eq_true rfl)) dX2_read_27 ⟨Nat.le_of_ble_eq_true rfl, Nat.le_of_ble_eq_true rfl⟩)) hP hD hS hA hG hT [0, 4, 5, 2, 1, 3] rfl (by decide +kernel) (fun u3 H locs hw3 hq9 hS => ?_)
        obtain ⟨hq3_0, hq3_1, hq3_2, hq3_3, hq3_4, hq3_5, hq3_6, hq3_7⟩ := hw3
        obtain ⟨hP, hD⟩ := pd9 [zO lr 2 [vR ta, vR la, vI (u3.2.1 5)], zO ta 8 [vR tb, vI fed, vI len, vI (u3.2.1 0), vI (u3.2.1 1), vI (u3.2.1 2), vI (u3.2.1 3)], zI tb (cy 1) 600 bf, zO la 1 [vR l0, vI (u3.2.1 4), vR l2, vR l3], zI l0 (cy 0) 600 (u3.2.2 0), zI l2 (cy 0) 5 (u3.2.2 1)] hq9
        obtain ⟨z_3, hz_3⟩ : ∃ z : Int, z = q + 1 := ⟨_, rfl⟩
        refine lv_iinc (v := iI z_3) (lv' := [(1, vI z_3), (0, vR lr)]) hx hb dX2_read_30 hlv (k := 0) rfl (by rw [hz_3]; exact (Int32.ofInt_add _ _).symm) (by decide) rfl (fun ls hlv => ?_)
        refine lv_goto (tgt := 9) hx hb dX2_read_33 (by decide) ?_
        exact ih9 z_3 (u3.2.1 4) (u3.2.1 5) (u3.2.2 0) (u3.2.2 1) (u3.2.1 0) (u3.2.1 1) (u3.2.1 2) (u3.2.1 3) H locs ls (by omega) (by omega) (by first | exact hq3_4 | omega) (by first | exact hq3_5 | omega) (by first | exact hq3_0 | omega) (by first | exact hq3_1 | omega) (by first | exact hq3_2 | omega) (by first | exact hq3_3 | omega) (by omega) hq3_7 (hP.sub [0, 1, 2, 4, 3, 5] rfl) (hD.sub [0, 1, 2, 4, 3, 5] (by decide) rfl) hS (lv_sub hlv [0, 1] rfl)
end
section
theorem dX0_become_0 : decode cX0_become 0 = .ok (.aload_n 0, 1) := by decide +kernel
theorem dX0_become_1 : decode cX0_become 1 = .ok (.iload_n 1, 1) := by decide +kernel
theorem dX0_become_10 : decode cX0_become 10 = .ok (.aload_n 0, 1) := by decide +kernel
theorem dX0_become_11 : decode cX0_become 11 = .ok (.iload_n 3, 1) := by decide +kernel
theorem dX0_become_12 : decode cX0_become 12 = .ok (.putfield 22, 3) := by decide +kernel
theorem dX0_become_15 : decode cX0_become 15 = .ok (.aload_n 0, 1) := by decide +kernel
theorem dX0_become_16 : decode cX0_become 16 = .ok (.iload 4, 2) := by decide +kernel
theorem dX0_become_18 : decode cX0_become 18 = .ok (.putfield 25, 3) := by decide +kernel
theorem dX0_become_2 : decode cX0_become 2 = .ok (.putfield 15, 3) := by decide +kernel
theorem dX0_become_21 : decode cX0_become 21 = .ok (.return_, 1) := by decide +kernel
theorem dX0_become_5 : decode cX0_become 5 = .ok (.aload_n 0, 1) := by decide +kernel
theorem dX0_become_6 : decode cX0_become 6 = .ok (.iload_n 2, 1) := by decide +kernel
theorem dX0_become_7 : decode cX0_become 7 = .ok (.putfield 19, 3) := by decide +kernel
theorem dX0_come_0 : decode cX0_come 0 = .ok (.aload_n 0, 1) := by decide +kernel
theorem dX0_come_1 : decode cX0_come 1 = .ok (.getfield 9, 3) := by decide +kernel
theorem dX0_come_10 : decode cX0_come 10 = .ok (.aload_n 0, 1) := by decide +kernel
theorem dX0_come_100 : decode cX0_come 100 = .ok (.aload_n 1, 1) := by decide +kernel
theorem dX0_come_101 : decode cX0_come 101 = .ok (.getfield 66, 3) := by decide +kernel
theorem dX0_come_104 : decode cX0_come 104 = .ok (.iconst 1, 1) := by decide +kernel
theorem dX0_come_105 : decode cX0_come 105 = .ok (.isub, 1) := by decide +kernel
theorem dX0_come_106 : decode cX0_come 106 = .ok (.invokestatic 41, 3) := by decide +kernel
theorem dX0_come_109 : decode cX0_come 109 = .ok (.invokevirtual 62, 3) := by decide +kernel
theorem dX0_come_11 : decode cX0_come 11 = .ok (.getfield 9, 3) := by decide +kernel
theorem dX0_come_112 : decode cX0_come 112 = .ok (.aload_n 0, 1) := by decide +kernel
theorem dX0_come_113 : decode cX0_come 113 = .ok (.aload_n 0, 1) := by decide +kernel
theorem dX0_come_114 : decode cX0_come 114 = .ok (.getfield 25, 3) := by decide +kernel
theorem dX0_come_117 : decode cX0_come 117 = .ok (.iconst 1, 1) := by decide +kernel
theorem dX0_come_118 : decode cX0_come 118 = .ok (.if_icmp .ne 24, 3) := by decide +kernel
theorem dX0_come_121 : decode cX0_come 121 = .ok (.aload_n 2, 1) := by decide +kernel
theorem dX0_come_122 : decode cX0_come 122 = .ok (.iconst 3, 1) := by decide +kernel
theorem dX0_come_123 : decode cX0_come 123 = .ok (.aload_n 0, 1) := by decide +kernel
theorem dX0_come_124 : decode cX0_come 124 = .ok (.getfield 9, 3) := by decide +kernel
theorem dX0_come_127 : decode cX0_come 127 = .ok (.invokevirtual 37, 3) := by decide +kernel
theorem dX0_come_130 : decode cX0_come 130 = .ok (.i2l, 1) := by decide +kernel
theorem dX0_come_131 : decode cX0_come 131 = .ok (.iconst 1, 1) := by decide +kernel
theorem dX0_come_132 : decode cX0_come 132 = .ok (.aload_n 0, 1) := by decide +kernel
theorem dX0_come_133 : decode cX0_come 133 = .ok (.getfield 19, 3) := by decide +kernel
theorem dX0_come_136 : decode cX0_come 136 = .ok (.invokestatic 41, 3) := by decide +kernel
theorem dX0_come_139 : decode cX0_come 139 = .ok (.goto 7, 3) := by decide +kernel
theorem dX0_come_14 : decode cX0_come 14 = .ok (.iconst 5, 1) := by decide +kernel
theorem dX0_come_142 : decode cX0_come 142 = .ok (.aload_n 0, 1) := by decide +kernel
theorem dX0_come_143 : decode cX0_come 143 = .ok (.getfield 19, 3) := by decide +kernel
theorem dX0_come_146 : decode cX0_come 146 = .ok (.putfield 69, 3) := by decide +kernel
theorem dX0_come_149 : decode cX0_come 149 = .ok (.aload_n 0, 1) := by decide +kernel
theorem dX0_come_15 : decode cX0_come 15 = .ok (.aload_n 1, 1) := by decide +kernel
theorem dX0_come_150 : decode cX0_come 150 = .ok (.getfield 9, 3) := by decide +kernel
theorem dX0_come_153 : decode cX0_come 153 = .ok (.iconst 1, 1) := by decide +kernel
theorem dX0_come_154 : decode cX0_come 154 = .ok (.aload_n 0, 1) := by decide +kernel
theorem dX0_come_155 : decode cX0_come 155 = .ok (.getfield 69, 3) := by decide +kernel
theorem dX0_come_158 : decode cX0_come 158 = .ok (.iastore, 1) := by decide +kernel
theorem dX0_come_159 : decode cX0_come 159 = .ok (.return_, 1) := by decide +kernel
theorem dX0_come_16 : decode cX0_come 16 = .ok (.iload_n 3, 1) := by decide +kernel
theorem dX0_come_17 : decode cX0_come 17 = .ok (.invokevirtual 58, 3) := by decide +kernel
theorem dX0_come_20 : decode cX0_come 20 = .ok (.iastore, 1) := by decide +kernel
theorem dX0_come_21 : decode cX0_come 21 = .ok (.aload_n 0, 1) := by decide +kernel
theorem dX0_come_22 : decode cX0_come 22 = .ok (.getfield 9, 3) := by decide +kernel
theorem dX0_come_25 : decode cX0_come 25 = .ok (.iconst 4, 1) := by decide +kernel
theorem dX0_come_26 : decode cX0_come 26 = .ok (.iconst 0, 1) := by decide +kernel
theorem dX0_come_27 : decode cX0_come 27 = .ok (.iastore, 1) := by decide +kernel
theorem dX0_come_28 : decode cX0_come 28 = .ok (.aload_n 0, 1) := by decide +kernel
theorem dX0_come_29 : decode cX0_come 29 = .ok (.getfield 9, 3) := by decide +kernel
theorem dX0_come_32 : decode cX0_come 32 = .ok (.bipush 6, 2) := by decide +kernel
theorem dX0_come_34 : decode cX0_come 34 = .ok (.iconst 0, 1) := by decide +kernel
theorem dX0_come_35 : decode cX0_come 35 = .ok (.iastore, 1) := by decide +kernel
theorem dX0_come_36 : decode cX0_come 36 = .ok (.aload_n 0, 1) := by decide +kernel
theorem dX0_come_37 : decode cX0_come 37 = .ok (.getfield 9, 3) := by decide +kernel
theorem dX0_come_4 : decode cX0_come 4 = .ok (.iconst 2, 1) := by decide +kernel
theorem dX0_come_40 : decode cX0_come 40 = .ok (.iconst 1, 1) := by decide +kernel
theorem dX0_come_41 : decode cX0_come 41 = .ok (.aload_n 0, 1) := by decide +kernel
theorem dX0_come_42 : decode cX0_come 42 = .ok (.getfield 19, 3) := by decide +kernel
theorem dX0_come_45 : decode cX0_come 45 = .ok (.iastore, 1) := by decide +kernel
theorem dX0_come_46 : decode cX0_come 46 = .ok (.aload_n 0, 1) := by decide +kernel
theorem dX0_come_47 : decode cX0_come 47 = .ok (.aload_n 1, 1) := by decide +kernel
theorem dX0_come_48 : decode cX0_come 48 = .ok (.iload_n 3, 1) := by decide +kernel
theorem dX0_come_49 : decode cX0_come 49 = .ok (.aload_n 0, 1) := by decide +kernel
theorem dX0_come_5 : decode cX0_come 5 = .ok (.aload_n 0, 1) := by decide +kernel
theorem dX0_come_50 : decode cX0_come 50 = .ok (.getfield 25, 3) := by decide +kernel
theorem dX0_come_53 : decode cX0_come 53 = .ok (.iconst 3, 1) := by decide +kernel
theorem dX0_come_54 : decode cX0_come 54 = .ok (.if_icmp .ne 7, 3) := by decide +kernel
theorem dX0_come_57 : decode cX0_come 57 = .ok (.iconst 0, 1) := by decide +kernel
theorem dX0_come_58 : decode cX0_come 58 = .ok (.goto 7, 3) := by decide +kernel
theorem dX0_come_6 : decode cX0_come 6 = .ok (.getfield 22, 3) := by decide +kernel
theorem dX0_come_61 : decode cX0_come 61 = .ok (.aload_n 0, 1) := by decide +kernel
theorem dX0_come_62 : decode cX0_come 62 = .ok (.getfield 15, 3) := by decide +kernel
theorem dX0_come_65 : decode cX0_come 65 = .ok (.invokevirtual 62, 3) := by decide +kernel
theorem dX0_come_68 : decode cX0_come 68 = .ok (.aload_n 0, 1) := by decide +kernel
theorem dX0_come_69 : decode cX0_come 69 = .ok (.getfield 25, 3) := by decide +kernel
theorem dX0_come_72 : decode cX0_come 72 = .ok (.iconst 2, 1) := by decide +kernel
theorem dX0_come_73 : decode cX0_come 73 = .ok (.if_icmp .ne 39, 3) := by decide +kernel
theorem dX0_come_76 : decode cX0_come 76 = .ok (.aload_n 0, 1) := by decide +kernel
theorem dX0_come_77 : decode cX0_come 77 = .ok (.getfield 15, 3) := by decide +kernel
theorem dX0_come_80 : decode cX0_come 80 = .ok (.i2l, 1) := by decide +kernel
theorem dX0_come_81 : decode cX0_come 81 = .ok (.aload_n 2, 1) := by decide +kernel
theorem dX0_come_82 : decode cX0_come 82 = .ok (.iconst 4, 1) := by decide +kernel
theorem dX0_come_83 : decode cX0_come 83 = .ok (.aload_n 0, 1) := by decide +kernel
theorem dX0_come_84 : decode cX0_come 84 = .ok (.getfield 9, 3) := by decide +kernel
theorem dX0_come_87 : decode cX0_come 87 = .ok (.invokevirtual 37, 3) := by decide +kernel
theorem dX0_come_9 : decode cX0_come 9 = .ok (.iastore, 1) := by decide +kernel
theorem dX0_come_90 : decode cX0_come 90 = .ok (.i2l, 1) := by decide +kernel
theorem dX0_come_91 : decode cX0_come 91 = .ok (.ladd, 1) := by decide +kernel
theorem dX0_come_92 : decode cX0_come 92 = .ok (.lstore 4, 2) := by decide +kernel
theorem dX0_come_94 : decode cX0_come 94 = .ok (.aload_n 0, 1) := by decide +kernel
theorem dX0_come_95 : decode cX0_come 95 = .ok (.aload_n 1, 1) := by decide +kernel
theorem dX0_come_96 : decode cX0_come 96 = .ok (.iload_n 3, 1) := by decide +kernel
theorem dX0_come_97 : decode cX0_come 97 = .ok (.lload 4, 2) := by decide +kernel
theorem dX0_come_99 : decode cX0_come 99 = .ok (.iconst 0, 1) := by decide +kernel
theorem dX0_see_0 : decode cX0_see 0 = .ok (.aload_n 0, 1) := by decide +kernel
theorem dX0_see_1 : decode cX0_see 1 = .ok (.iload_n 3, 1) := by decide +kernel
theorem dX0_see_10 : decode cX0_see 10 = .ok (.iload_n 3, 1) := by decide +kernel
theorem dX0_see_11 : decode cX0_see 11 = .ok (.iastore, 1) := by decide +kernel
theorem dX0_see_12 : decode cX0_see 12 = .ok (.aload_n 0, 1) := by decide +kernel
theorem dX0_see_13 : decode cX0_see 13 = .ok (.getfield 9, 3) := by decide +kernel
theorem dX0_see_16 : decode cX0_see 16 = .ok (.iconst 0, 1) := by decide +kernel
theorem dX0_see_17 : decode cX0_see 17 = .ok (.aload_n 1, 1) := by decide +kernel
theorem dX0_see_18 : decode cX0_see 18 = .ok (.getfield 72, 3) := by decide +kernel
theorem dX0_see_2 : decode cX0_see 2 = .ok (.putfield 47, 3) := by decide +kernel
theorem dX0_see_21 : decode cX0_see 21 = .ok (.aload_n 1, 1) := by decide +kernel
theorem dX0_see_22 : decode cX0_see 22 = .ok (.iload_n 2, 1) := by decide +kernel
theorem dX0_see_23 : decode cX0_see 23 = .ok (.iload_n 3, 1) := by decide +kernel
theorem dX0_see_24 : decode cX0_see 24 = .ok (.invokevirtual 75, 3) := by decide +kernel
theorem dX0_see_27 : decode cX0_see 27 = .ok (.iaload, 1) := by decide +kernel
theorem dX0_see_28 : decode cX0_see 28 = .ok (.iastore, 1) := by decide +kernel
theorem dX0_see_29 : decode cX0_see 29 = .ok (.return_, 1) := by decide +kernel
theorem dX0_see_5 : decode cX0_see 5 = .ok (.aload_n 0, 1) := by decide +kernel
theorem dX0_see_6 : decode cX0_see 6 = .ok (.getfield 9, 3) := by decide +kernel
theorem dX0_see_9 : decode cX0_see 9 = .ok (.iconst 3, 1) := by decide +kernel
theorem dX4_become_0 : decode cX4_become 0 = .ok (.aload_n 0, 1) := by decide +kernel
theorem dX4_become_1 : decode cX4_become 1 = .ok (.aload_n 1, 1) := by decide +kernel
theorem dX4_become_12 : decode cX4_become 12 = .ok (.iconst 0, 1) := by decide +kernel
theorem dX4_become_13 : decode cX4_become 13 = .ok (.aload_n 0, 1) := by decide +kernel
theorem dX4_become_14 : decode cX4_become 14 = .ok (.getfield 11, 3) := by decide +kernel
theorem dX4_become_17 : decode cX4_become 17 = .ok (.iconst 0, 1) := by decide +kernel
theorem dX4_become_18 : decode cX4_become 18 = .ok (.aload_n 0, 1) := by decide +kernel
theorem dX4_become_19 : decode cX4_become 19 = .ok (.getfield 11, 3) := by decide +kernel
theorem dX4_become_2 : decode cX4_become 2 = .ok (.getfield 21, 3) := by decide +kernel
theorem dX4_become_22 : decode cX4_become 22 = .ok (.arraylength, 1) := by decide +kernel
theorem dX4_become_23 : decode cX4_become 23 = .ok (.invokestatic 34, 3) := by decide +kernel
theorem dX4_become_26 : decode cX4_become 26 = .ok (.aload_n 0, 1) := by decide +kernel
theorem dX4_become_27 : decode cX4_become 27 = .ok (.aload_n 1, 1) := by decide +kernel
theorem dX4_become_28 : decode cX4_become 28 = .ok (.getfield 25, 3) := by decide +kernel
theorem dX4_become_31 : decode cX4_become 31 = .ok (.putfield 25, 3) := by decide +kernel
theorem dX4_become_34 : decode cX4_become 34 = .ok (.aload_n 1, 1) := by decide +kernel
theorem dX4_become_35 : decode cX4_become 35 = .ok (.getfield 15, 3) := by decide +kernel
theorem dX4_become_38 : decode cX4_become 38 = .ok (.iconst 0, 1) := by decide +kernel
theorem dX4_become_39 : decode cX4_become 39 = .ok (.aload_n 0, 1) := by decide +kernel
theorem dX4_become_40 : decode cX4_become 40 = .ok (.getfield 15, 3) := by decide +kernel
theorem dX4_become_43 : decode cX4_become 43 = .ok (.iconst 0, 1) := by decide +kernel
theorem dX4_become_44 : decode cX4_become 44 = .ok (.aload_n 0, 1) := by decide +kernel
theorem dX4_become_45 : decode cX4_become 45 = .ok (.getfield 15, 3) := by decide +kernel
theorem dX4_become_48 : decode cX4_become 48 = .ok (.arraylength, 1) := by decide +kernel
theorem dX4_become_49 : decode cX4_become 49 = .ok (.invokestatic 34, 3) := by decide +kernel
theorem dX4_become_5 : decode cX4_become 5 = .ok (.putfield 21, 3) := by decide +kernel
theorem dX4_become_52 : decode cX4_become 52 = .ok (.aload_n 1, 1) := by decide +kernel
theorem dX4_become_53 : decode cX4_become 53 = .ok (.getfield 18, 3) := by decide +kernel
theorem dX4_become_56 : decode cX4_become 56 = .ok (.iconst 0, 1) := by decide +kernel
theorem dX4_become_57 : decode cX4_become 57 = .ok (.aload_n 0, 1) := by decide +kernel
theorem dX4_become_58 : decode cX4_become 58 = .ok (.getfield 18, 3) := by decide +kernel
theorem dX4_become_61 : decode cX4_become 61 = .ok (.iconst 0, 1) := by decide +kernel
theorem dX4_become_62 : decode cX4_become 62 = .ok (.aload_n 0, 1) := by decide +kernel
theorem dX4_become_63 : decode cX4_become 63 = .ok (.getfield 18, 3) := by decide +kernel
theorem dX4_become_66 : decode cX4_become 66 = .ok (.arraylength, 1) := by decide +kernel
theorem dX4_become_67 : decode cX4_become 67 = .ok (.invokestatic 34, 3) := by decide +kernel
theorem dX4_become_70 : decode cX4_become 70 = .ok (.return_, 1) := by decide +kernel
theorem dX4_become_8 : decode cX4_become 8 = .ok (.aload_n 1, 1) := by decide +kernel
theorem dX4_become_9 : decode cX4_become 9 = .ok (.getfield 11, 3) := by decide +kernel
theorem dX4_reset_0 : decode cX4_reset 0 = .ok (.aload_n 0, 1) := by decide +kernel
theorem dX4_reset_1 : decode cX4_reset 1 = .ok (.iconst 0, 1) := by decide +kernel
theorem dX4_reset_10 : decode cX4_reset 10 = .ok (.aload_n 0, 1) := by decide +kernel
theorem dX4_reset_11 : decode cX4_reset 11 = .ok (.getfield 18, 3) := by decide +kernel
theorem dX4_reset_14 : decode cX4_reset 14 = .ok (.iconst 1, 1) := by decide +kernel
theorem dX4_reset_15 : decode cX4_reset 15 = .ok (.invokestatic 28, 3) := by decide +kernel
theorem dX4_reset_18 : decode cX4_reset 18 = .ok (.return_, 1) := by decide +kernel
theorem dX4_reset_2 : decode cX4_reset 2 = .ok (.putfield 21, 3) := by decide +kernel
theorem dX4_reset_5 : decode cX4_reset 5 = .ok (.aload_n 0, 1) := by decide +kernel
theorem dX4_reset_6 : decode cX4_reset 6 = .ok (.iconst 0, 1) := by decide +kernel
theorem dX4_reset_7 : decode cX4_reset 7 = .ok (.putfield 25, 3) := by decide +kernel
def vs_c_become : List Cond := .code yX0_become cX0_become 5 none :: (([.fieldLink RX0 15 "KerbSplash$Car" "row" "I", .fieldLink RX0 19 "KerbSplash$Car" "pace" "I", .fieldLink RX0 22 "KerbSplash$Car" "tyre" "I", .fieldLink RX0 25 "KerbSplash$Car" "kind" "I"] : List Cond) ++ ((wsX00) ++ ([])))
theorem gd_c_become : vs_c_become.all goodWord = true := gd_C (by decide +kernel) (gd_A (by decide +kernel) (gd_A (by decide +kernel) rfl))
set_option maxHeartbeats 4000000 in
set_option maxRecDepth 100000 in
theorem c_become (l : Launch) (hl : l.stackTraces = false) (D : va_G) (cy : Nat → ClassId) (sa : Nat → Nat) (ca na : Nat) (crow cpace ctyre ckind crt cpt : Int) (p1 p2 p3 p4 : Int) (sz : Nat) (hr_crow : 0 ≤ crow ∧ crow ≤ 5) (hr_cpace : (-2147483648) ≤ cpace ∧ cpace ≤ 2147483647) (hr_ctyre : (-2147483648) ≤ ctyre ∧ ctyre ≤ 2147483647) (hr_ckind : (-2147483648) ≤ ckind ∧ ckind ≤ 2147483647) (hr_crt : 0 ≤ crt ∧ crt ≤ 5) (hr_cpt : (-2147483648) ≤ cpt ∧ cpt ≤ 2147483647) (hr_p1 : 0 ≤ p1 ∧ p1 ≤ 5) (hr_p2 : (-2147483648) ≤ p2 ∧ p2 ≤ 2147483647) (hr_p3 : (-2147483648) ≤ p3 ∧ p3 ≤ 2147483647) (hr_p4 : (-2147483648) ≤ p4 ∧ p4 ≤ 2147483647) : mV9 l yX0_become vs_c_become ({ frames := 0, cells := 0, slots := 0, locals := 0 }) D cy sa sz [vR ca, vI p1, vI p2, vI p3, vI p4] [zO ca 0 [vR na, vI crow, vI cpace, vI ctyre, vI ckind, vI crt, vI cpt]] (fun u : SV => True) (fun u : SV => [zO ca 0 [vR na, vI p1, vI p2, vI p3, vI p4, vI crt, vI cpt]]) 0 0 := by
  refine Met.ofW (cc := cX0_become) (maxL := 5) (ret := none) (by decide) rfl ?_
  intro p e s m args below meth c s₁ B hml hv
  obtain ⟨rfl, hsz, hP, hG, hD0, hT⟩ := hv
  have hx := B.exec
  have hb := B.bytes
  have hr := B.returns
  have hts := atoms_spec (ws := vs_c_become) B.pre
  have hown : s.vm.findClass RX0 = some m.cls := findClass_of_methodNamed B.named
  have hlocks := B.notSynchronized
  subst hsz
  have hD := hD0.self (sz := s.heap.size)
  generalize hAe : va_A [zO ca 0 [vR na, vI crow, vI cpace, vI ctyre, vI ckind, vI crt, vI cpt]] s.heap.size = A at hD hT ⊢
  have hA : ∀ q : Nat, s.heap.size ≤ q → A q := fun q h => by rw [← hAe]; exact Or.inr h
  have hS : va_S A s.heap s.heap [] := va_S.rf
  have hl0 := lv_entry ([vR ca, vI p1, vI p2, vI p3, vI p4]) (n := 5) (Nat.le_of_ble_eq_true rfl)
  rw [lg_entry_eq]
  generalize (lg_sl ([vR ca, vI p1, vI p2, vI p3, vI p4]) ++ List.replicate (5 - (lg_sl ([vR ca, vI p1, vI p2, vI p3, vI p4])).length) Slot.unset).toArray = ls at hl0 ⊢
  have hlv : lv_has ls 5 [(0, vR ca), (1, vI p1), (2, vI p2), (3, vI p3), (4, vI p4)] := hl0
  have lf15 := hts (.fieldLink RX0 15 "KerbSplash$Car" "row" "I") (List.mem_of_getElem? (i := 1) rfl)
  have hi0 : ∀ w ∈ wsX00, w ∈ vs_c_become := fun w h => List.mem_cons_of_mem _ (List.mem_append_right _ (List.mem_append_left _ h))
  have lf19 := hts (.fieldLink RX0 19 "KerbSplash$Car" "pace" "I") (List.mem_of_getElem? (i := 2) rfl)
  have lf22 := hts (.fieldLink RX0 22 "KerbSplash$Car" "tyre" "I") (List.mem_of_getElem? (i := 3) rfl)
  have lf25 := hts (.fieldLink RX0 25 "KerbSplash$Car" "kind" "I") (List.mem_of_getElem? (i := 4) rfl)
  refine lv_aload_n hx hb dX0_become_0 rfl (lv_at hlv 0 rfl) ?_
  refine lv_iload_n hx hb dX0_become_1 rfl (lv_at hlv 1 rfl) ?_
  refine va_put (D := D) (ci := 0) (v := vI p1) (ty := .int) (C := RX0) (T := TX0) (N := 7) hx hb hts hi0 tyX0 tyX0_ok nmX0 hown hG.1 hP hD hS 0 rfl rfl 1 (by decide) lf15 (fun _ h9 => h9) rfl (by decide +kernel) rfl rfl (Nat.le_of_ble_eq_true rfl) dX0_become_2 (fun H locs hP hD hS => ?_)
  obtain ⟨hP, hD⟩ := pw9 [zO ca 0 [vR na, vI p1, vI cpace, vI ctyre, vI ckind, vI crt, vI cpt]] hP hD
  refine lv_aload_n hx hb dX0_become_5 rfl (lv_at hlv 0 rfl) ?_
  refine lv_iload_n hx hb dX0_become_6 rfl (lv_at hlv 2 rfl) ?_
  refine va_put (D := D) (ci := 0) (v := vI p2) (ty := .int) (C := RX0) (T := TX0) (N := 7) hx hb hts hi0 tyX0 tyX0_ok nmX0 hown hG.1 hP hD hS 0 rfl rfl 2 (by decide) lf19 (fun _ h9 => h9) rfl (by decide +kernel) rfl rfl (Nat.le_of_ble_eq_true rfl) dX0_become_7 (fun H locs hP hD hS => ?_)
  obtain ⟨hP, hD⟩ := pw9 [zO ca 0 [vR na, vI p1, vI p2, vI ctyre, vI ckind, vI crt, vI cpt]] hP hD
  refine lv_aload_n hx hb dX0_become_10 rfl (lv_at hlv 0 rfl) ?_
  refine lv_iload_n hx hb dX0_become_11 rfl (lv_at hlv 3 rfl) ?_
  refine va_put (D := D) (ci := 0) (v := vI p3) (ty := .int) (C := RX0) (T := TX0) (N := 7) hx hb hts hi0 tyX0 tyX0_ok nmX0 hown hG.1 hP hD hS 0 rfl rfl 3 (by decide) lf22 (fun _ h9 => h9) rfl (by decide +kernel) rfl rfl (Nat.le_of_ble_eq_true rfl) dX0_become_12 (fun H locs hP hD hS => ?_)
  obtain ⟨hP, hD⟩ := pw9 [zO ca 0 [vR na, vI p1, vI p2, vI p3, vI ckind, vI crt, vI cpt]] hP hD
  refine lv_aload_n hx hb dX0_become_15 rfl (lv_at hlv 0 rfl) ?_
  refine lv_iload hx hb dX0_become_16 (lv_at hlv 4 rfl) ?_
  refine va_put (D := D) (ci := 0) (v := vI p4) (ty := .int) (C := RX0) (T := TX0) (N := 7) hx hb hts hi0 tyX0 tyX0_ok nmX0 hown hG.1 hP hD hS 0 rfl rfl 4 (by decide) lf25 (fun _ h9 => h9) rfl (by decide +kernel) rfl rfl (Nat.le_of_ble_eq_true rfl) dX0_become_18 (fun H locs hP hD hS => ?_)
  obtain ⟨hP, hD⟩ := pw9 [zO ca 0 [vR na, vI p1, vI p2, vI p3, vI p4, vI crt, vI cpt]] hP hD
  refine W.widen (k := 0) (n := 0) (Nat.le_of_ble_eq_true rfl) (Nat.le_of_ble_eq_true rfl) ?_
  exact W.vret hx hb hr (fun t ht hW => ⟨⟨((fun k => ([] : List Nat).getD k 0), (fun k => ([] : List Int).getD k 0), (fun k => ([] : List (Nat → Int32)).getD k (fun _ => 0))), rfl, trivial, at9 ht hP hD [0] (by decide +kernel) rfl⟩, hS.F ht⟩) hS.2.2 dX0_become_21
def vs_c_see : List Cond := .code yX0_see cX0_see 4 none :: (([.fieldLink RX0 47 "KerbSplash$Car" "rowThere" "I", .fieldLink RX0 9 "KerbSplash$Car" "names" "[I", .initialized RX6, .instanceMethod yX6_index, .selects RX6 yX6_index yX6_index] : List Cond) ++ ((wsX00) ++ ((wsX60) ++ ((vs_s_index) ++ ([])))))
theorem gd_c_see : vs_c_see.all goodWord = true := gd_C (by decide +kernel) (gd_A (by decide +kernel) (gd_A (by decide +kernel) (gd_A (by decide +kernel) (gd_A gd_s_index rfl))))
set_option maxHeartbeats 4000000 in
set_option maxRecDepth 100000 in
theorem c_see (l : Launch) (hl : l.stackTraces = false) (D : va_G) (cy : Nat → ClassId) (sa : Nat → Nat) (ca na : Nat) (crow cpace ctyre ckind crt cpt : Int) (sA s2 s3 s6 s8 s11 s13 : Nat) (wi ro dr dt pe gu sh wo dn mi fl tk go : Int) (nf wf : Nat → Int32) (x y : Int) (sz : Nat) (hr_crow : 0 ≤ crow ∧ crow ≤ 5) (hr_cpace : (-2147483648) ≤ cpace ∧ cpace ≤ 2147483647) (hr_ctyre : (-2147483648) ≤ ctyre ∧ ctyre ≤ 2147483647) (hr_ckind : (-2147483648) ≤ ckind ∧ ckind ≤ 2147483647) (hr_crt : 0 ≤ crt ∧ crt ≤ 5) (hr_cpt : (-2147483648) ≤ cpt ∧ cpt ≤ 2147483647) (hr_wi : 0 ≤ wi ∧ wi ≤ 16) (hr_ro : 0 ≤ ro ∧ ro ≤ 6) (hr_dr : 0 ≤ dr ∧ dr ≤ 14) (hr_dt : 0 ≤ dt ∧ dt ≤ 6) (hr_pe : 0 ≤ pe ∧ pe ≤ 8) (hr_gu : 0 ≤ gu ∧ gu ≤ 20) (hr_sh : 0 ≤ sh ∧ sh ≤ 2) (hr_wo : 0 ≤ wo ∧ wo ≤ 8) (hr_dn : (-2147483648) ≤ dn ∧ dn ≤ 2147483647) (hr_mi : 0 ≤ mi ∧ mi ≤ 600) (hr_fl : (-2147483648) ≤ fl ∧ fl ≤ 2147483647) (hr_tk : (-2147483648) ≤ tk ∧ tk ≤ 2147483647) (hr_go : (-2147483648) ≤ go ∧ go ≤ 2147483647) (hr_x : 0 ≤ x ∧ x ≤ 15) (hr_y : 0 ≤ y ∧ y ≤ 5) : mV9 l yX0_see vs_c_see ({ frames := 1, cells := 0, slots := 0, locals := 22 }) D cy sa sz [vR ca, vR sA, vI x, vI y] [zO ca 0 [vR na, vI crow, vI cpace, vI ctyre, vI ckind, vI crt, vI cpt], zI na (cy 0) 7 nf, zO sA 6 [vI wi, vI ro, vR s2, vR s3, vI dr, vI dt, vR s6, vI pe, vR s8, vI gu, vI sh, vR s11, vI wo, vR s13, vI dn, vI mi, vI fl, vI tk, vI go], zI s3 (cy 0) 96 wf] (fun u : SV => True) (fun u : SV => [zO ca 0 [vR na, vI crow, vI cpace, vI ctyre, vI ckind, vI y, vI cpt], zI na (cy 0) 7 (u.2.2 0), zO sA 6 [vI wi, vI ro, vR s2, vR s3, vI dr, vI dt, vR s6, vI pe, vR s8, vI gu, vI sh, vR s11, vI wo, vR s13, vI dn, vI mi, vI fl, vI tk, vI go], zI s3 (cy 0) 96 wf]) 0 0 := by
  refine Met.ofW (cc := cX0_see) (maxL := 4) (ret := none) (by decide) rfl ?_
  intro p e s m args below meth c s₁ B hml hv
  obtain ⟨rfl, hsz, hP, hG, hD0, hT⟩ := hv
  have hx := B.exec
  have hb := B.bytes
  have hr := B.returns
  have hts := atoms_spec (ws := vs_c_see) B.pre
  have hown : s.vm.findClass RX0 = some m.cls := findClass_of_methodNamed B.named
  have hlocks := B.notSynchronized
  subst hsz
  have hD := hD0.self (sz := s.heap.size)
  generalize hAe : va_A [zO ca 0 [vR na, vI crow, vI cpace, vI ctyre, vI ckind, vI crt, vI cpt], zI na (cy 0) 7 nf, zO sA 6 [vI wi, vI ro, vR s2, vR s3, vI dr, vI dt, vR s6, vI pe, vR s8, vI gu, vI sh, vR s11, vI wo, vR s13, vI dn, vI mi, vI fl, vI tk, vI go], zI s3 (cy 0) 96 wf] s.heap.size = A at hD hT ⊢
  have hA : ∀ q : Nat, s.heap.size ≤ q → A q := fun q h => by rw [← hAe]; exact Or.inr h
  have hS : va_S A s.heap s.heap [] := va_S.rf
  have hl0 := lv_entry ([vR ca, vR sA, vI x, vI y]) (n := 4) (Nat.le_of_ble_eq_true rfl)
  rw [lg_entry_eq]
  generalize (lg_sl ([vR ca, vR sA, vI x, vI y]) ++ List.replicate (4 - (lg_sl ([vR ca, vR sA, vI x, vI y])).length) Slot.unset).toArray = ls at hl0 ⊢
  have hlv : lv_has ls 4 [(0, vR ca), (1, vR sA), (2, vI x), (3, vI y)] := hl0
  have lf47 := hts (.fieldLink RX0 47 "KerbSplash$Car" "rowThere" "I") (List.mem_of_getElem? (i := 1) rfl)
  have hi0 : ∀ w ∈ wsX00, w ∈ vs_c_see := fun w h => List.mem_cons_of_mem _ (List.mem_append_right _ (List.mem_append_left _ h))
  have lf9 := hts (.fieldLink RX0 9 "KerbSplash$Car" "names" "[I") (List.mem_of_getElem? (i := 2) rfl)
  have hi6 : ∀ w ∈ wsX60, w ∈ vs_c_see := fun w h => List.mem_cons_of_mem _ (List.mem_append_right _ (List.mem_append_right _ (List.mem_append_left _ h)))
  have gg_2 : GoodIn vs_c_see (vs_s_index) := goodIn_sub (fun w h => List.mem_cons_of_mem _ (List.mem_append_right _ (List.mem_append_right _ (List.mem_append_right _ (List.mem_append_left _ h))))) gd_s_index
  have ini_RX6 := hts (.initialized RX6) (List.mem_of_getElem? (i := 3) rfl)
  have im_X6_index := hts (.instanceMethod yX6_index) (List.mem_of_getElem? (i := 4) rfl)
  have se_X6_index := hts (.selects RX6 yX6_index yX6_index) (List.mem_of_getElem? (i := 5) rfl)
  refine lv_aload_n hx hb dX0_see_0 rfl (lv_at hlv 0 rfl) ?_
  refine lv_iload_n hx hb dX0_see_1 rfl (lv_at hlv 3 rfl) ?_
  refine va_put (D := D) (ci := 0) (v := vI y) (ty := .int) (C := RX0) (T := TX0) (N := 7) hx hb hts hi0 tyX0 tyX0_ok nmX0 hown hG.1 hP hD hS 0 rfl rfl 5 (by decide) lf47 (fun _ h9 => h9) rfl (by decide +kernel) rfl rfl (Nat.le_of_ble_eq_true rfl) dX0_see_2 (fun H locs hP hD hS => ?_)
  obtain ⟨hP, hD⟩ := pw9 [zO ca 0 [vR na, vI crow, vI cpace, vI ctyre, vI ckind, vI y, vI cpt], zI na (cy 0) 7 nf, zO sA 6 [vI wi, vI ro, vR s2, vR s3, vI dr, vI dt, vR s6, vI pe, vR s8, vI gu, vI sh, vR s11, vI wo, vR s13, vI dn, vI mi, vI fl, vI tk, vI go], zI s3 (cy 0) 96 wf] hP hD
  refine lv_aload_n hx hb dX0_see_5 rfl (lv_at hlv 0 rfl) ?_
  refine va_get (D := D) (ci := 0) (v := vR na) (C := RX0) (T := TX0) (N := 7) hx hb hts hi0 hown hG.1 hP 0 rfl rfl 0 (by decide) lf9 (fun _ h9 => h9) rfl dX0_see_6 ?_
  refine lv_iconst (v := iI 3) hx hb dX0_see_9 (by decide) ?_
  refine lv_iload_n hx hb dX0_see_10 rfl (lv_at hlv 3 rfl) ?_
  refine va_iast hx hb hG.1 hP hD hS 1 0 rfl rfl (iI_in (by omega) (by decide)) dX0_see_11 (fun H locs hP hD hS => ?_)
  obtain ⟨f_1, hP, hD⟩ := pe9 (fun f_1 => [zO ca 0 [vR na, vI crow, vI cpace, vI ctyre, vI ckind, vI y, vI cpt], zI na (cy 0) 7 f_1, zO sA 6 [vI wi, vI ro, vR s2, vR s3, vI dr, vI dt, vR s6, vI pe, vR s8, vI gu, vI sh, vR s11, vI wo, vR s13, vI dn, vI mi, vI fl, vI tk, vI go], zI s3 (cy 0) 96 wf]) _ hP hD
  refine lv_aload_n hx hb dX0_see_12 rfl (lv_at hlv 0 rfl) ?_
  refine va_get (D := D) (ci := 0) (v := vR na) (C := RX0) (T := TX0) (N := 7) hx hb hts hi0 hown hG.1 hP 0 rfl rfl 0 (by decide) lf9 (fun _ h9 => h9) rfl dX0_see_13 ?_
  refine lv_iconst (v := iI 0) hx hb dX0_see_16 (by decide) ?_
  refine lv_aload_n hx hb dX0_see_17 rfl (lv_at hlv 1 rfl) ?_
  refine va_getN (D := D) (ci := 6) (v := vR s3) (C := RX6) (T := TX6) (N := 19) hx hb hts hi6 hown hG.1 hP 2 rfl rfl 3 (by decide) (va_Nw.use rfl (nF_Car_72 hG.2.1)) (fun _ h9 => h9) rfl dX0_see_18 ?_
  refine lv_aload_n hx hb dX0_see_21 rfl (lv_at hlv 1 rfl) ?_
  refine lv_iload_n hx hb dX0_see_22 rfl (lv_at hlv 2 rfl) ?_
  refine lv_iload_n hx hb dX0_see_23 rfl (lv_at hlv 3 rfl) ?_
  refine cjr_i [true, true, false, true] (fun pre9 => (va_runVN (host := "KerbSplash") (As := [vI x, vI y]) (rest := [vR s3, vI 0, vR na]) ⟨hx, hb, hml, hown, hts⟩ (s_index l hl D cy sa sA s2 s3 s6 s8 s11 s13 wi ro dr dt pe gu sh wo dn mi fl tk go x y H.size (by first | exact hr_wi | omega) (by first | exact hr_ro | omega) (by first | exact hr_dr | omega) (by first | exact hr_dt | omega) (by first | exact hr_pe | omega) (by first | exact hr_gu | omega) (by first | exact hr_sh | omega) (by first | exact hr_wo | omega) (by first | exact hr_dn | omega) (by first | exact hr_mi | omega) (by first | exact hr_fl | omega) (by first | exact hr_tk | omega) (by first | exact hr_go | omega) (by first | exact hr_x | omega) (by first | exact hr_y | omega)) ⟨va_cnB 2 hts gg_2 rfl rfl rfl (nM_Car_75 hG.2.1) ini_RX6 (by decide +kernel) ⟨Nat.le_of_ble_eq_true rfl, Nat.le_of_ble_eq_true rfl⟩, im_X6_index, se_X6_index⟩ ⟨pcW.blind, (va_recv hG.1 hP (ci := 6) (q0 := 2) rfl rfl), pre9⟩ rfl rfl hlv.1 rfl (lv_room (Nat.le_of_ble_eq_true rfl)) dX0_see_24 ⟨Nat.le_of_ble_eq_true rfl, Nat.le_of_ble_eq_true rfl⟩)) hP hD hS hA hG hT [2] rfl (by decide +kernel) (fun r1 u1 H locs hw1 hq9 hS => ?_)
  obtain ⟨rfl, hq1_1⟩ := hw1
  obtain ⟨hP, hD⟩ := pd9 [zO ca 0 [vR na, vI crow, vI cpace, vI ctyre, vI ckind, vI y, vI cpt], zI na (cy 0) 7 f_1, zI s3 (cy 0) 96 wf, zO sA 6 [vI wi, vI ro, vR s2, vR s3, vI dr, vI dt, vR s6, vI pe, vR s8, vI gu, vI sh, vR s11, vI wo, vR s13, vI dn, vI mi, vI fl, vI tk, vI go]] hq9
  refine va_iald hx hb hG.1 hP 2 0 rfl rfl (iI_in (by omega) (by decide)) dX0_see_27 ?_
  refine lt_z (fun z_2 ez_2 lz_2 hz_2 => ?_)
  refine va_iast hx hb hG.1 hP hD hS 1 0 rfl rfl (iI_in (by omega) (by decide)) dX0_see_28 (fun H locs hP hD hS => ?_)
  obtain ⟨f_3, hP, hD⟩ := pe9 (fun f_3 => [zO ca 0 [vR na, vI crow, vI cpace, vI ctyre, vI ckind, vI y, vI cpt], zI na (cy 0) 7 f_3, zI s3 (cy 0) 96 wf, zO sA 6 [vI wi, vI ro, vR s2, vR s3, vI dr, vI dt, vR s6, vI pe, vR s8, vI gu, vI sh, vR s11, vI wo, vR s13, vI dn, vI mi, vI fl, vI tk, vI go]]) _ hP hD
  refine W.widen (k := 0) (n := 0) (Nat.le_of_ble_eq_true rfl) (Nat.le_of_ble_eq_true rfl) ?_
  exact W.vret hx hb hr (fun t ht hW => ⟨⟨((fun k => ([] : List Nat).getD k 0), (fun k => ([] : List Int).getD k 0), (fun k => ([f_3] : List (Nat → Int32)).getD k (fun _ => 0))), rfl, trivial, at9 ht hP hD [0, 1, 3, 2] (by decide +kernel) rfl⟩, hS.F ht⟩) hS.2.2 dX0_see_29
def vs_c_come : List Cond := .code yX0_come cX0_come 6 none :: (([.fieldLink RX0 9 "KerbSplash$Car" "names" "[I", .fieldLink RX0 22 "KerbSplash$Car" "tyre" "I", .initialized RX6, .instanceMethod yX6_peopleAt, .selects RX6 yX6_peopleAt yX6_peopleAt, .fieldLink RX0 19 "KerbSplash$Car" "pace" "I", .fieldLink RX0 25 "KerbSplash$Car" "kind" "I", .fieldLink RX0 15 "KerbSplash$Car" "row" "I", .fieldLink RX0 69 "KerbSplash$Car" "paceThere" "I", .initialized RX1, .instanceMethod yX1_value, .selects RX1 yX1_value yX1_value, .initialized RX11, .static yX11_held] : List Cond) ++ ((wsX00) ++ ((vs_s_peopleAt) ++ ((wsV RX0 62 RX0 yX0_see vs_c_see) ++ ((vs_w_value) ++ ((vs_s_held) ++ ((wsX60) ++ ([]))))))))
theorem gd_c_come : vs_c_come.all goodWord = true := gd_C (by decide +kernel) (gd_A (by decide +kernel) (gd_A (by decide +kernel) (gd_A gd_s_peopleAt (gd_A (gd_V gd_c_see (by decide +kernel)) (gd_A gd_w_value (gd_A gd_s_held (gd_A (by decide +kernel) rfl)))))))
set_option maxHeartbeats 4000000 in
set_option maxRecDepth 100000 in
theorem c_come (l : Launch) (hl : l.stackTraces = false) (D : va_G) (cy : Nat → ClassId) (sa : Nat → Nat) (ca na : Nat) (crow cpace ctyre ckind crt cpt : Int) (sA s2 s3 s6 s8 s11 s13 : Nat) (wi ro dr dt pe gu sh wo dn mi fl tk go : Int) (xl xh : Int) (nf wf pf : Nat → Int32) (la l0 l2 l3 : Nat) (size : Int) (st sf vf : Nat → Int32) (x : Int) (sz : Nat) (hr_crow : 0 ≤ crow ∧ crow ≤ 5) (hr_cpace : (-2147483648) ≤ cpace ∧ cpace ≤ 2147483647) (hr_ctyre : (-2147483648) ≤ ctyre ∧ ctyre ≤ 2147483647) (hr_ckind : (-2147483648) ≤ ckind ∧ ckind ≤ 2147483647) (hr_crt : 0 ≤ crt ∧ crt ≤ 5) (hr_cpt : (-2147483648) ≤ cpt ∧ cpt ≤ 2147483647) (hr_wi : 0 ≤ wi ∧ wi ≤ 16) (hr_ro : 1 ≤ ro ∧ ro ≤ 6) (hr_dr : 0 ≤ dr ∧ dr ≤ 14) (hr_dt : 0 ≤ dt ∧ dt ≤ 6) (hr_pe : 0 ≤ pe ∧ pe ≤ 8) (hr_gu : 0 ≤ gu ∧ gu ≤ 20) (hr_sh : 0 ≤ sh ∧ sh ≤ 2) (hr_wo : 0 ≤ wo ∧ wo ≤ 8) (hr_dn : (-2147483648) ≤ dn ∧ dn ≤ 2147483647) (hr_mi : 0 ≤ mi ∧ mi ≤ 600) (hr_fl : (-2147483648) ≤ fl ∧ fl ≤ 2147483647) (hr_tk : (-2147483648) ≤ tk ∧ tk ≤ 2147483647) (hr_go : (-2147483648) ≤ go ∧ go ≤ 2147483647) (hr_xl : (-2147483648) ≤ xl ∧ xl ≤ 0) (hr_xh : 15 ≤ xh ∧ xh ≤ 2147483647) (hr_size : 0 ≤ size ∧ size ≤ 600) (hr_x : 0 ≤ x ∧ x ≤ 15) (hpf : tab_ 4 28 [xl, 0, (-2147483648), (-2147483648)] [xh, 19, 2147483647, 2147483647] pf) (hst : inv_ 600 0 2147483647 st) : mV9 l yX0_come vs_c_come ({ frames := 2, cells := 0, slots := 0, locals := 49 }) D cy sa sz [vR ca, vR sA, vR la, vI x] [zO ca 0 [vR na, vI crow, vI cpace, vI ctyre, vI ckind, vI crt, vI cpt], zI na (cy 0) 7 nf, zO sA 6 [vI wi, vI ro, vR s2, vR s3, vI dr, vI dt, vR s6, vI pe, vR s8, vI gu, vI sh, vR s11, vI wo, vR s13, vI dn, vI mi, vI fl, vI tk, vI go], zI s3 (cy 0) 96 wf, zI s8 (cy 0) 112 pf, zO la 1 [vR l0, vI size, vR l2, vR l3], zI l0 (cy 0) 600 st, zI l2 (cy 0) 5 sf, zI l3 (cy 0) 40 vf] (fun u : SV => (0 ≤ u.2.1 0 ∧ u.2.1 0 ≤ 5) ∧ ((-2147483648) ≤ u.2.1 1 ∧ u.2.1 1 ≤ 2147483647) ∧ tab_ 4 28 [xl, 0, (-2147483648), (-2147483648)] [xh, 19, 2147483647, 2147483647] pf ∧ inv_ 600 0 2147483647 st) (fun u : SV => [zO ca 0 [vR na, vI crow, vI cpace, vI ctyre, vI ckind, vI (u.2.1 0), vI (u.2.1 1)], zI na (cy 0) 7 (u.2.2 0), zO sA 6 [vI wi, vI ro, vR s2, vR s3, vI dr, vI dt, vR s6, vI pe, vR s8, vI gu, vI sh, vR s11, vI wo, vR s13, vI dn, vI mi, vI fl, vI tk, vI go], zI s3 (cy 0) 96 wf, zI s8 (cy 0) 112 pf, zO la 1 [vR l0, vI size, vR l2, vR l3], zI l0 (cy 0) 600 st, zI l2 (cy 0) 5 sf, zI l3 (cy 0) 40 (u.2.2 1)]) 0 0 := by
  refine Met.ofW (cc := cX0_come) (maxL := 6) (ret := none) (by decide) rfl ?_
  intro p e s m args below meth c s₁ B hml hv
  obtain ⟨rfl, hsz, hP, hG, hD0, hT⟩ := hv
  have hx := B.exec
  have hb := B.bytes
  have hr := B.returns
  have hts := atoms_spec (ws := vs_c_come) B.pre
  have hown : s.vm.findClass RX0 = some m.cls := findClass_of_methodNamed B.named
  have hlocks := B.notSynchronized
  subst hsz
  have hD := hD0.self (sz := s.heap.size)
  generalize hAe : va_A [zO ca 0 [vR na, vI crow, vI cpace, vI ctyre, vI ckind, vI crt, vI cpt], zI na (cy 0) 7 nf, zO sA 6 [vI wi, vI ro, vR s2, vR s3, vI dr, vI dt, vR s6, vI pe, vR s8, vI gu, vI sh, vR s11, vI wo, vR s13, vI dn, vI mi, vI fl, vI tk, vI go], zI s3 (cy 0) 96 wf, zI s8 (cy 0) 112 pf, zO la 1 [vR l0, vI size, vR l2, vR l3], zI l0 (cy 0) 600 st, zI l2 (cy 0) 5 sf, zI l3 (cy 0) 40 vf] s.heap.size = A at hD hT ⊢
  have hA : ∀ q : Nat, s.heap.size ≤ q → A q := fun q h => by rw [← hAe]; exact Or.inr h
  have hS : va_S A s.heap s.heap [] := va_S.rf
  have hl0 := lv_entry ([vR ca, vR sA, vR la, vI x]) (n := 6) (Nat.le_of_ble_eq_true rfl)
  rw [lg_entry_eq]
  generalize (lg_sl ([vR ca, vR sA, vR la, vI x]) ++ List.replicate (6 - (lg_sl ([vR ca, vR sA, vR la, vI x])).length) Slot.unset).toArray = ls at hl0 ⊢
  have hlv : lv_has ls 6 [(0, vR ca), (1, vR sA), (2, vR la), (3, vI x)] := hl0
  have lf9 := hts (.fieldLink RX0 9 "KerbSplash$Car" "names" "[I") (List.mem_of_getElem? (i := 1) rfl)
  have hi0 : ∀ w ∈ wsX00, w ∈ vs_c_come := fun w h => List.mem_cons_of_mem _ (List.mem_append_right _ (List.mem_append_left _ h))
  have lf22 := hts (.fieldLink RX0 22 "KerbSplash$Car" "tyre" "I") (List.mem_of_getElem? (i := 2) rfl)
  have gg_1 : GoodIn vs_c_come (vs_s_peopleAt) := goodIn_sub (fun w h => List.mem_cons_of_mem _ (List.mem_append_right _ (List.mem_append_right _ (List.mem_append_left _ h)))) gd_s_peopleAt
  have ini_RX6 := hts (.initialized RX6) (List.mem_of_getElem? (i := 3) rfl)
  have im_X6_peopleAt := hts (.instanceMethod yX6_peopleAt) (List.mem_of_getElem? (i := 4) rfl)
  have se_X6_peopleAt := hts (.selects RX6 yX6_peopleAt yX6_peopleAt) (List.mem_of_getElem? (i := 5) rfl)
  have lf19 := hts (.fieldLink RX0 19 "KerbSplash$Car" "pace" "I") (List.mem_of_getElem? (i := 6) rfl)
  have lf25 := hts (.fieldLink RX0 25 "KerbSplash$Car" "kind" "I") (List.mem_of_getElem? (i := 7) rfl)
  have lf15 := hts (.fieldLink RX0 15 "KerbSplash$Car" "row" "I") (List.mem_of_getElem? (i := 8) rfl)
  have gg_2 : GoodIn vs_c_come (wsV RX0 62 RX0 yX0_see vs_c_see) := goodIn_sub (fun w h => List.mem_cons_of_mem _ (List.mem_append_right _ (List.mem_append_right _ (List.mem_append_right _ (List.mem_append_left _ h))))) (gd_V gd_c_see (by decide +kernel))
  have lf69 := hts (.fieldLink RX0 69 "KerbSplash$Car" "paceThere" "I") (List.mem_of_getElem? (i := 9) rfl)
  have gg_3 : GoodIn vs_c_come (vs_w_value) := goodIn_sub (fun w h => List.mem_cons_of_mem _ (List.mem_append_right _ (List.mem_append_right _ (List.mem_append_right _ (List.mem_append_right _ (List.mem_append_left _ h)))))) gd_w_value
  have ini_RX1 := hts (.initialized RX1) (List.mem_of_getElem? (i := 10) rfl)
  have im_X1_value := hts (.instanceMethod yX1_value) (List.mem_of_getElem? (i := 11) rfl)
  have se_X1_value := hts (.selects RX1 yX1_value yX1_value) (List.mem_of_getElem? (i := 12) rfl)
  have gg_4 : GoodIn vs_c_come (vs_s_held) := goodIn_sub (fun w h => List.mem_cons_of_mem _ (List.mem_append_right _ (List.mem_append_right _ (List.mem_append_right _ (List.mem_append_right _ (List.mem_append_right _ (List.mem_append_left _ h))))))) gd_s_held
  have ini_RX11 := hts (.initialized RX11) (List.mem_of_getElem? (i := 13) rfl)
  have st_X11_held := hts (.static yX11_held) (List.mem_of_getElem? (i := 14) rfl)
  have hi6 : ∀ w ∈ wsX60, w ∈ vs_c_come := fun w h => List.mem_cons_of_mem _ (List.mem_append_right _ (List.mem_append_right _ (List.mem_append_right _ (List.mem_append_right _ (List.mem_append_right _ (List.mem_append_right _ (List.mem_append_left _ h)))))))
  refine lv_aload_n hx hb dX0_come_0 rfl (lv_at hlv 0 rfl) ?_
  refine va_get (D := D) (ci := 0) (v := vR na) (C := RX0) (T := TX0) (N := 7) hx hb hts hi0 hown hG.1 hP 0 rfl rfl 0 (by decide) lf9 (fun _ h9 => h9) rfl dX0_come_1 ?_
  refine lv_iconst (v := iI 2) hx hb dX0_come_4 (by decide) ?_
  refine lv_aload_n hx hb dX0_come_5 rfl (lv_at hlv 0 rfl) ?_
  refine va_get (D := D) (ci := 0) (v := vI ctyre) (C := RX0) (T := TX0) (N := 7) hx hb hts hi0 hown hG.1 hP 0 rfl rfl 3 (by decide) lf22 (fun _ h9 => h9) rfl dX0_come_6 ?_
  refine va_iast hx hb hG.1 hP hD hS 1 0 rfl rfl (iI_in (by omega) (by decide)) dX0_come_9 (fun H locs hP hD hS => ?_)
  obtain ⟨f_1, hP, hD⟩ := pe9 (fun f_1 => [zO ca 0 [vR na, vI crow, vI cpace, vI ctyre, vI ckind, vI crt, vI cpt], zI na (cy 0) 7 f_1, zO sA 6 [vI wi, vI ro, vR s2, vR s3, vI dr, vI dt, vR s6, vI pe, vR s8, vI gu, vI sh, vR s11, vI wo, vR s13, vI dn, vI mi, vI fl, vI tk, vI go], zI s3 (cy 0) 96 wf, zI s8 (cy 0) 112 pf, zO la 1 [vR l0, vI size, vR l2, vR l3], zI l0 (cy 0) 600 st, zI l2 (cy 0) 5 sf, zI l3 (cy 0) 40 vf]) _ hP hD
  refine lv_aload_n hx hb dX0_come_10 rfl (lv_at hlv 0 rfl) ?_
  refine va_get (D := D) (ci := 0) (v := vR na) (C := RX0) (T := TX0) (N := 7) hx hb hts hi0 hown hG.1 hP 0 rfl rfl 0 (by decide) lf9 (fun _ h9 => h9) rfl dX0_come_11 ?_
  refine lv_iconst (v := iI 5) hx hb dX0_come_14 (by decide) ?_
  refine lv_aload_n hx hb dX0_come_15 rfl (lv_at hlv 1 rfl) ?_
  refine lv_iload_n hx hb dX0_come_16 rfl (lv_at hlv 3 rfl) ?_
  refine cjr_i [true, true, false, true, false, true, true, true, true] (fun pre9 => (va_runVN (host := "KerbSplash") (As := [vI x]) (rest := [vI 5, vR na]) ⟨hx, hb, hml, hown, hts⟩ (s_peopleAt l hl D cy sa sA s2 s3 s6 s8 s11 s13 wi ro dr dt pe gu sh wo dn mi fl tk go xl xh pf x H.size (by first | exact hr_wi | omega) (by first | exact rgw hr_ro (by decide) (by decide) | omega) (by first | exact hr_dr | omega) (by first | exact hr_dt | omega) (by first | exact hr_pe | omega) (by first | exact hr_gu | omega) (by first | exact hr_sh | omega) (by first | exact hr_wo | omega) (by first | exact hr_dn | omega) (by first | exact hr_mi | omega) (by first | exact hr_fl | omega) (by first | exact hr_tk | omega) (by first | exact hr_go | omega) (by first | exact hr_xl | omega) (by first | exact hr_xh | omega) (by first | exact rgw hr_x (by decide) (by decide) | omega) hpf) ⟨va_cnB 1 hts gg_1 rfl rfl rfl (nM_Car_58 hG.2.1) ini_RX6 (by decide +kernel) ⟨Nat.le_of_ble_eq_true rfl, Nat.le_of_ble_eq_true rfl⟩, im_X6_peopleAt, se_X6_peopleAt⟩ ⟨pcW.blind, (va_recv hG.1 hP (ci := 6) (q0 := 2) rfl rfl), pre9⟩ rfl rfl hlv.1 rfl (lv_room (Nat.le_of_ble_eq_true rfl)) dX0_come_17 ⟨Nat.le_of_ble_eq_true rfl, Nat.le_of_ble_eq_true rfl⟩)) hP hD hS hA hG hT [2, 4] rfl (by decide +kernel) (fun r1 u1 H locs hw1 hq9 hS => ?_)
  obtain ⟨rfl, hq1_1, hq1_2⟩ := hw1
  obtain ⟨hP, hD⟩ := pd9 [zO ca 0 [vR na, vI crow, vI cpace, vI ctyre, vI ckind, vI crt, vI cpt], zI na (cy 0) 7 f_1, zI s3 (cy 0) 96 wf, zO la 1 [vR l0, vI size, vR l2, vR l3], zI l0 (cy 0) 600 st, zI l2 (cy 0) 5 sf, zI l3 (cy 0) 40 vf, zO sA 6 [vI wi, vI ro, vR s2, vR s3, vI dr, vI dt, vR s6, vI pe, vR s8, vI gu, vI sh, vR s11, vI wo, vR s13, vI dn, vI mi, vI fl, vI tk, vI go], zI s8 (cy 0) 112 pf] hq9
  refine va_iast hx hb hG.1 hP hD hS 1 0 rfl rfl (iI_in (by omega) (by decide)) dX0_come_20 (fun H locs hP hD hS => ?_)
  obtain ⟨f_2, hP, hD⟩ := pe9 (fun f_2 => [zO ca 0 [vR na, vI crow, vI cpace, vI ctyre, vI ckind, vI crt, vI cpt], zI na (cy 0) 7 f_2, zI s3 (cy 0) 96 wf, zO la 1 [vR l0, vI size, vR l2, vR l3], zI l0 (cy 0) 600 st, zI l2 (cy 0) 5 sf, zI l3 (cy 0) 40 vf, zO sA 6 [vI wi, vI ro, vR s2, vR s3, vI dr, vI dt, vR s6, vI pe, vR s8, vI gu, vI sh, vR s11, vI wo, vR s13, vI dn, vI mi, vI fl, vI tk, vI go], zI s8 (cy 0) 112 pf]) _ hP hD
  refine lv_aload_n hx hb dX0_come_21 rfl (lv_at hlv 0 rfl) ?_
  refine va_get (D := D) (ci := 0) (v := vR na) (C := RX0) (T := TX0) (N := 7) hx hb hts hi0 hown hG.1 hP 0 rfl rfl 0 (by decide) lf9 (fun _ h9 => h9) rfl dX0_come_22 ?_
  refine lv_iconst (v := iI 4) hx hb dX0_come_25 (by decide) ?_
  refine lv_iconst (v := iI 0) hx hb dX0_come_26 (by decide) ?_
  refine va_iast hx hb hG.1 hP hD hS 1 0 rfl rfl (iI_in (by omega) (by decide)) dX0_come_27 (fun H locs hP hD hS => ?_)
  obtain ⟨f_3, hP, hD⟩ := pe9 (fun f_3 => [zO ca 0 [vR na, vI crow, vI cpace, vI ctyre, vI ckind, vI crt, vI cpt], zI na (cy 0) 7 f_3, zI s3 (cy 0) 96 wf, zO la 1 [vR l0, vI size, vR l2, vR l3], zI l0 (cy 0) 600 st, zI l2 (cy 0) 5 sf, zI l3 (cy 0) 40 vf, zO sA 6 [vI wi, vI ro, vR s2, vR s3, vI dr, vI dt, vR s6, vI pe, vR s8, vI gu, vI sh, vR s11, vI wo, vR s13, vI dn, vI mi, vI fl, vI tk, vI go], zI s8 (cy 0) 112 pf]) _ hP hD
  refine lv_aload_n hx hb dX0_come_28 rfl (lv_at hlv 0 rfl) ?_
  refine va_get (D := D) (ci := 0) (v := vR na) (C := RX0) (T := TX0) (N := 7) hx hb hts hi0 hown hG.1 hP 0 rfl rfl 0 (by decide) lf9 (fun _ h9 => h9) rfl dX0_come_29 ?_
  refine lv_bipush (v := iI 6) hx hb dX0_come_32 (by decide) ?_
  refine lv_iconst (v := iI 0) hx hb dX0_come_34 (by decide) ?_
  refine va_iast hx hb hG.1 hP hD hS 1 0 rfl rfl (iI_in (by omega) (by decide)) dX0_come_35 (fun H locs hP hD hS => ?_)
  obtain ⟨f_4, hP, hD⟩ := pe9 (fun f_4 => [zO ca 0 [vR na, vI crow, vI cpace, vI ctyre, vI ckind, vI crt, vI cpt], zI na (cy 0) 7 f_4, zI s3 (cy 0) 96 wf, zO la 1 [vR l0, vI size, vR l2, vR l3], zI l0 (cy 0) 600 st, zI l2 (cy 0) 5 sf, zI l3 (cy 0) 40 vf, zO sA 6 [vI wi, vI ro, vR s2, vR s3, vI dr, vI dt, vR s6, vI pe, vR s8, vI gu, vI sh, vR s11, vI wo, vR s13, vI dn, vI mi, vI fl, vI tk, vI go], zI s8 (cy 0) 112 pf]) _ hP hD
  refine lv_aload_n hx hb dX0_come_36 rfl (lv_at hlv 0 rfl) ?_
  refine va_get (D := D) (ci := 0) (v := vR na) (C := RX0) (T := TX0) (N := 7) hx hb hts hi0 hown hG.1 hP 0 rfl rfl 0 (by decide) lf9 (fun _ h9 => h9) rfl dX0_come_37 ?_
  refine lv_iconst (v := iI 1) hx hb dX0_come_40 (by decide) ?_
  refine lv_aload_n hx hb dX0_come_41 rfl (lv_at hlv 0 rfl) ?_
  refine va_get (D := D) (ci := 0) (v := vI cpace) (C := RX0) (T := TX0) (N := 7) hx hb hts hi0 hown hG.1 hP 0 rfl rfl 2 (by decide) lf19 (fun _ h9 => h9) rfl dX0_come_42 ?_
  refine va_iast hx hb hG.1 hP hD hS 1 0 rfl rfl (iI_in (by omega) (by decide)) dX0_come_45 (fun H locs hP hD hS => ?_)
  obtain ⟨f_5, hP, hD⟩ := pe9 (fun f_5 => [zO ca 0 [vR na, vI crow, vI cpace, vI ctyre, vI ckind, vI crt, vI cpt], zI na (cy 0) 7 f_5, zI s3 (cy 0) 96 wf, zO la 1 [vR l0, vI size, vR l2, vR l3], zI l0 (cy 0) 600 st, zI l2 (cy 0) 5 sf, zI l3 (cy 0) 40 vf, zO sA 6 [vI wi, vI ro, vR s2, vR s3, vI dr, vI dt, vR s6, vI pe, vR s8, vI gu, vI sh, vR s11, vI wo, vR s13, vI dn, vI mi, vI fl, vI tk, vI go], zI s8 (cy 0) 112 pf]) _ hP hD
  refine lv_aload_n hx hb dX0_come_46 rfl (lv_at hlv 0 rfl) ?_
  refine lv_aload_n hx hb dX0_come_47 rfl (lv_at hlv 1 rfl) ?_
  refine lv_iload_n hx hb dX0_come_48 rfl (lv_at hlv 3 rfl) ?_
  refine lv_aload_n hx hb dX0_come_49 rfl (lv_at hlv 0 rfl) ?_
  refine va_get (D := D) (ci := 0) (v := vI ckind) (C := RX0) (T := TX0) (N := 7) hx hb hts hi0 hown hG.1 hP 0 rfl rfl 4 (by decide) lf25 (fun _ h9 => h9) rfl dX0_come_50 ?_
  refine lv_iconst (v := iI 3) hx hb dX0_come_53 (by decide) ?_
  refine ir_ne (tgt := 61) hx hb dX0_come_54 (by decide) (by first | exact hr_ckind | omega) (by show ((-2147483648) : Int) ≤ 3 ∧ (3 : Int) ≤ 2147483647; decide) (fun c_6 => ?_) (fun c_6 => ?_)
  · refine lv_aload_n hx hb dX0_come_61 rfl (lv_at hlv 0 rfl) ?_
    refine va_get (D := D) (ci := 0) (v := vI crow) (C := RX0) (T := TX0) (N := 7) hx hb hts hi0 hown hG.1 hP 0 rfl rfl 1 (by decide) lf15 (fun _ h9 => h9) rfl dX0_come_62 ?_
    refine cjr_v [false, false, false, true, true, true, true, false, true] (fun pre9 => (va_runV (As := [vR sA, vI x, vI crow]) (rest := []) ⟨hx, hb, hml, hown, hts⟩ (c_see l hl D cy sa ca na crow cpace ctyre ckind crt cpt sA s2 s3 s6 s8 s11 s13 wi ro dr dt pe gu sh wo dn mi fl tk go f_5 wf x crow H.size (by first | exact hr_crow | omega) (by first | exact hr_cpace | omega) (by first | exact hr_ctyre | omega) (by first | exact hr_ckind | omega) (by first | exact hr_crt | omega) (by first | exact hr_cpt | omega) (by first | exact hr_wi | omega) (by first | exact rgw hr_ro (by decide) (by decide) | omega) (by first | exact hr_dr | omega) (by first | exact hr_dt | omega) (by first | exact hr_pe | omega) (by first | exact hr_gu | omega) (by first | exact hr_sh | omega) (by first | exact hr_wo | omega) (by first | exact hr_dn | omega) (by first | exact hr_mi | omega) (by first | exact hr_fl | omega) (by first | exact hr_tk | omega) (by first | exact hr_go | omega) (by first | exact hr_x | omega) (by first | exact hr_crow | omega)) (cwV 3 hts gg_2 rfl rfl rfl (by decide +kernel) ⟨Nat.le_of_ble_eq_true rfl, Nat.le_of_ble_eq_true rfl⟩) ⟨pcW.blind, (va_recv hG.1 hP (ci := 0) (q0 := 0) rfl rfl), pre9⟩ rfl rfl hlv.1 rfl (lv_room (Nat.le_of_ble_eq_true rfl)) dX0_come_65 ⟨Nat.le_of_ble_eq_true rfl, Nat.le_of_ble_eq_true rfl⟩)) hP hD hS hA hG hT [0, 1, 7, 2] rfl (by decide +kernel) (fun u2 H locs hw2 hq9 hS => ?_)
    obtain ⟨hP, hD⟩ := pd9 [zO la 1 [vR l0, vI size, vR l2, vR l3], zI l0 (cy 0) 600 st, zI l2 (cy 0) 5 sf, zI l3 (cy 0) 40 vf, zI s8 (cy 0) 112 pf, zO ca 0 [vR na, vI crow, vI cpace, vI ctyre, vI ckind, vI crow, vI cpt], zI na (cy 0) 7 (u2.2.2 0), zO sA 6 [vI wi, vI ro, vR s2, vR s3, vI dr, vI dt, vR s6, vI pe, vR s8, vI gu, vI sh, vR s11, vI wo, vR s13, vI dn, vI mi, vI fl, vI tk, vI go], zI s3 (cy 0) 96 wf] hq9
    refine lv_aload_n hx hb dX0_come_68 rfl (lv_at hlv 0 rfl) ?_
    refine va_get (D := D) (ci := 0) (v := vI ckind) (C := RX0) (T := TX0) (N := 7) hx hb hts hi0 hown hG.1 hP 5 rfl rfl 4 (by decide) lf25 (fun _ h9 => h9) rfl dX0_come_69 ?_
    refine lv_iconst (v := iI 2) hx hb dX0_come_72 (by decide) ?_
    refine ir_ne (tgt := 112) hx hb dX0_come_73 (by decide) (by first | exact hr_ckind | omega) (by show ((-2147483648) : Int) ≤ 2 ∧ (2 : Int) ≤ 2147483647; decide) (fun c_7 => ?_) (fun c_7 => ?_)
    · refine lv_aload_n hx hb dX0_come_112 rfl (lv_at hlv 0 rfl) ?_
      refine lv_aload_n hx hb dX0_come_113 rfl (lv_at hlv 0 rfl) ?_
      refine va_get (D := D) (ci := 0) (v := vI ckind) (C := RX0) (T := TX0) (N := 7) hx hb hts hi0 hown hG.1 hP 5 rfl rfl 4 (by decide) lf25 (fun _ h9 => h9) rfl dX0_come_114 ?_
      refine lv_iconst (v := iI 1) hx hb dX0_come_117 (by decide) ?_
      refine ir_ne (tgt := 142) hx hb dX0_come_118 (by decide) (by first | exact hr_ckind | omega) (by show ((-2147483648) : Int) ≤ 1 ∧ (1 : Int) ≤ 2147483647; decide) (fun c_8 => ?_) (fun c_8 => ?_)
      · refine lv_aload_n hx hb dX0_come_142 rfl (lv_at hlv 0 rfl) ?_
        refine va_get (D := D) (ci := 0) (v := vI cpace) (C := RX0) (T := TX0) (N := 7) hx hb hts hi0 hown hG.1 hP 5 rfl rfl 2 (by decide) lf19 (fun _ h9 => h9) rfl dX0_come_143 ?_
        refine va_put (D := D) (ci := 0) (v := vI cpace) (ty := .int) (C := RX0) (T := TX0) (N := 7) hx hb hts hi0 tyX0 tyX0_ok nmX0 hown hG.1 hP hD hS 5 rfl rfl 6 (by decide) lf69 (fun _ h9 => h9) rfl (by decide +kernel) rfl rfl (Nat.le_of_ble_eq_true rfl) dX0_come_146 (fun H locs hP hD hS => ?_)
        obtain ⟨hP, hD⟩ := pw9 [zO la 1 [vR l0, vI size, vR l2, vR l3], zI l0 (cy 0) 600 st, zI l2 (cy 0) 5 sf, zI l3 (cy 0) 40 vf, zI s8 (cy 0) 112 pf, zO ca 0 [vR na, vI crow, vI cpace, vI ctyre, vI ckind, vI crow, vI cpace], zI na (cy 0) 7 (u2.2.2 0), zO sA 6 [vI wi, vI ro, vR s2, vR s3, vI dr, vI dt, vR s6, vI pe, vR s8, vI gu, vI sh, vR s11, vI wo, vR s13, vI dn, vI mi, vI fl, vI tk, vI go], zI s3 (cy 0) 96 wf] hP hD
        refine lv_aload_n hx hb dX0_come_149 rfl (lv_at hlv 0 rfl) ?_
        refine va_get (D := D) (ci := 0) (v := vR na) (C := RX0) (T := TX0) (N := 7) hx hb hts hi0 hown hG.1 hP 5 rfl rfl 0 (by decide) lf9 (fun _ h9 => h9) rfl dX0_come_150 ?_
        refine lv_iconst (v := iI 1) hx hb dX0_come_153 (by decide) ?_
        refine lv_aload_n hx hb dX0_come_154 rfl (lv_at hlv 0 rfl) ?_
        refine va_get (D := D) (ci := 0) (v := vI cpace) (C := RX0) (T := TX0) (N := 7) hx hb hts hi0 hown hG.1 hP 5 rfl rfl 6 (by decide) lf69 (fun _ h9 => h9) rfl dX0_come_155 ?_
        refine va_iast hx hb hG.1 hP hD hS 6 0 rfl rfl (iI_in (by omega) (by decide)) dX0_come_158 (fun H locs hP hD hS => ?_)
        obtain ⟨f_9, hP, hD⟩ := pe9 (fun f_9 => [zO la 1 [vR l0, vI size, vR l2, vR l3], zI l0 (cy 0) 600 st, zI l2 (cy 0) 5 sf, zI l3 (cy 0) 40 vf, zI s8 (cy 0) 112 pf, zO ca 0 [vR na, vI crow, vI cpace, vI ctyre, vI ckind, vI crow, vI cpace], zI na (cy 0) 7 f_9, zO sA 6 [vI wi, vI ro, vR s2, vR s3, vI dr, vI dt, vR s6, vI pe, vR s8, vI gu, vI sh, vR s11, vI wo, vR s13, vI dn, vI mi, vI fl, vI tk, vI go], zI s3 (cy 0) 96 wf]) _ hP hD
        refine W.widen (k := 0) (n := 0) (Nat.le_of_ble_eq_true rfl) (Nat.le_of_ble_eq_true rfl) ?_
        exact W.vret hx hb hr (fun t ht hW => ⟨⟨((fun k => ([] : List Nat).getD k 0), (fun k => ([crow, cpace] : List Int).getD k 0), (fun k => ([f_9, vf] : List (Nat → Int32)).getD k (fun _ => 0))), rfl, ⟨(by show (0 ≤ crow ∧ crow ≤ 5); first | exact hr_crow | omega), (by show ((-2147483648) ≤ cpace ∧ cpace ≤ 2147483647); first | exact hr_cpace | omega), hq1_2, hst⟩, at9 ht hP hD [5, 6, 7, 8, 4, 0, 1, 2, 3] (by decide +kernel) rfl⟩, hS.F ht⟩) hS.2.2 dX0_come_159
      · refine lv_aload_n hx hb dX0_come_121 rfl (lv_at hlv 2 rfl) ?_
        refine lv_iconst (v := iI 3) hx hb dX0_come_122 (by decide) ?_
        refine lv_aload_n hx hb dX0_come_123 rfl (lv_at hlv 0 rfl) ?_
        refine va_get (D := D) (ci := 0) (v := vR na) (C := RX0) (T := TX0) (N := 7) hx hb hts hi0 hown hG.1 hP 5 rfl rfl 0 (by decide) lf9 (fun _ h9 => h9) rfl dX0_come_124 ?_
        refine cjr_i [false, false, false, false, true, true, false, true, true] (fun pre9 => (va_runVN (host := "KerbSplash") (As := [vI 3, vR na]) (rest := [vR ca]) ⟨hx, hb, hml, hown, hts⟩ (w_value l hl D cy sa la l0 l2 l3 na size st sf vf (u2.2.2 0) 3 H.size (by first | exact hr_size | omega) (by show (0 : Int) ≤ 3 ∧ (3 : Int) ≤ 4; decide) hst) ⟨va_cnB 2 hts gg_3 rfl rfl rfl (nM_Car_37 hG.2.1) ini_RX1 (by decide +kernel) ⟨Nat.le_of_ble_eq_true rfl, Nat.le_of_ble_eq_true rfl⟩, im_X1_value, se_X1_value⟩ ⟨pcW.blind, (va_recv hG.1 hP (ci := 1) (q0 := 0) rfl rfl), pre9⟩ rfl rfl hlv.1 rfl (lv_room (Nat.le_of_ble_eq_true rfl)) dX0_come_127 ⟨Nat.le_of_ble_eq_true rfl, Nat.le_of_ble_eq_true rfl⟩)) hP hD hS hA hG hT [0, 1, 2, 3, 6] rfl (by decide +kernel) (fun r3 u3 H locs hw3 hq9 hS => ?_)
        obtain ⟨rfl, hq3_1, hq3_2⟩ := hw3
        obtain ⟨hP, hD⟩ := pd9 [zI s8 (cy 0) 112 pf, zO ca 0 [vR na, vI crow, vI cpace, vI ctyre, vI ckind, vI crow, vI cpt], zO sA 6 [vI wi, vI ro, vR s2, vR s3, vI dr, vI dt, vR s6, vI pe, vR s8, vI gu, vI sh, vR s11, vI wo, vR s13, vI dn, vI mi, vI fl, vI tk, vI go], zI s3 (cy 0) 96 wf, zO la 1 [vR l0, vI size, vR l2, vR l3], zI l0 (cy 0) 600 st, zI l2 (cy 0) 5 sf, zI l3 (cy 0) 40 (u3.2.2 0), zI na (cy 0) 7 (u2.2.2 0)] hq9
        refine lv_i2l (v := jJ (u3.2.1 0)) hx hb dX0_come_130 (jJ_i (by omega)) ?_
        refine lv_iconst (v := iI 1) hx hb dX0_come_131 (by decide) ?_
        refine lv_aload_n hx hb dX0_come_132 rfl (lv_at hlv 0 rfl) ?_
        refine va_get (D := D) (ci := 0) (v := vI cpace) (C := RX0) (T := TX0) (N := 7) hx hb hts hi0 hown hG.1 hP 1 rfl rfl 2 (by decide) lf19 (fun _ h9 => h9) rfl dX0_come_133 ?_
        refine cjr_i [true, true, true, true, true, true, true, true, true] (fun pre9 => (va_runSN (host := "KerbSplash") (As := [vJ (u3.2.1 0), vI 1, vI cpace]) (rest := [vR ca]) ⟨hx, hb, hml, hown, hts⟩ (s_held l hl D cy sa (u3.2.1 0) 1 cpace H.size (by first | exact rgw hq3_1 (by decide) (by decide) | omega) (by show ((-2147483648) : Int) ≤ 1 ∧ (1 : Int) ≤ 2147483647; decide) (by first | exact hr_cpace | omega)) ⟨va_cnB 3 hts gg_4 rfl rfl rfl (nM_Car_41 hG.2.1) ini_RX11 (by decide +kernel) ⟨Nat.le_of_ble_eq_true rfl, Nat.le_of_ble_eq_true rfl⟩, st_X11_held, trivial⟩ ⟨pcW.blind, pre9⟩ rfl rfl hlv.1 rfl (lv_room (Nat.le_of_ble_eq_true rfl)) dX0_come_136 ⟨Nat.le_of_ble_eq_true rfl, Nat.le_of_ble_eq_true rfl⟩)) hP hD hS hA hG hT [] rfl (by decide +kernel) (fun r4 u4 H locs hw4 hq9 hS => ?_)
        obtain ⟨rfl, hq4_1, hq4_2⟩ := hw4
        obtain ⟨hP, hD⟩ := pd9 [zI s8 (cy 0) 112 pf, zO ca 0 [vR na, vI crow, vI cpace, vI ctyre, vI ckind, vI crow, vI cpt], zO sA 6 [vI wi, vI ro, vR s2, vR s3, vI dr, vI dt, vR s6, vI pe, vR s8, vI gu, vI sh, vR s11, vI wo, vR s13, vI dn, vI mi, vI fl, vI tk, vI go], zI s3 (cy 0) 96 wf, zO la 1 [vR l0, vI size, vR l2, vR l3], zI l0 (cy 0) 600 st, zI l2 (cy 0) 5 sf, zI l3 (cy 0) 40 (u3.2.2 0), zI na (cy 0) 7 (u2.2.2 0)] hq9
        refine lv_goto (tgt := 146) hx hb dX0_come_139 (by decide) ?_
        refine va_put (D := D) (ci := 0) (v := vI (u4.2.1 0)) (ty := .int) (C := RX0) (T := TX0) (N := 7) hx hb hts hi0 tyX0 tyX0_ok nmX0 hown hG.1 hP hD hS 1 rfl rfl 6 (by decide) lf69 (fun _ h9 => h9) rfl (by decide +kernel) rfl rfl (Nat.le_of_ble_eq_true rfl) dX0_come_146 (fun H locs hP hD hS => ?_)
        obtain ⟨hP, hD⟩ := pw9 [zI s8 (cy 0) 112 pf, zO ca 0 [vR na, vI crow, vI cpace, vI ctyre, vI ckind, vI crow, vI (u4.2.1 0)], zO sA 6 [vI wi, vI ro, vR s2, vR s3, vI dr, vI dt, vR s6, vI pe, vR s8, vI gu, vI sh, vR s11, vI wo, vR s13, vI dn, vI mi, vI fl, vI tk, vI go], zI s3 (cy 0) 96 wf, zO la 1 [vR l0, vI size, vR l2, vR l3], zI l0 (cy 0) 600 st, zI l2 (cy 0) 5 sf, zI l3 (cy 0) 40 (u3.2.2 0), zI na (cy 0) 7 (u2.2.2 0)] hP hD
        refine lv_aload_n hx hb dX0_come_149 rfl (lv_at hlv 0 rfl) ?_
        refine va_get (D := D) (ci := 0) (v := vR na) (C := RX0) (T := TX0) (N := 7) hx hb hts hi0 hown hG.1 hP 1 rfl rfl 0 (by decide) lf9 (fun _ h9 => h9) rfl dX0_come_150 ?_
        refine lv_iconst (v := iI 1) hx hb dX0_come_153 (by decide) ?_
        refine lv_aload_n hx hb dX0_come_154 rfl (lv_at hlv 0 rfl) ?_
        refine va_get (D := D) (ci := 0) (v := vI (u4.2.1 0)) (C := RX0) (T := TX0) (N := 7) hx hb hts hi0 hown hG.1 hP 1 rfl rfl 6 (by decide) lf69 (fun _ h9 => h9) rfl dX0_come_155 ?_
        refine va_iast hx hb hG.1 hP hD hS 8 0 rfl rfl (iI_in (by omega) (by decide)) dX0_come_158 (fun H locs hP hD hS => ?_)
        obtain ⟨f_10, hP, hD⟩ := pe9 (fun f_10 => [zI s8 (cy 0) 112 pf, zO ca 0 [vR na, vI crow, vI cpace, vI ctyre, vI ckind, vI crow, vI (u4.2.1 0)], zO sA 6 [vI wi, vI ro, vR s2, vR s3, vI dr, vI dt, vR s6, vI pe, vR s8, vI gu, vI sh, vR s11, vI wo, vR s13, vI dn, vI mi, vI fl, vI tk, vI go], zI s3 (cy 0) 96 wf, zO la 1 [vR l0, vI size, vR l2, vR l3], zI l0 (cy 0) 600 st, zI l2 (cy 0) 5 sf, zI l3 (cy 0) 40 (u3.2.2 0), zI na (cy 0) 7 f_10]) _ hP hD
        refine W.widen (k := 0) (n := 0) (Nat.le_of_ble_eq_true rfl) (Nat.le_of_ble_eq_true rfl) ?_
        exact W.vret hx hb hr (fun t ht hW => ⟨⟨((fun k => ([] : List Nat).getD k 0), (fun k => ([crow, (u4.2.1 0)] : List Int).getD k 0), (fun k => ([f_10, (u3.2.2 0)] : List (Nat → Int32)).getD k (fun _ => 0))), rfl, ⟨(by show (0 ≤ crow ∧ crow ≤ 5); first | exact hr_crow | omega), (by show ((-2147483648) ≤ (u4.2.1 0) ∧ (u4.2.1 0) ≤ 2147483647); first | exact hq4_1 | omega), hq1_2, hq3_2⟩, at9 ht hP hD [1, 8, 2, 3, 0, 4, 5, 6, 7] (by decide +kernel) rfl⟩, hS.F ht⟩) hS.2.2 dX0_come_159
    · refine lv_aload_n hx hb dX0_come_76 rfl (lv_at hlv 0 rfl) ?_
      refine va_get (D := D) (ci := 0) (v := vI crow) (C := RX0) (T := TX0) (N := 7) hx hb hts hi0 hown hG.1 hP 5 rfl rfl 1 (by decide) lf15 (fun _ h9 => h9) rfl dX0_come_77 ?_
      refine lv_i2l (v := jJ crow) hx hb dX0_come_80 (jJ_i (by omega)) ?_
      refine lv_aload_n hx hb dX0_come_81 rfl (lv_at hlv 2 rfl) ?_
      refine lv_iconst (v := iI 4) hx hb dX0_come_82 (by decide) ?_
      refine lv_aload_n hx hb dX0_come_83 rfl (lv_at hlv 0 rfl) ?_
      refine va_get (D := D) (ci := 0) (v := vR na) (C := RX0) (T := TX0) (N := 7) hx hb hts hi0 hown hG.1 hP 5 rfl rfl 0 (by decide) lf9 (fun _ h9 => h9) rfl dX0_come_84 ?_
      refine cjr_i [false, false, false, false, true, true, false, true, true] (fun pre9 => (va_runVN (host := "KerbSplash") (As := [vI 4, vR na]) (rest := [vJ crow]) ⟨hx, hb, hml, hown, hts⟩ (w_value l hl D cy sa la l0 l2 l3 na size st sf vf (u2.2.2 0) 4 H.size (by first | exact hr_size | omega) (by show (0 : Int) ≤ 4 ∧ (4 : Int) ≤ 4; decide) hst) ⟨va_cnB 2 hts gg_3 rfl rfl rfl (nM_Car_37 hG.2.1) ini_RX1 (by decide +kernel) ⟨Nat.le_of_ble_eq_true rfl, Nat.le_of_ble_eq_true rfl⟩, im_X1_value, se_X1_value⟩ ⟨pcW.blind, (va_recv hG.1 hP (ci := 1) (q0 := 0) rfl rfl), pre9⟩ rfl rfl hlv.1 rfl (lv_room (Nat.le_of_ble_eq_true rfl)) dX0_come_87 ⟨Nat.le_of_ble_eq_true rfl, Nat.le_of_ble_eq_true rfl⟩)) hP hD hS hA hG hT [0, 1, 2, 3, 6] rfl (by decide +kernel) (fun r5 u5 H locs hw5 hq9 hS => ?_)
      obtain ⟨rfl, hq5_1, hq5_2⟩ := hw5
      obtain ⟨hP, hD⟩ := pd9 [zI s8 (cy 0) 112 pf, zO ca 0 [vR na, vI crow, vI cpace, vI ctyre, vI ckind, vI crow, vI cpt], zO sA 6 [vI wi, vI ro, vR s2, vR s3, vI dr, vI dt, vR s6, vI pe, vR s8, vI gu, vI sh, vR s11, vI wo, vR s13, vI dn, vI mi, vI fl, vI tk, vI go], zI s3 (cy 0) 96 wf, zO la 1 [vR l0, vI size, vR l2, vR l3], zI l0 (cy 0) 600 st, zI l2 (cy 0) 5 sf, zI l3 (cy 0) 40 (u5.2.2 0), zI na (cy 0) 7 (u2.2.2 0)] hq9
      refine lv_i2l (v := jJ (u5.2.1 0)) hx hb dX0_come_90 (jJ_i (by omega)) ?_
      refine lv_ladd hx hb dX0_come_91 ?_
      obtain ⟨z_11, hz_11⟩ : ∃ z : Int, z = crow + (u5.2.1 0) := ⟨_, rfl⟩
      refine lt_l (y := jJ z_11) (by rw [hz_11]; exact (Int64.ofInt_add _ _).symm) ?_
      refine lv_lstore (lv' := [(4, vJ z_11), (0, vR ca), (1, vR sA), (2, vR la), (3, vI x)]) hx hb dX0_come_92 hlv (by decide) rfl (fun ls hlv => ?_)
      refine lv_aload_n hx hb dX0_come_94 rfl (lv_at hlv 1 rfl) ?_
      refine lv_aload_n hx hb dX0_come_95 rfl (lv_at hlv 2 rfl) ?_
      refine lv_iload_n hx hb dX0_come_96 rfl (lv_at hlv 4 rfl) ?_
      refine lv_lload hx hb dX0_come_97 (lv_at hlv 0 rfl) ?_
      refine lv_iconst (v := iI 0) hx hb dX0_come_99 (by decide) ?_
      refine lv_aload_n hx hb dX0_come_100 rfl (lv_at hlv 2 rfl) ?_
      refine va_getN (D := D) (ci := 6) (v := vI ro) (C := RX6) (T := TX6) (N := 19) hx hb hts hi6 hown hG.1 hP 2 rfl rfl 1 (by decide) (va_Nw.use rfl (nF_Car_66 hG.2.1)) (fun _ h9 => h9) rfl dX0_come_101 ?_
      refine lv_iconst (v := iI 1) hx hb dX0_come_104 (by decide) ?_
      refine lv_isub hx hb dX0_come_105 ?_
      refine lt_e (e0 := ro - 1) (Int32.ofInt_sub _ _).symm (fun z_12 hz_12 => ?_)
      refine cjr_i [true, true, true, true, true, true, true, true, true] (fun pre9 => (va_runSN (host := "KerbSplash") (As := [vJ z_11, vI 0, vI z_12]) (rest := [vI x, vR sA, vR ca]) ⟨hx, hb, hml, hown, hts⟩ (s_held l hl D cy sa z_11 0 z_12 H.size (by omega) (by show ((-2147483648) : Int) ≤ 0 ∧ (0 : Int) ≤ 2147483647; decide) (by omega)) ⟨va_cnB 3 hts gg_4 rfl rfl rfl (nM_Car_41 hG.2.1) ini_RX11 (by decide +kernel) ⟨Nat.le_of_ble_eq_true rfl, Nat.le_of_ble_eq_true rfl⟩, st_X11_held, trivial⟩ ⟨pcW.blind, pre9⟩ rfl rfl hlv.1 rfl (lv_room (Nat.le_of_ble_eq_true rfl)) dX0_come_106 ⟨Nat.le_of_ble_eq_true rfl, Nat.le_of_ble_eq_true rfl⟩)) hP hD hS hA hG hT [] rfl (by decide +kernel) (fun r6 u6 H locs hw6 hq9 hS => ?_)
      obtain ⟨rfl, hq6_1, hq6_2⟩ := hw6
      obtain ⟨hP, hD⟩ := pd9 [zI s8 (cy 0) 112 pf, zO ca 0 [vR na, vI crow, vI cpace, vI ctyre, vI ckind, vI crow, vI cpt], zO sA 6 [vI wi, vI ro, vR s2, vR s3, vI dr, vI dt, vR s6, vI pe, vR s8, vI gu, vI sh, vR s11, vI wo, vR s13, vI dn, vI mi, vI fl, vI tk, vI go], zI s3 (cy 0) 96 wf, zO la 1 [vR l0, vI size, vR l2, vR l3], zI l0 (cy 0) 600 st, zI l2 (cy 0) 5 sf, zI l3 (cy 0) 40 (u5.2.2 0), zI na (cy 0) 7 (u2.2.2 0)] hq9
      refine cjr_v [true, false, false, false, true, true, true, true, false] (fun pre9 => (va_runV (As := [vR sA, vI x, vI (u6.2.1 0)]) (rest := []) ⟨hx, hb, hml, hown, hts⟩ (c_see l hl D cy sa ca na crow cpace ctyre ckind crow cpt sA s2 s3 s6 s8 s11 s13 wi ro dr dt pe gu sh wo dn mi fl tk go (u2.2.2 0) wf x (u6.2.1 0) H.size (by first | exact hr_crow | omega) (by first | exact hr_cpace | omega) (by first | exact hr_ctyre | omega) (by first | exact hr_ckind | omega) (by first | exact hr_crow | omega) (by first | exact hr_cpt | omega) (by first | exact hr_wi | omega) (by first | exact rgw hr_ro (by decide) (by decide) | omega) (by first | exact hr_dr | omega) (by first | exact hr_dt | omega) (by first | exact hr_pe | omega) (by first | exact hr_gu | omega) (by first | exact hr_sh | omega) (by first | exact hr_wo | omega) (by first | exact hr_dn | omega) (by first | exact hr_mi | omega) (by first | exact hr_fl | omega) (by first | exact hr_tk | omega) (by first | exact hr_go | omega) (by first | exact hr_x | omega) (by omega)) (cwV 3 hts gg_2 rfl rfl rfl (by decide +kernel) ⟨Nat.le_of_ble_eq_true rfl, Nat.le_of_ble_eq_true rfl⟩) ⟨pcW.blind, (va_recv hG.1 hP (ci := 0) (q0 := 1) rfl rfl), pre9⟩ rfl rfl hlv.1 rfl (lv_room (Nat.le_of_ble_eq_true rfl)) dX0_come_109 ⟨Nat.le_of_ble_eq_true rfl, Nat.le_of_ble_eq_true rfl⟩)) hP hD hS hA hG hT [1, 8, 2, 3] rfl (by decide +kernel) (fun u7 H locs hw7 hq9 hS => ?_)
      obtain ⟨hP, hD⟩ := pd9 [zI s8 (cy 0) 112 pf, zO la 1 [vR l0, vI size, vR l2, vR l3], zI l0 (cy 0) 600 st, zI l2 (cy 0) 5 sf, zI l3 (cy 0) 40 (u5.2.2 0), zO ca 0 [vR na, vI crow, vI cpace, vI ctyre, vI ckind, vI (u6.2.1 0), vI cpt], zI na (cy 0) 7 (u7.2.2 0), zO sA 6 [vI wi, vI ro, vR s2, vR s3, vI dr, vI dt, vR s6, vI pe, vR s8, vI gu, vI sh, vR s11, vI wo, vR s13, vI dn, vI mi, vI fl, vI tk, vI go], zI s3 (cy 0) 96 wf] hq9
      refine lv_aload_n hx hb dX0_come_112 rfl (lv_at hlv 1 rfl) ?_
      refine lv_aload_n hx hb dX0_come_113 rfl (lv_at hlv 1 rfl) ?_
      refine va_get (D := D) (ci := 0) (v := vI ckind) (C := RX0) (T := TX0) (N := 7) hx hb hts hi0 hown hG.1 hP 5 rfl rfl 4 (by decide) lf25 (fun _ h9 => h9) rfl dX0_come_114 ?_
      refine lv_iconst (v := iI 1) hx hb dX0_come_117 (by decide) ?_
      refine ir_ne (tgt := 142) hx hb dX0_come_118 (by decide) (by first | exact hr_ckind | omega) (by show ((-2147483648) : Int) ≤ 1 ∧ (1 : Int) ≤ 2147483647; decide) (fun c_13 => ?_) (fun c_13 => by exfalso; omega)
      refine lv_aload_n hx hb dX0_come_142 rfl (lv_at hlv 1 rfl) ?_
      refine va_get (D := D) (ci := 0) (v := vI cpace) (C := RX0) (T := TX0) (N := 7) hx hb hts hi0 hown hG.1 hP 5 rfl rfl 2 (by decide) lf19 (fun _ h9 => h9) rfl dX0_come_143 ?_
      refine va_put (D := D) (ci := 0) (v := vI cpace) (ty := .int) (C := RX0) (T := TX0) (N := 7) hx hb hts hi0 tyX0 tyX0_ok nmX0 hown hG.1 hP hD hS 5 rfl rfl 6 (by decide) lf69 (fun _ h9 => h9) rfl (by decide +kernel) rfl rfl (Nat.le_of_ble_eq_true rfl) dX0_come_146 (fun H locs hP hD hS => ?_)
      obtain ⟨hP, hD⟩ := pw9 [zI s8 (cy 0) 112 pf, zO la 1 [vR l0, vI size, vR l2, vR l3], zI l0 (cy 0) 600 st, zI l2 (cy 0) 5 sf, zI l3 (cy 0) 40 (u5.2.2 0), zO ca 0 [vR na, vI crow, vI cpace, vI ctyre, vI ckind, vI (u6.2.1 0), vI cpace], zI na (cy 0) 7 (u7.2.2 0), zO sA 6 [vI wi, vI ro, vR s2, vR s3, vI dr, vI dt, vR s6, vI pe, vR s8, vI gu, vI sh, vR s11, vI wo, vR s13, vI dn, vI mi, vI fl, vI tk, vI go], zI s3 (cy 0) 96 wf] hP hD
      refine lv_aload_n hx hb dX0_come_149 rfl (lv_at hlv 1 rfl) ?_
      refine va_get (D := D) (ci := 0) (v := vR na) (C := RX0) (T := TX0) (N := 7) hx hb hts hi0 hown hG.1 hP 5 rfl rfl 0 (by decide) lf9 (fun _ h9 => h9) rfl dX0_come_150 ?_
      refine lv_iconst (v := iI 1) hx hb dX0_come_153 (by decide) ?_
      refine lv_aload_n hx hb dX0_come_154 rfl (lv_at hlv 1 rfl) ?_
      refine va_get (D := D) (ci := 0) (v := vI cpace) (C := RX0) (T := TX0) (N := 7) hx hb hts hi0 hown hG.1 hP 5 rfl rfl 6 (by decide) lf69 (fun _ h9 => h9) rfl dX0_come_155 ?_
      refine va_iast hx hb hG.1 hP hD hS 6 0 rfl rfl (iI_in (by omega) (by decide)) dX0_come_158 (fun H locs hP hD hS => ?_)
      obtain ⟨f_14, hP, hD⟩ := pe9 (fun f_14 => [zI s8 (cy 0) 112 pf, zO la 1 [vR l0, vI size, vR l2, vR l3], zI l0 (cy 0) 600 st, zI l2 (cy 0) 5 sf, zI l3 (cy 0) 40 (u5.2.2 0), zO ca 0 [vR na, vI crow, vI cpace, vI ctyre, vI ckind, vI (u6.2.1 0), vI cpace], zI na (cy 0) 7 f_14, zO sA 6 [vI wi, vI ro, vR s2, vR s3, vI dr, vI dt, vR s6, vI pe, vR s8, vI gu, vI sh, vR s11, vI wo, vR s13, vI dn, vI mi, vI fl, vI tk, vI go], zI s3 (cy 0) 96 wf]) _ hP hD
      refine W.widen (k := 0) (n := 0) (Nat.le_of_ble_eq_true rfl) (Nat.le_of_ble_eq_true rfl) ?_
      exact W.vret hx hb hr (fun t ht hW => ⟨⟨((fun k => ([] : List Nat).getD k 0), (fun k => ([(u6.2.1 0), cpace] : List Int).getD k 0), (fun k => ([f_14, (u5.2.2 0)] : List (Nat → Int32)).getD k (fun _ => 0))), rfl, ⟨(by show (0 ≤ (u6.2.1 0) ∧ (u6.2.1 0) ≤ 5); omega), (by show ((-2147483648) ≤ cpace ∧ cpace ≤ 2147483647); first | exact hr_cpace | omega), hq1_2, hq5_2⟩, at9 ht hP hD [5, 6, 7, 8, 0, 1, 2, 3, 4] (by decide +kernel) rfl⟩, hS.F ht⟩) hS.2.2 dX0_come_159
  · refine lv_iconst (v := iI 0) hx hb dX0_come_57 (by decide) ?_
    refine lv_goto (tgt := 65) hx hb dX0_come_58 (by decide) ?_
    refine cjr_v [false, false, false, true, true, true, true, false, true] (fun pre9 => (va_runV (As := [vR sA, vI x, vI 0]) (rest := []) ⟨hx, hb, hml, hown, hts⟩ (c_see l hl D cy sa ca na crow cpace ctyre ckind crt cpt sA s2 s3 s6 s8 s11 s13 wi ro dr dt pe gu sh wo dn mi fl tk go f_5 wf x 0 H.size (by first | exact hr_crow | omega) (by first | exact hr_cpace | omega) (by first | exact hr_ctyre | omega) (by first | exact hr_ckind | omega) (by first | exact hr_crt | omega) (by first | exact hr_cpt | omega) (by first | exact hr_wi | omega) (by first | exact rgw hr_ro (by decide) (by decide) | omega) (by first | exact hr_dr | omega) (by first | exact hr_dt | omega) (by first | exact hr_pe | omega) (by first | exact hr_gu | omega) (by first | exact hr_sh | omega) (by first | exact hr_wo | omega) (by first | exact hr_dn | omega) (by first | exact hr_mi | omega) (by first | exact hr_fl | omega) (by first | exact hr_tk | omega) (by first | exact hr_go | omega) (by first | exact hr_x | omega) (by show (0 : Int) ≤ 0 ∧ (0 : Int) ≤ 5; decide)) (cwV 3 hts gg_2 rfl rfl rfl (by decide +kernel) ⟨Nat.le_of_ble_eq_true rfl, Nat.le_of_ble_eq_true rfl⟩) ⟨pcW.blind, (va_recv hG.1 hP (ci := 0) (q0 := 0) rfl rfl), pre9⟩ rfl rfl hlv.1 rfl (lv_room (Nat.le_of_ble_eq_true rfl)) dX0_come_65 ⟨Nat.le_of_ble_eq_true rfl, Nat.le_of_ble_eq_true rfl⟩)) hP hD hS hA hG hT [0, 1, 7, 2] rfl (by decide +kernel) (fun u8 H locs hw8 hq9 hS => ?_)
    obtain ⟨hP, hD⟩ := pd9 [zO la 1 [vR l0, vI size, vR l2, vR l3], zI l0 (cy 0) 600 st, zI l2 (cy 0) 5 sf, zI l3 (cy 0) 40 vf, zI s8 (cy 0) 112 pf, zO ca 0 [vR na, vI crow, vI cpace, vI ctyre, vI ckind, vI 0, vI cpt], zI na (cy 0) 7 (u8.2.2 0), zO sA 6 [vI wi, vI ro, vR s2, vR s3, vI dr, vI dt, vR s6, vI pe, vR s8, vI gu, vI sh, vR s11, vI wo, vR s13, vI dn, vI mi, vI fl, vI tk, vI go], zI s3 (cy 0) 96 wf] hq9
    refine lv_aload_n hx hb dX0_come_68 rfl (lv_at hlv 0 rfl) ?_
    refine va_get (D := D) (ci := 0) (v := vI ckind) (C := RX0) (T := TX0) (N := 7) hx hb hts hi0 hown hG.1 hP 5 rfl rfl 4 (by decide) lf25 (fun _ h9 => h9) rfl dX0_come_69 ?_
    refine lv_iconst (v := iI 2) hx hb dX0_come_72 (by decide) ?_
    refine ir_ne (tgt := 112) hx hb dX0_come_73 (by decide) (by first | exact hr_ckind | omega) (by show ((-2147483648) : Int) ≤ 2 ∧ (2 : Int) ≤ 2147483647; decide) (fun c_15 => ?_) (fun c_15 => by exfalso; omega)
    refine lv_aload_n hx hb dX0_come_112 rfl (lv_at hlv 0 rfl) ?_
    refine lv_aload_n hx hb dX0_come_113 rfl (lv_at hlv 0 rfl) ?_
    refine va_get (D := D) (ci := 0) (v := vI ckind) (C := RX0) (T := TX0) (N := 7) hx hb hts hi0 hown hG.1 hP 5 rfl rfl 4 (by decide) lf25 (fun _ h9 => h9) rfl dX0_come_114 ?_
    refine lv_iconst (v := iI 1) hx hb dX0_come_117 (by decide) ?_
    refine ir_ne (tgt := 142) hx hb dX0_come_118 (by decide) (by first | exact hr_ckind | omega) (by show ((-2147483648) : Int) ≤ 1 ∧ (1 : Int) ≤ 2147483647; decide) (fun c_16 => ?_) (fun c_16 => by exfalso; omega)
    refine lv_aload_n hx hb dX0_come_142 rfl (lv_at hlv 0 rfl) ?_
    refine va_get (D := D) (ci := 0) (v := vI cpace) (C := RX0) (T := TX0) (N := 7) hx hb hts hi0 hown hG.1 hP 5 rfl rfl 2 (by decide) lf19 (fun _ h9 => h9) rfl dX0_come_143 ?_
    refine va_put (D := D) (ci := 0) (v := vI cpace) (ty := .int) (C := RX0) (T := TX0) (N := 7) hx hb hts hi0 tyX0 tyX0_ok nmX0 hown hG.1 hP hD hS 5 rfl rfl 6 (by decide) lf69 (fun _ h9 => h9) rfl (by decide +kernel) rfl rfl (Nat.le_of_ble_eq_true rfl) dX0_come_146 (fun H locs hP hD hS => ?_)
    obtain ⟨hP, hD⟩ := pw9 [zO la 1 [vR l0, vI size, vR l2, vR l3], zI l0 (cy 0) 600 st, zI l2 (cy 0) 5 sf, zI l3 (cy 0) 40 vf, zI s8 (cy 0) 112 pf, zO ca 0 [vR na, vI crow, vI cpace, vI ctyre, vI ckind, vI 0, vI cpace], zI na (cy 0) 7 (u8.2.2 0), zO sA 6 [vI wi, vI ro, vR s2, vR s3, vI dr, vI dt, vR s6, vI pe, vR s8, vI gu, vI sh, vR s11, vI wo, vR s13, vI dn, vI mi, vI fl, vI tk, vI go], zI s3 (cy 0) 96 wf] hP hD
    refine lv_aload_n hx hb dX0_come_149 rfl (lv_at hlv 0 rfl) ?_
    refine va_get (D := D) (ci := 0) (v := vR na) (C := RX0) (T := TX0) (N := 7) hx hb hts hi0 hown hG.1 hP 5 rfl rfl 0 (by decide) lf9 (fun _ h9 => h9) rfl dX0_come_150 ?_
    refine lv_iconst (v := iI 1) hx hb dX0_come_153 (by decide) ?_
    refine lv_aload_n hx hb dX0_come_154 rfl (lv_at hlv 0 rfl) ?_
    refine va_get (D := D) (ci := 0) (v := vI cpace) (C := RX0) (T := TX0) (N := 7) hx hb hts hi0 hown hG.1 hP 5 rfl rfl 6 (by decide) lf69 (fun _ h9 => h9) rfl dX0_come_155 ?_
    refine va_iast hx hb hG.1 hP hD hS 6 0 rfl rfl (iI_in (by omega) (by decide)) dX0_come_158 (fun H locs hP hD hS => ?_)
    obtain ⟨f_17, hP, hD⟩ := pe9 (fun f_17 => [zO la 1 [vR l0, vI size, vR l2, vR l3], zI l0 (cy 0) 600 st, zI l2 (cy 0) 5 sf, zI l3 (cy 0) 40 vf, zI s8 (cy 0) 112 pf, zO ca 0 [vR na, vI crow, vI cpace, vI ctyre, vI ckind, vI 0, vI cpace], zI na (cy 0) 7 f_17, zO sA 6 [vI wi, vI ro, vR s2, vR s3, vI dr, vI dt, vR s6, vI pe, vR s8, vI gu, vI sh, vR s11, vI wo, vR s13, vI dn, vI mi, vI fl, vI tk, vI go], zI s3 (cy 0) 96 wf]) _ hP hD
    refine W.widen (k := 0) (n := 0) (Nat.le_of_ble_eq_true rfl) (Nat.le_of_ble_eq_true rfl) ?_
    exact W.vret hx hb hr (fun t ht hW => ⟨⟨((fun k => ([] : List Nat).getD k 0), (fun k => ([0, cpace] : List Int).getD k 0), (fun k => ([f_17, vf] : List (Nat → Int32)).getD k (fun _ => 0))), rfl, ⟨(by show (0 ≤ 0 ∧ 0 ≤ 5); show (0 : Int) ≤ 0 ∧ (0 : Int) ≤ 5; decide), (by show ((-2147483648) ≤ cpace ∧ cpace ≤ 2147483647); first | exact hr_cpace | omega), hq1_2, hst⟩, at9 ht hP hD [5, 6, 7, 8, 4, 0, 1, 2, 3] (by decide +kernel) rfl⟩, hS.F ht⟩) hS.2.2 dX0_come_159
end
section
theorem dX0_drive_0 : decode cX0_drive 0 = .ok (.iconst 0, 1) := by decide +kernel
theorem dX0_drive_1 : decode cX0_drive 1 = .ok (.istore_n 3, 1) := by decide +kernel
theorem dX0_drive_11 : decode cX0_drive 11 = .ok (.if_icmp .ge 77, 3) := by decide +kernel
theorem dX0_drive_14 : decode cX0_drive 14 = .ok (.aload_n 0, 1) := by decide +kernel
theorem dX0_drive_15 : decode cX0_drive 15 = .ok (.aload_n 1, 1) := by decide +kernel
theorem dX0_drive_16 : decode cX0_drive 16 = .ok (.aload_n 2, 1) := by decide +kernel
theorem dX0_drive_17 : decode cX0_drive 17 = .ok (.iload 4, 2) := by decide +kernel
theorem dX0_drive_19 : decode cX0_drive 19 = .ok (.invokevirtual 33, 3) := by decide +kernel
theorem dX0_drive_2 : decode cX0_drive 2 = .ok (.iconst 0, 1) := by decide +kernel
theorem dX0_drive_22 : decode cX0_drive 22 = .ok (.aload_n 2, 1) := by decide +kernel
theorem dX0_drive_23 : decode cX0_drive 23 = .ok (.iconst 0, 1) := by decide +kernel
theorem dX0_drive_24 : decode cX0_drive 24 = .ok (.aload_n 0, 1) := by decide +kernel
theorem dX0_drive_25 : decode cX0_drive 25 = .ok (.getfield 9, 3) := by decide +kernel
theorem dX0_drive_28 : decode cX0_drive 28 = .ok (.invokevirtual 37, 3) := by decide +kernel
theorem dX0_drive_3 : decode cX0_drive 3 = .ok (.istore 4, 2) := by decide +kernel
theorem dX0_drive_31 : decode cX0_drive 31 = .ok (.i2l, 1) := by decide +kernel
theorem dX0_drive_32 : decode cX0_drive 32 = .ok (.iconst 0, 1) := by decide +kernel
theorem dX0_drive_33 : decode cX0_drive 33 = .ok (.bipush 16, 2) := by decide +kernel
theorem dX0_drive_35 : decode cX0_drive 35 = .ok (.invokestatic 41, 3) := by decide +kernel
theorem dX0_drive_38 : decode cX0_drive 38 = .ok (.istore 5, 2) := by decide +kernel
theorem dX0_drive_40 : decode cX0_drive 40 = .ok (.aload_n 0, 1) := by decide +kernel
theorem dX0_drive_41 : decode cX0_drive 41 = .ok (.getfield 9, 3) := by decide +kernel
theorem dX0_drive_44 : decode cX0_drive 44 = .ok (.iconst 0, 1) := by decide +kernel
theorem dX0_drive_45 : decode cX0_drive 45 = .ok (.iaload, 1) := by decide +kernel
theorem dX0_drive_46 : decode cX0_drive 46 = .ok (.iload 5, 2) := by decide +kernel
theorem dX0_drive_48 : decode cX0_drive 48 = .ok (.imul, 1) := by decide +kernel
theorem dX0_drive_49 : decode cX0_drive 49 = .ok (.bipush 16, 2) := by decide +kernel
theorem dX0_drive_5 : decode cX0_drive 5 = .ok (.iload 4, 2) := by decide +kernel
theorem dX0_drive_51 : decode cX0_drive 51 = .ok (.idiv, 1) := by decide +kernel
theorem dX0_drive_52 : decode cX0_drive 52 = .ok (.istore 6, 2) := by decide +kernel
theorem dX0_drive_54 : decode cX0_drive 54 = .ok (.iload 6, 2) := by decide +kernel
theorem dX0_drive_56 : decode cX0_drive 56 = .ok (.ifCond .le 26, 3) := by decide +kernel
theorem dX0_drive_59 : decode cX0_drive 59 = .ok (.aload_n 1, 1) := by decide +kernel
theorem dX0_drive_60 : decode cX0_drive 60 = .ok (.iload 4, 2) := by decide +kernel
theorem dX0_drive_62 : decode cX0_drive 62 = .ok (.aload_n 0, 1) := by decide +kernel
theorem dX0_drive_63 : decode cX0_drive 63 = .ok (.getfield 47, 3) := by decide +kernel
theorem dX0_drive_66 : decode cX0_drive 66 = .ok (.iload 6, 2) := by decide +kernel
theorem dX0_drive_68 : decode cX0_drive 68 = .ok (.invokevirtual 50, 3) := by decide +kernel
theorem dX0_drive_7 : decode cX0_drive 7 = .ok (.aload_n 1, 1) := by decide +kernel
theorem dX0_drive_71 : decode cX0_drive 71 = .ok (.iload_n 3, 1) := by decide +kernel
theorem dX0_drive_72 : decode cX0_drive 72 = .ok (.aload_n 0, 1) := by decide +kernel
theorem dX0_drive_73 : decode cX0_drive 73 = .ok (.aload_n 1, 1) := by decide +kernel
theorem dX0_drive_74 : decode cX0_drive 74 = .ok (.aload_n 2, 1) := by decide +kernel
theorem dX0_drive_75 : decode cX0_drive 75 = .ok (.iload 4, 2) := by decide +kernel
theorem dX0_drive_77 : decode cX0_drive 77 = .ok (.invokevirtual 54, 3) := by decide +kernel
theorem dX0_drive_8 : decode cX0_drive 8 = .ok (.getfield 28, 3) := by decide +kernel
theorem dX0_drive_80 : decode cX0_drive 80 = .ok (.iadd, 1) := by decide +kernel
theorem dX0_drive_81 : decode cX0_drive 81 = .ok (.istore_n 3, 1) := by decide +kernel
theorem dX0_drive_82 : decode cX0_drive 82 = .ok (.iinc 4 1, 3) := by decide +kernel
theorem dX0_drive_85 : decode cX0_drive 85 = .ok (.goto (-80), 3) := by decide +kernel
theorem dX0_drive_88 : decode cX0_drive 88 = .ok (.iload_n 3, 1) := by decide +kernel
theorem dX0_drive_89 : decode cX0_drive 89 = .ok (.ireturn, 1) := by decide +kernel
theorem dX0_hit_0 : decode cX0_hit 0 = .ok (.aload_n 2, 1) := by decide +kernel
theorem dX0_hit_1 : decode cX0_hit 1 = .ok (.iconst 1, 1) := by decide +kernel
theorem dX0_hit_100 : decode cX0_hit 100 = .ok (.iconst 2, 1) := by decide +kernel
theorem dX0_hit_101 : decode cX0_hit 101 = .ok (.aload_n 0, 1) := by decide +kernel
theorem dX0_hit_102 : decode cX0_hit 102 = .ok (.getfield 9, 3) := by decide +kernel
theorem dX0_hit_105 : decode cX0_hit 105 = .ok (.invokevirtual 37, 3) := by decide +kernel
theorem dX0_hit_108 : decode cX0_hit 108 = .ok (.i2l, 1) := by decide +kernel
theorem dX0_hit_109 : decode cX0_hit 109 = .ok (.iconst 0, 1) := by decide +kernel
theorem dX0_hit_11 : decode cX0_hit 11 = .ok (.aload_n 0, 1) := by decide +kernel
theorem dX0_hit_110 : decode cX0_hit 110 = .ok (.bipush 99, 2) := by decide +kernel
theorem dX0_hit_112 : decode cX0_hit 112 = .ok (.invokestatic 41, 3) := by decide +kernel
theorem dX0_hit_115 : decode cX0_hit 115 = .ok (.istore 9, 2) := by decide +kernel
theorem dX0_hit_117 : decode cX0_hit 117 = .ok (.aload_n 1, 1) := by decide +kernel
theorem dX0_hit_118 : decode cX0_hit 118 = .ok (.getfield 89, 3) := by decide +kernel
theorem dX0_hit_12 : decode cX0_hit 12 = .ok (.getfield 9, 3) := by decide +kernel
theorem dX0_hit_121 : decode cX0_hit 121 = .ok (.iload 7, 2) := by decide +kernel
theorem dX0_hit_123 : decode cX0_hit 123 = .ok (.iconst 2, 1) := by decide +kernel
theorem dX0_hit_124 : decode cX0_hit 124 = .ok (.iadd, 1) := by decide +kernel
theorem dX0_hit_125 : decode cX0_hit 125 = .ok (.dup2, 1) := by decide +kernel
theorem dX0_hit_126 : decode cX0_hit 126 = .ok (.iaload, 1) := by decide +kernel
theorem dX0_hit_127 : decode cX0_hit 127 = .ok (.iload 9, 2) := by decide +kernel
theorem dX0_hit_129 : decode cX0_hit 129 = .ok (.iadd, 1) := by decide +kernel
theorem dX0_hit_130 : decode cX0_hit 130 = .ok (.iastore, 1) := by decide +kernel
theorem dX0_hit_131 : decode cX0_hit 131 = .ok (.aload_n 1, 1) := by decide +kernel
theorem dX0_hit_132 : decode cX0_hit 132 = .ok (.getfield 89, 3) := by decide +kernel
theorem dX0_hit_135 : decode cX0_hit 135 = .ok (.iload 7, 2) := by decide +kernel
theorem dX0_hit_137 : decode cX0_hit 137 = .ok (.iconst 3, 1) := by decide +kernel
theorem dX0_hit_138 : decode cX0_hit 138 = .ok (.iadd, 1) := by decide +kernel
theorem dX0_hit_139 : decode cX0_hit 139 = .ok (.dup2, 1) := by decide +kernel
theorem dX0_hit_140 : decode cX0_hit 140 = .ok (.iaload, 1) := by decide +kernel
theorem dX0_hit_141 : decode cX0_hit 141 = .ok (.iconst 1, 1) := by decide +kernel
theorem dX0_hit_142 : decode cX0_hit 142 = .ok (.iadd, 1) := by decide +kernel
theorem dX0_hit_143 : decode cX0_hit 143 = .ok (.iastore, 1) := by decide +kernel
theorem dX0_hit_144 : decode cX0_hit 144 = .ok (.iload 5, 2) := by decide +kernel
theorem dX0_hit_146 : decode cX0_hit 146 = .ok (.iload 9, 2) := by decide +kernel
theorem dX0_hit_148 : decode cX0_hit 148 = .ok (.iadd, 1) := by decide +kernel
theorem dX0_hit_149 : decode cX0_hit 149 = .ok (.istore 5, 2) := by decide +kernel
theorem dX0_hit_15 : decode cX0_hit 15 = .ok (.bipush 6, 2) := by decide +kernel
theorem dX0_hit_151 : decode cX0_hit 151 = .ok (.iinc 6 1, 3) := by decide +kernel
theorem dX0_hit_154 : decode cX0_hit 154 = .ok (.goto (-117), 3) := by decide +kernel
theorem dX0_hit_157 : decode cX0_hit 157 = .ok (.iload 5, 2) := by decide +kernel
theorem dX0_hit_159 : decode cX0_hit 159 = .ok (.ireturn, 1) := by decide +kernel
theorem dX0_hit_17 : decode cX0_hit 17 = .ok (.aload_n 1, 1) := by decide +kernel
theorem dX0_hit_18 : decode cX0_hit 18 = .ok (.iload_n 3, 1) := by decide +kernel
theorem dX0_hit_19 : decode cX0_hit 19 = .ok (.invokevirtual 79, 3) := by decide +kernel
theorem dX0_hit_2 : decode cX0_hit 2 = .ok (.aload_n 0, 1) := by decide +kernel
theorem dX0_hit_22 : decode cX0_hit 22 = .ok (.ifCond .eq 7, 3) := by decide +kernel
theorem dX0_hit_25 : decode cX0_hit 25 = .ok (.iconst 1, 1) := by decide +kernel
theorem dX0_hit_26 : decode cX0_hit 26 = .ok (.goto 4, 3) := by decide +kernel
theorem dX0_hit_29 : decode cX0_hit 29 = .ok (.iconst 0, 1) := by decide +kernel
theorem dX0_hit_3 : decode cX0_hit 3 = .ok (.getfield 9, 3) := by decide +kernel
theorem dX0_hit_30 : decode cX0_hit 30 = .ok (.iastore, 1) := by decide +kernel
theorem dX0_hit_31 : decode cX0_hit 31 = .ok (.iconst 0, 1) := by decide +kernel
theorem dX0_hit_32 : decode cX0_hit 32 = .ok (.istore 5, 2) := by decide +kernel
theorem dX0_hit_34 : decode cX0_hit 34 = .ok (.iconst 0, 1) := by decide +kernel
theorem dX0_hit_35 : decode cX0_hit 35 = .ok (.istore 6, 2) := by decide +kernel
theorem dX0_hit_37 : decode cX0_hit 37 = .ok (.iload 6, 2) := by decide +kernel
theorem dX0_hit_39 : decode cX0_hit 39 = .ok (.aload_n 1, 1) := by decide +kernel
theorem dX0_hit_40 : decode cX0_hit 40 = .ok (.getfield 83, 3) := by decide +kernel
theorem dX0_hit_43 : decode cX0_hit 43 = .ok (.aload_n 1, 1) := by decide +kernel
theorem dX0_hit_44 : decode cX0_hit 44 = .ok (.getfield 86, 3) := by decide +kernel
theorem dX0_hit_47 : decode cX0_hit 47 = .ok (.iadd, 1) := by decide +kernel
theorem dX0_hit_48 : decode cX0_hit 48 = .ok (.if_icmp .ge 109, 3) := by decide +kernel
theorem dX0_hit_51 : decode cX0_hit 51 = .ok (.iconst 4, 1) := by decide +kernel
theorem dX0_hit_52 : decode cX0_hit 52 = .ok (.iload 6, 2) := by decide +kernel
theorem dX0_hit_54 : decode cX0_hit 54 = .ok (.imul, 1) := by decide +kernel
theorem dX0_hit_55 : decode cX0_hit 55 = .ok (.istore 7, 2) := by decide +kernel
theorem dX0_hit_57 : decode cX0_hit 57 = .ok (.aload_n 1, 1) := by decide +kernel
theorem dX0_hit_58 : decode cX0_hit 58 = .ok (.getfield 89, 3) := by decide +kernel
theorem dX0_hit_6 : decode cX0_hit 6 = .ok (.invokevirtual 37, 3) := by decide +kernel
theorem dX0_hit_61 : decode cX0_hit 61 = .ok (.iload 7, 2) := by decide +kernel
theorem dX0_hit_63 : decode cX0_hit 63 = .ok (.iconst 1, 1) := by decide +kernel
theorem dX0_hit_64 : decode cX0_hit 64 = .ok (.iadd, 1) := by decide +kernel
theorem dX0_hit_65 : decode cX0_hit 65 = .ok (.iaload, 1) := by decide +kernel
theorem dX0_hit_66 : decode cX0_hit 66 = .ok (.aload_n 0, 1) := by decide +kernel
theorem dX0_hit_67 : decode cX0_hit 67 = .ok (.getfield 47, 3) := by decide +kernel
theorem dX0_hit_70 : decode cX0_hit 70 = .ok (.iadd, 1) := by decide +kernel
theorem dX0_hit_71 : decode cX0_hit 71 = .ok (.istore 8, 2) := by decide +kernel
theorem dX0_hit_73 : decode cX0_hit 73 = .ok (.aload_n 1, 1) := by decide +kernel
theorem dX0_hit_74 : decode cX0_hit 74 = .ok (.getfield 89, 3) := by decide +kernel
theorem dX0_hit_77 : decode cX0_hit 77 = .ok (.iload 7, 2) := by decide +kernel
theorem dX0_hit_79 : decode cX0_hit 79 = .ok (.iaload, 1) := by decide +kernel
theorem dX0_hit_80 : decode cX0_hit 80 = .ok (.iload_n 3, 1) := by decide +kernel
theorem dX0_hit_81 : decode cX0_hit 81 = .ok (.if_icmp .ne 70, 3) := by decide +kernel
theorem dX0_hit_84 : decode cX0_hit 84 = .ok (.iload 8, 2) := by decide +kernel
theorem dX0_hit_86 : decode cX0_hit 86 = .ok (.iload 4, 2) := by decide +kernel
theorem dX0_hit_88 : decode cX0_hit 88 = .ok (.if_icmp .ge 63, 3) := by decide +kernel
theorem dX0_hit_9 : decode cX0_hit 9 = .ok (.istore 4, 2) := by decide +kernel
theorem dX0_hit_91 : decode cX0_hit 91 = .ok (.aload_n 0, 1) := by decide +kernel
theorem dX0_hit_92 : decode cX0_hit 92 = .ok (.getfield 9, 3) := by decide +kernel
theorem dX0_hit_95 : decode cX0_hit 95 = .ok (.iconst 4, 1) := by decide +kernel
theorem dX0_hit_96 : decode cX0_hit 96 = .ok (.iload 8, 2) := by decide +kernel
theorem dX0_hit_98 : decode cX0_hit 98 = .ok (.iastore, 1) := by decide +kernel
theorem dX0_hit_99 : decode cX0_hit 99 = .ok (.aload_n 2, 1) := by decide +kernel
def vs_c_hit : List Cond := .code yX0_hit cX0_hit 10 (some .int) :: (([.fieldLink RX0 9 "KerbSplash$Car" "names" "[I", .initialized RX1, .instanceMethod yX1_value, .selects RX1 yX1_value yX1_value, .fieldLink RX0 47 "KerbSplash$Car" "rowThere" "I", .initialized RX11, .static yX11_held, .initialized RX6, .instanceMethod yX6_isSheltered, .selects RX6 yX6_isSheltered yX6_isSheltered] : List Cond) ++ ((wsX00) ++ ((vs_w_value) ++ ((wsX60) ++ ((vs_s_held) ++ ((vs_s_isSheltered) ++ ([])))))))
theorem gd_c_hit : vs_c_hit.all goodWord = true := gd_C (by decide +kernel) (gd_A (by decide +kernel) (gd_A (by decide +kernel) (gd_A gd_w_value (gd_A (by decide +kernel) (gd_A gd_s_held (gd_A gd_s_isSheltered rfl))))))
set_option maxHeartbeats 4000000 in
set_option maxRecDepth 100000 in
theorem c_hit (l : Launch) (hl : l.stackTraces = false) (D : va_G) (cy : Nat → ClassId) (sa : Nat → Nat) (ca na : Nat) (crow cpace ctyre ckind crt cpt : Int) (sA s2 s3 s6 s8 s11 s13 : Nat) (wi ro dr dt pe gu sh wo dn mi fl tk go : Int) (xl xh : Int) (nf pf shf : Nat → Int32) (la l0 l2 l3 : Nat) (size : Int) (st sf vf : Nat → Int32) (x : Int) (sz : Nat) (hr_crow : 0 ≤ crow ∧ crow ≤ 5) (hr_cpace : (-2147483648) ≤ cpace ∧ cpace ≤ 2147483647) (hr_ctyre : (-2147483648) ≤ ctyre ∧ ctyre ≤ 2147483647) (hr_ckind : (-2147483648) ≤ ckind ∧ ckind ≤ 2147483647) (hr_crt : 0 ≤ crt ∧ crt ≤ 5) (hr_cpt : (-2147483648) ≤ cpt ∧ cpt ≤ 2147483647) (hr_wi : 0 ≤ wi ∧ wi ≤ 16) (hr_ro : 0 ≤ ro ∧ ro ≤ 6) (hr_dr : 0 ≤ dr ∧ dr ≤ 14) (hr_dt : 0 ≤ dt ∧ dt ≤ 6) (hr_pe : 0 ≤ pe ∧ pe ≤ 8) (hr_gu : 0 ≤ gu ∧ gu ≤ 20) (hr_sh : 0 ≤ sh ∧ sh ≤ 2) (hr_wo : 0 ≤ wo ∧ wo ≤ 8) (hr_dn : (-2147483648) ≤ dn ∧ dn ≤ 2147483647) (hr_mi : 0 ≤ mi ∧ mi ≤ 600) (hr_fl : (-2147483648) ≤ fl ∧ fl ≤ 2147483647) (hr_tk : (-2147483648) ≤ tk ∧ tk ≤ 2147483647) (hr_go : (-2147483648) ≤ go ∧ go ≤ 2147483647) (hr_xl : (-2147483648) ≤ xl ∧ xl ≤ 0) (hr_xh : 15 ≤ xh ∧ xh ≤ 2147483647) (hr_size : 0 ≤ size ∧ size ≤ 600) (hr_x : 0 ≤ x ∧ x ≤ 15) (hpf : tab_ 4 28 [xl, 0, (-2147483648), (-2147483648)] [xh, 19, 2147483647, 2147483647] pf) (hst : inv_ 600 0 2147483647 st) : mI9 l yX0_hit vs_c_hit ({ frames := 2, cells := 0, slots := 0, locals := 49 }) D cy sa sz [vR ca, vR sA, vR la, vI x] [zO ca 0 [vR na, vI crow, vI cpace, vI ctyre, vI ckind, vI crt, vI cpt], zI na (cy 0) 7 nf, zO sA 6 [vI wi, vI ro, vR s2, vR s3, vI dr, vI dt, vR s6, vI pe, vR s8, vI gu, vI sh, vR s11, vI wo, vR s13, vI dn, vI mi, vI fl, vI tk, vI go], zI s8 (cy 0) 112 pf, zI s11 (cy 0) 4 shf, zO la 1 [vR l0, vI size, vR l2, vR l3], zI l0 (cy 0) 600 st, zI l2 (cy 0) 5 sf, zI l3 (cy 0) 40 vf] (fun (r : Int32) (u : SV) => r = iI (u.2.1 0) ∧ ((-2147483648) ≤ u.2.1 0 ∧ u.2.1 0 ≤ 2147483647) ∧ tab_ 4 28 [xl, 0, (-2147483648), (-2147483648)] [xh, 19, 2147483647, 2147483647] (u.2.2 2) ∧ inv_ 600 0 2147483647 st) (fun u : SV => [zO ca 0 [vR na, vI crow, vI cpace, vI ctyre, vI ckind, vI crt, vI cpt], zI na (cy 0) 7 (u.2.2 0), zO sA 6 [vI wi, vI ro, vR s2, vR s3, vI dr, vI dt, vR s6, vI pe, vR s8, vI gu, vI sh, vR s11, vI wo, vR s13, vI dn, vI mi, vI fl, vI tk, vI go], zI s8 (cy 0) 112 (u.2.2 2), zI s11 (cy 0) 4 shf, zO la 1 [vR l0, vI size, vR l2, vR l3], zI l0 (cy 0) 600 st, zI l2 (cy 0) 5 sf, zI l3 (cy 0) 40 (u.2.2 1)]) 0 0 := by
  refine Met.ofW (cc := cX0_hit) (maxL := 10) (ret := (some .int)) (by decide) rfl ?_
  intro p e s m args below meth c s₁ B hml hv
  obtain ⟨rfl, hsz, hP, hG, hD0, hT⟩ := hv
  have hx := B.exec
  have hb := B.bytes
  have hr := B.returns
  have hts := atoms_spec (ws := vs_c_hit) B.pre
  have hown : s.vm.findClass RX0 = some m.cls := findClass_of_methodNamed B.named
  have hlocks := B.notSynchronized
  subst hsz
  have hD := hD0.self (sz := s.heap.size)
  generalize hAe : va_A [zO ca 0 [vR na, vI crow, vI cpace, vI ctyre, vI ckind, vI crt, vI cpt], zI na (cy 0) 7 nf, zO sA 6 [vI wi, vI ro, vR s2, vR s3, vI dr, vI dt, vR s6, vI pe, vR s8, vI gu, vI sh, vR s11, vI wo, vR s13, vI dn, vI mi, vI fl, vI tk, vI go], zI s8 (cy 0) 112 pf, zI s11 (cy 0) 4 shf, zO la 1 [vR l0, vI size, vR l2, vR l3], zI l0 (cy 0) 600 st, zI l2 (cy 0) 5 sf, zI l3 (cy 0) 40 vf] s.heap.size = A at hD hT ⊢
  have hA : ∀ q : Nat, s.heap.size ≤ q → A q := fun q h => by rw [← hAe]; exact Or.inr h
  have hS : va_S A s.heap s.heap [] := va_S.rf
  have hl0 := lv_entry ([vR ca, vR sA, vR la, vI x]) (n := 10) (Nat.le_of_ble_eq_true rfl)
  rw [lg_entry_eq]
  generalize (lg_sl ([vR ca, vR sA, vR la, vI x]) ++ List.replicate (10 - (lg_sl ([vR ca, vR sA, vR la, vI x])).length) Slot.unset).toArray = ls at hl0 ⊢
  have hlv : lv_has ls 10 [(0, vR ca), (1, vR sA), (2, vR la), (3, vI x)] := hl0
  have lf9 := hts (.fieldLink RX0 9 "KerbSplash$Car" "names" "[I") (List.mem_of_getElem? (i := 1) rfl)
  have hi0 : ∀ w ∈ wsX00, w ∈ vs_c_hit := fun w h => List.mem_cons_of_mem _ (List.mem_append_right _ (List.mem_append_left _ h))
  have gg_1 : GoodIn vs_c_hit (vs_w_value) := goodIn_sub (fun w h => List.mem_cons_of_mem _ (List.mem_append_right _ (List.mem_append_right _ (List.mem_append_left _ h)))) gd_w_value
  have ini_RX1 := hts (.initialized RX1) (List.mem_of_getElem? (i := 2) rfl)
  have im_X1_value := hts (.instanceMethod yX1_value) (List.mem_of_getElem? (i := 3) rfl)
  have se_X1_value := hts (.selects RX1 yX1_value yX1_value) (List.mem_of_getElem? (i := 4) rfl)
  have hi6 : ∀ w ∈ wsX60, w ∈ vs_c_hit := fun w h => List.mem_cons_of_mem _ (List.mem_append_right _ (List.mem_append_right _ (List.mem_append_right _ (List.mem_append_left _ h))))
  have lf47 := hts (.fieldLink RX0 47 "KerbSplash$Car" "rowThere" "I") (List.mem_of_getElem? (i := 5) rfl)
  have gg_3 : GoodIn vs_c_hit (vs_s_held) := goodIn_sub (fun w h => List.mem_cons_of_mem _ (List.mem_append_right _ (List.mem_append_right _ (List.mem_append_right _ (List.mem_append_right _ (List.mem_append_left _ h)))))) gd_s_held
  have ini_RX11 := hts (.initialized RX11) (List.mem_of_getElem? (i := 6) rfl)
  have st_X11_held := hts (.static yX11_held) (List.mem_of_getElem? (i := 7) rfl)
  have gg_4 : GoodIn vs_c_hit (vs_s_isSheltered) := goodIn_sub (fun w h => List.mem_cons_of_mem _ (List.mem_append_right _ (List.mem_append_right _ (List.mem_append_right _ (List.mem_append_right _ (List.mem_append_right _ (List.mem_append_left _ h))))))) gd_s_isSheltered
  have ini_RX6 := hts (.initialized RX6) (List.mem_of_getElem? (i := 8) rfl)
  have im_X6_isSheltered := hts (.instanceMethod yX6_isSheltered) (List.mem_of_getElem? (i := 9) rfl)
  have se_X6_isSheltered := hts (.selects RX6 yX6_isSheltered yX6_isSheltered) (List.mem_of_getElem? (i := 10) rfl)
  refine lv_aload_n hx hb dX0_hit_0 rfl (lv_at hlv 2 rfl) ?_
  refine lv_iconst (v := iI 1) hx hb dX0_hit_1 (by decide) ?_
  refine lv_aload_n hx hb dX0_hit_2 rfl (lv_at hlv 0 rfl) ?_
  refine va_get (D := D) (ci := 0) (v := vR na) (C := RX0) (T := TX0) (N := 7) hx hb hts hi0 hown hG.1 hP 0 rfl rfl 0 (by decide) lf9 (fun _ h9 => h9) rfl dX0_hit_3 ?_
  refine cjr_i [true, false, true, true, true, false, false, false, false] (fun pre9 => (va_runVN (host := "KerbSplash") (As := [vI 1, vR na]) (rest := []) ⟨hx, hb, hml, hown, hts⟩ (w_value l hl D cy sa la l0 l2 l3 na size st sf vf nf 1 s.heap.size (by first | exact hr_size | omega) (by show (0 : Int) ≤ 1 ∧ (1 : Int) ≤ 4; decide) hst) ⟨va_cnB 2 hts gg_1 rfl rfl rfl (nM_Car_37 hG.2.1) ini_RX1 (by decide +kernel) ⟨Nat.le_of_ble_eq_true rfl, Nat.le_of_ble_eq_true rfl⟩, im_X1_value, se_X1_value⟩ ⟨pcW.blind, (va_recv hG.1 hP (ci := 1) (q0 := 5) rfl rfl), pre9⟩ rfl rfl hlv.1 rfl (lv_room (Nat.le_of_ble_eq_true rfl)) dX0_hit_6 ⟨Nat.le_of_ble_eq_true rfl, Nat.le_of_ble_eq_true rfl⟩)) hP hD hS hA hG hT [5, 6, 7, 8, 1] rfl (by decide +kernel) (fun r1 u1 H locs hw1 hq9 hS => ?_)
  obtain ⟨rfl, hq1_1, hq1_2⟩ := hw1
  obtain ⟨hP, hD⟩ := pd9 [zO ca 0 [vR na, vI crow, vI cpace, vI ctyre, vI ckind, vI crt, vI cpt], zO sA 6 [vI wi, vI ro, vR s2, vR s3, vI dr, vI dt, vR s6, vI pe, vR s8, vI gu, vI sh, vR s11, vI wo, vR s13, vI dn, vI mi, vI fl, vI tk, vI go], zI s8 (cy 0) 112 pf, zI s11 (cy 0) 4 shf, zO la 1 [vR l0, vI size, vR l2, vR l3], zI l0 (cy 0) 600 st, zI l2 (cy 0) 5 sf, zI l3 (cy 0) 40 (u1.2.2 0), zI na (cy 0) 7 nf] hq9
  refine lv_istore (lv' := [(4, vI (u1.2.1 0)), (0, vR ca), (1, vR sA), (2, vR la), (3, vI x)]) hx hb dX0_hit_9 hlv (by decide) rfl (fun ls hlv => ?_)
  refine jn (α := (Nat → Int32)) (fun a H locs g => ∃ ls : Array Slot, g = F0 m 31 ls [] ∧ va_P D vwCl [zO ca 0 [vR na, vI crow, vI cpace, vI ctyre, vI ckind, vI crt, vI cpt], zO sA 6 [vI wi, vI ro, vR s2, vR s3, vI dr, vI dt, vR s6, vI pe, vR s8, vI gu, vI sh, vR s11, vI wo, vR s13, vI dn, vI mi, vI fl, vI tk, vI go], zI s8 (cy 0) 112 pf, zI s11 (cy 0) 4 shf, zO la 1 [vR l0, vI size, vR l2, vR l3], zI l0 (cy 0) 600 st, zI l2 (cy 0) 5 sf, zI l3 (cy 0) 40 (u1.2.2 0), zI na (cy 0) 7 (a)] H ∧ va_D A [zO ca 0 [vR na, vI crow, vI cpace, vI ctyre, vI ckind, vI crt, vI cpt], zO sA 6 [vI wi, vI ro, vR s2, vR s3, vI dr, vI dt, vR s6, vI pe, vR s8, vI gu, vI sh, vR s11, vI wo, vR s13, vI dn, vI mi, vI fl, vI tk, vI go], zI s8 (cy 0) 112 pf, zI s11 (cy 0) 4 shf, zO la 1 [vR l0, vI size, vR l2, vR l3], zI l0 (cy 0) 600 st, zI l2 (cy 0) 5 sf, zI l3 (cy 0) 40 (u1.2.2 0), zI na (cy 0) 7 (a)] ∧ va_S A s.heap H locs ∧ lv_has ls 10 [(4, vI (u1.2.1 0)), (0, vR ca), (1, vR sA), (2, vR la), (3, vI x)]) (fun a H locs g hj => ?_) (fun jn31 => ?_)
  · obtain ⟨ls, rfl, hP, hD, hS, hlv⟩ := hj
    obtain ⟨jn_, rfl⟩ : ∃ z, z = a := ⟨_, rfl⟩
    have hP : va_P D vwCl [zO ca 0 [vR na, vI crow, vI cpace, vI ctyre, vI ckind, vI crt, vI cpt], zO sA 6 [vI wi, vI ro, vR s2, vR s3, vI dr, vI dt, vR s6, vI pe, vR s8, vI gu, vI sh, vR s11, vI wo, vR s13, vI dn, vI mi, vI fl, vI tk, vI go], zI s8 (cy 0) 112 pf, zI s11 (cy 0) 4 shf, zO la 1 [vR l0, vI size, vR l2, vR l3], zI l0 (cy 0) 600 st, zI l2 (cy 0) 5 sf, zI l3 (cy 0) 40 (u1.2.2 0), zI na (cy 0) 7 jn_] H := hP
    have hD : va_D A [zO ca 0 [vR na, vI crow, vI cpace, vI ctyre, vI ckind, vI crt, vI cpt], zO sA 6 [vI wi, vI ro, vR s2, vR s3, vI dr, vI dt, vR s6, vI pe, vR s8, vI gu, vI sh, vR s11, vI wo, vR s13, vI dn, vI mi, vI fl, vI tk, vI go], zI s8 (cy 0) 112 pf, zI s11 (cy 0) 4 shf, zO la 1 [vR l0, vI size, vR l2, vR l3], zI l0 (cy 0) 600 st, zI l2 (cy 0) 5 sf, zI l3 (cy 0) 40 (u1.2.2 0), zI na (cy 0) 7 jn_] := hD
    have hlv : lv_has ls 10 [(4, vI (u1.2.1 0)), (0, vR ca), (1, vR sA), (2, vR la), (3, vI x)] := hlv
    refine lv_iconst (v := iI 0) hx hb dX0_hit_31 (by decide) ?_
    refine lv_istore (lv' := [(5, vI 0), (4, vI (u1.2.1 0)), (0, vR ca), (1, vR sA), (2, vR la), (3, vI x)]) hx hb dX0_hit_32 hlv (by decide) rfl (fun ls hlv => ?_)
    refine lv_iconst (v := iI 0) hx hb dX0_hit_34 (by decide) ?_
    refine lv_istore (lv' := [(6, vI 0), (5, vI 0), (4, vI (u1.2.1 0)), (0, vR ca), (1, vR sA), (2, vR la), (3, vI x)]) hx hb dX0_hit_35 hlv (by decide) rfl (fun ls hlv => ?_)
    refine (?_ : ∀ (fu : Nat) (q5 : Int) (q6 : Int) (ng : Nat → Int32) (pg : Nat → Int32) (vg : Nat → Int32) (H : Heap) (locs : List Loc) (ls : Array Slot), 28 - q6 < (fu : Int) → ((-2147483648) ≤ q5 ∧ q5 ≤ 2147483647) → (0 ≤ q6 ∧ q6 ≤ 28) → (q6 ≤ pe + gu) → tab_ 4 28 [xl, 0, (-2147483648), (-2147483648)] [xh, 19, 2147483647, 2147483647] pg → va_P D vwCl [zO ca 0 [vR na, vI crow, vI cpace, vI ctyre, vI ckind, vI crt, vI cpt], zO sA 6 [vI wi, vI ro, vR s2, vR s3, vI dr, vI dt, vR s6, vI pe, vR s8, vI gu, vI sh, vR s11, vI wo, vR s13, vI dn, vI mi, vI fl, vI tk, vI go], zI s8 (cy 0) 112 pg, zI s11 (cy 0) 4 shf, zO la 1 [vR l0, vI size, vR l2, vR l3], zI l0 (cy 0) 600 st, zI l2 (cy 0) 5 sf, zI l3 (cy 0) 40 vg, zI na (cy 0) 7 ng] H → va_D A [zO ca 0 [vR na, vI crow, vI cpace, vI ctyre, vI ckind, vI crt, vI cpt], zO sA 6 [vI wi, vI ro, vR s2, vR s3, vI dr, vI dt, vR s6, vI pe, vR s8, vI gu, vI sh, vR s11, vI wo, vR s13, vI dn, vI mi, vI fl, vI tk, vI go], zI s8 (cy 0) 112 pg, zI s11 (cy 0) 4 shf, zO la 1 [vR l0, vI size, vR l2, vR l3], zI l0 (cy 0) 600 st, zI l2 (cy 0) 5 sf, zI l3 (cy 0) 40 vg, zI na (cy 0) 7 ng] → va_S A s.heap H locs → lv_has ls 10 [(6, vI q6), (5, vI q5), (4, vI (u1.2.1 0)), (0, vR ca), (1, vR sA), (2, vR la), (3, vI x)] → W p l e _ s m _ below meth c H locs _ _ _ (F0 m 37 ls [])) (((28 - 0) + 1 : Int)).toNat 0 0 jn_ pf (u1.2.2 0) _ _ _ (by omega) (by show ((-2147483648) : Int) ≤ 0 ∧ (0 : Int) ≤ 2147483647; decide) (by show (0 : Int) ≤ 0 ∧ (0 : Int) ≤ 28; decide) (by omega) hpf hP hD hS hlv
    clear hP hD hS hlv
    intro fu
    induction fu with
    | zero => intro q5 q6 ng pg vg H locs ls hm37 hl37_0 hl37_1 hl37_2 hipg hP hD hS hlv; omega
    | succ fu ih37 =>
      intro q5 q6 ng pg vg H locs ls hm37 hl37_0 hl37_1 hl37_2 hipg hP hD hS hlv
      refine lv_iload hx hb dX0_hit_37 (lv_at hlv 0 rfl) ?_
      refine lv_aload_n hx hb dX0_hit_39 rfl (lv_at hlv 4 rfl) ?_
      refine va_getN (D := D) (ci := 6) (v := vI pe) (C := RX6) (T := TX6) (N := 19) hx hb hts hi6 hown hG.1 hP 1 rfl rfl 7 (by decide) (va_Nw.use rfl (nF_Car_83 hG.2.1)) (fun _ h9 => h9) rfl dX0_hit_40 ?_
      refine lv_aload_n hx hb dX0_hit_43 rfl (lv_at hlv 4 rfl) ?_
      refine va_getN (D := D) (ci := 6) (v := vI gu) (C := RX6) (T := TX6) (N := 19) hx hb hts hi6 hown hG.1 hP 1 rfl rfl 9 (by decide) (va_Nw.use rfl (nF_Car_86 hG.2.1)) (fun _ h9 => h9) rfl dX0_hit_44 ?_
      refine lv_iadd hx hb dX0_hit_47 ?_
      refine lt_e (e0 := pe + gu) (Int32.ofInt_add _ _).symm (fun z_1 hz_1 => ?_)
      refine ir_ge (tgt := 157) hx hb dX0_hit_48 (by decide) (by first | exact rgw hl37_1 (by decide) (by decide) | omega) (by omega) (fun c_2 => ?_) (fun c_2 => ?_)
      · refine lv_iload hx hb dX0_hit_157 (lv_at hlv 1 rfl) ?_
        refine W.widen (k := 0) (n := 0) (Nat.le_of_ble_eq_true rfl) (Nat.le_of_ble_eq_true rfl) ?_
        exact W.iret (v := iI q5) hx hb hr (fun t ht hW => ⟨⟨iI q5, ((fun k => ([] : List Nat).getD k 0), (fun k => ([q5] : List Int).getD k 0), (fun k => ([ng, vg, pg] : List (Nat → Int32)).getD k (fun _ => 0))), rfl, ⟨rfl, (by show ((-2147483648) ≤ q5 ∧ q5 ≤ 2147483647); first | exact hl37_0 | omega), hipg, hq1_2⟩, at9 ht hP hD [0, 8, 1, 2, 3, 4, 5, 6, 7] (by decide +kernel) rfl⟩, hS.F ht⟩) hS.2.2 dX0_hit_159
      · refine lv_iconst (v := iI 4) hx hb dX0_hit_51 (by decide) ?_
        refine lv_iload hx hb dX0_hit_52 (lv_at hlv 0 rfl) ?_
        refine lv_imul hx hb dX0_hit_54 ?_
        refine lt_e (e0 := 4 * q6) (Int32.ofInt_mul _ _).symm (fun z_3 hz_3 => ?_)
        refine lv_istore (lv' := [(7, vI z_3), (6, vI q6), (5, vI q5), (4, vI (u1.2.1 0)), (0, vR ca), (1, vR sA), (2, vR la), (3, vI x)]) hx hb dX0_hit_55 hlv (by decide) rfl (fun ls hlv => ?_)
        refine lv_aload_n hx hb dX0_hit_57 rfl (lv_at hlv 5 rfl) ?_
        refine va_getN (D := D) (ci := 6) (v := vR s8) (C := RX6) (T := TX6) (N := 19) hx hb hts hi6 hown hG.1 hP 1 rfl rfl 8 (by decide) (va_Nw.use rfl (nF_Car_89 hG.2.1)) (fun _ h9 => h9) rfl dX0_hit_58 ?_
        refine lv_iload hx hb dX0_hit_61 (lv_at hlv 0 rfl) ?_
        refine lv_iconst (v := iI 1) hx hb dX0_hit_63 (by decide) ?_
        refine lv_iadd hx hb dX0_hit_64 ?_
        refine lt_e (e0 := z_3 + 1) (Int32.ofInt_add _ _).symm (fun z_4 hz_4 => ?_)
        refine va_iald hx hb hG.1 hP 2 0 rfl rfl (iI_in (by omega) (by decide)) dX0_hit_65 ?_
        obtain ⟨z_5, ez_5, hz_5, lz_5⟩ := tab_rd hipg (e := z_4) (k := q6) (c := 1) (a := 0) (b := 19) (by omega) (by omega) (by decide) (by omega) rfl rfl
        refine lt_i (y := iI z_5) ez_5 ?_
        refine lv_aload_n hx hb dX0_hit_66 rfl (lv_at hlv 4 rfl) ?_
        refine va_get (D := D) (ci := 0) (v := vI crt) (C := RX0) (T := TX0) (N := 7) hx hb hts hi0 hown hG.1 hP 0 rfl rfl 5 (by decide) lf47 (fun _ h9 => h9) rfl dX0_hit_67 ?_
        refine lv_iadd hx hb dX0_hit_70 ?_
        refine lt_e (e0 := z_5 + crt) (Int32.ofInt_add _ _).symm (fun z_6 hz_6 => ?_)
        refine lv_istore (lv' := [(8, vI z_6), (7, vI z_3), (6, vI q6), (5, vI q5), (4, vI (u1.2.1 0)), (0, vR ca), (1, vR sA), (2, vR la), (3, vI x)]) hx hb dX0_hit_71 hlv (by decide) rfl (fun ls hlv => ?_)
        refine lv_aload_n hx hb dX0_hit_73 rfl (lv_at hlv 6 rfl) ?_
        refine va_getN (D := D) (ci := 6) (v := vR s8) (C := RX6) (T := TX6) (N := 19) hx hb hts hi6 hown hG.1 hP 1 rfl rfl 8 (by decide) (va_Nw.use rfl (nF_Car_89 hG.2.1)) (fun _ h9 => h9) rfl dX0_hit_74 ?_
        refine lv_iload hx hb dX0_hit_77 (lv_at hlv 1 rfl) ?_
        refine va_iald hx hb hG.1 hP 2 0 rfl rfl (iI_in (by omega) (by decide)) dX0_hit_79 ?_
        obtain ⟨z_7, ez_7, hz_7, lz_7⟩ := tab_rd hipg (e := z_3) (k := q6) (c := 0) (a := xl) (b := xh) (by omega) (by omega) (by decide) (by omega) rfl rfl
        refine lt_i (y := iI z_7) ez_7 ?_
        refine lv_iload_n hx hb dX0_hit_80 rfl (lv_at hlv 8 rfl) ?_
        refine ir_ne (tgt := 151) hx hb dX0_hit_81 (by decide) (by first | exact hz_7 | omega) (by first | exact rgw hr_x (by decide) (by decide) | omega) (fun c_8 => ?_) (fun c_8 => ?_)
        · obtain ⟨z_9, hz_9⟩ : ∃ z : Int, z = q6 + 1 := ⟨_, rfl⟩
          refine lv_iinc (v := iI z_9) (lv' := [(6, vI z_9), (8, vI z_6), (7, vI z_3), (5, vI q5), (4, vI (u1.2.1 0)), (0, vR ca), (1, vR sA), (2, vR la), (3, vI x)]) hx hb dX0_hit_151 hlv (k := 2) rfl (by rw [hz_9]; exact (Int32.ofInt_add _ _).symm) (by decide) rfl (fun ls hlv => ?_)
          refine lv_goto (tgt := 37) hx hb dX0_hit_154 (by decide) ?_
          exact ih37 q5 z_9 ng pg vg H locs ls (by omega) (by first | exact hl37_0 | omega) (by omega) (by omega) hipg (hP.sub [0, 1, 2, 3, 4, 5, 6, 7, 8] rfl) (hD.sub [0, 1, 2, 3, 4, 5, 6, 7, 8] (by decide) rfl) hS (lv_sub hlv [0, 3, 4, 5, 6, 7, 8] rfl)
        · refine lv_iload hx hb dX0_hit_84 (lv_at hlv 0 rfl) ?_
          refine lv_iload hx hb dX0_hit_86 (lv_at hlv 4 rfl) ?_
          refine ir_ge (tgt := 151) hx hb dX0_hit_88 (by decide) (by omega) (by first | exact hq1_1 | omega) (fun c_10 => ?_) (fun c_10 => ?_)
          · obtain ⟨z_11, hz_11⟩ : ∃ z : Int, z = q6 + 1 := ⟨_, rfl⟩
            refine lv_iinc (v := iI z_11) (lv' := [(6, vI z_11), (8, vI z_6), (7, vI z_3), (5, vI q5), (4, vI (u1.2.1 0)), (0, vR ca), (1, vR sA), (2, vR la), (3, vI x)]) hx hb dX0_hit_151 hlv (k := 2) rfl (by rw [hz_11]; exact (Int32.ofInt_add _ _).symm) (by decide) rfl (fun ls hlv => ?_)
            refine lv_goto (tgt := 37) hx hb dX0_hit_154 (by decide) ?_
            exact ih37 q5 z_11 ng pg vg H locs ls (by omega) (by first | exact hl37_0 | omega) (by omega) (by omega) hipg (hP.sub [0, 1, 2, 3, 4, 5, 6, 7, 8] rfl) (hD.sub [0, 1, 2, 3, 4, 5, 6, 7, 8] (by decide) rfl) hS (lv_sub hlv [0, 3, 4, 5, 6, 7, 8] rfl)
          · refine lv_aload_n hx hb dX0_hit_91 rfl (lv_at hlv 5 rfl) ?_
            refine va_get (D := D) (ci := 0) (v := vR na) (C := RX0) (T := TX0) (N := 7) hx hb hts hi0 hown hG.1 hP 0 rfl rfl 0 (by decide) lf9 (fun _ h9 => h9) rfl dX0_hit_92 ?_
            refine lv_iconst (v := iI 4) hx hb dX0_hit_95 (by decide) ?_
            refine lv_iload hx hb dX0_hit_96 (lv_at hlv 0 rfl) ?_
            refine va_iast hx hb hG.1 hP hD hS 8 0 rfl rfl (iI_in (by omega) (by decide)) dX0_hit_98 (fun H locs hP hD hS => ?_)
            obtain ⟨f_12, hP, hD⟩ := pe9 (fun f_12 => [zO ca 0 [vR na, vI crow, vI cpace, vI ctyre, vI ckind, vI crt, vI cpt], zO sA 6 [vI wi, vI ro, vR s2, vR s3, vI dr, vI dt, vR s6, vI pe, vR s8, vI gu, vI sh, vR s11, vI wo, vR s13, vI dn, vI mi, vI fl, vI tk, vI go], zI s8 (cy 0) 112 pg, zI s11 (cy 0) 4 shf, zO la 1 [vR l0, vI size, vR l2, vR l3], zI l0 (cy 0) 600 st, zI l2 (cy 0) 5 sf, zI l3 (cy 0) 40 vg, zI na (cy 0) 7 f_12]) _ hP hD
            refine lv_aload_n hx hb dX0_hit_99 rfl (lv_at hlv 7 rfl) ?_
            refine lv_iconst (v := iI 2) hx hb dX0_hit_100 (by decide) ?_
            refine lv_aload_n hx hb dX0_hit_101 rfl (lv_at hlv 5 rfl) ?_
            refine va_get (D := D) (ci := 0) (v := vR na) (C := RX0) (T := TX0) (N := 7) hx hb hts hi0 hown hG.1 hP 0 rfl rfl 0 (by decide) lf9 (fun _ h9 => h9) rfl dX0_hit_102 ?_
            refine cjr_i [true, true, true, true, false, false, false, false, false] (fun pre9 => (va_runVN (host := "KerbSplash") (As := [vI 2, vR na]) (rest := []) ⟨hx, hb, hml, hown, hts⟩ (w_value l hl D cy sa la l0 l2 l3 na size st sf vg f_12 2 H.size (by first | exact hr_size | omega) (by show (0 : Int) ≤ 2 ∧ (2 : Int) ≤ 4; decide) hq1_2) ⟨va_cnB 2 hts gg_1 rfl rfl rfl (nM_Car_37 hG.2.1) ini_RX1 (by decide +kernel) ⟨Nat.le_of_ble_eq_true rfl, Nat.le_of_ble_eq_true rfl⟩, im_X1_value, se_X1_value⟩ ⟨pcW.blind, (va_recv hG.1 hP (ci := 1) (q0 := 4) rfl rfl), pre9⟩ rfl rfl hlv.1 rfl (lv_room (Nat.le_of_ble_eq_true rfl)) dX0_hit_105 ⟨Nat.le_of_ble_eq_true rfl, Nat.le_of_ble_eq_true rfl⟩)) hP hD hS hA hG hT [4, 5, 6, 7, 8] rfl (by decide +kernel) (fun r2 u2 H locs hw2 hq9 hS => ?_)
            obtain ⟨rfl, hq2_1, hq2_2⟩ := hw2
            obtain ⟨hP, hD⟩ := pd9 [zO ca 0 [vR na, vI crow, vI cpace, vI ctyre, vI ckind, vI crt, vI cpt], zO sA 6 [vI wi, vI ro, vR s2, vR s3, vI dr, vI dt, vR s6, vI pe, vR s8, vI gu, vI sh, vR s11, vI wo, vR s13, vI dn, vI mi, vI fl, vI tk, vI go], zI s8 (cy 0) 112 pg, zI s11 (cy 0) 4 shf, zO la 1 [vR l0, vI size, vR l2, vR l3], zI l0 (cy 0) 600 st, zI l2 (cy 0) 5 sf, zI l3 (cy 0) 40 (u2.2.2 0), zI na (cy 0) 7 f_12] hq9
            refine lv_i2l (v := jJ (u2.2.1 0)) hx hb dX0_hit_108 (jJ_i (by omega)) ?_
            refine lv_iconst (v := iI 0) hx hb dX0_hit_109 (by decide) ?_
            refine lv_bipush (v := iI 99) hx hb dX0_hit_110 (by decide) ?_
            refine cjr_i [true, true, true, true, true, true, true, true, true] (fun pre9 => (va_runSN (host := "KerbSplash") (As := [vJ (u2.2.1 0), vI 0, vI 99]) (rest := []) ⟨hx, hb, hml, hown, hts⟩ (s_held l hl D cy sa (u2.2.1 0) 0 99 H.size (by first | exact rgw hq2_1 (by decide) (by decide) | omega) (by show ((-2147483648) : Int) ≤ 0 ∧ (0 : Int) ≤ 2147483647; decide) (by show ((-2147483648) : Int) ≤ 99 ∧ (99 : Int) ≤ 2147483647; decide)) ⟨va_cnB 3 hts gg_3 rfl rfl rfl (nM_Car_41 hG.2.1) ini_RX11 (by decide +kernel) ⟨Nat.le_of_ble_eq_true rfl, Nat.le_of_ble_eq_true rfl⟩, st_X11_held, trivial⟩ ⟨pcW.blind, pre9⟩ rfl rfl hlv.1 rfl (lv_room (Nat.le_of_ble_eq_true rfl)) dX0_hit_112 ⟨Nat.le_of_ble_eq_true rfl, Nat.le_of_ble_eq_true rfl⟩)) hP hD hS hA hG hT [] rfl (by decide +kernel) (fun r3 u3 H locs hw3 hq9 hS => ?_)
            obtain ⟨rfl, hq3_1, hq3_2⟩ := hw3
            obtain ⟨hP, hD⟩ := pd9 [zO ca 0 [vR na, vI crow, vI cpace, vI ctyre, vI ckind, vI crt, vI cpt], zO sA 6 [vI wi, vI ro, vR s2, vR s3, vI dr, vI dt, vR s6, vI pe, vR s8, vI gu, vI sh, vR s11, vI wo, vR s13, vI dn, vI mi, vI fl, vI tk, vI go], zI s8 (cy 0) 112 pg, zI s11 (cy 0) 4 shf, zO la 1 [vR l0, vI size, vR l2, vR l3], zI l0 (cy 0) 600 st, zI l2 (cy 0) 5 sf, zI l3 (cy 0) 40 (u2.2.2 0), zI na (cy 0) 7 f_12] hq9
            refine lv_istore (lv' := [(9, vI (u3.2.1 0)), (8, vI z_6), (7, vI z_3), (6, vI q6), (5, vI q5), (4, vI (u1.2.1 0)), (0, vR ca), (1, vR sA), (2, vR la), (3, vI x)]) hx hb dX0_hit_115 hlv (by decide) rfl (fun ls hlv => ?_)
            refine lv_aload_n hx hb dX0_hit_117 rfl (lv_at hlv 7 rfl) ?_
            refine va_getN (D := D) (ci := 6) (v := vR s8) (C := RX6) (T := TX6) (N := 19) hx hb hts hi6 hown hG.1 hP 1 rfl rfl 8 (by decide) (va_Nw.use rfl (nF_Car_89 hG.2.1)) (fun _ h9 => h9) rfl dX0_hit_118 ?_
            refine lv_iload hx hb dX0_hit_121 (lv_at hlv 2 rfl) ?_
            refine lv_iconst (v := iI 2) hx hb dX0_hit_123 (by decide) ?_
            refine lv_iadd hx hb dX0_hit_124 ?_
            refine lt_e (e0 := z_3 + 2) (Int32.ofInt_add _ _).symm (fun z_13 hz_13 => ?_)
            refine lv_dup2_11 hx hb dX0_hit_125 rfl rfl ?_
            refine va_iald hx hb hG.1 hP 2 0 rfl rfl (iI_in (by omega) (by decide)) dX0_hit_126 ?_
            obtain ⟨z_14, ez_14, hz_14, lz_14⟩ := tab_rd hipg (e := z_13) (k := q6) (c := 2) (a := (-2147483648)) (b := 2147483647) (by omega) (by omega) (by decide) (by omega) rfl rfl
            refine lt_i (y := iI z_14) ez_14 ?_
            refine lv_iload hx hb dX0_hit_127 (lv_at hlv 0 rfl) ?_
            refine lv_iadd hx hb dX0_hit_129 ?_
            refine lt_z (fun z_15 ez_15 lz_15 hz_15 => ?_)
            refine va_iast hx hb hG.1 hP hD hS 2 0 rfl rfl (iI_in (by omega) (by decide)) dX0_hit_130 (fun H locs hP hD hS => ?_)
            obtain ⟨f_16, hf_16, hP, hD⟩ := pe9i (fun f_16 => tab_ 4 28 [xl, 0, (-2147483648), (-2147483648)] [xh, 19, 2147483647, 2147483647] f_16) (fun f_16 => [zO ca 0 [vR na, vI crow, vI cpace, vI ctyre, vI ckind, vI crt, vI cpt], zO sA 6 [vI wi, vI ro, vR s2, vR s3, vI dr, vI dt, vR s6, vI pe, vR s8, vI gu, vI sh, vR s11, vI wo, vR s13, vI dn, vI mi, vI fl, vI tk, vI go], zI s8 (cy 0) 112 f_16, zI s11 (cy 0) 4 shf, zO la 1 [vR l0, vI size, vR l2, vR l3], zI l0 (cy 0) 600 st, zI l2 (cy 0) 5 sf, zI l3 (cy 0) 40 (u2.2.2 0), zI na (cy 0) 7 f_12]) (tab_wr hipg (e := z_13) (k := q6) (c := 2) (a := (-2147483648)) (b := 2147483647) (by omega) (by omega) (by decide) (by omega) rfl rfl (by omega)) hP hD
            refine lv_aload_n hx hb dX0_hit_131 rfl (lv_at hlv 7 rfl) ?_
            refine va_getN (D := D) (ci := 6) (v := vR s8) (C := RX6) (T := TX6) (N := 19) hx hb hts hi6 hown hG.1 hP 1 rfl rfl 8 (by decide) (va_Nw.use rfl (nF_Car_89 hG.2.1)) (fun _ h9 => h9) rfl dX0_hit_132 ?_
            refine lv_iload hx hb dX0_hit_135 (lv_at hlv 2 rfl) ?_
            refine lv_iconst (v := iI 3) hx hb dX0_hit_137 (by decide) ?_
            refine lv_iadd hx hb dX0_hit_138 ?_
            refine lt_e (e0 := z_3 + 3) (Int32.ofInt_add _ _).symm (fun z_17 hz_17 => ?_)
            refine lv_dup2_11 hx hb dX0_hit_139 rfl rfl ?_
            refine va_iald hx hb hG.1 hP 2 0 rfl rfl (iI_in (by omega) (by decide)) dX0_hit_140 ?_
            obtain ⟨z_18, ez_18, hz_18, lz_18⟩ := tab_rd hf_16 (e := z_17) (k := q6) (c := 3) (a := (-2147483648)) (b := 2147483647) (by omega) (by omega) (by decide) (by omega) rfl rfl
            refine lt_i (y := iI z_18) ez_18 ?_
            refine lv_iconst (v := iI 1) hx hb dX0_hit_141 (by decide) ?_
            refine lv_iadd hx hb dX0_hit_142 ?_
            refine lt_z (fun z_19 ez_19 lz_19 hz_19 => ?_)
            refine va_iast hx hb hG.1 hP hD hS 2 0 rfl rfl (iI_in (by omega) (by decide)) dX0_hit_143 (fun H locs hP hD hS => ?_)
            obtain ⟨f_20, hf_20, hP, hD⟩ := pe9i (fun f_20 => tab_ 4 28 [xl, 0, (-2147483648), (-2147483648)] [xh, 19, 2147483647, 2147483647] f_20) (fun f_20 => [zO ca 0 [vR na, vI crow, vI cpace, vI ctyre, vI ckind, vI crt, vI cpt], zO sA 6 [vI wi, vI ro, vR s2, vR s3, vI dr, vI dt, vR s6, vI pe, vR s8, vI gu, vI sh, vR s11, vI wo, vR s13, vI dn, vI mi, vI fl, vI tk, vI go], zI s8 (cy 0) 112 f_20, zI s11 (cy 0) 4 shf, zO la 1 [vR l0, vI size, vR l2, vR l3], zI l0 (cy 0) 600 st, zI l2 (cy 0) 5 sf, zI l3 (cy 0) 40 (u2.2.2 0), zI na (cy 0) 7 f_12]) (tab_wr hf_16 (e := z_17) (k := q6) (c := 3) (a := (-2147483648)) (b := 2147483647) (by omega) (by omega) (by decide) (by omega) rfl rfl (by omega)) hP hD
            refine lv_iload hx hb dX0_hit_144 (lv_at hlv 4 rfl) ?_
            refine lv_iload hx hb dX0_hit_146 (lv_at hlv 0 rfl) ?_
            refine lv_iadd hx hb dX0_hit_148 ?_
            refine lt_z (fun z_21 ez_21 lz_21 hz_21 => ?_)
            refine lv_istore (lv' := [(5, vI z_21), (9, vI (u3.2.1 0)), (8, vI z_6), (7, vI z_3), (6, vI q6), (4, vI (u1.2.1 0)), (0, vR ca), (1, vR sA), (2, vR la), (3, vI x)]) hx hb dX0_hit_149 hlv (by decide) rfl (fun ls hlv => ?_)
            obtain ⟨z_22, hz_22⟩ : ∃ z : Int, z = q6 + 1 := ⟨_, rfl⟩
            refine lv_iinc (v := iI z_22) (lv' := [(6, vI z_22), (5, vI z_21), (9, vI (u3.2.1 0)), (8, vI z_6), (7, vI z_3), (4, vI (u1.2.1 0)), (0, vR ca), (1, vR sA), (2, vR la), (3, vI x)]) hx hb dX0_hit_151 hlv (k := 4) rfl (by rw [hz_22]; exact (Int32.ofInt_add _ _).symm) (by decide) rfl (fun ls hlv => ?_)
            refine lv_goto (tgt := 37) hx hb dX0_hit_154 (by decide) ?_
            exact ih37 z_21 z_22 f_12 f_20 (u2.2.2 0) H locs ls (by omega) (by omega) (by omega) (by omega) hf_20 (hP.sub [0, 1, 2, 3, 4, 5, 6, 7, 8] rfl) (hD.sub [0, 1, 2, 3, 4, 5, 6, 7, 8] (by decide) rfl) hS (lv_sub hlv [0, 1, 5, 6, 7, 8, 9] rfl)
  · refine lv_aload_n hx hb dX0_hit_11 rfl (lv_at hlv 1 rfl) ?_
    refine va_get (D := D) (ci := 0) (v := vR na) (C := RX0) (T := TX0) (N := 7) hx hb hts hi0 hown hG.1 hP 0 rfl rfl 0 (by decide) lf9 (fun _ h9 => h9) rfl dX0_hit_12 ?_
    refine lv_bipush (v := iI 6) hx hb dX0_hit_15 (by decide) ?_
    refine lv_aload_n hx hb dX0_hit_17 rfl (lv_at hlv 2 rfl) ?_
    refine lv_iload_n hx hb dX0_hit_18 rfl (lv_at hlv 4 rfl) ?_
    refine cjr_i [true, false, true, false, true, true, true, true, true] (fun pre9 => (va_runVN (host := "KerbSplash") (As := [vI x]) (rest := [vI 6, vR na]) ⟨hx, hb, hml, hown, hts⟩ (s_isSheltered l hl D cy sa sA s2 s3 s6 s8 s11 s13 wi ro dr dt pe gu sh wo dn mi fl tk go shf x H.size (by first | exact hr_wi | omega) (by first | exact hr_ro | omega) (by first | exact hr_dr | omega) (by first | exact hr_dt | omega) (by first | exact hr_pe | omega) (by first | exact hr_gu | omega) (by first | exact hr_sh | omega) (by first | exact hr_wo | omega) (by first | exact hr_dn | omega) (by first | exact hr_mi | omega) (by first | exact hr_fl | omega) (by first | exact hr_tk | omega) (by first | exact hr_go | omega) (by first | exact rgw hr_x (by decide) (by decide) | omega)) ⟨va_cnB 1 hts gg_4 rfl rfl rfl (nM_Car_79 hG.2.1) ini_RX6 (by decide +kernel) ⟨Nat.le_of_ble_eq_true rfl, Nat.le_of_ble_eq_true rfl⟩, im_X6_isSheltered, se_X6_isSheltered⟩ ⟨pcW.blind, (va_recv hG.1 hP (ci := 6) (q0 := 1) rfl rfl), pre9⟩ rfl rfl hlv.1 rfl (lv_room (Nat.le_of_ble_eq_true rfl)) dX0_hit_19 ⟨Nat.le_of_ble_eq_true rfl, Nat.le_of_ble_eq_true rfl⟩)) hP hD hS hA hG hT [1, 3] rfl (by decide +kernel) (fun r4 u4 H locs hw4 hq9 hS => ?_)
    obtain ⟨rfl, hq4_1⟩ := hw4
    obtain ⟨hP, hD⟩ := pd9 [zO ca 0 [vR na, vI crow, vI cpace, vI ctyre, vI ckind, vI crt, vI cpt], zI s8 (cy 0) 112 pf, zO la 1 [vR l0, vI size, vR l2, vR l3], zI l0 (cy 0) 600 st, zI l2 (cy 0) 5 sf, zI l3 (cy 0) 40 (u1.2.2 0), zI na (cy 0) 7 nf, zO sA 6 [vI wi, vI ro, vR s2, vR s3, vI dr, vI dt, vR s6, vI pe, vR s8, vI gu, vI sh, vR s11, vI wo, vR s13, vI dn, vI mi, vI fl, vI tk, vI go], zI s11 (cy 0) 4 shf] hq9
    refine iz_eq (tgt := 29) hx hb dX0_hit_22 (by decide) (by first | exact rgw hq4_1 (by decide) (by decide) | omega) (fun c_23 => ?_) (fun c_23 => ?_)
    · refine lv_iconst (v := iI 0) hx hb dX0_hit_29 (by decide) ?_
      refine va_iast hx hb hG.1 hP hD hS 6 0 rfl rfl (iI_in (by omega) (by decide)) dX0_hit_30 (fun H locs hP hD hS => ?_)
      obtain ⟨f_24, hP, hD⟩ := pe9 (fun f_24 => [zO ca 0 [vR na, vI crow, vI cpace, vI ctyre, vI ckind, vI crt, vI cpt], zI s8 (cy 0) 112 pf, zO la 1 [vR l0, vI size, vR l2, vR l3], zI l0 (cy 0) 600 st, zI l2 (cy 0) 5 sf, zI l3 (cy 0) 40 (u1.2.2 0), zI na (cy 0) 7 f_24, zO sA 6 [vI wi, vI ro, vR s2, vR s3, vI dr, vI dt, vR s6, vI pe, vR s8, vI gu, vI sh, vR s11, vI wo, vR s13, vI dn, vI mi, vI fl, vI tk, vI go], zI s11 (cy 0) 4 shf]) _ hP hD
      exact jn31 f_24 _ _ _ ⟨_, rfl, hP.sub [0, 7, 1, 8, 2, 3, 4, 5, 6] rfl, hD.sub [0, 7, 1, 8, 2, 3, 4, 5, 6] (by decide) rfl, hS, lv_sub hlv [0, 1, 2, 3, 4] rfl⟩
    · refine lv_iconst (v := iI 1) hx hb dX0_hit_25 (by decide) ?_
      refine lv_goto (tgt := 30) hx hb dX0_hit_26 (by decide) ?_
      refine va_iast hx hb hG.1 hP hD hS 6 0 rfl rfl (iI_in (by omega) (by decide)) dX0_hit_30 (fun H locs hP hD hS => ?_)
      obtain ⟨f_25, hP, hD⟩ := pe9 (fun f_25 => [zO ca 0 [vR na, vI crow, vI cpace, vI ctyre, vI ckind, vI crt, vI cpt], zI s8 (cy 0) 112 pf, zO la 1 [vR l0, vI size, vR l2, vR l3], zI l0 (cy 0) 600 st, zI l2 (cy 0) 5 sf, zI l3 (cy 0) 40 (u1.2.2 0), zI na (cy 0) 7 f_25, zO sA 6 [vI wi, vI ro, vR s2, vR s3, vI dr, vI dt, vR s6, vI pe, vR s8, vI gu, vI sh, vR s11, vI wo, vR s13, vI dn, vI mi, vI fl, vI tk, vI go], zI s11 (cy 0) 4 shf]) _ hP hD
      exact jn31 f_25 _ _ _ ⟨_, rfl, hP.sub [0, 7, 1, 8, 2, 3, 4, 5, 6] rfl, hD.sub [0, 7, 1, 8, 2, 3, 4, 5, 6] (by decide) rfl, hS, lv_sub hlv [0, 1, 2, 3, 4] rfl⟩
def vs_c_drive : List Cond := .code yX0_drive cX0_drive 7 (some .int) :: (([.fieldLink RX0 9 "KerbSplash$Car" "names" "[I", .initialized RX1, .instanceMethod yX1_value, .selects RX1 yX1_value yX1_value, .initialized RX11, .static yX11_held, .fieldLink RX0 47 "KerbSplash$Car" "rowThere" "I", .initialized RX6, .instanceMethod yX6_throwFrom, .selects RX6 yX6_throwFrom yX6_throwFrom] : List Cond) ++ ((wsX60) ++ ((wsV RX0 33 RX0 yX0_come vs_c_come) ++ ((wsX00) ++ ((vs_w_value) ++ ((vs_s_held) ++ ((vs_s_throwFrom) ++ ((wsV RX0 54 RX0 yX0_hit vs_c_hit) ++ ([])))))))))
theorem gd_c_drive : vs_c_drive.all goodWord = true := gd_C (by decide +kernel) (gd_A (by decide +kernel) (gd_A (by decide +kernel) (gd_A (gd_V gd_c_come (by decide +kernel)) (gd_A (by decide +kernel) (gd_A gd_w_value (gd_A gd_s_held (gd_A gd_s_throwFrom (gd_A (gd_V gd_c_hit (by decide +kernel)) rfl))))))))
set_option maxHeartbeats 4000000 in
set_option maxRecDepth 100000 in
theorem c_drive (l : Launch) (hl : l.stackTraces = false) (D : va_G) (cy : Nat → ClassId) (sa : Nat → Nat) (ca na : Nat) (crow cpace ctyre ckind crt cpt : Int) (sA s2 s3 s6 s8 s11 s13 : Nat) (wi ro dr dt pe gu sh wo dn mi fl tk go : Int) (xl xh : Int) (nf wf pf shf : Nat → Int32) (la l0 l2 l3 : Nat) (size : Int) (st sf vf : Nat → Int32) (sz : Nat) (hr_crow : 0 ≤ crow ∧ crow ≤ 5) (hr_cpace : (-2147483648) ≤ cpace ∧ cpace ≤ 2147483647) (hr_ctyre : (-2147483648) ≤ ctyre ∧ ctyre ≤ 2147483647) (hr_ckind : (-2147483648) ≤ ckind ∧ ckind ≤ 2147483647) (hr_crt : 0 ≤ crt ∧ crt ≤ 5) (hr_cpt : (-2147483648) ≤ cpt ∧ cpt ≤ 2147483647) (hr_wi : 0 ≤ wi ∧ wi ≤ 16) (hr_ro : 1 ≤ ro ∧ ro ≤ 6) (hr_dr : 0 ≤ dr ∧ dr ≤ 14) (hr_dt : 0 ≤ dt ∧ dt ≤ 6) (hr_pe : 0 ≤ pe ∧ pe ≤ 8) (hr_gu : 0 ≤ gu ∧ gu ≤ 20) (hr_sh : 0 ≤ sh ∧ sh ≤ 2) (hr_wo : 0 ≤ wo ∧ wo ≤ 8) (hr_dn : (-2147483648) ≤ dn ∧ dn ≤ 2147483647) (hr_mi : 0 ≤ mi ∧ mi ≤ 600) (hr_fl : (-2147483648) ≤ fl ∧ fl ≤ 2147483647) (hr_tk : (-2147483648) ≤ tk ∧ tk ≤ 2147483647) (hr_go : (-2147483648) ≤ go ∧ go ≤ 2147483647) (hr_xl : (-2147483648) ≤ xl ∧ xl ≤ 0) (hr_xh : 15 ≤ xh ∧ xh ≤ 2147483647) (hr_size : 0 ≤ size ∧ size ≤ 600) (hpf : tab_ 4 28 [xl, 0, (-2147483648), (-2147483648)] [xh, 19, 2147483647, 2147483647] pf) (hst : inv_ 600 0 2147483647 st) : mI9 l yX0_drive vs_c_drive ({ frames := 3, cells := 0, slots := 0, locals := 78 }) D cy sa sz [vR ca, vR sA, vR la] [zO ca 0 [vR na, vI crow, vI cpace, vI ctyre, vI ckind, vI crt, vI cpt], zI na (cy 0) 7 nf, zO sA 6 [vI wi, vI ro, vR s2, vR s3, vI dr, vI dt, vR s6, vI pe, vR s8, vI gu, vI sh, vR s11, vI wo, vR s13, vI dn, vI mi, vI fl, vI tk, vI go], zI s3 (cy 0) 96 wf, zI s8 (cy 0) 112 pf, zI s11 (cy 0) 4 shf, zO la 1 [vR l0, vI size, vR l2, vR l3], zI l0 (cy 0) 600 st, zI l2 (cy 0) 5 sf, zI l3 (cy 0) 40 vf] (fun (r : Int32) (u : SV) => r = iI (u.2.1 0) ∧ ((-2147483648) ≤ u.2.1 0 ∧ u.2.1 0 ≤ 2147483647) ∧ (0 ≤ u.2.1 1 ∧ u.2.1 1 ≤ 5) ∧ ((-2147483648) ≤ u.2.1 2 ∧ u.2.1 2 ≤ 2147483647) ∧ ((-2147483648) ≤ u.2.1 3 ∧ u.2.1 3 ≤ 2147483647) ∧ tab_ 4 28 [xl, 0, (-2147483648), (-2147483648)] [xh, 19, 2147483647, 2147483647] (u.2.2 3) ∧ inv_ 600 0 2147483647 st) (fun u : SV => [zO ca 0 [vR na, vI crow, vI cpace, vI ctyre, vI ckind, vI (u.2.1 1), vI (u.2.1 2)], zI na (cy 0) 7 (u.2.2 0), zO sA 6 [vI wi, vI ro, vR s2, vR s3, vI dr, vI dt, vR s6, vI pe, vR s8, vI gu, vI sh, vR s11, vI wo, vR s13, vI dn, vI mi, vI fl, vI tk, vI (u.2.1 3)], zI s3 (cy 0) 96 (u.2.2 2), zI s8 (cy 0) 112 (u.2.2 3), zI s11 (cy 0) 4 shf, zO la 1 [vR l0, vI size, vR l2, vR l3], zI l0 (cy 0) 600 st, zI l2 (cy 0) 5 sf, zI l3 (cy 0) 40 (u.2.2 1)]) 0 0 := by
  refine Met.ofW (cc := cX0_drive) (maxL := 7) (ret := (some .int)) (by decide) rfl ?_
  intro p e s m args below meth c s₁ B hml hv
  obtain ⟨rfl, hsz, hP, hG, hD0, hT⟩ := hv
  have hx := B.exec
  have hb := B.bytes
  have hr := B.returns
  have hts := atoms_spec (ws := vs_c_drive) B.pre
  have hown : s.vm.findClass RX0 = some m.cls := findClass_of_methodNamed B.named
  have hlocks := B.notSynchronized
  subst hsz
  have hD := hD0.self (sz := s.heap.size)
  generalize hAe : va_A [zO ca 0 [vR na, vI crow, vI cpace, vI ctyre, vI ckind, vI crt, vI cpt], zI na (cy 0) 7 nf, zO sA 6 [vI wi, vI ro, vR s2, vR s3, vI dr, vI dt, vR s6, vI pe, vR s8, vI gu, vI sh, vR s11, vI wo, vR s13, vI dn, vI mi, vI fl, vI tk, vI go], zI s3 (cy 0) 96 wf, zI s8 (cy 0) 112 pf, zI s11 (cy 0) 4 shf, zO la 1 [vR l0, vI size, vR l2, vR l3], zI l0 (cy 0) 600 st, zI l2 (cy 0) 5 sf, zI l3 (cy 0) 40 vf] s.heap.size = A at hD hT ⊢
  have hA : ∀ q : Nat, s.heap.size ≤ q → A q := fun q h => by rw [← hAe]; exact Or.inr h
  have hS : va_S A s.heap s.heap [] := va_S.rf
  have hl0 := lv_entry ([vR ca, vR sA, vR la]) (n := 7) (Nat.le_of_ble_eq_true rfl)
  rw [lg_entry_eq]
  generalize (lg_sl ([vR ca, vR sA, vR la]) ++ List.replicate (7 - (lg_sl ([vR ca, vR sA, vR la])).length) Slot.unset).toArray = ls at hl0 ⊢
  have hlv : lv_has ls 7 [(0, vR ca), (1, vR sA), (2, vR la)] := hl0
  have hi6 : ∀ w ∈ wsX60, w ∈ vs_c_drive := fun w h => List.mem_cons_of_mem _ (List.mem_append_right _ (List.mem_append_left _ h))
  have gg_1 : GoodIn vs_c_drive (wsV RX0 33 RX0 yX0_come vs_c_come) := goodIn_sub (fun w h => List.mem_cons_of_mem _ (List.mem_append_right _ (List.mem_append_right _ (List.mem_append_left _ h)))) (gd_V gd_c_come (by decide +kernel))
  have lf9 := hts (.fieldLink RX0 9 "KerbSplash$Car" "names" "[I") (List.mem_of_getElem? (i := 1) rfl)
  have hi0 : ∀ w ∈ wsX00, w ∈ vs_c_drive := fun w h => List.mem_cons_of_mem _ (List.mem_append_right _ (List.mem_append_right _ (List.mem_append_right _ (List.mem_append_left _ h))))
  have gg_3 : GoodIn vs_c_drive (vs_w_value) := goodIn_sub (fun w h => List.mem_cons_of_mem _ (List.mem_append_right _ (List.mem_append_right _ (List.mem_append_right _ (List.mem_append_right _ (List.mem_append_left _ h)))))) gd_w_value
  have ini_RX1 := hts (.initialized RX1) (List.mem_of_getElem? (i := 2) rfl)
  have im_X1_value := hts (.instanceMethod yX1_value) (List.mem_of_getElem? (i := 3) rfl)
  have se_X1_value := hts (.selects RX1 yX1_value yX1_value) (List.mem_of_getElem? (i := 4) rfl)
  have gg_4 : GoodIn vs_c_drive (vs_s_held) := goodIn_sub (fun w h => List.mem_cons_of_mem _ (List.mem_append_right _ (List.mem_append_right _ (List.mem_append_right _ (List.mem_append_right _ (List.mem_append_right _ (List.mem_append_left _ h))))))) gd_s_held
  have ini_RX11 := hts (.initialized RX11) (List.mem_of_getElem? (i := 5) rfl)
  have st_X11_held := hts (.static yX11_held) (List.mem_of_getElem? (i := 6) rfl)
  have lf47 := hts (.fieldLink RX0 47 "KerbSplash$Car" "rowThere" "I") (List.mem_of_getElem? (i := 7) rfl)
  have gg_5 : GoodIn vs_c_drive (vs_s_throwFrom) := goodIn_sub (fun w h => List.mem_cons_of_mem _ (List.mem_append_right _ (List.mem_append_right _ (List.mem_append_right _ (List.mem_append_right _ (List.mem_append_right _ (List.mem_append_right _ (List.mem_append_left _ h)))))))) gd_s_throwFrom
  have ini_RX6 := hts (.initialized RX6) (List.mem_of_getElem? (i := 8) rfl)
  have im_X6_throwFrom := hts (.instanceMethod yX6_throwFrom) (List.mem_of_getElem? (i := 9) rfl)
  have se_X6_throwFrom := hts (.selects RX6 yX6_throwFrom yX6_throwFrom) (List.mem_of_getElem? (i := 10) rfl)
  have gg_6 : GoodIn vs_c_drive (wsV RX0 54 RX0 yX0_hit vs_c_hit) := goodIn_sub (fun w h => List.mem_cons_of_mem _ (List.mem_append_right _ (List.mem_append_right _ (List.mem_append_right _ (List.mem_append_right _ (List.mem_append_right _ (List.mem_append_right _ (List.mem_append_right _ (List.mem_append_left _ h))))))))) (gd_V gd_c_hit (by decide +kernel))
  refine lv_iconst (v := iI 0) hx hb dX0_drive_0 (by decide) ?_
  refine lv_istore_n (lv' := [(3, vI 0), (0, vR ca), (1, vR sA), (2, vR la)]) hx hb dX0_drive_1 rfl hlv (by decide) rfl (fun ls hlv => ?_)
  refine lv_iconst (v := iI 0) hx hb dX0_drive_2 (by decide) ?_
  refine lv_istore (lv' := [(4, vI 0), (3, vI 0), (0, vR ca), (1, vR sA), (2, vR la)]) hx hb dX0_drive_3 hlv (by decide) rfl (fun ls hlv => ?_)
  refine (?_ : ∀ (fu : Nat) (q3 : Int) (q4 : Int) (qr : Int) (qp : Int) (qg : Int) (ng : Nat → Int32) (wg : Nat → Int32) (pg : Nat → Int32) (vg : Nat → Int32) (H : Heap) (locs : List Loc) (ls : Array Slot), 16 - q4 < (fu : Int) → ((-2147483648) ≤ q3 ∧ q3 ≤ 2147483647) → (0 ≤ q4 ∧ q4 ≤ 16) → (0 ≤ qr ∧ qr ≤ 5) → ((-2147483648) ≤ qp ∧ qp ≤ 2147483647) → ((-2147483648) ≤ qg ∧ qg ≤ 2147483647) → (q4 ≤ wi) → tab_ 4 28 [xl, 0, (-2147483648), (-2147483648)] [xh, 19, 2147483647, 2147483647] pg → va_P D vwCl [zO ca 0 [vR na, vI crow, vI cpace, vI ctyre, vI ckind, vI qr, vI qp], zI na (cy 0) 7 ng, zO sA 6 [vI wi, vI ro, vR s2, vR s3, vI dr, vI dt, vR s6, vI pe, vR s8, vI gu, vI sh, vR s11, vI wo, vR s13, vI dn, vI mi, vI fl, vI tk, vI qg], zI s3 (cy 0) 96 wg, zI s8 (cy 0) 112 pg, zI s11 (cy 0) 4 shf, zO la 1 [vR l0, vI size, vR l2, vR l3], zI l0 (cy 0) 600 st, zI l2 (cy 0) 5 sf, zI l3 (cy 0) 40 vg] H → va_D A [zO ca 0 [vR na, vI crow, vI cpace, vI ctyre, vI ckind, vI qr, vI qp], zI na (cy 0) 7 ng, zO sA 6 [vI wi, vI ro, vR s2, vR s3, vI dr, vI dt, vR s6, vI pe, vR s8, vI gu, vI sh, vR s11, vI wo, vR s13, vI dn, vI mi, vI fl, vI tk, vI qg], zI s3 (cy 0) 96 wg, zI s8 (cy 0) 112 pg, zI s11 (cy 0) 4 shf, zO la 1 [vR l0, vI size, vR l2, vR l3], zI l0 (cy 0) 600 st, zI l2 (cy 0) 5 sf, zI l3 (cy 0) 40 vg] → va_S A s.heap H locs → lv_has ls 7 [(4, vI q4), (3, vI q3), (0, vR ca), (1, vR sA), (2, vR la)] → W p l e _ s m _ below meth c H locs _ _ _ (F0 m 5 ls [])) (((16 - 0) + 1 : Int)).toNat 0 0 crt cpt go nf wf pf vf _ _ _ (by omega) (by show ((-2147483648) : Int) ≤ 0 ∧ (0 : Int) ≤ 2147483647; decide) (by show (0 : Int) ≤ 0 ∧ (0 : Int) ≤ 16; decide) (by first | exact hr_crt | omega) (by first | exact hr_cpt | omega) (by first | exact hr_go | omega) (by omega) hpf hP hD hS hlv
  clear hP hD hS hlv
  intro fu
  induction fu with
  | zero => intro q3 q4 qr qp qg ng wg pg vg H locs ls hm5 hl5_0 hl5_1 hl5_2 hl5_3 hl5_4 hl5_5 hipg hP hD hS hlv; omega
  | succ fu ih5 =>
    intro q3 q4 qr qp qg ng wg pg vg H locs ls hm5 hl5_0 hl5_1 hl5_2 hl5_3 hl5_4 hl5_5 hipg hP hD hS hlv
    refine lv_iload hx hb dX0_drive_5 (lv_at hlv 0 rfl) ?_
    refine lv_aload_n hx hb dX0_drive_7 rfl (lv_at hlv 3 rfl) ?_
    refine va_getN (D := D) (ci := 6) (v := vI wi) (C := RX6) (T := TX6) (N := 19) hx hb hts hi6 hown hG.1 hP 2 rfl rfl 0 (by decide) (va_Nw.use rfl (nF_Car_28 hG.2.1)) (fun _ h9 => h9) rfl dX0_drive_8 ?_
    refine ir_ge (tgt := 88) hx hb dX0_drive_11 (by decide) (by first | exact rgw hl5_1 (by decide) (by decide) | omega) (by first | exact rgw hr_wi (by decide) (by decide) | omega) (fun c_1 => ?_) (fun c_1 => ?_)
    · refine lv_iload_n hx hb dX0_drive_88 rfl (lv_at hlv 1 rfl) ?_
      refine W.widen (k := 0) (n := 0) (Nat.le_of_ble_eq_true rfl) (Nat.le_of_ble_eq_true rfl) ?_
      exact W.iret (v := iI q3) hx hb hr (fun t ht hW => ⟨⟨iI q3, ((fun k => ([] : List Nat).getD k 0), (fun k => ([q3, qr, qp, qg] : List Int).getD k 0), (fun k => ([ng, vg, wg, pg] : List (Nat → Int32)).getD k (fun _ => 0))), rfl, ⟨rfl, (by show ((-2147483648) ≤ q3 ∧ q3 ≤ 2147483647); first | exact hl5_0 | omega), (by show (0 ≤ qr ∧ qr ≤ 5); first | exact hl5_2 | omega), (by show ((-2147483648) ≤ qp ∧ qp ≤ 2147483647); first | exact hl5_3 | omega), (by show ((-2147483648) ≤ qg ∧ qg ≤ 2147483647); first | exact hl5_4 | omega), hipg, hst⟩, at9 ht hP hD [0, 1, 2, 3, 4, 5, 6, 7, 8, 9] (by decide +kernel) rfl⟩, hS.F ht⟩) hS.2.2 dX0_drive_89
    · refine lv_aload_n hx hb dX0_drive_14 rfl (lv_at hlv 2 rfl) ?_
      refine lv_aload_n hx hb dX0_drive_15 rfl (lv_at hlv 3 rfl) ?_
      refine lv_aload_n hx hb dX0_drive_16 rfl (lv_at hlv 4 rfl) ?_
      refine lv_iload hx hb dX0_drive_17 (lv_at hlv 0 rfl) ?_
      refine cjr_v [false, false, false, false, false, true, false, false, false, false] (fun pre9 => (va_runV (As := [vR sA, vR la, vI q4]) (rest := []) ⟨hx, hb, hml, hown, hts⟩ (c_come l hl D cy sa ca na crow cpace ctyre ckind qr qp sA s2 s3 s6 s8 s11 s13 wi ro dr dt pe gu sh wo dn mi fl tk qg xl xh ng wg pg la l0 l2 l3 size st sf vg q4 H.size (by first | exact hr_crow | omega) (by first | exact hr_cpace | omega) (by first | exact hr_ctyre | omega) (by first | exact hr_ckind | omega) (by first | exact hl5_2 | omega) (by first | exact hl5_3 | omega) (by first | exact hr_wi | omega) (by first | exact hr_ro | omega) (by first | exact hr_dr | omega) (by first | exact hr_dt | omega) (by first | exact hr_pe | omega) (by first | exact hr_gu | omega) (by first | exact hr_sh | omega) (by first | exact hr_wo | omega) (by first | exact hr_dn | omega) (by first | exact hr_mi | omega) (by first | exact hr_fl | omega) (by first | exact hr_tk | omega) (by first | exact hl5_4 | omega) (by first | exact hr_xl | omega) (by first | exact hr_xh | omega) (by first | exact hr_size | omega) (by omega) hipg hst) (cwV 3 hts gg_1 rfl rfl rfl (by decide +kernel) ⟨Nat.le_of_ble_eq_true rfl, Nat.le_of_ble_eq_true rfl⟩) ⟨pcW.blind, (va_recv hG.1 hP (ci := 0) (q0 := 0) rfl rfl), pre9⟩ rfl rfl hlv.1 rfl (lv_room (Nat.le_of_ble_eq_true rfl)) dX0_drive_19 ⟨Nat.le_of_ble_eq_true rfl, Nat.le_of_ble_eq_true rfl⟩)) hP hD hS hA hG hT [0, 1, 2, 3, 4, 6, 7, 8, 9] rfl (by decide +kernel) (fun u1 H locs hw1 hq9 hS => ?_)
      obtain ⟨hq1_0, hq1_1, hq1_2, hq1_3⟩ := hw1
      obtain ⟨hP, hD⟩ := pd9 [zI s11 (cy 0) 4 shf, zO ca 0 [vR na, vI crow, vI cpace, vI ctyre, vI ckind, vI (u1.2.1 0), vI (u1.2.1 1)], zI na (cy 0) 7 (u1.2.2 0), zO sA 6 [vI wi, vI ro, vR s2, vR s3, vI dr, vI dt, vR s6, vI pe, vR s8, vI gu, vI sh, vR s11, vI wo, vR s13, vI dn, vI mi, vI fl, vI tk, vI qg], zI s3 (cy 0) 96 wg, zI s8 (cy 0) 112 pg, zO la 1 [vR l0, vI size, vR l2, vR l3], zI l0 (cy 0) 600 st, zI l2 (cy 0) 5 sf, zI l3 (cy 0) 40 (u1.2.2 1)] hq9
      refine lv_aload_n hx hb dX0_drive_22 rfl (lv_at hlv 4 rfl) ?_
      refine lv_iconst (v := iI 0) hx hb dX0_drive_23 (by decide) ?_
      refine lv_aload_n hx hb dX0_drive_24 rfl (lv_at hlv 2 rfl) ?_
      refine va_get (D := D) (ci := 0) (v := vR na) (C := RX0) (T := TX0) (N := 7) hx hb hts hi0 hown hG.1 hP 1 rfl rfl 0 (by decide) lf9 (fun _ h9 => h9) rfl dX0_drive_25 ?_
      refine cjr_i [true, true, false, true, true, true, false, false, false, false] (fun pre9 => (va_runVN (host := "KerbSplash") (As := [vI 0, vR na]) (rest := []) ⟨hx, hb, hml, hown, hts⟩ (w_value l hl D cy sa la l0 l2 l3 na size st sf (u1.2.2 1) (u1.2.2 0) 0 H.size (by first | exact hr_size | omega) (by show (0 : Int) ≤ 0 ∧ (0 : Int) ≤ 4; decide) hq1_3) ⟨va_cnB 2 hts gg_3 rfl rfl rfl (nM_Car_37 hG.2.1) ini_RX1 (by decide +kernel) ⟨Nat.le_of_ble_eq_true rfl, Nat.le_of_ble_eq_true rfl⟩, im_X1_value, se_X1_value⟩ ⟨pcW.blind, (va_recv hG.1 hP (ci := 1) (q0 := 6) rfl rfl), pre9⟩ rfl rfl hlv.1 rfl (lv_room (Nat.le_of_ble_eq_true rfl)) dX0_drive_28 ⟨Nat.le_of_ble_eq_true rfl, Nat.le_of_ble_eq_true rfl⟩)) hP hD hS hA hG hT [6, 7, 8, 9, 2] rfl (by decide +kernel) (fun r2 u2 H locs hw2 hq9 hS => ?_)
      obtain ⟨rfl, hq2_1, hq2_2⟩ := hw2
      obtain ⟨hP, hD⟩ := pd9 [zI s11 (cy 0) 4 shf, zO ca 0 [vR na, vI crow, vI cpace, vI ctyre, vI ckind, vI (u1.2.1 0), vI (u1.2.1 1)], zO sA 6 [vI wi, vI ro, vR s2, vR s3, vI dr, vI dt, vR s6, vI pe, vR s8, vI gu, vI sh, vR s11, vI wo, vR s13, vI dn, vI mi, vI fl, vI tk, vI qg], zI s3 (cy 0) 96 wg, zI s8 (cy 0) 112 pg, zO la 1 [vR l0, vI size, vR l2, vR l3], zI l0 (cy 0) 600 st, zI l2 (cy 0) 5 sf, zI l3 (cy 0) 40 (u2.2.2 0), zI na (cy 0) 7 (u1.2.2 0)] hq9
      refine lv_i2l (v := jJ (u2.2.1 0)) hx hb dX0_drive_31 (jJ_i (by omega)) ?_
      refine lv_iconst (v := iI 0) hx hb dX0_drive_32 (by decide) ?_
      refine lv_bipush (v := iI 16) hx hb dX0_drive_33 (by decide) ?_
      refine cjr_i [true, true, true, true, true, true, true, true, true, true] (fun pre9 => (va_runSN (host := "KerbSplash") (As := [vJ (u2.2.1 0), vI 0, vI 16]) (rest := []) ⟨hx, hb, hml, hown, hts⟩ (s_held l hl D cy sa (u2.2.1 0) 0 16 H.size (by first | exact rgw hq2_1 (by decide) (by decide) | omega) (by show ((-2147483648) : Int) ≤ 0 ∧ (0 : Int) ≤ 2147483647; decide) (by show ((-2147483648) : Int) ≤ 16 ∧ (16 : Int) ≤ 2147483647; decide)) ⟨va_cnB 3 hts gg_4 rfl rfl rfl (nM_Car_41 hG.2.1) ini_RX11 (by decide +kernel) ⟨Nat.le_of_ble_eq_true rfl, Nat.le_of_ble_eq_true rfl⟩, st_X11_held, trivial⟩ ⟨pcW.blind, pre9⟩ rfl rfl hlv.1 rfl (lv_room (Nat.le_of_ble_eq_true rfl)) dX0_drive_35 ⟨Nat.le_of_ble_eq_true rfl, Nat.le_of_ble_eq_true rfl⟩)) hP hD hS hA hG hT [] rfl (by decide +kernel) (fun r3 u3 H locs hw3 hq9 hS => ?_)
      obtain ⟨rfl, hq3_1, hq3_2⟩ := hw3
      obtain ⟨hP, hD⟩ := pd9 [zI s11 (cy 0) 4 shf, zO ca 0 [vR na, vI crow, vI cpace, vI ctyre, vI ckind, vI (u1.2.1 0), vI (u1.2.1 1)], zO sA 6 [vI wi, vI ro, vR s2, vR s3, vI dr, vI dt, vR s6, vI pe, vR s8, vI gu, vI sh, vR s11, vI wo, vR s13, vI dn, vI mi, vI fl, vI tk, vI qg], zI s3 (cy 0) 96 wg, zI s8 (cy 0) 112 pg, zO la 1 [vR l0, vI size, vR l2, vR l3], zI l0 (cy 0) 600 st, zI l2 (cy 0) 5 sf, zI l3 (cy 0) 40 (u2.2.2 0), zI na (cy 0) 7 (u1.2.2 0)] hq9
      refine lv_istore (lv' := [(5, vI (u3.2.1 0)), (4, vI q4), (3, vI q3), (0, vR ca), (1, vR sA), (2, vR la)]) hx hb dX0_drive_38 hlv (by decide) rfl (fun ls hlv => ?_)
      refine lv_aload_n hx hb dX0_drive_40 rfl (lv_at hlv 3 rfl) ?_
      refine va_get (D := D) (ci := 0) (v := vR na) (C := RX0) (T := TX0) (N := 7) hx hb hts hi0 hown hG.1 hP 1 rfl rfl 0 (by decide) lf9 (fun _ h9 => h9) rfl dX0_drive_41 ?_
      refine lv_iconst (v := iI 0) hx hb dX0_drive_44 (by decide) ?_
      refine va_iald hx hb hG.1 hP 9 0 rfl rfl (iI_in (by omega) (by decide)) dX0_drive_45 ?_
      refine lt_z (fun z_2 ez_2 lz_2 hz_2 => ?_)
      refine lv_iload hx hb dX0_drive_46 (lv_at hlv 0 rfl) ?_
      refine lv_imul hx hb dX0_drive_48 ?_
      refine lt_z (fun z_3 ez_3 lz_3 hz_3 => ?_)
      refine lv_bipush (v := iI 16) hx hb dX0_drive_49 (by decide) ?_
      refine lv_idiv hx hb dX0_drive_51 (fun q => absurd ((iI_eq (a := 16) (b := 0) (by omega) (by omega)).mp q) (by omega)) ?_
      refine lt_z (fun z_4 ez_4 lz_4 hz_4 => ?_)
      refine lv_istore (lv' := [(6, vI z_4), (5, vI (u3.2.1 0)), (4, vI q4), (3, vI q3), (0, vR ca), (1, vR sA), (2, vR la)]) hx hb dX0_drive_52 hlv (by decide) rfl (fun ls hlv => ?_)
      refine lv_iload hx hb dX0_drive_54 (lv_at hlv 0 rfl) ?_
      refine iz_le (tgt := 82) hx hb dX0_drive_56 (by decide) (by omega) (fun c_5 => ?_) (fun c_5 => ?_)
      · obtain ⟨z_6, hz_6⟩ : ∃ z : Int, z = q4 + 1 := ⟨_, rfl⟩
        refine lv_iinc (v := iI z_6) (lv' := [(4, vI z_6), (6, vI z_4), (5, vI (u3.2.1 0)), (3, vI q3), (0, vR ca), (1, vR sA), (2, vR la)]) hx hb dX0_drive_82 hlv (k := 2) rfl (by rw [hz_6]; exact (Int32.ofInt_add _ _).symm) (by decide) rfl (fun ls hlv => ?_)
        refine lv_goto (tgt := 5) hx hb dX0_drive_85 (by decide) ?_
        exact ih5 q3 z_6 (u1.2.1 0) (u1.2.1 1) qg (u1.2.2 0) wg pg (u2.2.2 0) H locs ls (by omega) (by first | exact hl5_0 | omega) (by omega) (by first | exact hq1_0 | omega) (by first | exact hq1_1 | omega) (by first | exact hl5_4 | omega) (by omega) hq1_2 (hP.sub [1, 9, 2, 3, 4, 0, 5, 6, 7, 8] rfl) (hD.sub [1, 9, 2, 3, 4, 0, 5, 6, 7, 8] (by decide) rfl) hS (lv_sub hlv [0, 3, 4, 5, 6] rfl)
      · refine lv_aload_n hx hb dX0_drive_59 rfl (lv_at hlv 5 rfl) ?_
        refine lv_iload hx hb dX0_drive_60 (lv_at hlv 2 rfl) ?_
        refine lv_aload_n hx hb dX0_drive_62 rfl (lv_at hlv 4 rfl) ?_
        refine va_get (D := D) (ci := 0) (v := vI (u1.2.1 0)) (C := RX0) (T := TX0) (N := 7) hx hb hts hi0 hown hG.1 hP 1 rfl rfl 5 (by decide) lf47 (fun _ h9 => h9) rfl dX0_drive_63 ?_
        refine lv_iload hx hb dX0_drive_66 (lv_at hlv 0 rfl) ?_
        refine cjr_v [true, true, false, false, true, true, true, true, true, true] (fun pre9 => (va_runVN (host := "KerbSplash") (As := [vI q4, vI (u1.2.1 0), vI z_4]) (rest := []) ⟨hx, hb, hml, hown, hts⟩ (s_throwFrom l hl D cy sa sA s2 s3 s6 s8 s11 s13 wi ro dr dt pe gu sh wo dn mi fl tk qg wg q4 (u1.2.1 0) z_4 H.size (by first | exact hr_wi | omega) (by first | exact rgw hr_ro (by decide) (by decide) | omega) (by first | exact hr_dr | omega) (by first | exact hr_dt | omega) (by first | exact hr_pe | omega) (by first | exact hr_gu | omega) (by first | exact hr_sh | omega) (by first | exact hr_wo | omega) (by first | exact hr_dn | omega) (by first | exact hr_mi | omega) (by first | exact hr_fl | omega) (by first | exact hr_tk | omega) (by first | exact hl5_4 | omega) (by omega) (by first | exact hq1_0 | omega) (by omega)) ⟨va_cnB 3 hts gg_5 rfl rfl rfl (nM_Car_50 hG.2.1) ini_RX6 (by decide +kernel) ⟨Nat.le_of_ble_eq_true rfl, Nat.le_of_ble_eq_true rfl⟩, im_X6_throwFrom, se_X6_throwFrom⟩ ⟨pcW.blind, (va_recv hG.1 hP (ci := 6) (q0 := 2) rfl rfl), pre9⟩ rfl rfl hlv.1 rfl (lv_room (Nat.le_of_ble_eq_true rfl)) dX0_drive_68 ⟨Nat.le_of_ble_eq_true rfl, Nat.le_of_ble_eq_true rfl⟩)) hP hD hS hA hG hT [2, 3] rfl (by decide +kernel) (fun u4 H locs hw4 hq9 hS => ?_)
        have hq4_0 : ((-2147483648) ≤ u4.2.1 0 ∧ u4.2.1 0 ≤ 2147483647) := hw4
        obtain ⟨hP, hD⟩ := pd9 [zI s11 (cy 0) 4 shf, zO ca 0 [vR na, vI crow, vI cpace, vI ctyre, vI ckind, vI (u1.2.1 0), vI (u1.2.1 1)], zI s8 (cy 0) 112 pg, zO la 1 [vR l0, vI size, vR l2, vR l3], zI l0 (cy 0) 600 st, zI l2 (cy 0) 5 sf, zI l3 (cy 0) 40 (u2.2.2 0), zI na (cy 0) 7 (u1.2.2 0), zO sA 6 [vI wi, vI ro, vR s2, vR s3, vI dr, vI dt, vR s6, vI pe, vR s8, vI gu, vI sh, vR s11, vI wo, vR s13, vI dn, vI mi, vI fl, vI tk, vI (u4.2.1 0)], zI s3 (cy 0) 96 (u4.2.2 0)] hq9
        refine lv_iload_n hx hb dX0_drive_71 rfl (lv_at hlv 3 rfl) ?_
        refine lv_aload_n hx hb dX0_drive_72 rfl (lv_at hlv 4 rfl) ?_
        refine lv_aload_n hx hb dX0_drive_73 rfl (lv_at hlv 5 rfl) ?_
        refine lv_aload_n hx hb dX0_drive_74 rfl (lv_at hlv 6 rfl) ?_
        refine lv_iload hx hb dX0_drive_75 (lv_at hlv 2 rfl) ?_
        refine cjr_i [false, false, false, false, false, false, false, false, false, true] (fun pre9 => (va_runV (As := [vR sA, vR la, vI q4]) (rest := [vI q3]) ⟨hx, hb, hml, hown, hts⟩ (c_hit l hl D cy sa ca na crow cpace ctyre ckind (u1.2.1 0) (u1.2.1 1) sA s2 s3 s6 s8 s11 s13 wi ro dr dt pe gu sh wo dn mi fl tk (u4.2.1 0) xl xh (u1.2.2 0) pg shf la l0 l2 l3 size st sf (u2.2.2 0) q4 H.size (by first | exact hr_crow | omega) (by first | exact hr_cpace | omega) (by first | exact hr_ctyre | omega) (by first | exact hr_ckind | omega) (by first | exact hq1_0 | omega) (by first | exact hq1_1 | omega) (by first | exact hr_wi | omega) (by first | exact rgw hr_ro (by decide) (by decide) | omega) (by first | exact hr_dr | omega) (by first | exact hr_dt | omega) (by first | exact hr_pe | omega) (by first | exact hr_gu | omega) (by first | exact hr_sh | omega) (by first | exact hr_wo | omega) (by first | exact hr_dn | omega) (by first | exact hr_mi | omega) (by first | exact hr_fl | omega) (by first | exact hr_tk | omega) (by first | exact hq4_0 | omega) (by first | exact hr_xl | omega) (by first | exact hr_xh | omega) (by first | exact hr_size | omega) (by omega) hq1_2 hq2_2) (cwV 3 hts gg_6 rfl rfl rfl (by decide +kernel) ⟨Nat.le_of_ble_eq_true rfl, Nat.le_of_ble_eq_true rfl⟩) ⟨pcW.blind, (va_recv hG.1 hP (ci := 0) (q0 := 1) rfl rfl), pre9⟩ rfl rfl hlv.1 rfl (lv_room (Nat.le_of_ble_eq_true rfl)) dX0_drive_77 ⟨Nat.le_of_ble_eq_true rfl, Nat.le_of_ble_eq_true rfl⟩)) hP hD hS hA hG hT [1, 7, 8, 2, 0, 3, 4, 5, 6] rfl (by decide +kernel) (fun r5 u5 H locs hw5 hq9 hS => ?_)
        obtain ⟨rfl, hq5_1, hq5_2, hq5_3⟩ := hw5
        obtain ⟨hP, hD⟩ := pd9 [zI s3 (cy 0) 96 (u4.2.2 0), zO ca 0 [vR na, vI crow, vI cpace, vI ctyre, vI ckind, vI (u1.2.1 0), vI (u1.2.1 1)], zI na (cy 0) 7 (u5.2.2 0), zO sA 6 [vI wi, vI ro, vR s2, vR s3, vI dr, vI dt, vR s6, vI pe, vR s8, vI gu, vI sh, vR s11, vI wo, vR s13, vI dn, vI mi, vI fl, vI tk, vI (u4.2.1 0)], zI s8 (cy 0) 112 (u5.2.2 2), zI s11 (cy 0) 4 shf, zO la 1 [vR l0, vI size, vR l2, vR l3], zI l0 (cy 0) 600 st, zI l2 (cy 0) 5 sf, zI l3 (cy 0) 40 (u5.2.2 1)] hq9
        refine lv_iadd hx hb dX0_drive_80 ?_
        refine lt_z (fun z_7 ez_7 lz_7 hz_7 => ?_)
        refine lv_istore_n (lv' := [(3, vI z_7), (6, vI z_4), (5, vI (u3.2.1 0)), (4, vI q4), (0, vR ca), (1, vR sA), (2, vR la)]) hx hb dX0_drive_81 rfl hlv (by decide) rfl (fun ls hlv => ?_)
        obtain ⟨z_8, hz_8⟩ : ∃ z : Int, z = q4 + 1 := ⟨_, rfl⟩
        refine lv_iinc (v := iI z_8) (lv' := [(4, vI z_8), (3, vI z_7), (6, vI z_4), (5, vI (u3.2.1 0)), (0, vR ca), (1, vR sA), (2, vR la)]) hx hb dX0_drive_82 hlv (k := 3) rfl (by rw [hz_8]; exact (Int32.ofInt_add _ _).symm) (by decide) rfl (fun ls hlv => ?_)
        refine lv_goto (tgt := 5) hx hb dX0_drive_85 (by decide) ?_
        exact ih5 z_7 z_8 (u1.2.1 0) (u1.2.1 1) (u4.2.1 0) (u5.2.2 0) (u4.2.2 0) (u5.2.2 2) (u5.2.2 1) H locs ls (by omega) (by omega) (by omega) (by first | exact hq1_0 | omega) (by first | exact hq1_1 | omega) (by first | exact hq4_0 | omega) (by omega) hq5_2 (hP.sub [1, 2, 3, 0, 4, 5, 6, 7, 8, 9] rfl) (hD.sub [1, 2, 3, 0, 4, 5, 6, 7, 8, 9] (by decide) rfl) hS (lv_sub hlv [0, 1, 4, 5, 6] rfl)
end
