theorem dX2_readSaying_0 : decode cX2_readSaying 0 = .ok (.aload_n 0, 1) := by decide +kernel
theorem dX2_readSaying_1 : decode cX2_readSaying 1 = .ok (.getfield 9, 3) := by decide +kernel
theorem dX2_readSaying_100 : decode cX2_readSaying 100 = .ok (.aload_n 0, 1) := by decide +kernel
theorem dX2_readSaying_101 : decode cX2_readSaying 101 = .ok (.getfield 15, 3) := by decide +kernel
theorem dX2_readSaying_104 : decode cX2_readSaying 104 = .ok (.bipush 13, 2) := by decide +kernel
theorem dX2_readSaying_106 : decode cX2_readSaying 106 = .ok (.iconst 0, 1) := by decide +kernel
theorem dX2_readSaying_107 : decode cX2_readSaying 107 = .ok (.invokevirtual 65, 3) := by decide +kernel
theorem dX2_readSaying_110 : decode cX2_readSaying 110 = .ok (.pop, 1) := by decide +kernel
theorem dX2_readSaying_111 : decode cX2_readSaying 111 = .ok (.return_, 1) := by decide +kernel
theorem dX2_readSaying_12 : decode cX2_readSaying 12 = .ok (.iconst (-1), 1) := by decide +kernel
theorem dX2_readSaying_13 : decode cX2_readSaying 13 = .ok (.if_icmp .ne 12, 3) := by decide +kernel
theorem dX2_readSaying_16 : decode cX2_readSaying 16 = .ok (.aload_n 0, 1) := by decide +kernel
theorem dX2_readSaying_17 : decode cX2_readSaying 17 = .ok (.getfield 9, 3) := by decide +kernel
theorem dX2_readSaying_20 : decode cX2_readSaying 20 = .ok (.iconst 1, 1) := by decide +kernel
theorem dX2_readSaying_21 : decode cX2_readSaying 21 = .ok (.invokevirtual 43, 3) := by decide +kernel
theorem dX2_readSaying_24 : decode cX2_readSaying 24 = .ok (.return_, 1) := by decide +kernel
theorem dX2_readSaying_25 : decode cX2_readSaying 25 = .ok (.aload_n 0, 1) := by decide +kernel
theorem dX2_readSaying_26 : decode cX2_readSaying 26 = .ok (.getfield 15, 3) := by decide +kernel
theorem dX2_readSaying_29 : decode cX2_readSaying 29 = .ok (.getfield 47, 3) := by decide +kernel
theorem dX2_readSaying_32 : decode cX2_readSaying 32 = .ok (.aload_n 1, 1) := by decide +kernel
theorem dX2_readSaying_33 : decode cX2_readSaying 33 = .ok (.getfield 37, 3) := by decide +kernel
theorem dX2_readSaying_36 : decode cX2_readSaying 36 = .ok (.iaload, 1) := by decide +kernel
theorem dX2_readSaying_37 : decode cX2_readSaying 37 = .ok (.iconst (-1), 1) := by decide +kernel
theorem dX2_readSaying_38 : decode cX2_readSaying 38 = .ok (.if_icmp .eq 12, 3) := by decide +kernel
theorem dX2_readSaying_4 : decode cX2_readSaying 4 = .ok (.invokevirtual 33, 3) := by decide +kernel
theorem dX2_readSaying_41 : decode cX2_readSaying 41 = .ok (.aload_n 0, 1) := by decide +kernel
theorem dX2_readSaying_42 : decode cX2_readSaying 42 = .ok (.getfield 9, 3) := by decide +kernel
theorem dX2_readSaying_45 : decode cX2_readSaying 45 = .ok (.iconst 4, 1) := by decide +kernel
theorem dX2_readSaying_46 : decode cX2_readSaying 46 = .ok (.invokevirtual 43, 3) := by decide +kernel
theorem dX2_readSaying_49 : decode cX2_readSaying 49 = .ok (.return_, 1) := by decide +kernel
theorem dX2_readSaying_50 : decode cX2_readSaying 50 = .ok (.aload_n 0, 1) := by decide +kernel
theorem dX2_readSaying_51 : decode cX2_readSaying 51 = .ok (.getfield 15, 3) := by decide +kernel
theorem dX2_readSaying_54 : decode cX2_readSaying 54 = .ok (.getfield 47, 3) := by decide +kernel
theorem dX2_readSaying_57 : decode cX2_readSaying 57 = .ok (.aload_n 1, 1) := by decide +kernel
theorem dX2_readSaying_58 : decode cX2_readSaying 58 = .ok (.getfield 37, 3) := by decide +kernel
theorem dX2_readSaying_61 : decode cX2_readSaying 61 = .ok (.aload_n 0, 1) := by decide +kernel
theorem dX2_readSaying_62 : decode cX2_readSaying 62 = .ok (.getfield 15, 3) := by decide +kernel
theorem dX2_readSaying_65 : decode cX2_readSaying 65 = .ok (.getfield 51, 3) := by decide +kernel
theorem dX2_readSaying_68 : decode cX2_readSaying 68 = .ok (.iastore, 1) := by decide +kernel
theorem dX2_readSaying_69 : decode cX2_readSaying 69 = .ok (.aload_n 0, 1) := by decide +kernel
theorem dX2_readSaying_7 : decode cX2_readSaying 7 = .ok (.astore_n 1, 1) := by decide +kernel
theorem dX2_readSaying_70 : decode cX2_readSaying 70 = .ok (.getfield 9, 3) := by decide +kernel
theorem dX2_readSaying_73 : decode cX2_readSaying 73 = .ok (.aload_n 1, 1) := by decide +kernel
theorem dX2_readSaying_74 : decode cX2_readSaying 74 = .ok (.invokevirtual 54, 3) := by decide +kernel
theorem dX2_readSaying_77 : decode cX2_readSaying 77 = .ok (.pop, 1) := by decide +kernel
theorem dX2_readSaying_78 : decode cX2_readSaying 78 = .ok (.aload_n 0, 1) := by decide +kernel
theorem dX2_readSaying_79 : decode cX2_readSaying 79 = .ok (.getfield 9, 3) := by decide +kernel
theorem dX2_readSaying_8 : decode cX2_readSaying 8 = .ok (.aload_n 1, 1) := by decide +kernel
theorem dX2_readSaying_82 : decode cX2_readSaying 82 = .ok (.bipush 61, 2) := by decide +kernel
theorem dX2_readSaying_84 : decode cX2_readSaying 84 = .ok (.invokevirtual 58, 3) := by decide +kernel
theorem dX2_readSaying_87 : decode cX2_readSaying 87 = .ok (.aload_n 0, 1) := by decide +kernel
theorem dX2_readSaying_88 : decode cX2_readSaying 88 = .ok (.invokevirtual 62, 3) := by decide +kernel
theorem dX2_readSaying_9 : decode cX2_readSaying 9 = .ok (.getfield 37, 3) := by decide +kernel
theorem dX2_readSaying_91 : decode cX2_readSaying 91 = .ok (.aload_n 0, 1) := by decide +kernel
theorem dX2_readSaying_92 : decode cX2_readSaying 92 = .ok (.getfield 9, 3) := by decide +kernel
theorem dX2_readSaying_95 : decode cX2_readSaying 95 = .ok (.bipush 59, 2) := by decide +kernel
theorem dX2_readSaying_97 : decode cX2_readSaying 97 = .ok (.invokevirtual 58, 3) := by decide +kernel
theorem dX2_read_0 : decode cX2_read 0 = .ok (.aload_n 0, 1) := by decide +kernel
theorem dX2_read_1 : decode cX2_read 1 = .ok (.getfield 15, 3) := by decide +kernel
theorem dX2_read_10 : decode cX2_read 10 = .ok (.sipush 600, 3) := by decide +kernel
theorem dX2_read_13 : decode cX2_read 13 = .ok (.if_icmp .ge 23, 3) := by decide +kernel
theorem dX2_read_16 : decode cX2_read 16 = .ok (.aload_n 0, 1) := by decide +kernel
theorem dX2_read_17 : decode cX2_read 17 = .ok (.getfield 9, 3) := by decide +kernel
theorem dX2_read_20 : decode cX2_read 20 = .ok (.invokevirtual 26, 3) := by decide +kernel
theorem dX2_read_23 : decode cX2_read 23 = .ok (.ifCond .eq 13, 3) := by decide +kernel
theorem dX2_read_26 : decode cX2_read 26 = .ok (.aload_n 0, 1) := by decide +kernel
theorem dX2_read_27 : decode cX2_read 27 = .ok (.invokevirtual 30, 3) := by decide +kernel
theorem dX2_read_30 : decode cX2_read 30 = .ok (.iinc 1 1, 3) := by decide +kernel
theorem dX2_read_33 : decode cX2_read 33 = .ok (.goto (-24), 3) := by decide +kernel
theorem dX2_read_36 : decode cX2_read 36 = .ok (.return_, 1) := by decide +kernel
theorem dX2_read_4 : decode cX2_read 4 = .ok (.invokevirtual 19, 3) := by decide +kernel
theorem dX2_read_7 : decode cX2_read 7 = .ok (.iconst 0, 1) := by decide +kernel
theorem dX2_read_8 : decode cX2_read 8 = .ok (.istore_n 1, 1) := by decide +kernel
theorem dX2_read_9 : decode cX2_read 9 = .ok (.iload_n 1, 1) := by decide +kernel
def vs_w_saying : List Cond := .code yX2_readSaying cX2_readSaying 2 none :: (([.fieldLink RX2 9 "KerbSplash$LawReader" "tape" "LKerbSplash$Tape;", .initialized RX8, .instanceMethod yX8_word, .selects RX8 yX8_word yX8_word, .fieldLink RX2 15 "KerbSplash$LawReader" "law" "LKerbSplash$Law;", .instanceMethod yX8_takeWord, .selects RX8 yX8_takeWord yX8_takeWord, .instanceMethod yX8_want, .selects RX8 yX8_want yX8_want, .initialized RX1, .instanceMethod yX1_add, .selects RX1 yX1_add yX1_add, .instanceMethod yX8_refuse, .selects RX8 yX8_refuse yX8_refuse] : List Cond) ++ ((wsX20) ++ ((vs_s_word) ++ ((wsX10) ++ ((vs_s_takeWord) ++ ((vs_s_want) ++ ((wsV RX2 62 RX2 yX2_readValue vs_w_val) ++ ((vs_s_ladd) ++ ((vs_s_refuse) ++ ([]))))))))))
theorem gd_w_saying : vs_w_saying.all goodWord = true := gd_C (by decide +kernel) (gd_A (by decide +kernel) (gd_A (by decide +kernel) (gd_A gd_s_word (gd_A (by decide +kernel) (gd_A gd_s_takeWord (gd_A gd_s_want (gd_A (gd_V gd_w_val (by decide +kernel)) (gd_A gd_s_ladd (gd_A gd_s_refuse rfl)))))))))
set_option maxHeartbeats 4000000 in
set_option maxRecDepth 100000 in
theorem w_saying (l : Launch) (hl : l.stackTraces = false) (D : va_G) (cy : Nat → ClassId) (sa : Nat → Nat) (lr : Nat) (ta tb : Nat) (fed len at_ we fa fp : Int) (bf : Nat → Int32) (la l0 l2 l3 : Nat) (size : Int) (st : Nat → Int32) (op : Int) (sf : Nat → Int32) (sz : Nat) (hr_fed : 0 ≤ fed ∧ fed ≤ 600) (hr_len : 0 ≤ len ∧ len ≤ 600) (hr_at_ : 0 ≤ at_ ∧ at_ ≤ 600) (hr_we : 0 ≤ we ∧ we ≤ 600) (hr_fa : 0 ≤ fa ∧ fa ≤ 4) (hr_fp : (-1) ≤ fp ∧ fp ≤ 600) (hr_size : 0 ≤ size ∧ size ≤ 600) (hr_op : 0 ≤ op ∧ op ≤ 6) (hst : inv_ 600 0 2147483647 st) : Met l yX2_readSaying vs_w_saying ({ frames := 87, cells := 0, slots := 0, locals := 6401 }) (va_Pc [vR lr] (pcW D cy sa sz [zO lr 2 [vR ta, vR la, vI op], zO ta 8 [vR tb, vI fed, vI len, vI at_, vI we, vI fa, vI fp], zI tb (cy 1) 600 bf, zO la 1 [vR l0, vI size, vR l2, vR l3], zI l0 (cy 0) 600 st, zI l2 (cy 0) 5 sf])) (va_Qv (fun u : SV => (0 ≤ u.2.1 0 ∧ u.2.1 0 ≤ 600) ∧ (0 ≤ u.2.1 1 ∧ u.2.1 1 ≤ 600) ∧ (0 ≤ u.2.1 2 ∧ u.2.1 2 ≤ 4) ∧ ((-1) ≤ u.2.1 3 ∧ u.2.1 3 ≤ 600) ∧ (0 ≤ u.2.1 4 ∧ u.2.1 4 ≤ 600) ∧ (0 ≤ u.2.1 5 ∧ u.2.1 5 ≤ 6) ∧ (u.2.1 5 = op) ∧ inv_ 600 0 2147483647 (u.2.2 0)) (fun u t => atW D (va_A [zO lr 2 [vR ta, vR la, vI op], zO ta 8 [vR tb, vI fed, vI len, vI at_, vI we, vI fa, vI fp], zI tb (cy 1) 600 bf, zO la 1 [vR l0, vI size, vR l2, vR l3], zI l0 (cy 0) 600 st, zI l2 (cy 0) 5 sf] sz) [zO lr 2 [vR ta, vR la, vI (u.2.1 5)], zO ta 8 [vR tb, vI fed, vI len, vI (u.2.1 0), vI (u.2.1 1), vI (u.2.1 2), vI (u.2.1 3)], zI tb (cy 1) 600 bf, zO la 1 [vR l0, vI (u.2.1 4), vR l2, vR l3], zI l0 (cy 0) 600 (u.2.2 0), zI l2 (cy 0) 5 (u.2.2 1)] t) (va_A [zO lr 2 [vR ta, vR la, vI op], zO ta 8 [vR tb, vI fed, vI len, vI at_, vI we, vI fa, vI fp], zI tb (cy 1) 600 bf, zO la 1 [vR l0, vI size, vR l2, vR l3], zI l0 (cy 0) 600 st, zI l2 (cy 0) 5 sf] sz)) 0 0 (va_A [zO lr 2 [vR ta, vR la, vI op], zO ta 8 [vR tb, vI fed, vI len, vI at_, vI we, vI fa, vI fp], zI tb (cy 1) 600 bf, zO la 1 [vR l0, vI size, vR l2, vR l3], zI l0 (cy 0) 600 st, zI l2 (cy 0) 5 sf] sz) := by
  refine Met.ofW (cc := cX2_readSaying) (maxL := 2) (ret := none) (by decide) rfl ?_
  intro p e s m args below meth c s₁ B hml hv
  obtain ⟨rfl, hsz, hP, hG, hD0, hT⟩ := hv
  have hx := B.exec
  have hb := B.bytes
  have hr := B.returns
  have hts := atoms_spec (ws := vs_w_saying) B.pre
  have hown : s.vm.findClass RX2 = some m.cls := findClass_of_methodNamed B.named
  have hlocks := B.notSynchronized
  subst hsz
  have hD := hD0.self (sz := s.heap.size)
  generalize hAe : va_A [zO lr 2 [vR ta, vR la, vI op], zO ta 8 [vR tb, vI fed, vI len, vI at_, vI we, vI fa, vI fp], zI tb (cy 1) 600 bf, zO la 1 [vR l0, vI size, vR l2, vR l3], zI l0 (cy 0) 600 st, zI l2 (cy 0) 5 sf] s.heap.size = A at hD hT ⊢
  have hA : ∀ q : Nat, s.heap.size ≤ q → A q := fun q h => by rw [← hAe]; exact Or.inr h
  have hS : va_S A s.heap s.heap [] := va_S.rf
  have hl0 := lv_entry ([vR lr]) (n := 2) (Nat.le_of_ble_eq_true rfl)
  rw [lg_entry_eq]
  generalize (lg_sl ([vR lr]) ++ List.replicate (2 - (lg_sl ([vR lr])).length) Slot.unset).toArray = ls at hl0 ⊢
  have hlv : lv_has ls 2 [(0, vR lr)] := hl0
  have lf9 := hts (.fieldLink RX2 9 "KerbSplash$LawReader" "tape" "LKerbSplash$Tape;") (List.mem_of_getElem? (i := 1) rfl)
  have hi2 : ∀ w ∈ wsX20, w ∈ vs_w_saying := fun w h => List.mem_cons_of_mem _ (List.mem_append_right _ (List.mem_append_left _ h))
  have gg_1 : GoodIn vs_w_saying (vs_s_word) := goodIn_sub (fun w h => List.mem_cons_of_mem _ (List.mem_append_right _ (List.mem_append_right _ (List.mem_append_left _ h)))) gd_s_word
  have ini_RX8 := hts (.initialized RX8) (List.mem_of_getElem? (i := 2) rfl)
  have im_X8_word := hts (.instanceMethod yX8_word) (List.mem_of_getElem? (i := 3) rfl)
  have se_X8_word := hts (.selects RX8 yX8_word yX8_word) (List.mem_of_getElem? (i := 4) rfl)
  have lf15 := hts (.fieldLink RX2 15 "KerbSplash$LawReader" "law" "LKerbSplash$Law;") (List.mem_of_getElem? (i := 5) rfl)
  have hi1 : ∀ w ∈ wsX10, w ∈ vs_w_saying := fun w h => List.mem_cons_of_mem _ (List.mem_append_right _ (List.mem_append_right _ (List.mem_append_right _ (List.mem_append_left _ h))))
  have gg_3 : GoodIn vs_w_saying (vs_s_takeWord) := goodIn_sub (fun w h => List.mem_cons_of_mem _ (List.mem_append_right _ (List.mem_append_right _ (List.mem_append_right _ (List.mem_append_right _ (List.mem_append_left _ h)))))) gd_s_takeWord
  have im_X8_takeWord := hts (.instanceMethod yX8_takeWord) (List.mem_of_getElem? (i := 6) rfl)
  have se_X8_takeWord := hts (.selects RX8 yX8_takeWord yX8_takeWord) (List.mem_of_getElem? (i := 7) rfl)
  have gg_4 : GoodIn vs_w_saying (vs_s_want) := goodIn_sub (fun w h => List.mem_cons_of_mem _ (List.mem_append_right _ (List.mem_append_right _ (List.mem_append_right _ (List.mem_append_right _ (List.mem_append_right _ (List.mem_append_left _ h))))))) gd_s_want
  have im_X8_want := hts (.instanceMethod yX8_want) (List.mem_of_getElem? (i := 8) rfl)
  have se_X8_want := hts (.selects RX8 yX8_want yX8_want) (List.mem_of_getElem? (i := 9) rfl)
  have gg_5 : GoodIn vs_w_saying (wsV RX2 62 RX2 yX2_readValue vs_w_val) := goodIn_sub (fun w h => List.mem_cons_of_mem _ (List.mem_append_right _ (List.mem_append_right _ (List.mem_append_right _ (List.mem_append_right _ (List.mem_append_right _ (List.mem_append_right _ (List.mem_append_left _ h)))))))) (gd_V gd_w_val (by decide +kernel))
  have gg_6 : GoodIn vs_w_saying (vs_s_ladd) := goodIn_sub (fun w h => List.mem_cons_of_mem _ (List.mem_append_right _ (List.mem_append_right _ (List.mem_append_right _ (List.mem_append_right _ (List.mem_append_right _ (List.mem_append_right _ (List.mem_append_right _ (List.mem_append_left _ h))))))))) gd_s_ladd
  have ini_RX1 := hts (.initialized RX1) (List.mem_of_getElem? (i := 10) rfl)
  have im_X1_add := hts (.instanceMethod yX1_add) (List.mem_of_getElem? (i := 11) rfl)
  have se_X1_add := hts (.selects RX1 yX1_add yX1_add) (List.mem_of_getElem? (i := 12) rfl)
  have gg_7 : GoodIn vs_w_saying (vs_s_refuse) := goodIn_sub (fun w h => List.mem_cons_of_mem _ (List.mem_append_right _ (List.mem_append_right _ (List.mem_append_right _ (List.mem_append_right _ (List.mem_append_right _ (List.mem_append_right _ (List.mem_append_right _ (List.mem_append_right _ (List.mem_append_left _ h)))))))))) gd_s_refuse
  have im_X8_refuse := hts (.instanceMethod yX8_refuse) (List.mem_of_getElem? (i := 13) rfl)
  have se_X8_refuse := hts (.selects RX8 yX8_refuse yX8_refuse) (List.mem_of_getElem? (i := 14) rfl)
  refine lv_aload_n hx hb dX2_readSaying_0 rfl (lv_at hlv 0 rfl) ?_
  refine va_get (D := D) (ci := 2) (v := vR ta) (C := RX2) (T := TX2) (N := 3) hx hb hts hi2 hown hG.1 hP 0 rfl rfl 0 (by decide) lf9 (fun _ h9 => h9) rfl dX2_readSaying_1 ?_
  refine cj_r (ra := fun u : SV => wd sa (u.2.1 0)) (wr := [zO lr 2 [vR ta, vR la, vI op], zO la 1 [vR l0, vI size, vR l2, vR l3], zI l0 (cy 0) 600 st, zI l2 (cy 0) 5 sf]) (va_runVN (host := "KerbSplash") (As := []) (rest := []) ⟨hx, hb, hml, hown, hts⟩ (s_word l hl D cy sa ta tb fed len at_ we fa fp bf s.heap.size (by first | exact hr_fed | omega) (by first | exact hr_len | omega) (by first | exact hr_at_ | omega) (by first | exact hr_we | omega) (by first | exact hr_fa | omega) (by first | exact hr_fp | omega)) ⟨va_cnB 0 hts gg_1 rfl rfl rfl (nM_LawReader_33 hG.2.1) ini_RX8 (by decide +kernel) ⟨Nat.le_of_ble_eq_true rfl, Nat.le_of_ble_eq_true rfl⟩, im_X8_word, se_X8_word⟩ ⟨pcW.blind, (va_recv hG.1 hP (ci := 8) (q0 := 1) rfl rfl), (pcW.mk hP hD hS hA hG hT [1, 2] rfl (by decide))⟩ rfl rfl hlv.1 rfl (lv_room (Nat.le_of_ble_eq_true rfl)) dX2_readSaying_4 ⟨Nat.le_of_ble_eq_true rfl, Nat.le_of_ble_eq_true rfl⟩) hP hD hS hA [1, 2] [0, 3, 4, 5] rfl rfl (by decide) (by decide) (fun u1 H locs hw1 hP hD hS => ?_)
  obtain ⟨hq1_0, hq1_1, hq1_2⟩ := hw1
  have hP : va_P D vwCl [zO lr 2 [vR ta, vR la, vI op], zO la 1 [vR l0, vI size, vR l2, vR l3], zI l0 (cy 0) 600 st, zI l2 (cy 0) 5 sf, zO ta 8 [vR tb, vI fed, vI len, vI (u1.2.1 1), vI (u1.2.1 2), vI fa, vI fp], zI tb (cy 1) 600 bf] H := hP
  have hD : va_D A [zO lr 2 [vR ta, vR la, vI op], zO la 1 [vR l0, vI size, vR l2, vR l3], zI l0 (cy 0) 600 st, zI l2 (cy 0) 5 sf, zO ta 8 [vR tb, vI fed, vI len, vI (u1.2.1 1), vI (u1.2.1 2), vI fa, vI fp], zI tb (cy 1) 600 bf] := hD
  refine lv_astore_n (lv' := [(1, .ref (wd sa (u1.2.1 0))), (0, vR lr)]) hx hb dX2_readSaying_7 rfl hlv (by decide) rfl (fun ls hlv => ?_)
  refine lv_aload_n hx hb dX2_readSaying_8 rfl (lv_at hlv 0 rfl) ?_
  refine vk_getfN (o := "KerbSplash$Word") (n := "saying") (d := "I") (ref := "KerbSplash$Word") (v := .int (iI (fS (u1.2.1 0)))) hx hb (hT.2.2.1 ((u1.2.1 0) : Int).toNat (by omega)).1.2.2.2.1 hS hown (va_Nw.use rfl (nF_LawReader_37 hG.2.1)) (fun _ h9 => h9) dX2_readSaying_9 ?_
  have hbfS_ := fS_b (k := (u1.2.1 0)) (by omega)
  refine lt_e (e0 := fS (u1.2.1 0)) rfl (fun z_1 hz_1 => ?_)
  refine lv_iconst (v := iI (-1)) hx hb dX2_readSaying_12 (by decide) ?_
  refine ir_ne (tgt := 25) hx hb dX2_readSaying_13 (by decide) (by omega) (by show ((-2147483648) : Int) ≤ (-1) ∧ ((-1) : Int) ≤ 2147483647; decide) (fun c_2 => ?_) (fun c_2 => ?_)
  · refine lv_aload_n hx hb dX2_readSaying_25 rfl (lv_at hlv 1 rfl) ?_
    refine va_get (D := D) (ci := 2) (v := vR la) (C := RX2) (T := TX2) (N := 3) hx hb hts hi2 hown hG.1 hP 0 rfl rfl 1 (by decide) lf15 (fun _ h9 => h9) rfl dX2_readSaying_26 ?_
    refine va_getN (D := D) (ci := 1) (v := vR l2) (C := RX1) (T := TX1) (N := 4) hx hb hts hi1 hown hG.1 hP 1 rfl rfl 2 (by decide) (va_Nw.use rfl (nF_LawReader_47 hG.2.1)) (fun _ h9 => h9) rfl dX2_readSaying_29 ?_
    refine lv_aload_n hx hb dX2_readSaying_32 rfl (lv_at hlv 0 rfl) ?_
    refine vk_getfN (o := "KerbSplash$Word") (n := "saying") (d := "I") (ref := "KerbSplash$Word") (v := .int (iI (fS (u1.2.1 0)))) hx hb (hT.2.2.1 ((u1.2.1 0) : Int).toNat (by omega)).1.2.2.2.1 hS hown (va_Nw.use rfl (nF_LawReader_37 hG.2.1)) (fun _ h9 => h9) dX2_readSaying_33 ?_
    have hbfS_ := fS_b (k := (u1.2.1 0)) (by omega)
    refine lt_e (e0 := fS (u1.2.1 0)) rfl (fun z_3 hz_3 => ?_)
    refine va_iald hx hb hG.1 hP 3 0 rfl rfl (iI_in (by omega) (by decide)) dX2_readSaying_36 ?_
    refine lt_z (fun z_4 ez_4 lz_4 hz_4 => ?_)
    refine lv_iconst (v := iI (-1)) hx hb dX2_readSaying_37 (by decide) ?_
    refine ir_eq (tgt := 50) hx hb dX2_readSaying_38 (by decide) (by omega) (by show ((-2147483648) : Int) ≤ (-1) ∧ ((-1) : Int) ≤ 2147483647; decide) (fun c_5 => ?_) (fun c_5 => ?_)
    · refine lv_aload_n hx hb dX2_readSaying_50 rfl (lv_at hlv 1 rfl) ?_
      refine va_get (D := D) (ci := 2) (v := vR la) (C := RX2) (T := TX2) (N := 3) hx hb hts hi2 hown hG.1 hP 0 rfl rfl 1 (by decide) lf15 (fun _ h9 => h9) rfl dX2_readSaying_51 ?_
      refine va_getN (D := D) (ci := 1) (v := vR l2) (C := RX1) (T := TX1) (N := 4) hx hb hts hi1 hown hG.1 hP 1 rfl rfl 2 (by decide) (va_Nw.use rfl (nF_LawReader_47 hG.2.1)) (fun _ h9 => h9) rfl dX2_readSaying_54 ?_
      refine lv_aload_n hx hb dX2_readSaying_57 rfl (lv_at hlv 0 rfl) ?_
      refine vk_getfN (o := "KerbSplash$Word") (n := "saying") (d := "I") (ref := "KerbSplash$Word") (v := .int (iI (fS (u1.2.1 0)))) hx hb (hT.2.2.1 ((u1.2.1 0) : Int).toNat (by omega)).1.2.2.2.1 hS hown (va_Nw.use rfl (nF_LawReader_37 hG.2.1)) (fun _ h9 => h9) dX2_readSaying_58 ?_
      have hbfS_ := fS_b (k := (u1.2.1 0)) (by omega)
      refine lt_e (e0 := fS (u1.2.1 0)) rfl (fun z_6 hz_6 => ?_)
      refine lv_aload_n hx hb dX2_readSaying_61 rfl (lv_at hlv 1 rfl) ?_
      refine va_get (D := D) (ci := 2) (v := vR la) (C := RX2) (T := TX2) (N := 3) hx hb hts hi2 hown hG.1 hP 0 rfl rfl 1 (by decide) lf15 (fun _ h9 => h9) rfl dX2_readSaying_62 ?_
      refine va_getN (D := D) (ci := 1) (v := vI size) (C := RX1) (T := TX1) (N := 4) hx hb hts hi1 hown hG.1 hP 1 rfl rfl 1 (by decide) (va_Nw.use rfl (nF_LawReader_51 hG.2.1)) (fun _ h9 => h9) rfl dX2_readSaying_65 ?_
      refine va_iast hx hb hG.1 hP hD hS 3 0 rfl rfl (iI_in (by omega) (by decide)) dX2_readSaying_68 (fun H locs hP hD hS => ?_)
      have ⟨f_7, hP, hD⟩ : ∃ f_7 : Nat → Int32, va_P D vwCl [zO lr 2 [vR ta, vR la, vI op], zO la 1 [vR l0, vI size, vR l2, vR l3], zI l0 (cy 0) 600 st, zI l2 (cy 0) 5 f_7, zO ta 8 [vR tb, vI fed, vI len, vI (u1.2.1 1), vI (u1.2.1 2), vI fa, vI fp], zI tb (cy 1) 600 bf] H ∧ va_D A [zO lr 2 [vR ta, vR la, vI op], zO la 1 [vR l0, vI size, vR l2, vR l3], zI l0 (cy 0) 600 st, zI l2 (cy 0) 5 f_7, zO ta 8 [vR tb, vI fed, vI len, vI (u1.2.1 1), vI (u1.2.1 2), vI fa, vI fp], zI tb (cy 1) 600 bf] := ⟨_, hP, hD⟩
      refine lv_aload_n hx hb dX2_readSaying_69 rfl (lv_at hlv 1 rfl) ?_
      refine va_get (D := D) (ci := 2) (v := vR ta) (C := RX2) (T := TX2) (N := 3) hx hb hts hi2 hown hG.1 hP 0 rfl rfl 0 (by decide) lf9 (fun _ h9 => h9) rfl dX2_readSaying_70 ?_
      refine lv_aload_n hx hb dX2_readSaying_73 rfl (lv_at hlv 0 rfl) ?_
      refine cj_i (wr := [zO lr 2 [vR ta, vR la, vI op], zO la 1 [vR l0, vI size, vR l2, vR l3], zI l0 (cy 0) 600 st, zI l2 (cy 0) 5 f_7]) (va_runVN (host := "KerbSplash") (As := [.ref (wd sa (u1.2.1 0))]) (rest := []) ⟨hx, hb, hml, hown, hts⟩ (s_takeWord l hl D cy sa ta tb fed len (u1.2.1 1) (u1.2.1 2) fa fp bf (u1.2.1 0) H.size (by first | exact hr_fed | omega) (by first | exact hr_len | omega) (by first | exact hq1_1 | omega) (by first | exact hq1_2 | omega) (by first | exact hr_fa | omega) (by first | exact hr_fp | omega) (by first | exact hq1_0 | omega)) ⟨va_cnB 1 hts gg_3 rfl rfl rfl (nM_LawReader_54 hG.2.1) ini_RX8 (by decide +kernel) ⟨Nat.le_of_ble_eq_true rfl, Nat.le_of_ble_eq_true rfl⟩, im_X8_takeWord, se_X8_takeWord⟩ ⟨pcW.blind, (va_recv hG.1 hP (ci := 8) (q0 := 4) rfl rfl), (pcW.mk hP hD hS hA hG hT [4, 5] rfl (by decide))⟩ rfl rfl hlv.1 rfl (lv_room (Nat.le_of_ble_eq_true rfl)) dX2_readSaying_74 ⟨Nat.le_of_ble_eq_true rfl, Nat.le_of_ble_eq_true rfl⟩) hP hD hS hA [4, 5] [0, 1, 2, 3] rfl rfl (by decide) (by decide) (fun r2 u2 H locs hw2 hP hD hS => ?_)
      obtain ⟨rfl, hq2_1, hq2_2, hq2_3⟩ := hw2
      have hP : va_P D vwCl [zO lr 2 [vR ta, vR la, vI op], zO la 1 [vR l0, vI size, vR l2, vR l3], zI l0 (cy 0) 600 st, zI l2 (cy 0) 5 f_7, zO ta 8 [vR tb, vI fed, vI len, vI (u2.2.1 1), vI (u2.2.1 2), vI fa, vI fp], zI tb (cy 1) 600 bf] H := hP
      have hD : va_D A [zO lr 2 [vR ta, vR la, vI op], zO la 1 [vR l0, vI size, vR l2, vR l3], zI l0 (cy 0) 600 st, zI l2 (cy 0) 5 f_7, zO ta 8 [vR tb, vI fed, vI len, vI (u2.2.1 1), vI (u2.2.1 2), vI fa, vI fp], zI tb (cy 1) 600 bf] := hD
      refine lv_pop hx hb dX2_readSaying_77 rfl ?_
      refine lv_aload_n hx hb dX2_readSaying_78 rfl (lv_at hlv 1 rfl) ?_
      refine va_get (D := D) (ci := 2) (v := vR ta) (C := RX2) (T := TX2) (N := 3) hx hb hts hi2 hown hG.1 hP 0 rfl rfl 0 (by decide) lf9 (fun _ h9 => h9) rfl dX2_readSaying_79 ?_
      refine lv_bipush (v := iI 61) hx hb dX2_readSaying_82 (by decide) ?_
      refine cj_v (wr := [zO lr 2 [vR ta, vR la, vI op], zO la 1 [vR l0, vI size, vR l2, vR l3], zI l0 (cy 0) 600 st, zI l2 (cy 0) 5 f_7]) (va_runVN (host := "KerbSplash") (As := [vI 61]) (rest := []) ⟨hx, hb, hml, hown, hts⟩ (s_want l hl D cy sa ta tb fed len (u2.2.1 1) (u2.2.1 2) fa fp bf 61 H.size (by first | exact hr_fed | omega) (by first | exact hr_len | omega) (by first | exact hq2_2 | omega) (by first | exact hq2_3 | omega) (by first | exact hr_fa | omega) (by first | exact hr_fp | omega) (by show (0 : Int) ≤ 61 ∧ (61 : Int) ≤ 65535; decide)) ⟨va_cnB 1 hts gg_4 rfl rfl rfl (nM_LawReader_58 hG.2.1) ini_RX8 (by decide +kernel) ⟨Nat.le_of_ble_eq_true rfl, Nat.le_of_ble_eq_true rfl⟩, im_X8_want, se_X8_want⟩ ⟨pcW.blind, (va_recv hG.1 hP (ci := 8) (q0 := 4) rfl rfl), (pcW.mk hP hD hS hA hG hT [4, 5] rfl (by decide))⟩ rfl rfl hlv.1 rfl (lv_room (Nat.le_of_ble_eq_true rfl)) dX2_readSaying_84 ⟨Nat.le_of_ble_eq_true rfl, Nat.le_of_ble_eq_true rfl⟩) hP hD hS hA [4, 5] [0, 1, 2, 3] rfl rfl (by decide) (by decide) (fun u3 H locs hw3 hP hD hS => ?_)
      obtain ⟨hq3_0, hq3_1, hq3_2, hq3_3, hq3_4⟩ := hw3
      have hP : va_P D vwCl [zO lr 2 [vR ta, vR la, vI op], zO la 1 [vR l0, vI size, vR l2, vR l3], zI l0 (cy 0) 600 st, zI l2 (cy 0) 5 f_7, zO ta 8 [vR tb, vI fed, vI len, vI (u3.2.1 0), vI (u2.2.1 2), vI (u3.2.1 1), vI (u3.2.1 2)], zI tb (cy 1) 600 bf] H := hP
      have hD : va_D A [zO lr 2 [vR ta, vR la, vI op], zO la 1 [vR l0, vI size, vR l2, vR l3], zI l0 (cy 0) 600 st, zI l2 (cy 0) 5 f_7, zO ta 8 [vR tb, vI fed, vI len, vI (u3.2.1 0), vI (u2.2.1 2), vI (u3.2.1 1), vI (u3.2.1 2)], zI tb (cy 1) 600 bf] := hD
      refine lv_aload_n hx hb dX2_readSaying_87 rfl (lv_at hlv 1 rfl) ?_
      refine cj_v (wr := [zI l2 (cy 0) 5 f_7]) (va_runV (As := []) (rest := []) ⟨hx, hb, hml, hown, hts⟩ (w_val l hl D cy sa lr ta tb fed len (u3.2.1 0) (u2.2.1 2) (u3.2.1 1) (u3.2.1 2) bf la l0 l2 l3 size st op H.size (by first | exact hr_fed | omega) (by first | exact hr_len | omega) (by first | exact hq3_0 | omega) (by first | exact hq2_3 | omega) (by first | exact hq3_1 | omega) (by first | exact hq3_2 | omega) (by first | exact hr_size | omega) (by first | exact hr_op | omega) hst) (cwV 0 hts gg_5 rfl rfl rfl (by decide +kernel) ⟨Nat.le_of_ble_eq_true rfl, Nat.le_of_ble_eq_true rfl⟩) ⟨pcW.blind, (va_recv hG.1 hP (ci := 2) (q0 := 0) rfl rfl), (pcW.mk hP hD hS hA hG hT [0, 4, 5, 1, 2] rfl (by decide))⟩ rfl rfl hlv.1 rfl (lv_room (Nat.le_of_ble_eq_true rfl)) dX2_readSaying_88 ⟨Nat.le_of_ble_eq_true rfl, Nat.le_of_ble_eq_true rfl⟩) hP hD hS hA [0, 4, 5, 1, 2] [3] rfl rfl (by decide) (by decide) (fun u4 H locs hw4 hP hD hS => ?_)
      obtain ⟨hq4_0, hq4_1, hq4_2, hq4_3, hq4_4, hq4_5, hq4_6, hq4_7⟩ := hw4
      have hP : va_P D vwCl [zI l2 (cy 0) 5 f_7, zO lr 2 [vR ta, vR la, vI (u4.2.1 5)], zO ta 8 [vR tb, vI fed, vI len, vI (u4.2.1 0), vI (u4.2.1 1), vI (u4.2.1 2), vI (u4.2.1 3)], zI tb (cy 1) 600 bf, zO la 1 [vR l0, vI (u4.2.1 4), vR l2, vR l3], zI l0 (cy 0) 600 (u4.2.2 0)] H := hP
      have hD : va_D A [zI l2 (cy 0) 5 f_7, zO lr 2 [vR ta, vR la, vI (u4.2.1 5)], zO ta 8 [vR tb, vI fed, vI len, vI (u4.2.1 0), vI (u4.2.1 1), vI (u4.2.1 2), vI (u4.2.1 3)], zI tb (cy 1) 600 bf, zO la 1 [vR l0, vI (u4.2.1 4), vR l2, vR l3], zI l0 (cy 0) 600 (u4.2.2 0)] := hD
      refine lv_aload_n hx hb dX2_readSaying_91 rfl (lv_at hlv 1 rfl) ?_
      refine va_get (D := D) (ci := 2) (v := vR ta) (C := RX2) (T := TX2) (N := 3) hx hb hts hi2 hown hG.1 hP 1 rfl rfl 0 (by decide) lf9 (fun _ h9 => h9) rfl dX2_readSaying_92 ?_
      refine lv_bipush (v := iI 59) hx hb dX2_readSaying_95 (by decide) ?_
      refine cj_v (wr := [zI l2 (cy 0) 5 f_7, zO lr 2 [vR ta, vR la, vI (u4.2.1 5)], zO la 1 [vR l0, vI (u4.2.1 4), vR l2, vR l3], zI l0 (cy 0) 600 (u4.2.2 0)]) (va_runVN (host := "KerbSplash") (As := [vI 59]) (rest := []) ⟨hx, hb, hml, hown, hts⟩ (s_want l hl D cy sa ta tb fed len (u4.2.1 0) (u4.2.1 1) (u4.2.1 2) (u4.2.1 3) bf 59 H.size (by first | exact hr_fed | omega) (by first | exact hr_len | omega) (by first | exact hq4_0 | omega) (by first | exact hq4_1 | omega) (by first | exact hq4_2 | omega) (by first | exact hq4_3 | omega) (by show (0 : Int) ≤ 59 ∧ (59 : Int) ≤ 65535; decide)) ⟨va_cnB 1 hts gg_4 rfl rfl rfl (nM_LawReader_58 hG.2.1) ini_RX8 (by decide +kernel) ⟨Nat.le_of_ble_eq_true rfl, Nat.le_of_ble_eq_true rfl⟩, im_X8_want, se_X8_want⟩ ⟨pcW.blind, (va_recv hG.1 hP (ci := 8) (q0 := 2) rfl rfl), (pcW.mk hP hD hS hA hG hT [2, 3] rfl (by decide))⟩ rfl rfl hlv.1 rfl (lv_room (Nat.le_of_ble_eq_true rfl)) dX2_readSaying_97 ⟨Nat.le_of_ble_eq_true rfl, Nat.le_of_ble_eq_true rfl⟩) hP hD hS hA [2, 3] [0, 1, 4, 5] rfl rfl (by decide) (by decide) (fun u5 H locs hw5 hP hD hS => ?_)
      obtain ⟨hq5_0, hq5_1, hq5_2, hq5_3, hq5_4⟩ := hw5
      have hP : va_P D vwCl [zI l2 (cy 0) 5 f_7, zO lr 2 [vR ta, vR la, vI (u4.2.1 5)], zO la 1 [vR l0, vI (u4.2.1 4), vR l2, vR l3], zI l0 (cy 0) 600 (u4.2.2 0), zO ta 8 [vR tb, vI fed, vI len, vI (u5.2.1 0), vI (u4.2.1 1), vI (u5.2.1 1), vI (u5.2.1 2)], zI tb (cy 1) 600 bf] H := hP
      have hD : va_D A [zI l2 (cy 0) 5 f_7, zO lr 2 [vR ta, vR la, vI (u4.2.1 5)], zO la 1 [vR l0, vI (u4.2.1 4), vR l2, vR l3], zI l0 (cy 0) 600 (u4.2.2 0), zO ta 8 [vR tb, vI fed, vI len, vI (u5.2.1 0), vI (u4.2.1 1), vI (u5.2.1 1), vI (u5.2.1 2)], zI tb (cy 1) 600 bf] := hD
      refine lv_aload_n hx hb dX2_readSaying_100 rfl (lv_at hlv 1 rfl) ?_
      refine va_get (D := D) (ci := 2) (v := vR la) (C := RX2) (T := TX2) (N := 3) hx hb hts hi2 hown hG.1 hP 1 rfl rfl 1 (by decide) lf15 (fun _ h9 => h9) rfl dX2_readSaying_101 ?_
      refine lv_bipush (v := iI 13) hx hb dX2_readSaying_104 (by decide) ?_
      refine lv_iconst (v := iI 0) hx hb dX2_readSaying_106 (by decide) ?_
      refine cj_i (wr := [zI l2 (cy 0) 5 f_7, zO lr 2 [vR ta, vR la, vI (u4.2.1 5)], zO ta 8 [vR tb, vI fed, vI len, vI (u5.2.1 0), vI (u4.2.1 1), vI (u5.2.1 1), vI (u5.2.1 2)], zI tb (cy 1) 600 bf]) (va_runVN (host := "KerbSplash") (As := [vI 13, vI 0]) (rest := []) ⟨hx, hb, hml, hown, hts⟩ (s_ladd l hl D cy sa la l0 l2 l3 (u4.2.1 4) (u4.2.2 0) 13 0 H.size (by first | exact hq4_4 | omega) (by show (0 : Int) ≤ 13 ∧ (13 : Int) ≤ 15; decide) (by show (0 : Int) ≤ 0 ∧ (0 : Int) ≤ 10000; decide) hq4_7) ⟨va_cnB 2 hts gg_6 rfl rfl rfl (nM_LawReader_65 hG.2.1) ini_RX1 (by decide +kernel) ⟨Nat.le_of_ble_eq_true rfl, Nat.le_of_ble_eq_true rfl⟩, im_X1_add, se_X1_add⟩ ⟨pcW.blind, (va_recv hG.1 hP (ci := 1) (q0 := 2) rfl rfl), (pcW.mk hP hD hS hA hG hT [2, 3] rfl (by decide))⟩ rfl rfl hlv.1 rfl (lv_room (Nat.le_of_ble_eq_true rfl)) dX2_readSaying_107 ⟨Nat.le_of_ble_eq_true rfl, Nat.le_of_ble_eq_true rfl⟩) hP hD hS hA [2, 3] [0, 1, 4, 5] rfl rfl (by decide) (by decide) (fun r6 u6 H locs hw6 hP hD hS => ?_)
      obtain ⟨rfl, hq6_1, hq6_2, hq6_3, hq6_4⟩ := hw6
      have hP : va_P D vwCl [zI l2 (cy 0) 5 f_7, zO lr 2 [vR ta, vR la, vI (u4.2.1 5)], zO ta 8 [vR tb, vI fed, vI len, vI (u5.2.1 0), vI (u4.2.1 1), vI (u5.2.1 1), vI (u5.2.1 2)], zI tb (cy 1) 600 bf, zO la 1 [vR l0, vI (u6.2.1 1), vR l2, vR l3], zI l0 (cy 0) 600 (u6.2.2 0)] H := hP
      have hD : va_D A [zI l2 (cy 0) 5 f_7, zO lr 2 [vR ta, vR la, vI (u4.2.1 5)], zO ta 8 [vR tb, vI fed, vI len, vI (u5.2.1 0), vI (u4.2.1 1), vI (u5.2.1 1), vI (u5.2.1 2)], zI tb (cy 1) 600 bf, zO la 1 [vR l0, vI (u6.2.1 1), vR l2, vR l3], zI l0 (cy 0) 600 (u6.2.2 0)] := hD
      refine lv_pop hx hb dX2_readSaying_110 rfl ?_
      refine W.widen (k := 0) (n := 0) (Nat.le_of_ble_eq_true rfl) (Nat.le_of_ble_eq_true rfl) ?_
      exact W.vret hx hb hr (fun t ht hW => ⟨⟨((fun k => ([] : List Nat).getD k 0), (fun k => ([(u5.2.1 0), (u4.2.1 1), (u5.2.1 1), (u5.2.1 2), (u6.2.1 1), (u4.2.1 5)] : List Int).getD k 0), (fun k => ([(u6.2.2 0), f_7] : List (Nat → Int32)).getD k (fun _ => 0))), rfl, ⟨(by show (0 ≤ (u5.2.1 0) ∧ (u5.2.1 0) ≤ 600); first | exact hq5_0 | omega), (by show (0 ≤ (u4.2.1 1) ∧ (u4.2.1 1) ≤ 600); first | exact hq4_1 | omega), (by show (0 ≤ (u5.2.1 1) ∧ (u5.2.1 1) ≤ 4); first | exact hq5_1 | omega), (by show ((-1) ≤ (u5.2.1 2) ∧ (u5.2.1 2) ≤ 600); first | exact hq5_2 | omega), (by show (0 ≤ (u6.2.1 1) ∧ (u6.2.1 1) ≤ 600); first | exact hq6_2 | omega), (by show (0 ≤ (u4.2.1 5) ∧ (u4.2.1 5) ≤ 6); first | exact hq4_5 | omega), (by show ((u4.2.1 5) = op); omega), hq6_4⟩, by rw [ht]; exact hP.sub [1, 2, 3, 4, 5, 0] rfl, hD.sub [1, 2, 3, 4, 5, 0] (by decide) rfl⟩, hS.F ht⟩) hS.2.2 dX2_readSaying_111
    · refine lv_aload_n hx hb dX2_readSaying_41 rfl (lv_at hlv 1 rfl) ?_
      refine va_get (D := D) (ci := 2) (v := vR ta) (C := RX2) (T := TX2) (N := 3) hx hb hts hi2 hown hG.1 hP 0 rfl rfl 0 (by decide) lf9 (fun _ h9 => h9) rfl dX2_readSaying_42 ?_
      refine lv_iconst (v := iI 4) hx hb dX2_readSaying_45 (by decide) ?_
      refine cj_v (wr := [zO lr 2 [vR ta, vR la, vI op], zO la 1 [vR l0, vI size, vR l2, vR l3], zI l0 (cy 0) 600 st, zI l2 (cy 0) 5 sf, zI tb (cy 1) 600 bf]) (va_runVN (host := "KerbSplash") (As := [vI 4]) (rest := []) ⟨hx, hb, hml, hown, hts⟩ (s_refuse l hl D cy sa ta tb fed len (u1.2.1 1) (u1.2.1 2) fa fp 4 H.size (by first | exact hr_fed | omega) (by first | exact hr_len | omega) (by first | exact hq1_1 | omega) (by first | exact hq1_2 | omega) (by first | exact hr_fa | omega) (by first | exact hr_fp | omega) (by show (1 : Int) ≤ 4 ∧ (4 : Int) ≤ 4; decide)) ⟨va_cnB 1 hts gg_7 rfl rfl rfl (nM_LawReader_43 hG.2.1) ini_RX8 (by decide +kernel) ⟨Nat.le_of_ble_eq_true rfl, Nat.le_of_ble_eq_true rfl⟩, im_X8_refuse, se_X8_refuse⟩ ⟨pcW.blind, (va_recv hG.1 hP (ci := 8) (q0 := 4) rfl rfl), (pcW.mk hP hD hS hA hG hT [4] rfl (by decide))⟩ rfl rfl hlv.1 rfl (lv_room (Nat.le_of_ble_eq_true rfl)) dX2_readSaying_46 ⟨Nat.le_of_ble_eq_true rfl, Nat.le_of_ble_eq_true rfl⟩) hP hD hS hA [4] [0, 1, 2, 3, 5] rfl rfl (by decide) (by decide) (fun u7 H locs hw7 hP hD hS => ?_)
      obtain ⟨hq7_0, hq7_1⟩ := hw7
      have hP : va_P D vwCl [zO lr 2 [vR ta, vR la, vI op], zO la 1 [vR l0, vI size, vR l2, vR l3], zI l0 (cy 0) 600 st, zI l2 (cy 0) 5 sf, zI tb (cy 1) 600 bf, zO ta 8 [vR tb, vI fed, vI len, vI (u1.2.1 1), vI (u1.2.1 2), vI (u7.2.1 0), vI (u7.2.1 1)]] H := hP
      have hD : va_D A [zO lr 2 [vR ta, vR la, vI op], zO la 1 [vR l0, vI size, vR l2, vR l3], zI l0 (cy 0) 600 st, zI l2 (cy 0) 5 sf, zI tb (cy 1) 600 bf, zO ta 8 [vR tb, vI fed, vI len, vI (u1.2.1 1), vI (u1.2.1 2), vI (u7.2.1 0), vI (u7.2.1 1)]] := hD
      refine W.widen (k := 0) (n := 0) (Nat.le_of_ble_eq_true rfl) (Nat.le_of_ble_eq_true rfl) ?_
      exact W.vret hx hb hr (fun t ht hW => ⟨⟨((fun k => ([] : List Nat).getD k 0), (fun k => ([(u1.2.1 1), (u1.2.1 2), (u7.2.1 0), (u7.2.1 1), size, op] : List Int).getD k 0), (fun k => ([st, sf] : List (Nat → Int32)).getD k (fun _ => 0))), rfl, ⟨(by show (0 ≤ (u1.2.1 1) ∧ (u1.2.1 1) ≤ 600); first | exact hq1_1 | omega), (by show (0 ≤ (u1.2.1 2) ∧ (u1.2.1 2) ≤ 600); first | exact hq1_2 | omega), (by show (0 ≤ (u7.2.1 0) ∧ (u7.2.1 0) ≤ 4); first | exact rgw hq7_0 (by decide) (by decide) | omega), (by show ((-1) ≤ (u7.2.1 1) ∧ (u7.2.1 1) ≤ 600); first | exact hq7_1 | omega), (by show (0 ≤ size ∧ size ≤ 600); first | exact hr_size | omega), (by show (0 ≤ op ∧ op ≤ 6); first | exact hr_op | omega), (by show (op = op); omega), hst⟩, by rw [ht]; exact hP.sub [0, 5, 4, 1, 2, 3] rfl, hD.sub [0, 5, 4, 1, 2, 3] (by decide) rfl⟩, hS.F ht⟩) hS.2.2 dX2_readSaying_49
  · refine lv_aload_n hx hb dX2_readSaying_16 rfl (lv_at hlv 1 rfl) ?_
    refine va_get (D := D) (ci := 2) (v := vR ta) (C := RX2) (T := TX2) (N := 3) hx hb hts hi2 hown hG.1 hP 0 rfl rfl 0 (by decide) lf9 (fun _ h9 => h9) rfl dX2_readSaying_17 ?_
    refine lv_iconst (v := iI 1) hx hb dX2_readSaying_20 (by decide) ?_
    refine cj_v (wr := [zO lr 2 [vR ta, vR la, vI op], zO la 1 [vR l0, vI size, vR l2, vR l3], zI l0 (cy 0) 600 st, zI l2 (cy 0) 5 sf, zI tb (cy 1) 600 bf]) (va_runVN (host := "KerbSplash") (As := [vI 1]) (rest := []) ⟨hx, hb, hml, hown, hts⟩ (s_refuse l hl D cy sa ta tb fed len (u1.2.1 1) (u1.2.1 2) fa fp 1 H.size (by first | exact hr_fed | omega) (by first | exact hr_len | omega) (by first | exact hq1_1 | omega) (by first | exact hq1_2 | omega) (by first | exact hr_fa | omega) (by first | exact hr_fp | omega) (by show (1 : Int) ≤ 1 ∧ (1 : Int) ≤ 4; decide)) ⟨va_cnB 1 hts gg_7 rfl rfl rfl (nM_LawReader_43 hG.2.1) ini_RX8 (by decide +kernel) ⟨Nat.le_of_ble_eq_true rfl, Nat.le_of_ble_eq_true rfl⟩, im_X8_refuse, se_X8_refuse⟩ ⟨pcW.blind, (va_recv hG.1 hP (ci := 8) (q0 := 4) rfl rfl), (pcW.mk hP hD hS hA hG hT [4] rfl (by decide))⟩ rfl rfl hlv.1 rfl (lv_room (Nat.le_of_ble_eq_true rfl)) dX2_readSaying_21 ⟨Nat.le_of_ble_eq_true rfl, Nat.le_of_ble_eq_true rfl⟩) hP hD hS hA [4] [0, 1, 2, 3, 5] rfl rfl (by decide) (by decide) (fun u8 H locs hw8 hP hD hS => ?_)
    obtain ⟨hq8_0, hq8_1⟩ := hw8
    have hP : va_P D vwCl [zO lr 2 [vR ta, vR la, vI op], zO la 1 [vR l0, vI size, vR l2, vR l3], zI l0 (cy 0) 600 st, zI l2 (cy 0) 5 sf, zI tb (cy 1) 600 bf, zO ta 8 [vR tb, vI fed, vI len, vI (u1.2.1 1), vI (u1.2.1 2), vI (u8.2.1 0), vI (u8.2.1 1)]] H := hP
    have hD : va_D A [zO lr 2 [vR ta, vR la, vI op], zO la 1 [vR l0, vI size, vR l2, vR l3], zI l0 (cy 0) 600 st, zI l2 (cy 0) 5 sf, zI tb (cy 1) 600 bf, zO ta 8 [vR tb, vI fed, vI len, vI (u1.2.1 1), vI (u1.2.1 2), vI (u8.2.1 0), vI (u8.2.1 1)]] := hD
    refine W.widen (k := 0) (n := 0) (Nat.le_of_ble_eq_true rfl) (Nat.le_of_ble_eq_true rfl) ?_
    exact W.vret hx hb hr (fun t ht hW => ⟨⟨((fun k => ([] : List Nat).getD k 0), (fun k => ([(u1.2.1 1), (u1.2.1 2), (u8.2.1 0), (u8.2.1 1), size, op] : List Int).getD k 0), (fun k => ([st, sf] : List (Nat → Int32)).getD k (fun _ => 0))), rfl, ⟨(by show (0 ≤ (u1.2.1 1) ∧ (u1.2.1 1) ≤ 600); first | exact hq1_1 | omega), (by show (0 ≤ (u1.2.1 2) ∧ (u1.2.1 2) ≤ 600); first | exact hq1_2 | omega), (by show (0 ≤ (u8.2.1 0) ∧ (u8.2.1 0) ≤ 4); first | exact rgw hq8_0 (by decide) (by decide) | omega), (by show ((-1) ≤ (u8.2.1 1) ∧ (u8.2.1 1) ≤ 600); first | exact hq8_1 | omega), (by show (0 ≤ size ∧ size ≤ 600); first | exact hr_size | omega), (by show (0 ≤ op ∧ op ≤ 6); first | exact hr_op | omega), (by show (op = op); omega), hst⟩, by rw [ht]; exact hP.sub [0, 5, 4, 1, 2, 3] rfl, hD.sub [0, 5, 4, 1, 2, 3] (by decide) rfl⟩, hS.F ht⟩) hS.2.2 dX2_readSaying_24
def vs_w_read : List Cond := .code yX2_read cX2_read 2 none :: (([.fieldLink RX2 15 "KerbSplash$LawReader" "law" "LKerbSplash$Law;", .initialized RX1, .instanceMethod yX1_reset, .selects RX1 yX1_reset yX1_reset, .fieldLink RX2 9 "KerbSplash$LawReader" "tape" "LKerbSplash$Tape;", .initialized RX8, .instanceMethod yX8_hasMore, .selects RX8 yX8_hasMore yX8_hasMore] : List Cond) ++ ((wsX20) ++ ((vs_w_reset) ++ ((vs_s_hasMore) ++ ((wsV RX2 30 RX2 yX2_readSaying vs_w_saying) ++ ([]))))))
theorem gd_w_read : vs_w_read.all goodWord = true := gd_C (by decide +kernel) (gd_A (by decide +kernel) (gd_A (by decide +kernel) (gd_A gd_w_reset (gd_A gd_s_hasMore (gd_A (gd_V gd_w_saying (by decide +kernel)) rfl)))))
set_option maxHeartbeats 4000000 in
set_option maxRecDepth 100000 in
theorem w_read (l : Launch) (hl : l.stackTraces = false) (D : va_G) (cy : Nat → ClassId) (sa : Nat → Nat) (lr : Nat) (ta tb : Nat) (fed len at_ we fa fp : Int) (bf : Nat → Int32) (la l0 l2 l3 : Nat) (size : Int) (st : Nat → Int32) (op : Int) (sf : Nat → Int32) (sz : Nat) (hr_fed : 0 ≤ fed ∧ fed ≤ 600) (hr_len : 0 ≤ len ∧ len ≤ 600) (hr_at_ : 0 ≤ at_ ∧ at_ ≤ 600) (hr_we : 0 ≤ we ∧ we ≤ 600) (hr_fa : 0 ≤ fa ∧ fa ≤ 4) (hr_fp : (-1) ≤ fp ∧ fp ≤ 600) (hr_size : 0 ≤ size ∧ size ≤ 600) (hr_op : 0 ≤ op ∧ op ≤ 6) (hst : inv_ 600 0 2147483647 st) : Met l yX2_read vs_w_read ({ frames := 88, cells := 0, slots := 0, locals := 6422 }) (va_Pc [vR lr] (pcW D cy sa sz [zO lr 2 [vR ta, vR la, vI op], zO ta 8 [vR tb, vI fed, vI len, vI at_, vI we, vI fa, vI fp], zI tb (cy 1) 600 bf, zO la 1 [vR l0, vI size, vR l2, vR l3], zI l0 (cy 0) 600 st, zI l2 (cy 0) 5 sf])) (va_Qv (fun u : SV => (0 ≤ u.2.1 0 ∧ u.2.1 0 ≤ 600) ∧ (0 ≤ u.2.1 1 ∧ u.2.1 1 ≤ 600) ∧ (0 ≤ u.2.1 2 ∧ u.2.1 2 ≤ 4) ∧ ((-1) ≤ u.2.1 3 ∧ u.2.1 3 ≤ 600) ∧ (0 ≤ u.2.1 4 ∧ u.2.1 4 ≤ 600) ∧ (0 ≤ u.2.1 5 ∧ u.2.1 5 ≤ 6) ∧ (u.2.1 5 = op) ∧ inv_ 600 0 2147483647 (u.2.2 0)) (fun u t => atW D (va_A [zO lr 2 [vR ta, vR la, vI op], zO ta 8 [vR tb, vI fed, vI len, vI at_, vI we, vI fa, vI fp], zI tb (cy 1) 600 bf, zO la 1 [vR l0, vI size, vR l2, vR l3], zI l0 (cy 0) 600 st, zI l2 (cy 0) 5 sf] sz) [zO lr 2 [vR ta, vR la, vI (u.2.1 5)], zO ta 8 [vR tb, vI fed, vI len, vI (u.2.1 0), vI (u.2.1 1), vI (u.2.1 2), vI (u.2.1 3)], zI tb (cy 1) 600 bf, zO la 1 [vR l0, vI (u.2.1 4), vR l2, vR l3], zI l0 (cy 0) 600 (u.2.2 0), zI l2 (cy 0) 5 (u.2.2 1)] t) (va_A [zO lr 2 [vR ta, vR la, vI op], zO ta 8 [vR tb, vI fed, vI len, vI at_, vI we, vI fa, vI fp], zI tb (cy 1) 600 bf, zO la 1 [vR l0, vI size, vR l2, vR l3], zI l0 (cy 0) 600 st, zI l2 (cy 0) 5 sf] sz)) 0 0 (va_A [zO lr 2 [vR ta, vR la, vI op], zO ta 8 [vR tb, vI fed, vI len, vI at_, vI we, vI fa, vI fp], zI tb (cy 1) 600 bf, zO la 1 [vR l0, vI size, vR l2, vR l3], zI l0 (cy 0) 600 st, zI l2 (cy 0) 5 sf] sz) := by
  refine Met.ofW (cc := cX2_read) (maxL := 2) (ret := none) (by decide) rfl ?_
  intro p e s m args below meth c s₁ B hml hv
  obtain ⟨rfl, hsz, hP, hG, hD0, hT⟩ := hv
  have hx := B.exec
  have hb := B.bytes
  have hr := B.returns
  have hts := atoms_spec (ws := vs_w_read) B.pre
  have hown : s.vm.findClass RX2 = some m.cls := findClass_of_methodNamed B.named
  have hlocks := B.notSynchronized
  subst hsz
  have hD := hD0.self (sz := s.heap.size)
  generalize hAe : va_A [zO lr 2 [vR ta, vR la, vI op], zO ta 8 [vR tb, vI fed, vI len, vI at_, vI we, vI fa, vI fp], zI tb (cy 1) 600 bf, zO la 1 [vR l0, vI size, vR l2, vR l3], zI l0 (cy 0) 600 st, zI l2 (cy 0) 5 sf] s.heap.size = A at hD hT ⊢
  have hA : ∀ q : Nat, s.heap.size ≤ q → A q := fun q h => by rw [← hAe]; exact Or.inr h
  have hS : va_S A s.heap s.heap [] := va_S.rf
  have hl0 := lv_entry ([vR lr]) (n := 2) (Nat.le_of_ble_eq_true rfl)
  rw [lg_entry_eq]
  generalize (lg_sl ([vR lr]) ++ List.replicate (2 - (lg_sl ([vR lr])).length) Slot.unset).toArray = ls at hl0 ⊢
  have hlv : lv_has ls 2 [(0, vR lr)] := hl0
  have lf15 := hts (.fieldLink RX2 15 "KerbSplash$LawReader" "law" "LKerbSplash$Law;") (List.mem_of_getElem? (i := 1) rfl)
  have hi2 : ∀ w ∈ wsX20, w ∈ vs_w_read := fun w h => List.mem_cons_of_mem _ (List.mem_append_right _ (List.mem_append_left _ h))
  have gg_1 : GoodIn vs_w_read (vs_w_reset) := goodIn_sub (fun w h => List.mem_cons_of_mem _ (List.mem_append_right _ (List.mem_append_right _ (List.mem_append_left _ h)))) gd_w_reset
  have ini_RX1 := hts (.initialized RX1) (List.mem_of_getElem? (i := 2) rfl)
  have im_X1_reset := hts (.instanceMethod yX1_reset) (List.mem_of_getElem? (i := 3) rfl)
  have se_X1_reset := hts (.selects RX1 yX1_reset yX1_reset) (List.mem_of_getElem? (i := 4) rfl)
  have lf9 := hts (.fieldLink RX2 9 "KerbSplash$LawReader" "tape" "LKerbSplash$Tape;") (List.mem_of_getElem? (i := 5) rfl)
  have gg_2 : GoodIn vs_w_read (vs_s_hasMore) := goodIn_sub (fun w h => List.mem_cons_of_mem _ (List.mem_append_right _ (List.mem_append_right _ (List.mem_append_right _ (List.mem_append_left _ h))))) gd_s_hasMore
  have ini_RX8 := hts (.initialized RX8) (List.mem_of_getElem? (i := 6) rfl)
  have im_X8_hasMore := hts (.instanceMethod yX8_hasMore) (List.mem_of_getElem? (i := 7) rfl)
  have se_X8_hasMore := hts (.selects RX8 yX8_hasMore yX8_hasMore) (List.mem_of_getElem? (i := 8) rfl)
  have gg_3 : GoodIn vs_w_read (wsV RX2 30 RX2 yX2_readSaying vs_w_saying) := goodIn_sub (fun w h => List.mem_cons_of_mem _ (List.mem_append_right _ (List.mem_append_right _ (List.mem_append_right _ (List.mem_append_right _ (List.mem_append_left _ h)))))) (gd_V gd_w_saying (by decide +kernel))
  refine lv_aload_n hx hb dX2_read_0 rfl (lv_at hlv 0 rfl) ?_
  refine va_get (D := D) (ci := 2) (v := vR la) (C := RX2) (T := TX2) (N := 3) hx hb hts hi2 hown hG.1 hP 0 rfl rfl 1 (by decide) lf15 (fun _ h9 => h9) rfl dX2_read_1 ?_
  refine cj_v (wr := [zO lr 2 [vR ta, vR la, vI op], zO ta 8 [vR tb, vI fed, vI len, vI at_, vI we, vI fa, vI fp], zI tb (cy 1) 600 bf, zI l0 (cy 0) 600 st]) (va_runVN (host := "KerbSplash") (As := []) (rest := []) ⟨hx, hb, hml, hown, hts⟩ (w_reset l hl D cy sa la l0 l2 l3 size sf s.heap.size (by first | exact hr_size | omega)) ⟨va_cnB 0 hts gg_1 rfl rfl rfl (nM_LawReader_19 hG.2.1) ini_RX1 (by decide +kernel) ⟨Nat.le_of_ble_eq_true rfl, Nat.le_of_ble_eq_true rfl⟩, im_X1_reset, se_X1_reset⟩ ⟨pcW.blind, (va_recv hG.1 hP (ci := 1) (q0 := 3) rfl rfl), (pcW.mk hP hD hS hA hG hT [3, 5] rfl (by decide))⟩ rfl rfl hlv.1 rfl (lv_room (Nat.le_of_ble_eq_true rfl)) dX2_read_4 ⟨Nat.le_of_ble_eq_true rfl, Nat.le_of_ble_eq_true rfl⟩) hP hD hS hA [3, 5] [0, 1, 2, 4] rfl rfl (by decide) (by decide) (fun u1 H locs hw1 hP hD hS => ?_)
  have hP : va_P D vwCl [zO lr 2 [vR ta, vR la, vI op], zO ta 8 [vR tb, vI fed, vI len, vI at_, vI we, vI fa, vI fp], zI tb (cy 1) 600 bf, zI l0 (cy 0) 600 st, zO la 1 [vR l0, vI 0, vR l2, vR l3], zI l2 (cy 0) 5 (u1.2.2 0)] H := hP
  have hD : va_D A [zO lr 2 [vR ta, vR la, vI op], zO ta 8 [vR tb, vI fed, vI len, vI at_, vI we, vI fa, vI fp], zI tb (cy 1) 600 bf, zI l0 (cy 0) 600 st, zO la 1 [vR l0, vI 0, vR l2, vR l3], zI l2 (cy 0) 5 (u1.2.2 0)] := hD
  refine lv_iconst (v := iI 0) hx hb dX2_read_7 (by decide) ?_
  refine lv_istore_n (lv' := [(1, vI 0), (0, vR lr)]) hx hb dX2_read_8 rfl hlv (by decide) rfl (fun ls hlv => ?_)
  refine (?_ : ∀ (fu : Nat) (q : Int) (ys : Int) (yo : Int) (yl : Nat → Int32) (yf2 : Nat → Int32) (ya : Int) (yw : Int) (yf : Int) (yg : Int) (H : Heap) (locs : List Loc) (ls : Array Slot), 600 - q < (fu : Int) → (0 ≤ q ∧ q ≤ 600) → (0 ≤ ys ∧ ys ≤ 600) → (0 ≤ yo ∧ yo ≤ 6) → (0 ≤ ya ∧ ya ≤ 600) → (0 ≤ yw ∧ yw ≤ 600) → (0 ≤ yf ∧ yf ≤ 4) → ((-1) ≤ yg ∧ yg ≤ 600) → (yo = op) → inv_ 600 0 2147483647 yl → va_P D vwCl [zO lr 2 [vR ta, vR la, vI yo], zO ta 8 [vR tb, vI fed, vI len, vI ya, vI yw, vI yf, vI yg], zI tb (cy 1) 600 bf, zI l0 (cy 0) 600 yl, zO la 1 [vR l0, vI ys, vR l2, vR l3], zI l2 (cy 0) 5 yf2] H → va_D A [zO lr 2 [vR ta, vR la, vI yo], zO ta 8 [vR tb, vI fed, vI len, vI ya, vI yw, vI yf, vI yg], zI tb (cy 1) 600 bf, zI l0 (cy 0) 600 yl, zO la 1 [vR l0, vI ys, vR l2, vR l3], zI l2 (cy 0) 5 yf2] → va_S A s.heap H locs → lv_has ls 2 [(1, vI q), (0, vR lr)] → W p l e _ s m _ below meth c H locs _ _ _ (F0 m 9 ls [])) (((600 - 0) + 1 : Int)).toNat 0 0 op st (u1.2.2 0) at_ we fa fp _ _ _ (by omega) (by show (0 : Int) ≤ 0 ∧ (0 : Int) ≤ 600; decide) (by show (0 : Int) ≤ 0 ∧ (0 : Int) ≤ 600; decide) (by first | exact hr_op | omega) (by first | exact hr_at_ | omega) (by first | exact hr_we | omega) (by first | exact hr_fa | omega) (by first | exact hr_fp | omega) (by omega) hst hP hD hS hlv
  clear hP hD hS hlv
  intro fu
  induction fu with
  | zero => intro q ys yo yl yf2 ya yw yf yg H locs ls hm9 hl9_0 hl9_1 hl9_2 hl9_3 hl9_4 hl9_5 hl9_6 hl9_7 hiyl hP hD hS hlv; omega
  | succ fu ih9 =>
    intro q ys yo yl yf2 ya yw yf yg H locs ls hm9 hl9_0 hl9_1 hl9_2 hl9_3 hl9_4 hl9_5 hl9_6 hl9_7 hiyl hP hD hS hlv
    refine lv_iload_n hx hb dX2_read_9 rfl (lv_at hlv 0 rfl) ?_
    refine lv_sipush (v := iI 600) hx hb dX2_read_10 (by decide) ?_
    refine ir_ge (tgt := 36) hx hb dX2_read_13 (by decide) (by first | exact rgw hl9_0 (by decide) (by decide) | omega) (by show ((-2147483648) : Int) ≤ 600 ∧ (600 : Int) ≤ 2147483647; decide) (fun c_1 => ?_) (fun c_1 => ?_)
    · refine W.widen (k := 0) (n := 0) (Nat.le_of_ble_eq_true rfl) (Nat.le_of_ble_eq_true rfl) ?_
      exact W.vret hx hb hr (fun t ht hW => ⟨⟨((fun k => ([] : List Nat).getD k 0), (fun k => ([ya, yw, yf, yg, ys, yo] : List Int).getD k 0), (fun k => ([yl, yf2] : List (Nat → Int32)).getD k (fun _ => 0))), rfl, ⟨(by show (0 ≤ ya ∧ ya ≤ 600); first | exact hl9_3 | omega), (by show (0 ≤ yw ∧ yw ≤ 600); first | exact hl9_4 | omega), (by show (0 ≤ yf ∧ yf ≤ 4); first | exact hl9_5 | omega), (by show ((-1) ≤ yg ∧ yg ≤ 600); first | exact hl9_6 | omega), (by show (0 ≤ ys ∧ ys ≤ 600); first | exact hl9_1 | omega), (by show (0 ≤ yo ∧ yo ≤ 6); first | exact hl9_2 | omega), (by show (yo = op); omega), hiyl⟩, by rw [ht]; exact hP.sub [0, 1, 2, 4, 3, 5] rfl, hD.sub [0, 1, 2, 4, 3, 5] (by decide) rfl⟩, hS.F ht⟩) hS.2.2 dX2_read_36
    · refine lv_aload_n hx hb dX2_read_16 rfl (lv_at hlv 1 rfl) ?_
      refine va_get (D := D) (ci := 2) (v := vR ta) (C := RX2) (T := TX2) (N := 3) hx hb hts hi2 hown hG.1 hP 0 rfl rfl 0 (by decide) lf9 (fun _ h9 => h9) rfl dX2_read_17 ?_
      refine cj_i (wr := [zO lr 2 [vR ta, vR la, vI yo], zI l0 (cy 0) 600 yl, zO la 1 [vR l0, vI ys, vR l2, vR l3], zI l2 (cy 0) 5 yf2]) (va_runVN (host := "KerbSplash") (As := []) (rest := []) ⟨hx, hb, hml, hown, hts⟩ (s_hasMore l hl D cy sa ta tb fed len ya yw yf yg bf H.size (by first | exact hr_fed | omega) (by first | exact hr_len | omega) (by first | exact hl9_3 | omega) (by first | exact hl9_4 | omega) (by first | exact hl9_5 | omega) (by first | exact hl9_6 | omega)) ⟨va_cnB 0 hts gg_2 rfl rfl rfl (nM_LawReader_26 hG.2.1) ini_RX8 (by decide +kernel) ⟨Nat.le_of_ble_eq_true rfl, Nat.le_of_ble_eq_true rfl⟩, im_X8_hasMore, se_X8_hasMore⟩ ⟨pcW.blind, (va_recv hG.1 hP (ci := 8) (q0 := 1) rfl rfl), (pcW.mk hP hD hS hA hG hT [1, 2] rfl (by decide))⟩ rfl rfl hlv.1 rfl (lv_room (Nat.le_of_ble_eq_true rfl)) dX2_read_20 ⟨Nat.le_of_ble_eq_true rfl, Nat.le_of_ble_eq_true rfl⟩) hP hD hS hA [1, 2] [0, 3, 4, 5] rfl rfl (by decide) (by decide) (fun r2 u2 H locs hw2 hP hD hS => ?_)
      obtain ⟨rfl, hq2_1, hq2_2, hq2_3, hq2_4⟩ := hw2
      have hP : va_P D vwCl [zO lr 2 [vR ta, vR la, vI yo], zI l0 (cy 0) 600 yl, zO la 1 [vR l0, vI ys, vR l2, vR l3], zI l2 (cy 0) 5 yf2, zO ta 8 [vR tb, vI fed, vI len, vI (u2.2.1 1), vI yw, vI yf, vI yg], zI tb (cy 1) 600 bf] H := hP
      have hD : va_D A [zO lr 2 [vR ta, vR la, vI yo], zI l0 (cy 0) 600 yl, zO la 1 [vR l0, vI ys, vR l2, vR l3], zI l2 (cy 0) 5 yf2, zO ta 8 [vR tb, vI fed, vI len, vI (u2.2.1 1), vI yw, vI yf, vI yg], zI tb (cy 1) 600 bf] := hD
      refine iz_eq (tgt := 36) hx hb dX2_read_23 (by decide) (by first | exact rgw hq2_1 (by decide) (by decide) | omega) (fun c_2 => ?_) (fun c_2 => ?_)
      · refine W.widen (k := 0) (n := 0) (Nat.le_of_ble_eq_true rfl) (Nat.le_of_ble_eq_true rfl) ?_
        exact W.vret hx hb hr (fun t ht hW => ⟨⟨((fun k => ([] : List Nat).getD k 0), (fun k => ([(u2.2.1 1), yw, yf, yg, ys, yo] : List Int).getD k 0), (fun k => ([yl, yf2] : List (Nat → Int32)).getD k (fun _ => 0))), rfl, ⟨(by show (0 ≤ (u2.2.1 1) ∧ (u2.2.1 1) ≤ 600); first | exact hq2_2 | omega), (by show (0 ≤ yw ∧ yw ≤ 600); first | exact hl9_4 | omega), (by show (0 ≤ yf ∧ yf ≤ 4); first | exact hl9_5 | omega), (by show ((-1) ≤ yg ∧ yg ≤ 600); first | exact hl9_6 | omega), (by show (0 ≤ ys ∧ ys ≤ 600); first | exact hl9_1 | omega), (by show (0 ≤ yo ∧ yo ≤ 6); first | exact hl9_2 | omega), (by show (yo = op); omega), hiyl⟩, by rw [ht]; exact hP.sub [0, 4, 5, 2, 1, 3] rfl, hD.sub [0, 4, 5, 2, 1, 3] (by decide) rfl⟩, hS.F ht⟩) hS.2.2 dX2_read_36
      · refine lv_aload_n hx hb dX2_read_26 rfl (lv_at hlv 1 rfl) ?_
        refine cj_v (wr := []) (va_runV (As := []) (rest := []) ⟨hx, hb, hml, hown, hts⟩ (w_saying l hl D cy sa lr ta tb fed len (u2.2.1 1) yw yf yg bf la l0 l2 l3 ys yl yo yf2 H.size (by first | exact hr_fed | omega) (by first | exact hr_len | omega) (by first | exact hq2_2 | omega) (by first | exact hl9_4 | omega) (by first | exact hl9_5 | omega) (by first | exact hl9_6 | omega) (by first | exact hl9_1 | omega) (by first | exact hl9_2 | omega) hiyl) (cwV 0 hts gg_3 rfl rfl rfl (by decide +kernel) ⟨Nat.le_of_ble_eq_true rfl, Nat.le_of_ble_eq_true rfl⟩) ⟨pcW.blind, (va_recv hG.1 hP (ci := 2) (q0 := 0) rfl rfl), (pcW.mk hP hD hS hA hG hT [0, 4, 5, 2, 1, 3] rfl (by decide))⟩ rfl rfl hlv.1 rfl (lv_room (Nat.le_of_ble_eq_true rfl)) dX2_read_27 ⟨Nat.le_of_ble_eq_true rfl, Nat.le_of_ble_eq_true rfl⟩) hP hD hS hA [0, 4, 5, 2, 1, 3] [] rfl rfl (by decide) (by decide) (fun u3 H locs hw3 hP hD hS => ?_)
        obtain ⟨hq3_0, hq3_1, hq3_2, hq3_3, hq3_4, hq3_5, hq3_6, hq3_7⟩ := hw3
        have hP : va_P D vwCl [zO lr 2 [vR ta, vR la, vI (u3.2.1 5)], zO ta 8 [vR tb, vI fed, vI len, vI (u3.2.1 0), vI (u3.2.1 1), vI (u3.2.1 2), vI (u3.2.1 3)], zI tb (cy 1) 600 bf, zO la 1 [vR l0, vI (u3.2.1 4), vR l2, vR l3], zI l0 (cy 0) 600 (u3.2.2 0), zI l2 (cy 0) 5 (u3.2.2 1)] H := hP
        have hD : va_D A [zO lr 2 [vR ta, vR la, vI (u3.2.1 5)], zO ta 8 [vR tb, vI fed, vI len, vI (u3.2.1 0), vI (u3.2.1 1), vI (u3.2.1 2), vI (u3.2.1 3)], zI tb (cy 1) 600 bf, zO la 1 [vR l0, vI (u3.2.1 4), vR l2, vR l3], zI l0 (cy 0) 600 (u3.2.2 0), zI l2 (cy 0) 5 (u3.2.2 1)] := hD
        obtain ⟨z_3, hz_3⟩ : ∃ z : Int, z = q + 1 := ⟨_, rfl⟩
        refine lv_iinc (v := iI z_3) (lv' := [(1, vI z_3), (0, vR lr)]) hx hb dX2_read_30 hlv (k := 0) rfl (by rw [hz_3]; exact (Int32.ofInt_add _ _).symm) (by decide) rfl (fun ls hlv => ?_)
        refine lv_goto (tgt := 9) hx hb dX2_read_33 (by decide) ?_
        exact ih9 z_3 (u3.2.1 4) (u3.2.1 5) (u3.2.2 0) (u3.2.2 1) (u3.2.1 0) (u3.2.1 1) (u3.2.1 2) (u3.2.1 3) H locs ls (by omega) (by omega) (by first | exact hq3_4 | omega) (by first | exact hq3_5 | omega) (by first | exact hq3_0 | omega) (by first | exact hq3_1 | omega) (by first | exact hq3_2 | omega) (by first | exact hq3_3 | omega) (by omega) hq3_7 (hP.sub [0, 1, 2, 4, 3, 5] rfl) (hD.sub [0, 1, 2, 4, 3, 5] (by decide) rfl) hS (lv_sub hlv [0, 1] rfl)
