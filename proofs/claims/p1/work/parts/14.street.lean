theorem dX11_beginText_0 : decode cX11_beginText 0 = .ok (.aload_n 0, 1) := by decide +kernel
theorem dX11_beginText_1 : decode cX11_beginText 1 = .ok (.iload_n 1, 1) := by decide +kernel
theorem dX11_beginText_10 : decode cX11_beginText 10 = .ok (.invokestatic 130, 3) := by decide +kernel
theorem dX11_beginText_13 : decode cX11_beginText 13 = .ok (.invokevirtual 134, 3) := by decide +kernel
theorem dX11_beginText_16 : decode cX11_beginText 16 = .ok (.aload_n 0, 1) := by decide +kernel
theorem dX11_beginText_17 : decode cX11_beginText 17 = .ok (.getfield 10, 3) := by decide +kernel
theorem dX11_beginText_2 : decode cX11_beginText 2 = .ok (.iconst 0, 1) := by decide +kernel
theorem dX11_beginText_20 : decode cX11_beginText 20 = .ok (.iload_n 1, 1) := by decide +kernel
theorem dX11_beginText_21 : decode cX11_beginText 21 = .ok (.invokevirtual 345, 3) := by decide +kernel
theorem dX11_beginText_24 : decode cX11_beginText 24 = .ok (.return_, 1) := by decide +kernel
theorem dX11_beginText_3 : decode cX11_beginText 3 = .ok (.aload_n 0, 1) := by decide +kernel
theorem dX11_beginText_4 : decode cX11_beginText 4 = .ok (.getfield 10, 3) := by decide +kernel
theorem dX11_beginText_7 : decode cX11_beginText 7 = .ok (.getfield 81, 3) := by decide +kernel
theorem dX11_law_0 : decode cX11_law 0 = .ok (.aload_n 0, 1) := by decide +kernel
theorem dX11_law_1 : decode cX11_law 1 = .ok (.iload_n 1, 1) := by decide +kernel
theorem dX11_law_2 : decode cX11_law 2 = .ok (.invokevirtual 85, 3) := by decide +kernel
theorem dX11_rain_0 : decode cX11_rain 0 = .ok (.aload_n 0, 1) := by decide +kernel
theorem dX11_rain_1 : decode cX11_rain 1 = .ok (.iload_n 1, 1) := by decide +kernel
theorem dX11_rain_2 : decode cX11_rain 2 = .ok (.invokevirtual 85, 3) := by decide +kernel
theorem dX11_street_0 : decode cX11_street 0 = .ok (.aload_n 0, 1) := by decide +kernel
theorem dX11_street_1 : decode cX11_street 1 = .ok (.iload_n 1, 1) := by decide +kernel
theorem dX11_street_10 : decode cX11_street 10 = .ok (.getfield 10, 3) := by decide +kernel
theorem dX11_street_13 : decode cX11_street 13 = .ok (.aload_n 0, 1) := by decide +kernel
theorem dX11_street_14 : decode cX11_street 14 = .ok (.getfield 35, 3) := by decide +kernel
theorem dX11_street_17 : decode cX11_street 17 = .ok (.invokespecial 90, 3) := by decide +kernel
theorem dX11_street_2 : decode cX11_street 2 = .ok (.invokevirtual 85, 3) := by decide +kernel
theorem dX11_street_20 : decode cX11_street 20 = .ok (.invokevirtual 93, 3) := by decide +kernel
theorem dX11_street_23 : decode cX11_street 23 = .ok (.aload_n 0, 1) := by decide +kernel
theorem dX11_street_24 : decode cX11_street 24 = .ok (.getfield 10, 3) := by decide +kernel
theorem dX11_street_27 : decode cX11_street 27 = .ok (.invokevirtual 96, 3) := by decide +kernel
theorem dX11_street_30 : decode cX11_street 30 = .ok (.ifCond .ne 14, 3) := by decide +kernel
theorem dX11_street_44 : decode cX11_street 44 = .ok (.aload_n 0, 1) := by decide +kernel
theorem dX11_street_45 : decode cX11_street 45 = .ok (.getfield 31, 3) := by decide +kernel
theorem dX11_street_48 : decode cX11_street 48 = .ok (.astore_n 2, 1) := by decide +kernel
theorem dX11_street_49 : decode cX11_street 49 = .ok (.aload_n 0, 1) := by decide +kernel
theorem dX11_street_5 : decode cX11_street 5 = .ok (.new 88, 3) := by decide +kernel
theorem dX11_street_50 : decode cX11_street 50 = .ok (.aload_n 0, 1) := by decide +kernel
theorem dX11_street_51 : decode cX11_street 51 = .ok (.getfield 35, 3) := by decide +kernel
theorem dX11_street_54 : decode cX11_street 54 = .ok (.putfield 31, 3) := by decide +kernel
theorem dX11_street_57 : decode cX11_street 57 = .ok (.aload_n 0, 1) := by decide +kernel
theorem dX11_street_58 : decode cX11_street 58 = .ok (.aload_n 2, 1) := by decide +kernel
theorem dX11_street_59 : decode cX11_street 59 = .ok (.putfield 35, 3) := by decide +kernel
theorem dX11_street_62 : decode cX11_street 62 = .ok (.aload_n 0, 1) := by decide +kernel
theorem dX11_street_63 : decode cX11_street 63 = .ok (.getfield 41, 3) := by decide +kernel
theorem dX11_street_66 : decode cX11_street 66 = .ok (.invokevirtual 102, 3) := by decide +kernel
theorem dX11_street_69 : decode cX11_street 69 = .ok (.aload_n 0, 1) := by decide +kernel
theorem dX11_street_70 : decode cX11_street 70 = .ok (.iconst 0, 1) := by decide +kernel
theorem dX11_street_71 : decode cX11_street 71 = .ok (.putfield 105, 3) := by decide +kernel
theorem dX11_street_74 : decode cX11_street 74 = .ok (.aload_n 0, 1) := by decide +kernel
theorem dX11_street_75 : decode cX11_street 75 = .ok (.getfield 31, 3) := by decide +kernel
theorem dX11_street_78 : decode cX11_street 78 = .ok (.invokevirtual 108, 3) := by decide +kernel
theorem dX11_street_8 : decode cX11_street 8 = .ok (.dup, 1) := by decide +kernel
theorem dX11_street_81 : decode cX11_street 81 = .ok (.ireturn, 1) := by decide +kernel
theorem dX11_street_9 : decode cX11_street 9 = .ok (.aload_n 0, 1) := by decide +kernel
theorem dX4_reset_0 : decode cX4_reset 0 = .ok (.aload_n 0, 1) := by decide +kernel
theorem dX4_reset_1 : decode cX4_reset 1 = .ok (.iconst 0, 1) := by decide +kernel
theorem dX4_reset_10 : decode cX4_reset 10 = .ok (.aload_n 0, 1) := by decide +kernel
theorem dX4_reset_11 : decode cX4_reset 11 = .ok (.getfield 18, 3) := by decide +kernel
theorem dX4_reset_14 : decode cX4_reset 14 = .ok (.iconst 1, 1) := by decide +kernel
theorem dX4_reset_15 : decode cX4_reset 15 = .ok (.invokestatic 28, 3) := by decide +kernel
theorem dX4_reset_18 : decode cX4_reset 18 = .ok (.return_, 1) := by decide +kernel
theorem dX4_reset_2 : decode cX4_reset 2 = .ok (.putfield 21, 3) := by decide +kernel
theorem dX4_reset_5 : decode cX4_reset 5 = .ok (.aload_n 0, 1) := by decide +kernel
theorem dX4_reset_6 : decode cX4_reset 6 = .ok (.iconst 0, 1) := by decide +kernel
theorem dX4_reset_7 : decode cX4_reset 7 = .ok (.putfield 25, 3) := by decide +kernel
theorem dX6_reset_0 : decode cX6_reset 0 = .ok (.aload_n 0, 1) := by decide +kernel
theorem dX6_reset_1 : decode cX6_reset 1 = .ok (.bipush 8, 2) := by decide +kernel
theorem dX6_reset_11 : decode cX6_reset 11 = .ok (.aload_n 0, 1) := by decide +kernel
theorem dX6_reset_12 : decode cX6_reset 12 = .ok (.getfield 9, 3) := by decide +kernel
theorem dX6_reset_15 : decode cX6_reset 15 = .ok (.bipush 50, 2) := by decide +kernel
theorem dX6_reset_17 : decode cX6_reset 17 = .ok (.invokestatic 35, 3) := by decide +kernel
theorem dX6_reset_20 : decode cX6_reset 20 = .ok (.aload_n 0, 1) := by decide +kernel
theorem dX6_reset_21 : decode cX6_reset 21 = .ok (.getfield 13, 3) := by decide +kernel
theorem dX6_reset_24 : decode cX6_reset 24 = .ok (.iconst 0, 1) := by decide +kernel
theorem dX6_reset_25 : decode cX6_reset 25 = .ok (.invokestatic 35, 3) := by decide +kernel
theorem dX6_reset_28 : decode cX6_reset 28 = .ok (.aload_n 0, 1) := by decide +kernel
theorem dX6_reset_29 : decode cX6_reset 29 = .ok (.iconst 0, 1) := by decide +kernel
theorem dX6_reset_3 : decode cX6_reset 3 = .ok (.putfield 28, 3) := by decide +kernel
theorem dX6_reset_30 : decode cX6_reset 30 = .ok (.putfield 41, 3) := by decide +kernel
theorem dX6_reset_33 : decode cX6_reset 33 = .ok (.aload_n 0, 1) := by decide +kernel
theorem dX6_reset_34 : decode cX6_reset 34 = .ok (.iconst 0, 1) := by decide +kernel
theorem dX6_reset_35 : decode cX6_reset 35 = .ok (.putfield 44, 3) := by decide +kernel
theorem dX6_reset_38 : decode cX6_reset 38 = .ok (.aload_n 0, 1) := by decide +kernel
theorem dX6_reset_39 : decode cX6_reset 39 = .ok (.iconst 0, 1) := by decide +kernel
theorem dX6_reset_40 : decode cX6_reset 40 = .ok (.putfield 47, 3) := by decide +kernel
theorem dX6_reset_43 : decode cX6_reset 43 = .ok (.aload_n 0, 1) := by decide +kernel
theorem dX6_reset_44 : decode cX6_reset 44 = .ok (.iconst 0, 1) := by decide +kernel
theorem dX6_reset_45 : decode cX6_reset 45 = .ok (.putfield 50, 3) := by decide +kernel
theorem dX6_reset_48 : decode cX6_reset 48 = .ok (.aload_n 0, 1) := by decide +kernel
theorem dX6_reset_49 : decode cX6_reset 49 = .ok (.iconst 0, 1) := by decide +kernel
theorem dX6_reset_50 : decode cX6_reset 50 = .ok (.putfield 53, 3) := by decide +kernel
theorem dX6_reset_53 : decode cX6_reset 53 = .ok (.aload_n 0, 1) := by decide +kernel
theorem dX6_reset_54 : decode cX6_reset 54 = .ok (.iconst 0, 1) := by decide +kernel
theorem dX6_reset_55 : decode cX6_reset 55 = .ok (.putfield 56, 3) := by decide +kernel
theorem dX6_reset_58 : decode cX6_reset 58 = .ok (.aload_n 0, 1) := by decide +kernel
theorem dX6_reset_59 : decode cX6_reset 59 = .ok (.iconst 0, 1) := by decide +kernel
theorem dX6_reset_6 : decode cX6_reset 6 = .ok (.aload_n 0, 1) := by decide +kernel
theorem dX6_reset_60 : decode cX6_reset 60 = .ok (.putfield 59, 3) := by decide +kernel
theorem dX6_reset_63 : decode cX6_reset 63 = .ok (.aload_n 0, 1) := by decide +kernel
theorem dX6_reset_64 : decode cX6_reset 64 = .ok (.iconst 0, 1) := by decide +kernel
theorem dX6_reset_65 : decode cX6_reset 65 = .ok (.putfield 62, 3) := by decide +kernel
theorem dX6_reset_68 : decode cX6_reset 68 = .ok (.aload_n 0, 1) := by decide +kernel
theorem dX6_reset_69 : decode cX6_reset 69 = .ok (.iconst 0, 1) := by decide +kernel
theorem dX6_reset_7 : decode cX6_reset 7 = .ok (.iconst 3, 1) := by decide +kernel
theorem dX6_reset_70 : decode cX6_reset 70 = .ok (.putfield 65, 3) := by decide +kernel
theorem dX6_reset_73 : decode cX6_reset 73 = .ok (.aload_n 0, 1) := by decide +kernel
theorem dX6_reset_74 : decode cX6_reset 74 = .ok (.iconst 0, 1) := by decide +kernel
theorem dX6_reset_75 : decode cX6_reset 75 = .ok (.putfield 68, 3) := by decide +kernel
theorem dX6_reset_78 : decode cX6_reset 78 = .ok (.aload_n 0, 1) := by decide +kernel
theorem dX6_reset_79 : decode cX6_reset 79 = .ok (.iconst 0, 1) := by decide +kernel
theorem dX6_reset_8 : decode cX6_reset 8 = .ok (.putfield 32, 3) := by decide +kernel
theorem dX6_reset_80 : decode cX6_reset 80 = .ok (.putfield 71, 3) := by decide +kernel
theorem dX6_reset_83 : decode cX6_reset 83 = .ok (.return_, 1) := by decide +kernel
theorem dX7_init_0 : decode cX7_init 0 = .ok (.aload_n 0, 1) := by decide +kernel
theorem dX7_init_1 : decode cX7_init 1 = .ok (.invokespecial 3, 3) := by decide +kernel
theorem dX7_init_10 : decode cX7_init 10 = .ok (.aload_n 2, 1) := by decide +kernel
theorem dX7_init_11 : decode cX7_init 11 = .ok (.putfield 15, 3) := by decide +kernel
theorem dX7_init_14 : decode cX7_init 14 = .ok (.return_, 1) := by decide +kernel
theorem dX7_init_4 : decode cX7_init 4 = .ok (.aload_n 0, 1) := by decide +kernel
theorem dX7_init_5 : decode cX7_init 5 = .ok (.aload_n 1, 1) := by decide +kernel
theorem dX7_init_6 : decode cX7_init 6 = .ok (.putfield 9, 3) := by decide +kernel
theorem dX7_init_9 : decode cX7_init 9 = .ok (.aload_n 0, 1) := by decide +kernel
theorem dX7_read_0 : decode cX7_read 0 = .ok (.aload_n 0, 1) := by decide +kernel
theorem dX7_read_1 : decode cX7_read 1 = .ok (.getfield 15, 3) := by decide +kernel
theorem dX7_read_10 : decode cX7_read 10 = .ok (.bipush 60, 2) := by decide +kernel
theorem dX7_read_12 : decode cX7_read 12 = .ok (.if_icmp .gt 24, 3) := by decide +kernel
theorem dX7_read_15 : decode cX7_read 15 = .ok (.aload_n 0, 1) := by decide +kernel
theorem dX7_read_16 : decode cX7_read 16 = .ok (.getfield 9, 3) := by decide +kernel
theorem dX7_read_19 : decode cX7_read 19 = .ok (.invokevirtual 24, 3) := by decide +kernel
theorem dX7_read_22 : decode cX7_read 22 = .ok (.ifCond .eq 14, 3) := by decide +kernel
theorem dX7_read_36 : decode cX7_read 36 = .ok (.return_, 1) := by decide +kernel
theorem dX7_read_4 : decode cX7_read 4 = .ok (.invokevirtual 19, 3) := by decide +kernel
theorem dX7_read_7 : decode cX7_read 7 = .ok (.iconst 0, 1) := by decide +kernel
theorem dX7_read_8 : decode cX7_read 8 = .ok (.istore_n 1, 1) := by decide +kernel
theorem dX7_read_9 : decode cX7_read 9 = .ok (.iload_n 1, 1) := by decide +kernel
theorem dX8_begin_0 : decode cX8_begin 0 = .ok (.aload_n 0, 1) := by decide +kernel
theorem dX8_begin_1 : decode cX8_begin 1 = .ok (.iload_n 1, 1) := by decide +kernel
theorem dX8_begin_10 : decode cX8_begin 10 = .ok (.aload_n 0, 1) := by decide +kernel
theorem dX8_begin_11 : decode cX8_begin 11 = .ok (.iconst 0, 1) := by decide +kernel
theorem dX8_begin_12 : decode cX8_begin 12 = .ok (.putfield 25, 3) := by decide +kernel
theorem dX8_begin_15 : decode cX8_begin 15 = .ok (.aload_n 0, 1) := by decide +kernel
theorem dX8_begin_16 : decode cX8_begin 16 = .ok (.iconst 0, 1) := by decide +kernel
theorem dX8_begin_17 : decode cX8_begin 17 = .ok (.putfield 28, 3) := by decide +kernel
theorem dX8_begin_2 : decode cX8_begin 2 = .ok (.putfield 22, 3) := by decide +kernel
theorem dX8_begin_20 : decode cX8_begin 20 = .ok (.aload_n 0, 1) := by decide +kernel
theorem dX8_begin_21 : decode cX8_begin 21 = .ok (.iconst 0, 1) := by decide +kernel
theorem dX8_begin_22 : decode cX8_begin 22 = .ok (.putfield 31, 3) := by decide +kernel
theorem dX8_begin_25 : decode cX8_begin 25 = .ok (.aload_n 0, 1) := by decide +kernel
theorem dX8_begin_26 : decode cX8_begin 26 = .ok (.iconst (-1), 1) := by decide +kernel
theorem dX8_begin_27 : decode cX8_begin 27 = .ok (.putfield 15, 3) := by decide +kernel
theorem dX8_begin_30 : decode cX8_begin 30 = .ok (.return_, 1) := by decide +kernel
theorem dX8_begin_5 : decode cX8_begin 5 = .ok (.aload_n 0, 1) := by decide +kernel
theorem dX8_begin_6 : decode cX8_begin 6 = .ok (.iconst 0, 1) := by decide +kernel
theorem dX8_begin_7 : decode cX8_begin 7 = .ok (.putfield 19, 3) := by decide +kernel
theorem dX8_good_0 : decode cX8_good 0 = .ok (.aload_n 0, 1) := by decide +kernel
theorem dX8_good_1 : decode cX8_good 1 = .ok (.getfield 31, 3) := by decide +kernel
theorem dX8_good_12 : decode cX8_good 12 = .ok (.ireturn, 1) := by decide +kernel
theorem dX8_good_4 : decode cX8_good 4 = .ok (.ifCond .ne 7, 3) := by decide +kernel
theorem dX8_good_7 : decode cX8_good 7 = .ok (.iconst 1, 1) := by decide +kernel
theorem dX8_good_8 : decode cX8_good 8 = .ok (.goto 4, 3) := by decide +kernel
theorem dX8_hasMore_0 : decode cX8_hasMore 0 = .ok (.aload_n 0, 1) := by decide +kernel
theorem dX8_hasMore_1 : decode cX8_hasMore 1 = .ok (.invokevirtual 34, 3) := by decide +kernel
theorem dX8_hasMore_12 : decode cX8_hasMore 12 = .ok (.iconst 0, 1) := by decide +kernel
theorem dX8_hasMore_13 : decode cX8_hasMore 13 = .ok (.ireturn, 1) := by decide +kernel
theorem dX8_hasMore_4 : decode cX8_hasMore 4 = .ok (.iconst (-1), 1) := by decide +kernel
theorem dX8_hasMore_5 : decode cX8_hasMore 5 = .ok (.if_icmp .eq 7, 3) := by decide +kernel
theorem dX8_sign_0 : decode cX8_sign 0 = .ok (.aload_n 0, 1) := by decide +kernel
theorem dX8_sign_1 : decode cX8_sign 1 = .ok (.getfield 31, 3) := by decide +kernel
theorem dX8_sign_10 : decode cX8_sign 10 = .ok (.getfield 25, 3) := by decide +kernel
theorem dX8_sign_13 : decode cX8_sign 13 = .ok (.aload_n 0, 1) := by decide +kernel
theorem dX8_sign_14 : decode cX8_sign 14 = .ok (.getfield 22, 3) := by decide +kernel
theorem dX8_sign_17 : decode cX8_sign 17 = .ok (.if_icmp .ge 30, 3) := by decide +kernel
theorem dX8_sign_4 : decode cX8_sign 4 = .ok (.ifCond .eq 5, 3) := by decide +kernel
theorem dX8_sign_47 : decode cX8_sign 47 = .ok (.aload_n 0, 1) := by decide +kernel
theorem dX8_sign_48 : decode cX8_sign 48 = .ok (.getfield 25, 3) := by decide +kernel
theorem dX8_sign_51 : decode cX8_sign 51 = .ok (.aload_n 0, 1) := by decide +kernel
theorem dX8_sign_52 : decode cX8_sign 52 = .ok (.getfield 22, 3) := by decide +kernel
theorem dX8_sign_55 : decode cX8_sign 55 = .ok (.if_icmp .ge 19, 3) := by decide +kernel
theorem dX8_sign_74 : decode cX8_sign 74 = .ok (.iconst (-1), 1) := by decide +kernel
theorem dX8_sign_75 : decode cX8_sign 75 = .ok (.ireturn, 1) := by decide +kernel
theorem dX8_sign_9 : decode cX8_sign 9 = .ok (.aload_n 0, 1) := by decide +kernel
def vs_c_begin : List Cond := .code yX8_begin cX8_begin 2 none :: (([.fieldLink RX8 22 "KerbSplash$Tape" "length" "I", .fieldLink RX8 19 "KerbSplash$Tape" "fed" "I", .fieldLink RX8 25 "KerbSplash$Tape" "at" "I", .fieldLink RX8 28 "KerbSplash$Tape" "wordEnd" "I", .fieldLink RX8 31 "KerbSplash$Tape" "fault" "I", .fieldLink RX8 15 "KerbSplash$Tape" "faultAt" "I"] : List Cond) ++ ((wsX80) ++ ([])))
set_option maxHeartbeats 4000000 in
set_option maxRecDepth 100000 in
theorem c_begin (l : Launch) (hl : l.stackTraces = false) (D : va_G) (cy : Nat → ClassId) (sa : Nat → Nat) (ka : Nat → Nat) (sz : Nat) : Met l yX8_begin vs_c_begin ({ frames := 0, cells := 0, slots := 0, locals := 0 }) (va_Pc [.ref (ka 0), .int 0] (pcW D cy sa sz [((ka 0), .inr (8, [.ref (ka 20), .int 0, .int 0, .int 0, .int 0, .int 0, .int (-1)]))])) (va_Qv (fun u : SU => (True)) (fun u t => atW D (va_A [((ka 0), .inr (8, [.ref (ka 20), .int 0, .int 0, .int 0, .int 0, .int 0, .int (-1)]))] sz) [((ka 0), .inr (8, [.ref (ka 20), .int 0, .int 0, .int 0, .int 0, .int 0, .int (-1)]))] t) (va_A [((ka 0), .inr (8, [.ref (ka 20), .int 0, .int 0, .int 0, .int 0, .int 0, .int (-1)]))] sz)) 0 0 (va_A [((ka 0), .inr (8, [.ref (ka 20), .int 0, .int 0, .int 0, .int 0, .int 0, .int (-1)]))] sz) := by
  refine Met.ofW (cc := cX8_begin) (maxL := 2) (ret := none) (by decide) rfl ?_
  intro p e s m args below meth c s₁ B hml hv
  obtain ⟨rfl, hsz, hP, hG, hD0, hT⟩ := hv
  have hx := B.exec
  have hb := B.bytes
  have hr := B.returns
  have hts := atoms_spec (ws := vs_c_begin) B.pre
  have hown : s.vm.findClass RX8 = some m.cls := findClass_of_methodNamed B.named
  have hlocks := B.notSynchronized
  subst hsz
  have hD := hD0.self (sz := s.heap.size)
  generalize hAe : va_A [((ka 0), .inr (8, [.ref (ka 20), .int 0, .int 0, .int 0, .int 0, .int 0, .int (-1)]))] s.heap.size = A at hD hT ⊢
  have hA : ∀ q : Nat, s.heap.size ≤ q → A q := fun q h => by rw [← hAe]; exact Or.inr h
  have hS : va_S A s.heap s.heap [] := va_S.rf
  have hl0 := lv_entry ([.ref (ka 0), .int 0]) (n := 2) (Nat.le_of_ble_eq_true rfl)
  rw [lg_entry_eq]
  generalize (lg_sl ([.ref (ka 0), .int 0]) ++ List.replicate (2 - (lg_sl ([.ref (ka 0), .int 0])).length) Slot.unset).toArray = ls at hl0 ⊢
  have hlv : lv_has ls 2 [(0, .ref (ka 0)), (1, .int 0)] := hl0
  have lf22 := hts (.fieldLink RX8 22 "KerbSplash$Tape" "length" "I") (List.mem_of_getElem? (i := 1) rfl)
  have hi8 : ∀ w ∈ wsX80, w ∈ vs_c_begin := fun w h => List.mem_cons_of_mem _ (List.mem_append_right _ (List.mem_append_left _ h))
  have lf19 := hts (.fieldLink RX8 19 "KerbSplash$Tape" "fed" "I") (List.mem_of_getElem? (i := 2) rfl)
  have lf25 := hts (.fieldLink RX8 25 "KerbSplash$Tape" "at" "I") (List.mem_of_getElem? (i := 3) rfl)
  have lf28 := hts (.fieldLink RX8 28 "KerbSplash$Tape" "wordEnd" "I") (List.mem_of_getElem? (i := 4) rfl)
  have lf31 := hts (.fieldLink RX8 31 "KerbSplash$Tape" "fault" "I") (List.mem_of_getElem? (i := 5) rfl)
  have lf15 := hts (.fieldLink RX8 15 "KerbSplash$Tape" "faultAt" "I") (List.mem_of_getElem? (i := 6) rfl)
  refine lv_aload_n hx hb dX8_begin_0 rfl (lv_at hlv 0 rfl) ?_
  refine lv_iload_n hx hb dX8_begin_1 rfl (lv_at hlv 1 rfl) ?_
  refine va_put (D := D) (ci := 8) (v := .int 0) (ty := .int) (C := RX8) (T := TX8) (N := 7) hx hb hts hi8 tyX8 tyX8_ok nmX8 hown hG.1 hP hD hS 0 rfl rfl 2 (by decide) lf22 (fun _ h9 => h9) rfl (by decide +kernel) rfl rfl (Nat.le_of_ble_eq_true rfl) dX8_begin_2 (fun H locs hP hD hS => ?_)
  have hP : va_P D vwCl [((ka 0), .inr (8, [.ref (ka 20), .int 0, .int 0, .int 0, .int 0, .int 0, .int (-1)]))] H := hP
  have hD : va_D A [((ka 0), .inr (8, [.ref (ka 20), .int 0, .int 0, .int 0, .int 0, .int 0, .int (-1)]))] := hD
  refine lv_aload_n hx hb dX8_begin_5 rfl (lv_at hlv 0 rfl) ?_
  refine lv_iconst (v := 0) hx hb dX8_begin_6 (by decide) ?_
  refine va_put (D := D) (ci := 8) (v := .int 0) (ty := .int) (C := RX8) (T := TX8) (N := 7) hx hb hts hi8 tyX8 tyX8_ok nmX8 hown hG.1 hP hD hS 0 rfl rfl 1 (by decide) lf19 (fun _ h9 => h9) rfl (by decide +kernel) rfl rfl (Nat.le_of_ble_eq_true rfl) dX8_begin_7 (fun H locs hP hD hS => ?_)
  have hP : va_P D vwCl [((ka 0), .inr (8, [.ref (ka 20), .int 0, .int 0, .int 0, .int 0, .int 0, .int (-1)]))] H := hP
  have hD : va_D A [((ka 0), .inr (8, [.ref (ka 20), .int 0, .int 0, .int 0, .int 0, .int 0, .int (-1)]))] := hD
  refine lv_aload_n hx hb dX8_begin_10 rfl (lv_at hlv 0 rfl) ?_
  refine lv_iconst (v := 0) hx hb dX8_begin_11 (by decide) ?_
  refine va_put (D := D) (ci := 8) (v := .int 0) (ty := .int) (C := RX8) (T := TX8) (N := 7) hx hb hts hi8 tyX8 tyX8_ok nmX8 hown hG.1 hP hD hS 0 rfl rfl 3 (by decide) lf25 (fun _ h9 => h9) rfl (by decide +kernel) rfl rfl (Nat.le_of_ble_eq_true rfl) dX8_begin_12 (fun H locs hP hD hS => ?_)
  have hP : va_P D vwCl [((ka 0), .inr (8, [.ref (ka 20), .int 0, .int 0, .int 0, .int 0, .int 0, .int (-1)]))] H := hP
  have hD : va_D A [((ka 0), .inr (8, [.ref (ka 20), .int 0, .int 0, .int 0, .int 0, .int 0, .int (-1)]))] := hD
  refine lv_aload_n hx hb dX8_begin_15 rfl (lv_at hlv 0 rfl) ?_
  refine lv_iconst (v := 0) hx hb dX8_begin_16 (by decide) ?_
  refine va_put (D := D) (ci := 8) (v := .int 0) (ty := .int) (C := RX8) (T := TX8) (N := 7) hx hb hts hi8 tyX8 tyX8_ok nmX8 hown hG.1 hP hD hS 0 rfl rfl 4 (by decide) lf28 (fun _ h9 => h9) rfl (by decide +kernel) rfl rfl (Nat.le_of_ble_eq_true rfl) dX8_begin_17 (fun H locs hP hD hS => ?_)
  have hP : va_P D vwCl [((ka 0), .inr (8, [.ref (ka 20), .int 0, .int 0, .int 0, .int 0, .int 0, .int (-1)]))] H := hP
  have hD : va_D A [((ka 0), .inr (8, [.ref (ka 20), .int 0, .int 0, .int 0, .int 0, .int 0, .int (-1)]))] := hD
  refine lv_aload_n hx hb dX8_begin_20 rfl (lv_at hlv 0 rfl) ?_
  refine lv_iconst (v := 0) hx hb dX8_begin_21 (by decide) ?_
  refine va_put (D := D) (ci := 8) (v := .int 0) (ty := .int) (C := RX8) (T := TX8) (N := 7) hx hb hts hi8 tyX8 tyX8_ok nmX8 hown hG.1 hP hD hS 0 rfl rfl 5 (by decide) lf31 (fun _ h9 => h9) rfl (by decide +kernel) rfl rfl (Nat.le_of_ble_eq_true rfl) dX8_begin_22 (fun H locs hP hD hS => ?_)
  have hP : va_P D vwCl [((ka 0), .inr (8, [.ref (ka 20), .int 0, .int 0, .int 0, .int 0, .int 0, .int (-1)]))] H := hP
  have hD : va_D A [((ka 0), .inr (8, [.ref (ka 20), .int 0, .int 0, .int 0, .int 0, .int 0, .int (-1)]))] := hD
  refine lv_aload_n hx hb dX8_begin_25 rfl (lv_at hlv 0 rfl) ?_
  refine lv_iconst (v := (-1)) hx hb dX8_begin_26 (by decide) ?_
  refine va_put (D := D) (ci := 8) (v := .int (-1)) (ty := .int) (C := RX8) (T := TX8) (N := 7) hx hb hts hi8 tyX8 tyX8_ok nmX8 hown hG.1 hP hD hS 0 rfl rfl 6 (by decide) lf15 (fun _ h9 => h9) rfl (by decide +kernel) rfl rfl (Nat.le_of_ble_eq_true rfl) dX8_begin_27 (fun H locs hP hD hS => ?_)
  have hP : va_P D vwCl [((ka 0), .inr (8, [.ref (ka 20), .int 0, .int 0, .int 0, .int 0, .int 0, .int (-1)]))] H := hP
  have hD : va_D A [((ka 0), .inr (8, [.ref (ka 20), .int 0, .int 0, .int 0, .int 0, .int 0, .int (-1)]))] := hD
  refine W.widen (k := 0) (n := 0) (Nat.le_of_ble_eq_true rfl) (Nat.le_of_ble_eq_true rfl) ?_
  exact W.vret hx hb hr (fun t ht hW => ⟨⟨((fun k => ([] : List Nat).getD k 0), (fun k => ([] : List Int32).getD k 0), (fun k => ([] : List (Nat → Int32)).getD k (fun _ => 0))), rfl, (by first | (trivial)), by rw [ht]; exact hP.sub [0] rfl, hD.sub [0] (by decide) rfl⟩, hS.F ht⟩) hS.2.2 dX8_begin_30
def vs_c_beginText0 : List Cond := .code yX11_beginText cX11_beginText 2 none :: (([.fieldLink RX11 10 "KerbSplash" "tape" "LKerbSplash$Tape;", .initialized RX8, .instanceMethod yX8_begin, .selects RX8 yX8_begin yX8_begin] : List Cond) ++ ((wsX110) ++ ((wsX80) ++ ((va_wsS RX11 130 yX11_isWithin wsX11_isWithin) ++ ((wsV RX11 134 RX11 yX11_needArgument wsX11_needArgument) ++ ((vs_c_begin) ++ ([])))))))
set_option maxHeartbeats 4000000 in
set_option maxRecDepth 100000 in
theorem c_beginText0 (l : Launch) (hl : l.stackTraces = false) (D : va_G) (cy : Nat → ClassId) (sa : Nat → Nat) (ko : Nat) (ka : Nat → Nat) (sz : Nat) : Met l yX11_beginText vs_c_beginText0 ({ frames := 1, cells := 0, slots := 0, locals := 22 }) (va_Pc [.ref ko, .int 0] (pcW D cy sa sz [(ko, .inr (11, [.ref (ka 0), .ref (ka 1), .ref (ka 2), .int 0, .int 0, .ref (ka 5), .ref (ka 6), .ref (ka 7), .ref (ka 8), .ref (ka 9), .int 0, .ref (ka 11), .ref (ka 12), .ref (ka 13)])), ((ka 0), .inr (8, [.ref (ka 20), .int 0, .int 0, .int 0, .int 0, .int 0, .int (-1)]))])) (va_Qv (fun u : SU => (True)) (fun u t => atW D (va_A [(ko, .inr (11, [.ref (ka 0), .ref (ka 1), .ref (ka 2), .int 0, .int 0, .ref (ka 5), .ref (ka 6), .ref (ka 7), .ref (ka 8), .ref (ka 9), .int 0, .ref (ka 11), .ref (ka 12), .ref (ka 13)])), ((ka 0), .inr (8, [.ref (ka 20), .int 0, .int 0, .int 0, .int 0, .int 0, .int (-1)]))] sz) [(ko, .inr (11, [.ref (ka 0), .ref (ka 1), .ref (ka 2), .int 0, .int 0, .ref (ka 5), .ref (ka 6), .ref (ka 7), .ref (ka 8), .ref (ka 9), .int 0, .ref (ka 11), .ref (ka 12), .ref (ka 13)])), ((ka 0), .inr (8, [.ref (ka 20), .int 0, .int 0, .int 0, .int 0, .int 0, .int (-1)]))] t) (va_A [(ko, .inr (11, [.ref (ka 0), .ref (ka 1), .ref (ka 2), .int 0, .int 0, .ref (ka 5), .ref (ka 6), .ref (ka 7), .ref (ka 8), .ref (ka 9), .int 0, .ref (ka 11), .ref (ka 12), .ref (ka 13)])), ((ka 0), .inr (8, [.ref (ka 20), .int 0, .int 0, .int 0, .int 0, .int 0, .int (-1)]))] sz)) 0 0 (va_A [(ko, .inr (11, [.ref (ka 0), .ref (ka 1), .ref (ka 2), .int 0, .int 0, .ref (ka 5), .ref (ka 6), .ref (ka 7), .ref (ka 8), .ref (ka 9), .int 0, .ref (ka 11), .ref (ka 12), .ref (ka 13)])), ((ka 0), .inr (8, [.ref (ka 20), .int 0, .int 0, .int 0, .int 0, .int 0, .int (-1)]))] sz) := by
  refine Met.ofW (cc := cX11_beginText) (maxL := 2) (ret := none) (by decide) rfl ?_
  intro p e s m args below meth c s₁ B hml hv
  obtain ⟨rfl, hsz, hP, hG, hD0, hT⟩ := hv
  have hx := B.exec
  have hb := B.bytes
  have hr := B.returns
  have hts := atoms_spec (ws := vs_c_beginText0) B.pre
  have hown : s.vm.findClass RX11 = some m.cls := findClass_of_methodNamed B.named
  have hlocks := B.notSynchronized
  subst hsz
  have hD := hD0.self (sz := s.heap.size)
  generalize hAe : va_A [(ko, .inr (11, [.ref (ka 0), .ref (ka 1), .ref (ka 2), .int 0, .int 0, .ref (ka 5), .ref (ka 6), .ref (ka 7), .ref (ka 8), .ref (ka 9), .int 0, .ref (ka 11), .ref (ka 12), .ref (ka 13)])), ((ka 0), .inr (8, [.ref (ka 20), .int 0, .int 0, .int 0, .int 0, .int 0, .int (-1)]))] s.heap.size = A at hD hT ⊢
  have hA : ∀ q : Nat, s.heap.size ≤ q → A q := fun q h => by rw [← hAe]; exact Or.inr h
  have hS : va_S A s.heap s.heap [] := va_S.rf
  have hl0 := lv_entry ([.ref ko, .int 0]) (n := 2) (Nat.le_of_ble_eq_true rfl)
  rw [lg_entry_eq]
  generalize (lg_sl ([.ref ko, .int 0]) ++ List.replicate (2 - (lg_sl ([.ref ko, .int 0])).length) Slot.unset).toArray = ls at hl0 ⊢
  have hlv : lv_has ls 2 [(0, .ref ko), (1, .int 0)] := hl0
  have lf10 := hts (.fieldLink RX11 10 "KerbSplash" "tape" "LKerbSplash$Tape;") (List.mem_of_getElem? (i := 1) rfl)
  have hi11 : ∀ w ∈ wsX110, w ∈ vs_c_beginText0 := fun w h => List.mem_cons_of_mem _ (List.mem_append_right _ (List.mem_append_left _ h))
  have hi8 : ∀ w ∈ wsX80, w ∈ vs_c_beginText0 := fun w h => List.mem_cons_of_mem _ (List.mem_append_right _ (List.mem_append_right _ (List.mem_append_left _ h)))
  have gg_2 : GoodIn vs_c_beginText0 (va_wsS RX11 130 yX11_isWithin wsX11_isWithin) := goodIn_sub (fun w h => List.mem_cons_of_mem _ (List.mem_append_right _ (List.mem_append_right _ (List.mem_append_right _ (List.mem_append_left _ h))))) (by decide +kernel)
  have gg_3 : GoodIn vs_c_beginText0 (wsV RX11 134 RX11 yX11_needArgument wsX11_needArgument) := goodIn_sub (fun w h => List.mem_cons_of_mem _ (List.mem_append_right _ (List.mem_append_right _ (List.mem_append_right _ (List.mem_append_right _ (List.mem_append_left _ h)))))) (by decide +kernel)
  have gg_4 : GoodIn vs_c_beginText0 (vs_c_begin) := goodIn_sub (fun w h => List.mem_cons_of_mem _ (List.mem_append_right _ (List.mem_append_right _ (List.mem_append_right _ (List.mem_append_right _ (List.mem_append_right _ (List.mem_append_left _ h))))))) (by decide +kernel)
  have ini_RX8 := hts (.initialized RX8) (List.mem_of_getElem? (i := 2) rfl)
  have im_X8_begin := hts (.instanceMethod yX8_begin) (List.mem_of_getElem? (i := 3) rfl)
  have se_X8_begin := hts (.selects RX8 yX8_begin yX8_begin) (List.mem_of_getElem? (i := 4) rfl)
  refine lv_aload_n hx hb dX11_beginText_0 rfl (lv_at hlv 0 rfl) ?_
  refine lv_iload_n hx hb dX11_beginText_1 rfl (lv_at hlv 1 rfl) ?_
  refine lv_iconst (v := 0) hx hb dX11_beginText_2 (by decide) ?_
  refine lv_aload_n hx hb dX11_beginText_3 rfl (lv_at hlv 0 rfl) ?_
  refine va_get (D := D) (ci := 11) (v := .ref (ka 0)) (C := RX11) (T := TX11) (N := 14) hx hb hts hi11 hown hG.1 hP 0 rfl rfl 0 (by decide) lf10 (fun _ h9 => h9) rfl dX11_beginText_4 ?_
  refine va_getN (D := D) (ci := 8) (v := .int 0) (C := RX8) (T := TX8) (N := 7) hx hb hts hi8 hown hG.1 hP 1 rfl rfl 1 (by decide) (va_Nw.use rfl (nF_K_81 hG.2.1)) (fun _ h9 => h9) rfl dX11_beginText_7 ?_
  refine cj_i (wr := [(ko, .inr (11, [.ref (ka 0), .ref (ka 1), .ref (ka 2), .int 0, .int 0, .ref (ka 5), .ref (ka 6), .ref (ka 7), .ref (ka 8), .ref (ka 9), .int 0, .ref (ka 11), .ref (ka 12), .ref (ka 13)])), ((ka 0), .inr (8, [.ref (ka 20), .int 0, .int 0, .int 0, .int 0, .int 0, .int (-1)]))]) (va_runS (As := [.int 0, .int 0, .int 0]) (rest := [.ref ko]) ⟨hx, hb, hml, hown, hts⟩ (c_isWithin l hl D cy sa 0 0 0 s.heap.size) (va_cwS 3 hts gg_2 rfl rfl rfl (by decide +kernel) ⟨Nat.le_of_ble_eq_true rfl, Nat.le_of_ble_eq_true rfl⟩) ⟨pcW.blind, (pcW.mk hP hD hS hA hG hT [] rfl (by decide))⟩ rfl rfl hlv.1 rfl (lv_room (Nat.le_of_ble_eq_true rfl)) dX11_beginText_10 ⟨Nat.le_of_ble_eq_true rfl, Nat.le_of_ble_eq_true rfl⟩) hP hD hS hA [] [0, 1] rfl rfl (by decide) (by decide) (fun r1 u1 H locs hw1 hP hD hS => ?_)
  rcases hw1 with ⟨hg1, rfl⟩ | ⟨hg1, rfl⟩
  · have hP : va_P D vwCl [(ko, .inr (11, [.ref (ka 0), .ref (ka 1), .ref (ka 2), .int 0, .int 0, .ref (ka 5), .ref (ka 6), .ref (ka 7), .ref (ka 8), .ref (ka 9), .int 0, .ref (ka 11), .ref (ka 12), .ref (ka 13)])), ((ka 0), .inr (8, [.ref (ka 20), .int 0, .int 0, .int 0, .int 0, .int 0, .int (-1)]))] H := hP
    have hD : va_D A [(ko, .inr (11, [.ref (ka 0), .ref (ka 1), .ref (ka 2), .int 0, .int 0, .ref (ka 5), .ref (ka 6), .ref (ka 7), .ref (ka 8), .ref (ka 9), .int 0, .ref (ka 11), .ref (ka 12), .ref (ka 13)])), ((ka 0), .inr (8, [.ref (ka 20), .int 0, .int 0, .int 0, .int 0, .int 0, .int (-1)]))] := hD
    refine cj_v (wr := [(ko, .inr (11, [.ref (ka 0), .ref (ka 1), .ref (ka 2), .int 0, .int 0, .ref (ka 5), .ref (ka 6), .ref (ka 7), .ref (ka 8), .ref (ka 9), .int 0, .ref (ka 11), .ref (ka 12), .ref (ka 13)])), ((ka 0), .inr (8, [.ref (ka 20), .int 0, .int 0, .int 0, .int 0, .int 0, .int (-1)]))]) (va_runV (As := [.int 1]) (rest := []) ⟨hx, hb, hml, hown, hts⟩ (c_needArgument1 l hl D cy sa ko H.size) (cwV 1 hts gg_3 rfl rfl rfl (by decide +kernel) ⟨Nat.le_of_ble_eq_true rfl, Nat.le_of_ble_eq_true rfl⟩) ⟨pcW.blind, (va_recv hG.1 hP (ci := 11) (q0 := 0) rfl rfl), (pcW.mk hP hD hS hA hG hT [] rfl (by decide))⟩ rfl rfl hlv.1 rfl (lv_room (Nat.le_of_ble_eq_true rfl)) dX11_beginText_13 ⟨Nat.le_of_ble_eq_true rfl, Nat.le_of_ble_eq_true rfl⟩) hP hD hS hA [] [0, 1] rfl rfl (by decide) (by decide) (fun u2 H locs hw2 hP hD hS => ?_)
    have hP : va_P D vwCl [(ko, .inr (11, [.ref (ka 0), .ref (ka 1), .ref (ka 2), .int 0, .int 0, .ref (ka 5), .ref (ka 6), .ref (ka 7), .ref (ka 8), .ref (ka 9), .int 0, .ref (ka 11), .ref (ka 12), .ref (ka 13)])), ((ka 0), .inr (8, [.ref (ka 20), .int 0, .int 0, .int 0, .int 0, .int 0, .int (-1)]))] H := hP
    have hD : va_D A [(ko, .inr (11, [.ref (ka 0), .ref (ka 1), .ref (ka 2), .int 0, .int 0, .ref (ka 5), .ref (ka 6), .ref (ka 7), .ref (ka 8), .ref (ka 9), .int 0, .ref (ka 11), .ref (ka 12), .ref (ka 13)])), ((ka 0), .inr (8, [.ref (ka 20), .int 0, .int 0, .int 0, .int 0, .int 0, .int (-1)]))] := hD
    refine lv_aload_n hx hb dX11_beginText_16 rfl (lv_at hlv 0 rfl) ?_
    refine va_get (D := D) (ci := 11) (v := .ref (ka 0)) (C := RX11) (T := TX11) (N := 14) hx hb hts hi11 hown hG.1 hP 0 rfl rfl 0 (by decide) lf10 (fun _ h9 => h9) rfl dX11_beginText_17 ?_
    refine lv_iload_n hx hb dX11_beginText_20 rfl (lv_at hlv 1 rfl) ?_
    refine cj_v (wr := [(ko, .inr (11, [.ref (ka 0), .ref (ka 1), .ref (ka 2), .int 0, .int 0, .ref (ka 5), .ref (ka 6), .ref (ka 7), .ref (ka 8), .ref (ka 9), .int 0, .ref (ka 11), .ref (ka 12), .ref (ka 13)]))]) (va_runVN (host := "KerbSplash") (As := [.int 0]) (rest := []) ⟨hx, hb, hml, hown, hts⟩ (c_begin l hl D cy sa ka H.size) ⟨va_cnB 1 hts gg_4 rfl rfl rfl (nM_K_345 hG.2.1) ini_RX8 (by decide +kernel) ⟨Nat.le_of_ble_eq_true rfl, Nat.le_of_ble_eq_true rfl⟩, im_X8_begin, se_X8_begin⟩ ⟨pcW.blind, (va_recv hG.1 hP (ci := 8) (q0 := 1) rfl rfl), (pcW.mk hP hD hS hA hG hT [1] rfl (by decide))⟩ rfl rfl hlv.1 rfl (lv_room (Nat.le_of_ble_eq_true rfl)) dX11_beginText_21 ⟨Nat.le_of_ble_eq_true rfl, Nat.le_of_ble_eq_true rfl⟩) hP hD hS hA [1] [0] rfl rfl (by decide) (by decide) (fun u3 H locs hw3 hP hD hS => ?_)
    have hP : va_P D vwCl [(ko, .inr (11, [.ref (ka 0), .ref (ka 1), .ref (ka 2), .int 0, .int 0, .ref (ka 5), .ref (ka 6), .ref (ka 7), .ref (ka 8), .ref (ka 9), .int 0, .ref (ka 11), .ref (ka 12), .ref (ka 13)])), ((ka 0), .inr (8, [.ref (ka 20), .int 0, .int 0, .int 0, .int 0, .int 0, .int (-1)]))] H := hP
    have hD : va_D A [(ko, .inr (11, [.ref (ka 0), .ref (ka 1), .ref (ka 2), .int 0, .int 0, .ref (ka 5), .ref (ka 6), .ref (ka 7), .ref (ka 8), .ref (ka 9), .int 0, .ref (ka 11), .ref (ka 12), .ref (ka 13)])), ((ka 0), .inr (8, [.ref (ka 20), .int 0, .int 0, .int 0, .int 0, .int 0, .int (-1)]))] := hD
    refine W.widen (k := 0) (n := 0) (Nat.le_of_ble_eq_true rfl) (Nat.le_of_ble_eq_true rfl) ?_
    exact W.vret hx hb hr (fun t ht hW => ⟨⟨((fun k => ([] : List Nat).getD k 0), (fun k => ([] : List Int32).getD k 0), (fun k => ([] : List (Nat → Int32)).getD k (fun _ => 0))), rfl, (by first | (trivial)), by rw [ht]; exact hP.sub [0, 1] rfl, hD.sub [0, 1] (by decide) rfl⟩, hS.F ht⟩) hS.2.2 dX11_beginText_24
  · exact absurd hg1 (fun q => absurd (by decide) q)
def vs_c_beginTextx : List Cond := .code yX11_beginText cX11_beginText 2 none :: (([.fieldLink RX11 10 "KerbSplash" "tape" "LKerbSplash$Tape;"] : List Cond) ++ ((wsX110) ++ ((wsX80) ++ ((va_wsS RX11 130 yX11_isWithin wsX11_isWithin) ++ ((wsV RX11 134 RX11 yX11_needArgument wsX11_needArgument) ++ ([]))))))
set_option maxHeartbeats 4000000 in
set_option maxRecDepth 100000 in
theorem c_beginTextx (l : Launch) (hl : l.stackTraces = false) (D : va_G) (cy : Nat → ClassId) (sa : Nat → Nat) (ko : Nat) (ka : Nat → Nat) (n : Int32) (sz : Nat) (hn : ¬ (0 ≤ n ∧ n ≤ 0)) : vx_Met l yX11_beginText vs_c_beginTextx ({ frames := 7, cells := 1, slots := 6, locals := 121 }) (va_Pc [.ref ko, .int n] (pcW D cy sa sz [(ko, .inr (11, [.ref (ka 0), .ref (ka 1), .ref (ka 2), .int 0, .int 0, .ref (ka 5), .ref (ka 6), .ref (ka 7), .ref (ka 8), .ref (ka 9), .int 0, .ref (ka 11), .ref (ka 12), .ref (ka 13)])), ((ka 0), .inr (8, [.ref (ka 20), .int 0, .int 0, .int 0, .int 0, .int 0, .int (-1)])), ((ka 13), .inl (cy 0, 4, .inl (fun _ => 0)))])) (va_Qv (fun u : SU => False) (fun u t => atW D (va_A [(ko, .inr (11, [.ref (ka 0), .ref (ka 1), .ref (ka 2), .int 0, .int 0, .ref (ka 5), .ref (ka 6), .ref (ka 7), .ref (ka 8), .ref (ka 9), .int 0, .ref (ka 11), .ref (ka 12), .ref (ka 13)])), ((ka 0), .inr (8, [.ref (ka 20), .int 0, .int 0, .int 0, .int 0, .int 0, .int (-1)])), ((ka 13), .inl (cy 0, 4, .inl (fun _ => 0)))] sz) [] t) (va_A [(ko, .inr (11, [.ref (ka 0), .ref (ka 1), .ref (ka 2), .int 0, .int 0, .ref (ka 5), .ref (ka 6), .ref (ka 7), .ref (ka 8), .ref (ka 9), .int 0, .ref (ka 11), .ref (ka 12), .ref (ka 13)])), ((ka 0), .inr (8, [.ref (ka 20), .int 0, .int 0, .int 0, .int 0, .int 0, .int (-1)])), ((ka 13), .inl (cy 0, 4, .inl (fun _ => 0)))] sz)) (xcW (fun E => (E = "java/lang/IllegalArgumentException" ∧ (True))) (va_A [(ko, .inr (11, [.ref (ka 0), .ref (ka 1), .ref (ka 2), .int 0, .int 0, .ref (ka 5), .ref (ka 6), .ref (ka 7), .ref (ka 8), .ref (ka 9), .int 0, .ref (ka 11), .ref (ka 12), .ref (ka 13)])), ((ka 0), .inr (8, [.ref (ka 20), .int 0, .int 0, .int 0, .int 0, .int 0, .int (-1)])), ((ka 13), .inl (cy 0, 4, .inl (fun _ => 0)))] sz)) 1 6 (va_A [(ko, .inr (11, [.ref (ka 0), .ref (ka 1), .ref (ka 2), .int 0, .int 0, .ref (ka 5), .ref (ka 6), .ref (ka 7), .ref (ka 8), .ref (ka 9), .int 0, .ref (ka 11), .ref (ka 12), .ref (ka 13)])), ((ka 0), .inr (8, [.ref (ka 20), .int 0, .int 0, .int 0, .int 0, .int 0, .int (-1)])), ((ka 13), .inl (cy 0, 4, .inl (fun _ => 0)))] sz) := by
  refine vx_ofW (cc := cX11_beginText) (maxL := 2) (ret := none) (by decide) rfl ?_
  intro p e s m args below meth c s₁ B hml hex hv
  obtain ⟨rfl, hsz, hP, hG, hD0, hT⟩ := hv
  have hx := B.exec
  have hb := B.bytes
  have hr := B.returns
  have hts := atoms_spec (ws := vs_c_beginTextx) B.pre
  have hown : s.vm.findClass RX11 = some m.cls := findClass_of_methodNamed B.named
  have hlocks := B.notSynchronized
  subst hsz
  have hD := hD0.self (sz := s.heap.size)
  generalize hAe : va_A [(ko, .inr (11, [.ref (ka 0), .ref (ka 1), .ref (ka 2), .int 0, .int 0, .ref (ka 5), .ref (ka 6), .ref (ka 7), .ref (ka 8), .ref (ka 9), .int 0, .ref (ka 11), .ref (ka 12), .ref (ka 13)])), ((ka 0), .inr (8, [.ref (ka 20), .int 0, .int 0, .int 0, .int 0, .int 0, .int (-1)])), ((ka 13), .inl (cy 0, 4, .inl (fun _ => 0)))] s.heap.size = A at hD hT ⊢
  have hA : ∀ q : Nat, s.heap.size ≤ q → A q := fun q h => by rw [← hAe]; exact Or.inr h
  have hS : va_S A s.heap s.heap [] := va_S.rf
  have hl0 := lv_entry ([.ref ko, .int n]) (n := 2) (Nat.le_of_ble_eq_true rfl)
  rw [lg_entry_eq]
  generalize (lg_sl ([.ref ko, .int n]) ++ List.replicate (2 - (lg_sl ([.ref ko, .int n])).length) Slot.unset).toArray = ls at hl0 ⊢
  have hlv : lv_has ls 2 [(0, .ref ko), (1, .int n)] := hl0
  have lf10 := hts (.fieldLink RX11 10 "KerbSplash" "tape" "LKerbSplash$Tape;") (List.mem_of_getElem? (i := 1) rfl)
  have hi11 : ∀ w ∈ wsX110, w ∈ vs_c_beginTextx := fun w h => List.mem_cons_of_mem _ (List.mem_append_right _ (List.mem_append_left _ h))
  have hi8 : ∀ w ∈ wsX80, w ∈ vs_c_beginTextx := fun w h => List.mem_cons_of_mem _ (List.mem_append_right _ (List.mem_append_right _ (List.mem_append_left _ h)))
  have gg_2 : GoodIn vs_c_beginTextx (va_wsS RX11 130 yX11_isWithin wsX11_isWithin) := goodIn_sub (fun w h => List.mem_cons_of_mem _ (List.mem_append_right _ (List.mem_append_right _ (List.mem_append_right _ (List.mem_append_left _ h))))) (by decide +kernel)
  have gg_3 : GoodIn vs_c_beginTextx (wsV RX11 134 RX11 yX11_needArgument wsX11_needArgument) := goodIn_sub (fun w h => List.mem_cons_of_mem _ (List.mem_append_right _ (List.mem_append_right _ (List.mem_append_right _ (List.mem_append_right _ (List.mem_append_left _ h)))))) (by decide +kernel)
  refine lv_aload_n hx hb dX11_beginText_0 rfl (lv_at hlv 0 rfl) ?_
  refine lv_iload_n hx hb dX11_beginText_1 rfl (lv_at hlv 1 rfl) ?_
  refine lv_iconst (v := 0) hx hb dX11_beginText_2 (by decide) ?_
  refine lv_aload_n hx hb dX11_beginText_3 rfl (lv_at hlv 0 rfl) ?_
  refine va_get (D := D) (ci := 11) (v := .ref (ka 0)) (C := RX11) (T := TX11) (N := 14) hx hb hts hi11 hown hG.1 hP 0 rfl rfl 0 (by decide) lf10 (fun _ h9 => h9) rfl dX11_beginText_4 ?_
  refine va_getN (D := D) (ci := 8) (v := .int 0) (C := RX8) (T := TX8) (N := 7) hx hb hts hi8 hown hG.1 hP 1 rfl rfl 1 (by decide) (va_Nw.use rfl (nF_K_81 hG.2.1)) (fun _ h9 => h9) rfl dX11_beginText_7 ?_
  refine cj_i (wr := [(ko, .inr (11, [.ref (ka 0), .ref (ka 1), .ref (ka 2), .int 0, .int 0, .ref (ka 5), .ref (ka 6), .ref (ka 7), .ref (ka 8), .ref (ka 9), .int 0, .ref (ka 11), .ref (ka 12), .ref (ka 13)])), ((ka 0), .inr (8, [.ref (ka 20), .int 0, .int 0, .int 0, .int 0, .int 0, .int (-1)])), ((ka 13), .inl (cy 0, 4, .inl (fun _ => 0)))]) (va_runS (As := [.int n, .int 0, .int 0]) (rest := [.ref ko]) ⟨hx, hb, hml, hown, hts⟩ (c_isWithin l hl D cy sa n 0 0 s.heap.size) (va_cwS 3 hts gg_2 rfl rfl rfl (by decide +kernel) ⟨Nat.le_of_ble_eq_true rfl, Nat.le_of_ble_eq_true rfl⟩) ⟨pcW.blind, (pcW.mk hP hD hS hA hG hT [] rfl (by decide))⟩ rfl rfl hlv.1 rfl (lv_room (Nat.le_of_ble_eq_true rfl)) dX11_beginText_10 ⟨Nat.le_of_ble_eq_true rfl, Nat.le_of_ble_eq_true rfl⟩) hP hD hS hA [] [0, 1, 2] rfl rfl (by decide) (by decide) (fun r1 u1 H locs hw1 hP hD hS => ?_)
  rcases hw1 with ⟨hg1, rfl⟩ | ⟨hg1, rfl⟩
  · exact absurd hg1 hn
  · have hP : va_P D vwCl [(ko, .inr (11, [.ref (ka 0), .ref (ka 1), .ref (ka 2), .int 0, .int 0, .ref (ka 5), .ref (ka 6), .ref (ka 7), .ref (ka 8), .ref (ka 9), .int 0, .ref (ka 11), .ref (ka 12), .ref (ka 13)])), ((ka 0), .inr (8, [.ref (ka 20), .int 0, .int 0, .int 0, .int 0, .int 0, .int (-1)])), ((ka 13), .inl (cy 0, 4, .inl (fun _ => 0)))] H := hP
    have hD : va_D A [(ko, .inr (11, [.ref (ka 0), .ref (ka 1), .ref (ka 2), .int 0, .int 0, .ref (ka 5), .ref (ka 6), .ref (ka 7), .ref (ka 8), .ref (ka 9), .int 0, .ref (ka 11), .ref (ka 12), .ref (ka 13)])), ((ka 0), .inr (8, [.ref (ka 20), .int 0, .int 0, .int 0, .int 0, .int 0, .int (-1)])), ((ka 13), .inl (cy 0, 4, .inl (fun _ => 0)))] := hD
    refine cjx_v (wr := [((ka 0), .inr (8, [.ref (ka 20), .int 0, .int 0, .int 0, .int 0, .int 0, .int (-1)]))]) (vx_runV (As := [.int 0]) (rest := []) ⟨hx, hb, hml, hown, hts⟩ (c_needArgument0 l hl D cy sa ko ka H.size) (cwV 1 hts gg_3 rfl rfl rfl (by decide +kernel) ⟨Nat.le_of_ble_eq_true rfl, Nat.le_of_ble_eq_true rfl⟩) ⟨pcW.blind, (va_recv hG.1 hP (ci := 11) (q0 := 0) rfl rfl), (pcW.mk hP hD hS hA hG hT [0, 2] rfl (by decide))⟩ rfl rfl hlv.1 rfl (lv_room (Nat.le_of_ble_eq_true rfl)) dX11_beginText_13 ⟨Nat.le_of_ble_eq_true rfl, Nat.le_of_ble_eq_true rfl⟩) hP hD hS hA [0, 2] [1] rfl rfl (by decide) (by decide) (fun E ce q9 H locs hp hP hD hS h1 h2 h3 => ?_) (fun u2 H locs hw2 hP hD hS => ?_)
    · obtain ⟨rfl, hg2⟩ := hp
      exact vx_out (fun x h => (hex x h).elim) hlocks h1 h2 h3 (fun t ht hvm => ⟨(), trivial, (by exact ⟨rfl, trivial⟩), hS.F ht⟩) hS.2.2 (Nat.le_of_ble_eq_true rfl) (Nat.le_of_ble_eq_true rfl)
    · exact (hw2).elim
def vs_c_streetx : List Cond := .code yX11_street cX11_street 3 (some .int) :: (([] : List Cond) ++ ((wsV RX11 85 RX11 yX11_beginText vs_c_beginTextx) ++ ([])))
set_option maxHeartbeats 4000000 in
set_option maxRecDepth 100000 in
theorem c_streetx (l : Launch) (hl : l.stackTraces = false) (D : va_G) (cy : Nat → ClassId) (sa : Nat → Nat) (ko : Nat) (ka : Nat → Nat) (n : Int32) (sz : Nat) (hn : ¬ (0 ≤ n ∧ n ≤ 0)) : vx_Met l yX11_street vs_c_streetx ({ frames := 8, cells := 1, slots := 6, locals := 142 }) (va_Pc [.ref ko, .int n] (pcW D cy sa sz [(ko, .inr (11, [.ref (ka 0), .ref (ka 1), .ref (ka 2), .int 0, .int 0, .ref (ka 5), .ref (ka 6), .ref (ka 7), .ref (ka 8), .ref (ka 9), .int 0, .ref (ka 11), .ref (ka 12), .ref (ka 13)])), ((ka 0), .inr (8, [.ref (ka 20), .int 0, .int 0, .int 0, .int 0, .int 0, .int (-1)])), ((ka 13), .inl (cy 0, 4, .inl (fun _ => 0)))])) (va_Qi (fun (r : Int32) (u : SU) => False) (fun u t => atW D (va_A [(ko, .inr (11, [.ref (ka 0), .ref (ka 1), .ref (ka 2), .int 0, .int 0, .ref (ka 5), .ref (ka 6), .ref (ka 7), .ref (ka 8), .ref (ka 9), .int 0, .ref (ka 11), .ref (ka 12), .ref (ka 13)])), ((ka 0), .inr (8, [.ref (ka 20), .int 0, .int 0, .int 0, .int 0, .int 0, .int (-1)])), ((ka 13), .inl (cy 0, 4, .inl (fun _ => 0)))] sz) [] t) (va_A [(ko, .inr (11, [.ref (ka 0), .ref (ka 1), .ref (ka 2), .int 0, .int 0, .ref (ka 5), .ref (ka 6), .ref (ka 7), .ref (ka 8), .ref (ka 9), .int 0, .ref (ka 11), .ref (ka 12), .ref (ka 13)])), ((ka 0), .inr (8, [.ref (ka 20), .int 0, .int 0, .int 0, .int 0, .int 0, .int (-1)])), ((ka 13), .inl (cy 0, 4, .inl (fun _ => 0)))] sz)) (xcW (fun E => (E = "java/lang/IllegalArgumentException" ∧ (True))) (va_A [(ko, .inr (11, [.ref (ka 0), .ref (ka 1), .ref (ka 2), .int 0, .int 0, .ref (ka 5), .ref (ka 6), .ref (ka 7), .ref (ka 8), .ref (ka 9), .int 0, .ref (ka 11), .ref (ka 12), .ref (ka 13)])), ((ka 0), .inr (8, [.ref (ka 20), .int 0, .int 0, .int 0, .int 0, .int 0, .int (-1)])), ((ka 13), .inl (cy 0, 4, .inl (fun _ => 0)))] sz)) 1 6 (va_A [(ko, .inr (11, [.ref (ka 0), .ref (ka 1), .ref (ka 2), .int 0, .int 0, .ref (ka 5), .ref (ka 6), .ref (ka 7), .ref (ka 8), .ref (ka 9), .int 0, .ref (ka 11), .ref (ka 12), .ref (ka 13)])), ((ka 0), .inr (8, [.ref (ka 20), .int 0, .int 0, .int 0, .int 0, .int 0, .int (-1)])), ((ka 13), .inl (cy 0, 4, .inl (fun _ => 0)))] sz) := by
  refine vx_ofW (cc := cX11_street) (maxL := 3) (ret := (some .int)) (by decide) rfl ?_
  intro p e s m args below meth c s₁ B hml hex hv
  obtain ⟨rfl, hsz, hP, hG, hD0, hT⟩ := hv
  have hx := B.exec
  have hb := B.bytes
  have hr := B.returns
  have hts := atoms_spec (ws := vs_c_streetx) B.pre
  have hown : s.vm.findClass RX11 = some m.cls := findClass_of_methodNamed B.named
  have hlocks := B.notSynchronized
  subst hsz
  have hD := hD0.self (sz := s.heap.size)
  generalize hAe : va_A [(ko, .inr (11, [.ref (ka 0), .ref (ka 1), .ref (ka 2), .int 0, .int 0, .ref (ka 5), .ref (ka 6), .ref (ka 7), .ref (ka 8), .ref (ka 9), .int 0, .ref (ka 11), .ref (ka 12), .ref (ka 13)])), ((ka 0), .inr (8, [.ref (ka 20), .int 0, .int 0, .int 0, .int 0, .int 0, .int (-1)])), ((ka 13), .inl (cy 0, 4, .inl (fun _ => 0)))] s.heap.size = A at hD hT ⊢
  have hA : ∀ q : Nat, s.heap.size ≤ q → A q := fun q h => by rw [← hAe]; exact Or.inr h
  have hS : va_S A s.heap s.heap [] := va_S.rf
  have hl0 := lv_entry ([.ref ko, .int n]) (n := 3) (Nat.le_of_ble_eq_true rfl)
  rw [lg_entry_eq]
  generalize (lg_sl ([.ref ko, .int n]) ++ List.replicate (3 - (lg_sl ([.ref ko, .int n])).length) Slot.unset).toArray = ls at hl0 ⊢
  have hlv : lv_has ls 3 [(0, .ref ko), (1, .int n)] := hl0
  have gg_0 : GoodIn vs_c_streetx (wsV RX11 85 RX11 yX11_beginText vs_c_beginTextx) := goodIn_sub (fun w h => List.mem_cons_of_mem _ (List.mem_append_right _ (List.mem_append_left _ h))) (by decide +kernel)
  refine lv_aload_n hx hb dX11_street_0 rfl (lv_at hlv 0 rfl) ?_
  refine lv_iload_n hx hb dX11_street_1 rfl (lv_at hlv 1 rfl) ?_
  refine cjx_v (wr := []) (vx_runV (As := [.int n]) (rest := []) ⟨hx, hb, hml, hown, hts⟩ (c_beginTextx l hl D cy sa ko ka n s.heap.size hn) (cwV 1 hts gg_0 rfl rfl rfl (by decide +kernel) ⟨Nat.le_of_ble_eq_true rfl, Nat.le_of_ble_eq_true rfl⟩) ⟨pcW.blind, (va_recv hG.1 hP (ci := 11) (q0 := 0) rfl rfl), (pcW.mk hP hD hS hA hG hT [0, 1, 2] rfl (by decide))⟩ rfl rfl hlv.1 rfl (lv_room (Nat.le_of_ble_eq_true rfl)) dX11_street_2 ⟨Nat.le_of_ble_eq_true rfl, Nat.le_of_ble_eq_true rfl⟩) hP hD hS hA [0, 1, 2] [] rfl rfl (by decide) (by decide) (fun E ce q9 H locs hp hP hD hS h1 h2 h3 => ?_) (fun u1 H locs hw1 hP hD hS => ?_)
  · obtain ⟨rfl, hg1⟩ := hp
    exact vx_out (fun x h => (hex x h).elim) hlocks h1 h2 h3 (fun t ht hvm => ⟨(), trivial, (by exact ⟨rfl, trivial⟩), hS.F ht⟩) hS.2.2 (Nat.le_of_ble_eq_true rfl) (Nat.le_of_ble_eq_true rfl)
  · exact (hw1).elim
def vs_c_rainx : List Cond := .code yX11_rain cX11_rain 2 (some .int) :: (([] : List Cond) ++ ((wsV RX11 85 RX11 yX11_beginText vs_c_beginTextx) ++ ([])))
set_option maxHeartbeats 4000000 in
set_option maxRecDepth 100000 in
theorem c_rainx (l : Launch) (hl : l.stackTraces = false) (D : va_G) (cy : Nat → ClassId) (sa : Nat → Nat) (ko : Nat) (ka : Nat → Nat) (n : Int32) (sz : Nat) (hn : ¬ (0 ≤ n ∧ n ≤ 0)) : vx_Met l yX11_rain vs_c_rainx ({ frames := 8, cells := 1, slots := 6, locals := 142 }) (va_Pc [.ref ko, .int n] (pcW D cy sa sz [(ko, .inr (11, [.ref (ka 0), .ref (ka 1), .ref (ka 2), .int 0, .int 0, .ref (ka 5), .ref (ka 6), .ref (ka 7), .ref (ka 8), .ref (ka 9), .int 0, .ref (ka 11), .ref (ka 12), .ref (ka 13)])), ((ka 0), .inr (8, [.ref (ka 20), .int 0, .int 0, .int 0, .int 0, .int 0, .int (-1)])), ((ka 13), .inl (cy 0, 4, .inl (fun _ => 0)))])) (va_Qi (fun (r : Int32) (u : SU) => False) (fun u t => atW D (va_A [(ko, .inr (11, [.ref (ka 0), .ref (ka 1), .ref (ka 2), .int 0, .int 0, .ref (ka 5), .ref (ka 6), .ref (ka 7), .ref (ka 8), .ref (ka 9), .int 0, .ref (ka 11), .ref (ka 12), .ref (ka 13)])), ((ka 0), .inr (8, [.ref (ka 20), .int 0, .int 0, .int 0, .int 0, .int 0, .int (-1)])), ((ka 13), .inl (cy 0, 4, .inl (fun _ => 0)))] sz) [] t) (va_A [(ko, .inr (11, [.ref (ka 0), .ref (ka 1), .ref (ka 2), .int 0, .int 0, .ref (ka 5), .ref (ka 6), .ref (ka 7), .ref (ka 8), .ref (ka 9), .int 0, .ref (ka 11), .ref (ka 12), .ref (ka 13)])), ((ka 0), .inr (8, [.ref (ka 20), .int 0, .int 0, .int 0, .int 0, .int 0, .int (-1)])), ((ka 13), .inl (cy 0, 4, .inl (fun _ => 0)))] sz)) (xcW (fun E => (E = "java/lang/IllegalArgumentException" ∧ (True))) (va_A [(ko, .inr (11, [.ref (ka 0), .ref (ka 1), .ref (ka 2), .int 0, .int 0, .ref (ka 5), .ref (ka 6), .ref (ka 7), .ref (ka 8), .ref (ka 9), .int 0, .ref (ka 11), .ref (ka 12), .ref (ka 13)])), ((ka 0), .inr (8, [.ref (ka 20), .int 0, .int 0, .int 0, .int 0, .int 0, .int (-1)])), ((ka 13), .inl (cy 0, 4, .inl (fun _ => 0)))] sz)) 1 6 (va_A [(ko, .inr (11, [.ref (ka 0), .ref (ka 1), .ref (ka 2), .int 0, .int 0, .ref (ka 5), .ref (ka 6), .ref (ka 7), .ref (ka 8), .ref (ka 9), .int 0, .ref (ka 11), .ref (ka 12), .ref (ka 13)])), ((ka 0), .inr (8, [.ref (ka 20), .int 0, .int 0, .int 0, .int 0, .int 0, .int (-1)])), ((ka 13), .inl (cy 0, 4, .inl (fun _ => 0)))] sz) := by
  refine vx_ofW (cc := cX11_rain) (maxL := 2) (ret := (some .int)) (by decide) rfl ?_
  intro p e s m args below meth c s₁ B hml hex hv
  obtain ⟨rfl, hsz, hP, hG, hD0, hT⟩ := hv
  have hx := B.exec
  have hb := B.bytes
  have hr := B.returns
  have hts := atoms_spec (ws := vs_c_rainx) B.pre
  have hown : s.vm.findClass RX11 = some m.cls := findClass_of_methodNamed B.named
  have hlocks := B.notSynchronized
  subst hsz
  have hD := hD0.self (sz := s.heap.size)
  generalize hAe : va_A [(ko, .inr (11, [.ref (ka 0), .ref (ka 1), .ref (ka 2), .int 0, .int 0, .ref (ka 5), .ref (ka 6), .ref (ka 7), .ref (ka 8), .ref (ka 9), .int 0, .ref (ka 11), .ref (ka 12), .ref (ka 13)])), ((ka 0), .inr (8, [.ref (ka 20), .int 0, .int 0, .int 0, .int 0, .int 0, .int (-1)])), ((ka 13), .inl (cy 0, 4, .inl (fun _ => 0)))] s.heap.size = A at hD hT ⊢
  have hA : ∀ q : Nat, s.heap.size ≤ q → A q := fun q h => by rw [← hAe]; exact Or.inr h
  have hS : va_S A s.heap s.heap [] := va_S.rf
  have hl0 := lv_entry ([.ref ko, .int n]) (n := 2) (Nat.le_of_ble_eq_true rfl)
  rw [lg_entry_eq]
  generalize (lg_sl ([.ref ko, .int n]) ++ List.replicate (2 - (lg_sl ([.ref ko, .int n])).length) Slot.unset).toArray = ls at hl0 ⊢
  have hlv : lv_has ls 2 [(0, .ref ko), (1, .int n)] := hl0
  have gg_0 : GoodIn vs_c_rainx (wsV RX11 85 RX11 yX11_beginText vs_c_beginTextx) := goodIn_sub (fun w h => List.mem_cons_of_mem _ (List.mem_append_right _ (List.mem_append_left _ h))) (by decide +kernel)
  refine lv_aload_n hx hb dX11_rain_0 rfl (lv_at hlv 0 rfl) ?_
  refine lv_iload_n hx hb dX11_rain_1 rfl (lv_at hlv 1 rfl) ?_
  refine cjx_v (wr := []) (vx_runV (As := [.int n]) (rest := []) ⟨hx, hb, hml, hown, hts⟩ (c_beginTextx l hl D cy sa ko ka n s.heap.size hn) (cwV 1 hts gg_0 rfl rfl rfl (by decide +kernel) ⟨Nat.le_of_ble_eq_true rfl, Nat.le_of_ble_eq_true rfl⟩) ⟨pcW.blind, (va_recv hG.1 hP (ci := 11) (q0 := 0) rfl rfl), (pcW.mk hP hD hS hA hG hT [0, 1, 2] rfl (by decide))⟩ rfl rfl hlv.1 rfl (lv_room (Nat.le_of_ble_eq_true rfl)) dX11_rain_2 ⟨Nat.le_of_ble_eq_true rfl, Nat.le_of_ble_eq_true rfl⟩) hP hD hS hA [0, 1, 2] [] rfl rfl (by decide) (by decide) (fun E ce q9 H locs hp hP hD hS h1 h2 h3 => ?_) (fun u1 H locs hw1 hP hD hS => ?_)
  · obtain ⟨rfl, hg1⟩ := hp
    exact vx_out (fun x h => (hex x h).elim) hlocks h1 h2 h3 (fun t ht hvm => ⟨(), trivial, (by exact ⟨rfl, trivial⟩), hS.F ht⟩) hS.2.2 (Nat.le_of_ble_eq_true rfl) (Nat.le_of_ble_eq_true rfl)
  · exact (hw1).elim
def vs_c_lawx : List Cond := .code yX11_law cX11_law 2 (some .int) :: (([] : List Cond) ++ ((wsV RX11 85 RX11 yX11_beginText vs_c_beginTextx) ++ ([])))
set_option maxHeartbeats 4000000 in
set_option maxRecDepth 100000 in
theorem c_lawx (l : Launch) (hl : l.stackTraces = false) (D : va_G) (cy : Nat → ClassId) (sa : Nat → Nat) (ko : Nat) (ka : Nat → Nat) (n : Int32) (sz : Nat) (hn : ¬ (0 ≤ n ∧ n ≤ 0)) : vx_Met l yX11_law vs_c_lawx ({ frames := 8, cells := 1, slots := 6, locals := 142 }) (va_Pc [.ref ko, .int n] (pcW D cy sa sz [(ko, .inr (11, [.ref (ka 0), .ref (ka 1), .ref (ka 2), .int 0, .int 0, .ref (ka 5), .ref (ka 6), .ref (ka 7), .ref (ka 8), .ref (ka 9), .int 0, .ref (ka 11), .ref (ka 12), .ref (ka 13)])), ((ka 0), .inr (8, [.ref (ka 20), .int 0, .int 0, .int 0, .int 0, .int 0, .int (-1)])), ((ka 13), .inl (cy 0, 4, .inl (fun _ => 0)))])) (va_Qi (fun (r : Int32) (u : SU) => False) (fun u t => atW D (va_A [(ko, .inr (11, [.ref (ka 0), .ref (ka 1), .ref (ka 2), .int 0, .int 0, .ref (ka 5), .ref (ka 6), .ref (ka 7), .ref (ka 8), .ref (ka 9), .int 0, .ref (ka 11), .ref (ka 12), .ref (ka 13)])), ((ka 0), .inr (8, [.ref (ka 20), .int 0, .int 0, .int 0, .int 0, .int 0, .int (-1)])), ((ka 13), .inl (cy 0, 4, .inl (fun _ => 0)))] sz) [] t) (va_A [(ko, .inr (11, [.ref (ka 0), .ref (ka 1), .ref (ka 2), .int 0, .int 0, .ref (ka 5), .ref (ka 6), .ref (ka 7), .ref (ka 8), .ref (ka 9), .int 0, .ref (ka 11), .ref (ka 12), .ref (ka 13)])), ((ka 0), .inr (8, [.ref (ka 20), .int 0, .int 0, .int 0, .int 0, .int 0, .int (-1)])), ((ka 13), .inl (cy 0, 4, .inl (fun _ => 0)))] sz)) (xcW (fun E => (E = "java/lang/IllegalArgumentException" ∧ (True))) (va_A [(ko, .inr (11, [.ref (ka 0), .ref (ka 1), .ref (ka 2), .int 0, .int 0, .ref (ka 5), .ref (ka 6), .ref (ka 7), .ref (ka 8), .ref (ka 9), .int 0, .ref (ka 11), .ref (ka 12), .ref (ka 13)])), ((ka 0), .inr (8, [.ref (ka 20), .int 0, .int 0, .int 0, .int 0, .int 0, .int (-1)])), ((ka 13), .inl (cy 0, 4, .inl (fun _ => 0)))] sz)) 1 6 (va_A [(ko, .inr (11, [.ref (ka 0), .ref (ka 1), .ref (ka 2), .int 0, .int 0, .ref (ka 5), .ref (ka 6), .ref (ka 7), .ref (ka 8), .ref (ka 9), .int 0, .ref (ka 11), .ref (ka 12), .ref (ka 13)])), ((ka 0), .inr (8, [.ref (ka 20), .int 0, .int 0, .int 0, .int 0, .int 0, .int (-1)])), ((ka 13), .inl (cy 0, 4, .inl (fun _ => 0)))] sz) := by
  refine vx_ofW (cc := cX11_law) (maxL := 2) (ret := (some .int)) (by decide) rfl ?_
  intro p e s m args below meth c s₁ B hml hex hv
  obtain ⟨rfl, hsz, hP, hG, hD0, hT⟩ := hv
  have hx := B.exec
  have hb := B.bytes
  have hr := B.returns
  have hts := atoms_spec (ws := vs_c_lawx) B.pre
  have hown : s.vm.findClass RX11 = some m.cls := findClass_of_methodNamed B.named
  have hlocks := B.notSynchronized
  subst hsz
  have hD := hD0.self (sz := s.heap.size)
  generalize hAe : va_A [(ko, .inr (11, [.ref (ka 0), .ref (ka 1), .ref (ka 2), .int 0, .int 0, .ref (ka 5), .ref (ka 6), .ref (ka 7), .ref (ka 8), .ref (ka 9), .int 0, .ref (ka 11), .ref (ka 12), .ref (ka 13)])), ((ka 0), .inr (8, [.ref (ka 20), .int 0, .int 0, .int 0, .int 0, .int 0, .int (-1)])), ((ka 13), .inl (cy 0, 4, .inl (fun _ => 0)))] s.heap.size = A at hD hT ⊢
  have hA : ∀ q : Nat, s.heap.size ≤ q → A q := fun q h => by rw [← hAe]; exact Or.inr h
  have hS : va_S A s.heap s.heap [] := va_S.rf
  have hl0 := lv_entry ([.ref ko, .int n]) (n := 2) (Nat.le_of_ble_eq_true rfl)
  rw [lg_entry_eq]
  generalize (lg_sl ([.ref ko, .int n]) ++ List.replicate (2 - (lg_sl ([.ref ko, .int n])).length) Slot.unset).toArray = ls at hl0 ⊢
  have hlv : lv_has ls 2 [(0, .ref ko), (1, .int n)] := hl0
  have gg_0 : GoodIn vs_c_lawx (wsV RX11 85 RX11 yX11_beginText vs_c_beginTextx) := goodIn_sub (fun w h => List.mem_cons_of_mem _ (List.mem_append_right _ (List.mem_append_left _ h))) (by decide +kernel)
  refine lv_aload_n hx hb dX11_law_0 rfl (lv_at hlv 0 rfl) ?_
  refine lv_iload_n hx hb dX11_law_1 rfl (lv_at hlv 1 rfl) ?_
  refine cjx_v (wr := []) (vx_runV (As := [.int n]) (rest := []) ⟨hx, hb, hml, hown, hts⟩ (c_beginTextx l hl D cy sa ko ka n s.heap.size hn) (cwV 1 hts gg_0 rfl rfl rfl (by decide +kernel) ⟨Nat.le_of_ble_eq_true rfl, Nat.le_of_ble_eq_true rfl⟩) ⟨pcW.blind, (va_recv hG.1 hP (ci := 11) (q0 := 0) rfl rfl), (pcW.mk hP hD hS hA hG hT [0, 1, 2] rfl (by decide))⟩ rfl rfl hlv.1 rfl (lv_room (Nat.le_of_ble_eq_true rfl)) dX11_law_2 ⟨Nat.le_of_ble_eq_true rfl, Nat.le_of_ble_eq_true rfl⟩) hP hD hS hA [0, 1, 2] [] rfl rfl (by decide) (by decide) (fun E ce q9 H locs hp hP hD hS h1 h2 h3 => ?_) (fun u1 H locs hw1 hP hD hS => ?_)
  · obtain ⟨rfl, hg1⟩ := hp
    exact vx_out (fun x h => (hex x h).elim) hlocks h1 h2 h3 (fun t ht hvm => ⟨(), trivial, (by exact ⟨rfl, trivial⟩), hS.F ht⟩) hS.2.2 (Nat.le_of_ble_eq_true rfl) (Nat.le_of_ble_eq_true rfl)
  · exact (hw1).elim
def vs_c_sign : List Cond := .code yX8_sign cX8_sign 1 (some .int) :: (([.fieldLink RX8 31 "KerbSplash$Tape" "fault" "I", .fieldLink RX8 25 "KerbSplash$Tape" "at" "I", .fieldLink RX8 22 "KerbSplash$Tape" "length" "I"] : List Cond) ++ ((wsX80) ++ ([])))
set_option maxHeartbeats 4000000 in
set_option maxRecDepth 100000 in
theorem c_sign (l : Launch) (hl : l.stackTraces = false) (D : va_G) (cy : Nat → ClassId) (sa : Nat → Nat) (ka : Nat → Nat) (sz : Nat) : Met l yX8_sign vs_c_sign ({ frames := 0, cells := 0, slots := 0, locals := 0 }) (va_Pc [.ref (ka 0)] (pcW D cy sa sz [((ka 0), .inr (8, [.ref (ka 20), .int 0, .int 0, .int 0, .int 0, .int 0, .int (-1)]))])) (va_Qi (fun (r : Int32) (u : SU) => (r = (-1))) (fun u t => atW D (va_A [((ka 0), .inr (8, [.ref (ka 20), .int 0, .int 0, .int 0, .int 0, .int 0, .int (-1)]))] sz) [((ka 0), .inr (8, [.ref (ka 20), .int 0, .int 0, .int 0, .int 0, .int 0, .int (-1)]))] t) (va_A [((ka 0), .inr (8, [.ref (ka 20), .int 0, .int 0, .int 0, .int 0, .int 0, .int (-1)]))] sz)) 0 0 (va_A [((ka 0), .inr (8, [.ref (ka 20), .int 0, .int 0, .int 0, .int 0, .int 0, .int (-1)]))] sz) := by
  refine Met.ofW (cc := cX8_sign) (maxL := 1) (ret := (some .int)) (by decide) rfl ?_
  intro p e s m args below meth c s₁ B hml hv
  obtain ⟨rfl, hsz, hP, hG, hD0, hT⟩ := hv
  have hx := B.exec
  have hb := B.bytes
  have hr := B.returns
  have hts := atoms_spec (ws := vs_c_sign) B.pre
  have hown : s.vm.findClass RX8 = some m.cls := findClass_of_methodNamed B.named
  have hlocks := B.notSynchronized
  subst hsz
  have hD := hD0.self (sz := s.heap.size)
  generalize hAe : va_A [((ka 0), .inr (8, [.ref (ka 20), .int 0, .int 0, .int 0, .int 0, .int 0, .int (-1)]))] s.heap.size = A at hD hT ⊢
  have hA : ∀ q : Nat, s.heap.size ≤ q → A q := fun q h => by rw [← hAe]; exact Or.inr h
  have hS : va_S A s.heap s.heap [] := va_S.rf
  have hl0 := lv_entry ([.ref (ka 0)]) (n := 1) (Nat.le_of_ble_eq_true rfl)
  rw [lg_entry_eq]
  generalize (lg_sl ([.ref (ka 0)]) ++ List.replicate (1 - (lg_sl ([.ref (ka 0)])).length) Slot.unset).toArray = ls at hl0 ⊢
  have hlv : lv_has ls 1 [(0, .ref (ka 0))] := hl0
  have lf31 := hts (.fieldLink RX8 31 "KerbSplash$Tape" "fault" "I") (List.mem_of_getElem? (i := 1) rfl)
  have hi8 : ∀ w ∈ wsX80, w ∈ vs_c_sign := fun w h => List.mem_cons_of_mem _ (List.mem_append_right _ (List.mem_append_left _ h))
  have lf25 := hts (.fieldLink RX8 25 "KerbSplash$Tape" "at" "I") (List.mem_of_getElem? (i := 2) rfl)
  have lf22 := hts (.fieldLink RX8 22 "KerbSplash$Tape" "length" "I") (List.mem_of_getElem? (i := 3) rfl)
  refine lv_aload_n hx hb dX8_sign_0 rfl (lv_at hlv 0 rfl) ?_
  refine va_get (D := D) (ci := 8) (v := .int 0) (C := RX8) (T := TX8) (N := 7) hx hb hts hi8 hown hG.1 hP 0 rfl rfl 5 (by decide) lf31 (fun _ h9 => h9) rfl dX8_sign_1 ?_
  refine lv_if_eq (tgt := 9) hx hb dX8_sign_4 (by decide) (fun _ => ?_) (fun c => absurd (by decide) c)
  refine lv_aload_n hx hb dX8_sign_9 rfl (lv_at hlv 0 rfl) ?_
  refine va_get (D := D) (ci := 8) (v := .int 0) (C := RX8) (T := TX8) (N := 7) hx hb hts hi8 hown hG.1 hP 0 rfl rfl 3 (by decide) lf25 (fun _ h9 => h9) rfl dX8_sign_10 ?_
  refine lv_aload_n hx hb dX8_sign_13 rfl (lv_at hlv 0 rfl) ?_
  refine va_get (D := D) (ci := 8) (v := .int 0) (C := RX8) (T := TX8) (N := 7) hx hb hts hi8 hown hG.1 hP 0 rfl rfl 2 (by decide) lf22 (fun _ h9 => h9) rfl dX8_sign_14 ?_
  refine lv_icmp_ge (tgt := 47) hx hb dX8_sign_17 (by decide) (fun _ => ?_) (fun c => absurd (by decide) c)
  refine lv_aload_n hx hb dX8_sign_47 rfl (lv_at hlv 0 rfl) ?_
  refine va_get (D := D) (ci := 8) (v := .int 0) (C := RX8) (T := TX8) (N := 7) hx hb hts hi8 hown hG.1 hP 0 rfl rfl 3 (by decide) lf25 (fun _ h9 => h9) rfl dX8_sign_48 ?_
  refine lv_aload_n hx hb dX8_sign_51 rfl (lv_at hlv 0 rfl) ?_
  refine va_get (D := D) (ci := 8) (v := .int 0) (C := RX8) (T := TX8) (N := 7) hx hb hts hi8 hown hG.1 hP 0 rfl rfl 2 (by decide) lf22 (fun _ h9 => h9) rfl dX8_sign_52 ?_
  refine lv_icmp_ge (tgt := 74) hx hb dX8_sign_55 (by decide) (fun _ => ?_) (fun c => absurd (by decide) c)
  refine lv_iconst (v := (-1)) hx hb dX8_sign_74 (by decide) ?_
  refine W.widen (k := 0) (n := 0) (Nat.le_of_ble_eq_true rfl) (Nat.le_of_ble_eq_true rfl) ?_
  exact W.iret (v := (-1)) hx hb hr (fun t ht hW => ⟨⟨(-1), ((fun k => ([] : List Nat).getD k 0), (fun k => ([] : List Int32).getD k 0), (fun k => ([] : List (Nat → Int32)).getD k (fun _ => 0))), rfl, (by first | (exact (by rfl))), by rw [ht]; exact hP.sub [0] rfl, hD.sub [0] (by decide) rfl⟩, hS.F ht⟩) hS.2.2 dX8_sign_75
def vs_c_hasMore : List Cond := .code yX8_hasMore cX8_hasMore 1 (some .boolean) :: (([] : List Cond) ++ ((wsV RX8 34 RX8 yX8_sign vs_c_sign) ++ ([])))
set_option maxHeartbeats 4000000 in
set_option maxRecDepth 100000 in
theorem c_hasMore (l : Launch) (hl : l.stackTraces = false) (D : va_G) (cy : Nat → ClassId) (sa : Nat → Nat) (ka : Nat → Nat) (sz : Nat) : Met l yX8_hasMore vs_c_hasMore ({ frames := 1, cells := 0, slots := 0, locals := 20 }) (va_Pc [.ref (ka 0)] (pcW D cy sa sz [((ka 0), .inr (8, [.ref (ka 20), .int 0, .int 0, .int 0, .int 0, .int 0, .int (-1)]))])) (va_Qi (fun (r : Int32) (u : SU) => (r = 0)) (fun u t => atW D (va_A [((ka 0), .inr (8, [.ref (ka 20), .int 0, .int 0, .int 0, .int 0, .int 0, .int (-1)]))] sz) [((ka 0), .inr (8, [.ref (ka 20), .int 0, .int 0, .int 0, .int 0, .int 0, .int (-1)]))] t) (va_A [((ka 0), .inr (8, [.ref (ka 20), .int 0, .int 0, .int 0, .int 0, .int 0, .int (-1)]))] sz)) 0 0 (va_A [((ka 0), .inr (8, [.ref (ka 20), .int 0, .int 0, .int 0, .int 0, .int 0, .int (-1)]))] sz) := by
  refine Met.ofW (cc := cX8_hasMore) (maxL := 1) (ret := (some .boolean)) (by decide) rfl ?_
  intro p e s m args below meth c s₁ B hml hv
  obtain ⟨rfl, hsz, hP, hG, hD0, hT⟩ := hv
  have hx := B.exec
  have hb := B.bytes
  have hr := B.returns
  have hts := atoms_spec (ws := vs_c_hasMore) B.pre
  have hown : s.vm.findClass RX8 = some m.cls := findClass_of_methodNamed B.named
  have hlocks := B.notSynchronized
  subst hsz
  have hD := hD0.self (sz := s.heap.size)
  generalize hAe : va_A [((ka 0), .inr (8, [.ref (ka 20), .int 0, .int 0, .int 0, .int 0, .int 0, .int (-1)]))] s.heap.size = A at hD hT ⊢
  have hA : ∀ q : Nat, s.heap.size ≤ q → A q := fun q h => by rw [← hAe]; exact Or.inr h
  have hS : va_S A s.heap s.heap [] := va_S.rf
  have hl0 := lv_entry ([.ref (ka 0)]) (n := 1) (Nat.le_of_ble_eq_true rfl)
  rw [lg_entry_eq]
  generalize (lg_sl ([.ref (ka 0)]) ++ List.replicate (1 - (lg_sl ([.ref (ka 0)])).length) Slot.unset).toArray = ls at hl0 ⊢
  have hlv : lv_has ls 1 [(0, .ref (ka 0))] := hl0
  have gg_0 : GoodIn vs_c_hasMore (wsV RX8 34 RX8 yX8_sign vs_c_sign) := goodIn_sub (fun w h => List.mem_cons_of_mem _ (List.mem_append_right _ (List.mem_append_left _ h))) (by decide +kernel)
  refine lv_aload_n hx hb dX8_hasMore_0 rfl (lv_at hlv 0 rfl) ?_
  refine cj_i (wr := []) (va_runV (As := []) (rest := []) ⟨hx, hb, hml, hown, hts⟩ (c_sign l hl D cy sa ka s.heap.size) (cwV 0 hts gg_0 rfl rfl rfl (by decide +kernel) ⟨Nat.le_of_ble_eq_true rfl, Nat.le_of_ble_eq_true rfl⟩) ⟨pcW.blind, (va_recv hG.1 hP (ci := 8) (q0 := 0) rfl rfl), (pcW.mk hP hD hS hA hG hT [0] rfl (by decide))⟩ rfl rfl hlv.1 rfl (lv_room (Nat.le_of_ble_eq_true rfl)) dX8_hasMore_1 ⟨Nat.le_of_ble_eq_true rfl, Nat.le_of_ble_eq_true rfl⟩) hP hD hS hA [0] [] rfl rfl (by decide) (by decide) (fun r1 u1 H locs hw1 hP hD hS => ?_)
  obtain rfl := hw1
  have hP : va_P D vwCl [((ka 0), .inr (8, [.ref (ka 20), .int 0, .int 0, .int 0, .int 0, .int 0, .int (-1)]))] H := hP
  have hD : va_D A [((ka 0), .inr (8, [.ref (ka 20), .int 0, .int 0, .int 0, .int 0, .int 0, .int (-1)]))] := hD
  refine lv_iconst (v := (-1)) hx hb dX8_hasMore_4 (by decide) ?_
  refine lv_icmp_eq (tgt := 12) hx hb dX8_hasMore_5 (by decide) (fun _ => ?_) (fun c => absurd (by decide) c)
  refine lv_iconst (v := 0) hx hb dX8_hasMore_12 (by decide) ?_
  refine W.widen (k := 0) (n := 0) (Nat.le_of_ble_eq_true rfl) (Nat.le_of_ble_eq_true rfl) ?_
  exact W.zret (v := 0) hx hb hr (by first | rfl | decide) (fun t ht hW => ⟨⟨0, ((fun k => ([] : List Nat).getD k 0), (fun k => ([] : List Int32).getD k 0), (fun k => ([] : List (Nat → Int32)).getD k (fun _ => 0))), rfl, (by first | (exact (by rfl))), by rw [ht]; exact hP.sub [0] rfl, hD.sub [0] (by decide) rfl⟩, hS.F ht⟩) hS.2.2 dX8_hasMore_13
def vs_c_good : List Cond := .code yX8_good cX8_good 1 (some .boolean) :: (([.fieldLink RX8 31 "KerbSplash$Tape" "fault" "I"] : List Cond) ++ ((wsX80) ++ ([])))
set_option maxHeartbeats 4000000 in
set_option maxRecDepth 100000 in
theorem c_good (l : Launch) (hl : l.stackTraces = false) (D : va_G) (cy : Nat → ClassId) (sa : Nat → Nat) (ka : Nat → Nat) (sz : Nat) : Met l yX8_good vs_c_good ({ frames := 0, cells := 0, slots := 0, locals := 0 }) (va_Pc [.ref (ka 0)] (pcW D cy sa sz [((ka 0), .inr (8, [.ref (ka 20), .int 0, .int 0, .int 0, .int 0, .int 0, .int (-1)]))])) (va_Qi (fun (r : Int32) (u : SU) => (r = 1)) (fun u t => atW D (va_A [((ka 0), .inr (8, [.ref (ka 20), .int 0, .int 0, .int 0, .int 0, .int 0, .int (-1)]))] sz) [((ka 0), .inr (8, [.ref (ka 20), .int 0, .int 0, .int 0, .int 0, .int 0, .int (-1)]))] t) (va_A [((ka 0), .inr (8, [.ref (ka 20), .int 0, .int 0, .int 0, .int 0, .int 0, .int (-1)]))] sz)) 0 0 (va_A [((ka 0), .inr (8, [.ref (ka 20), .int 0, .int 0, .int 0, .int 0, .int 0, .int (-1)]))] sz) := by
  refine Met.ofW (cc := cX8_good) (maxL := 1) (ret := (some .boolean)) (by decide) rfl ?_
  intro p e s m args below meth c s₁ B hml hv
  obtain ⟨rfl, hsz, hP, hG, hD0, hT⟩ := hv
  have hx := B.exec
  have hb := B.bytes
  have hr := B.returns
  have hts := atoms_spec (ws := vs_c_good) B.pre
  have hown : s.vm.findClass RX8 = some m.cls := findClass_of_methodNamed B.named
  have hlocks := B.notSynchronized
  subst hsz
  have hD := hD0.self (sz := s.heap.size)
  generalize hAe : va_A [((ka 0), .inr (8, [.ref (ka 20), .int 0, .int 0, .int 0, .int 0, .int 0, .int (-1)]))] s.heap.size = A at hD hT ⊢
  have hA : ∀ q : Nat, s.heap.size ≤ q → A q := fun q h => by rw [← hAe]; exact Or.inr h
  have hS : va_S A s.heap s.heap [] := va_S.rf
  have hl0 := lv_entry ([.ref (ka 0)]) (n := 1) (Nat.le_of_ble_eq_true rfl)
  rw [lg_entry_eq]
  generalize (lg_sl ([.ref (ka 0)]) ++ List.replicate (1 - (lg_sl ([.ref (ka 0)])).length) Slot.unset).toArray = ls at hl0 ⊢
  have hlv : lv_has ls 1 [(0, .ref (ka 0))] := hl0
  have lf31 := hts (.fieldLink RX8 31 "KerbSplash$Tape" "fault" "I") (List.mem_of_getElem? (i := 1) rfl)
  have hi8 : ∀ w ∈ wsX80, w ∈ vs_c_good := fun w h => List.mem_cons_of_mem _ (List.mem_append_right _ (List.mem_append_left _ h))
  refine lv_aload_n hx hb dX8_good_0 rfl (lv_at hlv 0 rfl) ?_
  refine va_get (D := D) (ci := 8) (v := .int 0) (C := RX8) (T := TX8) (N := 7) hx hb hts hi8 hown hG.1 hP 0 rfl rfl 5 (by decide) lf31 (fun _ h9 => h9) rfl dX8_good_1 ?_
  refine lv_if_ne (tgt := 11) hx hb dX8_good_4 (by decide) (fun c => absurd (by decide) c) (fun _ => ?_)
  refine lv_iconst (v := 1) hx hb dX8_good_7 (by decide) ?_
  refine lv_goto (tgt := 12) hx hb dX8_good_8 (by decide) ?_
  refine W.widen (k := 0) (n := 0) (Nat.le_of_ble_eq_true rfl) (Nat.le_of_ble_eq_true rfl) ?_
  exact W.zret (v := 1) hx hb hr (by first | rfl | decide) (fun t ht hW => ⟨⟨1, ((fun k => ([] : List Nat).getD k 0), (fun k => ([] : List Int32).getD k 0), (fun k => ([] : List (Nat → Int32)).getD k (fun _ => 0))), rfl, (by first | (exact (by rfl))), by rw [ht]; exact hP.sub [0] rfl, hD.sub [0] (by decide) rfl⟩, hS.F ht⟩) hS.2.2 dX8_good_12
def vs_c_sreset : List Cond := .code yX6_reset cX6_reset 1 none :: (([.fieldLink RX6 28 "KerbSplash$Street" "wide" "I", .fieldLink RX6 32 "KerbSplash$Street" "rows" "I", .fieldLink RX6 9 "KerbSplash$Street" "height" "[I", .fieldLink RX6 13 "KerbSplash$Street" "water" "[I", .fieldLink RX6 41 "KerbSplash$Street" "drains" "I", .fieldLink RX6 44 "KerbSplash$Street" "drainsTold" "I", .fieldLink RX6 47 "KerbSplash$Street" "persons" "I", .fieldLink RX6 50 "KerbSplash$Street" "guesses" "I", .fieldLink RX6 53 "KerbSplash$Street" "shelters" "I", .fieldLink RX6 56 "KerbSplash$Street" "works" "I", .fieldLink RX6 59 "KerbSplash$Street" "done" "I", .fieldLink RX6 62 "KerbSplash$Street" "minutes" "I", .fieldLink RX6 65 "KerbSplash$Street" "fallen" "I", .fieldLink RX6 68 "KerbSplash$Street" "taken" "I", .fieldLink RX6 71 "KerbSplash$Street" "gone" "I"] : List Cond) ++ ((wsX60) ++ ((va_wsS RX6 35 yJ7_fill_53178 wsJ7_fill_53178) ++ ([]))))
set_option maxHeartbeats 4000000 in
set_option maxRecDepth 100000 in
theorem c_sreset (l : Launch) (hl : l.stackTraces = false) (D : va_G) (cy : Nat → ClassId) (sa : Nat → Nat) (ka : Nat → Nat) (f0 f1 : Nat → Int32) (sz : Nat) : Met l yX6_reset vs_c_sreset ({ frames := 1, cells := 0, slots := 0, locals := 23 }) (va_Pc [.ref (ka 6)] (pcW D cy sa sz [((ka 6), .inr (6, [.int 0, .int 0, .ref (ka 31), .ref (ka 32), .int 0, .int 0, .ref (ka 33), .int 0, .ref (ka 34), .int 0, .int 0, .ref (ka 35), .int 0, .ref (ka 36), .int 0, .int 0, .int 0, .int 0, .int 0])), ((ka 31), .inl (cy 0, 96, .inl f0)), ((ka 32), .inl (cy 0, 96, .inl f1))])) (va_Qv (fun u : SU => (True)) (fun u t => atW D (va_A [((ka 6), .inr (6, [.int 0, .int 0, .ref (ka 31), .ref (ka 32), .int 0, .int 0, .ref (ka 33), .int 0, .ref (ka 34), .int 0, .int 0, .ref (ka 35), .int 0, .ref (ka 36), .int 0, .int 0, .int 0, .int 0, .int 0])), ((ka 31), .inl (cy 0, 96, .inl f0)), ((ka 32), .inl (cy 0, 96, .inl f1))] sz) [((ka 6), .inr (6, [.int 8, .int 3, .ref (ka 31), .ref (ka 32), .int 0, .int 0, .ref (ka 33), .int 0, .ref (ka 34), .int 0, .int 0, .ref (ka 35), .int 0, .ref (ka 36), .int 0, .int 0, .int 0, .int 0, .int 0])), ((ka 31), .inl (cy 0, 96, .inl (u.2.2 0))), ((ka 32), .inl (cy 0, 96, .inl (u.2.2 1)))] t) (va_A [((ka 6), .inr (6, [.int 0, .int 0, .ref (ka 31), .ref (ka 32), .int 0, .int 0, .ref (ka 33), .int 0, .ref (ka 34), .int 0, .int 0, .ref (ka 35), .int 0, .ref (ka 36), .int 0, .int 0, .int 0, .int 0, .int 0])), ((ka 31), .inl (cy 0, 96, .inl f0)), ((ka 32), .inl (cy 0, 96, .inl f1))] sz)) 0 0 (va_A [((ka 6), .inr (6, [.int 0, .int 0, .ref (ka 31), .ref (ka 32), .int 0, .int 0, .ref (ka 33), .int 0, .ref (ka 34), .int 0, .int 0, .ref (ka 35), .int 0, .ref (ka 36), .int 0, .int 0, .int 0, .int 0, .int 0])), ((ka 31), .inl (cy 0, 96, .inl f0)), ((ka 32), .inl (cy 0, 96, .inl f1))] sz) := by
  refine Met.ofW (cc := cX6_reset) (maxL := 1) (ret := none) (by decide) rfl ?_
  intro p e s m args below meth c s₁ B hml hv
  obtain ⟨rfl, hsz, hP, hG, hD0, hT⟩ := hv
  have hx := B.exec
  have hb := B.bytes
  have hr := B.returns
  have hts := atoms_spec (ws := vs_c_sreset) B.pre
  have hown : s.vm.findClass RX6 = some m.cls := findClass_of_methodNamed B.named
  have hlocks := B.notSynchronized
  subst hsz
  have hD := hD0.self (sz := s.heap.size)
  generalize hAe : va_A [((ka 6), .inr (6, [.int 0, .int 0, .ref (ka 31), .ref (ka 32), .int 0, .int 0, .ref (ka 33), .int 0, .ref (ka 34), .int 0, .int 0, .ref (ka 35), .int 0, .ref (ka 36), .int 0, .int 0, .int 0, .int 0, .int 0])), ((ka 31), .inl (cy 0, 96, .inl f0)), ((ka 32), .inl (cy 0, 96, .inl f1))] s.heap.size = A at hD hT ⊢
  have hA : ∀ q : Nat, s.heap.size ≤ q → A q := fun q h => by rw [← hAe]; exact Or.inr h
  have hS : va_S A s.heap s.heap [] := va_S.rf
  have hl0 := lv_entry ([.ref (ka 6)]) (n := 1) (Nat.le_of_ble_eq_true rfl)
  rw [lg_entry_eq]
  generalize (lg_sl ([.ref (ka 6)]) ++ List.replicate (1 - (lg_sl ([.ref (ka 6)])).length) Slot.unset).toArray = ls at hl0 ⊢
  have hlv : lv_has ls 1 [(0, .ref (ka 6))] := hl0
  have lf28 := hts (.fieldLink RX6 28 "KerbSplash$Street" "wide" "I") (List.mem_of_getElem? (i := 1) rfl)
  have hi6 : ∀ w ∈ wsX60, w ∈ vs_c_sreset := fun w h => List.mem_cons_of_mem _ (List.mem_append_right _ (List.mem_append_left _ h))
  have lf32 := hts (.fieldLink RX6 32 "KerbSplash$Street" "rows" "I") (List.mem_of_getElem? (i := 2) rfl)
  have lf9 := hts (.fieldLink RX6 9 "KerbSplash$Street" "height" "[I") (List.mem_of_getElem? (i := 3) rfl)
  have gg_1 : GoodIn vs_c_sreset (va_wsS RX6 35 yJ7_fill_53178 wsJ7_fill_53178) := goodIn_sub (fun w h => List.mem_cons_of_mem _ (List.mem_append_right _ (List.mem_append_right _ (List.mem_append_left _ h)))) (by decide +kernel)
  have lf13 := hts (.fieldLink RX6 13 "KerbSplash$Street" "water" "[I") (List.mem_of_getElem? (i := 4) rfl)
  have lf41 := hts (.fieldLink RX6 41 "KerbSplash$Street" "drains" "I") (List.mem_of_getElem? (i := 5) rfl)
  have lf44 := hts (.fieldLink RX6 44 "KerbSplash$Street" "drainsTold" "I") (List.mem_of_getElem? (i := 6) rfl)
  have lf47 := hts (.fieldLink RX6 47 "KerbSplash$Street" "persons" "I") (List.mem_of_getElem? (i := 7) rfl)
  have lf50 := hts (.fieldLink RX6 50 "KerbSplash$Street" "guesses" "I") (List.mem_of_getElem? (i := 8) rfl)
  have lf53 := hts (.fieldLink RX6 53 "KerbSplash$Street" "shelters" "I") (List.mem_of_getElem? (i := 9) rfl)
  have lf56 := hts (.fieldLink RX6 56 "KerbSplash$Street" "works" "I") (List.mem_of_getElem? (i := 10) rfl)
  have lf59 := hts (.fieldLink RX6 59 "KerbSplash$Street" "done" "I") (List.mem_of_getElem? (i := 11) rfl)
  have lf62 := hts (.fieldLink RX6 62 "KerbSplash$Street" "minutes" "I") (List.mem_of_getElem? (i := 12) rfl)
  have lf65 := hts (.fieldLink RX6 65 "KerbSplash$Street" "fallen" "I") (List.mem_of_getElem? (i := 13) rfl)
  have lf68 := hts (.fieldLink RX6 68 "KerbSplash$Street" "taken" "I") (List.mem_of_getElem? (i := 14) rfl)
  have lf71 := hts (.fieldLink RX6 71 "KerbSplash$Street" "gone" "I") (List.mem_of_getElem? (i := 15) rfl)
  refine lv_aload_n hx hb dX6_reset_0 rfl (lv_at hlv 0 rfl) ?_
  refine lv_bipush (v := 8) hx hb dX6_reset_1 (by decide) ?_
  refine va_put (D := D) (ci := 6) (v := .int 8) (ty := .int) (C := RX6) (T := TX6) (N := 19) hx hb hts hi6 tyX6 tyX6_ok nmX6 hown hG.1 hP hD hS 0 rfl rfl 0 (by decide) lf28 (fun _ h9 => h9) rfl (by decide +kernel) rfl rfl (Nat.le_of_ble_eq_true rfl) dX6_reset_3 (fun H locs hP hD hS => ?_)
  have hP : va_P D vwCl [((ka 6), .inr (6, [.int 8, .int 0, .ref (ka 31), .ref (ka 32), .int 0, .int 0, .ref (ka 33), .int 0, .ref (ka 34), .int 0, .int 0, .ref (ka 35), .int 0, .ref (ka 36), .int 0, .int 0, .int 0, .int 0, .int 0])), ((ka 31), .inl (cy 0, 96, .inl f0)), ((ka 32), .inl (cy 0, 96, .inl f1))] H := hP
  have hD : va_D A [((ka 6), .inr (6, [.int 8, .int 0, .ref (ka 31), .ref (ka 32), .int 0, .int 0, .ref (ka 33), .int 0, .ref (ka 34), .int 0, .int 0, .ref (ka 35), .int 0, .ref (ka 36), .int 0, .int 0, .int 0, .int 0, .int 0])), ((ka 31), .inl (cy 0, 96, .inl f0)), ((ka 32), .inl (cy 0, 96, .inl f1))] := hD
  refine lv_aload_n hx hb dX6_reset_6 rfl (lv_at hlv 0 rfl) ?_
  refine lv_iconst (v := 3) hx hb dX6_reset_7 (by decide) ?_
  refine va_put (D := D) (ci := 6) (v := .int 3) (ty := .int) (C := RX6) (T := TX6) (N := 19) hx hb hts hi6 tyX6 tyX6_ok nmX6 hown hG.1 hP hD hS 0 rfl rfl 1 (by decide) lf32 (fun _ h9 => h9) rfl (by decide +kernel) rfl rfl (Nat.le_of_ble_eq_true rfl) dX6_reset_8 (fun H locs hP hD hS => ?_)
  have hP : va_P D vwCl [((ka 6), .inr (6, [.int 8, .int 3, .ref (ka 31), .ref (ka 32), .int 0, .int 0, .ref (ka 33), .int 0, .ref (ka 34), .int 0, .int 0, .ref (ka 35), .int 0, .ref (ka 36), .int 0, .int 0, .int 0, .int 0, .int 0])), ((ka 31), .inl (cy 0, 96, .inl f0)), ((ka 32), .inl (cy 0, 96, .inl f1))] H := hP
  have hD : va_D A [((ka 6), .inr (6, [.int 8, .int 3, .ref (ka 31), .ref (ka 32), .int 0, .int 0, .ref (ka 33), .int 0, .ref (ka 34), .int 0, .int 0, .ref (ka 35), .int 0, .ref (ka 36), .int 0, .int 0, .int 0, .int 0, .int 0])), ((ka 31), .inl (cy 0, 96, .inl f0)), ((ka 32), .inl (cy 0, 96, .inl f1))] := hD
  refine lv_aload_n hx hb dX6_reset_11 rfl (lv_at hlv 0 rfl) ?_
  refine va_get (D := D) (ci := 6) (v := .ref (ka 31)) (C := RX6) (T := TX6) (N := 19) hx hb hts hi6 hown hG.1 hP 0 rfl rfl 2 (by decide) lf9 (fun _ h9 => h9) rfl dX6_reset_12 ?_
  refine lv_bipush (v := 50) hx hb dX6_reset_15 (by decide) ?_
  refine cj_v (wr := [((ka 6), .inr (6, [.int 8, .int 3, .ref (ka 31), .ref (ka 32), .int 0, .int 0, .ref (ka 33), .int 0, .ref (ka 34), .int 0, .int 0, .ref (ka 35), .int 0, .ref (ka 36), .int 0, .int 0, .int 0, .int 0, .int 0])), ((ka 32), .inl (cy 0, 96, .inl f1))]) (va_runS (As := [.ref (ka 31), .int 50]) (rest := []) ⟨hx, hb, hml, hown, hts⟩ (c_fill_96 l hl D cy sa (ka 31) 50 f0 H.size) (va_cwS 2 hts gg_1 rfl rfl rfl (by decide +kernel) ⟨Nat.le_of_ble_eq_true rfl, Nat.le_of_ble_eq_true rfl⟩) ⟨pcW.blind, (pcW.mk hP hD hS hA hG hT [1] rfl (by decide))⟩ rfl rfl hlv.1 rfl (lv_room (Nat.le_of_ble_eq_true rfl)) dX6_reset_17 ⟨Nat.le_of_ble_eq_true rfl, Nat.le_of_ble_eq_true rfl⟩) hP hD hS hA [1] [0, 2] rfl rfl (by decide) (by decide) (fun u1 H locs hw1 hP hD hS => ?_)
  have hP : va_P D vwCl [((ka 6), .inr (6, [.int 8, .int 3, .ref (ka 31), .ref (ka 32), .int 0, .int 0, .ref (ka 33), .int 0, .ref (ka 34), .int 0, .int 0, .ref (ka 35), .int 0, .ref (ka 36), .int 0, .int 0, .int 0, .int 0, .int 0])), ((ka 32), .inl (cy 0, 96, .inl f1)), ((ka 31), .inl (cy 0, 96, .inl (u1.2.2 0)))] H := hP
  have hD : va_D A [((ka 6), .inr (6, [.int 8, .int 3, .ref (ka 31), .ref (ka 32), .int 0, .int 0, .ref (ka 33), .int 0, .ref (ka 34), .int 0, .int 0, .ref (ka 35), .int 0, .ref (ka 36), .int 0, .int 0, .int 0, .int 0, .int 0])), ((ka 32), .inl (cy 0, 96, .inl f1)), ((ka 31), .inl (cy 0, 96, .inl (u1.2.2 0)))] := hD
  refine lv_aload_n hx hb dX6_reset_20 rfl (lv_at hlv 0 rfl) ?_
  refine va_get (D := D) (ci := 6) (v := .ref (ka 32)) (C := RX6) (T := TX6) (N := 19) hx hb hts hi6 hown hG.1 hP 0 rfl rfl 3 (by decide) lf13 (fun _ h9 => h9) rfl dX6_reset_21 ?_
  refine lv_iconst (v := 0) hx hb dX6_reset_24 (by decide) ?_
  refine cj_v (wr := [((ka 6), .inr (6, [.int 8, .int 3, .ref (ka 31), .ref (ka 32), .int 0, .int 0, .ref (ka 33), .int 0, .ref (ka 34), .int 0, .int 0, .ref (ka 35), .int 0, .ref (ka 36), .int 0, .int 0, .int 0, .int 0, .int 0])), ((ka 31), .inl (cy 0, 96, .inl (u1.2.2 0)))]) (va_runS (As := [.ref (ka 32), .int 0]) (rest := []) ⟨hx, hb, hml, hown, hts⟩ (c_fill_96 l hl D cy sa (ka 32) 0 f1 H.size) (va_cwS 2 hts gg_1 rfl rfl rfl (by decide +kernel) ⟨Nat.le_of_ble_eq_true rfl, Nat.le_of_ble_eq_true rfl⟩) ⟨pcW.blind, (pcW.mk hP hD hS hA hG hT [1] rfl (by decide))⟩ rfl rfl hlv.1 rfl (lv_room (Nat.le_of_ble_eq_true rfl)) dX6_reset_25 ⟨Nat.le_of_ble_eq_true rfl, Nat.le_of_ble_eq_true rfl⟩) hP hD hS hA [1] [0, 2] rfl rfl (by decide) (by decide) (fun u2 H locs hw2 hP hD hS => ?_)
  have hP : va_P D vwCl [((ka 6), .inr (6, [.int 8, .int 3, .ref (ka 31), .ref (ka 32), .int 0, .int 0, .ref (ka 33), .int 0, .ref (ka 34), .int 0, .int 0, .ref (ka 35), .int 0, .ref (ka 36), .int 0, .int 0, .int 0, .int 0, .int 0])), ((ka 31), .inl (cy 0, 96, .inl (u1.2.2 0))), ((ka 32), .inl (cy 0, 96, .inl (u2.2.2 0)))] H := hP
  have hD : va_D A [((ka 6), .inr (6, [.int 8, .int 3, .ref (ka 31), .ref (ka 32), .int 0, .int 0, .ref (ka 33), .int 0, .ref (ka 34), .int 0, .int 0, .ref (ka 35), .int 0, .ref (ka 36), .int 0, .int 0, .int 0, .int 0, .int 0])), ((ka 31), .inl (cy 0, 96, .inl (u1.2.2 0))), ((ka 32), .inl (cy 0, 96, .inl (u2.2.2 0)))] := hD
  refine lv_aload_n hx hb dX6_reset_28 rfl (lv_at hlv 0 rfl) ?_
  refine lv_iconst (v := 0) hx hb dX6_reset_29 (by decide) ?_
  refine va_put (D := D) (ci := 6) (v := .int 0) (ty := .int) (C := RX6) (T := TX6) (N := 19) hx hb hts hi6 tyX6 tyX6_ok nmX6 hown hG.1 hP hD hS 0 rfl rfl 4 (by decide) lf41 (fun _ h9 => h9) rfl (by decide +kernel) rfl rfl (Nat.le_of_ble_eq_true rfl) dX6_reset_30 (fun H locs hP hD hS => ?_)
  have hP : va_P D vwCl [((ka 6), .inr (6, [.int 8, .int 3, .ref (ka 31), .ref (ka 32), .int 0, .int 0, .ref (ka 33), .int 0, .ref (ka 34), .int 0, .int 0, .ref (ka 35), .int 0, .ref (ka 36), .int 0, .int 0, .int 0, .int 0, .int 0])), ((ka 31), .inl (cy 0, 96, .inl (u1.2.2 0))), ((ka 32), .inl (cy 0, 96, .inl (u2.2.2 0)))] H := hP
  have hD : va_D A [((ka 6), .inr (6, [.int 8, .int 3, .ref (ka 31), .ref (ka 32), .int 0, .int 0, .ref (ka 33), .int 0, .ref (ka 34), .int 0, .int 0, .ref (ka 35), .int 0, .ref (ka 36), .int 0, .int 0, .int 0, .int 0, .int 0])), ((ka 31), .inl (cy 0, 96, .inl (u1.2.2 0))), ((ka 32), .inl (cy 0, 96, .inl (u2.2.2 0)))] := hD
  refine lv_aload_n hx hb dX6_reset_33 rfl (lv_at hlv 0 rfl) ?_
  refine lv_iconst (v := 0) hx hb dX6_reset_34 (by decide) ?_
  refine va_put (D := D) (ci := 6) (v := .int 0) (ty := .int) (C := RX6) (T := TX6) (N := 19) hx hb hts hi6 tyX6 tyX6_ok nmX6 hown hG.1 hP hD hS 0 rfl rfl 5 (by decide) lf44 (fun _ h9 => h9) rfl (by decide +kernel) rfl rfl (Nat.le_of_ble_eq_true rfl) dX6_reset_35 (fun H locs hP hD hS => ?_)
  have hP : va_P D vwCl [((ka 6), .inr (6, [.int 8, .int 3, .ref (ka 31), .ref (ka 32), .int 0, .int 0, .ref (ka 33), .int 0, .ref (ka 34), .int 0, .int 0, .ref (ka 35), .int 0, .ref (ka 36), .int 0, .int 0, .int 0, .int 0, .int 0])), ((ka 31), .inl (cy 0, 96, .inl (u1.2.2 0))), ((ka 32), .inl (cy 0, 96, .inl (u2.2.2 0)))] H := hP
  have hD : va_D A [((ka 6), .inr (6, [.int 8, .int 3, .ref (ka 31), .ref (ka 32), .int 0, .int 0, .ref (ka 33), .int 0, .ref (ka 34), .int 0, .int 0, .ref (ka 35), .int 0, .ref (ka 36), .int 0, .int 0, .int 0, .int 0, .int 0])), ((ka 31), .inl (cy 0, 96, .inl (u1.2.2 0))), ((ka 32), .inl (cy 0, 96, .inl (u2.2.2 0)))] := hD
  refine lv_aload_n hx hb dX6_reset_38 rfl (lv_at hlv 0 rfl) ?_
  refine lv_iconst (v := 0) hx hb dX6_reset_39 (by decide) ?_
  refine va_put (D := D) (ci := 6) (v := .int 0) (ty := .int) (C := RX6) (T := TX6) (N := 19) hx hb hts hi6 tyX6 tyX6_ok nmX6 hown hG.1 hP hD hS 0 rfl rfl 7 (by decide) lf47 (fun _ h9 => h9) rfl (by decide +kernel) rfl rfl (Nat.le_of_ble_eq_true rfl) dX6_reset_40 (fun H locs hP hD hS => ?_)
  have hP : va_P D vwCl [((ka 6), .inr (6, [.int 8, .int 3, .ref (ka 31), .ref (ka 32), .int 0, .int 0, .ref (ka 33), .int 0, .ref (ka 34), .int 0, .int 0, .ref (ka 35), .int 0, .ref (ka 36), .int 0, .int 0, .int 0, .int 0, .int 0])), ((ka 31), .inl (cy 0, 96, .inl (u1.2.2 0))), ((ka 32), .inl (cy 0, 96, .inl (u2.2.2 0)))] H := hP
  have hD : va_D A [((ka 6), .inr (6, [.int 8, .int 3, .ref (ka 31), .ref (ka 32), .int 0, .int 0, .ref (ka 33), .int 0, .ref (ka 34), .int 0, .int 0, .ref (ka 35), .int 0, .ref (ka 36), .int 0, .int 0, .int 0, .int 0, .int 0])), ((ka 31), .inl (cy 0, 96, .inl (u1.2.2 0))), ((ka 32), .inl (cy 0, 96, .inl (u2.2.2 0)))] := hD
  refine lv_aload_n hx hb dX6_reset_43 rfl (lv_at hlv 0 rfl) ?_
  refine lv_iconst (v := 0) hx hb dX6_reset_44 (by decide) ?_
  refine va_put (D := D) (ci := 6) (v := .int 0) (ty := .int) (C := RX6) (T := TX6) (N := 19) hx hb hts hi6 tyX6 tyX6_ok nmX6 hown hG.1 hP hD hS 0 rfl rfl 9 (by decide) lf50 (fun _ h9 => h9) rfl (by decide +kernel) rfl rfl (Nat.le_of_ble_eq_true rfl) dX6_reset_45 (fun H locs hP hD hS => ?_)
  have hP : va_P D vwCl [((ka 6), .inr (6, [.int 8, .int 3, .ref (ka 31), .ref (ka 32), .int 0, .int 0, .ref (ka 33), .int 0, .ref (ka 34), .int 0, .int 0, .ref (ka 35), .int 0, .ref (ka 36), .int 0, .int 0, .int 0, .int 0, .int 0])), ((ka 31), .inl (cy 0, 96, .inl (u1.2.2 0))), ((ka 32), .inl (cy 0, 96, .inl (u2.2.2 0)))] H := hP
  have hD : va_D A [((ka 6), .inr (6, [.int 8, .int 3, .ref (ka 31), .ref (ka 32), .int 0, .int 0, .ref (ka 33), .int 0, .ref (ka 34), .int 0, .int 0, .ref (ka 35), .int 0, .ref (ka 36), .int 0, .int 0, .int 0, .int 0, .int 0])), ((ka 31), .inl (cy 0, 96, .inl (u1.2.2 0))), ((ka 32), .inl (cy 0, 96, .inl (u2.2.2 0)))] := hD
  refine lv_aload_n hx hb dX6_reset_48 rfl (lv_at hlv 0 rfl) ?_
  refine lv_iconst (v := 0) hx hb dX6_reset_49 (by decide) ?_
  refine va_put (D := D) (ci := 6) (v := .int 0) (ty := .int) (C := RX6) (T := TX6) (N := 19) hx hb hts hi6 tyX6 tyX6_ok nmX6 hown hG.1 hP hD hS 0 rfl rfl 10 (by decide) lf53 (fun _ h9 => h9) rfl (by decide +kernel) rfl rfl (Nat.le_of_ble_eq_true rfl) dX6_reset_50 (fun H locs hP hD hS => ?_)
  have hP : va_P D vwCl [((ka 6), .inr (6, [.int 8, .int 3, .ref (ka 31), .ref (ka 32), .int 0, .int 0, .ref (ka 33), .int 0, .ref (ka 34), .int 0, .int 0, .ref (ka 35), .int 0, .ref (ka 36), .int 0, .int 0, .int 0, .int 0, .int 0])), ((ka 31), .inl (cy 0, 96, .inl (u1.2.2 0))), ((ka 32), .inl (cy 0, 96, .inl (u2.2.2 0)))] H := hP
  have hD : va_D A [((ka 6), .inr (6, [.int 8, .int 3, .ref (ka 31), .ref (ka 32), .int 0, .int 0, .ref (ka 33), .int 0, .ref (ka 34), .int 0, .int 0, .ref (ka 35), .int 0, .ref (ka 36), .int 0, .int 0, .int 0, .int 0, .int 0])), ((ka 31), .inl (cy 0, 96, .inl (u1.2.2 0))), ((ka 32), .inl (cy 0, 96, .inl (u2.2.2 0)))] := hD
  refine lv_aload_n hx hb dX6_reset_53 rfl (lv_at hlv 0 rfl) ?_
  refine lv_iconst (v := 0) hx hb dX6_reset_54 (by decide) ?_
  refine va_put (D := D) (ci := 6) (v := .int 0) (ty := .int) (C := RX6) (T := TX6) (N := 19) hx hb hts hi6 tyX6 tyX6_ok nmX6 hown hG.1 hP hD hS 0 rfl rfl 12 (by decide) lf56 (fun _ h9 => h9) rfl (by decide +kernel) rfl rfl (Nat.le_of_ble_eq_true rfl) dX6_reset_55 (fun H locs hP hD hS => ?_)
  have hP : va_P D vwCl [((ka 6), .inr (6, [.int 8, .int 3, .ref (ka 31), .ref (ka 32), .int 0, .int 0, .ref (ka 33), .int 0, .ref (ka 34), .int 0, .int 0, .ref (ka 35), .int 0, .ref (ka 36), .int 0, .int 0, .int 0, .int 0, .int 0])), ((ka 31), .inl (cy 0, 96, .inl (u1.2.2 0))), ((ka 32), .inl (cy 0, 96, .inl (u2.2.2 0)))] H := hP
  have hD : va_D A [((ka 6), .inr (6, [.int 8, .int 3, .ref (ka 31), .ref (ka 32), .int 0, .int 0, .ref (ka 33), .int 0, .ref (ka 34), .int 0, .int 0, .ref (ka 35), .int 0, .ref (ka 36), .int 0, .int 0, .int 0, .int 0, .int 0])), ((ka 31), .inl (cy 0, 96, .inl (u1.2.2 0))), ((ka 32), .inl (cy 0, 96, .inl (u2.2.2 0)))] := hD
  refine lv_aload_n hx hb dX6_reset_58 rfl (lv_at hlv 0 rfl) ?_
  refine lv_iconst (v := 0) hx hb dX6_reset_59 (by decide) ?_
  refine va_put (D := D) (ci := 6) (v := .int 0) (ty := .int) (C := RX6) (T := TX6) (N := 19) hx hb hts hi6 tyX6 tyX6_ok nmX6 hown hG.1 hP hD hS 0 rfl rfl 14 (by decide) lf59 (fun _ h9 => h9) rfl (by decide +kernel) rfl rfl (Nat.le_of_ble_eq_true rfl) dX6_reset_60 (fun H locs hP hD hS => ?_)
  have hP : va_P D vwCl [((ka 6), .inr (6, [.int 8, .int 3, .ref (ka 31), .ref (ka 32), .int 0, .int 0, .ref (ka 33), .int 0, .ref (ka 34), .int 0, .int 0, .ref (ka 35), .int 0, .ref (ka 36), .int 0, .int 0, .int 0, .int 0, .int 0])), ((ka 31), .inl (cy 0, 96, .inl (u1.2.2 0))), ((ka 32), .inl (cy 0, 96, .inl (u2.2.2 0)))] H := hP
  have hD : va_D A [((ka 6), .inr (6, [.int 8, .int 3, .ref (ka 31), .ref (ka 32), .int 0, .int 0, .ref (ka 33), .int 0, .ref (ka 34), .int 0, .int 0, .ref (ka 35), .int 0, .ref (ka 36), .int 0, .int 0, .int 0, .int 0, .int 0])), ((ka 31), .inl (cy 0, 96, .inl (u1.2.2 0))), ((ka 32), .inl (cy 0, 96, .inl (u2.2.2 0)))] := hD
  refine lv_aload_n hx hb dX6_reset_63 rfl (lv_at hlv 0 rfl) ?_
  refine lv_iconst (v := 0) hx hb dX6_reset_64 (by decide) ?_
  refine va_put (D := D) (ci := 6) (v := .int 0) (ty := .int) (C := RX6) (T := TX6) (N := 19) hx hb hts hi6 tyX6 tyX6_ok nmX6 hown hG.1 hP hD hS 0 rfl rfl 15 (by decide) lf62 (fun _ h9 => h9) rfl (by decide +kernel) rfl rfl (Nat.le_of_ble_eq_true rfl) dX6_reset_65 (fun H locs hP hD hS => ?_)
  have hP : va_P D vwCl [((ka 6), .inr (6, [.int 8, .int 3, .ref (ka 31), .ref (ka 32), .int 0, .int 0, .ref (ka 33), .int 0, .ref (ka 34), .int 0, .int 0, .ref (ka 35), .int 0, .ref (ka 36), .int 0, .int 0, .int 0, .int 0, .int 0])), ((ka 31), .inl (cy 0, 96, .inl (u1.2.2 0))), ((ka 32), .inl (cy 0, 96, .inl (u2.2.2 0)))] H := hP
  have hD : va_D A [((ka 6), .inr (6, [.int 8, .int 3, .ref (ka 31), .ref (ka 32), .int 0, .int 0, .ref (ka 33), .int 0, .ref (ka 34), .int 0, .int 0, .ref (ka 35), .int 0, .ref (ka 36), .int 0, .int 0, .int 0, .int 0, .int 0])), ((ka 31), .inl (cy 0, 96, .inl (u1.2.2 0))), ((ka 32), .inl (cy 0, 96, .inl (u2.2.2 0)))] := hD
  refine lv_aload_n hx hb dX6_reset_68 rfl (lv_at hlv 0 rfl) ?_
  refine lv_iconst (v := 0) hx hb dX6_reset_69 (by decide) ?_
  refine va_put (D := D) (ci := 6) (v := .int 0) (ty := .int) (C := RX6) (T := TX6) (N := 19) hx hb hts hi6 tyX6 tyX6_ok nmX6 hown hG.1 hP hD hS 0 rfl rfl 16 (by decide) lf65 (fun _ h9 => h9) rfl (by decide +kernel) rfl rfl (Nat.le_of_ble_eq_true rfl) dX6_reset_70 (fun H locs hP hD hS => ?_)
  have hP : va_P D vwCl [((ka 6), .inr (6, [.int 8, .int 3, .ref (ka 31), .ref (ka 32), .int 0, .int 0, .ref (ka 33), .int 0, .ref (ka 34), .int 0, .int 0, .ref (ka 35), .int 0, .ref (ka 36), .int 0, .int 0, .int 0, .int 0, .int 0])), ((ka 31), .inl (cy 0, 96, .inl (u1.2.2 0))), ((ka 32), .inl (cy 0, 96, .inl (u2.2.2 0)))] H := hP
  have hD : va_D A [((ka 6), .inr (6, [.int 8, .int 3, .ref (ka 31), .ref (ka 32), .int 0, .int 0, .ref (ka 33), .int 0, .ref (ka 34), .int 0, .int 0, .ref (ka 35), .int 0, .ref (ka 36), .int 0, .int 0, .int 0, .int 0, .int 0])), ((ka 31), .inl (cy 0, 96, .inl (u1.2.2 0))), ((ka 32), .inl (cy 0, 96, .inl (u2.2.2 0)))] := hD
  refine lv_aload_n hx hb dX6_reset_73 rfl (lv_at hlv 0 rfl) ?_
  refine lv_iconst (v := 0) hx hb dX6_reset_74 (by decide) ?_
  refine va_put (D := D) (ci := 6) (v := .int 0) (ty := .int) (C := RX6) (T := TX6) (N := 19) hx hb hts hi6 tyX6 tyX6_ok nmX6 hown hG.1 hP hD hS 0 rfl rfl 17 (by decide) lf68 (fun _ h9 => h9) rfl (by decide +kernel) rfl rfl (Nat.le_of_ble_eq_true rfl) dX6_reset_75 (fun H locs hP hD hS => ?_)
  have hP : va_P D vwCl [((ka 6), .inr (6, [.int 8, .int 3, .ref (ka 31), .ref (ka 32), .int 0, .int 0, .ref (ka 33), .int 0, .ref (ka 34), .int 0, .int 0, .ref (ka 35), .int 0, .ref (ka 36), .int 0, .int 0, .int 0, .int 0, .int 0])), ((ka 31), .inl (cy 0, 96, .inl (u1.2.2 0))), ((ka 32), .inl (cy 0, 96, .inl (u2.2.2 0)))] H := hP
  have hD : va_D A [((ka 6), .inr (6, [.int 8, .int 3, .ref (ka 31), .ref (ka 32), .int 0, .int 0, .ref (ka 33), .int 0, .ref (ka 34), .int 0, .int 0, .ref (ka 35), .int 0, .ref (ka 36), .int 0, .int 0, .int 0, .int 0, .int 0])), ((ka 31), .inl (cy 0, 96, .inl (u1.2.2 0))), ((ka 32), .inl (cy 0, 96, .inl (u2.2.2 0)))] := hD
  refine lv_aload_n hx hb dX6_reset_78 rfl (lv_at hlv 0 rfl) ?_
  refine lv_iconst (v := 0) hx hb dX6_reset_79 (by decide) ?_
  refine va_put (D := D) (ci := 6) (v := .int 0) (ty := .int) (C := RX6) (T := TX6) (N := 19) hx hb hts hi6 tyX6 tyX6_ok nmX6 hown hG.1 hP hD hS 0 rfl rfl 18 (by decide) lf71 (fun _ h9 => h9) rfl (by decide +kernel) rfl rfl (Nat.le_of_ble_eq_true rfl) dX6_reset_80 (fun H locs hP hD hS => ?_)
  have hP : va_P D vwCl [((ka 6), .inr (6, [.int 8, .int 3, .ref (ka 31), .ref (ka 32), .int 0, .int 0, .ref (ka 33), .int 0, .ref (ka 34), .int 0, .int 0, .ref (ka 35), .int 0, .ref (ka 36), .int 0, .int 0, .int 0, .int 0, .int 0])), ((ka 31), .inl (cy 0, 96, .inl (u1.2.2 0))), ((ka 32), .inl (cy 0, 96, .inl (u2.2.2 0)))] H := hP
  have hD : va_D A [((ka 6), .inr (6, [.int 8, .int 3, .ref (ka 31), .ref (ka 32), .int 0, .int 0, .ref (ka 33), .int 0, .ref (ka 34), .int 0, .int 0, .ref (ka 35), .int 0, .ref (ka 36), .int 0, .int 0, .int 0, .int 0, .int 0])), ((ka 31), .inl (cy 0, 96, .inl (u1.2.2 0))), ((ka 32), .inl (cy 0, 96, .inl (u2.2.2 0)))] := hD
  refine W.widen (k := 0) (n := 0) (Nat.le_of_ble_eq_true rfl) (Nat.le_of_ble_eq_true rfl) ?_
  exact W.vret hx hb hr (fun t ht hW => ⟨⟨((fun k => ([] : List Nat).getD k 0), (fun k => ([] : List Int32).getD k 0), (fun k => ([(u1.2.2 0), (u2.2.2 0)] : List (Nat → Int32)).getD k (fun _ => 0))), rfl, (by first | (trivial)), by rw [ht]; exact hP.sub [0, 1, 2] rfl, hD.sub [0, 1, 2] (by decide) rfl⟩, hS.F ht⟩) hS.2.2 dX6_reset_83
def vs_c_rdinit : List Cond := .code yX7_init cX7_init 3 none :: (([.methodLink RX7 3 objectInit, .instanceMethod objectInit, .code objectInit ⟨#[0xb1]⟩ 1 none, .fieldLink RX7 9 "KerbSplash$StreetReader" "tape" "LKerbSplash$Tape;", .fieldLink RX7 15 "KerbSplash$StreetReader" "street" "LKerbSplash$Street;"] : List Cond) ++ ((wsX70) ++ ([])))
set_option maxHeartbeats 4000000 in
set_option maxRecDepth 100000 in
theorem c_rdinit (l : Launch) (hl : l.stackTraces = false) (D : va_G) (cy : Nat → ClassId) (sa : Nat → Nat) (h0 t0 s0 : Nat) (sz : Nat) : Met l yX7_init vs_c_rdinit ({ frames := 1, cells := 0, slots := 0, locals := 20 }) (va_Pc [.ref h0, .ref t0, .ref s0] (pcW D cy sa sz [(h0, .inr (7, [.null, .null]))])) (va_Qv (fun u : SU => (True)) (fun u t => atW D (va_A [(h0, .inr (7, [.null, .null]))] sz) [(h0, .inr (7, [.ref t0, .ref s0]))] t) (va_A [(h0, .inr (7, [.null, .null]))] sz)) 0 0 (va_A [(h0, .inr (7, [.null, .null]))] sz) := by
  refine Met.ofW (cc := cX7_init) (maxL := 3) (ret := none) (by decide) rfl ?_
  intro p e s m args below meth c s₁ B hml hv
  obtain ⟨rfl, hsz, hP, hG, hD0, hT⟩ := hv
  have hx := B.exec
  have hb := B.bytes
  have hr := B.returns
  have hts := atoms_spec (ws := vs_c_rdinit) B.pre
  have hown : s.vm.findClass RX7 = some m.cls := findClass_of_methodNamed B.named
  have hlocks := B.notSynchronized
  have hin : meth.name = "<init>" := (name_of_methodNamed B.named B.method).1
  subst hsz
  have hD := hD0.self (sz := s.heap.size)
  generalize hAe : va_A [(h0, .inr (7, [.null, .null]))] s.heap.size = A at hD hT ⊢
  have hA : ∀ q : Nat, s.heap.size ≤ q → A q := fun q h => by rw [← hAe]; exact Or.inr h
  have hS : va_S A s.heap s.heap [] := va_S.rf
  have hl0 := lv_entry ([.ref h0, .ref t0, .ref s0]) (n := 3) (Nat.le_of_ble_eq_true rfl)
  rw [lg_entry_eq]
  generalize (lg_sl ([.ref h0, .ref t0, .ref s0]) ++ List.replicate (3 - (lg_sl ([.ref h0, .ref t0, .ref s0])).length) Slot.unset).toArray = ls at hl0 ⊢
  have hlv : lv_has ls 3 [(0, .ref h0), (1, .ref t0), (2, .ref s0)] := hl0
  have lo3 := hts (.methodLink RX7 3 objectInit) (List.mem_of_getElem? (i := 1) rfl)
  have oi := hts (.instanceMethod objectInit) (List.mem_of_getElem? (i := 2) rfl)
  have oc := hts (.code objectInit ⟨#[0xb1]⟩ 1 none) (List.mem_of_getElem? (i := 3) rfl)
  have lf9 := hts (.fieldLink RX7 9 "KerbSplash$StreetReader" "tape" "LKerbSplash$Tape;") (List.mem_of_getElem? (i := 4) rfl)
  have hi7 : ∀ w ∈ wsX70, w ∈ vs_c_rdinit := fun w h => List.mem_cons_of_mem _ (List.mem_append_right _ (List.mem_append_left _ h))
  have lf15 := hts (.fieldLink RX7 15 "KerbSplash$StreetReader" "street" "LKerbSplash$Street;") (List.mem_of_getElem? (i := 5) rfl)
  refine lv_aload_n hx hb dX7_init_0 rfl (lv_at hlv 0 rfl) ?_
  refine W.objInit hx hb hown lo3 oi oc rfl (by rw [hml]; exact hlv.1) rfl dX7_init_1 (Nat.le_of_ble_eq_true rfl) (Nat.le_of_ble_eq_true rfl) ?_
  refine W.eq (g2 := F0 m 4 ls []) rfl ?_
  refine lv_aload_n hx hb dX7_init_4 rfl (lv_at hlv 0 rfl) ?_
  refine lv_aload_n hx hb dX7_init_5 rfl (lv_at hlv 1 rfl) ?_
  refine va_putF (D := D) (ci := 7) (v := .ref t0) (ty := .object "KerbSplash$Tape") (C := RX7) (T := TX7) (N := 2) hx hb hts hi7 tyX7 tyX7_ok nmX7 hown hG.1 hP hD hS 0 rfl rfl 0 (by decide) lf9 (fun _ h9 => h9) rfl hin rfl (by decide +kernel) rfl rfl (Nat.le_of_ble_eq_true rfl) dX7_init_6 (fun H locs hP hD hS => ?_)
  have hP : va_P D vwCl [(h0, .inr (7, [.ref t0, .null]))] H := hP
  have hD : va_D A [(h0, .inr (7, [.ref t0, .null]))] := hD
  refine lv_aload_n hx hb dX7_init_9 rfl (lv_at hlv 0 rfl) ?_
  refine lv_aload_n hx hb dX7_init_10 rfl (lv_at hlv 2 rfl) ?_
  refine va_putF (D := D) (ci := 7) (v := .ref s0) (ty := .object "KerbSplash$Street") (C := RX7) (T := TX7) (N := 2) hx hb hts hi7 tyX7 tyX7_ok nmX7 hown hG.1 hP hD hS 0 rfl rfl 1 (by decide) lf15 (fun _ h9 => h9) rfl hin rfl (by decide +kernel) rfl rfl (Nat.le_of_ble_eq_true rfl) dX7_init_11 (fun H locs hP hD hS => ?_)
  have hP : va_P D vwCl [(h0, .inr (7, [.ref t0, .ref s0]))] H := hP
  have hD : va_D A [(h0, .inr (7, [.ref t0, .ref s0]))] := hD
  refine W.widen (k := 0) (n := 0) (Nat.le_of_ble_eq_true rfl) (Nat.le_of_ble_eq_true rfl) ?_
  exact W.vret hx hb hr (fun t ht hW => ⟨⟨((fun k => ([] : List Nat).getD k 0), (fun k => ([] : List Int32).getD k 0), (fun k => ([] : List (Nat → Int32)).getD k (fun _ => 0))), rfl, (by first | (trivial)), by rw [ht]; exact hP.sub [0] rfl, hD.sub [0] (by decide) rfl⟩, hS.F ht⟩) hS.2.2 dX7_init_14
def vs_c_rdread : List Cond := .code yX7_read cX7_read 2 none :: (([.fieldLink RX7 15 "KerbSplash$StreetReader" "street" "LKerbSplash$Street;", .initialized RX6, .instanceMethod yX6_reset, .selects RX6 yX6_reset yX6_reset, .fieldLink RX7 9 "KerbSplash$StreetReader" "tape" "LKerbSplash$Tape;", .initialized RX8, .instanceMethod yX8_hasMore, .selects RX8 yX8_hasMore yX8_hasMore] : List Cond) ++ ((wsX70) ++ ((vs_c_sreset) ++ ((vs_c_hasMore) ++ ([])))))
set_option maxHeartbeats 4000000 in
set_option maxRecDepth 100000 in
theorem c_rdread (l : Launch) (hl : l.stackTraces = false) (D : va_G) (cy : Nat → ClassId) (sa : Nat → Nat) (h0 : Nat) (ka : Nat → Nat) (f0 f1 : Nat → Int32) (sz : Nat) : Met l yX7_read vs_c_rdread ({ frames := 2, cells := 0, slots := 0, locals := 43 }) (va_Pc [.ref h0] (pcW D cy sa sz [(h0, .inr (7, [.ref (ka 0), .ref (ka 6)])), ((ka 0), .inr (8, [.ref (ka 20), .int 0, .int 0, .int 0, .int 0, .int 0, .int (-1)])), ((ka 6), .inr (6, [.int 0, .int 0, .ref (ka 31), .ref (ka 32), .int 0, .int 0, .ref (ka 33), .int 0, .ref (ka 34), .int 0, .int 0, .ref (ka 35), .int 0, .ref (ka 36), .int 0, .int 0, .int 0, .int 0, .int 0])), ((ka 31), .inl (cy 0, 96, .inl f0)), ((ka 32), .inl (cy 0, 96, .inl f1))])) (va_Qv (fun u : SU => (True)) (fun u t => atW D (va_A [(h0, .inr (7, [.ref (ka 0), .ref (ka 6)])), ((ka 0), .inr (8, [.ref (ka 20), .int 0, .int 0, .int 0, .int 0, .int 0, .int (-1)])), ((ka 6), .inr (6, [.int 0, .int 0, .ref (ka 31), .ref (ka 32), .int 0, .int 0, .ref (ka 33), .int 0, .ref (ka 34), .int 0, .int 0, .ref (ka 35), .int 0, .ref (ka 36), .int 0, .int 0, .int 0, .int 0, .int 0])), ((ka 31), .inl (cy 0, 96, .inl f0)), ((ka 32), .inl (cy 0, 96, .inl f1))] sz) [((ka 0), .inr (8, [.ref (ka 20), .int 0, .int 0, .int 0, .int 0, .int 0, .int (-1)])), ((ka 6), .inr (6, [.int 8, .int 3, .ref (ka 31), .ref (ka 32), .int 0, .int 0, .ref (ka 33), .int 0, .ref (ka 34), .int 0, .int 0, .ref (ka 35), .int 0, .ref (ka 36), .int 0, .int 0, .int 0, .int 0, .int 0])), ((ka 31), .inl (cy 0, 96, .inl (u.2.2 0))), ((ka 32), .inl (cy 0, 96, .inl (u.2.2 1)))] t) (va_A [(h0, .inr (7, [.ref (ka 0), .ref (ka 6)])), ((ka 0), .inr (8, [.ref (ka 20), .int 0, .int 0, .int 0, .int 0, .int 0, .int (-1)])), ((ka 6), .inr (6, [.int 0, .int 0, .ref (ka 31), .ref (ka 32), .int 0, .int 0, .ref (ka 33), .int 0, .ref (ka 34), .int 0, .int 0, .ref (ka 35), .int 0, .ref (ka 36), .int 0, .int 0, .int 0, .int 0, .int 0])), ((ka 31), .inl (cy 0, 96, .inl f0)), ((ka 32), .inl (cy 0, 96, .inl f1))] sz)) 0 0 (va_A [(h0, .inr (7, [.ref (ka 0), .ref (ka 6)])), ((ka 0), .inr (8, [.ref (ka 20), .int 0, .int 0, .int 0, .int 0, .int 0, .int (-1)])), ((ka 6), .inr (6, [.int 0, .int 0, .ref (ka 31), .ref (ka 32), .int 0, .int 0, .ref (ka 33), .int 0, .ref (ka 34), .int 0, .int 0, .ref (ka 35), .int 0, .ref (ka 36), .int 0, .int 0, .int 0, .int 0, .int 0])), ((ka 31), .inl (cy 0, 96, .inl f0)), ((ka 32), .inl (cy 0, 96, .inl f1))] sz) := by
  refine Met.ofW (cc := cX7_read) (maxL := 2) (ret := none) (by decide) rfl ?_
  intro p e s m args below meth c s₁ B hml hv
  obtain ⟨rfl, hsz, hP, hG, hD0, hT⟩ := hv
  have hx := B.exec
  have hb := B.bytes
  have hr := B.returns
  have hts := atoms_spec (ws := vs_c_rdread) B.pre
  have hown : s.vm.findClass RX7 = some m.cls := findClass_of_methodNamed B.named
  have hlocks := B.notSynchronized
  subst hsz
  have hD := hD0.self (sz := s.heap.size)
  generalize hAe : va_A [(h0, .inr (7, [.ref (ka 0), .ref (ka 6)])), ((ka 0), .inr (8, [.ref (ka 20), .int 0, .int 0, .int 0, .int 0, .int 0, .int (-1)])), ((ka 6), .inr (6, [.int 0, .int 0, .ref (ka 31), .ref (ka 32), .int 0, .int 0, .ref (ka 33), .int 0, .ref (ka 34), .int 0, .int 0, .ref (ka 35), .int 0, .ref (ka 36), .int 0, .int 0, .int 0, .int 0, .int 0])), ((ka 31), .inl (cy 0, 96, .inl f0)), ((ka 32), .inl (cy 0, 96, .inl f1))] s.heap.size = A at hD hT ⊢
  have hA : ∀ q : Nat, s.heap.size ≤ q → A q := fun q h => by rw [← hAe]; exact Or.inr h
  have hS : va_S A s.heap s.heap [] := va_S.rf
  have hl0 := lv_entry ([.ref h0]) (n := 2) (Nat.le_of_ble_eq_true rfl)
  rw [lg_entry_eq]
  generalize (lg_sl ([.ref h0]) ++ List.replicate (2 - (lg_sl ([.ref h0])).length) Slot.unset).toArray = ls at hl0 ⊢
  have hlv : lv_has ls 2 [(0, .ref h0)] := hl0
  have lf15 := hts (.fieldLink RX7 15 "KerbSplash$StreetReader" "street" "LKerbSplash$Street;") (List.mem_of_getElem? (i := 1) rfl)
  have hi7 : ∀ w ∈ wsX70, w ∈ vs_c_rdread := fun w h => List.mem_cons_of_mem _ (List.mem_append_right _ (List.mem_append_left _ h))
  have gg_1 : GoodIn vs_c_rdread (vs_c_sreset) := goodIn_sub (fun w h => List.mem_cons_of_mem _ (List.mem_append_right _ (List.mem_append_right _ (List.mem_append_left _ h)))) (by decide +kernel)
  have ini_RX6 := hts (.initialized RX6) (List.mem_of_getElem? (i := 2) rfl)
  have im_X6_reset := hts (.instanceMethod yX6_reset) (List.mem_of_getElem? (i := 3) rfl)
  have se_X6_reset := hts (.selects RX6 yX6_reset yX6_reset) (List.mem_of_getElem? (i := 4) rfl)
  have lf9 := hts (.fieldLink RX7 9 "KerbSplash$StreetReader" "tape" "LKerbSplash$Tape;") (List.mem_of_getElem? (i := 5) rfl)
  have gg_2 : GoodIn vs_c_rdread (vs_c_hasMore) := goodIn_sub (fun w h => List.mem_cons_of_mem _ (List.mem_append_right _ (List.mem_append_right _ (List.mem_append_right _ (List.mem_append_left _ h))))) (by decide +kernel)
  have ini_RX8 := hts (.initialized RX8) (List.mem_of_getElem? (i := 6) rfl)
  have im_X8_hasMore := hts (.instanceMethod yX8_hasMore) (List.mem_of_getElem? (i := 7) rfl)
  have se_X8_hasMore := hts (.selects RX8 yX8_hasMore yX8_hasMore) (List.mem_of_getElem? (i := 8) rfl)
  refine lv_aload_n hx hb dX7_read_0 rfl (lv_at hlv 0 rfl) ?_
  refine va_get (D := D) (ci := 7) (v := .ref (ka 6)) (C := RX7) (T := TX7) (N := 2) hx hb hts hi7 hown hG.1 hP 0 rfl rfl 1 (by decide) lf15 (fun _ h9 => h9) rfl dX7_read_1 ?_
  refine cj_v (wr := [(h0, .inr (7, [.ref (ka 0), .ref (ka 6)])), ((ka 0), .inr (8, [.ref (ka 20), .int 0, .int 0, .int 0, .int 0, .int 0, .int (-1)]))]) (va_runVN (host := "KerbSplash") (As := []) (rest := []) ⟨hx, hb, hml, hown, hts⟩ (c_sreset l hl D cy sa ka f0 f1 s.heap.size) ⟨va_cnB 0 hts gg_1 rfl rfl rfl (nM_StreetReader_19 hG.2.1) ini_RX6 (by decide +kernel) ⟨Nat.le_of_ble_eq_true rfl, Nat.le_of_ble_eq_true rfl⟩, im_X6_reset, se_X6_reset⟩ ⟨pcW.blind, (va_recv hG.1 hP (ci := 6) (q0 := 2) rfl rfl), (pcW.mk hP hD hS hA hG hT [2, 3, 4] rfl (by decide))⟩ rfl rfl hlv.1 rfl (lv_room (Nat.le_of_ble_eq_true rfl)) dX7_read_4 ⟨Nat.le_of_ble_eq_true rfl, Nat.le_of_ble_eq_true rfl⟩) hP hD hS hA [2, 3, 4] [0, 1] rfl rfl (by decide) (by decide) (fun u1 H locs hw1 hP hD hS => ?_)
  have hP : va_P D vwCl [(h0, .inr (7, [.ref (ka 0), .ref (ka 6)])), ((ka 0), .inr (8, [.ref (ka 20), .int 0, .int 0, .int 0, .int 0, .int 0, .int (-1)])), ((ka 6), .inr (6, [.int 8, .int 3, .ref (ka 31), .ref (ka 32), .int 0, .int 0, .ref (ka 33), .int 0, .ref (ka 34), .int 0, .int 0, .ref (ka 35), .int 0, .ref (ka 36), .int 0, .int 0, .int 0, .int 0, .int 0])), ((ka 31), .inl (cy 0, 96, .inl (u1.2.2 0))), ((ka 32), .inl (cy 0, 96, .inl (u1.2.2 1)))] H := hP
  have hD : va_D A [(h0, .inr (7, [.ref (ka 0), .ref (ka 6)])), ((ka 0), .inr (8, [.ref (ka 20), .int 0, .int 0, .int 0, .int 0, .int 0, .int (-1)])), ((ka 6), .inr (6, [.int 8, .int 3, .ref (ka 31), .ref (ka 32), .int 0, .int 0, .ref (ka 33), .int 0, .ref (ka 34), .int 0, .int 0, .ref (ka 35), .int 0, .ref (ka 36), .int 0, .int 0, .int 0, .int 0, .int 0])), ((ka 31), .inl (cy 0, 96, .inl (u1.2.2 0))), ((ka 32), .inl (cy 0, 96, .inl (u1.2.2 1)))] := hD
  refine lv_iconst (v := 0) hx hb dX7_read_7 (by decide) ?_
  refine lv_istore_n (lv' := [(1, .int 0), (0, .ref h0)]) hx hb dX7_read_8 rfl hlv (by decide) rfl (fun ls hlv => ?_)
  refine lv_iload_n hx hb dX7_read_9 rfl (lv_at hlv 0 rfl) ?_
  refine lv_bipush (v := 60) hx hb dX7_read_10 (by decide) ?_
  refine lv_icmp_gt (tgt := 36) hx hb dX7_read_12 (by decide) (fun c => absurd c (by decide)) (fun _ => ?_)
  refine lv_aload_n hx hb dX7_read_15 rfl (lv_at hlv 1 rfl) ?_
  refine va_get (D := D) (ci := 7) (v := .ref (ka 0)) (C := RX7) (T := TX7) (N := 2) hx hb hts hi7 hown hG.1 hP 0 rfl rfl 0 (by decide) lf9 (fun _ h9 => h9) rfl dX7_read_16 ?_
  refine cj_i (wr := [(h0, .inr (7, [.ref (ka 0), .ref (ka 6)])), ((ka 6), .inr (6, [.int 8, .int 3, .ref (ka 31), .ref (ka 32), .int 0, .int 0, .ref (ka 33), .int 0, .ref (ka 34), .int 0, .int 0, .ref (ka 35), .int 0, .ref (ka 36), .int 0, .int 0, .int 0, .int 0, .int 0])), ((ka 31), .inl (cy 0, 96, .inl (u1.2.2 0))), ((ka 32), .inl (cy 0, 96, .inl (u1.2.2 1)))]) (va_runVN (host := "KerbSplash") (As := []) (rest := []) ⟨hx, hb, hml, hown, hts⟩ (c_hasMore l hl D cy sa ka H.size) ⟨va_cnB 0 hts gg_2 rfl rfl rfl (nM_StreetReader_24 hG.2.1) ini_RX8 (by decide +kernel) ⟨Nat.le_of_ble_eq_true rfl, Nat.le_of_ble_eq_true rfl⟩, im_X8_hasMore, se_X8_hasMore⟩ ⟨pcW.blind, (va_recv hG.1 hP (ci := 8) (q0 := 1) rfl rfl), (pcW.mk hP hD hS hA hG hT [1] rfl (by decide))⟩ rfl rfl hlv.1 rfl (lv_room (Nat.le_of_ble_eq_true rfl)) dX7_read_19 ⟨Nat.le_of_ble_eq_true rfl, Nat.le_of_ble_eq_true rfl⟩) hP hD hS hA [1] [0, 2, 3, 4] rfl rfl (by decide) (by decide) (fun r2 u2 H locs hw2 hP hD hS => ?_)
  obtain rfl := hw2
  have hP : va_P D vwCl [(h0, .inr (7, [.ref (ka 0), .ref (ka 6)])), ((ka 6), .inr (6, [.int 8, .int 3, .ref (ka 31), .ref (ka 32), .int 0, .int 0, .ref (ka 33), .int 0, .ref (ka 34), .int 0, .int 0, .ref (ka 35), .int 0, .ref (ka 36), .int 0, .int 0, .int 0, .int 0, .int 0])), ((ka 31), .inl (cy 0, 96, .inl (u1.2.2 0))), ((ka 32), .inl (cy 0, 96, .inl (u1.2.2 1))), ((ka 0), .inr (8, [.ref (ka 20), .int 0, .int 0, .int 0, .int 0, .int 0, .int (-1)]))] H := hP
  have hD : va_D A [(h0, .inr (7, [.ref (ka 0), .ref (ka 6)])), ((ka 6), .inr (6, [.int 8, .int 3, .ref (ka 31), .ref (ka 32), .int 0, .int 0, .ref (ka 33), .int 0, .ref (ka 34), .int 0, .int 0, .ref (ka 35), .int 0, .ref (ka 36), .int 0, .int 0, .int 0, .int 0, .int 0])), ((ka 31), .inl (cy 0, 96, .inl (u1.2.2 0))), ((ka 32), .inl (cy 0, 96, .inl (u1.2.2 1))), ((ka 0), .inr (8, [.ref (ka 20), .int 0, .int 0, .int 0, .int 0, .int 0, .int (-1)]))] := hD
  refine lv_if_eq (tgt := 36) hx hb dX7_read_22 (by decide) (fun _ => ?_) (fun c => absurd (by decide) c)
  refine W.widen (k := 0) (n := 0) (Nat.le_of_ble_eq_true rfl) (Nat.le_of_ble_eq_true rfl) ?_
  exact W.vret hx hb hr (fun t ht hW => ⟨⟨((fun k => ([] : List Nat).getD k 0), (fun k => ([] : List Int32).getD k 0), (fun k => ([(u1.2.2 0), (u1.2.2 1)] : List (Nat → Int32)).getD k (fun _ => 0))), rfl, (by first | (trivial)), by rw [ht]; exact hP.sub [4, 1, 2, 3] rfl, hD.sub [4, 1, 2, 3] (by decide) rfl⟩, hS.F ht⟩) hS.2.2 dX7_read_36
def vs_c_preset : List Cond := .code yX4_reset cX4_reset 1 none :: (([.fieldLink RX4 21 "KerbSplash$Plan" "cars" "I", .fieldLink RX4 25 "KerbSplash$Plan" "dips" "I", .fieldLink RX4 18 "KerbSplash$Plan" "shares" "[I"] : List Cond) ++ ((wsX40) ++ ((va_wsS RX4 28 yJ7_fill_53178 wsJ7_fill_53178) ++ ([]))))
set_option maxHeartbeats 4000000 in
set_option maxRecDepth 100000 in
theorem c_preset (l : Launch) (hl : l.stackTraces = false) (D : va_G) (cy : Nat → ClassId) (sa : Nat → Nat) (ka : Nat → Nat) (f0 : Nat → Int32) (sz : Nat) : Met l yX4_reset vs_c_preset ({ frames := 1, cells := 0, slots := 0, locals := 23 }) (va_Pc [.ref (ka 7)] (pcW D cy sa sz [((ka 7), .inr (4, [.int 0, .ref (ka 41), .int 0, .ref (ka 42), .ref (ka 43)])), ((ka 43), .inl (cy 0, 4, .inl f0))])) (va_Qv (fun u : SU => (True)) (fun u t => atW D (va_A [((ka 7), .inr (4, [.int 0, .ref (ka 41), .int 0, .ref (ka 42), .ref (ka 43)])), ((ka 43), .inl (cy 0, 4, .inl f0))] sz) [] t) (va_A [((ka 7), .inr (4, [.int 0, .ref (ka 41), .int 0, .ref (ka 42), .ref (ka 43)])), ((ka 43), .inl (cy 0, 4, .inl f0))] sz)) 0 0 (va_A [((ka 7), .inr (4, [.int 0, .ref (ka 41), .int 0, .ref (ka 42), .ref (ka 43)])), ((ka 43), .inl (cy 0, 4, .inl f0))] sz) := by
  refine Met.ofW (cc := cX4_reset) (maxL := 1) (ret := none) (by decide) rfl ?_
  intro p e s m args below meth c s₁ B hml hv
  obtain ⟨rfl, hsz, hP, hG, hD0, hT⟩ := hv
  have hx := B.exec
  have hb := B.bytes
  have hr := B.returns
  have hts := atoms_spec (ws := vs_c_preset) B.pre
  have hown : s.vm.findClass RX4 = some m.cls := findClass_of_methodNamed B.named
  have hlocks := B.notSynchronized
  subst hsz
  have hD := hD0.self (sz := s.heap.size)
  generalize hAe : va_A [((ka 7), .inr (4, [.int 0, .ref (ka 41), .int 0, .ref (ka 42), .ref (ka 43)])), ((ka 43), .inl (cy 0, 4, .inl f0))] s.heap.size = A at hD hT ⊢
  have hA : ∀ q : Nat, s.heap.size ≤ q → A q := fun q h => by rw [← hAe]; exact Or.inr h
  have hS : va_S A s.heap s.heap [] := va_S.rf
  have hl0 := lv_entry ([.ref (ka 7)]) (n := 1) (Nat.le_of_ble_eq_true rfl)
  rw [lg_entry_eq]
  generalize (lg_sl ([.ref (ka 7)]) ++ List.replicate (1 - (lg_sl ([.ref (ka 7)])).length) Slot.unset).toArray = ls at hl0 ⊢
  have hlv : lv_has ls 1 [(0, .ref (ka 7))] := hl0
  have lf21 := hts (.fieldLink RX4 21 "KerbSplash$Plan" "cars" "I") (List.mem_of_getElem? (i := 1) rfl)
  have hi4 : ∀ w ∈ wsX40, w ∈ vs_c_preset := fun w h => List.mem_cons_of_mem _ (List.mem_append_right _ (List.mem_append_left _ h))
  have lf25 := hts (.fieldLink RX4 25 "KerbSplash$Plan" "dips" "I") (List.mem_of_getElem? (i := 2) rfl)
  have lf18 := hts (.fieldLink RX4 18 "KerbSplash$Plan" "shares" "[I") (List.mem_of_getElem? (i := 3) rfl)
  have gg_1 : GoodIn vs_c_preset (va_wsS RX4 28 yJ7_fill_53178 wsJ7_fill_53178) := goodIn_sub (fun w h => List.mem_cons_of_mem _ (List.mem_append_right _ (List.mem_append_right _ (List.mem_append_left _ h)))) (by decide +kernel)
  refine lv_aload_n hx hb dX4_reset_0 rfl (lv_at hlv 0 rfl) ?_
  refine lv_iconst (v := 0) hx hb dX4_reset_1 (by decide) ?_
  refine va_put (D := D) (ci := 4) (v := .int 0) (ty := .int) (C := RX4) (T := TX4) (N := 5) hx hb hts hi4 tyX4 tyX4_ok nmX4 hown hG.1 hP hD hS 0 rfl rfl 0 (by decide) lf21 (fun _ h9 => h9) rfl (by decide +kernel) rfl rfl (Nat.le_of_ble_eq_true rfl) dX4_reset_2 (fun H locs hP hD hS => ?_)
  have hP : va_P D vwCl [((ka 7), .inr (4, [.int 0, .ref (ka 41), .int 0, .ref (ka 42), .ref (ka 43)])), ((ka 43), .inl (cy 0, 4, .inl f0))] H := hP
  have hD : va_D A [((ka 7), .inr (4, [.int 0, .ref (ka 41), .int 0, .ref (ka 42), .ref (ka 43)])), ((ka 43), .inl (cy 0, 4, .inl f0))] := hD
  refine lv_aload_n hx hb dX4_reset_5 rfl (lv_at hlv 0 rfl) ?_
  refine lv_iconst (v := 0) hx hb dX4_reset_6 (by decide) ?_
  refine va_put (D := D) (ci := 4) (v := .int 0) (ty := .int) (C := RX4) (T := TX4) (N := 5) hx hb hts hi4 tyX4 tyX4_ok nmX4 hown hG.1 hP hD hS 0 rfl rfl 2 (by decide) lf25 (fun _ h9 => h9) rfl (by decide +kernel) rfl rfl (Nat.le_of_ble_eq_true rfl) dX4_reset_7 (fun H locs hP hD hS => ?_)
  have hP : va_P D vwCl [((ka 7), .inr (4, [.int 0, .ref (ka 41), .int 0, .ref (ka 42), .ref (ka 43)])), ((ka 43), .inl (cy 0, 4, .inl f0))] H := hP
  have hD : va_D A [((ka 7), .inr (4, [.int 0, .ref (ka 41), .int 0, .ref (ka 42), .ref (ka 43)])), ((ka 43), .inl (cy 0, 4, .inl f0))] := hD
  refine lv_aload_n hx hb dX4_reset_10 rfl (lv_at hlv 0 rfl) ?_
  refine va_get (D := D) (ci := 4) (v := .ref (ka 43)) (C := RX4) (T := TX4) (N := 5) hx hb hts hi4 hown hG.1 hP 0 rfl rfl 4 (by decide) lf18 (fun _ h9 => h9) rfl dX4_reset_11 ?_
  refine lv_iconst (v := 1) hx hb dX4_reset_14 (by decide) ?_
  refine cj_v (wr := [((ka 7), .inr (4, [.int 0, .ref (ka 41), .int 0, .ref (ka 42), .ref (ka 43)]))]) (va_runS (As := [.ref (ka 43), .int 1]) (rest := []) ⟨hx, hb, hml, hown, hts⟩ (c_fill_4 l hl D cy sa (ka 43) 1 f0 H.size) (va_cwS 2 hts gg_1 rfl rfl rfl (by decide +kernel) ⟨Nat.le_of_ble_eq_true rfl, Nat.le_of_ble_eq_true rfl⟩) ⟨pcW.blind, (pcW.mk hP hD hS hA hG hT [1] rfl (by decide))⟩ rfl rfl hlv.1 rfl (lv_room (Nat.le_of_ble_eq_true rfl)) dX4_reset_15 ⟨Nat.le_of_ble_eq_true rfl, Nat.le_of_ble_eq_true rfl⟩) hP hD hS hA [1] [0] rfl rfl (by decide) (by decide) (fun u1 H locs hw1 hP hD hS => ?_)
  have hP : va_P D vwCl [((ka 7), .inr (4, [.int 0, .ref (ka 41), .int 0, .ref (ka 42), .ref (ka 43)])), ((ka 43), .inl (cy 0, 4, .inl (u1.2.2 0)))] H := hP
  have hD : va_D A [((ka 7), .inr (4, [.int 0, .ref (ka 41), .int 0, .ref (ka 42), .ref (ka 43)])), ((ka 43), .inl (cy 0, 4, .inl (u1.2.2 0)))] := hD
  refine W.widen (k := 0) (n := 0) (Nat.le_of_ble_eq_true rfl) (Nat.le_of_ble_eq_true rfl) ?_
  exact W.vret hx hb hr (fun t ht hW => ⟨⟨((fun k => ([] : List Nat).getD k 0), (fun k => ([] : List Int32).getD k 0), (fun k => ([] : List (Nat → Int32)).getD k (fun _ => 0))), rfl, (by first | (trivial)), by rw [ht]; exact hP.sub [] rfl, hD.sub [] (by decide) rfl⟩, hS.F ht⟩) hS.2.2 dX4_reset_18
def vs_c_cells24 : List Cond := .code yX6_cells cX6_cells 1 (some .int) :: (([.fieldLink RX6 28 "KerbSplash$Street" "wide" "I", .fieldLink RX6 32 "KerbSplash$Street" "rows" "I"] : List Cond) ++ ((wsX60) ++ ([])))
set_option maxHeartbeats 4000000 in
set_option maxRecDepth 100000 in
theorem c_cells24 (l : Launch) (hl : l.stackTraces = false) (D : va_G) (cy : Nat → ClassId) (sa : Nat → Nat) (ka : Nat → Nat) (sz : Nat) : Met l yX6_cells vs_c_cells24 ({ frames := 0, cells := 0, slots := 0, locals := 0 }) (va_Pc [.ref (ka 6)] (pcW D cy sa sz [((ka 6), .inr (6, [.int 8, .int 3, .ref (ka 31), .ref (ka 32), .int 0, .int 0, .ref (ka 33), .int 0, .ref (ka 34), .int 0, .int 0, .ref (ka 35), .int 0, .ref (ka 36), .int 0, .int 0, .int 0, .int 0, .int 0]))])) (va_Qi (fun (r : Int32) (u : SU) => (r = 24)) (fun u t => atW D (va_A [((ka 6), .inr (6, [.int 8, .int 3, .ref (ka 31), .ref (ka 32), .int 0, .int 0, .ref (ka 33), .int 0, .ref (ka 34), .int 0, .int 0, .ref (ka 35), .int 0, .ref (ka 36), .int 0, .int 0, .int 0, .int 0, .int 0]))] sz) [] t) (va_A [((ka 6), .inr (6, [.int 8, .int 3, .ref (ka 31), .ref (ka 32), .int 0, .int 0, .ref (ka 33), .int 0, .ref (ka 34), .int 0, .int 0, .ref (ka 35), .int 0, .ref (ka 36), .int 0, .int 0, .int 0, .int 0, .int 0]))] sz)) 0 0 (va_A [((ka 6), .inr (6, [.int 8, .int 3, .ref (ka 31), .ref (ka 32), .int 0, .int 0, .ref (ka 33), .int 0, .ref (ka 34), .int 0, .int 0, .ref (ka 35), .int 0, .ref (ka 36), .int 0, .int 0, .int 0, .int 0, .int 0]))] sz) := by
  refine Met.ofW (cc := cX6_cells) (maxL := 1) (ret := (some .int)) (by decide) rfl ?_
  intro p e s m args below meth c s₁ B hml hv
  obtain ⟨rfl, hsz, hP, hG, hD0, hT⟩ := hv
  have hx := B.exec
  have hb := B.bytes
  have hr := B.returns
  have hts := atoms_spec (ws := vs_c_cells24) B.pre
  have hown : s.vm.findClass RX6 = some m.cls := findClass_of_methodNamed B.named
  have hlocks := B.notSynchronized
  subst hsz
  have hD := hD0.self (sz := s.heap.size)
  generalize hAe : va_A [((ka 6), .inr (6, [.int 8, .int 3, .ref (ka 31), .ref (ka 32), .int 0, .int 0, .ref (ka 33), .int 0, .ref (ka 34), .int 0, .int 0, .ref (ka 35), .int 0, .ref (ka 36), .int 0, .int 0, .int 0, .int 0, .int 0]))] s.heap.size = A at hD hT ⊢
  have hA : ∀ q : Nat, s.heap.size ≤ q → A q := fun q h => by rw [← hAe]; exact Or.inr h
  have hS : va_S A s.heap s.heap [] := va_S.rf
  have hl0 := lv_entry ([.ref (ka 6)]) (n := 1) (Nat.le_of_ble_eq_true rfl)
  rw [lg_entry_eq]
  generalize (lg_sl ([.ref (ka 6)]) ++ List.replicate (1 - (lg_sl ([.ref (ka 6)])).length) Slot.unset).toArray = ls at hl0 ⊢
  have hlv : lv_has ls 1 [(0, .ref (ka 6))] := hl0
  have lf28 := hts (.fieldLink RX6 28 "KerbSplash$Street" "wide" "I") (List.mem_of_getElem? (i := 1) rfl)
  have hi6 : ∀ w ∈ wsX60, w ∈ vs_c_cells24 := fun w h => List.mem_cons_of_mem _ (List.mem_append_right _ (List.mem_append_left _ h))
  have lf32 := hts (.fieldLink RX6 32 "KerbSplash$Street" "rows" "I") (List.mem_of_getElem? (i := 2) rfl)
  refine lv_aload_n hx hb dX6_cells_0 rfl (lv_at hlv 0 rfl) ?_
  refine va_get (D := D) (ci := 6) (v := .int 8) (C := RX6) (T := TX6) (N := 19) hx hb hts hi6 hown hG.1 hP 0 rfl rfl 0 (by decide) lf28 (fun _ h9 => h9) rfl dX6_cells_1 ?_
  refine lv_aload_n hx hb dX6_cells_4 rfl (lv_at hlv 0 rfl) ?_
  refine va_get (D := D) (ci := 6) (v := .int 3) (C := RX6) (T := TX6) (N := 19) hx hb hts hi6 hown hG.1 hP 0 rfl rfl 1 (by decide) lf32 (fun _ h9 => h9) rfl dX6_cells_5 ?_
  refine lv_imul hx hb dX6_cells_8 ?_
  refine lt_i (y := 24) (by decide) ?_
  refine W.widen (k := 0) (n := 0) (Nat.le_of_ble_eq_true rfl) (Nat.le_of_ble_eq_true rfl) ?_
  exact W.iret (v := 24) hx hb hr (fun t ht hW => ⟨⟨24, ((fun k => ([] : List Nat).getD k 0), (fun k => ([] : List Int32).getD k 0), (fun k => ([] : List (Nat → Int32)).getD k (fun _ => 0))), rfl, (by first | (exact (by rfl))), by rw [ht]; exact hP.sub [] rfl, hD.sub [] (by decide) rfl⟩, hS.F ht⟩) hS.2.2 dX6_cells_9
def vs_c_street0 : List Cond := .code yX11_street cX11_street 3 (some .int) :: (([.classLink RX11 88 RX7, .instantiable RX7 2, .initialized RX7, .fieldLink RX11 10 "KerbSplash" "tape" "LKerbSplash$Tape;", .fieldLink RX11 35 "KerbSplash" "draft" "LKerbSplash$Street;", .instanceMethod yX7_init, .instanceMethod yX7_read, .selects RX7 yX7_read yX7_read, .initialized RX8, .instanceMethod yX8_good, .selects RX8 yX8_good yX8_good, .fieldLink RX11 31 "KerbSplash" "now" "LKerbSplash$Street;", .fieldLink RX11 41 "KerbSplash" "plan" "LKerbSplash$Plan;", .initialized RX4, .instanceMethod yX4_reset, .selects RX4 yX4_reset yX4_reset, .fieldLink RX11 105 "KerbSplash" "images" "I", .initialized RX6, .instanceMethod yX6_cells, .selects RX6 yX6_cells yX6_cells] : List Cond) ++ ((wsV RX11 85 RX11 yX11_beginText vs_c_beginText0) ++ ((wsX70) ++ ((wsX110) ++ ((vs_c_rdinit) ++ ((vs_c_rdread) ++ ((vs_c_good) ++ ((vs_c_preset) ++ ((vs_c_cells24) ++ ([]))))))))))
set_option maxHeartbeats 4000000 in
set_option maxRecDepth 100000 in
theorem c_street0 (l : Launch) (hl : l.stackTraces = false) (D : va_G) (cy : Nat → ClassId) (sa : Nat → Nat) (ko : Nat) (ka : Nat → Nat) (f0 f1 f2 : Nat → Int32) (sz : Nat) : Met l yX11_street vs_c_street0 ({ frames := 3, cells := 1, slots := 2, locals := 64 }) (va_Pc [.ref ko, .int 0] (pcW D cy sa sz [(ko, .inr (11, [.ref (ka 0), .ref (ka 1), .ref (ka 2), .int 0, .int 0, .ref (ka 5), .ref (ka 6), .ref (ka 7), .ref (ka 8), .ref (ka 9), .int 0, .ref (ka 11), .ref (ka 12), .ref (ka 13)])), ((ka 0), .inr (8, [.ref (ka 20), .int 0, .int 0, .int 0, .int 0, .int 0, .int (-1)])), ((ka 6), .inr (6, [.int 0, .int 0, .ref (ka 31), .ref (ka 32), .int 0, .int 0, .ref (ka 33), .int 0, .ref (ka 34), .int 0, .int 0, .ref (ka 35), .int 0, .ref (ka 36), .int 0, .int 0, .int 0, .int 0, .int 0])), ((ka 31), .inl (cy 0, 96, .inl f0)), ((ka 32), .inl (cy 0, 96, .inl f1)), ((ka 7), .inr (4, [.int 0, .ref (ka 41), .int 0, .ref (ka 42), .ref (ka 43)])), ((ka 43), .inl (cy 0, 4, .inl f2))])) (va_Qi (fun (r : Int32) (u : SU) => (r = 24)) (fun u t => atW D (va_A [(ko, .inr (11, [.ref (ka 0), .ref (ka 1), .ref (ka 2), .int 0, .int 0, .ref (ka 5), .ref (ka 6), .ref (ka 7), .ref (ka 8), .ref (ka 9), .int 0, .ref (ka 11), .ref (ka 12), .ref (ka 13)])), ((ka 0), .inr (8, [.ref (ka 20), .int 0, .int 0, .int 0, .int 0, .int 0, .int (-1)])), ((ka 6), .inr (6, [.int 0, .int 0, .ref (ka 31), .ref (ka 32), .int 0, .int 0, .ref (ka 33), .int 0, .ref (ka 34), .int 0, .int 0, .ref (ka 35), .int 0, .ref (ka 36), .int 0, .int 0, .int 0, .int 0, .int 0])), ((ka 31), .inl (cy 0, 96, .inl f0)), ((ka 32), .inl (cy 0, 96, .inl f1)), ((ka 7), .inr (4, [.int 0, .ref (ka 41), .int 0, .ref (ka 42), .ref (ka 43)])), ((ka 43), .inl (cy 0, 4, .inl f2))] sz) [] t) (va_A [(ko, .inr (11, [.ref (ka 0), .ref (ka 1), .ref (ka 2), .int 0, .int 0, .ref (ka 5), .ref (ka 6), .ref (ka 7), .ref (ka 8), .ref (ka 9), .int 0, .ref (ka 11), .ref (ka 12), .ref (ka 13)])), ((ka 0), .inr (8, [.ref (ka 20), .int 0, .int 0, .int 0, .int 0, .int 0, .int (-1)])), ((ka 6), .inr (6, [.int 0, .int 0, .ref (ka 31), .ref (ka 32), .int 0, .int 0, .ref (ka 33), .int 0, .ref (ka 34), .int 0, .int 0, .ref (ka 35), .int 0, .ref (ka 36), .int 0, .int 0, .int 0, .int 0, .int 0])), ((ka 31), .inl (cy 0, 96, .inl f0)), ((ka 32), .inl (cy 0, 96, .inl f1)), ((ka 7), .inr (4, [.int 0, .ref (ka 41), .int 0, .ref (ka 42), .ref (ka 43)])), ((ka 43), .inl (cy 0, 4, .inl f2))] sz)) 1 2 (va_A [(ko, .inr (11, [.ref (ka 0), .ref (ka 1), .ref (ka 2), .int 0, .int 0, .ref (ka 5), .ref (ka 6), .ref (ka 7), .ref (ka 8), .ref (ka 9), .int 0, .ref (ka 11), .ref (ka 12), .ref (ka 13)])), ((ka 0), .inr (8, [.ref (ka 20), .int 0, .int 0, .int 0, .int 0, .int 0, .int (-1)])), ((ka 6), .inr (6, [.int 0, .int 0, .ref (ka 31), .ref (ka 32), .int 0, .int 0, .ref (ka 33), .int 0, .ref (ka 34), .int 0, .int 0, .ref (ka 35), .int 0, .ref (ka 36), .int 0, .int 0, .int 0, .int 0, .int 0])), ((ka 31), .inl (cy 0, 96, .inl f0)), ((ka 32), .inl (cy 0, 96, .inl f1)), ((ka 7), .inr (4, [.int 0, .ref (ka 41), .int 0, .ref (ka 42), .ref (ka 43)])), ((ka 43), .inl (cy 0, 4, .inl f2))] sz) := by
  refine Met.ofW (cc := cX11_street) (maxL := 3) (ret := (some .int)) (by decide) rfl ?_
  intro p e s m args below meth c s₁ B hml hv
  obtain ⟨rfl, hsz, hP, hG, hD0, hT⟩ := hv
  have hx := B.exec
  have hb := B.bytes
  have hr := B.returns
  have hts := atoms_spec (ws := vs_c_street0) B.pre
  have hown : s.vm.findClass RX11 = some m.cls := findClass_of_methodNamed B.named
  have hlocks := B.notSynchronized
  subst hsz
  have hD := hD0.self (sz := s.heap.size)
  generalize hAe : va_A [(ko, .inr (11, [.ref (ka 0), .ref (ka 1), .ref (ka 2), .int 0, .int 0, .ref (ka 5), .ref (ka 6), .ref (ka 7), .ref (ka 8), .ref (ka 9), .int 0, .ref (ka 11), .ref (ka 12), .ref (ka 13)])), ((ka 0), .inr (8, [.ref (ka 20), .int 0, .int 0, .int 0, .int 0, .int 0, .int (-1)])), ((ka 6), .inr (6, [.int 0, .int 0, .ref (ka 31), .ref (ka 32), .int 0, .int 0, .ref (ka 33), .int 0, .ref (ka 34), .int 0, .int 0, .ref (ka 35), .int 0, .ref (ka 36), .int 0, .int 0, .int 0, .int 0, .int 0])), ((ka 31), .inl (cy 0, 96, .inl f0)), ((ka 32), .inl (cy 0, 96, .inl f1)), ((ka 7), .inr (4, [.int 0, .ref (ka 41), .int 0, .ref (ka 42), .ref (ka 43)])), ((ka 43), .inl (cy 0, 4, .inl f2))] s.heap.size = A at hD hT ⊢
  have hA : ∀ q : Nat, s.heap.size ≤ q → A q := fun q h => by rw [← hAe]; exact Or.inr h
  have hS : va_S A s.heap s.heap [] := va_S.rf
  have hl0 := lv_entry ([.ref ko, .int 0]) (n := 3) (Nat.le_of_ble_eq_true rfl)
  rw [lg_entry_eq]
  generalize (lg_sl ([.ref ko, .int 0]) ++ List.replicate (3 - (lg_sl ([.ref ko, .int 0])).length) Slot.unset).toArray = ls at hl0 ⊢
  have hlv : lv_has ls 3 [(0, .ref ko), (1, .int 0)] := hl0
  have gg_0 : GoodIn vs_c_street0 (wsV RX11 85 RX11 yX11_beginText vs_c_beginText0) := goodIn_sub (fun w h => List.mem_cons_of_mem _ (List.mem_append_right _ (List.mem_append_left _ h))) (by decide +kernel)
  have cl88 := hts (.classLink RX11 88 RX7) (List.mem_of_getElem? (i := 1) rfl)
  have in7 := hts (.instantiable RX7 2) (List.mem_of_getElem? (i := 2) rfl)
  have ini7 := hts (.initialized RX7) (List.mem_of_getElem? (i := 3) rfl)
  have hi7 : ∀ w ∈ wsX70, w ∈ vs_c_street0 := fun w h => List.mem_cons_of_mem _ (List.mem_append_right _ (List.mem_append_right _ (List.mem_append_left _ h)))
  have lf10 := hts (.fieldLink RX11 10 "KerbSplash" "tape" "LKerbSplash$Tape;") (List.mem_of_getElem? (i := 4) rfl)
  have hi11 : ∀ w ∈ wsX110, w ∈ vs_c_street0 := fun w h => List.mem_cons_of_mem _ (List.mem_append_right _ (List.mem_append_right _ (List.mem_append_right _ (List.mem_append_left _ h))))
  have lf35 := hts (.fieldLink RX11 35 "KerbSplash" "draft" "LKerbSplash$Street;") (List.mem_of_getElem? (i := 5) rfl)
  have gg_3 : GoodIn vs_c_street0 (vs_c_rdinit) := goodIn_sub (fun w h => List.mem_cons_of_mem _ (List.mem_append_right _ (List.mem_append_right _ (List.mem_append_right _ (List.mem_append_right _ (List.mem_append_left _ h)))))) (by decide +kernel)
  have ini_RX7 := hts (.initialized RX7) (List.mem_of_getElem? (i := 3) rfl)
  have im_X7_init := hts (.instanceMethod yX7_init) (List.mem_of_getElem? (i := 6) rfl)
  have gg_4 : GoodIn vs_c_street0 (vs_c_rdread) := goodIn_sub (fun w h => List.mem_cons_of_mem _ (List.mem_append_right _ (List.mem_append_right _ (List.mem_append_right _ (List.mem_append_right _ (List.mem_append_right _ (List.mem_append_left _ h))))))) (by decide +kernel)
  have im_X7_read := hts (.instanceMethod yX7_read) (List.mem_of_getElem? (i := 7) rfl)
  have se_X7_read := hts (.selects RX7 yX7_read yX7_read) (List.mem_of_getElem? (i := 8) rfl)
  have gg_5 : GoodIn vs_c_street0 (vs_c_good) := goodIn_sub (fun w h => List.mem_cons_of_mem _ (List.mem_append_right _ (List.mem_append_right _ (List.mem_append_right _ (List.mem_append_right _ (List.mem_append_right _ (List.mem_append_right _ (List.mem_append_left _ h)))))))) (by decide +kernel)
  have ini_RX8 := hts (.initialized RX8) (List.mem_of_getElem? (i := 9) rfl)
  have im_X8_good := hts (.instanceMethod yX8_good) (List.mem_of_getElem? (i := 10) rfl)
  have se_X8_good := hts (.selects RX8 yX8_good yX8_good) (List.mem_of_getElem? (i := 11) rfl)
  have lf31 := hts (.fieldLink RX11 31 "KerbSplash" "now" "LKerbSplash$Street;") (List.mem_of_getElem? (i := 12) rfl)
  have lf41 := hts (.fieldLink RX11 41 "KerbSplash" "plan" "LKerbSplash$Plan;") (List.mem_of_getElem? (i := 13) rfl)
  have gg_6 : GoodIn vs_c_street0 (vs_c_preset) := goodIn_sub (fun w h => List.mem_cons_of_mem _ (List.mem_append_right _ (List.mem_append_right _ (List.mem_append_right _ (List.mem_append_right _ (List.mem_append_right _ (List.mem_append_right _ (List.mem_append_right _ (List.mem_append_left _ h))))))))) (by decide +kernel)
  have ini_RX4 := hts (.initialized RX4) (List.mem_of_getElem? (i := 14) rfl)
  have im_X4_reset := hts (.instanceMethod yX4_reset) (List.mem_of_getElem? (i := 15) rfl)
  have se_X4_reset := hts (.selects RX4 yX4_reset yX4_reset) (List.mem_of_getElem? (i := 16) rfl)
  have lf105 := hts (.fieldLink RX11 105 "KerbSplash" "images" "I") (List.mem_of_getElem? (i := 17) rfl)
  have gg_7 : GoodIn vs_c_street0 (vs_c_cells24) := goodIn_sub (fun w h => List.mem_cons_of_mem _ (List.mem_append_right _ (List.mem_append_right _ (List.mem_append_right _ (List.mem_append_right _ (List.mem_append_right _ (List.mem_append_right _ (List.mem_append_right _ (List.mem_append_right _ (List.mem_append_left _ h)))))))))) (by decide +kernel)
  have ini_RX6 := hts (.initialized RX6) (List.mem_of_getElem? (i := 18) rfl)
  have im_X6_cells := hts (.instanceMethod yX6_cells) (List.mem_of_getElem? (i := 19) rfl)
  have se_X6_cells := hts (.selects RX6 yX6_cells yX6_cells) (List.mem_of_getElem? (i := 20) rfl)
  refine lv_aload_n hx hb dX11_street_0 rfl (lv_at hlv 0 rfl) ?_
  refine lv_iload_n hx hb dX11_street_1 rfl (lv_at hlv 1 rfl) ?_
  refine cj_v (wr := [((ka 6), .inr (6, [.int 0, .int 0, .ref (ka 31), .ref (ka 32), .int 0, .int 0, .ref (ka 33), .int 0, .ref (ka 34), .int 0, .int 0, .ref (ka 35), .int 0, .ref (ka 36), .int 0, .int 0, .int 0, .int 0, .int 0])), ((ka 31), .inl (cy 0, 96, .inl f0)), ((ka 32), .inl (cy 0, 96, .inl f1)), ((ka 7), .inr (4, [.int 0, .ref (ka 41), .int 0, .ref (ka 42), .ref (ka 43)])), ((ka 43), .inl (cy 0, 4, .inl f2))]) (va_runV (As := [.int 0]) (rest := []) ⟨hx, hb, hml, hown, hts⟩ (c_beginText0 l hl D cy sa ko ka s.heap.size) (cwV 1 hts gg_0 rfl rfl rfl (by decide +kernel) ⟨Nat.le_of_ble_eq_true rfl, Nat.le_of_ble_eq_true rfl⟩) ⟨pcW.blind, (va_recv hG.1 hP (ci := 11) (q0 := 0) rfl rfl), (pcW.mk hP hD hS hA hG hT [0, 1] rfl (by decide))⟩ rfl rfl hlv.1 rfl (lv_room (Nat.le_of_ble_eq_true rfl)) dX11_street_2 ⟨Nat.le_of_ble_eq_true rfl, Nat.le_of_ble_eq_true rfl⟩) hP hD hS hA [0, 1] [2, 3, 4, 5, 6] rfl rfl (by decide) (by decide) (fun u1 H locs hw1 hP hD hS => ?_)
  have hP : va_P D vwCl [((ka 6), .inr (6, [.int 0, .int 0, .ref (ka 31), .ref (ka 32), .int 0, .int 0, .ref (ka 33), .int 0, .ref (ka 34), .int 0, .int 0, .ref (ka 35), .int 0, .ref (ka 36), .int 0, .int 0, .int 0, .int 0, .int 0])), ((ka 31), .inl (cy 0, 96, .inl f0)), ((ka 32), .inl (cy 0, 96, .inl f1)), ((ka 7), .inr (4, [.int 0, .ref (ka 41), .int 0, .ref (ka 42), .ref (ka 43)])), ((ka 43), .inl (cy 0, 4, .inl f2)), (ko, .inr (11, [.ref (ka 0), .ref (ka 1), .ref (ka 2), .int 0, .int 0, .ref (ka 5), .ref (ka 6), .ref (ka 7), .ref (ka 8), .ref (ka 9), .int 0, .ref (ka 11), .ref (ka 12), .ref (ka 13)])), ((ka 0), .inr (8, [.ref (ka 20), .int 0, .int 0, .int 0, .int 0, .int 0, .int (-1)]))] H := hP
  have hD : va_D A [((ka 6), .inr (6, [.int 0, .int 0, .ref (ka 31), .ref (ka 32), .int 0, .int 0, .ref (ka 33), .int 0, .ref (ka 34), .int 0, .int 0, .ref (ka 35), .int 0, .ref (ka 36), .int 0, .int 0, .int 0, .int 0, .int 0])), ((ka 31), .inl (cy 0, 96, .inl f0)), ((ka 32), .inl (cy 0, 96, .inl f1)), ((ka 7), .inr (4, [.int 0, .ref (ka 41), .int 0, .ref (ka 42), .ref (ka 43)])), ((ka 43), .inl (cy 0, 4, .inl f2)), (ko, .inr (11, [.ref (ka 0), .ref (ka 1), .ref (ka 2), .int 0, .int 0, .ref (ka 5), .ref (ka 6), .ref (ka 7), .ref (ka 8), .ref (ka 9), .int 0, .ref (ka 11), .ref (ka 12), .ref (ka 13)])), ((ka 0), .inr (8, [.ref (ka 20), .int 0, .int 0, .int 0, .int 0, .int 0, .int (-1)]))] := hD
  refine va_new (ci := 7) (fs := [.null, .null]) (C := RX7) (T := TX7) (N := 2) hx hb hts hi7 tyX7 tyX7_ok hown cl88 in7 ini7 hG.1 hP hD hS hA rfl (by decide) (Nat.le_of_ble_eq_true rfl) (Nat.le_of_ble_eq_true rfl) dX11_street_5 (fun q_1 H hP hD hS => ?_)
  have hP : va_P D vwCl [((ka 6), .inr (6, [.int 0, .int 0, .ref (ka 31), .ref (ka 32), .int 0, .int 0, .ref (ka 33), .int 0, .ref (ka 34), .int 0, .int 0, .ref (ka 35), .int 0, .ref (ka 36), .int 0, .int 0, .int 0, .int 0, .int 0])), ((ka 31), .inl (cy 0, 96, .inl f0)), ((ka 32), .inl (cy 0, 96, .inl f1)), ((ka 7), .inr (4, [.int 0, .ref (ka 41), .int 0, .ref (ka 42), .ref (ka 43)])), ((ka 43), .inl (cy 0, 4, .inl f2)), (ko, .inr (11, [.ref (ka 0), .ref (ka 1), .ref (ka 2), .int 0, .int 0, .ref (ka 5), .ref (ka 6), .ref (ka 7), .ref (ka 8), .ref (ka 9), .int 0, .ref (ka 11), .ref (ka 12), .ref (ka 13)])), ((ka 0), .inr (8, [.ref (ka 20), .int 0, .int 0, .int 0, .int 0, .int 0, .int (-1)])), (q_1, .inr (7, [.null, .null]))] H := hP
  have hD : va_D A [((ka 6), .inr (6, [.int 0, .int 0, .ref (ka 31), .ref (ka 32), .int 0, .int 0, .ref (ka 33), .int 0, .ref (ka 34), .int 0, .int 0, .ref (ka 35), .int 0, .ref (ka 36), .int 0, .int 0, .int 0, .int 0, .int 0])), ((ka 31), .inl (cy 0, 96, .inl f0)), ((ka 32), .inl (cy 0, 96, .inl f1)), ((ka 7), .inr (4, [.int 0, .ref (ka 41), .int 0, .ref (ka 42), .ref (ka 43)])), ((ka 43), .inl (cy 0, 4, .inl f2)), (ko, .inr (11, [.ref (ka 0), .ref (ka 1), .ref (ka 2), .int 0, .int 0, .ref (ka 5), .ref (ka 6), .ref (ka 7), .ref (ka 8), .ref (ka 9), .int 0, .ref (ka 11), .ref (ka 12), .ref (ka 13)])), ((ka 0), .inr (8, [.ref (ka 20), .int 0, .int 0, .int 0, .int 0, .int 0, .int (-1)])), (q_1, .inr (7, [.null, .null]))] := hD
  refine lv_dup hx hb dX11_street_8 rfl ?_
  refine lv_aload_n hx hb dX11_street_9 rfl (lv_at hlv 0 rfl) ?_
  refine va_get (D := D) (ci := 11) (v := .ref (ka 0)) (C := RX11) (T := TX11) (N := 14) hx hb hts hi11 hown hG.1 hP 5 rfl rfl 0 (by decide) lf10 (fun _ h9 => h9) rfl dX11_street_10 ?_
  refine lv_aload_n hx hb dX11_street_13 rfl (lv_at hlv 0 rfl) ?_
  refine va_get (D := D) (ci := 11) (v := .ref (ka 6)) (C := RX11) (T := TX11) (N := 14) hx hb hts hi11 hown hG.1 hP 5 rfl rfl 6 (by decide) lf35 (fun _ h9 => h9) rfl dX11_street_14 ?_
  refine cj_v (wr := [((ka 6), .inr (6, [.int 0, .int 0, .ref (ka 31), .ref (ka 32), .int 0, .int 0, .ref (ka 33), .int 0, .ref (ka 34), .int 0, .int 0, .ref (ka 35), .int 0, .ref (ka 36), .int 0, .int 0, .int 0, .int 0, .int 0])), ((ka 31), .inl (cy 0, 96, .inl f0)), ((ka 32), .inl (cy 0, 96, .inl f1)), ((ka 7), .inr (4, [.int 0, .ref (ka 41), .int 0, .ref (ka 42), .ref (ka 43)])), ((ka 43), .inl (cy 0, 4, .inl f2)), (ko, .inr (11, [.ref (ka 0), .ref (ka 1), .ref (ka 2), .int 0, .int 0, .ref (ka 5), .ref (ka 6), .ref (ka 7), .ref (ka 8), .ref (ka 9), .int 0, .ref (ka 11), .ref (ka 12), .ref (ka 13)])), ((ka 0), .inr (8, [.ref (ka 20), .int 0, .int 0, .int 0, .int 0, .int 0, .int (-1)]))]) (va_runIN (host := "KerbSplash") (As := [.ref (ka 0), .ref (ka 6)]) (rest := [.ref q_1]) ⟨hx, hb, hml, hown, hts⟩ (c_rdinit l hl D cy sa q_1 (ka 0) (ka 6) H.size) ⟨va_cnB 2 hts gg_3 rfl rfl rfl (nM_K_90 hG.2.1) ini_RX7 (by decide +kernel) ⟨Nat.le_of_ble_eq_true rfl, Nat.le_of_ble_eq_true rfl⟩, rfl, im_X7_init⟩ ⟨pcW.blind, (pcW.mk hP hD hS hA hG hT [7] rfl (by decide))⟩ rfl rfl hlv.1 rfl (lv_room (Nat.le_of_ble_eq_true rfl)) dX11_street_17 ⟨Nat.le_of_ble_eq_true rfl, Nat.le_of_ble_eq_true rfl⟩) hP hD hS hA [7] [0, 1, 2, 3, 4, 5, 6] rfl rfl (by decide) (by decide) (fun u2 H locs hw2 hP hD hS => ?_)
  have hP : va_P D vwCl [((ka 6), .inr (6, [.int 0, .int 0, .ref (ka 31), .ref (ka 32), .int 0, .int 0, .ref (ka 33), .int 0, .ref (ka 34), .int 0, .int 0, .ref (ka 35), .int 0, .ref (ka 36), .int 0, .int 0, .int 0, .int 0, .int 0])), ((ka 31), .inl (cy 0, 96, .inl f0)), ((ka 32), .inl (cy 0, 96, .inl f1)), ((ka 7), .inr (4, [.int 0, .ref (ka 41), .int 0, .ref (ka 42), .ref (ka 43)])), ((ka 43), .inl (cy 0, 4, .inl f2)), (ko, .inr (11, [.ref (ka 0), .ref (ka 1), .ref (ka 2), .int 0, .int 0, .ref (ka 5), .ref (ka 6), .ref (ka 7), .ref (ka 8), .ref (ka 9), .int 0, .ref (ka 11), .ref (ka 12), .ref (ka 13)])), ((ka 0), .inr (8, [.ref (ka 20), .int 0, .int 0, .int 0, .int 0, .int 0, .int (-1)])), (q_1, .inr (7, [.ref (ka 0), .ref (ka 6)]))] H := hP
  have hD : va_D A [((ka 6), .inr (6, [.int 0, .int 0, .ref (ka 31), .ref (ka 32), .int 0, .int 0, .ref (ka 33), .int 0, .ref (ka 34), .int 0, .int 0, .ref (ka 35), .int 0, .ref (ka 36), .int 0, .int 0, .int 0, .int 0, .int 0])), ((ka 31), .inl (cy 0, 96, .inl f0)), ((ka 32), .inl (cy 0, 96, .inl f1)), ((ka 7), .inr (4, [.int 0, .ref (ka 41), .int 0, .ref (ka 42), .ref (ka 43)])), ((ka 43), .inl (cy 0, 4, .inl f2)), (ko, .inr (11, [.ref (ka 0), .ref (ka 1), .ref (ka 2), .int 0, .int 0, .ref (ka 5), .ref (ka 6), .ref (ka 7), .ref (ka 8), .ref (ka 9), .int 0, .ref (ka 11), .ref (ka 12), .ref (ka 13)])), ((ka 0), .inr (8, [.ref (ka 20), .int 0, .int 0, .int 0, .int 0, .int 0, .int (-1)])), (q_1, .inr (7, [.ref (ka 0), .ref (ka 6)]))] := hD
  refine cj_v (wr := [((ka 7), .inr (4, [.int 0, .ref (ka 41), .int 0, .ref (ka 42), .ref (ka 43)])), ((ka 43), .inl (cy 0, 4, .inl f2)), (ko, .inr (11, [.ref (ka 0), .ref (ka 1), .ref (ka 2), .int 0, .int 0, .ref (ka 5), .ref (ka 6), .ref (ka 7), .ref (ka 8), .ref (ka 9), .int 0, .ref (ka 11), .ref (ka 12), .ref (ka 13)]))]) (va_runVN (host := "KerbSplash") (As := []) (rest := []) ⟨hx, hb, hml, hown, hts⟩ (c_rdread l hl D cy sa q_1 ka f0 f1 H.size) ⟨va_cnB 0 hts gg_4 rfl rfl rfl (nM_K_93 hG.2.1) ini_RX7 (by decide +kernel) ⟨Nat.le_of_ble_eq_true rfl, Nat.le_of_ble_eq_true rfl⟩, im_X7_read, se_X7_read⟩ ⟨pcW.blind, (va_recv hG.1 hP (ci := 7) (q0 := 7) rfl rfl), (pcW.mk hP hD hS hA hG hT [7, 6, 0, 1, 2] rfl (by decide))⟩ rfl rfl hlv.1 rfl (lv_room (Nat.le_of_ble_eq_true rfl)) dX11_street_20 ⟨Nat.le_of_ble_eq_true rfl, Nat.le_of_ble_eq_true rfl⟩) hP hD hS hA [7, 6, 0, 1, 2] [3, 4, 5] rfl rfl (by decide) (by decide) (fun u3 H locs hw3 hP hD hS => ?_)
  have hP : va_P D vwCl [((ka 7), .inr (4, [.int 0, .ref (ka 41), .int 0, .ref (ka 42), .ref (ka 43)])), ((ka 43), .inl (cy 0, 4, .inl f2)), (ko, .inr (11, [.ref (ka 0), .ref (ka 1), .ref (ka 2), .int 0, .int 0, .ref (ka 5), .ref (ka 6), .ref (ka 7), .ref (ka 8), .ref (ka 9), .int 0, .ref (ka 11), .ref (ka 12), .ref (ka 13)])), ((ka 0), .inr (8, [.ref (ka 20), .int 0, .int 0, .int 0, .int 0, .int 0, .int (-1)])), ((ka 6), .inr (6, [.int 8, .int 3, .ref (ka 31), .ref (ka 32), .int 0, .int 0, .ref (ka 33), .int 0, .ref (ka 34), .int 0, .int 0, .ref (ka 35), .int 0, .ref (ka 36), .int 0, .int 0, .int 0, .int 0, .int 0])), ((ka 31), .inl (cy 0, 96, .inl (u3.2.2 0))), ((ka 32), .inl (cy 0, 96, .inl (u3.2.2 1)))] H := hP
  have hD : va_D A [((ka 7), .inr (4, [.int 0, .ref (ka 41), .int 0, .ref (ka 42), .ref (ka 43)])), ((ka 43), .inl (cy 0, 4, .inl f2)), (ko, .inr (11, [.ref (ka 0), .ref (ka 1), .ref (ka 2), .int 0, .int 0, .ref (ka 5), .ref (ka 6), .ref (ka 7), .ref (ka 8), .ref (ka 9), .int 0, .ref (ka 11), .ref (ka 12), .ref (ka 13)])), ((ka 0), .inr (8, [.ref (ka 20), .int 0, .int 0, .int 0, .int 0, .int 0, .int (-1)])), ((ka 6), .inr (6, [.int 8, .int 3, .ref (ka 31), .ref (ka 32), .int 0, .int 0, .ref (ka 33), .int 0, .ref (ka 34), .int 0, .int 0, .ref (ka 35), .int 0, .ref (ka 36), .int 0, .int 0, .int 0, .int 0, .int 0])), ((ka 31), .inl (cy 0, 96, .inl (u3.2.2 0))), ((ka 32), .inl (cy 0, 96, .inl (u3.2.2 1)))] := hD
  refine lv_aload_n hx hb dX11_street_23 rfl (lv_at hlv 0 rfl) ?_
  refine va_get (D := D) (ci := 11) (v := .ref (ka 0)) (C := RX11) (T := TX11) (N := 14) hx hb hts hi11 hown hG.1 hP 2 rfl rfl 0 (by decide) lf10 (fun _ h9 => h9) rfl dX11_street_24 ?_
  refine cj_i (wr := [((ka 7), .inr (4, [.int 0, .ref (ka 41), .int 0, .ref (ka 42), .ref (ka 43)])), ((ka 43), .inl (cy 0, 4, .inl f2)), (ko, .inr (11, [.ref (ka 0), .ref (ka 1), .ref (ka 2), .int 0, .int 0, .ref (ka 5), .ref (ka 6), .ref (ka 7), .ref (ka 8), .ref (ka 9), .int 0, .ref (ka 11), .ref (ka 12), .ref (ka 13)])), ((ka 6), .inr (6, [.int 8, .int 3, .ref (ka 31), .ref (ka 32), .int 0, .int 0, .ref (ka 33), .int 0, .ref (ka 34), .int 0, .int 0, .ref (ka 35), .int 0, .ref (ka 36), .int 0, .int 0, .int 0, .int 0, .int 0])), ((ka 31), .inl (cy 0, 96, .inl (u3.2.2 0))), ((ka 32), .inl (cy 0, 96, .inl (u3.2.2 1)))]) (va_runVN (host := "KerbSplash") (As := []) (rest := []) ⟨hx, hb, hml, hown, hts⟩ (c_good l hl D cy sa ka H.size) ⟨va_cnB 0 hts gg_5 rfl rfl rfl (nM_K_96 hG.2.1) ini_RX8 (by decide +kernel) ⟨Nat.le_of_ble_eq_true rfl, Nat.le_of_ble_eq_true rfl⟩, im_X8_good, se_X8_good⟩ ⟨pcW.blind, (va_recv hG.1 hP (ci := 8) (q0 := 3) rfl rfl), (pcW.mk hP hD hS hA hG hT [3] rfl (by decide))⟩ rfl rfl hlv.1 rfl (lv_room (Nat.le_of_ble_eq_true rfl)) dX11_street_27 ⟨Nat.le_of_ble_eq_true rfl, Nat.le_of_ble_eq_true rfl⟩) hP hD hS hA [3] [0, 1, 2, 4, 5, 6] rfl rfl (by decide) (by decide) (fun r4 u4 H locs hw4 hP hD hS => ?_)
  obtain rfl := hw4
  have hP : va_P D vwCl [((ka 7), .inr (4, [.int 0, .ref (ka 41), .int 0, .ref (ka 42), .ref (ka 43)])), ((ka 43), .inl (cy 0, 4, .inl f2)), (ko, .inr (11, [.ref (ka 0), .ref (ka 1), .ref (ka 2), .int 0, .int 0, .ref (ka 5), .ref (ka 6), .ref (ka 7), .ref (ka 8), .ref (ka 9), .int 0, .ref (ka 11), .ref (ka 12), .ref (ka 13)])), ((ka 6), .inr (6, [.int 8, .int 3, .ref (ka 31), .ref (ka 32), .int 0, .int 0, .ref (ka 33), .int 0, .ref (ka 34), .int 0, .int 0, .ref (ka 35), .int 0, .ref (ka 36), .int 0, .int 0, .int 0, .int 0, .int 0])), ((ka 31), .inl (cy 0, 96, .inl (u3.2.2 0))), ((ka 32), .inl (cy 0, 96, .inl (u3.2.2 1))), ((ka 0), .inr (8, [.ref (ka 20), .int 0, .int 0, .int 0, .int 0, .int 0, .int (-1)]))] H := hP
  have hD : va_D A [((ka 7), .inr (4, [.int 0, .ref (ka 41), .int 0, .ref (ka 42), .ref (ka 43)])), ((ka 43), .inl (cy 0, 4, .inl f2)), (ko, .inr (11, [.ref (ka 0), .ref (ka 1), .ref (ka 2), .int 0, .int 0, .ref (ka 5), .ref (ka 6), .ref (ka 7), .ref (ka 8), .ref (ka 9), .int 0, .ref (ka 11), .ref (ka 12), .ref (ka 13)])), ((ka 6), .inr (6, [.int 8, .int 3, .ref (ka 31), .ref (ka 32), .int 0, .int 0, .ref (ka 33), .int 0, .ref (ka 34), .int 0, .int 0, .ref (ka 35), .int 0, .ref (ka 36), .int 0, .int 0, .int 0, .int 0, .int 0])), ((ka 31), .inl (cy 0, 96, .inl (u3.2.2 0))), ((ka 32), .inl (cy 0, 96, .inl (u3.2.2 1))), ((ka 0), .inr (8, [.ref (ka 20), .int 0, .int 0, .int 0, .int 0, .int 0, .int (-1)]))] := hD
  refine lv_if_ne (tgt := 44) hx hb dX11_street_30 (by decide) (fun _ => ?_) (fun c => absurd c (by decide))
  refine lv_aload_n hx hb dX11_street_44 rfl (lv_at hlv 0 rfl) ?_
  refine va_get (D := D) (ci := 11) (v := .ref (ka 5)) (C := RX11) (T := TX11) (N := 14) hx hb hts hi11 hown hG.1 hP 2 rfl rfl 5 (by decide) lf31 (fun _ h9 => h9) rfl dX11_street_45 ?_
  refine lv_astore_n (lv' := [(2, .ref (ka 5)), (0, .ref ko), (1, .int 0)]) hx hb dX11_street_48 rfl hlv (by decide) rfl (fun ls hlv => ?_)
  refine lv_aload_n hx hb dX11_street_49 rfl (lv_at hlv 1 rfl) ?_
  refine lv_aload_n hx hb dX11_street_50 rfl (lv_at hlv 1 rfl) ?_
  refine va_get (D := D) (ci := 11) (v := .ref (ka 6)) (C := RX11) (T := TX11) (N := 14) hx hb hts hi11 hown hG.1 hP 2 rfl rfl 6 (by decide) lf35 (fun _ h9 => h9) rfl dX11_street_51 ?_
  refine va_put (D := D) (ci := 11) (v := .ref (ka 6)) (ty := .object "KerbSplash$Street") (C := RX11) (T := TX11) (N := 14) hx hb hts hi11 tyX11 tyX11_ok nmX11 hown hG.1 hP hD hS 2 rfl rfl 5 (by decide) lf31 (fun _ h9 => h9) rfl (by decide +kernel) rfl rfl (Nat.le_of_ble_eq_true rfl) dX11_street_54 (fun H locs hP hD hS => ?_)
  have hP : va_P D vwCl [((ka 7), .inr (4, [.int 0, .ref (ka 41), .int 0, .ref (ka 42), .ref (ka 43)])), ((ka 43), .inl (cy 0, 4, .inl f2)), (ko, .inr (11, [.ref (ka 0), .ref (ka 1), .ref (ka 2), .int 0, .int 0, .ref (ka 6), .ref (ka 6), .ref (ka 7), .ref (ka 8), .ref (ka 9), .int 0, .ref (ka 11), .ref (ka 12), .ref (ka 13)])), ((ka 6), .inr (6, [.int 8, .int 3, .ref (ka 31), .ref (ka 32), .int 0, .int 0, .ref (ka 33), .int 0, .ref (ka 34), .int 0, .int 0, .ref (ka 35), .int 0, .ref (ka 36), .int 0, .int 0, .int 0, .int 0, .int 0])), ((ka 31), .inl (cy 0, 96, .inl (u3.2.2 0))), ((ka 32), .inl (cy 0, 96, .inl (u3.2.2 1))), ((ka 0), .inr (8, [.ref (ka 20), .int 0, .int 0, .int 0, .int 0, .int 0, .int (-1)]))] H := hP
  have hD : va_D A [((ka 7), .inr (4, [.int 0, .ref (ka 41), .int 0, .ref (ka 42), .ref (ka 43)])), ((ka 43), .inl (cy 0, 4, .inl f2)), (ko, .inr (11, [.ref (ka 0), .ref (ka 1), .ref (ka 2), .int 0, .int 0, .ref (ka 6), .ref (ka 6), .ref (ka 7), .ref (ka 8), .ref (ka 9), .int 0, .ref (ka 11), .ref (ka 12), .ref (ka 13)])), ((ka 6), .inr (6, [.int 8, .int 3, .ref (ka 31), .ref (ka 32), .int 0, .int 0, .ref (ka 33), .int 0, .ref (ka 34), .int 0, .int 0, .ref (ka 35), .int 0, .ref (ka 36), .int 0, .int 0, .int 0, .int 0, .int 0])), ((ka 31), .inl (cy 0, 96, .inl (u3.2.2 0))), ((ka 32), .inl (cy 0, 96, .inl (u3.2.2 1))), ((ka 0), .inr (8, [.ref (ka 20), .int 0, .int 0, .int 0, .int 0, .int 0, .int (-1)]))] := hD
  refine lv_aload_n hx hb dX11_street_57 rfl (lv_at hlv 1 rfl) ?_
  refine lv_aload_n hx hb dX11_street_58 rfl (lv_at hlv 0 rfl) ?_
  refine va_put (D := D) (ci := 11) (v := .ref (ka 5)) (ty := .object "KerbSplash$Street") (C := RX11) (T := TX11) (N := 14) hx hb hts hi11 tyX11 tyX11_ok nmX11 hown hG.1 hP hD hS 2 rfl rfl 6 (by decide) lf35 (fun _ h9 => h9) rfl (by decide +kernel) rfl rfl (Nat.le_of_ble_eq_true rfl) dX11_street_59 (fun H locs hP hD hS => ?_)
  have hP : va_P D vwCl [((ka 7), .inr (4, [.int 0, .ref (ka 41), .int 0, .ref (ka 42), .ref (ka 43)])), ((ka 43), .inl (cy 0, 4, .inl f2)), (ko, .inr (11, [.ref (ka 0), .ref (ka 1), .ref (ka 2), .int 0, .int 0, .ref (ka 6), .ref (ka 5), .ref (ka 7), .ref (ka 8), .ref (ka 9), .int 0, .ref (ka 11), .ref (ka 12), .ref (ka 13)])), ((ka 6), .inr (6, [.int 8, .int 3, .ref (ka 31), .ref (ka 32), .int 0, .int 0, .ref (ka 33), .int 0, .ref (ka 34), .int 0, .int 0, .ref (ka 35), .int 0, .ref (ka 36), .int 0, .int 0, .int 0, .int 0, .int 0])), ((ka 31), .inl (cy 0, 96, .inl (u3.2.2 0))), ((ka 32), .inl (cy 0, 96, .inl (u3.2.2 1))), ((ka 0), .inr (8, [.ref (ka 20), .int 0, .int 0, .int 0, .int 0, .int 0, .int (-1)]))] H := hP
  have hD : va_D A [((ka 7), .inr (4, [.int 0, .ref (ka 41), .int 0, .ref (ka 42), .ref (ka 43)])), ((ka 43), .inl (cy 0, 4, .inl f2)), (ko, .inr (11, [.ref (ka 0), .ref (ka 1), .ref (ka 2), .int 0, .int 0, .ref (ka 6), .ref (ka 5), .ref (ka 7), .ref (ka 8), .ref (ka 9), .int 0, .ref (ka 11), .ref (ka 12), .ref (ka 13)])), ((ka 6), .inr (6, [.int 8, .int 3, .ref (ka 31), .ref (ka 32), .int 0, .int 0, .ref (ka 33), .int 0, .ref (ka 34), .int 0, .int 0, .ref (ka 35), .int 0, .ref (ka 36), .int 0, .int 0, .int 0, .int 0, .int 0])), ((ka 31), .inl (cy 0, 96, .inl (u3.2.2 0))), ((ka 32), .inl (cy 0, 96, .inl (u3.2.2 1))), ((ka 0), .inr (8, [.ref (ka 20), .int 0, .int 0, .int 0, .int 0, .int 0, .int (-1)]))] := hD
  refine lv_aload_n hx hb dX11_street_62 rfl (lv_at hlv 1 rfl) ?_
  refine va_get (D := D) (ci := 11) (v := .ref (ka 7)) (C := RX11) (T := TX11) (N := 14) hx hb hts hi11 hown hG.1 hP 2 rfl rfl 7 (by decide) lf41 (fun _ h9 => h9) rfl dX11_street_63 ?_
  refine cj_v (wr := [(ko, .inr (11, [.ref (ka 0), .ref (ka 1), .ref (ka 2), .int 0, .int 0, .ref (ka 6), .ref (ka 5), .ref (ka 7), .ref (ka 8), .ref (ka 9), .int 0, .ref (ka 11), .ref (ka 12), .ref (ka 13)])), ((ka 6), .inr (6, [.int 8, .int 3, .ref (ka 31), .ref (ka 32), .int 0, .int 0, .ref (ka 33), .int 0, .ref (ka 34), .int 0, .int 0, .ref (ka 35), .int 0, .ref (ka 36), .int 0, .int 0, .int 0, .int 0, .int 0])), ((ka 31), .inl (cy 0, 96, .inl (u3.2.2 0))), ((ka 32), .inl (cy 0, 96, .inl (u3.2.2 1))), ((ka 0), .inr (8, [.ref (ka 20), .int 0, .int 0, .int 0, .int 0, .int 0, .int (-1)]))]) (va_runVN (host := "KerbSplash") (As := []) (rest := []) ⟨hx, hb, hml, hown, hts⟩ (c_preset l hl D cy sa ka f2 H.size) ⟨va_cnB 0 hts gg_6 rfl rfl rfl (nM_K_102 hG.2.1) ini_RX4 (by decide +kernel) ⟨Nat.le_of_ble_eq_true rfl, Nat.le_of_ble_eq_true rfl⟩, im_X4_reset, se_X4_reset⟩ ⟨pcW.blind, (va_recv hG.1 hP (ci := 4) (q0 := 0) rfl rfl), (pcW.mk hP hD hS hA hG hT [0, 1] rfl (by decide))⟩ rfl rfl hlv.1 rfl (lv_room (Nat.le_of_ble_eq_true rfl)) dX11_street_66 ⟨Nat.le_of_ble_eq_true rfl, Nat.le_of_ble_eq_true rfl⟩) hP hD hS hA [0, 1] [2, 3, 4, 5, 6] rfl rfl (by decide) (by decide) (fun u5 H locs hw5 hP hD hS => ?_)
  have hP : va_P D vwCl [(ko, .inr (11, [.ref (ka 0), .ref (ka 1), .ref (ka 2), .int 0, .int 0, .ref (ka 6), .ref (ka 5), .ref (ka 7), .ref (ka 8), .ref (ka 9), .int 0, .ref (ka 11), .ref (ka 12), .ref (ka 13)])), ((ka 6), .inr (6, [.int 8, .int 3, .ref (ka 31), .ref (ka 32), .int 0, .int 0, .ref (ka 33), .int 0, .ref (ka 34), .int 0, .int 0, .ref (ka 35), .int 0, .ref (ka 36), .int 0, .int 0, .int 0, .int 0, .int 0])), ((ka 31), .inl (cy 0, 96, .inl (u3.2.2 0))), ((ka 32), .inl (cy 0, 96, .inl (u3.2.2 1))), ((ka 0), .inr (8, [.ref (ka 20), .int 0, .int 0, .int 0, .int 0, .int 0, .int (-1)]))] H := hP
  have hD : va_D A [(ko, .inr (11, [.ref (ka 0), .ref (ka 1), .ref (ka 2), .int 0, .int 0, .ref (ka 6), .ref (ka 5), .ref (ka 7), .ref (ka 8), .ref (ka 9), .int 0, .ref (ka 11), .ref (ka 12), .ref (ka 13)])), ((ka 6), .inr (6, [.int 8, .int 3, .ref (ka 31), .ref (ka 32), .int 0, .int 0, .ref (ka 33), .int 0, .ref (ka 34), .int 0, .int 0, .ref (ka 35), .int 0, .ref (ka 36), .int 0, .int 0, .int 0, .int 0, .int 0])), ((ka 31), .inl (cy 0, 96, .inl (u3.2.2 0))), ((ka 32), .inl (cy 0, 96, .inl (u3.2.2 1))), ((ka 0), .inr (8, [.ref (ka 20), .int 0, .int 0, .int 0, .int 0, .int 0, .int (-1)]))] := hD
  refine lv_aload_n hx hb dX11_street_69 rfl (lv_at hlv 1 rfl) ?_
  refine lv_iconst (v := 0) hx hb dX11_street_70 (by decide) ?_
  refine va_put (D := D) (ci := 11) (v := .int 0) (ty := .int) (C := RX11) (T := TX11) (N := 14) hx hb hts hi11 tyX11 tyX11_ok nmX11 hown hG.1 hP hD hS 0 rfl rfl 10 (by decide) lf105 (fun _ h9 => h9) rfl (by decide +kernel) rfl rfl (Nat.le_of_ble_eq_true rfl) dX11_street_71 (fun H locs hP hD hS => ?_)
  have hP : va_P D vwCl [(ko, .inr (11, [.ref (ka 0), .ref (ka 1), .ref (ka 2), .int 0, .int 0, .ref (ka 6), .ref (ka 5), .ref (ka 7), .ref (ka 8), .ref (ka 9), .int 0, .ref (ka 11), .ref (ka 12), .ref (ka 13)])), ((ka 6), .inr (6, [.int 8, .int 3, .ref (ka 31), .ref (ka 32), .int 0, .int 0, .ref (ka 33), .int 0, .ref (ka 34), .int 0, .int 0, .ref (ka 35), .int 0, .ref (ka 36), .int 0, .int 0, .int 0, .int 0, .int 0])), ((ka 31), .inl (cy 0, 96, .inl (u3.2.2 0))), ((ka 32), .inl (cy 0, 96, .inl (u3.2.2 1))), ((ka 0), .inr (8, [.ref (ka 20), .int 0, .int 0, .int 0, .int 0, .int 0, .int (-1)]))] H := hP
  have hD : va_D A [(ko, .inr (11, [.ref (ka 0), .ref (ka 1), .ref (ka 2), .int 0, .int 0, .ref (ka 6), .ref (ka 5), .ref (ka 7), .ref (ka 8), .ref (ka 9), .int 0, .ref (ka 11), .ref (ka 12), .ref (ka 13)])), ((ka 6), .inr (6, [.int 8, .int 3, .ref (ka 31), .ref (ka 32), .int 0, .int 0, .ref (ka 33), .int 0, .ref (ka 34), .int 0, .int 0, .ref (ka 35), .int 0, .ref (ka 36), .int 0, .int 0, .int 0, .int 0, .int 0])), ((ka 31), .inl (cy 0, 96, .inl (u3.2.2 0))), ((ka 32), .inl (cy 0, 96, .inl (u3.2.2 1))), ((ka 0), .inr (8, [.ref (ka 20), .int 0, .int 0, .int 0, .int 0, .int 0, .int (-1)]))] := hD
  refine lv_aload_n hx hb dX11_street_74 rfl (lv_at hlv 1 rfl) ?_
  refine va_get (D := D) (ci := 11) (v := .ref (ka 6)) (C := RX11) (T := TX11) (N := 14) hx hb hts hi11 hown hG.1 hP 0 rfl rfl 5 (by decide) lf31 (fun _ h9 => h9) rfl dX11_street_75 ?_
  refine cj_i (wr := [(ko, .inr (11, [.ref (ka 0), .ref (ka 1), .ref (ka 2), .int 0, .int 0, .ref (ka 6), .ref (ka 5), .ref (ka 7), .ref (ka 8), .ref (ka 9), .int 0, .ref (ka 11), .ref (ka 12), .ref (ka 13)])), ((ka 31), .inl (cy 0, 96, .inl (u3.2.2 0))), ((ka 32), .inl (cy 0, 96, .inl (u3.2.2 1))), ((ka 0), .inr (8, [.ref (ka 20), .int 0, .int 0, .int 0, .int 0, .int 0, .int (-1)]))]) (va_runVN (host := "KerbSplash") (As := []) (rest := []) ⟨hx, hb, hml, hown, hts⟩ (c_cells24 l hl D cy sa ka H.size) ⟨va_cnB 0 hts gg_7 rfl rfl rfl (nM_K_108 hG.2.1) ini_RX6 (by decide +kernel) ⟨Nat.le_of_ble_eq_true rfl, Nat.le_of_ble_eq_true rfl⟩, im_X6_cells, se_X6_cells⟩ ⟨pcW.blind, (va_recv hG.1 hP (ci := 6) (q0 := 1) rfl rfl), (pcW.mk hP hD hS hA hG hT [1] rfl (by decide))⟩ rfl rfl hlv.1 rfl (lv_room (Nat.le_of_ble_eq_true rfl)) dX11_street_78 ⟨Nat.le_of_ble_eq_true rfl, Nat.le_of_ble_eq_true rfl⟩) hP hD hS hA [1] [0, 2, 3, 4] rfl rfl (by decide) (by decide) (fun r6 u6 H locs hw6 hP hD hS => ?_)
  obtain rfl := hw6
  have hP : va_P D vwCl [(ko, .inr (11, [.ref (ka 0), .ref (ka 1), .ref (ka 2), .int 0, .int 0, .ref (ka 6), .ref (ka 5), .ref (ka 7), .ref (ka 8), .ref (ka 9), .int 0, .ref (ka 11), .ref (ka 12), .ref (ka 13)])), ((ka 31), .inl (cy 0, 96, .inl (u3.2.2 0))), ((ka 32), .inl (cy 0, 96, .inl (u3.2.2 1))), ((ka 0), .inr (8, [.ref (ka 20), .int 0, .int 0, .int 0, .int 0, .int 0, .int (-1)]))] H := hP
  have hD : va_D A [(ko, .inr (11, [.ref (ka 0), .ref (ka 1), .ref (ka 2), .int 0, .int 0, .ref (ka 6), .ref (ka 5), .ref (ka 7), .ref (ka 8), .ref (ka 9), .int 0, .ref (ka 11), .ref (ka 12), .ref (ka 13)])), ((ka 31), .inl (cy 0, 96, .inl (u3.2.2 0))), ((ka 32), .inl (cy 0, 96, .inl (u3.2.2 1))), ((ka 0), .inr (8, [.ref (ka 20), .int 0, .int 0, .int 0, .int 0, .int 0, .int (-1)]))] := hD
  refine W.widen (k := 1) (n := 2) (Nat.le_of_ble_eq_true rfl) (Nat.le_of_ble_eq_true rfl) ?_
  exact W.iret (v := 24) hx hb hr (fun t ht hW => ⟨⟨24, ((fun k => ([] : List Nat).getD k 0), (fun k => ([] : List Int32).getD k 0), (fun k => ([] : List (Nat → Int32)).getD k (fun _ => 0))), rfl, (by first | (exact (by rfl))), by rw [ht]; exact hP.sub [] rfl, hD.sub [] (by decide) rfl⟩, hS.F ht⟩) hS.2.2 dX11_street_81
