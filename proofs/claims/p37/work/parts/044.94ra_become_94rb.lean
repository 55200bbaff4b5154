section

def vs_e_sbecome : List Cond := .code yX6_become cX6_become 2 none :: (([.fieldLink RX6 28 "KerbSplash$Street" "wide" "I", .fieldLink RX6 32 "KerbSplash$Street" "rows" "I", .fieldLink RX6 9 "KerbSplash$Street" "height" "[I", .methodLink RX6 74 arraycopyName, .native arraycopyName, .static arraycopyName, .initialized "java/lang/System", .fieldLink RX6 13 "KerbSplash$Street" "water" "[I", .fieldLink RX6 41 "KerbSplash$Street" "drains" "I", .fieldLink RX6 44 "KerbSplash$Street" "drainsTold" "I", .fieldLink RX6 16 "KerbSplash$Street" "drain" "[I", .fieldLink RX6 47 "KerbSplash$Street" "persons" "I", .fieldLink RX6 19 "KerbSplash$Street" "person" "[I", .fieldLink RX6 50 "KerbSplash$Street" "guesses" "I", .fieldLink RX6 53 "KerbSplash$Street" "shelters" "I", .fieldLink RX6 22 "KerbSplash$Street" "shelter" "[I", .fieldLink RX6 56 "KerbSplash$Street" "works" "I", .fieldLink RX6 25 "KerbSplash$Street" "work" "[I", .fieldLink RX6 59 "KerbSplash$Street" "done" "I", .fieldLink RX6 62 "KerbSplash$Street" "minutes" "I", .fieldLink RX6 65 "KerbSplash$Street" "fallen" "I", .fieldLink RX6 68 "KerbSplash$Street" "taken" "I", .fieldLink RX6 71 "KerbSplash$Street" "gone" "I"] : List Cond) ++ ((wsX60) ++ ([])))
theorem gd_e_sbecome : vs_e_sbecome.all goodWord = true := gd_C (by decide +kernel) (gd_A (by decide +kernel) (gd_A (by decide +kernel) rfl))
set_option maxHeartbeats 4000000 in
set_option maxRecDepth 100000 in
theorem e_sbecome (l : Launch) (hl : l.stackTraces = false) (D : va_G) (cy : Nat → ClassId) (sa : Nat → Nat) (tA t2 t3 t6 t8 t11 t13 : Nat) (twi tro tdr tdt tpe tgu tsh two tdn tmi tfl ttk tgo : Int) (thf twf tdf tpf tsf tkf : Nat → Int32) (oA o2 o3 o6 o8 o11 o13 : Nat) (owi oro odr odt ope ogu osh owo odn omi ofl otk ogo : Int) (ohf owf odf opf osf okf : Nat → Int32) (txl txh oxl oxh : Int) (sz : Nat) (hr_twi : 0 ≤ twi ∧ twi ≤ 16) (hr_tro : 0 ≤ tro ∧ tro ≤ 6) (hr_tdr : 0 ≤ tdr ∧ tdr ≤ 14) (hr_tdt : 0 ≤ tdt ∧ tdt ≤ 6) (hr_tpe : 0 ≤ tpe ∧ tpe ≤ 8) (hr_tgu : 0 ≤ tgu ∧ tgu ≤ 20) (hr_tsh : 0 ≤ tsh ∧ tsh ≤ 2) (hr_two : 0 ≤ two ∧ two ≤ 8) (hr_tdn : (-2147483648) ≤ tdn ∧ tdn ≤ 2147483647) (hr_tmi : 0 ≤ tmi ∧ tmi ≤ 600) (hr_tfl : (-2147483648) ≤ tfl ∧ tfl ≤ 2147483647) (hr_ttk : (-2147483648) ≤ ttk ∧ ttk ≤ 2147483647) (hr_tgo : (-2147483648) ≤ tgo ∧ tgo ≤ 2147483647) (hr_owi : 0 ≤ owi ∧ owi ≤ 16) (hr_oro : 0 ≤ oro ∧ oro ≤ 6) (hr_odr : 0 ≤ odr ∧ odr ≤ 14) (hr_odt : 0 ≤ odt ∧ odt ≤ 6) (hr_ope : 0 ≤ ope ∧ ope ≤ 8) (hr_ogu : 0 ≤ ogu ∧ ogu ≤ 20) (hr_osh : 0 ≤ osh ∧ osh ≤ 2) (hr_owo : 0 ≤ owo ∧ owo ≤ 8) (hr_odn : (-2147483648) ≤ odn ∧ odn ≤ 2147483647) (hr_omi : 0 ≤ omi ∧ omi ≤ 600) (hr_ofl : (-2147483648) ≤ ofl ∧ ofl ≤ 2147483647) (hr_otk : (-2147483648) ≤ otk ∧ otk ≤ 2147483647) (hr_ogo : (-2147483648) ≤ ogo ∧ ogo ≤ 2147483647) (hthf : inv_ 96 0 99 thf) (htdf : tab_ 4 14 [0, 0, 0, 0] [15, 5, 99, 16] tdf) (htpf : tab_ 4 28 [txl, 0, (-2147483648), (-2147483648)] [txh, 19, 2147483647, 2147483647] tpf) (htkf : tw_ tkf) (hohf : inv_ 96 0 99 ohf) (hodf : tab_ 4 14 [0, 0, 0, 0] [15, 5, 99, 16] odf) (hopf : tab_ 4 28 [oxl, 0, (-2147483648), (-2147483648)] [oxh, 19, 2147483647, 2147483647] opf) (hokf : tw_ okf) : mV9 l yX6_become vs_e_sbecome ({ frames := 1, cells := 0, slots := 0, locals := 60 }) D cy sa sz [vR tA, vR oA] [zO tA 6 [vI twi, vI tro, vR t2, vR t3, vI tdr, vI tdt, vR t6, vI tpe, vR t8, vI tgu, vI tsh, vR t11, vI two, vR t13, vI tdn, vI tmi, vI tfl, vI ttk, vI tgo], zI t2 (cy 0) 96 thf, zI t3 (cy 0) 96 twf, zI t6 (cy 0) 56 tdf, zI t8 (cy 0) 112 tpf, zI t11 (cy 0) 4 tsf, zI t13 (cy 0) 40 tkf, zO oA 6 [vI owi, vI oro, vR o2, vR o3, vI odr, vI odt, vR o6, vI ope, vR o8, vI ogu, vI osh, vR o11, vI owo, vR o13, vI odn, vI omi, vI ofl, vI otk, vI ogo], zI o2 (cy 0) 96 ohf, zI o3 (cy 0) 96 owf, zI o6 (cy 0) 56 odf, zI o8 (cy 0) 112 opf, zI o11 (cy 0) 4 osf, zI o13 (cy 0) 40 okf] (fun u : SV => (∀ j : Nat, j < 96 → (u.2.2 0) j = ohf j) ∧ (∀ j : Nat, j < 96 → (u.2.2 1) j = owf j) ∧ (∀ j : Nat, j < 56 → (u.2.2 2) j = odf j) ∧ (∀ j : Nat, j < 112 → (u.2.2 3) j = opf j) ∧ (∀ j : Nat, j < 4 → (u.2.2 4) j = osf j) ∧ (∀ j : Nat, j < 40 → (u.2.2 5) j = okf j) ∧ inv_ 96 0 99 (u.2.2 0) ∧ tab_ 4 14 [0, 0, 0, 0] [15, 5, 99, 16] (u.2.2 2) ∧ tab_ 4 28 [oxl, 0, (-2147483648), (-2147483648)] [oxh, 19, 2147483647, 2147483647] (u.2.2 3) ∧ tw_ (u.2.2 5) ∧ inv_ 96 0 99 ohf ∧ tab_ 4 14 [0, 0, 0, 0] [15, 5, 99, 16] odf ∧ tab_ 4 28 [oxl, 0, (-2147483648), (-2147483648)] [oxh, 19, 2147483647, 2147483647] opf ∧ tw_ okf) (fun u : SV => [zO tA 6 [vI owi, vI oro, vR t2, vR t3, vI odr, vI odt, vR t6, vI ope, vR t8, vI ogu, vI osh, vR t11, vI owo, vR t13, vI odn, vI omi, vI ofl, vI otk, vI ogo], zI t2 (cy 0) 96 (u.2.2 0), zI t3 (cy 0) 96 (u.2.2 1), zI t6 (cy 0) 56 (u.2.2 2), zI t8 (cy 0) 112 (u.2.2 3), zI t11 (cy 0) 4 (u.2.2 4), zI t13 (cy 0) 40 (u.2.2 5), zO oA 6 [vI owi, vI oro, vR o2, vR o3, vI odr, vI odt, vR o6, vI ope, vR o8, vI ogu, vI osh, vR o11, vI owo, vR o13, vI odn, vI omi, vI ofl, vI otk, vI ogo], zI o2 (cy 0) 96 ohf, zI o3 (cy 0) 96 owf, zI o6 (cy 0) 56 odf, zI o8 (cy 0) 112 opf, zI o11 (cy 0) 4 osf, zI o13 (cy 0) 40 okf]) 0 0 := by
  refine Met.ofW (cc := cX6_become) (maxL := 2) (ret := none) (by decide) rfl ?_
  intro p e s m args below meth c s₁ B hml hv
  obtain ⟨rfl, hsz, hP, hG, hD0, hT⟩ := hv
  have hx := B.exec
  have hb := B.bytes
  have hr := B.returns
  have hts := atoms_spec (ws := vs_e_sbecome) B.pre
  have hown : s.vm.findClass RX6 = some m.cls := findClass_of_methodNamed B.named
  have hlocks := B.notSynchronized
  subst hsz
  have hD := hD0.self (sz := s.heap.size)
  generalize hAe : va_A [zO tA 6 [vI twi, vI tro, vR t2, vR t3, vI tdr, vI tdt, vR t6, vI tpe, vR t8, vI tgu, vI tsh, vR t11, vI two, vR t13, vI tdn, vI tmi, vI tfl, vI ttk, vI tgo], zI t2 (cy 0) 96 thf, zI t3 (cy 0) 96 twf, zI t6 (cy 0) 56 tdf, zI t8 (cy 0) 112 tpf, zI t11 (cy 0) 4 tsf, zI t13 (cy 0) 40 tkf, zO oA 6 [vI owi, vI oro, vR o2, vR o3, vI odr, vI odt, vR o6, vI ope, vR o8, vI ogu, vI osh, vR o11, vI owo, vR o13, vI odn, vI omi, vI ofl, vI otk, vI ogo], zI o2 (cy 0) 96 ohf, zI o3 (cy 0) 96 owf, zI o6 (cy 0) 56 odf, zI o8 (cy 0) 112 opf, zI o11 (cy 0) 4 osf, zI o13 (cy 0) 40 okf] s.heap.size = A at hD hT ⊢
  have hA : ∀ q : Nat, s.heap.size ≤ q → A q := fun q h => by rw [← hAe]; exact Or.inr h
  have hS : va_S A s.heap s.heap [] := va_S.rf
  have hl0 := lv_entry ([vR tA, vR oA]) (n := 2) (Nat.le_of_ble_eq_true rfl)
  rw [lg_entry_eq]
  generalize (lg_sl ([vR tA, vR oA]) ++ List.replicate (2 - (lg_sl ([vR tA, vR oA])).length) Slot.unset).toArray = ls at hl0 ⊢
  have hlv : lv_has ls 2 [(0, vR tA), (1, vR oA)] := hl0
  have lf28 := hts (.fieldLink RX6 28 "KerbSplash$Street" "wide" "I") (List.mem_of_getElem? (i := 1) rfl)
  have hi6 : ∀ w ∈ wsX60, w ∈ vs_e_sbecome := fun w h => List.mem_cons_of_mem _ (List.mem_append_right _ (List.mem_append_left _ h))
  have lf32 := hts (.fieldLink RX6 32 "KerbSplash$Street" "rows" "I") (List.mem_of_getElem? (i := 2) rfl)
  have lf9 := hts (.fieldLink RX6 9 "KerbSplash$Street" "height" "[I") (List.mem_of_getElem? (i := 3) rfl)
  have ay1_74 := hts (.methodLink RX6 74 arraycopyName) (List.mem_of_getElem? (i := 4) rfl)
  have ay2 := hts (.native arraycopyName) (List.mem_of_getElem? (i := 5) rfl)
  have ay3 := hts (.static arraycopyName) (List.mem_of_getElem? (i := 6) rfl)
  have ay4 := hts (.initialized "java/lang/System") (List.mem_of_getElem? (i := 7) rfl)
  have lf13 := hts (.fieldLink RX6 13 "KerbSplash$Street" "water" "[I") (List.mem_of_getElem? (i := 8) rfl)
  have lf41 := hts (.fieldLink RX6 41 "KerbSplash$Street" "drains" "I") (List.mem_of_getElem? (i := 9) rfl)
  have lf44 := hts (.fieldLink RX6 44 "KerbSplash$Street" "drainsTold" "I") (List.mem_of_getElem? (i := 10) rfl)
  have lf16 := hts (.fieldLink RX6 16 "KerbSplash$Street" "drain" "[I") (List.mem_of_getElem? (i := 11) rfl)
  have lf47 := hts (.fieldLink RX6 47 "KerbSplash$Street" "persons" "I") (List.mem_of_getElem? (i := 12) rfl)
  have lf19 := hts (.fieldLink RX6 19 "KerbSplash$Street" "person" "[I") (List.mem_of_getElem? (i := 13) rfl)
  have lf50 := hts (.fieldLink RX6 50 "KerbSplash$Street" "guesses" "I") (List.mem_of_getElem? (i := 14) rfl)
  have lf53 := hts (.fieldLink RX6 53 "KerbSplash$Street" "shelters" "I") (List.mem_of_getElem? (i := 15) rfl)
  have lf22 := hts (.fieldLink RX6 22 "KerbSplash$Street" "shelter" "[I") (List.mem_of_getElem? (i := 16) rfl)
  have lf56 := hts (.fieldLink RX6 56 "KerbSplash$Street" "works" "I") (List.mem_of_getElem? (i := 17) rfl)
  have lf25 := hts (.fieldLink RX6 25 "KerbSplash$Street" "work" "[I") (List.mem_of_getElem? (i := 18) rfl)
  have lf59 := hts (.fieldLink RX6 59 "KerbSplash$Street" "done" "I") (List.mem_of_getElem? (i := 19) rfl)
  have lf62 := hts (.fieldLink RX6 62 "KerbSplash$Street" "minutes" "I") (List.mem_of_getElem? (i := 20) rfl)
  have lf65 := hts (.fieldLink RX6 65 "KerbSplash$Street" "fallen" "I") (List.mem_of_getElem? (i := 21) rfl)
  have lf68 := hts (.fieldLink RX6 68 "KerbSplash$Street" "taken" "I") (List.mem_of_getElem? (i := 22) rfl)
  have lf71 := hts (.fieldLink RX6 71 "KerbSplash$Street" "gone" "I") (List.mem_of_getElem? (i := 23) rfl)
  refine lv_aload_n hx hb dX6_become_0 rfl (lv_at hlv 0 rfl) ?_
  refine lv_aload_n hx hb dX6_become_1 rfl (lv_at hlv 1 rfl) ?_
  refine va_get (D := D) (ci := 6) (v := vI owi) (C := RX6) (T := TX6) (N := 19) hx hb hts hi6 hown hG.1 hP 7 rfl rfl 0 (by decide) lf28 (fun _ h9 => h9) rfl dX6_become_2 ?_
  refine va_put (D := D) (ci := 6) (v := vI owi) (ty := .int) (C := RX6) (T := TX6) (N := 19) hx hb hts hi6 tyX6 tyX6_ok nmX6 hown hG.1 hP hD hS 0 rfl rfl 0 (by decide) lf28 (fun _ h9 => h9) rfl (by decide +kernel) rfl rfl (Nat.le_of_ble_eq_true rfl) dX6_become_5 (fun H locs hP hD hS => ?_)
  obtain ⟨hP, hD⟩ := pw9 [zO tA 6 [vI owi, vI tro, vR t2, vR t3, vI tdr, vI tdt, vR t6, vI tpe, vR t8, vI tgu, vI tsh, vR t11, vI two, vR t13, vI tdn, vI tmi, vI tfl, vI ttk, vI tgo], zI t2 (cy 0) 96 thf, zI t3 (cy 0) 96 twf, zI t6 (cy 0) 56 tdf, zI t8 (cy 0) 112 tpf, zI t11 (cy 0) 4 tsf, zI t13 (cy 0) 40 tkf, zO oA 6 [vI owi, vI oro, vR o2, vR o3, vI odr, vI odt, vR o6, vI ope, vR o8, vI ogu, vI osh, vR o11, vI owo, vR o13, vI odn, vI omi, vI ofl, vI otk, vI ogo], zI o2 (cy 0) 96 ohf, zI o3 (cy 0) 96 owf, zI o6 (cy 0) 56 odf, zI o8 (cy 0) 112 opf, zI o11 (cy 0) 4 osf, zI o13 (cy 0) 40 okf] hP hD
  refine lv_aload_n hx hb dX6_become_8 rfl (lv_at hlv 0 rfl) ?_
  refine lv_aload_n hx hb dX6_become_9 rfl (lv_at hlv 1 rfl) ?_
  refine va_get (D := D) (ci := 6) (v := vI oro) (C := RX6) (T := TX6) (N := 19) hx hb hts hi6 hown hG.1 hP 7 rfl rfl 1 (by decide) lf32 (fun _ h9 => h9) rfl dX6_become_10 ?_
  refine va_put (D := D) (ci := 6) (v := vI oro) (ty := .int) (C := RX6) (T := TX6) (N := 19) hx hb hts hi6 tyX6 tyX6_ok nmX6 hown hG.1 hP hD hS 0 rfl rfl 1 (by decide) lf32 (fun _ h9 => h9) rfl (by decide +kernel) rfl rfl (Nat.le_of_ble_eq_true rfl) dX6_become_13 (fun H locs hP hD hS => ?_)
  obtain ⟨hP, hD⟩ := pw9 [zO tA 6 [vI owi, vI oro, vR t2, vR t3, vI tdr, vI tdt, vR t6, vI tpe, vR t8, vI tgu, vI tsh, vR t11, vI two, vR t13, vI tdn, vI tmi, vI tfl, vI ttk, vI tgo], zI t2 (cy 0) 96 thf, zI t3 (cy 0) 96 twf, zI t6 (cy 0) 56 tdf, zI t8 (cy 0) 112 tpf, zI t11 (cy 0) 4 tsf, zI t13 (cy 0) 40 tkf, zO oA 6 [vI owi, vI oro, vR o2, vR o3, vI odr, vI odt, vR o6, vI ope, vR o8, vI ogu, vI osh, vR o11, vI owo, vR o13, vI odn, vI omi, vI ofl, vI otk, vI ogo], zI o2 (cy 0) 96 ohf, zI o3 (cy 0) 96 owf, zI o6 (cy 0) 56 odf, zI o8 (cy 0) 112 opf, zI o11 (cy 0) 4 osf, zI o13 (cy 0) 40 okf] hP hD
  refine lv_aload_n hx hb dX6_become_16 rfl (lv_at hlv 1 rfl) ?_
  refine va_get (D := D) (ci := 6) (v := vR o2) (C := RX6) (T := TX6) (N := 19) hx hb hts hi6 hown hG.1 hP 7 rfl rfl 2 (by decide) lf9 (fun _ h9 => h9) rfl dX6_become_17 ?_
  refine lv_iconst (v := iI 0) hx hb dX6_become_20 (by decide) ?_
  refine lv_aload_n hx hb dX6_become_21 rfl (lv_at hlv 0 rfl) ?_
  refine va_get (D := D) (ci := 6) (v := vR t2) (C := RX6) (T := TX6) (N := 19) hx hb hts hi6 hown hG.1 hP 0 rfl rfl 2 (by decide) lf9 (fun _ h9 => h9) rfl dX6_become_22 ?_
  refine lv_iconst (v := iI 0) hx hb dX6_become_25 (by decide) ?_
  refine lv_aload_n hx hb dX6_become_26 rfl (lv_at hlv 0 rfl) ?_
  refine va_get (D := D) (ci := 6) (v := vR t2) (C := RX6) (T := TX6) (N := 19) hx hb hts hi6 hown hG.1 hP 0 rfl rfl 2 (by decide) lf9 (fun _ h9 => h9) rfl dX6_become_27 ?_
  refine va_alen (v := iI 96) hx hb hG.1 hP 1 0 rfl rfl (iI_nI _) dX6_become_30 ?_
  refine va_copyi (ty := .int) hx hb (hml.trans hlv.1.symm) hown ay1_74 ay2 ay3 ay4 hG.1 hP hD hS 8 1 0 0 rfl rfl rfl rfl rfl (fun q => absurd ((iI_lt (a := 0) (b := 0) (by omega) (by omega)).mp q) (by omega)) (fun q => absurd ((iI_lt (a := 0) (b := 0) (by omega) (by omega)).mp q) (by omega)) (fun q => absurd ((iI_lt (a := 96) (b := 0) (by omega) (by omega)).mp q) (by omega)) (by have h1 := iI_cl (e := 0) (by omega) (by omega); have h2 := iI_cl (e := 96) (by omega) (by omega); omega) (by have h1 := iI_cl (e := 0) (by omega) (by omega); have h2 := iI_cl (e := 96) (by omega) (by omega); omega) (fun i h => rfl) (Nat.le_of_ble_eq_true rfl) (Nat.le_of_ble_eq_true rfl) dX6_become_31 (fun H locs hP hD hS => ?_)
  obtain ⟨f_1, ⟨hcp_f_1, hf_1⟩, hP, hD⟩ := pe9i (fun f_1 => (∀ j : Nat, j < 96 → f_1 j = ohf j) ∧ inv_ 96 0 99 f_1) (fun f_1 => [zO tA 6 [vI owi, vI oro, vR t2, vR t3, vI tdr, vI tdt, vR t6, vI tpe, vR t8, vI tgu, vI tsh, vR t11, vI two, vR t13, vI tdn, vI tmi, vI tfl, vI ttk, vI tgo], zI t2 (cy 0) 96 f_1, zI t3 (cy 0) 96 twf, zI t6 (cy 0) 56 tdf, zI t8 (cy 0) 112 tpf, zI t11 (cy 0) 4 tsf, zI t13 (cy 0) 40 tkf, zO oA 6 [vI owi, vI oro, vR o2, vR o3, vI odr, vI odt, vR o6, vI ope, vR o8, vI ogu, vI osh, vR o11, vI owo, vR o13, vI odn, vI omi, vI ofl, vI otk, vI ogo], zI o2 (cy 0) 96 ohf, zI o3 (cy 0) 96 owf, zI o6 (cy 0) 56 odf, zI o8 (cy 0) 112 opf, zI o11 (cy 0) 4 osf, zI o13 (cy 0) 40 okf]) ⟨cpe_ (by decide), (inv_cpy hohf (by decide) (by decide) (by decide))⟩ hP hD
  refine lv_aload_n hx hb dX6_become_34 rfl (lv_at hlv 1 rfl) ?_
  refine va_get (D := D) (ci := 6) (v := vR o3) (C := RX6) (T := TX6) (N := 19) hx hb hts hi6 hown hG.1 hP 7 rfl rfl 3 (by decide) lf13 (fun _ h9 => h9) rfl dX6_become_35 ?_
  refine lv_iconst (v := iI 0) hx hb dX6_become_38 (by decide) ?_
  refine lv_aload_n hx hb dX6_become_39 rfl (lv_at hlv 0 rfl) ?_
  refine va_get (D := D) (ci := 6) (v := vR t3) (C := RX6) (T := TX6) (N := 19) hx hb hts hi6 hown hG.1 hP 0 rfl rfl 3 (by decide) lf13 (fun _ h9 => h9) rfl dX6_become_40 ?_
  refine lv_iconst (v := iI 0) hx hb dX6_become_43 (by decide) ?_
  refine lv_aload_n hx hb dX6_become_44 rfl (lv_at hlv 0 rfl) ?_
  refine va_get (D := D) (ci := 6) (v := vR t3) (C := RX6) (T := TX6) (N := 19) hx hb hts hi6 hown hG.1 hP 0 rfl rfl 3 (by decide) lf13 (fun _ h9 => h9) rfl dX6_become_45 ?_
  refine va_alen (v := iI 96) hx hb hG.1 hP 2 0 rfl rfl (iI_nI _) dX6_become_48 ?_
  refine va_copyi (ty := .int) hx hb (hml.trans hlv.1.symm) hown ay1_74 ay2 ay3 ay4 hG.1 hP hD hS 9 2 0 0 rfl rfl rfl rfl rfl (fun q => absurd ((iI_lt (a := 0) (b := 0) (by omega) (by omega)).mp q) (by omega)) (fun q => absurd ((iI_lt (a := 0) (b := 0) (by omega) (by omega)).mp q) (by omega)) (fun q => absurd ((iI_lt (a := 96) (b := 0) (by omega) (by omega)).mp q) (by omega)) (by have h1 := iI_cl (e := 0) (by omega) (by omega); have h2 := iI_cl (e := 96) (by omega) (by omega); omega) (by have h1 := iI_cl (e := 0) (by omega) (by omega); have h2 := iI_cl (e := 96) (by omega) (by omega); omega) (fun i h => rfl) (Nat.le_of_ble_eq_true rfl) (Nat.le_of_ble_eq_true rfl) dX6_become_49 (fun H locs hP hD hS => ?_)
  obtain ⟨f_2, hcp_f_2, hP, hD⟩ := pe9i (fun f_2 => ∀ j : Nat, j < 96 → f_2 j = owf j) (fun f_2 => [zO tA 6 [vI owi, vI oro, vR t2, vR t3, vI tdr, vI tdt, vR t6, vI tpe, vR t8, vI tgu, vI tsh, vR t11, vI two, vR t13, vI tdn, vI tmi, vI tfl, vI ttk, vI tgo], zI t2 (cy 0) 96 f_1, zI t3 (cy 0) 96 f_2, zI t6 (cy 0) 56 tdf, zI t8 (cy 0) 112 tpf, zI t11 (cy 0) 4 tsf, zI t13 (cy 0) 40 tkf, zO oA 6 [vI owi, vI oro, vR o2, vR o3, vI odr, vI odt, vR o6, vI ope, vR o8, vI ogu, vI osh, vR o11, vI owo, vR o13, vI odn, vI omi, vI ofl, vI otk, vI ogo], zI o2 (cy 0) 96 ohf, zI o3 (cy 0) 96 owf, zI o6 (cy 0) 56 odf, zI o8 (cy 0) 112 opf, zI o11 (cy 0) 4 osf, zI o13 (cy 0) 40 okf]) (cpe_ (by decide)) hP hD
  refine lv_aload_n hx hb dX6_become_52 rfl (lv_at hlv 0 rfl) ?_
  refine lv_aload_n hx hb dX6_become_53 rfl (lv_at hlv 1 rfl) ?_
  refine va_get (D := D) (ci := 6) (v := vI odr) (C := RX6) (T := TX6) (N := 19) hx hb hts hi6 hown hG.1 hP 7 rfl rfl 4 (by decide) lf41 (fun _ h9 => h9) rfl dX6_become_54 ?_
  refine va_put (D := D) (ci := 6) (v := vI odr) (ty := .int) (C := RX6) (T := TX6) (N := 19) hx hb hts hi6 tyX6 tyX6_ok nmX6 hown hG.1 hP hD hS 0 rfl rfl 4 (by decide) lf41 (fun _ h9 => h9) rfl (by decide +kernel) rfl rfl (Nat.le_of_ble_eq_true rfl) dX6_become_57 (fun H locs hP hD hS => ?_)
  obtain ⟨hP, hD⟩ := pw9 [zO tA 6 [vI owi, vI oro, vR t2, vR t3, vI odr, vI tdt, vR t6, vI tpe, vR t8, vI tgu, vI tsh, vR t11, vI two, vR t13, vI tdn, vI tmi, vI tfl, vI ttk, vI tgo], zI t2 (cy 0) 96 f_1, zI t3 (cy 0) 96 f_2, zI t6 (cy 0) 56 tdf, zI t8 (cy 0) 112 tpf, zI t11 (cy 0) 4 tsf, zI t13 (cy 0) 40 tkf, zO oA 6 [vI owi, vI oro, vR o2, vR o3, vI odr, vI odt, vR o6, vI ope, vR o8, vI ogu, vI osh, vR o11, vI owo, vR o13, vI odn, vI omi, vI ofl, vI otk, vI ogo], zI o2 (cy 0) 96 ohf, zI o3 (cy 0) 96 owf, zI o6 (cy 0) 56 odf, zI o8 (cy 0) 112 opf, zI o11 (cy 0) 4 osf, zI o13 (cy 0) 40 okf] hP hD
  refine lv_aload_n hx hb dX6_become_60 rfl (lv_at hlv 0 rfl) ?_
  refine lv_aload_n hx hb dX6_become_61 rfl (lv_at hlv 1 rfl) ?_
  refine va_get (D := D) (ci := 6) (v := vI odt) (C := RX6) (T := TX6) (N := 19) hx hb hts hi6 hown hG.1 hP 7 rfl rfl 5 (by decide) lf44 (fun _ h9 => h9) rfl dX6_become_62 ?_
  refine va_put (D := D) (ci := 6) (v := vI odt) (ty := .int) (C := RX6) (T := TX6) (N := 19) hx hb hts hi6 tyX6 tyX6_ok nmX6 hown hG.1 hP hD hS 0 rfl rfl 5 (by decide) lf44 (fun _ h9 => h9) rfl (by decide +kernel) rfl rfl (Nat.le_of_ble_eq_true rfl) dX6_become_65 (fun H locs hP hD hS => ?_)
  obtain ⟨hP, hD⟩ := pw9 [zO tA 6 [vI owi, vI oro, vR t2, vR t3, vI odr, vI odt, vR t6, vI tpe, vR t8, vI tgu, vI tsh, vR t11, vI two, vR t13, vI tdn, vI tmi, vI tfl, vI ttk, vI tgo], zI t2 (cy 0) 96 f_1, zI t3 (cy 0) 96 f_2, zI t6 (cy 0) 56 tdf, zI t8 (cy 0) 112 tpf, zI t11 (cy 0) 4 tsf, zI t13 (cy 0) 40 tkf, zO oA 6 [vI owi, vI oro, vR o2, vR o3, vI odr, vI odt, vR o6, vI ope, vR o8, vI ogu, vI osh, vR o11, vI owo, vR o13, vI odn, vI omi, vI ofl, vI otk, vI ogo], zI o2 (cy 0) 96 ohf, zI o3 (cy 0) 96 owf, zI o6 (cy 0) 56 odf, zI o8 (cy 0) 112 opf, zI o11 (cy 0) 4 osf, zI o13 (cy 0) 40 okf] hP hD
  refine lv_aload_n hx hb dX6_become_68 rfl (lv_at hlv 1 rfl) ?_
  refine va_get (D := D) (ci := 6) (v := vR o6) (C := RX6) (T := TX6) (N := 19) hx hb hts hi6 hown hG.1 hP 7 rfl rfl 6 (by decide) lf16 (fun _ h9 => h9) rfl dX6_become_69 ?_
  refine lv_iconst (v := iI 0) hx hb dX6_become_72 (by decide) ?_
  refine lv_aload_n hx hb dX6_become_73 rfl (lv_at hlv 0 rfl) ?_
  refine va_get (D := D) (ci := 6) (v := vR t6) (C := RX6) (T := TX6) (N := 19) hx hb hts hi6 hown hG.1 hP 0 rfl rfl 6 (by decide) lf16 (fun _ h9 => h9) rfl dX6_become_74 ?_
  refine lv_iconst (v := iI 0) hx hb dX6_become_77 (by decide) ?_
  refine lv_aload_n hx hb dX6_become_78 rfl (lv_at hlv 0 rfl) ?_
  refine va_get (D := D) (ci := 6) (v := vR t6) (C := RX6) (T := TX6) (N := 19) hx hb hts hi6 hown hG.1 hP 0 rfl rfl 6 (by decide) lf16 (fun _ h9 => h9) rfl dX6_become_79 ?_
  refine va_alen (v := iI 56) hx hb hG.1 hP 3 0 rfl rfl (iI_nI _) dX6_become_82 ?_
  refine va_copyi (ty := .int) hx hb (hml.trans hlv.1.symm) hown ay1_74 ay2 ay3 ay4 hG.1 hP hD hS 10 3 0 0 rfl rfl rfl rfl rfl (fun q => absurd ((iI_lt (a := 0) (b := 0) (by omega) (by omega)).mp q) (by omega)) (fun q => absurd ((iI_lt (a := 0) (b := 0) (by omega) (by omega)).mp q) (by omega)) (fun q => absurd ((iI_lt (a := 56) (b := 0) (by omega) (by omega)).mp q) (by omega)) (by have h1 := iI_cl (e := 0) (by omega) (by omega); have h2 := iI_cl (e := 56) (by omega) (by omega); omega) (by have h1 := iI_cl (e := 0) (by omega) (by omega); have h2 := iI_cl (e := 56) (by omega) (by omega); omega) (fun i h => rfl) (Nat.le_of_ble_eq_true rfl) (Nat.le_of_ble_eq_true rfl) dX6_become_83 (fun H locs hP hD hS => ?_)
  obtain ⟨f_3, ⟨hcp_f_3, hf_3⟩, hP, hD⟩ := pe9i (fun f_3 => (∀ j : Nat, j < 56 → f_3 j = odf j) ∧ tab_ 4 14 [0, 0, 0, 0] [15, 5, 99, 16] f_3) (fun f_3 => [zO tA 6 [vI owi, vI oro, vR t2, vR t3, vI odr, vI odt, vR t6, vI tpe, vR t8, vI tgu, vI tsh, vR t11, vI two, vR t13, vI tdn, vI tmi, vI tfl, vI ttk, vI tgo], zI t2 (cy 0) 96 f_1, zI t3 (cy 0) 96 f_2, zI t6 (cy 0) 56 f_3, zI t8 (cy 0) 112 tpf, zI t11 (cy 0) 4 tsf, zI t13 (cy 0) 40 tkf, zO oA 6 [vI owi, vI oro, vR o2, vR o3, vI odr, vI odt, vR o6, vI ope, vR o8, vI ogu, vI osh, vR o11, vI owo, vR o13, vI odn, vI omi, vI ofl, vI otk, vI ogo], zI o2 (cy 0) 96 ohf, zI o3 (cy 0) 96 owf, zI o6 (cy 0) 56 odf, zI o8 (cy 0) 112 opf, zI o11 (cy 0) 4 osf, zI o13 (cy 0) 40 okf]) ⟨cpe_ (by decide), (tab_cpy hodf (by decide) (by decide) (by decide))⟩ hP hD
  refine lv_aload_n hx hb dX6_become_86 rfl (lv_at hlv 0 rfl) ?_
  refine lv_aload_n hx hb dX6_become_87 rfl (lv_at hlv 1 rfl) ?_
  refine va_get (D := D) (ci := 6) (v := vI ope) (C := RX6) (T := TX6) (N := 19) hx hb hts hi6 hown hG.1 hP 7 rfl rfl 7 (by decide) lf47 (fun _ h9 => h9) rfl dX6_become_88 ?_
  refine va_put (D := D) (ci := 6) (v := vI ope) (ty := .int) (C := RX6) (T := TX6) (N := 19) hx hb hts hi6 tyX6 tyX6_ok nmX6 hown hG.1 hP hD hS 0 rfl rfl 7 (by decide) lf47 (fun _ h9 => h9) rfl (by decide +kernel) rfl rfl (Nat.le_of_ble_eq_true rfl) dX6_become_91 (fun H locs hP hD hS => ?_)
  obtain ⟨hP, hD⟩ := pw9 [zO tA 6 [vI owi, vI oro, vR t2, vR t3, vI odr, vI odt, vR t6, vI ope, vR t8, vI tgu, vI tsh, vR t11, vI two, vR t13, vI tdn, vI tmi, vI tfl, vI ttk, vI tgo], zI t2 (cy 0) 96 f_1, zI t3 (cy 0) 96 f_2, zI t6 (cy 0) 56 f_3, zI t8 (cy 0) 112 tpf, zI t11 (cy 0) 4 tsf, zI t13 (cy 0) 40 tkf, zO oA 6 [vI owi, vI oro, vR o2, vR o3, vI odr, vI odt, vR o6, vI ope, vR o8, vI ogu, vI osh, vR o11, vI owo, vR o13, vI odn, vI omi, vI ofl, vI otk, vI ogo], zI o2 (cy 0) 96 ohf, zI o3 (cy 0) 96 owf, zI o6 (cy 0) 56 odf, zI o8 (cy 0) 112 opf, zI o11 (cy 0) 4 osf, zI o13 (cy 0) 40 okf] hP hD
  refine lv_aload_n hx hb dX6_become_94 rfl (lv_at hlv 1 rfl) ?_
  refine va_get (D := D) (ci := 6) (v := vR o8) (C := RX6) (T := TX6) (N := 19) hx hb hts hi6 hown hG.1 hP 7 rfl rfl 8 (by decide) lf19 (fun _ h9 => h9) rfl dX6_become_95 ?_
  refine lv_iconst (v := iI 0) hx hb dX6_become_98 (by decide) ?_
  refine lv_aload_n hx hb dX6_become_99 rfl (lv_at hlv 0 rfl) ?_
  refine va_get (D := D) (ci := 6) (v := vR t8) (C := RX6) (T := TX6) (N := 19) hx hb hts hi6 hown hG.1 hP 0 rfl rfl 8 (by decide) lf19 (fun _ h9 => h9) rfl dX6_become_100 ?_
  refine lv_iconst (v := iI 0) hx hb dX6_become_103 (by decide) ?_
  refine lv_aload_n hx hb dX6_become_104 rfl (lv_at hlv 0 rfl) ?_
  refine va_get (D := D) (ci := 6) (v := vR t8) (C := RX6) (T := TX6) (N := 19) hx hb hts hi6 hown hG.1 hP 0 rfl rfl 8 (by decide) lf19 (fun _ h9 => h9) rfl dX6_become_105 ?_
  refine va_alen (v := iI 112) hx hb hG.1 hP 4 0 rfl rfl (iI_nI _) dX6_become_108 ?_
  refine va_copyi (ty := .int) hx hb (hml.trans hlv.1.symm) hown ay1_74 ay2 ay3 ay4 hG.1 hP hD hS 11 4 0 0 rfl rfl rfl rfl rfl (fun q => absurd ((iI_lt (a := 0) (b := 0) (by omega) (by omega)).mp q) (by omega)) (fun q => absurd ((iI_lt (a := 0) (b := 0) (by omega) (by omega)).mp q) (by omega)) (fun q => absurd ((iI_lt (a := 112) (b := 0) (by omega) (by omega)).mp q) (by omega)) (by have h1 := iI_cl (e := 0) (by omega) (by omega); have h2 := iI_cl (e := 112) (by omega) (by omega); omega) (by have h1 := iI_cl (e := 0) (by omega) (by omega); have h2 := iI_cl (e := 112) (by omega) (by omega); omega) (fun i h => rfl) (Nat.le_of_ble_eq_true rfl) (Nat.le_of_ble_eq_true rfl) dX6_become_109 (fun H locs hP hD hS => ?_)
  obtain ⟨f_4, ⟨hcp_f_4, hf_4⟩, hP, hD⟩ := pe9i (fun f_4 => (∀ j : Nat, j < 112 → f_4 j = opf j) ∧ tab_ 4 28 [oxl, 0, (-2147483648), (-2147483648)] [oxh, 19, 2147483647, 2147483647] f_4) (fun f_4 => [zO tA 6 [vI owi, vI oro, vR t2, vR t3, vI odr, vI odt, vR t6, vI ope, vR t8, vI tgu, vI tsh, vR t11, vI two, vR t13, vI tdn, vI tmi, vI tfl, vI ttk, vI tgo], zI t2 (cy 0) 96 f_1, zI t3 (cy 0) 96 f_2, zI t6 (cy 0) 56 f_3, zI t8 (cy 0) 112 f_4, zI t11 (cy 0) 4 tsf, zI t13 (cy 0) 40 tkf, zO oA 6 [vI owi, vI oro, vR o2, vR o3, vI odr, vI odt, vR o6, vI ope, vR o8, vI ogu, vI osh, vR o11, vI owo, vR o13, vI odn, vI omi, vI ofl, vI otk, vI ogo], zI o2 (cy 0) 96 ohf, zI o3 (cy 0) 96 owf, zI o6 (cy 0) 56 odf, zI o8 (cy 0) 112 opf, zI o11 (cy 0) 4 osf, zI o13 (cy 0) 40 okf]) ⟨cpe_ (by decide), (tab_cpy hopf (by decide) (by decide) (by decide))⟩ hP hD
  refine lv_aload_n hx hb dX6_become_112 rfl (lv_at hlv 0 rfl) ?_
  refine lv_aload_n hx hb dX6_become_113 rfl (lv_at hlv 1 rfl) ?_
  refine va_get (D := D) (ci := 6) (v := vI ogu) (C := RX6) (T := TX6) (N := 19) hx hb hts hi6 hown hG.1 hP 7 rfl rfl 9 (by decide) lf50 (fun _ h9 => h9) rfl dX6_become_114 ?_
  refine va_put (D := D) (ci := 6) (v := vI ogu) (ty := .int) (C := RX6) (T := TX6) (N := 19) hx hb hts hi6 tyX6 tyX6_ok nmX6 hown hG.1 hP hD hS 0 rfl rfl 9 (by decide) lf50 (fun _ h9 => h9) rfl (by decide +kernel) rfl rfl (Nat.le_of_ble_eq_true rfl) dX6_become_117 (fun H locs hP hD hS => ?_)
  obtain ⟨hP, hD⟩ := pw9 [zO tA 6 [vI owi, vI oro, vR t2, vR t3, vI odr, vI odt, vR t6, vI ope, vR t8, vI ogu, vI tsh, vR t11, vI two, vR t13, vI tdn, vI tmi, vI tfl, vI ttk, vI tgo], zI t2 (cy 0) 96 f_1, zI t3 (cy 0) 96 f_2, zI t6 (cy 0) 56 f_3, zI t8 (cy 0) 112 f_4, zI t11 (cy 0) 4 tsf, zI t13 (cy 0) 40 tkf, zO oA 6 [vI owi, vI oro, vR o2, vR o3, vI odr, vI odt, vR o6, vI ope, vR o8, vI ogu, vI osh, vR o11, vI owo, vR o13, vI odn, vI omi, vI ofl, vI otk, vI ogo], zI o2 (cy 0) 96 ohf, zI o3 (cy 0) 96 owf, zI o6 (cy 0) 56 odf, zI o8 (cy 0) 112 opf, zI o11 (cy 0) 4 osf, zI o13 (cy 0) 40 okf] hP hD
  refine lv_aload_n hx hb dX6_become_120 rfl (lv_at hlv 0 rfl) ?_
  refine lv_aload_n hx hb dX6_become_121 rfl (lv_at hlv 1 rfl) ?_
  refine va_get (D := D) (ci := 6) (v := vI osh) (C := RX6) (T := TX6) (N := 19) hx hb hts hi6 hown hG.1 hP 7 rfl rfl 10 (by decide) lf53 (fun _ h9 => h9) rfl dX6_become_122 ?_
  refine va_put (D := D) (ci := 6) (v := vI osh) (ty := .int) (C := RX6) (T := TX6) (N := 19) hx hb hts hi6 tyX6 tyX6_ok nmX6 hown hG.1 hP hD hS 0 rfl rfl 10 (by decide) lf53 (fun _ h9 => h9) rfl (by decide +kernel) rfl rfl (Nat.le_of_ble_eq_true rfl) dX6_become_125 (fun H locs hP hD hS => ?_)
  obtain ⟨hP, hD⟩ := pw9 [zO tA 6 [vI owi, vI oro, vR t2, vR t3, vI odr, vI odt, vR t6, vI ope, vR t8, vI ogu, vI osh, vR t11, vI two, vR t13, vI tdn, vI tmi, vI tfl, vI ttk, vI tgo], zI t2 (cy 0) 96 f_1, zI t3 (cy 0) 96 f_2, zI t6 (cy 0) 56 f_3, zI t8 (cy 0) 112 f_4, zI t11 (cy 0) 4 tsf, zI t13 (cy 0) 40 tkf, zO oA 6 [vI owi, vI oro, vR o2, vR o3, vI odr, vI odt, vR o6, vI ope, vR o8, vI ogu, vI osh, vR o11, vI owo, vR o13, vI odn, vI omi, vI ofl, vI otk, vI ogo], zI o2 (cy 0) 96 ohf, zI o3 (cy 0) 96 owf, zI o6 (cy 0) 56 odf, zI o8 (cy 0) 112 opf, zI o11 (cy 0) 4 osf, zI o13 (cy 0) 40 okf] hP hD
  refine lv_aload_n hx hb dX6_become_128 rfl (lv_at hlv 1 rfl) ?_
  refine va_get (D := D) (ci := 6) (v := vR o11) (C := RX6) (T := TX6) (N := 19) hx hb hts hi6 hown hG.1 hP 7 rfl rfl 11 (by decide) lf22 (fun _ h9 => h9) rfl dX6_become_129 ?_
  refine lv_iconst (v := iI 0) hx hb dX6_become_132 (by decide) ?_
  refine lv_aload_n hx hb dX6_become_133 rfl (lv_at hlv 0 rfl) ?_
  refine va_get (D := D) (ci := 6) (v := vR t11) (C := RX6) (T := TX6) (N := 19) hx hb hts hi6 hown hG.1 hP 0 rfl rfl 11 (by decide) lf22 (fun _ h9 => h9) rfl dX6_become_134 ?_
  refine lv_iconst (v := iI 0) hx hb dX6_become_137 (by decide) ?_
  refine lv_aload_n hx hb dX6_become_138 rfl (lv_at hlv 0 rfl) ?_
  refine va_get (D := D) (ci := 6) (v := vR t11) (C := RX6) (T := TX6) (N := 19) hx hb hts hi6 hown hG.1 hP 0 rfl rfl 11 (by decide) lf22 (fun _ h9 => h9) rfl dX6_become_139 ?_
  refine va_alen (v := iI 4) hx hb hG.1 hP 5 0 rfl rfl (iI_nI _) dX6_become_142 ?_
  refine va_copyi (ty := .int) hx hb (hml.trans hlv.1.symm) hown ay1_74 ay2 ay3 ay4 hG.1 hP hD hS 12 5 0 0 rfl rfl rfl rfl rfl (fun q => absurd ((iI_lt (a := 0) (b := 0) (by omega) (by omega)).mp q) (by omega)) (fun q => absurd ((iI_lt (a := 0) (b := 0) (by omega) (by omega)).mp q) (by omega)) (fun q => absurd ((iI_lt (a := 4) (b := 0) (by omega) (by omega)).mp q) (by omega)) (by have h1 := iI_cl (e := 0) (by omega) (by omega); have h2 := iI_cl (e := 4) (by omega) (by omega); omega) (by have h1 := iI_cl (e := 0) (by omega) (by omega); have h2 := iI_cl (e := 4) (by omega) (by omega); omega) (fun i h => rfl) (Nat.le_of_ble_eq_true rfl) (Nat.le_of_ble_eq_true rfl) dX6_become_143 (fun H locs hP hD hS => ?_)
  obtain ⟨f_5, hcp_f_5, hP, hD⟩ := pe9i (fun f_5 => ∀ j : Nat, j < 4 → f_5 j = osf j) (fun f_5 => [zO tA 6 [vI owi, vI oro, vR t2, vR t3, vI odr, vI odt, vR t6, vI ope, vR t8, vI ogu, vI osh, vR t11, vI two, vR t13, vI tdn, vI tmi, vI tfl, vI ttk, vI tgo], zI t2 (cy 0) 96 f_1, zI t3 (cy 0) 96 f_2, zI t6 (cy 0) 56 f_3, zI t8 (cy 0) 112 f_4, zI t11 (cy 0) 4 f_5, zI t13 (cy 0) 40 tkf, zO oA 6 [vI owi, vI oro, vR o2, vR o3, vI odr, vI odt, vR o6, vI ope, vR o8, vI ogu, vI osh, vR o11, vI owo, vR o13, vI odn, vI omi, vI ofl, vI otk, vI ogo], zI o2 (cy 0) 96 ohf, zI o3 (cy 0) 96 owf, zI o6 (cy 0) 56 odf, zI o8 (cy 0) 112 opf, zI o11 (cy 0) 4 osf, zI o13 (cy 0) 40 okf]) (cpe_ (by decide)) hP hD
  refine lv_aload_n hx hb dX6_become_146 rfl (lv_at hlv 0 rfl) ?_
  refine lv_aload_n hx hb dX6_become_147 rfl (lv_at hlv 1 rfl) ?_
  refine va_get (D := D) (ci := 6) (v := vI owo) (C := RX6) (T := TX6) (N := 19) hx hb hts hi6 hown hG.1 hP 7 rfl rfl 12 (by decide) lf56 (fun _ h9 => h9) rfl dX6_become_148 ?_
  refine va_put (D := D) (ci := 6) (v := vI owo) (ty := .int) (C := RX6) (T := TX6) (N := 19) hx hb hts hi6 tyX6 tyX6_ok nmX6 hown hG.1 hP hD hS 0 rfl rfl 12 (by decide) lf56 (fun _ h9 => h9) rfl (by decide +kernel) rfl rfl (Nat.le_of_ble_eq_true rfl) dX6_become_151 (fun H locs hP hD hS => ?_)
  obtain ⟨hP, hD⟩ := pw9 [zO tA 6 [vI owi, vI oro, vR t2, vR t3, vI odr, vI odt, vR t6, vI ope, vR t8, vI ogu, vI osh, vR t11, vI owo, vR t13, vI tdn, vI tmi, vI tfl, vI ttk, vI tgo], zI t2 (cy 0) 96 f_1, zI t3 (cy 0) 96 f_2, zI t6 (cy 0) 56 f_3, zI t8 (cy 0) 112 f_4, zI t11 (cy 0) 4 f_5, zI t13 (cy 0) 40 tkf, zO oA 6 [vI owi, vI oro, vR o2, vR o3, vI odr, vI odt, vR o6, vI ope, vR o8, vI ogu, vI osh, vR o11, vI owo, vR o13, vI odn, vI omi, vI ofl, vI otk, vI ogo], zI o2 (cy 0) 96 ohf, zI o3 (cy 0) 96 owf, zI o6 (cy 0) 56 odf, zI o8 (cy 0) 112 opf, zI o11 (cy 0) 4 osf, zI o13 (cy 0) 40 okf] hP hD
  refine lv_aload_n hx hb dX6_become_154 rfl (lv_at hlv 1 rfl) ?_
  refine va_get (D := D) (ci := 6) (v := vR o13) (C := RX6) (T := TX6) (N := 19) hx hb hts hi6 hown hG.1 hP 7 rfl rfl 13 (by decide) lf25 (fun _ h9 => h9) rfl dX6_become_155 ?_
  refine lv_iconst (v := iI 0) hx hb dX6_become_158 (by decide) ?_
  refine lv_aload_n hx hb dX6_become_159 rfl (lv_at hlv 0 rfl) ?_
  refine va_get (D := D) (ci := 6) (v := vR t13) (C := RX6) (T := TX6) (N := 19) hx hb hts hi6 hown hG.1 hP 0 rfl rfl 13 (by decide) lf25 (fun _ h9 => h9) rfl dX6_become_160 ?_
  refine lv_iconst (v := iI 0) hx hb dX6_become_163 (by decide) ?_
  refine lv_aload_n hx hb dX6_become_164 rfl (lv_at hlv 0 rfl) ?_
  refine va_get (D := D) (ci := 6) (v := vR t13) (C := RX6) (T := TX6) (N := 19) hx hb hts hi6 hown hG.1 hP 0 rfl rfl 13 (by decide) lf25 (fun _ h9 => h9) rfl dX6_become_165 ?_
  refine va_alen (v := iI 40) hx hb hG.1 hP 6 0 rfl rfl (iI_nI _) dX6_become_168 ?_
  refine va_copyi (ty := .int) hx hb (hml.trans hlv.1.symm) hown ay1_74 ay2 ay3 ay4 hG.1 hP hD hS 13 6 0 0 rfl rfl rfl rfl rfl (fun q => absurd ((iI_lt (a := 0) (b := 0) (by omega) (by omega)).mp q) (by omega)) (fun q => absurd ((iI_lt (a := 0) (b := 0) (by omega) (by omega)).mp q) (by omega)) (fun q => absurd ((iI_lt (a := 40) (b := 0) (by omega) (by omega)).mp q) (by omega)) (by have h1 := iI_cl (e := 0) (by omega) (by omega); have h2 := iI_cl (e := 40) (by omega) (by omega); omega) (by have h1 := iI_cl (e := 0) (by omega) (by omega); have h2 := iI_cl (e := 40) (by omega) (by omega); omega) (fun i h => rfl) (Nat.le_of_ble_eq_true rfl) (Nat.le_of_ble_eq_true rfl) dX6_become_169 (fun H locs hP hD hS => ?_)
  obtain ⟨f_6, ⟨hcp_f_6, hf_6⟩, hP, hD⟩ := pe9i (fun f_6 => (∀ j : Nat, j < 40 → f_6 j = okf j) ∧ tw_ f_6) (fun f_6 => [zO tA 6 [vI owi, vI oro, vR t2, vR t3, vI odr, vI odt, vR t6, vI ope, vR t8, vI ogu, vI osh, vR t11, vI owo, vR t13, vI tdn, vI tmi, vI tfl, vI ttk, vI tgo], zI t2 (cy 0) 96 f_1, zI t3 (cy 0) 96 f_2, zI t6 (cy 0) 56 f_3, zI t8 (cy 0) 112 f_4, zI t11 (cy 0) 4 f_5, zI t13 (cy 0) 40 f_6, zO oA 6 [vI owi, vI oro, vR o2, vR o3, vI odr, vI odt, vR o6, vI ope, vR o8, vI ogu, vI osh, vR o11, vI owo, vR o13, vI odn, vI omi, vI ofl, vI otk, vI ogo], zI o2 (cy 0) 96 ohf, zI o3 (cy 0) 96 owf, zI o6 (cy 0) 56 odf, zI o8 (cy 0) 112 opf, zI o11 (cy 0) 4 osf, zI o13 (cy 0) 40 okf]) ⟨cpe_ (by decide), (tw_cpy hokf (by decide) (by decide) (by decide))⟩ hP hD
  refine lv_aload_n hx hb dX6_become_172 rfl (lv_at hlv 0 rfl) ?_
  refine lv_aload_n hx hb dX6_become_173 rfl (lv_at hlv 1 rfl) ?_
  refine va_get (D := D) (ci := 6) (v := vI odn) (C := RX6) (T := TX6) (N := 19) hx hb hts hi6 hown hG.1 hP 7 rfl rfl 14 (by decide) lf59 (fun _ h9 => h9) rfl dX6_become_174 ?_
  refine va_put (D := D) (ci := 6) (v := vI odn) (ty := .int) (C := RX6) (T := TX6) (N := 19) hx hb hts hi6 tyX6 tyX6_ok nmX6 hown hG.1 hP hD hS 0 rfl rfl 14 (by decide) lf59 (fun _ h9 => h9) rfl (by decide +kernel) rfl rfl (Nat.le_of_ble_eq_true rfl) dX6_become_177 (fun H locs hP hD hS => ?_)
  obtain ⟨hP, hD⟩ := pw9 [zO tA 6 [vI owi, vI oro, vR t2, vR t3, vI odr, vI odt, vR t6, vI ope, vR t8, vI ogu, vI osh, vR t11, vI owo, vR t13, vI odn, vI tmi, vI tfl, vI ttk, vI tgo], zI t2 (cy 0) 96 f_1, zI t3 (cy 0) 96 f_2, zI t6 (cy 0) 56 f_3, zI t8 (cy 0) 112 f_4, zI t11 (cy 0) 4 f_5, zI t13 (cy 0) 40 f_6, zO oA 6 [vI owi, vI oro, vR o2, vR o3, vI odr, vI odt, vR o6, vI ope, vR o8, vI ogu, vI osh, vR o11, vI owo, vR o13, vI odn, vI omi, vI ofl, vI otk, vI ogo], zI o2 (cy 0) 96 ohf, zI o3 (cy 0) 96 owf, zI o6 (cy 0) 56 odf, zI o8 (cy 0) 112 opf, zI o11 (cy 0) 4 osf, zI o13 (cy 0) 40 okf] hP hD
  refine lv_aload_n hx hb dX6_become_180 rfl (lv_at hlv 0 rfl) ?_
  refine lv_aload_n hx hb dX6_become_181 rfl (lv_at hlv 1 rfl) ?_
  refine va_get (D := D) (ci := 6) (v := vI omi) (C := RX6) (T := TX6) (N := 19) hx hb hts hi6 hown hG.1 hP 7 rfl rfl 15 (by decide) lf62 (fun _ h9 => h9) rfl dX6_become_182 ?_
  refine va_put (D := D) (ci := 6) (v := vI omi) (ty := .int) (C := RX6) (T := TX6) (N := 19) hx hb hts hi6 tyX6 tyX6_ok nmX6 hown hG.1 hP hD hS 0 rfl rfl 15 (by decide) lf62 (fun _ h9 => h9) rfl (by decide +kernel) rfl rfl (Nat.le_of_ble_eq_true rfl) dX6_become_185 (fun H locs hP hD hS => ?_)
  obtain ⟨hP, hD⟩ := pw9 [zO tA 6 [vI owi, vI oro, vR t2, vR t3, vI odr, vI odt, vR t6, vI ope, vR t8, vI ogu, vI osh, vR t11, vI owo, vR t13, vI odn, vI omi, vI tfl, vI ttk, vI tgo], zI t2 (cy 0) 96 f_1, zI t3 (cy 0) 96 f_2, zI t6 (cy 0) 56 f_3, zI t8 (cy 0) 112 f_4, zI t11 (cy 0) 4 f_5, zI t13 (cy 0) 40 f_6, zO oA 6 [vI owi, vI oro, vR o2, vR o3, vI odr, vI odt, vR o6, vI ope, vR o8, vI ogu, vI osh, vR o11, vI owo, vR o13, vI odn, vI omi, vI ofl, vI otk, vI ogo], zI o2 (cy 0) 96 ohf, zI o3 (cy 0) 96 owf, zI o6 (cy 0) 56 odf, zI o8 (cy 0) 112 opf, zI o11 (cy 0) 4 osf, zI o13 (cy 0) 40 okf] hP hD
  refine lv_aload_n hx hb dX6_become_188 rfl (lv_at hlv 0 rfl) ?_
  refine lv_aload_n hx hb dX6_become_189 rfl (lv_at hlv 1 rfl) ?_
  refine va_get (D := D) (ci := 6) (v := vI ofl) (C := RX6) (T := TX6) (N := 19) hx hb hts hi6 hown hG.1 hP 7 rfl rfl 16 (by decide) lf65 (fun _ h9 => h9) rfl dX6_become_190 ?_
  refine va_put (D := D) (ci := 6) (v := vI ofl) (ty := .int) (C := RX6) (T := TX6) (N := 19) hx hb hts hi6 tyX6 tyX6_ok nmX6 hown hG.1 hP hD hS 0 rfl rfl 16 (by decide) lf65 (fun _ h9 => h9) rfl (by decide +kernel) rfl rfl (Nat.le_of_ble_eq_true rfl) dX6_become_193 (fun H locs hP hD hS => ?_)
  obtain ⟨hP, hD⟩ := pw9 [zO tA 6 [vI owi, vI oro, vR t2, vR t3, vI odr, vI odt, vR t6, vI ope, vR t8, vI ogu, vI osh, vR t11, vI owo, vR t13, vI odn, vI omi, vI ofl, vI ttk, vI tgo], zI t2 (cy 0) 96 f_1, zI t3 (cy 0) 96 f_2, zI t6 (cy 0) 56 f_3, zI t8 (cy 0) 112 f_4, zI t11 (cy 0) 4 f_5, zI t13 (cy 0) 40 f_6, zO oA 6 [vI owi, vI oro, vR o2, vR o3, vI odr, vI odt, vR o6, vI ope, vR o8, vI ogu, vI osh, vR o11, vI owo, vR o13, vI odn, vI omi, vI ofl, vI otk, vI ogo], zI o2 (cy 0) 96 ohf, zI o3 (cy 0) 96 owf, zI o6 (cy 0) 56 odf, zI o8 (cy 0) 112 opf, zI o11 (cy 0) 4 osf, zI o13 (cy 0) 40 okf] hP hD
  refine lv_aload_n hx hb dX6_become_196 rfl (lv_at hlv 0 rfl) ?_
  refine lv_aload_n hx hb dX6_become_197 rfl (lv_at hlv 1 rfl) ?_
  refine va_get (D := D) (ci := 6) (v := vI otk) (C := RX6) (T := TX6) (N := 19) hx hb hts hi6 hown hG.1 hP 7 rfl rfl 17 (by decide) lf68 (fun _ h9 => h9) rfl dX6_become_198 ?_
  refine va_put (D := D) (ci := 6) (v := vI otk) (ty := .int) (C := RX6) (T := TX6) (N := 19) hx hb hts hi6 tyX6 tyX6_ok nmX6 hown hG.1 hP hD hS 0 rfl rfl 17 (by decide) lf68 (fun _ h9 => h9) rfl (by decide +kernel) rfl rfl (Nat.le_of_ble_eq_true rfl) dX6_become_201 (fun H locs hP hD hS => ?_)
  obtain ⟨hP, hD⟩ := pw9 [zO tA 6 [vI owi, vI oro, vR t2, vR t3, vI odr, vI odt, vR t6, vI ope, vR t8, vI ogu, vI osh, vR t11, vI owo, vR t13, vI odn, vI omi, vI ofl, vI otk, vI tgo], zI t2 (cy 0) 96 f_1, zI t3 (cy 0) 96 f_2, zI t6 (cy 0) 56 f_3, zI t8 (cy 0) 112 f_4, zI t11 (cy 0) 4 f_5, zI t13 (cy 0) 40 f_6, zO oA 6 [vI owi, vI oro, vR o2, vR o3, vI odr, vI odt, vR o6, vI ope, vR o8, vI ogu, vI osh, vR o11, vI owo, vR o13, vI odn, vI omi, vI ofl, vI otk, vI ogo], zI o2 (cy 0) 96 ohf, zI o3 (cy 0) 96 owf, zI o6 (cy 0) 56 odf, zI o8 (cy 0) 112 opf, zI o11 (cy 0) 4 osf, zI o13 (cy 0) 40 okf] hP hD
  refine lv_aload_n hx hb dX6_become_204 rfl (lv_at hlv 0 rfl) ?_
  refine lv_aload_n hx hb dX6_become_205 rfl (lv_at hlv 1 rfl) ?_
  refine va_get (D := D) (ci := 6) (v := vI ogo) (C := RX6) (T := TX6) (N := 19) hx hb hts hi6 hown hG.1 hP 7 rfl rfl 18 (by decide) lf71 (fun _ h9 => h9) rfl dX6_become_206 ?_
  refine va_put (D := D) (ci := 6) (v := vI ogo) (ty := .int) (C := RX6) (T := TX6) (N := 19) hx hb hts hi6 tyX6 tyX6_ok nmX6 hown hG.1 hP hD hS 0 rfl rfl 18 (by decide) lf71 (fun _ h9 => h9) rfl (by decide +kernel) rfl rfl (Nat.le_of_ble_eq_true rfl) dX6_become_209 (fun H locs hP hD hS => ?_)
  obtain ⟨hP, hD⟩ := pw9 [zO tA 6 [vI owi, vI oro, vR t2, vR t3, vI odr, vI odt, vR t6, vI ope, vR t8, vI ogu, vI osh, vR t11, vI owo, vR t13, vI odn, vI omi, vI ofl, vI otk, vI ogo], zI t2 (cy 0) 96 f_1, zI t3 (cy 0) 96 f_2, zI t6 (cy 0) 56 f_3, zI t8 (cy 0) 112 f_4, zI t11 (cy 0) 4 f_5, zI t13 (cy 0) 40 f_6, zO oA 6 [vI owi, vI oro, vR o2, vR o3, vI odr, vI odt, vR o6, vI ope, vR o8, vI ogu, vI osh, vR o11, vI owo, vR o13, vI odn, vI omi, vI ofl, vI otk, vI ogo], zI o2 (cy 0) 96 ohf, zI o3 (cy 0) 96 owf, zI o6 (cy 0) 56 odf, zI o8 (cy 0) 112 opf, zI o11 (cy 0) 4 osf, zI o13 (cy 0) 40 okf] hP hD
  refine W.widen (k := 0) (n := 0) (Nat.le_of_ble_eq_true rfl) (Nat.le_of_ble_eq_true rfl) ?_
  exact W.vret hx hb hr (fun t ht hW => ⟨⟨((fun k => ([] : List Nat).getD k 0), (fun k => ([] : List Int).getD k 0), (fun k => ([f_1, f_2, f_3, f_4, f_5, f_6] : List (Nat → Int32)).getD k (fun _ => 0))), rfl, ⟨(by show (∀ j : Nat, j < 96 → (f_1) j = ohf j); exact hcp_f_1), (by show (∀ j : Nat, j < 96 → (f_2) j = owf j); exact hcp_f_2), (by show (∀ j : Nat, j < 56 → (f_3) j = odf j); exact hcp_f_3), (by show (∀ j : Nat, j < 112 → (f_4) j = opf j); exact hcp_f_4), (by show (∀ j : Nat, j < 4 → (f_5) j = osf j); exact hcp_f_5), (by show (∀ j : Nat, j < 40 → (f_6) j = okf j); exact hcp_f_6), hf_1, hf_3, hf_4, hf_6, hohf, hodf, hopf, hokf⟩, at9 ht hP hD [0, 1, 2, 3, 4, 5, 6, 7, 8, 9, 10, 11, 12, 13] (by decide +kernel) rfl⟩, hS.F ht⟩) hS.2.2 dX6_become_212
def vs_e_pbecome : List Cond := .code yX4_become cX4_become 2 none :: (([.fieldLink RX4 21 "KerbSplash$Plan" "cars" "I", .fieldLink RX4 11 "KerbSplash$Plan" "traffic" "[I", .methodLink RX4 34 arraycopyName, .native arraycopyName, .static arraycopyName, .initialized "java/lang/System", .fieldLink RX4 25 "KerbSplash$Plan" "dips" "I", .fieldLink RX4 15 "KerbSplash$Plan" "dip" "[I", .fieldLink RX4 18 "KerbSplash$Plan" "shares" "[I"] : List Cond) ++ ((wsX40) ++ ([])))
theorem gd_e_pbecome : vs_e_pbecome.all goodWord = true := gd_C (by decide +kernel) (gd_A (by decide +kernel) (gd_A (by decide +kernel) rfl))
set_option maxHeartbeats 4000000 in
set_option maxRecDepth 100000 in
theorem e_pbecome (l : Launch) (hl : l.stackTraces = false) (D : va_G) (cy : Nat → ClassId) (sa : Nat → Nat) (pa pt pd ps : Nat) (cars dips : Int) (tf df shf : Nat → Int32) (qa qt qd qs : Nat) (qcars qdips : Int) (qtf qdf qshf : Nat → Int32) (sz : Nat) (hr_cars : 0 ≤ cars ∧ cars ≤ 20) (hr_dips : 0 ≤ dips ∧ dips ≤ 9) (hr_qcars : 0 ≤ qcars ∧ qcars ≤ 20) (hr_qdips : 0 ≤ qdips ∧ qdips ≤ 9) (htf : tab_ 5 20 [0, 0, (-2147483648), (-2147483648), (-2147483648)] [99, 5, 2147483647, 2147483647, 2147483647] tf) (hqhtf : tab_ 5 20 [0, 0, (-2147483648), (-2147483648), (-2147483648)] [99, 5, 2147483647, 2147483647, 2147483647] qtf) : mV9 l yX4_become vs_e_pbecome ({ frames := 1, cells := 0, slots := 0, locals := 60 }) D cy sa sz [vR pa, vR qa] [zO pa 4 [vI cars, vR pt, vI dips, vR pd, vR ps], zI pt (cy 0) 100 tf, zI pd (cy 0) 27 df, zI ps (cy 0) 4 shf, zO qa 4 [vI qcars, vR qt, vI qdips, vR qd, vR qs], zI qt (cy 0) 100 qtf, zI qd (cy 0) 27 qdf, zI qs (cy 0) 4 qshf] (fun u : SV => (∀ j : Nat, j < 100 → (u.2.2 0) j = qtf j) ∧ (∀ j : Nat, j < 27 → (u.2.2 1) j = qdf j) ∧ (∀ j : Nat, j < 4 → (u.2.2 2) j = qshf j) ∧ tab_ 5 20 [0, 0, (-2147483648), (-2147483648), (-2147483648)] [99, 5, 2147483647, 2147483647, 2147483647] (u.2.2 0) ∧ tab_ 5 20 [0, 0, (-2147483648), (-2147483648), (-2147483648)] [99, 5, 2147483647, 2147483647, 2147483647] qtf) (fun u : SV => [zO pa 4 [vI qcars, vR pt, vI qdips, vR pd, vR ps], zI pt (cy 0) 100 (u.2.2 0), zI pd (cy 0) 27 (u.2.2 1), zI ps (cy 0) 4 (u.2.2 2), zO qa 4 [vI qcars, vR qt, vI qdips, vR qd, vR qs], zI qt (cy 0) 100 qtf, zI qd (cy 0) 27 qdf, zI qs (cy 0) 4 qshf]) 0 0 := by
  refine Met.ofW (cc := cX4_become) (maxL := 2) (ret := none) (by decide) rfl ?_
  intro p e s m args below meth c s₁ B hml hv
  obtain ⟨rfl, hsz, hP, hG, hD0, hT⟩ := hv
  have hx := B.exec
  have hb := B.bytes
  have hr := B.returns
  have hts := atoms_spec (ws := vs_e_pbecome) B.pre
  have hown : s.vm.findClass RX4 = some m.cls := findClass_of_methodNamed B.named
  have hlocks := B.notSynchronized
  subst hsz
  have hD := hD0.self (sz := s.heap.size)
  generalize hAe : va_A [zO pa 4 [vI cars, vR pt, vI dips, vR pd, vR ps], zI pt (cy 0) 100 tf, zI pd (cy 0) 27 df, zI ps (cy 0) 4 shf, zO qa 4 [vI qcars, vR qt, vI qdips, vR qd, vR qs], zI qt (cy 0) 100 qtf, zI qd (cy 0) 27 qdf, zI qs (cy 0) 4 qshf] s.heap.size = A at hD hT ⊢
  have hA : ∀ q : Nat, s.heap.size ≤ q → A q := fun q h => by rw [← hAe]; exact Or.inr h
  have hS : va_S A s.heap s.heap [] := va_S.rf
  have hl0 := lv_entry ([vR pa, vR qa]) (n := 2) (Nat.le_of_ble_eq_true rfl)
  rw [lg_entry_eq]
  generalize (lg_sl ([vR pa, vR qa]) ++ List.replicate (2 - (lg_sl ([vR pa, vR qa])).length) Slot.unset).toArray = ls at hl0 ⊢
  have hlv : lv_has ls 2 [(0, vR pa), (1, vR qa)] := hl0
  have lf21 := hts (.fieldLink RX4 21 "KerbSplash$Plan" "cars" "I") (List.mem_of_getElem? (i := 1) rfl)
  have hi4 : ∀ w ∈ wsX40, w ∈ vs_e_pbecome := fun w h => List.mem_cons_of_mem _ (List.mem_append_right _ (List.mem_append_left _ h))
  have lf11 := hts (.fieldLink RX4 11 "KerbSplash$Plan" "traffic" "[I") (List.mem_of_getElem? (i := 2) rfl)
  have ay1_34 := hts (.methodLink RX4 34 arraycopyName) (List.mem_of_getElem? (i := 3) rfl)
  have ay2 := hts (.native arraycopyName) (List.mem_of_getElem? (i := 4) rfl)
  have ay3 := hts (.static arraycopyName) (List.mem_of_getElem? (i := 5) rfl)
  have ay4 := hts (.initialized "java/lang/System") (List.mem_of_getElem? (i := 6) rfl)
  have lf25 := hts (.fieldLink RX4 25 "KerbSplash$Plan" "dips" "I") (List.mem_of_getElem? (i := 7) rfl)
  have lf15 := hts (.fieldLink RX4 15 "KerbSplash$Plan" "dip" "[I") (List.mem_of_getElem? (i := 8) rfl)
  have lf18 := hts (.fieldLink RX4 18 "KerbSplash$Plan" "shares" "[I") (List.mem_of_getElem? (i := 9) rfl)
  refine lv_aload_n hx hb dX4_become_0 rfl (lv_at hlv 0 rfl) ?_
  refine lv_aload_n hx hb dX4_become_1 rfl (lv_at hlv 1 rfl) ?_
  refine va_get (D := D) (ci := 4) (v := vI qcars) (C := RX4) (T := TX4) (N := 5) hx hb hts hi4 hown hG.1 hP 4 rfl rfl 0 (by decide) lf21 (fun _ h9 => h9) rfl dX4_become_2 ?_
  refine va_put (D := D) (ci := 4) (v := vI qcars) (ty := .int) (C := RX4) (T := TX4) (N := 5) hx hb hts hi4 tyX4 tyX4_ok nmX4 hown hG.1 hP hD hS 0 rfl rfl 0 (by decide) lf21 (fun _ h9 => h9) rfl (by decide +kernel) rfl rfl (Nat.le_of_ble_eq_true rfl) dX4_become_5 (fun H locs hP hD hS => ?_)
  obtain ⟨hP, hD⟩ := pw9 [zO pa 4 [vI qcars, vR pt, vI dips, vR pd, vR ps], zI pt (cy 0) 100 tf, zI pd (cy 0) 27 df, zI ps (cy 0) 4 shf, zO qa 4 [vI qcars, vR qt, vI qdips, vR qd, vR qs], zI qt (cy 0) 100 qtf, zI qd (cy 0) 27 qdf, zI qs (cy 0) 4 qshf] hP hD
  refine lv_aload_n hx hb dX4_become_8 rfl (lv_at hlv 1 rfl) ?_
  refine va_get (D := D) (ci := 4) (v := vR qt) (C := RX4) (T := TX4) (N := 5) hx hb hts hi4 hown hG.1 hP 4 rfl rfl 1 (by decide) lf11 (fun _ h9 => h9) rfl dX4_become_9 ?_
  refine lv_iconst (v := iI 0) hx hb dX4_become_12 (by decide) ?_
  refine lv_aload_n hx hb dX4_become_13 rfl (lv_at hlv 0 rfl) ?_
  refine va_get (D := D) (ci := 4) (v := vR pt) (C := RX4) (T := TX4) (N := 5) hx hb hts hi4 hown hG.1 hP 0 rfl rfl 1 (by decide) lf11 (fun _ h9 => h9) rfl dX4_become_14 ?_
  refine lv_iconst (v := iI 0) hx hb dX4_become_17 (by decide) ?_
  refine lv_aload_n hx hb dX4_become_18 rfl (lv_at hlv 0 rfl) ?_
  refine va_get (D := D) (ci := 4) (v := vR pt) (C := RX4) (T := TX4) (N := 5) hx hb hts hi4 hown hG.1 hP 0 rfl rfl 1 (by decide) lf11 (fun _ h9 => h9) rfl dX4_become_19 ?_
  refine va_alen (v := iI 100) hx hb hG.1 hP 1 0 rfl rfl (iI_nI _) dX4_become_22 ?_
  refine va_copyi (ty := .int) hx hb (hml.trans hlv.1.symm) hown ay1_34 ay2 ay3 ay4 hG.1 hP hD hS 5 1 0 0 rfl rfl rfl rfl rfl (fun q => absurd ((iI_lt (a := 0) (b := 0) (by omega) (by omega)).mp q) (by omega)) (fun q => absurd ((iI_lt (a := 0) (b := 0) (by omega) (by omega)).mp q) (by omega)) (fun q => absurd ((iI_lt (a := 100) (b := 0) (by omega) (by omega)).mp q) (by omega)) (by have h1 := iI_cl (e := 0) (by omega) (by omega); have h2 := iI_cl (e := 100) (by omega) (by omega); omega) (by have h1 := iI_cl (e := 0) (by omega) (by omega); have h2 := iI_cl (e := 100) (by omega) (by omega); omega) (fun i h => rfl) (Nat.le_of_ble_eq_true rfl) (Nat.le_of_ble_eq_true rfl) dX4_become_23 (fun H locs hP hD hS => ?_)
  obtain ⟨f_1, ⟨hcp_f_1, hf_1⟩, hP, hD⟩ := pe9i (fun f_1 => (∀ j : Nat, j < 100 → f_1 j = qtf j) ∧ tab_ 5 20 [0, 0, (-2147483648), (-2147483648), (-2147483648)] [99, 5, 2147483647, 2147483647, 2147483647] f_1) (fun f_1 => [zO pa 4 [vI qcars, vR pt, vI dips, vR pd, vR ps], zI pt (cy 0) 100 f_1, zI pd (cy 0) 27 df, zI ps (cy 0) 4 shf, zO qa 4 [vI qcars, vR qt, vI qdips, vR qd, vR qs], zI qt (cy 0) 100 qtf, zI qd (cy 0) 27 qdf, zI qs (cy 0) 4 qshf]) ⟨cpe_ (by decide), (tab_cpy hqhtf (by decide) (by decide) (by decide))⟩ hP hD
  refine lv_aload_n hx hb dX4_become_26 rfl (lv_at hlv 0 rfl) ?_
  refine lv_aload_n hx hb dX4_become_27 rfl (lv_at hlv 1 rfl) ?_
  refine va_get (D := D) (ci := 4) (v := vI qdips) (C := RX4) (T := TX4) (N := 5) hx hb hts hi4 hown hG.1 hP 4 rfl rfl 2 (by decide) lf25 (fun _ h9 => h9) rfl dX4_become_28 ?_
  refine va_put (D := D) (ci := 4) (v := vI qdips) (ty := .int) (C := RX4) (T := TX4) (N := 5) hx hb hts hi4 tyX4 tyX4_ok nmX4 hown hG.1 hP hD hS 0 rfl rfl 2 (by decide) lf25 (fun _ h9 => h9) rfl (by decide +kernel) rfl rfl (Nat.le_of_ble_eq_true rfl) dX4_become_31 (fun H locs hP hD hS => ?_)
  obtain ⟨hP, hD⟩ := pw9 [zO pa 4 [vI qcars, vR pt, vI qdips, vR pd, vR ps], zI pt (cy 0) 100 f_1, zI pd (cy 0) 27 df, zI ps (cy 0) 4 shf, zO qa 4 [vI qcars, vR qt, vI qdips, vR qd, vR qs], zI qt (cy 0) 100 qtf, zI qd (cy 0) 27 qdf, zI qs (cy 0) 4 qshf] hP hD
  refine lv_aload_n hx hb dX4_become_34 rfl (lv_at hlv 1 rfl) ?_
  refine va_get (D := D) (ci := 4) (v := vR qd) (C := RX4) (T := TX4) (N := 5) hx hb hts hi4 hown hG.1 hP 4 rfl rfl 3 (by decide) lf15 (fun _ h9 => h9) rfl dX4_become_35 ?_
  refine lv_iconst (v := iI 0) hx hb dX4_become_38 (by decide) ?_
  refine lv_aload_n hx hb dX4_become_39 rfl (lv_at hlv 0 rfl) ?_
  refine va_get (D := D) (ci := 4) (v := vR pd) (C := RX4) (T := TX4) (N := 5) hx hb hts hi4 hown hG.1 hP 0 rfl rfl 3 (by decide) lf15 (fun _ h9 => h9) rfl dX4_become_40 ?_
  refine lv_iconst (v := iI 0) hx hb dX4_become_43 (by decide) ?_
  refine lv_aload_n hx hb dX4_become_44 rfl (lv_at hlv 0 rfl) ?_
  refine va_get (D := D) (ci := 4) (v := vR pd) (C := RX4) (T := TX4) (N := 5) hx hb hts hi4 hown hG.1 hP 0 rfl rfl 3 (by decide) lf15 (fun _ h9 => h9) rfl dX4_become_45 ?_
  refine va_alen (v := iI 27) hx hb hG.1 hP 2 0 rfl rfl (iI_nI _) dX4_become_48 ?_
  refine va_copyi (ty := .int) hx hb (hml.trans hlv.1.symm) hown ay1_34 ay2 ay3 ay4 hG.1 hP hD hS 6 2 0 0 rfl rfl rfl rfl rfl (fun q => absurd ((iI_lt (a := 0) (b := 0) (by omega) (by omega)).mp q) (by omega)) (fun q => absurd ((iI_lt (a := 0) (b := 0) (by omega) (by omega)).mp q) (by omega)) (fun q => absurd ((iI_lt (a := 27) (b := 0) (by omega) (by omega)).mp q) (by omega)) (by have h1 := iI_cl (e := 0) (by omega) (by omega); have h2 := iI_cl (e := 27) (by omega) (by omega); omega) (by have h1 := iI_cl (e := 0) (by omega) (by omega); have h2 := iI_cl (e := 27) (by omega) (by omega); omega) (fun i h => rfl) (Nat.le_of_ble_eq_true rfl) (Nat.le_of_ble_eq_true rfl) dX4_become_49 (fun H locs hP hD hS => ?_)
  obtain ⟨f_2, hcp_f_2, hP, hD⟩ := pe9i (fun f_2 => ∀ j : Nat, j < 27 → f_2 j = qdf j) (fun f_2 => [zO pa 4 [vI qcars, vR pt, vI qdips, vR pd, vR ps], zI pt (cy 0) 100 f_1, zI pd (cy 0) 27 f_2, zI ps (cy 0) 4 shf, zO qa 4 [vI qcars, vR qt, vI qdips, vR qd, vR qs], zI qt (cy 0) 100 qtf, zI qd (cy 0) 27 qdf, zI qs (cy 0) 4 qshf]) (cpe_ (by decide)) hP hD
  refine lv_aload_n hx hb dX4_become_52 rfl (lv_at hlv 1 rfl) ?_
  refine va_get (D := D) (ci := 4) (v := vR qs) (C := RX4) (T := TX4) (N := 5) hx hb hts hi4 hown hG.1 hP 4 rfl rfl 4 (by decide) lf18 (fun _ h9 => h9) rfl dX4_become_53 ?_
  refine lv_iconst (v := iI 0) hx hb dX4_become_56 (by decide) ?_
  refine lv_aload_n hx hb dX4_become_57 rfl (lv_at hlv 0 rfl) ?_
  refine va_get (D := D) (ci := 4) (v := vR ps) (C := RX4) (T := TX4) (N := 5) hx hb hts hi4 hown hG.1 hP 0 rfl rfl 4 (by decide) lf18 (fun _ h9 => h9) rfl dX4_become_58 ?_
  refine lv_iconst (v := iI 0) hx hb dX4_become_61 (by decide) ?_
  refine lv_aload_n hx hb dX4_become_62 rfl (lv_at hlv 0 rfl) ?_
  refine va_get (D := D) (ci := 4) (v := vR ps) (C := RX4) (T := TX4) (N := 5) hx hb hts hi4 hown hG.1 hP 0 rfl rfl 4 (by decide) lf18 (fun _ h9 => h9) rfl dX4_become_63 ?_
  refine va_alen (v := iI 4) hx hb hG.1 hP 3 0 rfl rfl (iI_nI _) dX4_become_66 ?_
  refine va_copyi (ty := .int) hx hb (hml.trans hlv.1.symm) hown ay1_34 ay2 ay3 ay4 hG.1 hP hD hS 7 3 0 0 rfl rfl rfl rfl rfl (fun q => absurd ((iI_lt (a := 0) (b := 0) (by omega) (by omega)).mp q) (by omega)) (fun q => absurd ((iI_lt (a := 0) (b := 0) (by omega) (by omega)).mp q) (by omega)) (fun q => absurd ((iI_lt (a := 4) (b := 0) (by omega) (by omega)).mp q) (by omega)) (by have h1 := iI_cl (e := 0) (by omega) (by omega); have h2 := iI_cl (e := 4) (by omega) (by omega); omega) (by have h1 := iI_cl (e := 0) (by omega) (by omega); have h2 := iI_cl (e := 4) (by omega) (by omega); omega) (fun i h => rfl) (Nat.le_of_ble_eq_true rfl) (Nat.le_of_ble_eq_true rfl) dX4_become_67 (fun H locs hP hD hS => ?_)
  obtain ⟨f_3, hcp_f_3, hP, hD⟩ := pe9i (fun f_3 => ∀ j : Nat, j < 4 → f_3 j = qshf j) (fun f_3 => [zO pa 4 [vI qcars, vR pt, vI qdips, vR pd, vR ps], zI pt (cy 0) 100 f_1, zI pd (cy 0) 27 f_2, zI ps (cy 0) 4 f_3, zO qa 4 [vI qcars, vR qt, vI qdips, vR qd, vR qs], zI qt (cy 0) 100 qtf, zI qd (cy 0) 27 qdf, zI qs (cy 0) 4 qshf]) (cpe_ (by decide)) hP hD
  refine W.widen (k := 0) (n := 0) (Nat.le_of_ble_eq_true rfl) (Nat.le_of_ble_eq_true rfl) ?_
  exact W.vret hx hb hr (fun t ht hW => ⟨⟨((fun k => ([] : List Nat).getD k 0), (fun k => ([] : List Int).getD k 0), (fun k => ([f_1, f_2, f_3] : List (Nat → Int32)).getD k (fun _ => 0))), rfl, ⟨(by show (∀ j : Nat, j < 100 → (f_1) j = qtf j); exact hcp_f_1), (by show (∀ j : Nat, j < 27 → (f_2) j = qdf j); exact hcp_f_2), (by show (∀ j : Nat, j < 4 → (f_3) j = qshf j); exact hcp_f_3), hf_1, hqhtf⟩, at9 ht hP hD [0, 1, 2, 3, 4, 5, 6, 7] (by decide +kernel) rfl⟩, hS.F ht⟩) hS.2.2 dX4_become_70
end
section

def vs_e_addCar : List Cond := .code yX4_addCar cX4_addCar 7 (some .int) :: (([.fieldLink RX4 21 "KerbSplash$Plan" "cars" "I", .fieldLink RX4 11 "KerbSplash$Plan" "traffic" "[I"] : List Cond) ++ ((wsX40) ++ ([])))
theorem gd_e_addCar : vs_e_addCar.all goodWord = true := gd_C (by decide +kernel) (gd_A (by decide +kernel) (gd_A (by decide +kernel) rfl))
set_option maxHeartbeats 4000000 in
set_option maxRecDepth 100000 in
theorem e_addCar (l : Launch) (hl : l.stackTraces = false) (D : va_G) (cy : Nat → ClassId) (sa : Nat → Nat) (pa pt pd ps : Nat) (cars dips : Int) (tf : Nat → Int32) (p0 p1 p2 p3 p4 : Int) (sz : Nat) (hr_cars : 0 ≤ cars ∧ cars ≤ 20) (hr_dips : 0 ≤ dips ∧ dips ≤ 9) (hr_p0 : 0 ≤ p0 ∧ p0 ≤ 99) (hr_p1 : 0 ≤ p1 ∧ p1 ≤ 5) (hr_p2 : (-2147483648) ≤ p2 ∧ p2 ≤ 2147483647) (hr_p3 : (-2147483648) ≤ p3 ∧ p3 ≤ 2147483647) (hr_p4 : (-2147483648) ≤ p4 ∧ p4 ≤ 2147483647) (htf : tab_ 5 20 [0, 0, (-2147483648), (-2147483648), (-2147483648)] [99, 5, 2147483647, 2147483647, 2147483647] tf) : mI9 l yX4_addCar vs_e_addCar ({ frames := 0, cells := 0, slots := 0, locals := 0 }) D cy sa sz [vR pa, vI p0, vI p1, vI p2, vI p3, vI p4] [zO pa 4 [vI cars, vR pt, vI dips, vR pd, vR ps], zI pt (cy 0) 100 tf] (fun (r : Int32) (u : SV) => r = iI (u.2.1 0) ∧ ((-1) ≤ u.2.1 0 ∧ u.2.1 0 ≤ 20) ∧ (0 ≤ u.2.1 1 ∧ u.2.1 1 ≤ 20) ∧ (cars < 20 → u.2.1 1 = cars + 1 ∧ u.2.1 0 = cars + 1) ∧ (cars = 20 → u.2.1 1 = cars ∧ u.2.1 0 = -1) ∧ (cars < 20 → nz (u.2.2 0) = carT (nz tf) cars p0 p1 p2 p3 p4) ∧ (cars = 20 → (u.2.2 0) = tf) ∧ tab_ 5 20 [0, 0, (-2147483648), (-2147483648), (-2147483648)] [99, 5, 2147483647, 2147483647, 2147483647] (u.2.2 0)) (fun u : SV => [zO pa 4 [vI (u.2.1 1), vR pt, vI dips, vR pd, vR ps], zI pt (cy 0) 100 (u.2.2 0)]) 0 0 := by
  refine Met.ofW (cc := cX4_addCar) (maxL := 7) (ret := (some .int)) (by decide) rfl ?_
  intro p e s m args below meth c s₁ B hml hv
  obtain ⟨rfl, hsz, hP, hG, hD0, hT⟩ := hv
  have hx := B.exec
  have hb := B.bytes
  have hr := B.returns
  have hts := atoms_spec (ws := vs_e_addCar) B.pre
  have hown : s.vm.findClass RX4 = some m.cls := findClass_of_methodNamed B.named
  have hlocks := B.notSynchronized
  subst hsz
  have hD := hD0.self (sz := s.heap.size)
  generalize hAe : va_A [zO pa 4 [vI cars, vR pt, vI dips, vR pd, vR ps], zI pt (cy 0) 100 tf] s.heap.size = A at hD hT ⊢
  have hA : ∀ q : Nat, s.heap.size ≤ q → A q := fun q h => by rw [← hAe]; exact Or.inr h
  have hS : va_S A s.heap s.heap [] := va_S.rf
  have hl0 := lv_entry ([vR pa, vI p0, vI p1, vI p2, vI p3, vI p4]) (n := 7) (Nat.le_of_ble_eq_true rfl)
  rw [lg_entry_eq]
  generalize (lg_sl ([vR pa, vI p0, vI p1, vI p2, vI p3, vI p4]) ++ List.replicate (7 - (lg_sl ([vR pa, vI p0, vI p1, vI p2, vI p3, vI p4])).length) Slot.unset).toArray = ls at hl0 ⊢
  have hlv : lv_has ls 7 [(0, vR pa), (1, vI p0), (2, vI p1), (3, vI p2), (4, vI p3), (5, vI p4)] := hl0
  have lf21 := hts (.fieldLink RX4 21 "KerbSplash$Plan" "cars" "I") (List.mem_of_getElem? (i := 1) rfl)
  have hi4 : ∀ w ∈ wsX40, w ∈ vs_e_addCar := fun w h => List.mem_cons_of_mem _ (List.mem_append_right _ (List.mem_append_left _ h))
  have lf11 := hts (.fieldLink RX4 11 "KerbSplash$Plan" "traffic" "[I") (List.mem_of_getElem? (i := 2) rfl)
  refine lv_aload_n hx hb dX4_addCar_0 rfl (lv_at hlv 0 rfl) ?_
  refine va_get (D := D) (ci := 4) (v := vI cars) (C := RX4) (T := TX4) (N := 5) hx hb hts hi4 hown hG.1 hP 0 rfl rfl 0 (by decide) lf21 (fun _ h9 => h9) rfl dX4_addCar_1 ?_
  refine lv_bipush (v := iI 20) hx hb dX4_addCar_4 (by decide) ?_
  refine ir_ne (tgt := 11) hx hb dX4_addCar_6 (by decide) (by first | exact rgw hr_cars (by decide) (by decide) | omega) (by show ((-2147483648) : Int) ≤ 20 ∧ (20 : Int) ≤ 2147483647; decide) (fun c_1 => ?_) (fun c_1 => ?_)
  · refine lv_iconst (v := iI 5) hx hb dX4_addCar_11 (by decide) ?_
    refine lv_aload_n hx hb dX4_addCar_12 rfl (lv_at hlv 0 rfl) ?_
    refine va_get (D := D) (ci := 4) (v := vI cars) (C := RX4) (T := TX4) (N := 5) hx hb hts hi4 hown hG.1 hP 0 rfl rfl 0 (by decide) lf21 (fun _ h9 => h9) rfl dX4_addCar_13 ?_
    refine lv_imul hx hb dX4_addCar_16 ?_
    refine lt_e (e0 := 5 * cars) (Int32.ofInt_mul _ _).symm (fun z_2 hz_2 => ?_)
    refine lv_istore (lv' := [(6, vI z_2), (0, vR pa), (1, vI p0), (2, vI p1), (3, vI p2), (4, vI p3), (5, vI p4)]) hx hb dX4_addCar_17 hlv (by decide) rfl (fun ls hlv => ?_)
    refine lv_aload_n hx hb dX4_addCar_19 rfl (lv_at hlv 1 rfl) ?_
    refine va_get (D := D) (ci := 4) (v := vR pt) (C := RX4) (T := TX4) (N := 5) hx hb hts hi4 hown hG.1 hP 0 rfl rfl 1 (by decide) lf11 (fun _ h9 => h9) rfl dX4_addCar_20 ?_
    refine lv_iload hx hb dX4_addCar_23 (lv_at hlv 0 rfl) ?_
    refine lv_iload_n hx hb dX4_addCar_25 rfl (lv_at hlv 2 rfl) ?_
    refine va_iast hx hb hG.1 hP hD hS 1 0 rfl rfl (iI_in (by omega) (by decide)) dX4_addCar_26 (fun H locs hP hD hS => ?_)
    have ⟨f_3, hdf_3, hP, hD⟩ : ∃ f_3 : Nat → Int32, f_3 = upd tf (iI z_2).toNatClampNeg (iI p0) ∧ va_P D vwCl [zO pa 4 [vI cars, vR pt, vI dips, vR pd, vR ps], zI pt (cy 0) 100 f_3] H ∧ va_D A [zO pa 4 [vI cars, vR pt, vI dips, vR pd, vR ps], zI pt (cy 0) 100 f_3] := ⟨_, rfl, hP, hD⟩
    have hif_3 : tab_ 5 20 [0, 0, (-2147483648), (-2147483648), (-2147483648)] [99, 5, 2147483647, 2147483647, 2147483647] f_3 := by rw [hdf_3]; exact tab_wr htf (e := z_2) (k := cars) (c := 0) (a := 0) (b := 99) (by omega) (by omega) (by decide) (by omega) rfl rfl (by omega)
    refine lv_aload_n hx hb dX4_addCar_27 rfl (lv_at hlv 1 rfl) ?_
    refine va_get (D := D) (ci := 4) (v := vR pt) (C := RX4) (T := TX4) (N := 5) hx hb hts hi4 hown hG.1 hP 0 rfl rfl 1 (by decide) lf11 (fun _ h9 => h9) rfl dX4_addCar_28 ?_
    refine lv_iload hx hb dX4_addCar_31 (lv_at hlv 0 rfl) ?_
    refine lv_iconst (v := iI 1) hx hb dX4_addCar_33 (by decide) ?_
    refine lv_iadd hx hb dX4_addCar_34 ?_
    refine lt_e (e0 := z_2 + 1) (Int32.ofInt_add _ _).symm (fun z_4 hz_4 => ?_)
    refine lv_iload_n hx hb dX4_addCar_35 rfl (lv_at hlv 3 rfl) ?_
    refine va_iast hx hb hG.1 hP hD hS 1 0 rfl rfl (iI_in (by omega) (by decide)) dX4_addCar_36 (fun H locs hP hD hS => ?_)
    have ⟨f_5, hdf_5, hP, hD⟩ : ∃ f_5 : Nat → Int32, f_5 = upd f_3 (iI z_4).toNatClampNeg (iI p1) ∧ va_P D vwCl [zO pa 4 [vI cars, vR pt, vI dips, vR pd, vR ps], zI pt (cy 0) 100 f_5] H ∧ va_D A [zO pa 4 [vI cars, vR pt, vI dips, vR pd, vR ps], zI pt (cy 0) 100 f_5] := ⟨_, rfl, hP, hD⟩
    have hif_5 : tab_ 5 20 [0, 0, (-2147483648), (-2147483648), (-2147483648)] [99, 5, 2147483647, 2147483647, 2147483647] f_5 := by rw [hdf_5]; exact tab_wr hif_3 (e := z_4) (k := cars) (c := 1) (a := 0) (b := 5) (by omega) (by omega) (by decide) (by omega) rfl rfl (by omega)
    refine lv_aload_n hx hb dX4_addCar_37 rfl (lv_at hlv 1 rfl) ?_
    refine va_get (D := D) (ci := 4) (v := vR pt) (C := RX4) (T := TX4) (N := 5) hx hb hts hi4 hown hG.1 hP 0 rfl rfl 1 (by decide) lf11 (fun _ h9 => h9) rfl dX4_addCar_38 ?_
    refine lv_iload hx hb dX4_addCar_41 (lv_at hlv 0 rfl) ?_
    refine lv_iconst (v := iI 2) hx hb dX4_addCar_43 (by decide) ?_
    refine lv_iadd hx hb dX4_addCar_44 ?_
    refine lt_e (e0 := z_2 + 2) (Int32.ofInt_add _ _).symm (fun z_6 hz_6 => ?_)
    refine lv_iload_n hx hb dX4_addCar_45 rfl (lv_at hlv 4 rfl) ?_
    refine va_iast hx hb hG.1 hP hD hS 1 0 rfl rfl (iI_in (by omega) (by decide)) dX4_addCar_46 (fun H locs hP hD hS => ?_)
    have ⟨f_7, hdf_7, hP, hD⟩ : ∃ f_7 : Nat → Int32, f_7 = upd f_5 (iI z_6).toNatClampNeg (iI p2) ∧ va_P D vwCl [zO pa 4 [vI cars, vR pt, vI dips, vR pd, vR ps], zI pt (cy 0) 100 f_7] H ∧ va_D A [zO pa 4 [vI cars, vR pt, vI dips, vR pd, vR ps], zI pt (cy 0) 100 f_7] := ⟨_, rfl, hP, hD⟩
    have hif_7 : tab_ 5 20 [0, 0, (-2147483648), (-2147483648), (-2147483648)] [99, 5, 2147483647, 2147483647, 2147483647] f_7 := by rw [hdf_7]; exact tab_wr hif_5 (e := z_6) (k := cars) (c := 2) (a := (-2147483648)) (b := 2147483647) (by omega) (by omega) (by decide) (by omega) rfl rfl (by omega)
    refine lv_aload_n hx hb dX4_addCar_47 rfl (lv_at hlv 1 rfl) ?_
    refine va_get (D := D) (ci := 4) (v := vR pt) (C := RX4) (T := TX4) (N := 5) hx hb hts hi4 hown hG.1 hP 0 rfl rfl 1 (by decide) lf11 (fun _ h9 => h9) rfl dX4_addCar_48 ?_
    refine lv_iload hx hb dX4_addCar_51 (lv_at hlv 0 rfl) ?_
    refine lv_iconst (v := iI 3) hx hb dX4_addCar_53 (by decide) ?_
    refine lv_iadd hx hb dX4_addCar_54 ?_
    refine lt_e (e0 := z_2 + 3) (Int32.ofInt_add _ _).symm (fun z_8 hz_8 => ?_)
    refine lv_iload hx hb dX4_addCar_55 (lv_at hlv 5 rfl) ?_
    refine va_iast hx hb hG.1 hP hD hS 1 0 rfl rfl (iI_in (by omega) (by decide)) dX4_addCar_57 (fun H locs hP hD hS => ?_)
    have ⟨f_9, hdf_9, hP, hD⟩ : ∃ f_9 : Nat → Int32, f_9 = upd f_7 (iI z_8).toNatClampNeg (iI p3) ∧ va_P D vwCl [zO pa 4 [vI cars, vR pt, vI dips, vR pd, vR ps], zI pt (cy 0) 100 f_9] H ∧ va_D A [zO pa 4 [vI cars, vR pt, vI dips, vR pd, vR ps], zI pt (cy 0) 100 f_9] := ⟨_, rfl, hP, hD⟩
    have hif_9 : tab_ 5 20 [0, 0, (-2147483648), (-2147483648), (-2147483648)] [99, 5, 2147483647, 2147483647, 2147483647] f_9 := by rw [hdf_9]; exact tab_wr hif_7 (e := z_8) (k := cars) (c := 3) (a := (-2147483648)) (b := 2147483647) (by omega) (by omega) (by decide) (by omega) rfl rfl (by omega)
    refine lv_aload_n hx hb dX4_addCar_58 rfl (lv_at hlv 1 rfl) ?_
    refine va_get (D := D) (ci := 4) (v := vR pt) (C := RX4) (T := TX4) (N := 5) hx hb hts hi4 hown hG.1 hP 0 rfl rfl 1 (by decide) lf11 (fun _ h9 => h9) rfl dX4_addCar_59 ?_
    refine lv_iload hx hb dX4_addCar_62 (lv_at hlv 0 rfl) ?_
    refine lv_iconst (v := iI 4) hx hb dX4_addCar_64 (by decide) ?_
    refine lv_iadd hx hb dX4_addCar_65 ?_
    refine lt_e (e0 := z_2 + 4) (Int32.ofInt_add _ _).symm (fun z_10 hz_10 => ?_)
    refine lv_iload hx hb dX4_addCar_66 (lv_at hlv 6 rfl) ?_
    refine va_iast hx hb hG.1 hP hD hS 1 0 rfl rfl (iI_in (by omega) (by decide)) dX4_addCar_68 (fun H locs hP hD hS => ?_)
    have ⟨f_11, hdf_11, hP, hD⟩ : ∃ f_11 : Nat → Int32, f_11 = upd f_9 (iI z_10).toNatClampNeg (iI p4) ∧ va_P D vwCl [zO pa 4 [vI cars, vR pt, vI dips, vR pd, vR ps], zI pt (cy 0) 100 f_11] H ∧ va_D A [zO pa 4 [vI cars, vR pt, vI dips, vR pd, vR ps], zI pt (cy 0) 100 f_11] := ⟨_, rfl, hP, hD⟩
    have hif_11 : tab_ 5 20 [0, 0, (-2147483648), (-2147483648), (-2147483648)] [99, 5, 2147483647, 2147483647, 2147483647] f_11 := by rw [hdf_11]; exact tab_wr hif_9 (e := z_10) (k := cars) (c := 4) (a := (-2147483648)) (b := 2147483647) (by omega) (by omega) (by decide) (by omega) rfl rfl (by omega)
    refine lv_aload_n hx hb dX4_addCar_69 rfl (lv_at hlv 1 rfl) ?_
    refine lv_dup hx hb dX4_addCar_70 rfl ?_
    refine va_get (D := D) (ci := 4) (v := vI cars) (C := RX4) (T := TX4) (N := 5) hx hb hts hi4 hown hG.1 hP 0 rfl rfl 0 (by decide) lf21 (fun _ h9 => h9) rfl dX4_addCar_71 ?_
    refine lv_iconst (v := iI 1) hx hb dX4_addCar_74 (by decide) ?_
    refine lv_iadd hx hb dX4_addCar_75 ?_
    refine lt_e (e0 := cars + 1) (Int32.ofInt_add _ _).symm (fun z_12 hz_12 => ?_)
    refine va_put (D := D) (ci := 4) (v := vI z_12) (ty := .int) (C := RX4) (T := TX4) (N := 5) hx hb hts hi4 tyX4 tyX4_ok nmX4 hown hG.1 hP hD hS 0 rfl rfl 0 (by decide) lf21 (fun _ h9 => h9) rfl (by decide +kernel) rfl rfl (Nat.le_of_ble_eq_true rfl) dX4_addCar_76 (fun H locs hP hD hS => ?_)
    obtain ⟨hP, hD⟩ := pw9 [zO pa 4 [vI z_12, vR pt, vI dips, vR pd, vR ps], zI pt (cy 0) 100 f_11] hP hD
    refine lv_aload_n hx hb dX4_addCar_79 rfl (lv_at hlv 1 rfl) ?_
    refine va_get (D := D) (ci := 4) (v := vI z_12) (C := RX4) (T := TX4) (N := 5) hx hb hts hi4 hown hG.1 hP 0 rfl rfl 0 (by decide) lf21 (fun _ h9 => h9) rfl dX4_addCar_80 ?_
    refine W.widen (k := 0) (n := 0) (Nat.le_of_ble_eq_true rfl) (Nat.le_of_ble_eq_true rfl) ?_
    exact W.iret (v := iI z_12) hx hb hr (fun t ht hW => ⟨⟨iI z_12, ((fun k => ([] : List Nat).getD k 0), (fun k => ([z_12, z_12] : List Int).getD k 0), (fun k => ([f_11] : List (Nat → Int32)).getD k (fun _ => 0))), rfl, ⟨rfl, (by show ((-1) ≤ z_12 ∧ z_12 ≤ 20); omega), (by show (0 ≤ z_12 ∧ z_12 ≤ 20); omega), (by show (cars < 20 → z_12 = cars + 1 ∧ z_12 = cars + 1); omega), (by show (cars = 20 → z_12 = cars ∧ z_12 = -1); omega), (by show (cars < 20 → nz (f_11) = carT (nz tf) cars p0 p1 p2 p3 p4); exact (fun _ => (upz_c (upz_c (upz_c (upz_c (upz_c rfl hdf_3 (by omega) (by omega) (by omega) (by omega)) hdf_5 (by omega) (by omega) (by omega) (by omega)) hdf_7 (by omega) (by omega) (by omega) (by omega)) hdf_9 (by omega) (by omega) (by omega) (by omega)) hdf_11 (by omega) (by omega) (by omega) (by omega)))), (by show (cars = 20 → (f_11) = tf); exact (fun h9 => absurd h9 (by omega))), hif_11⟩, at9 ht hP hD [0, 1] (by decide +kernel) rfl⟩, hS.F ht⟩) hS.2.2 dX4_addCar_83
  · refine lv_iconst (v := iI (-1)) hx hb dX4_addCar_9 (by decide) ?_
    refine W.widen (k := 0) (n := 0) (Nat.le_of_ble_eq_true rfl) (Nat.le_of_ble_eq_true rfl) ?_
    exact W.iret (v := iI (-1)) hx hb hr (fun t ht hW => ⟨⟨iI (-1), ((fun k => ([] : List Nat).getD k 0), (fun k => ([(-1), cars] : List Int).getD k 0), (fun k => ([tf] : List (Nat → Int32)).getD k (fun _ => 0))), rfl, ⟨rfl, (by show ((-1) ≤ (-1) ∧ (-1) ≤ 20); show ((-1) : Int) ≤ (-1) ∧ ((-1) : Int) ≤ 20; decide), (by show (0 ≤ cars ∧ cars ≤ 20); first | exact hr_cars | omega), (by show (cars < 20 → cars = cars + 1 ∧ (-1) = cars + 1); omega), (by show (cars = 20 → cars = cars ∧ (-1) = -1); omega), (by show (cars < 20 → nz (tf) = carT (nz tf) cars p0 p1 p2 p3 p4); exact (fun h9 => absurd h9 (by omega))), (by show (cars = 20 → (tf) = tf); exact (fun _ => rfl)), htf⟩, at9 ht hP hD [0, 1] (by decide +kernel) rfl⟩, hS.F ht⟩) hS.2.2 dX4_addCar_10
def vs_e_addDip : List Cond := .code yX4_addDip cX4_addDip 5 (some .int) :: (([.fieldLink RX4 25 "KerbSplash$Plan" "dips" "I", .fieldLink RX4 15 "KerbSplash$Plan" "dip" "[I"] : List Cond) ++ ((wsX40) ++ ([])))
theorem gd_e_addDip : vs_e_addDip.all goodWord = true := gd_C (by decide +kernel) (gd_A (by decide +kernel) (gd_A (by decide +kernel) rfl))
set_option maxHeartbeats 4000000 in
set_option maxRecDepth 100000 in
theorem e_addDip (l : Launch) (hl : l.stackTraces = false) (D : va_G) (cy : Nat → ClassId) (sa : Nat → Nat) (pa pt pd ps : Nat) (cars dips : Int) (df : Nat → Int32) (p0 p1 p2 : Int) (sz : Nat) (hr_cars : 0 ≤ cars ∧ cars ≤ 20) (hr_dips : 0 ≤ dips ∧ dips ≤ 9) (hr_p0 : (-2147483648) ≤ p0 ∧ p0 ≤ 2147483647) (hr_p1 : (-2147483648) ≤ p1 ∧ p1 ≤ 2147483647) (hr_p2 : (-2147483648) ≤ p2 ∧ p2 ≤ 2147483647) : mI9 l yX4_addDip vs_e_addDip ({ frames := 0, cells := 0, slots := 0, locals := 0 }) D cy sa sz [vR pa, vI p0, vI p1, vI p2] [zO pa 4 [vI cars, vR pt, vI dips, vR pd, vR ps], zI pd (cy 0) 27 df] (fun (r : Int32) (u : SV) => r = iI (u.2.1 0) ∧ ((-1) ≤ u.2.1 0 ∧ u.2.1 0 ≤ 9) ∧ (0 ≤ u.2.1 1 ∧ u.2.1 1 ≤ 9) ∧ (dips < 9 → u.2.1 1 = dips + 1 ∧ u.2.1 0 = dips + 1) ∧ (dips = 9 → u.2.1 1 = dips ∧ u.2.1 0 = -1) ∧ (dips < 9 → nz (u.2.2 0) = dipT (nz df) dips p0 p1 p2) ∧ (dips = 9 → (u.2.2 0) = df)) (fun u : SV => [zO pa 4 [vI cars, vR pt, vI (u.2.1 1), vR pd, vR ps], zI pd (cy 0) 27 (u.2.2 0)]) 0 0 := by
  refine Met.ofW (cc := cX4_addDip) (maxL := 5) (ret := (some .int)) (by decide) rfl ?_
  intro p e s m args below meth c s₁ B hml hv
  obtain ⟨rfl, hsz, hP, hG, hD0, hT⟩ := hv
  have hx := B.exec
  have hb := B.bytes
  have hr := B.returns
  have hts := atoms_spec (ws := vs_e_addDip) B.pre
  have hown : s.vm.findClass RX4 = some m.cls := findClass_of_methodNamed B.named
  have hlocks := B.notSynchronized
  subst hsz
  have hD := hD0.self (sz := s.heap.size)
  generalize hAe : va_A [zO pa 4 [vI cars, vR pt, vI dips, vR pd, vR ps], zI pd (cy 0) 27 df] s.heap.size = A at hD hT ⊢
  have hA : ∀ q : Nat, s.heap.size ≤ q → A q := fun q h => by rw [← hAe]; exact Or.inr h
  have hS : va_S A s.heap s.heap [] := va_S.rf
  have hl0 := lv_entry ([vR pa, vI p0, vI p1, vI p2]) (n := 5) (Nat.le_of_ble_eq_true rfl)
  rw [lg_entry_eq]
  generalize (lg_sl ([vR pa, vI p0, vI p1, vI p2]) ++ List.replicate (5 - (lg_sl ([vR pa, vI p0, vI p1, vI p2])).length) Slot.unset).toArray = ls at hl0 ⊢
  have hlv : lv_has ls 5 [(0, vR pa), (1, vI p0), (2, vI p1), (3, vI p2)] := hl0
  have lf25 := hts (.fieldLink RX4 25 "KerbSplash$Plan" "dips" "I") (List.mem_of_getElem? (i := 1) rfl)
  have hi4 : ∀ w ∈ wsX40, w ∈ vs_e_addDip := fun w h => List.mem_cons_of_mem _ (List.mem_append_right _ (List.mem_append_left _ h))
  have lf15 := hts (.fieldLink RX4 15 "KerbSplash$Plan" "dip" "[I") (List.mem_of_getElem? (i := 2) rfl)
  refine lv_aload_n hx hb dX4_addDip_0 rfl (lv_at hlv 0 rfl) ?_
  refine va_get (D := D) (ci := 4) (v := vI dips) (C := RX4) (T := TX4) (N := 5) hx hb hts hi4 hown hG.1 hP 0 rfl rfl 2 (by decide) lf25 (fun _ h9 => h9) rfl dX4_addDip_1 ?_
  refine lv_bipush (v := iI 9) hx hb dX4_addDip_4 (by decide) ?_
  refine ir_ne (tgt := 11) hx hb dX4_addDip_6 (by decide) (by first | exact rgw hr_dips (by decide) (by decide) | omega) (by show ((-2147483648) : Int) ≤ 9 ∧ (9 : Int) ≤ 2147483647; decide) (fun c_1 => ?_) (fun c_1 => ?_)
  · refine lv_iconst (v := iI 3) hx hb dX4_addDip_11 (by decide) ?_
    refine lv_aload_n hx hb dX4_addDip_12 rfl (lv_at hlv 0 rfl) ?_
    refine va_get (D := D) (ci := 4) (v := vI dips) (C := RX4) (T := TX4) (N := 5) hx hb hts hi4 hown hG.1 hP 0 rfl rfl 2 (by decide) lf25 (fun _ h9 => h9) rfl dX4_addDip_13 ?_
    refine lv_imul hx hb dX4_addDip_16 ?_
    refine lt_e (e0 := 3 * dips) (Int32.ofInt_mul _ _).symm (fun z_2 hz_2 => ?_)
    refine lv_istore (lv' := [(4, vI z_2), (0, vR pa), (1, vI p0), (2, vI p1), (3, vI p2)]) hx hb dX4_addDip_17 hlv (by decide) rfl (fun ls hlv => ?_)
    refine lv_aload_n hx hb dX4_addDip_19 rfl (lv_at hlv 1 rfl) ?_
    refine va_get (D := D) (ci := 4) (v := vR pd) (C := RX4) (T := TX4) (N := 5) hx hb hts hi4 hown hG.1 hP 0 rfl rfl 3 (by decide) lf15 (fun _ h9 => h9) rfl dX4_addDip_20 ?_
    refine lv_iload hx hb dX4_addDip_23 (lv_at hlv 0 rfl) ?_
    refine lv_iload_n hx hb dX4_addDip_25 rfl (lv_at hlv 2 rfl) ?_
    refine va_iast hx hb hG.1 hP hD hS 1 0 rfl rfl (iI_in (by omega) (by decide)) dX4_addDip_26 (fun H locs hP hD hS => ?_)
    obtain ⟨f_3, hdf_3, hP, hD⟩ := pe9e (fun f_3 => [zO pa 4 [vI cars, vR pt, vI dips, vR pd, vR ps], zI pd (cy 0) 27 f_3]) (upd df (iI z_2).toNatClampNeg (iI p0)) hP hD
    refine lv_aload_n hx hb dX4_addDip_27 rfl (lv_at hlv 1 rfl) ?_
    refine va_get (D := D) (ci := 4) (v := vR pd) (C := RX4) (T := TX4) (N := 5) hx hb hts hi4 hown hG.1 hP 0 rfl rfl 3 (by decide) lf15 (fun _ h9 => h9) rfl dX4_addDip_28 ?_
    refine lv_iload hx hb dX4_addDip_31 (lv_at hlv 0 rfl) ?_
    refine lv_iconst (v := iI 1) hx hb dX4_addDip_33 (by decide) ?_
    refine lv_iadd hx hb dX4_addDip_34 ?_
    refine lt_e (e0 := z_2 + 1) (Int32.ofInt_add _ _).symm (fun z_4 hz_4 => ?_)
    refine lv_iload_n hx hb dX4_addDip_35 rfl (lv_at hlv 3 rfl) ?_
    refine va_iast hx hb hG.1 hP hD hS 1 0 rfl rfl (iI_in (by omega) (by decide)) dX4_addDip_36 (fun H locs hP hD hS => ?_)
    obtain ⟨f_5, hdf_5, hP, hD⟩ := pe9e (fun f_5 => [zO pa 4 [vI cars, vR pt, vI dips, vR pd, vR ps], zI pd (cy 0) 27 f_5]) (upd f_3 (iI z_4).toNatClampNeg (iI p1)) hP hD
    refine lv_aload_n hx hb dX4_addDip_37 rfl (lv_at hlv 1 rfl) ?_
    refine va_get (D := D) (ci := 4) (v := vR pd) (C := RX4) (T := TX4) (N := 5) hx hb hts hi4 hown hG.1 hP 0 rfl rfl 3 (by decide) lf15 (fun _ h9 => h9) rfl dX4_addDip_38 ?_
    refine lv_iload hx hb dX4_addDip_41 (lv_at hlv 0 rfl) ?_
    refine lv_iconst (v := iI 2) hx hb dX4_addDip_43 (by decide) ?_
    refine lv_iadd hx hb dX4_addDip_44 ?_
    refine lt_e (e0 := z_2 + 2) (Int32.ofInt_add _ _).symm (fun z_6 hz_6 => ?_)
    refine lv_iload_n hx hb dX4_addDip_45 rfl (lv_at hlv 4 rfl) ?_
    refine va_iast hx hb hG.1 hP hD hS 1 0 rfl rfl (iI_in (by omega) (by decide)) dX4_addDip_46 (fun H locs hP hD hS => ?_)
    obtain ⟨f_7, hdf_7, hP, hD⟩ := pe9e (fun f_7 => [zO pa 4 [vI cars, vR pt, vI dips, vR pd, vR ps], zI pd (cy 0) 27 f_7]) (upd f_5 (iI z_6).toNatClampNeg (iI p2)) hP hD
    refine lv_aload_n hx hb dX4_addDip_47 rfl (lv_at hlv 1 rfl) ?_
    refine lv_dup hx hb dX4_addDip_48 rfl ?_
    refine va_get (D := D) (ci := 4) (v := vI dips) (C := RX4) (T := TX4) (N := 5) hx hb hts hi4 hown hG.1 hP 0 rfl rfl 2 (by decide) lf25 (fun _ h9 => h9) rfl dX4_addDip_49 ?_
    refine lv_iconst (v := iI 1) hx hb dX4_addDip_52 (by decide) ?_
    refine lv_iadd hx hb dX4_addDip_53 ?_
    refine lt_e (e0 := dips + 1) (Int32.ofInt_add _ _).symm (fun z_8 hz_8 => ?_)
    refine va_put (D := D) (ci := 4) (v := vI z_8) (ty := .int) (C := RX4) (T := TX4) (N := 5) hx hb hts hi4 tyX4 tyX4_ok nmX4 hown hG.1 hP hD hS 0 rfl rfl 2 (by decide) lf25 (fun _ h9 => h9) rfl (by decide +kernel) rfl rfl (Nat.le_of_ble_eq_true rfl) dX4_addDip_54 (fun H locs hP hD hS => ?_)
    obtain ⟨hP, hD⟩ := pw9 [zO pa 4 [vI cars, vR pt, vI z_8, vR pd, vR ps], zI pd (cy 0) 27 f_7] hP hD
    refine lv_aload_n hx hb dX4_addDip_57 rfl (lv_at hlv 1 rfl) ?_
    refine va_get (D := D) (ci := 4) (v := vI z_8) (C := RX4) (T := TX4) (N := 5) hx hb hts hi4 hown hG.1 hP 0 rfl rfl 2 (by decide) lf25 (fun _ h9 => h9) rfl dX4_addDip_58 ?_
    refine W.widen (k := 0) (n := 0) (Nat.le_of_ble_eq_true rfl) (Nat.le_of_ble_eq_true rfl) ?_
    exact W.iret (v := iI z_8) hx hb hr (fun t ht hW => ⟨⟨iI z_8, ((fun k => ([] : List Nat).getD k 0), (fun k => ([z_8, z_8] : List Int).getD k 0), (fun k => ([f_7] : List (Nat → Int32)).getD k (fun _ => 0))), rfl, ⟨rfl, (by show ((-1) ≤ z_8 ∧ z_8 ≤ 9); omega), (by show (0 ≤ z_8 ∧ z_8 ≤ 9); omega), (by show (dips < 9 → z_8 = dips + 1 ∧ z_8 = dips + 1); omega), (by show (dips = 9 → z_8 = dips ∧ z_8 = -1); omega), (by show (dips < 9 → nz (f_7) = dipT (nz df) dips p0 p1 p2); exact (fun _ => (upz_c (upz_c (upz_c rfl hdf_3 (by omega) (by omega) (by omega) (by omega)) hdf_5 (by omega) (by omega) (by omega) (by omega)) hdf_7 (by omega) (by omega) (by omega) (by omega)))), (by show (dips = 9 → (f_7) = df); exact (fun h9 => absurd h9 (by omega)))⟩, at9 ht hP hD [0, 1] (by decide +kernel) rfl⟩, hS.F ht⟩) hS.2.2 dX4_addDip_61
  · refine lv_iconst (v := iI (-1)) hx hb dX4_addDip_9 (by decide) ?_
    refine W.widen (k := 0) (n := 0) (Nat.le_of_ble_eq_true rfl) (Nat.le_of_ble_eq_true rfl) ?_
    exact W.iret (v := iI (-1)) hx hb hr (fun t ht hW => ⟨⟨iI (-1), ((fun k => ([] : List Nat).getD k 0), (fun k => ([(-1), dips] : List Int).getD k 0), (fun k => ([df] : List (Nat → Int32)).getD k (fun _ => 0))), rfl, ⟨rfl, (by show ((-1) ≤ (-1) ∧ (-1) ≤ 9); show ((-1) : Int) ≤ (-1) ∧ ((-1) : Int) ≤ 9; decide), (by show (0 ≤ dips ∧ dips ≤ 9); first | exact hr_dips | omega), (by show (dips < 9 → dips = dips + 1 ∧ (-1) = dips + 1); omega), (by show (dips = 9 → dips = dips ∧ (-1) = -1); omega), (by show (dips < 9 → nz (df) = dipT (nz df) dips p0 p1 p2); exact (fun h9 => absurd h9 (by omega))), (by show (dips = 9 → (df) = df); exact (fun _ => rfl))⟩, at9 ht hP hD [0, 1] (by decide +kernel) rfl⟩, hS.F ht⟩) hS.2.2 dX4_addDip_10
def vs_e_isCar : List Cond := .code yX11_isCar cX11_isCar 5 (some .boolean) :: (([.fieldLink RX11 31 "KerbSplash" "now" "LKerbSplash$Street;"] : List Cond) ++ ((wsX110) ++ ((wsX60) ++ ((va_wsS RX11 130 yX11_isWithin vs_s_within) ++ ([])))))
theorem gd_e_isCar : vs_e_isCar.all goodWord = true := gd_C (by decide +kernel) (gd_A (by decide +kernel) (gd_A (by decide +kernel) (gd_A (by decide +kernel) (gd_A (gd_S gd_s_within (by decide +kernel)) rfl))))
set_option maxHeartbeats 4000000 in
set_option maxRecDepth 100000 in
theorem e_isCar (l : Launch) (hl : l.stackTraces = false) (D : va_G) (cy : Nat → ClassId) (sa : Nat → Nat) (kk ta kr kl sA dA pa ki kp wa or_ rq : Nat) (nr nw im : Int) (s2 s3 s6 s8 s11 s13 : Nat) (wi ro dr dt pe gu sh wo dn mi fl tk go : Int) (p1 p2 p3 p4 : Int) (sz : Nat) (hr_nr : 0 ≤ nr ∧ nr ≤ 4) (hr_nw : 0 ≤ nw ∧ nw ≤ 4) (hr_im : 0 ≤ im ∧ im ≤ 3) (hr_wi : 0 ≤ wi ∧ wi ≤ 16) (hr_ro : 0 ≤ ro ∧ ro ≤ 6) (hr_dr : 0 ≤ dr ∧ dr ≤ 14) (hr_dt : 0 ≤ dt ∧ dt ≤ 6) (hr_pe : 0 ≤ pe ∧ pe ≤ 8) (hr_gu : 0 ≤ gu ∧ gu ≤ 20) (hr_sh : 0 ≤ sh ∧ sh ≤ 2) (hr_wo : 0 ≤ wo ∧ wo ≤ 8) (hr_dn : (-2147483648) ≤ dn ∧ dn ≤ 2147483647) (hr_mi : 0 ≤ mi ∧ mi ≤ 600) (hr_fl : (-2147483648) ≤ fl ∧ fl ≤ 2147483647) (hr_tk : (-2147483648) ≤ tk ∧ tk ≤ 2147483647) (hr_go : (-2147483648) ≤ go ∧ go ≤ 2147483647) (hr_p1 : (-2147483648) ≤ p1 ∧ p1 ≤ 2147483647) (hr_p2 : (-2147483648) ≤ p2 ∧ p2 ≤ 2147483647) (hr_p3 : (-2147483648) ≤ p3 ∧ p3 ≤ 2147483647) (hr_p4 : (-2147483648) ≤ p4 ∧ p4 ≤ 2147483647) : mI9 l yX11_isCar vs_e_isCar ({ frames := 1, cells := 0, slots := 0, locals := 22 }) D cy sa sz [vR kk, vI p1, vI p2, vI p3, vI p4] [zO kk 11 [vR ta, vR kr, vR kl, vI nr, vI nw, vR sA, vR dA, vR pa, vR ki, vR kp, vI im, vR wa, vR or_, vR rq], zO sA 6 [vI wi, vI ro, vR s2, vR s3, vI dr, vI dt, vR s6, vI pe, vR s8, vI gu, vI sh, vR s11, vI wo, vR s13, vI dn, vI mi, vI fl, vI tk, vI go]] (fun (r : Int32) (u : SV) => r = iI (u.2.1 0) ∧ (0 ≤ u.2.1 0 ∧ u.2.1 0 ≤ 1) ∧ (u.2.1 0 = 1 → 0 ≤ p1 ∧ p1 ≤ ro - 1 ∧ 1 ≤ p2 ∧ p2 ≤ 60 ∧ 1 ≤ p3 ∧ p3 ≤ 9 ∧ 0 ≤ p4 ∧ p4 ≤ 3) ∧ (u.2.1 0 = 0 → ¬ (0 ≤ p1 ∧ p1 ≤ ro - 1 ∧ 1 ≤ p2 ∧ p2 ≤ 60 ∧ 1 ≤ p3 ∧ p3 ≤ 9 ∧ 0 ≤ p4 ∧ p4 ≤ 3))) (fun u : SV => [zO kk 11 [vR ta, vR kr, vR kl, vI nr, vI nw, vR sA, vR dA, vR pa, vR ki, vR kp, vI im, vR wa, vR or_, vR rq], zO sA 6 [vI wi, vI ro, vR s2, vR s3, vI dr, vI dt, vR s6, vI pe, vR s8, vI gu, vI sh, vR s11, vI wo, vR s13, vI dn, vI mi, vI fl, vI tk, vI go]]) 0 0 := by
  refine Met.ofW (cc := cX11_isCar) (maxL := 5) (ret := (some .boolean)) (by decide) rfl ?_
  intro p e s m args below meth c s₁ B hml hv
  obtain ⟨rfl, hsz, hP, hG, hD0, hT⟩ := hv
  have hx := B.exec
  have hb := B.bytes
  have hr := B.returns
  have hts := atoms_spec (ws := vs_e_isCar) B.pre
  have hown : s.vm.findClass RX11 = some m.cls := findClass_of_methodNamed B.named
  have hlocks := B.notSynchronized
  subst hsz
  have hD := hD0.self (sz := s.heap.size)
  generalize hAe : va_A [zO kk 11 [vR ta, vR kr, vR kl, vI nr, vI nw, vR sA, vR dA, vR pa, vR ki, vR kp, vI im, vR wa, vR or_, vR rq], zO sA 6 [vI wi, vI ro, vR s2, vR s3, vI dr, vI dt, vR s6, vI pe, vR s8, vI gu, vI sh, vR s11, vI wo, vR s13, vI dn, vI mi, vI fl, vI tk, vI go]] s.heap.size = A at hD hT ⊢
  have hA : ∀ q : Nat, s.heap.size ≤ q → A q := fun q h => by rw [← hAe]; exact Or.inr h
  have hS : va_S A s.heap s.heap [] := va_S.rf
  have hl0 := lv_entry ([vR kk, vI p1, vI p2, vI p3, vI p4]) (n := 5) (Nat.le_of_ble_eq_true rfl)
  rw [lg_entry_eq]
  generalize (lg_sl ([vR kk, vI p1, vI p2, vI p3, vI p4]) ++ List.replicate (5 - (lg_sl ([vR kk, vI p1, vI p2, vI p3, vI p4])).length) Slot.unset).toArray = ls at hl0 ⊢
  have hlv : lv_has ls 5 [(0, vR kk), (1, vI p1), (2, vI p2), (3, vI p3), (4, vI p4)] := hl0
  have lf31 := hts (.fieldLink RX11 31 "KerbSplash" "now" "LKerbSplash$Street;") (List.mem_of_getElem? (i := 1) rfl)
  have hi11 : ∀ w ∈ wsX110, w ∈ vs_e_isCar := fun w h => List.mem_cons_of_mem _ (List.mem_append_right _ (List.mem_append_left _ h))
  have hi6 : ∀ w ∈ wsX60, w ∈ vs_e_isCar := fun w h => List.mem_cons_of_mem _ (List.mem_append_right _ (List.mem_append_right _ (List.mem_append_left _ h)))
  have gg_2 : GoodIn vs_e_isCar (va_wsS RX11 130 yX11_isWithin vs_s_within) := goodIn_sub (fun w h => List.mem_cons_of_mem _ (List.mem_append_right _ (List.mem_append_right _ (List.mem_append_right _ (List.mem_append_left _ h))))) (gd_S gd_s_within (by decide +kernel))
  refine lv_iload_n hx hb dX11_isCar_0 rfl (lv_at hlv 1 rfl) ?_
  refine lv_iconst (v := iI 0) hx hb dX11_isCar_1 (by decide) ?_
  refine lv_aload_n hx hb dX11_isCar_2 rfl (lv_at hlv 0 rfl) ?_
  refine va_get (D := D) (ci := 11) (v := vR sA) (C := RX11) (T := TX11) (N := 14) hx hb hts hi11 hown hG.1 hP 0 rfl rfl 5 (by decide) lf31 (fun _ h9 => h9) rfl dX11_isCar_3 ?_
  refine va_getN (D := D) (ci := 6) (v := vI ro) (C := RX6) (T := TX6) (N := 19) hx hb hts hi6 hown hG.1 hP 1 rfl rfl 1 (by decide) (va_Nw.use rfl (nF_K_141 hG.2.1)) (fun _ h9 => h9) rfl dX11_isCar_6 ?_
  refine lv_iconst (v := iI 1) hx hb dX11_isCar_9 (by decide) ?_
  refine lv_isub hx hb dX11_isCar_10 ?_
  refine lt_e (e0 := ro - 1) (Int32.ofInt_sub _ _).symm (fun z_1 hz_1 => ?_)
  refine cjr_i [true, true] (fun pre9 => (va_runS (As := [vI p1, vI 0, vI z_1]) (rest := []) ⟨hx, hb, hml, hown, hts⟩ (s_within l hl D cy sa p1 0 z_1 s.heap.size (by first | exact hr_p1 | omega) (by show ((-2147483648) : Int) ≤ 0 ∧ (0 : Int) ≤ 2147483647; decide) (by omega)) (va_cwS 3 hts gg_2 rfl rfl rfl (by decide +kernel) ⟨Nat.le_of_ble_eq_true rfl, Nat.le_of_ble_eq_true rfl⟩) ⟨pcW.blind, pre9⟩ rfl rfl hlv.1 rfl (lv_room (Nat.le_of_ble_eq_true rfl)) dX11_isCar_11 ⟨Nat.le_of_ble_eq_true rfl, Nat.le_of_ble_eq_true rfl⟩)) hP hD hS hA hG hT [] rfl (by decide +kernel) (fun r1 u1 H locs hw1 hq9 hS => ?_)
  obtain ⟨rfl, hq1_1, hq1_2, hq1_3⟩ := hw1
  obtain ⟨hP, hD⟩ := pd9 [zO kk 11 [vR ta, vR kr, vR kl, vI nr, vI nw, vR sA, vR dA, vR pa, vR ki, vR kp, vI im, vR wa, vR or_, vR rq], zO sA 6 [vI wi, vI ro, vR s2, vR s3, vI dr, vI dt, vR s6, vI pe, vR s8, vI gu, vI sh, vR s11, vI wo, vR s13, vI dn, vI mi, vI fl, vI tk, vI go]] hq9
  refine iz_eq (tgt := 51) hx hb dX11_isCar_14 (by decide) (by first | exact rgw hq1_1 (by decide) (by decide) | omega) (fun c_2 => ?_) (fun c_2 => ?_)
  · refine lv_iconst (v := iI 0) hx hb dX11_isCar_51 (by decide) ?_
    refine W.widen (k := 0) (n := 0) (Nat.le_of_ble_eq_true rfl) (Nat.le_of_ble_eq_true rfl) ?_
    exact W.zret (v := iI 0) hx hb hr (by first | rfl | decide) (fun t ht hW => ⟨⟨iI 0, ((fun k => ([] : List Nat).getD k 0), (fun k => ([0] : List Int).getD k 0), (fun k => ([] : List (Nat → Int32)).getD k (fun _ => 0))), rfl, ⟨rfl, (by show (0 ≤ 0 ∧ 0 ≤ 1); show (0 : Int) ≤ 0 ∧ (0 : Int) ≤ 1; decide), (by show (0 = 1 → 0 ≤ p1 ∧ p1 ≤ ro - 1 ∧ 1 ≤ p2 ∧ p2 ≤ 60 ∧ 1 ≤ p3 ∧ p3 ≤ 9 ∧ 0 ≤ p4 ∧ p4 ≤ 3); omega), (by show (0 = 0 → ¬ (0 ≤ p1 ∧ p1 ≤ ro - 1 ∧ 1 ≤ p2 ∧ p2 ≤ 60 ∧ 1 ≤ p3 ∧ p3 ≤ 9 ∧ 0 ≤ p4 ∧ p4 ≤ 3)); omega)⟩, at9 ht hP hD [0, 1] (by decide +kernel) rfl⟩, hS.F ht⟩) hS.2.2 dX11_isCar_52
  · refine lv_iload_n hx hb dX11_isCar_17 rfl (lv_at hlv 2 rfl) ?_
    refine lv_iconst (v := iI 1) hx hb dX11_isCar_18 (by decide) ?_
    refine lv_bipush (v := iI 60) hx hb dX11_isCar_19 (by decide) ?_
    refine cjr_i [true, true] (fun pre9 => (va_runS (As := [vI p2, vI 1, vI 60]) (rest := []) ⟨hx, hb, hml, hown, hts⟩ (s_within l hl D cy sa p2 1 60 H.size (by first | exact hr_p2 | omega) (by show ((-2147483648) : Int) ≤ 1 ∧ (1 : Int) ≤ 2147483647; decide) (by show ((-2147483648) : Int) ≤ 60 ∧ (60 : Int) ≤ 2147483647; decide)) (va_cwS 3 hts gg_2 rfl rfl rfl (by decide +kernel) ⟨Nat.le_of_ble_eq_true rfl, Nat.le_of_ble_eq_true rfl⟩) ⟨pcW.blind, pre9⟩ rfl rfl hlv.1 rfl (lv_room (Nat.le_of_ble_eq_true rfl)) dX11_isCar_21 ⟨Nat.le_of_ble_eq_true rfl, Nat.le_of_ble_eq_true rfl⟩)) hP hD hS hA hG hT [] rfl (by decide +kernel) (fun r2 u2 H locs hw2 hq9 hS => ?_)
    obtain ⟨rfl, hq2_1, hq2_2, hq2_3⟩ := hw2
    obtain ⟨hP, hD⟩ := pd9 [zO kk 11 [vR ta, vR kr, vR kl, vI nr, vI nw, vR sA, vR dA, vR pa, vR ki, vR kp, vI im, vR wa, vR or_, vR rq], zO sA 6 [vI wi, vI ro, vR s2, vR s3, vI dr, vI dt, vR s6, vI pe, vR s8, vI gu, vI sh, vR s11, vI wo, vR s13, vI dn, vI mi, vI fl, vI tk, vI go]] hq9
    refine iz_eq (tgt := 51) hx hb dX11_isCar_24 (by decide) (by first | exact rgw hq2_1 (by decide) (by decide) | omega) (fun c_3 => ?_) (fun c_3 => ?_)
    · refine lv_iconst (v := iI 0) hx hb dX11_isCar_51 (by decide) ?_
      refine W.widen (k := 0) (n := 0) (Nat.le_of_ble_eq_true rfl) (Nat.le_of_ble_eq_true rfl) ?_
      exact W.zret (v := iI 0) hx hb hr (by first | rfl | decide) (fun t ht hW => ⟨⟨iI 0, ((fun k => ([] : List Nat).getD k 0), (fun k => ([0] : List Int).getD k 0), (fun k => ([] : List (Nat → Int32)).getD k (fun _ => 0))), rfl, ⟨rfl, (by show (0 ≤ 0 ∧ 0 ≤ 1); show (0 : Int) ≤ 0 ∧ (0 : Int) ≤ 1; decide), (by show (0 = 1 → 0 ≤ p1 ∧ p1 ≤ ro - 1 ∧ 1 ≤ p2 ∧ p2 ≤ 60 ∧ 1 ≤ p3 ∧ p3 ≤ 9 ∧ 0 ≤ p4 ∧ p4 ≤ 3); omega), (by show (0 = 0 → ¬ (0 ≤ p1 ∧ p1 ≤ ro - 1 ∧ 1 ≤ p2 ∧ p2 ≤ 60 ∧ 1 ≤ p3 ∧ p3 ≤ 9 ∧ 0 ≤ p4 ∧ p4 ≤ 3)); omega)⟩, at9 ht hP hD [0, 1] (by decide +kernel) rfl⟩, hS.F ht⟩) hS.2.2 dX11_isCar_52
    · refine lv_iload_n hx hb dX11_isCar_27 rfl (lv_at hlv 3 rfl) ?_
      refine lv_iconst (v := iI 1) hx hb dX11_isCar_28 (by decide) ?_
      refine lv_bipush (v := iI 9) hx hb dX11_isCar_29 (by decide) ?_
      refine cjr_i [true, true] (fun pre9 => (va_runS (As := [vI p3, vI 1, vI 9]) (rest := []) ⟨hx, hb, hml, hown, hts⟩ (s_within l hl D cy sa p3 1 9 H.size (by first | exact hr_p3 | omega) (by show ((-2147483648) : Int) ≤ 1 ∧ (1 : Int) ≤ 2147483647; decide) (by show ((-2147483648) : Int) ≤ 9 ∧ (9 : Int) ≤ 2147483647; decide)) (va_cwS 3 hts gg_2 rfl rfl rfl (by decide +kernel) ⟨Nat.le_of_ble_eq_true rfl, Nat.le_of_ble_eq_true rfl⟩) ⟨pcW.blind, pre9⟩ rfl rfl hlv.1 rfl (lv_room (Nat.le_of_ble_eq_true rfl)) dX11_isCar_31 ⟨Nat.le_of_ble_eq_true rfl, Nat.le_of_ble_eq_true rfl⟩)) hP hD hS hA hG hT [] rfl (by decide +kernel) (fun r3 u3 H locs hw3 hq9 hS => ?_)
      obtain ⟨rfl, hq3_1, hq3_2, hq3_3⟩ := hw3
      obtain ⟨hP, hD⟩ := pd9 [zO kk 11 [vR ta, vR kr, vR kl, vI nr, vI nw, vR sA, vR dA, vR pa, vR ki, vR kp, vI im, vR wa, vR or_, vR rq], zO sA 6 [vI wi, vI ro, vR s2, vR s3, vI dr, vI dt, vR s6, vI pe, vR s8, vI gu, vI sh, vR s11, vI wo, vR s13, vI dn, vI mi, vI fl, vI tk, vI go]] hq9
      refine iz_eq (tgt := 51) hx hb dX11_isCar_34 (by decide) (by first | exact rgw hq3_1 (by decide) (by decide) | omega) (fun c_4 => ?_) (fun c_4 => ?_)
      · refine lv_iconst (v := iI 0) hx hb dX11_isCar_51 (by decide) ?_
        refine W.widen (k := 0) (n := 0) (Nat.le_of_ble_eq_true rfl) (Nat.le_of_ble_eq_true rfl) ?_
        exact W.zret (v := iI 0) hx hb hr (by first | rfl | decide) (fun t ht hW => ⟨⟨iI 0, ((fun k => ([] : List Nat).getD k 0), (fun k => ([0] : List Int).getD k 0), (fun k => ([] : List (Nat → Int32)).getD k (fun _ => 0))), rfl, ⟨rfl, (by show (0 ≤ 0 ∧ 0 ≤ 1); show (0 : Int) ≤ 0 ∧ (0 : Int) ≤ 1; decide), (by show (0 = 1 → 0 ≤ p1 ∧ p1 ≤ ro - 1 ∧ 1 ≤ p2 ∧ p2 ≤ 60 ∧ 1 ≤ p3 ∧ p3 ≤ 9 ∧ 0 ≤ p4 ∧ p4 ≤ 3); omega), (by show (0 = 0 → ¬ (0 ≤ p1 ∧ p1 ≤ ro - 1 ∧ 1 ≤ p2 ∧ p2 ≤ 60 ∧ 1 ≤ p3 ∧ p3 ≤ 9 ∧ 0 ≤ p4 ∧ p4 ≤ 3)); omega)⟩, at9 ht hP hD [0, 1] (by decide +kernel) rfl⟩, hS.F ht⟩) hS.2.2 dX11_isCar_52
      · refine lv_iload hx hb dX11_isCar_37 (lv_at hlv 4 rfl) ?_
        refine lv_iconst (v := iI 0) hx hb dX11_isCar_39 (by decide) ?_
        refine lv_iconst (v := iI 3) hx hb dX11_isCar_40 (by decide) ?_
        refine cjr_i [true, true] (fun pre9 => (va_runS (As := [vI p4, vI 0, vI 3]) (rest := []) ⟨hx, hb, hml, hown, hts⟩ (s_within l hl D cy sa p4 0 3 H.size (by first | exact hr_p4 | omega) (by show ((-2147483648) : Int) ≤ 0 ∧ (0 : Int) ≤ 2147483647; decide) (by show ((-2147483648) : Int) ≤ 3 ∧ (3 : Int) ≤ 2147483647; decide)) (va_cwS 3 hts gg_2 rfl rfl rfl (by decide +kernel) ⟨Nat.le_of_ble_eq_true rfl, Nat.le_of_ble_eq_true rfl⟩) ⟨pcW.blind, pre9⟩ rfl rfl hlv.1 rfl (lv_room (Nat.le_of_ble_eq_true rfl)) dX11_isCar_41 ⟨Nat.le_of_ble_eq_true rfl, Nat.le_of_ble_eq_true rfl⟩)) hP hD hS hA hG hT [] rfl (by decide +kernel) (fun r4 u4 H locs hw4 hq9 hS => ?_)
        obtain ⟨rfl, hq4_1, hq4_2, hq4_3⟩ := hw4
        obtain ⟨hP, hD⟩ := pd9 [zO kk 11 [vR ta, vR kr, vR kl, vI nr, vI nw, vR sA, vR dA, vR pa, vR ki, vR kp, vI im, vR wa, vR or_, vR rq], zO sA 6 [vI wi, vI ro, vR s2, vR s3, vI dr, vI dt, vR s6, vI pe, vR s8, vI gu, vI sh, vR s11, vI wo, vR s13, vI dn, vI mi, vI fl, vI tk, vI go]] hq9
        refine iz_eq (tgt := 51) hx hb dX11_isCar_44 (by decide) (by first | exact rgw hq4_1 (by decide) (by decide) | omega) (fun c_5 => ?_) (fun c_5 => ?_)
        · refine lv_iconst (v := iI 0) hx hb dX11_isCar_51 (by decide) ?_
          refine W.widen (k := 0) (n := 0) (Nat.le_of_ble_eq_true rfl) (Nat.le_of_ble_eq_true rfl) ?_
          exact W.zret (v := iI 0) hx hb hr (by first | rfl | decide) (fun t ht hW => ⟨⟨iI 0, ((fun k => ([] : List Nat).getD k 0), (fun k => ([0] : List Int).getD k 0), (fun k => ([] : List (Nat → Int32)).getD k (fun _ => 0))), rfl, ⟨rfl, (by show (0 ≤ 0 ∧ 0 ≤ 1); show (0 : Int) ≤ 0 ∧ (0 : Int) ≤ 1; decide), (by show (0 = 1 → 0 ≤ p1 ∧ p1 ≤ ro - 1 ∧ 1 ≤ p2 ∧ p2 ≤ 60 ∧ 1 ≤ p3 ∧ p3 ≤ 9 ∧ 0 ≤ p4 ∧ p4 ≤ 3); omega), (by show (0 = 0 → ¬ (0 ≤ p1 ∧ p1 ≤ ro - 1 ∧ 1 ≤ p2 ∧ p2 ≤ 60 ∧ 1 ≤ p3 ∧ p3 ≤ 9 ∧ 0 ≤ p4 ∧ p4 ≤ 3)); omega)⟩, at9 ht hP hD [0, 1] (by decide +kernel) rfl⟩, hS.F ht⟩) hS.2.2 dX11_isCar_52
        · refine lv_iconst (v := iI 1) hx hb dX11_isCar_47 (by decide) ?_
          refine lv_goto (tgt := 52) hx hb dX11_isCar_48 (by decide) ?_
          refine W.widen (k := 0) (n := 0) (Nat.le_of_ble_eq_true rfl) (Nat.le_of_ble_eq_true rfl) ?_
          exact W.zret (v := iI 1) hx hb hr (by first | rfl | decide) (fun t ht hW => ⟨⟨iI 1, ((fun k => ([] : List Nat).getD k 0), (fun k => ([1] : List Int).getD k 0), (fun k => ([] : List (Nat → Int32)).getD k (fun _ => 0))), rfl, ⟨rfl, (by show (0 ≤ 1 ∧ 1 ≤ 1); show (0 : Int) ≤ 1 ∧ (1 : Int) ≤ 1; decide), (by show (1 = 1 → 0 ≤ p1 ∧ p1 ≤ ro - 1 ∧ 1 ≤ p2 ∧ p2 ≤ 60 ∧ 1 ≤ p3 ∧ p3 ≤ 9 ∧ 0 ≤ p4 ∧ p4 ≤ 3); omega), (by show (1 = 0 → ¬ (0 ≤ p1 ∧ p1 ≤ ro - 1 ∧ 1 ≤ p2 ∧ p2 ≤ 60 ∧ 1 ≤ p3 ∧ p3 ≤ 9 ∧ 0 ≤ p4 ∧ p4 ≤ 3)); omega)⟩, at9 ht hP hD [0, 1] (by decide +kernel) rfl⟩, hS.F ht⟩) hS.2.2 dX11_isCar_52
def vs_e_traffic : List Cond := .code yX11_traffic cX11_traffic 6 (some .int) :: (([.fieldLink RX11 41 "KerbSplash" "plan" "LKerbSplash$Plan;", .initialized RX4, .instanceMethod yX4_addCar, .selects RX4 yX4_addCar yX4_addCar] : List Cond) ++ ((va_wsS RX11 130 yX11_isWithin vs_s_within) ++ ((wsV RX11 134 RX11 yX11_needArgument vs_k_needArgument) ++ ((wsV RX11 243 RX11 yX11_isCar vs_e_isCar) ++ ((wsX110) ++ ((vs_e_addCar) ++ ([])))))))
theorem gd_e_traffic : vs_e_traffic.all goodWord = true := gd_C (by decide +kernel) (gd_A (by decide +kernel) (gd_A (gd_S gd_s_within (by decide +kernel)) (gd_A (gd_V gd_k_needArgument (by decide +kernel)) (gd_A (gd_V gd_e_isCar (by decide +kernel)) (gd_A (by decide +kernel) (gd_A gd_e_addCar rfl))))))
set_option maxHeartbeats 4000000 in
set_option maxRecDepth 100000 in
theorem e_traffic (l : Launch) (hl : l.stackTraces = false) (D : va_G) (cy : Nat → ClassId) (sa : Nat → Nat) (kk ta kr kl sA dA pa ki kp wa or_ rq : Nat) (nr nw im : Int) (qf : Nat → Int32) (s2 s3 s6 s8 s11 s13 : Nat) (wi ro dr dt pe gu sh wo dn mi fl tk go : Int) (pt pd ps : Nat) (cars dips : Int) (tf : Nat → Int32) (p0 p1 p2 p3 p4 : Int) (sz : Nat) (hr_nr : 0 ≤ nr ∧ nr ≤ 4) (hr_nw : 0 ≤ nw ∧ nw ≤ 4) (hr_im : 0 ≤ im ∧ im ≤ 3) (hr_wi : 0 ≤ wi ∧ wi ≤ 16) (hr_ro : 0 ≤ ro ∧ ro ≤ 6) (hr_dr : 0 ≤ dr ∧ dr ≤ 14) (hr_dt : 0 ≤ dt ∧ dt ≤ 6) (hr_pe : 0 ≤ pe ∧ pe ≤ 8) (hr_gu : 0 ≤ gu ∧ gu ≤ 20) (hr_sh : 0 ≤ sh ∧ sh ≤ 2) (hr_wo : 0 ≤ wo ∧ wo ≤ 8) (hr_dn : (-2147483648) ≤ dn ∧ dn ≤ 2147483647) (hr_mi : 0 ≤ mi ∧ mi ≤ 600) (hr_fl : (-2147483648) ≤ fl ∧ fl ≤ 2147483647) (hr_tk : (-2147483648) ≤ tk ∧ tk ≤ 2147483647) (hr_go : (-2147483648) ≤ go ∧ go ≤ 2147483647) (hr_cars : 0 ≤ cars ∧ cars ≤ 20) (hr_dips : 0 ≤ dips ∧ dips ≤ 9) (hr_p0 : (-2147483648) ≤ p0 ∧ p0 ≤ 2147483647) (hr_p1 : (-2147483648) ≤ p1 ∧ p1 ≤ 2147483647) (hr_p2 : (-2147483648) ≤ p2 ∧ p2 ≤ 2147483647) (hr_p3 : (-2147483648) ≤ p3 ∧ p3 ≤ 2147483647) (hr_p4 : (-2147483648) ≤ p4 ∧ p4 ≤ 2147483647) (htf : tab_ 5 20 [0, 0, (-2147483648), (-2147483648), (-2147483648)] [99, 5, 2147483647, 2147483647, 2147483647] tf) : xI9 l yX11_traffic vs_e_traffic ({ frames := 7, cells := 1, slots := 6, locals := 121 }) D cy sa sz [vR kk, vI p0, vI p1, vI p2, vI p3, vI p4] [zO kk 11 [vR ta, vR kr, vR kl, vI nr, vI nw, vR sA, vR dA, vR pa, vR ki, vR kp, vI im, vR wa, vR or_, vR rq], zI rq (cy 0) 4 qf, zO sA 6 [vI wi, vI ro, vR s2, vR s3, vI dr, vI dt, vR s6, vI pe, vR s8, vI gu, vI sh, vR s11, vI wo, vR s13, vI dn, vI mi, vI fl, vI tk, vI go], zO pa 4 [vI cars, vR pt, vI dips, vR pd, vR ps], zI pt (cy 0) 100 tf] (fun (r : Int32) (u : SV) => r = iI (u.2.1 0) ∧ ((-1) ≤ u.2.1 0 ∧ u.2.1 0 ≤ 20) ∧ (0 ≤ u.2.1 1 ∧ u.2.1 1 ≤ 20) ∧ (0 ≤ p0 ∧ p0 ≤ 99 ∧ 0 ≤ p1 ∧ p1 ≤ ro - 1 ∧ 1 ≤ p2 ∧ p2 ≤ 60 ∧ 1 ≤ p3 ∧ p3 ≤ 9 ∧ 0 ≤ p4 ∧ p4 ≤ 3) ∧ (cars < 20 → u.2.1 1 = cars + 1 ∧ u.2.1 0 = cars + 1) ∧ (cars = 20 → u.2.1 1 = cars ∧ u.2.1 0 = -1) ∧ (cars < 20 → nz (u.2.2 0) = carT (nz tf) cars p0 p1 p2 p3 p4) ∧ (cars = 20 → (u.2.2 0) = tf) ∧ tab_ 5 20 [0, 0, (-2147483648), (-2147483648), (-2147483648)] [99, 5, 2147483647, 2147483647, 2147483647] (u.2.2 0)) (fun u : SV => [zO kk 11 [vR ta, vR kr, vR kl, vI nr, vI nw, vR sA, vR dA, vR pa, vR ki, vR kp, vI im, vR wa, vR or_, vR rq], zI rq (cy 0) 4 qf, zO sA 6 [vI wi, vI ro, vR s2, vR s3, vI dr, vI dt, vR s6, vI pe, vR s8, vI gu, vI sh, vR s11, vI wo, vR s13, vI dn, vI mi, vI fl, vI tk, vI go], zO pa 4 [vI (u.2.1 1), vR pt, vI dips, vR pd, vR ps], zI pt (cy 0) 100 (u.2.2 0)]) (fun (E : String) (u : SV) => (E = "java/lang/IllegalArgumentException") ∧ (¬ (0 ≤ p0 ∧ p0 ≤ 99 ∧ 0 ≤ p1 ∧ p1 ≤ ro - 1 ∧ 1 ≤ p2 ∧ p2 ≤ 60 ∧ 1 ≤ p3 ∧ p3 ≤ 9 ∧ 0 ≤ p4 ∧ p4 ≤ 3))) (fun u : SV => [zO kk 11 [vR ta, vR kr, vR kl, vI nr, vI nw, vR sA, vR dA, vR pa, vR ki, vR kp, vI im, vR wa, vR or_, vR rq], zI rq (cy 0) 4 (u.2.2 0), zO sA 6 [vI wi, vI ro, vR s2, vR s3, vI dr, vI dt, vR s6, vI pe, vR s8, vI gu, vI sh, vR s11, vI wo, vR s13, vI dn, vI mi, vI fl, vI tk, vI go], zO pa 4 [vI cars, vR pt, vI dips, vR pd, vR ps], zI pt (cy 0) 100 tf]) 1 6 := by
  refine vx_ofW (cc := cX11_traffic) (maxL := 6) (ret := (some .int)) (by decide) rfl ?_
  intro p e s m args below meth c s₁ B hml hex hv
  obtain ⟨rfl, hsz, hP, hG, hD0, hT⟩ := hv
  have hx := B.exec
  have hb := B.bytes
  have hr := B.returns
  have hts := atoms_spec (ws := vs_e_traffic) B.pre
  have hown : s.vm.findClass RX11 = some m.cls := findClass_of_methodNamed B.named
  have hlocks := B.notSynchronized
  subst hsz
  have hD := hD0.self (sz := s.heap.size)
  generalize hAe : va_A [zO kk 11 [vR ta, vR kr, vR kl, vI nr, vI nw, vR sA, vR dA, vR pa, vR ki, vR kp, vI im, vR wa, vR or_, vR rq], zI rq (cy 0) 4 qf, zO sA 6 [vI wi, vI ro, vR s2, vR s3, vI dr, vI dt, vR s6, vI pe, vR s8, vI gu, vI sh, vR s11, vI wo, vR s13, vI dn, vI mi, vI fl, vI tk, vI go], zO pa 4 [vI cars, vR pt, vI dips, vR pd, vR ps], zI pt (cy 0) 100 tf] s.heap.size = A at hD hT ⊢
  have hA : ∀ q : Nat, s.heap.size ≤ q → A q := fun q h => by rw [← hAe]; exact Or.inr h
  have hS : va_S A s.heap s.heap [] := va_S.rf
  have hl0 := lv_entry ([vR kk, vI p0, vI p1, vI p2, vI p3, vI p4]) (n := 6) (Nat.le_of_ble_eq_true rfl)
  rw [lg_entry_eq]
  generalize (lg_sl ([vR kk, vI p0, vI p1, vI p2, vI p3, vI p4]) ++ List.replicate (6 - (lg_sl ([vR kk, vI p0, vI p1, vI p2, vI p3, vI p4])).length) Slot.unset).toArray = ls at hl0 ⊢
  have hlv : lv_has ls 6 [(0, vR kk), (1, vI p0), (2, vI p1), (3, vI p2), (4, vI p3), (5, vI p4)] := hl0
  have gg_0 : GoodIn vs_e_traffic (va_wsS RX11 130 yX11_isWithin vs_s_within) := goodIn_sub (fun w h => List.mem_cons_of_mem _ (List.mem_append_right _ (List.mem_append_left _ h))) (gd_S gd_s_within (by decide +kernel))
  have gg_1 : GoodIn vs_e_traffic (wsV RX11 134 RX11 yX11_needArgument vs_k_needArgument) := goodIn_sub (fun w h => List.mem_cons_of_mem _ (List.mem_append_right _ (List.mem_append_right _ (List.mem_append_left _ h)))) (gd_V gd_k_needArgument (by decide +kernel))
  have gg_2 : GoodIn vs_e_traffic (wsV RX11 243 RX11 yX11_isCar vs_e_isCar) := goodIn_sub (fun w h => List.mem_cons_of_mem _ (List.mem_append_right _ (List.mem_append_right _ (List.mem_append_right _ (List.mem_append_left _ h))))) (gd_V gd_e_isCar (by decide +kernel))
  have lf41 := hts (.fieldLink RX11 41 "KerbSplash" "plan" "LKerbSplash$Plan;") (List.mem_of_getElem? (i := 1) rfl)
  have hi11 : ∀ w ∈ wsX110, w ∈ vs_e_traffic := fun w h => List.mem_cons_of_mem _ (List.mem_append_right _ (List.mem_append_right _ (List.mem_append_right _ (List.mem_append_right _ (List.mem_append_left _ h)))))
  have gg_4 : GoodIn vs_e_traffic (vs_e_addCar) := goodIn_sub (fun w h => List.mem_cons_of_mem _ (List.mem_append_right _ (List.mem_append_right _ (List.mem_append_right _ (List.mem_append_right _ (List.mem_append_right _ (List.mem_append_left _ h))))))) gd_e_addCar
  have ini_RX4 := hts (.initialized RX4) (List.mem_of_getElem? (i := 2) rfl)
  have im_X4_addCar := hts (.instanceMethod yX4_addCar) (List.mem_of_getElem? (i := 3) rfl)
  have se_X4_addCar := hts (.selects RX4 yX4_addCar yX4_addCar) (List.mem_of_getElem? (i := 4) rfl)
  refine lv_aload_n hx hb dX11_traffic_0 rfl (lv_at hlv 0 rfl) ?_
  refine lv_iload_n hx hb dX11_traffic_1 rfl (lv_at hlv 1 rfl) ?_
  refine lv_iconst (v := iI 0) hx hb dX11_traffic_2 (by decide) ?_
  refine lv_bipush (v := iI 99) hx hb dX11_traffic_3 (by decide) ?_
  refine cjr_i [true, true, true, true, true] (fun pre9 => (va_runS (As := [vI p0, vI 0, vI 99]) (rest := [vR kk]) ⟨hx, hb, hml, hown, hts⟩ (s_within l hl D cy sa p0 0 99 s.heap.size (by first | exact hr_p0 | omega) (by show ((-2147483648) : Int) ≤ 0 ∧ (0 : Int) ≤ 2147483647; decide) (by show ((-2147483648) : Int) ≤ 99 ∧ (99 : Int) ≤ 2147483647; decide)) (va_cwS 3 hts gg_0 rfl rfl rfl (by decide +kernel) ⟨Nat.le_of_ble_eq_true rfl, Nat.le_of_ble_eq_true rfl⟩) ⟨pcW.blind, pre9⟩ rfl rfl hlv.1 rfl (lv_room (Nat.le_of_ble_eq_true rfl)) dX11_traffic_5 ⟨Nat.le_of_ble_eq_true rfl, Nat.le_of_ble_eq_true rfl⟩)) hP hD hS hA hG hT [] rfl (by decide +kernel) (fun r1 u1 H locs hw1 hq9 hS => ?_)
  obtain ⟨rfl, hq1_1, hq1_2, hq1_3⟩ := hw1
  obtain ⟨hP, hD⟩ := pd9 [zO kk 11 [vR ta, vR kr, vR kl, vI nr, vI nw, vR sA, vR dA, vR pa, vR ki, vR kp, vI im, vR wa, vR or_, vR rq], zI rq (cy 0) 4 qf, zO sA 6 [vI wi, vI ro, vR s2, vR s3, vI dr, vI dt, vR s6, vI pe, vR s8, vI gu, vI sh, vR s11, vI wo, vR s13, vI dn, vI mi, vI fl, vI tk, vI go], zO pa 4 [vI cars, vR pt, vI dips, vR pd, vR ps], zI pt (cy 0) 100 tf] hq9
  refine iz_eq (tgt := 28) hx hb dX11_traffic_8 (by decide) (by first | exact rgw hq1_1 (by decide) (by decide) | omega) (fun c_1 => ?_) (fun c_1 => ?_)
  · refine lv_iconst (v := iI 0) hx hb dX11_traffic_28 (by decide) ?_
    refine cjrx_v [false, false, true, true, true] (fun pre9 => (vx_runV (As := [vI 0]) (rest := []) ⟨hx, hb, hml, hown, hts⟩ (k_needArgument l hl D cy sa kk ta kr kl sA dA pa ki kp wa or_ rq nr nw im qf 0 H.size (by first | exact hr_nr | omega) (by first | exact hr_nw | omega) (by first | exact hr_im | omega) (by show (0 : Int) ≤ 0 ∧ (0 : Int) ≤ 1; decide)) (cwV 1 hts gg_1 rfl rfl rfl (by decide +kernel) ⟨Nat.le_of_ble_eq_true rfl, Nat.le_of_ble_eq_true rfl⟩) ⟨pcW.blind, (va_recv hG.1 hP (ci := 11) (q0 := 0) rfl rfl), pre9⟩ rfl rfl hlv.1 rfl (lv_room (Nat.le_of_ble_eq_true rfl)) dX11_traffic_29 ⟨Nat.le_of_ble_eq_true rfl, Nat.le_of_ble_eq_true rfl⟩)) hP hD hS hA hG hT [0, 1] rfl (by decide +kernel) (fun E ux2 ce q9 H locs hp hq9 hS h1 h2 h3 => ?_) (fun u2 H locs hw2 hq9 hS => ?_)
    · obtain ⟨hP, hD⟩ := hq9
      obtain ⟨hp, hxg2⟩ := hp
      obtain rfl := hp
      exact vx_out (fun x h => (hex x h).elim) hlocks h1 h2 h3 (fun t ht hvm => ⟨((fun k => ([] : List Nat).getD k 0), (fun k => ([] : List Int).getD k 0), (fun k => ([(ux2.2.2 0)] : List (Nat → Int32)).getD k (fun _ => 0))), trivial, ⟨⟨rfl, by omega⟩, at9 ht hP hD [3, 4, 0, 1, 2] (by decide +kernel) rfl⟩, hS.F ht⟩) hS.2.2 (Nat.le_of_ble_eq_true rfl) (Nat.le_of_ble_eq_true rfl)
    have hq2_0 : ((0 : Int) = 1) := hw2
    obtain ⟨hP, hD⟩ := pd9 [zO sA 6 [vI wi, vI ro, vR s2, vR s3, vI dr, vI dt, vR s6, vI pe, vR s8, vI gu, vI sh, vR s11, vI wo, vR s13, vI dn, vI mi, vI fl, vI tk, vI go], zO pa 4 [vI cars, vR pt, vI dips, vR pd, vR ps], zI pt (cy 0) 100 tf, zO kk 11 [vR ta, vR kr, vR kl, vI nr, vI nw, vR sA, vR dA, vR pa, vR ki, vR kp, vI im, vR wa, vR or_, vR rq], zI rq (cy 0) 4 qf] hq9
    exfalso; omega
  · refine lv_aload_n hx hb dX11_traffic_11 rfl (lv_at hlv 0 rfl) ?_
    refine lv_iload_n hx hb dX11_traffic_12 rfl (lv_at hlv 2 rfl) ?_
    refine lv_iload_n hx hb dX11_traffic_13 rfl (lv_at hlv 3 rfl) ?_
    refine lv_iload hx hb dX11_traffic_14 (lv_at hlv 4 rfl) ?_
    refine lv_iload hx hb dX11_traffic_16 (lv_at hlv 5 rfl) ?_
    refine cjr_i [false, true, false, true, true] (fun pre9 => (va_runV (As := [vI p1, vI p2, vI p3, vI p4]) (rest := [vR kk]) ⟨hx, hb, hml, hown, hts⟩ (e_isCar l hl D cy sa kk ta kr kl sA dA pa ki kp wa or_ rq nr nw im s2 s3 s6 s8 s11 s13 wi ro dr dt pe gu sh wo dn mi fl tk go p1 p2 p3 p4 H.size (by first | exact hr_nr | omega) (by first | exact hr_nw | omega) (by first | exact hr_im | omega) (by first | exact hr_wi | omega) (by first | exact hr_ro | omega) (by first | exact hr_dr | omega) (by first | exact hr_dt | omega) (by first | exact hr_pe | omega) (by first | exact hr_gu | omega) (by first | exact hr_sh | omega) (by first | exact hr_wo | omega) (by first | exact hr_dn | omega) (by first | exact hr_mi | omega) (by first | exact hr_fl | omega) (by first | exact hr_tk | omega) (by first | exact hr_go | omega) (by first | exact hr_p1 | omega) (by first | exact hr_p2 | omega) (by first | exact hr_p3 | omega) (by first | exact hr_p4 | omega)) (cwV 4 hts gg_2 rfl rfl rfl (by decide +kernel) ⟨Nat.le_of_ble_eq_true rfl, Nat.le_of_ble_eq_true rfl⟩) ⟨pcW.blind, (va_recv hG.1 hP (ci := 11) (q0 := 0) rfl rfl), pre9⟩ rfl rfl hlv.1 rfl (lv_room (Nat.le_of_ble_eq_true rfl)) dX11_traffic_18 ⟨Nat.le_of_ble_eq_true rfl, Nat.le_of_ble_eq_true rfl⟩)) hP hD hS hA hG hT [0, 2] rfl (by decide +kernel) (fun r3 u3 H locs hw3 hq9 hS => ?_)
    obtain ⟨rfl, hq3_1, hq3_2, hq3_3⟩ := hw3
    obtain ⟨hP, hD⟩ := pd9 [zI rq (cy 0) 4 qf, zO pa 4 [vI cars, vR pt, vI dips, vR pd, vR ps], zI pt (cy 0) 100 tf, zO kk 11 [vR ta, vR kr, vR kl, vI nr, vI nw, vR sA, vR dA, vR pa, vR ki, vR kp, vI im, vR wa, vR or_, vR rq], zO sA 6 [vI wi, vI ro, vR s2, vR s3, vI dr, vI dt, vR s6, vI pe, vR s8, vI gu, vI sh, vR s11, vI wo, vR s13, vI dn, vI mi, vI fl, vI tk, vI go]] hq9
    refine iz_eq (tgt := 28) hx hb dX11_traffic_21 (by decide) (by first | exact rgw hq3_1 (by decide) (by decide) | omega) (fun c_2 => ?_) (fun c_2 => ?_)
    · refine lv_iconst (v := iI 0) hx hb dX11_traffic_28 (by decide) ?_
      refine cjrx_v [false, true, true, false, true] (fun pre9 => (vx_runV (As := [vI 0]) (rest := []) ⟨hx, hb, hml, hown, hts⟩ (k_needArgument l hl D cy sa kk ta kr kl sA dA pa ki kp wa or_ rq nr nw im qf 0 H.size (by first | exact hr_nr | omega) (by first | exact hr_nw | omega) (by first | exact hr_im | omega) (by show (0 : Int) ≤ 0 ∧ (0 : Int) ≤ 1; decide)) (cwV 1 hts gg_1 rfl rfl rfl (by decide +kernel) ⟨Nat.le_of_ble_eq_true rfl, Nat.le_of_ble_eq_true rfl⟩) ⟨pcW.blind, (va_recv hG.1 hP (ci := 11) (q0 := 3) rfl rfl), pre9⟩ rfl rfl hlv.1 rfl (lv_room (Nat.le_of_ble_eq_true rfl)) dX11_traffic_29 ⟨Nat.le_of_ble_eq_true rfl, Nat.le_of_ble_eq_true rfl⟩)) hP hD hS hA hG hT [3, 0] rfl (by decide +kernel) (fun E ux4 ce q9 H locs hp hq9 hS h1 h2 h3 => ?_) (fun u4 H locs hw4 hq9 hS => ?_)
      · obtain ⟨hP, hD⟩ := hq9
        obtain ⟨hp, hxg4⟩ := hp
        obtain rfl := hp
        exact vx_out (fun x h => (hex x h).elim) hlocks h1 h2 h3 (fun t ht hvm => ⟨((fun k => ([] : List Nat).getD k 0), (fun k => ([] : List Int).getD k 0), (fun k => ([(ux4.2.2 0)] : List (Nat → Int32)).getD k (fun _ => 0))), trivial, ⟨⟨rfl, by omega⟩, at9 ht hP hD [3, 4, 2, 0, 1] (by decide +kernel) rfl⟩, hS.F ht⟩) hS.2.2 (Nat.le_of_ble_eq_true rfl) (Nat.le_of_ble_eq_true rfl)
      have hq4_0 : ((0 : Int) = 1) := hw4
      obtain ⟨hP, hD⟩ := pd9 [zO pa 4 [vI cars, vR pt, vI dips, vR pd, vR ps], zI pt (cy 0) 100 tf, zO sA 6 [vI wi, vI ro, vR s2, vR s3, vI dr, vI dt, vR s6, vI pe, vR s8, vI gu, vI sh, vR s11, vI wo, vR s13, vI dn, vI mi, vI fl, vI tk, vI go], zO kk 11 [vR ta, vR kr, vR kl, vI nr, vI nw, vR sA, vR dA, vR pa, vR ki, vR kp, vI im, vR wa, vR or_, vR rq], zI rq (cy 0) 4 qf] hq9
      exfalso; omega
    · refine lv_iconst (v := iI 1) hx hb dX11_traffic_24 (by decide) ?_
      refine lv_goto (tgt := 29) hx hb dX11_traffic_25 (by decide) ?_
      refine cjrx_v [false, true, true, false, true] (fun pre9 => (vx_runV (As := [vI 1]) (rest := []) ⟨hx, hb, hml, hown, hts⟩ (k_needArgument l hl D cy sa kk ta kr kl sA dA pa ki kp wa or_ rq nr nw im qf 1 H.size (by first | exact hr_nr | omega) (by first | exact hr_nw | omega) (by first | exact hr_im | omega) (by show (0 : Int) ≤ 1 ∧ (1 : Int) ≤ 1; decide)) (cwV 1 hts gg_1 rfl rfl rfl (by decide +kernel) ⟨Nat.le_of_ble_eq_true rfl, Nat.le_of_ble_eq_true rfl⟩) ⟨pcW.blind, (va_recv hG.1 hP (ci := 11) (q0 := 3) rfl rfl), pre9⟩ rfl rfl hlv.1 rfl (lv_room (Nat.le_of_ble_eq_true rfl)) dX11_traffic_29 ⟨Nat.le_of_ble_eq_true rfl, Nat.le_of_ble_eq_true rfl⟩)) hP hD hS hA hG hT [3, 0] rfl (by decide +kernel) (fun E ux5 ce q9 H locs hp hq9 hS h1 h2 h3 => ?_) (fun u5 H locs hw5 hq9 hS => ?_)
      · obtain ⟨hP, hD⟩ := hq9
        obtain ⟨hp, hxg5⟩ := hp
        obtain rfl := hp
        exact vx_out (fun x h => (hex x h).elim) hlocks h1 h2 h3 (fun t ht hvm => ⟨((fun k => ([] : List Nat).getD k 0), (fun k => ([] : List Int).getD k 0), (fun k => ([(ux5.2.2 0)] : List (Nat → Int32)).getD k (fun _ => 0))), trivial, ⟨⟨rfl, by omega⟩, at9 ht hP hD [3, 4, 2, 0, 1] (by decide +kernel) rfl⟩, hS.F ht⟩) hS.2.2 (Nat.le_of_ble_eq_true rfl) (Nat.le_of_ble_eq_true rfl)
      have hq5_0 : ((1 : Int) = 1) := hw5
      obtain ⟨hP, hD⟩ := pd9 [zO pa 4 [vI cars, vR pt, vI dips, vR pd, vR ps], zI pt (cy 0) 100 tf, zO sA 6 [vI wi, vI ro, vR s2, vR s3, vI dr, vI dt, vR s6, vI pe, vR s8, vI gu, vI sh, vR s11, vI wo, vR s13, vI dn, vI mi, vI fl, vI tk, vI go], zO kk 11 [vR ta, vR kr, vR kl, vI nr, vI nw, vR sA, vR dA, vR pa, vR ki, vR kp, vI im, vR wa, vR or_, vR rq], zI rq (cy 0) 4 qf] hq9
      refine lv_aload_n hx hb dX11_traffic_32 rfl (lv_at hlv 0 rfl) ?_
      refine va_get (D := D) (ci := 11) (v := vR pa) (C := RX11) (T := TX11) (N := 14) hx hb hts hi11 hown hG.1 hP 3 rfl rfl 7 (by decide) lf41 (fun _ h9 => h9) rfl dX11_traffic_33 ?_
      refine lv_iload_n hx hb dX11_traffic_36 rfl (lv_at hlv 1 rfl) ?_
      refine lv_iload_n hx hb dX11_traffic_37 rfl (lv_at hlv 2 rfl) ?_
      refine lv_iload_n hx hb dX11_traffic_38 rfl (lv_at hlv 3 rfl) ?_
      refine lv_iload hx hb dX11_traffic_39 (lv_at hlv 4 rfl) ?_
      refine lv_iload hx hb dX11_traffic_41 (lv_at hlv 5 rfl) ?_
      refine cjr_i [false, false, true, true, true] (fun pre9 => (va_runVN (host := "KerbSplash") (As := [vI p0, vI p1, vI p2, vI p3, vI p4]) (rest := []) ⟨hx, hb, hml, hown, hts⟩ (e_addCar l hl D cy sa pa pt pd ps cars dips tf p0 p1 p2 p3 p4 H.size (by first | exact hr_cars | omega) (by first | exact hr_dips | omega) (by omega) (by omega) (by first | exact hr_p2 | omega) (by first | exact hr_p3 | omega) (by first | exact hr_p4 | omega) htf) ⟨va_cnB 5 hts gg_4 rfl rfl rfl (nM_K_255 hG.2.1) ini_RX4 (by decide +kernel) ⟨Nat.le_of_ble_eq_true rfl, Nat.le_of_ble_eq_true rfl⟩, im_X4_addCar, se_X4_addCar⟩ ⟨pcW.blind, (va_recv hG.1 hP (ci := 4) (q0 := 0) rfl rfl), pre9⟩ rfl rfl hlv.1 rfl (lv_room (Nat.le_of_ble_eq_true rfl)) dX11_traffic_43 ⟨Nat.le_of_ble_eq_true rfl, Nat.le_of_ble_eq_true rfl⟩)) hP hD hS hA hG hT [0, 1] rfl (by decide +kernel) (fun r6 u6 H locs hw6 hq9 hS => ?_)
      obtain ⟨rfl, hq6_1, hq6_2, hq6_3, hq6_4, hq6_5, hq6_6, hq6_7⟩ := hw6
      obtain ⟨hP, hD⟩ := pd9 [zO sA 6 [vI wi, vI ro, vR s2, vR s3, vI dr, vI dt, vR s6, vI pe, vR s8, vI gu, vI sh, vR s11, vI wo, vR s13, vI dn, vI mi, vI fl, vI tk, vI go], zO kk 11 [vR ta, vR kr, vR kl, vI nr, vI nw, vR sA, vR dA, vR pa, vR ki, vR kp, vI im, vR wa, vR or_, vR rq], zI rq (cy 0) 4 qf, zO pa 4 [vI (u6.2.1 1), vR pt, vI dips, vR pd, vR ps], zI pt (cy 0) 100 (u6.2.2 0)] hq9
      refine W.widen (k := 1) (n := 6) (Nat.le_of_ble_eq_true rfl) (Nat.le_of_ble_eq_true rfl) ?_
      refine vx_ret ?_
      exact W.iret (v := iI (u6.2.1 0)) hx hb hr (fun t ht hW => ⟨⟨iI (u6.2.1 0), ((fun k => ([] : List Nat).getD k 0), (fun k => ([(u6.2.1 0), (u6.2.1 1)] : List Int).getD k 0), (fun k => ([(u6.2.2 0)] : List (Nat → Int32)).getD k (fun _ => 0))), rfl, ⟨rfl, (by show ((-1) ≤ (u6.2.1 0) ∧ (u6.2.1 0) ≤ 20); first | exact hq6_1 | omega), (by show (0 ≤ (u6.2.1 1) ∧ (u6.2.1 1) ≤ 20); first | exact hq6_2 | omega), (by show (0 ≤ p0 ∧ p0 ≤ 99 ∧ 0 ≤ p1 ∧ p1 ≤ ro - 1 ∧ 1 ≤ p2 ∧ p2 ≤ 60 ∧ 1 ≤ p3 ∧ p3 ≤ 9 ∧ 0 ≤ p4 ∧ p4 ≤ 3); omega), (by show (cars < 20 → (u6.2.1 1) = cars + 1 ∧ (u6.2.1 0) = cars + 1); first | exact hq6_3 | omega), (by show (cars = 20 → (u6.2.1 1) = cars ∧ (u6.2.1 0) = -1); first | exact hq6_4 | omega), (by show (cars < 20 → nz ((u6.2.2 0)) = carT (nz tf) cars p0 p1 p2 p3 p4); exact hq6_5), (by show (cars = 20 → ((u6.2.2 0)) = tf); exact hq6_6), hq6_7⟩, at9 ht hP hD [1, 2, 0, 3, 4] (by decide +kernel) rfl⟩, hS.F ht⟩) hS.2.2 dX11_traffic_46
def vs_e_clear : List Cond := .code yX11_clear cX11_clear 2 (some .int) :: (([.fieldLink RX11 41 "KerbSplash" "plan" "LKerbSplash$Plan;"] : List Cond) ++ ((wsX110) ++ ((wsX40) ++ ([]))))
set_option maxHeartbeats 4000000 in
set_option maxRecDepth 100000 in
theorem e_clear (l : Launch) (hl : l.stackTraces = false) (D : va_G) (cy : Nat → ClassId) (sa : Nat → Nat) (kk ta kr kl sA dA pa ki kp wa or_ rq : Nat) (nr nw im : Int) (pt pd ps : Nat) (cars dips : Int) (sz : Nat) (hr_nr : 0 ≤ nr ∧ nr ≤ 4) (hr_nw : 0 ≤ nw ∧ nw ≤ 4) (hr_im : 0 ≤ im ∧ im ≤ 3) (hr_cars : 0 ≤ cars ∧ cars ≤ 20) (hr_dips : 0 ≤ dips ∧ dips ≤ 9) : mI9 l yX11_clear vs_e_clear ({ frames := 0, cells := 0, slots := 0, locals := 0 }) D cy sa sz [vR kk] [zO kk 11 [vR ta, vR kr, vR kl, vI nr, vI nw, vR sA, vR dA, vR pa, vR ki, vR kp, vI im, vR wa, vR or_, vR rq], zO pa 4 [vI cars, vR pt, vI dips, vR pd, vR ps]] (fun (r : Int32) (u : SV) => r = iI (u.2.1 0) ∧ (0 ≤ u.2.1 0 ∧ u.2.1 0 ≤ 20) ∧ (u.2.1 0 = cars)) (fun u : SV => [zO kk 11 [vR ta, vR kr, vR kl, vI nr, vI nw, vR sA, vR dA, vR pa, vR ki, vR kp, vI im, vR wa, vR or_, vR rq], zO pa 4 [vI 0, vR pt, vI dips, vR pd, vR ps]]) 0 0 := by
  refine Met.ofW (cc := cX11_clear) (maxL := 2) (ret := (some .int)) (by decide) rfl ?_
  intro p e s m args below meth c s₁ B hml hv
  obtain ⟨rfl, hsz, hP, hG, hD0, hT⟩ := hv
  have hx := B.exec
  have hb := B.bytes
  have hr := B.returns
  have hts := atoms_spec (ws := vs_e_clear) B.pre
  have hown : s.vm.findClass RX11 = some m.cls := findClass_of_methodNamed B.named
  have hlocks := B.notSynchronized
  subst hsz
  have hD := hD0.self (sz := s.heap.size)
  generalize hAe : va_A [zO kk 11 [vR ta, vR kr, vR kl, vI nr, vI nw, vR sA, vR dA, vR pa, vR ki, vR kp, vI im, vR wa, vR or_, vR rq], zO pa 4 [vI cars, vR pt, vI dips, vR pd, vR ps]] s.heap.size = A at hD hT ⊢
  have hA : ∀ q : Nat, s.heap.size ≤ q → A q := fun q h => by rw [← hAe]; exact Or.inr h
  have hS : va_S A s.heap s.heap [] := va_S.rf
  have hl0 := lv_entry ([vR kk]) (n := 2) (Nat.le_of_ble_eq_true rfl)
  rw [lg_entry_eq]
  generalize (lg_sl ([vR kk]) ++ List.replicate (2 - (lg_sl ([vR kk])).length) Slot.unset).toArray = ls at hl0 ⊢
  have hlv : lv_has ls 2 [(0, vR kk)] := hl0
  have lf41 := hts (.fieldLink RX11 41 "KerbSplash" "plan" "LKerbSplash$Plan;") (List.mem_of_getElem? (i := 1) rfl)
  have hi11 : ∀ w ∈ wsX110, w ∈ vs_e_clear := fun w h => List.mem_cons_of_mem _ (List.mem_append_right _ (List.mem_append_left _ h))
  have hi4 : ∀ w ∈ wsX40, w ∈ vs_e_clear := fun w h => List.mem_cons_of_mem _ (List.mem_append_right _ (List.mem_append_right _ (List.mem_append_left _ h)))
  refine lv_aload_n hx hb dX11_clear_0 rfl (lv_at hlv 0 rfl) ?_
  refine va_get (D := D) (ci := 11) (v := vR pa) (C := RX11) (T := TX11) (N := 14) hx hb hts hi11 hown hG.1 hP 0 rfl rfl 7 (by decide) lf41 (fun _ h9 => h9) rfl dX11_clear_1 ?_
  refine va_getN (D := D) (ci := 4) (v := vI cars) (C := RX4) (T := TX4) (N := 5) hx hb hts hi4 hown hG.1 hP 1 rfl rfl 0 (by decide) (va_Nw.use rfl (nF_K_263 hG.2.1)) (fun _ h9 => h9) rfl dX11_clear_4 ?_
  refine lv_istore_n (lv' := [(1, vI cars), (0, vR kk)]) hx hb dX11_clear_7 rfl hlv (by decide) rfl (fun ls hlv => ?_)
  refine lv_aload_n hx hb dX11_clear_8 rfl (lv_at hlv 1 rfl) ?_
  refine va_get (D := D) (ci := 11) (v := vR pa) (C := RX11) (T := TX11) (N := 14) hx hb hts hi11 hown hG.1 hP 0 rfl rfl 7 (by decide) lf41 (fun _ h9 => h9) rfl dX11_clear_9 ?_
  refine lv_iconst (v := iI 0) hx hb dX11_clear_12 (by decide) ?_
  refine va_putN (D := D) (ci := 4) (v := vI 0) (ty := .int) (C := RX4) (T := TX4) (N := 5) hx hb hts hi4 tyX4 tyX4_ok nmX4 hown hG.1 hP hD hS 1 rfl rfl 0 (by decide) (va_Nw.use rfl (nF_K_263 hG.2.1)) (fun _ h9 => h9) rfl (by decide +kernel) rfl rfl (Nat.le_of_ble_eq_true rfl) dX11_clear_13 (fun H locs hP hD hS => ?_)
  obtain ⟨hP, hD⟩ := pw9 [zO kk 11 [vR ta, vR kr, vR kl, vI nr, vI nw, vR sA, vR dA, vR pa, vR ki, vR kp, vI im, vR wa, vR or_, vR rq], zO pa 4 [vI 0, vR pt, vI dips, vR pd, vR ps]] hP hD
  refine lv_iload_n hx hb dX11_clear_16 rfl (lv_at hlv 0 rfl) ?_
  refine W.widen (k := 0) (n := 0) (Nat.le_of_ble_eq_true rfl) (Nat.le_of_ble_eq_true rfl) ?_
  exact W.iret (v := iI cars) hx hb hr (fun t ht hW => ⟨⟨iI cars, ((fun k => ([] : List Nat).getD k 0), (fun k => ([cars] : List Int).getD k 0), (fun k => ([] : List (Nat → Int32)).getD k (fun _ => 0))), rfl, ⟨rfl, (by show (0 ≤ cars ∧ cars ≤ 20); first | exact hr_cars | omega), (by show (cars = cars); omega)⟩, at9 ht hP hD [0, 1] (by decide +kernel) rfl⟩, hS.F ht⟩) hS.2.2 dX11_clear_17
def vs_e_share : List Cond := .code yX11_share cX11_share 4 (some .int) :: (([.fieldLink RX11 41 "KerbSplash" "plan" "LKerbSplash$Plan;"] : List Cond) ++ ((va_wsS RX11 130 yX11_isWithin vs_s_within) ++ ((wsV RX11 134 RX11 yX11_needArgument vs_k_needArgument) ++ ((wsX110) ++ ((wsX40) ++ ([]))))))
theorem gd_e_share : vs_e_share.all goodWord = true := gd_C (by decide +kernel) (gd_A (by decide +kernel) (gd_A (gd_S gd_s_within (by decide +kernel)) (gd_A (gd_V gd_k_needArgument (by decide +kernel)) (gd_A (by decide +kernel) (gd_A (by decide +kernel) rfl)))))
set_option maxHeartbeats 4000000 in
set_option maxRecDepth 100000 in
theorem e_share (l : Launch) (hl : l.stackTraces = false) (D : va_G) (cy : Nat → ClassId) (sa : Nat → Nat) (kk ta kr kl sA dA pa ki kp wa or_ rq : Nat) (nr nw im : Int) (qf : Nat → Int32) (pt pd ps : Nat) (cars dips : Int) (shf : Nat → Int32) (n k : Int) (sz : Nat) (hr_nr : 0 ≤ nr ∧ nr ≤ 4) (hr_nw : 0 ≤ nw ∧ nw ≤ 4) (hr_im : 0 ≤ im ∧ im ≤ 3) (hr_cars : 0 ≤ cars ∧ cars ≤ 20) (hr_dips : 0 ≤ dips ∧ dips ≤ 9) (hr_n : (-2147483648) ≤ n ∧ n ≤ 2147483647) (hr_k : (-2147483648) ≤ k ∧ k ≤ 2147483647) : xI9 l yX11_share vs_e_share ({ frames := 7, cells := 1, slots := 6, locals := 121 }) D cy sa sz [vR kk, vI n, vI k] [zO kk 11 [vR ta, vR kr, vR kl, vI nr, vI nw, vR sA, vR dA, vR pa, vR ki, vR kp, vI im, vR wa, vR or_, vR rq], zI rq (cy 0) 4 qf, zO pa 4 [vI cars, vR pt, vI dips, vR pd, vR ps], zI ps (cy 0) 4 shf] (fun (r : Int32) (u : SV) => r = iI (u.2.1 0) ∧ ((-2147483648) ≤ u.2.1 0 ∧ u.2.1 0 ≤ 2147483647) ∧ (0 ≤ n ∧ n ≤ 3 ∧ 0 ≤ k ∧ k ≤ 99) ∧ ((u.2.1 0) = nz shf n.toNat) ∧ (nz (u.2.2 0) = upz (nz shf) n k)) (fun u : SV => [zO kk 11 [vR ta, vR kr, vR kl, vI nr, vI nw, vR sA, vR dA, vR pa, vR ki, vR kp, vI im, vR wa, vR or_, vR rq], zI rq (cy 0) 4 qf, zO pa 4 [vI cars, vR pt, vI dips, vR pd, vR ps], zI ps (cy 0) 4 (u.2.2 0)]) (fun (E : String) (u : SV) => (E = "java/lang/IllegalArgumentException") ∧ (¬ (0 ≤ n ∧ n ≤ 3 ∧ 0 ≤ k ∧ k ≤ 99))) (fun u : SV => [zO kk 11 [vR ta, vR kr, vR kl, vI nr, vI nw, vR sA, vR dA, vR pa, vR ki, vR kp, vI im, vR wa, vR or_, vR rq], zI rq (cy 0) 4 (u.2.2 0), zO pa 4 [vI cars, vR pt, vI dips, vR pd, vR ps], zI ps (cy 0) 4 shf]) 1 6 := by
  refine vx_ofW (cc := cX11_share) (maxL := 4) (ret := (some .int)) (by decide) rfl ?_
  intro p e s m args below meth c s₁ B hml hex hv
  obtain ⟨rfl, hsz, hP, hG, hD0, hT⟩ := hv
  have hx := B.exec
  have hb := B.bytes
  have hr := B.returns
  have hts := atoms_spec (ws := vs_e_share) B.pre
  have hown : s.vm.findClass RX11 = some m.cls := findClass_of_methodNamed B.named
  have hlocks := B.notSynchronized
  subst hsz
  have hD := hD0.self (sz := s.heap.size)
  generalize hAe : va_A [zO kk 11 [vR ta, vR kr, vR kl, vI nr, vI nw, vR sA, vR dA, vR pa, vR ki, vR kp, vI im, vR wa, vR or_, vR rq], zI rq (cy 0) 4 qf, zO pa 4 [vI cars, vR pt, vI dips, vR pd, vR ps], zI ps (cy 0) 4 shf] s.heap.size = A at hD hT ⊢
  have hA : ∀ q : Nat, s.heap.size ≤ q → A q := fun q h => by rw [← hAe]; exact Or.inr h
  have hS : va_S A s.heap s.heap [] := va_S.rf
  have hl0 := lv_entry ([vR kk, vI n, vI k]) (n := 4) (Nat.le_of_ble_eq_true rfl)
  rw [lg_entry_eq]
  generalize (lg_sl ([vR kk, vI n, vI k]) ++ List.replicate (4 - (lg_sl ([vR kk, vI n, vI k])).length) Slot.unset).toArray = ls at hl0 ⊢
  have hlv : lv_has ls 4 [(0, vR kk), (1, vI n), (2, vI k)] := hl0
  have gg_0 : GoodIn vs_e_share (va_wsS RX11 130 yX11_isWithin vs_s_within) := goodIn_sub (fun w h => List.mem_cons_of_mem _ (List.mem_append_right _ (List.mem_append_left _ h))) (gd_S gd_s_within (by decide +kernel))
  have gg_1 : GoodIn vs_e_share (wsV RX11 134 RX11 yX11_needArgument vs_k_needArgument) := goodIn_sub (fun w h => List.mem_cons_of_mem _ (List.mem_append_right _ (List.mem_append_right _ (List.mem_append_left _ h)))) (gd_V gd_k_needArgument (by decide +kernel))
  have lf41 := hts (.fieldLink RX11 41 "KerbSplash" "plan" "LKerbSplash$Plan;") (List.mem_of_getElem? (i := 1) rfl)
  have hi11 : ∀ w ∈ wsX110, w ∈ vs_e_share := fun w h => List.mem_cons_of_mem _ (List.mem_append_right _ (List.mem_append_right _ (List.mem_append_right _ (List.mem_append_left _ h))))
  have hi4 : ∀ w ∈ wsX40, w ∈ vs_e_share := fun w h => List.mem_cons_of_mem _ (List.mem_append_right _ (List.mem_append_right _ (List.mem_append_right _ (List.mem_append_right _ (List.mem_append_left _ h)))))
  refine lv_aload_n hx hb dX11_share_0 rfl (lv_at hlv 0 rfl) ?_
  refine lv_iload_n hx hb dX11_share_1 rfl (lv_at hlv 1 rfl) ?_
  refine lv_iconst (v := iI 0) hx hb dX11_share_2 (by decide) ?_
  refine lv_iconst (v := iI 3) hx hb dX11_share_3 (by decide) ?_
  refine cjr_i [true, true, true, true] (fun pre9 => (va_runS (As := [vI n, vI 0, vI 3]) (rest := [vR kk]) ⟨hx, hb, hml, hown, hts⟩ (s_within l hl D cy sa n 0 3 s.heap.size (by first | exact hr_n | omega) (by show ((-2147483648) : Int) ≤ 0 ∧ (0 : Int) ≤ 2147483647; decide) (by show ((-2147483648) : Int) ≤ 3 ∧ (3 : Int) ≤ 2147483647; decide)) (va_cwS 3 hts gg_0 rfl rfl rfl (by decide +kernel) ⟨Nat.le_of_ble_eq_true rfl, Nat.le_of_ble_eq_true rfl⟩) ⟨pcW.blind, pre9⟩ rfl rfl hlv.1 rfl (lv_room (Nat.le_of_ble_eq_true rfl)) dX11_share_4 ⟨Nat.le_of_ble_eq_true rfl, Nat.le_of_ble_eq_true rfl⟩)) hP hD hS hA hG hT [] rfl (by decide +kernel) (fun r1 u1 H locs hw1 hq9 hS => ?_)
  obtain ⟨rfl, hq1_1, hq1_2, hq1_3⟩ := hw1
  obtain ⟨hP, hD⟩ := pd9 [zO kk 11 [vR ta, vR kr, vR kl, vI nr, vI nw, vR sA, vR dA, vR pa, vR ki, vR kp, vI im, vR wa, vR or_, vR rq], zI rq (cy 0) 4 qf, zO pa 4 [vI cars, vR pt, vI dips, vR pd, vR ps], zI ps (cy 0) 4 shf] hq9
  refine iz_eq (tgt := 24) hx hb dX11_share_7 (by decide) (by first | exact rgw hq1_1 (by decide) (by decide) | omega) (fun c_1 => ?_) (fun c_1 => ?_)
  · refine lv_iconst (v := iI 0) hx hb dX11_share_24 (by decide) ?_
    refine cjrx_v [false, false, true, true] (fun pre9 => (vx_runV (As := [vI 0]) (rest := []) ⟨hx, hb, hml, hown, hts⟩ (k_needArgument l hl D cy sa kk ta kr kl sA dA pa ki kp wa or_ rq nr nw im qf 0 H.size (by first | exact hr_nr | omega) (by first | exact hr_nw | omega) (by first | exact hr_im | omega) (by show (0 : Int) ≤ 0 ∧ (0 : Int) ≤ 1; decide)) (cwV 1 hts gg_1 rfl rfl rfl (by decide +kernel) ⟨Nat.le_of_ble_eq_true rfl, Nat.le_of_ble_eq_true rfl⟩) ⟨pcW.blind, (va_recv hG.1 hP (ci := 11) (q0 := 0) rfl rfl), pre9⟩ rfl rfl hlv.1 rfl (lv_room (Nat.le_of_ble_eq_true rfl)) dX11_share_25 ⟨Nat.le_of_ble_eq_true rfl, Nat.le_of_ble_eq_true rfl⟩)) hP hD hS hA hG hT [0, 1] rfl (by decide +kernel) (fun E ux2 ce q9 H locs hp hq9 hS h1 h2 h3 => ?_) (fun u2 H locs hw2 hq9 hS => ?_)
    · obtain ⟨hP, hD⟩ := hq9
      obtain ⟨hp, hxg2⟩ := hp
      obtain rfl := hp
      exact vx_out (fun x h => (hex x h).elim) hlocks h1 h2 h3 (fun t ht hvm => ⟨((fun k => ([] : List Nat).getD k 0), (fun k => ([] : List Int).getD k 0), (fun k => ([(ux2.2.2 0)] : List (Nat → Int32)).getD k (fun _ => 0))), trivial, ⟨⟨rfl, by omega⟩, at9 ht hP hD [2, 3, 0, 1] (by decide +kernel) rfl⟩, hS.F ht⟩) hS.2.2 (Nat.le_of_ble_eq_true rfl) (Nat.le_of_ble_eq_true rfl)
    have hq2_0 : ((0 : Int) = 1) := hw2
    obtain ⟨hP, hD⟩ := pd9 [zO pa 4 [vI cars, vR pt, vI dips, vR pd, vR ps], zI ps (cy 0) 4 shf, zO kk 11 [vR ta, vR kr, vR kl, vI nr, vI nw, vR sA, vR dA, vR pa, vR ki, vR kp, vI im, vR wa, vR or_, vR rq], zI rq (cy 0) 4 qf] hq9
    exfalso; omega
  · refine lv_iload_n hx hb dX11_share_10 rfl (lv_at hlv 2 rfl) ?_
    refine lv_iconst (v := iI 0) hx hb dX11_share_11 (by decide) ?_
    refine lv_bipush (v := iI 99) hx hb dX11_share_12 (by decide) ?_
    refine cjr_i [true, true, true, true] (fun pre9 => (va_runS (As := [vI k, vI 0, vI 99]) (rest := [vR kk]) ⟨hx, hb, hml, hown, hts⟩ (s_within l hl D cy sa k 0 99 H.size (by first | exact hr_k | omega) (by show ((-2147483648) : Int) ≤ 0 ∧ (0 : Int) ≤ 2147483647; decide) (by show ((-2147483648) : Int) ≤ 99 ∧ (99 : Int) ≤ 2147483647; decide)) (va_cwS 3 hts gg_0 rfl rfl rfl (by decide +kernel) ⟨Nat.le_of_ble_eq_true rfl, Nat.le_of_ble_eq_true rfl⟩) ⟨pcW.blind, pre9⟩ rfl rfl hlv.1 rfl (lv_room (Nat.le_of_ble_eq_true rfl)) dX11_share_14 ⟨Nat.le_of_ble_eq_true rfl, Nat.le_of_ble_eq_true rfl⟩)) hP hD hS hA hG hT [] rfl (by decide +kernel) (fun r3 u3 H locs hw3 hq9 hS => ?_)
    obtain ⟨rfl, hq3_1, hq3_2, hq3_3⟩ := hw3
    obtain ⟨hP, hD⟩ := pd9 [zO kk 11 [vR ta, vR kr, vR kl, vI nr, vI nw, vR sA, vR dA, vR pa, vR ki, vR kp, vI im, vR wa, vR or_, vR rq], zI rq (cy 0) 4 qf, zO pa 4 [vI cars, vR pt, vI dips, vR pd, vR ps], zI ps (cy 0) 4 shf] hq9
    refine iz_eq (tgt := 24) hx hb dX11_share_17 (by decide) (by first | exact rgw hq3_1 (by decide) (by decide) | omega) (fun c_2 => ?_) (fun c_2 => ?_)
    · refine lv_iconst (v := iI 0) hx hb dX11_share_24 (by decide) ?_
      refine cjrx_v [false, false, true, true] (fun pre9 => (vx_runV (As := [vI 0]) (rest := []) ⟨hx, hb, hml, hown, hts⟩ (k_needArgument l hl D cy sa kk ta kr kl sA dA pa ki kp wa or_ rq nr nw im qf 0 H.size (by first | exact hr_nr | omega) (by first | exact hr_nw | omega) (by first | exact hr_im | omega) (by show (0 : Int) ≤ 0 ∧ (0 : Int) ≤ 1; decide)) (cwV 1 hts gg_1 rfl rfl rfl (by decide +kernel) ⟨Nat.le_of_ble_eq_true rfl, Nat.le_of_ble_eq_true rfl⟩) ⟨pcW.blind, (va_recv hG.1 hP (ci := 11) (q0 := 0) rfl rfl), pre9⟩ rfl rfl hlv.1 rfl (lv_room (Nat.le_of_ble_eq_true rfl)) dX11_share_25 ⟨Nat.le_of_ble_eq_true rfl, Nat.le_of_ble_eq_true rfl⟩)) hP hD hS hA hG hT [0, 1] rfl (by decide +kernel) (fun E ux4 ce q9 H locs hp hq9 hS h1 h2 h3 => ?_) (fun u4 H locs hw4 hq9 hS => ?_)
      · obtain ⟨hP, hD⟩ := hq9
        obtain ⟨hp, hxg4⟩ := hp
        obtain rfl := hp
        exact vx_out (fun x h => (hex x h).elim) hlocks h1 h2 h3 (fun t ht hvm => ⟨((fun k => ([] : List Nat).getD k 0), (fun k => ([] : List Int).getD k 0), (fun k => ([(ux4.2.2 0)] : List (Nat → Int32)).getD k (fun _ => 0))), trivial, ⟨⟨rfl, by omega⟩, at9 ht hP hD [2, 3, 0, 1] (by decide +kernel) rfl⟩, hS.F ht⟩) hS.2.2 (Nat.le_of_ble_eq_true rfl) (Nat.le_of_ble_eq_true rfl)
      have hq4_0 : ((0 : Int) = 1) := hw4
      obtain ⟨hP, hD⟩ := pd9 [zO pa 4 [vI cars, vR pt, vI dips, vR pd, vR ps], zI ps (cy 0) 4 shf, zO kk 11 [vR ta, vR kr, vR kl, vI nr, vI nw, vR sA, vR dA, vR pa, vR ki, vR kp, vI im, vR wa, vR or_, vR rq], zI rq (cy 0) 4 qf] hq9
      exfalso; omega
    · refine lv_iconst (v := iI 1) hx hb dX11_share_20 (by decide) ?_
      refine lv_goto (tgt := 25) hx hb dX11_share_21 (by decide) ?_
      refine cjrx_v [false, false, true, true] (fun pre9 => (vx_runV (As := [vI 1]) (rest := []) ⟨hx, hb, hml, hown, hts⟩ (k_needArgument l hl D cy sa kk ta kr kl sA dA pa ki kp wa or_ rq nr nw im qf 1 H.size (by first | exact hr_nr | omega) (by first | exact hr_nw | omega) (by first | exact hr_im | omega) (by show (0 : Int) ≤ 1 ∧ (1 : Int) ≤ 1; decide)) (cwV 1 hts gg_1 rfl rfl rfl (by decide +kernel) ⟨Nat.le_of_ble_eq_true rfl, Nat.le_of_ble_eq_true rfl⟩) ⟨pcW.blind, (va_recv hG.1 hP (ci := 11) (q0 := 0) rfl rfl), pre9⟩ rfl rfl hlv.1 rfl (lv_room (Nat.le_of_ble_eq_true rfl)) dX11_share_25 ⟨Nat.le_of_ble_eq_true rfl, Nat.le_of_ble_eq_true rfl⟩)) hP hD hS hA hG hT [0, 1] rfl (by decide +kernel) (fun E ux5 ce q9 H locs hp hq9 hS h1 h2 h3 => ?_) (fun u5 H locs hw5 hq9 hS => ?_)
      · obtain ⟨hP, hD⟩ := hq9
        obtain ⟨hp, hxg5⟩ := hp
        obtain rfl := hp
        exact vx_out (fun x h => (hex x h).elim) hlocks h1 h2 h3 (fun t ht hvm => ⟨((fun k => ([] : List Nat).getD k 0), (fun k => ([] : List Int).getD k 0), (fun k => ([(ux5.2.2 0)] : List (Nat → Int32)).getD k (fun _ => 0))), trivial, ⟨⟨rfl, by omega⟩, at9 ht hP hD [2, 3, 0, 1] (by decide +kernel) rfl⟩, hS.F ht⟩) hS.2.2 (Nat.le_of_ble_eq_true rfl) (Nat.le_of_ble_eq_true rfl)
      have hq5_0 : ((1 : Int) = 1) := hw5
      obtain ⟨hP, hD⟩ := pd9 [zO pa 4 [vI cars, vR pt, vI dips, vR pd, vR ps], zI ps (cy 0) 4 shf, zO kk 11 [vR ta, vR kr, vR kl, vI nr, vI nw, vR sA, vR dA, vR pa, vR ki, vR kp, vI im, vR wa, vR or_, vR rq], zI rq (cy 0) 4 qf] hq9
      refine lv_aload_n hx hb dX11_share_28 rfl (lv_at hlv 0 rfl) ?_
      refine va_get (D := D) (ci := 11) (v := vR pa) (C := RX11) (T := TX11) (N := 14) hx hb hts hi11 hown hG.1 hP 2 rfl rfl 7 (by decide) lf41 (fun _ h9 => h9) rfl dX11_share_29 ?_
      refine va_getN (D := D) (ci := 4) (v := vR ps) (C := RX4) (T := TX4) (N := 5) hx hb hts hi4 hown hG.1 hP 0 rfl rfl 4 (by decide) (va_Nw.use rfl (nF_K_301 hG.2.1)) (fun _ h9 => h9) rfl dX11_share_32 ?_
      refine lv_iload_n hx hb dX11_share_35 rfl (lv_at hlv 1 rfl) ?_
      refine va_iald hx hb hG.1 hP 1 0 rfl rfl (iI_in (by omega) (by decide)) dX11_share_36 ?_
      refine lt_nz (i := n) (by omega) (fun z_3 hz_3 lz_3 uz_3 => ?_)
      refine lv_istore_n (lv' := [(3, vI z_3), (0, vR kk), (1, vI n), (2, vI k)]) hx hb dX11_share_37 rfl hlv (by decide) rfl (fun ls hlv => ?_)
      refine lv_aload_n hx hb dX11_share_38 rfl (lv_at hlv 1 rfl) ?_
      refine va_get (D := D) (ci := 11) (v := vR pa) (C := RX11) (T := TX11) (N := 14) hx hb hts hi11 hown hG.1 hP 2 rfl rfl 7 (by decide) lf41 (fun _ h9 => h9) rfl dX11_share_39 ?_
      refine va_getN (D := D) (ci := 4) (v := vR ps) (C := RX4) (T := TX4) (N := 5) hx hb hts hi4 hown hG.1 hP 0 rfl rfl 4 (by decide) (va_Nw.use rfl (nF_K_301 hG.2.1)) (fun _ h9 => h9) rfl dX11_share_42 ?_
      refine lv_iload_n hx hb dX11_share_45 rfl (lv_at hlv 2 rfl) ?_
      refine lv_iload_n hx hb dX11_share_46 rfl (lv_at hlv 3 rfl) ?_
      refine va_iast hx hb hG.1 hP hD hS 1 0 rfl rfl (iI_in (by omega) (by decide)) dX11_share_47 (fun H locs hP hD hS => ?_)
      obtain ⟨f_4, hdf_4, hP, hD⟩ := pe9e (fun f_4 => [zO pa 4 [vI cars, vR pt, vI dips, vR pd, vR ps], zI ps (cy 0) 4 f_4, zO kk 11 [vR ta, vR kr, vR kl, vI nr, vI nw, vR sA, vR dA, vR pa, vR ki, vR kp, vI im, vR wa, vR or_, vR rq], zI rq (cy 0) 4 qf]) (upd shf (iI n).toNatClampNeg (iI k)) hP hD
      refine lv_iload_n hx hb dX11_share_48 rfl (lv_at hlv 0 rfl) ?_
      refine W.widen (k := 1) (n := 6) (Nat.le_of_ble_eq_true rfl) (Nat.le_of_ble_eq_true rfl) ?_
      refine vx_ret ?_
      exact W.iret (v := iI z_3) hx hb hr (fun t ht hW => ⟨⟨iI z_3, ((fun k => ([] : List Nat).getD k 0), (fun k => ([z_3] : List Int).getD k 0), (fun k => ([f_4] : List (Nat → Int32)).getD k (fun _ => 0))), rfl, ⟨rfl, (by show ((-2147483648) ≤ z_3 ∧ z_3 ≤ 2147483647); omega), (by show (0 ≤ n ∧ n ≤ 3 ∧ 0 ≤ k ∧ k ≤ 99); omega), (by show ((z_3) = nz shf n.toNat); exact (by omega)), (by show (nz (f_4) = upz (nz shf) n k); exact (upz_c rfl hdf_4 (by omega) (by omega) (by omega) (by omega)))⟩, at9 ht hP hD [2, 3, 0, 1] (by decide +kernel) rfl⟩, hS.F ht⟩) hS.2.2 dX11_share_49
def vs_e_dip : List Cond := .code yX11_dip cX11_dip 4 (some .int) :: (([.fieldLink RX11 41 "KerbSplash" "plan" "LKerbSplash$Plan;", .initialized RX4, .instanceMethod yX4_addDip, .selects RX4 yX4_addDip yX4_addDip] : List Cond) ++ ((va_wsS RX11 130 yX11_isWithin vs_s_within) ++ ((wsV RX11 134 RX11 yX11_needArgument vs_k_needArgument) ++ ((wsX110) ++ ((vs_e_addDip) ++ ([]))))))
theorem gd_e_dip : vs_e_dip.all goodWord = true := gd_C (by decide +kernel) (gd_A (by decide +kernel) (gd_A (gd_S gd_s_within (by decide +kernel)) (gd_A (gd_V gd_k_needArgument (by decide +kernel)) (gd_A (by decide +kernel) (gd_A gd_e_addDip rfl)))))
set_option maxHeartbeats 4000000 in
set_option maxRecDepth 100000 in
theorem e_dip (l : Launch) (hl : l.stackTraces = false) (D : va_G) (cy : Nat → ClassId) (sa : Nat → Nat) (kk ta kr kl sA dA pa ki kp wa or_ rq : Nat) (nr nw im : Int) (qf : Nat → Int32) (pt pd ps : Nat) (cars dips : Int) (df : Nat → Int32) (n k w_ : Int) (sz : Nat) (hr_nr : 0 ≤ nr ∧ nr ≤ 4) (hr_nw : 0 ≤ nw ∧ nw ≤ 4) (hr_im : 0 ≤ im ∧ im ≤ 3) (hr_cars : 0 ≤ cars ∧ cars ≤ 20) (hr_dips : 0 ≤ dips ∧ dips ≤ 9) (hr_n : (-2147483648) ≤ n ∧ n ≤ 2147483647) (hr_k : (-2147483648) ≤ k ∧ k ≤ 2147483647) (hr_w_ : (-2147483648) ≤ w_ ∧ w_ ≤ 2147483647) : xI9 l yX11_dip vs_e_dip ({ frames := 7, cells := 1, slots := 6, locals := 121 }) D cy sa sz [vR kk, vI n, vI k, vI w_] [zO kk 11 [vR ta, vR kr, vR kl, vI nr, vI nw, vR sA, vR dA, vR pa, vR ki, vR kp, vI im, vR wa, vR or_, vR rq], zI rq (cy 0) 4 qf, zO pa 4 [vI cars, vR pt, vI dips, vR pd, vR ps], zI pd (cy 0) 27 df] (fun (r : Int32) (u : SV) => r = iI (u.2.1 0) ∧ ((-1) ≤ u.2.1 0 ∧ u.2.1 0 ≤ 9) ∧ (0 ≤ u.2.1 1 ∧ u.2.1 1 ≤ 9) ∧ (1 ≤ n ∧ n ≤ 99 ∧ 1 ≤ k ∧ k ≤ 30 ∧ 1 ≤ w_ ∧ w_ ≤ 99) ∧ (dips < 9 → u.2.1 1 = dips + 1 ∧ u.2.1 0 = dips + 1) ∧ (dips = 9 → u.2.1 1 = dips ∧ u.2.1 0 = -1) ∧ (dips < 9 → nz (u.2.2 0) = dipT (nz df) dips n k w_) ∧ (dips = 9 → (u.2.2 0) = df)) (fun u : SV => [zO kk 11 [vR ta, vR kr, vR kl, vI nr, vI nw, vR sA, vR dA, vR pa, vR ki, vR kp, vI im, vR wa, vR or_, vR rq], zI rq (cy 0) 4 qf, zO pa 4 [vI cars, vR pt, vI (u.2.1 1), vR pd, vR ps], zI pd (cy 0) 27 (u.2.2 0)]) (fun (E : String) (u : SV) => (E = "java/lang/IllegalArgumentException") ∧ (¬ (1 ≤ n ∧ n ≤ 99 ∧ 1 ≤ k ∧ k ≤ 30 ∧ 1 ≤ w_ ∧ w_ ≤ 99))) (fun u : SV => [zO kk 11 [vR ta, vR kr, vR kl, vI nr, vI nw, vR sA, vR dA, vR pa, vR ki, vR kp, vI im, vR wa, vR or_, vR rq], zI rq (cy 0) 4 (u.2.2 0), zO pa 4 [vI cars, vR pt, vI dips, vR pd, vR ps], zI pd (cy 0) 27 df]) 1 6 := by
  refine vx_ofW (cc := cX11_dip) (maxL := 4) (ret := (some .int)) (by decide) rfl ?_
  intro p e s m args below meth c s₁ B hml hex hv
  obtain ⟨rfl, hsz, hP, hG, hD0, hT⟩ := hv
  have hx := B.exec
  have hb := B.bytes
  have hr := B.returns
  have hts := atoms_spec (ws := vs_e_dip) B.pre
  have hown : s.vm.findClass RX11 = some m.cls := findClass_of_methodNamed B.named
  have hlocks := B.notSynchronized
  subst hsz
  have hD := hD0.self (sz := s.heap.size)
  generalize hAe : va_A [zO kk 11 [vR ta, vR kr, vR kl, vI nr, vI nw, vR sA, vR dA, vR pa, vR ki, vR kp, vI im, vR wa, vR or_, vR rq], zI rq (cy 0) 4 qf, zO pa 4 [vI cars, vR pt, vI dips, vR pd, vR ps], zI pd (cy 0) 27 df] s.heap.size = A at hD hT ⊢
  have hA : ∀ q : Nat, s.heap.size ≤ q → A q := fun q h => by rw [← hAe]; exact Or.inr h
  have hS : va_S A s.heap s.heap [] := va_S.rf
  have hl0 := lv_entry ([vR kk, vI n, vI k, vI w_]) (n := 4) (Nat.le_of_ble_eq_true rfl)
  rw [lg_entry_eq]
  generalize (lg_sl ([vR kk, vI n, vI k, vI w_]) ++ List.replicate (4 - (lg_sl ([vR kk, vI n, vI k, vI w_])).length) Slot.unset).toArray = ls at hl0 ⊢
  have hlv : lv_has ls 4 [(0, vR kk), (1, vI n), (2, vI k), (3, vI w_)] := hl0
  have gg_0 : GoodIn vs_e_dip (va_wsS RX11 130 yX11_isWithin vs_s_within) := goodIn_sub (fun w h => List.mem_cons_of_mem _ (List.mem_append_right _ (List.mem_append_left _ h))) (gd_S gd_s_within (by decide +kernel))
  have gg_1 : GoodIn vs_e_dip (wsV RX11 134 RX11 yX11_needArgument vs_k_needArgument) := goodIn_sub (fun w h => List.mem_cons_of_mem _ (List.mem_append_right _ (List.mem_append_right _ (List.mem_append_left _ h)))) (gd_V gd_k_needArgument (by decide +kernel))
  have lf41 := hts (.fieldLink RX11 41 "KerbSplash" "plan" "LKerbSplash$Plan;") (List.mem_of_getElem? (i := 1) rfl)
  have hi11 : ∀ w ∈ wsX110, w ∈ vs_e_dip := fun w h => List.mem_cons_of_mem _ (List.mem_append_right _ (List.mem_append_right _ (List.mem_append_right _ (List.mem_append_left _ h))))
  have gg_3 : GoodIn vs_e_dip (vs_e_addDip) := goodIn_sub (fun w h => List.mem_cons_of_mem _ (List.mem_append_right _ (List.mem_append_right _ (List.mem_append_right _ (List.mem_append_right _ (List.mem_append_left _ h)))))) gd_e_addDip
  have ini_RX4 := hts (.initialized RX4) (List.mem_of_getElem? (i := 2) rfl)
  have im_X4_addDip := hts (.instanceMethod yX4_addDip) (List.mem_of_getElem? (i := 3) rfl)
  have se_X4_addDip := hts (.selects RX4 yX4_addDip yX4_addDip) (List.mem_of_getElem? (i := 4) rfl)
  refine lv_aload_n hx hb dX11_dip_0 rfl (lv_at hlv 0 rfl) ?_
  refine lv_iload_n hx hb dX11_dip_1 rfl (lv_at hlv 1 rfl) ?_
  refine lv_iconst (v := iI 1) hx hb dX11_dip_2 (by decide) ?_
  refine lv_bipush (v := iI 99) hx hb dX11_dip_3 (by decide) ?_
  refine cjr_i [true, true, true, true] (fun pre9 => (va_runS (As := [vI n, vI 1, vI 99]) (rest := [vR kk]) ⟨hx, hb, hml, hown, hts⟩ (s_within l hl D cy sa n 1 99 s.heap.size (by first | exact hr_n | omega) (by show ((-2147483648) : Int) ≤ 1 ∧ (1 : Int) ≤ 2147483647; decide) (by show ((-2147483648) : Int) ≤ 99 ∧ (99 : Int) ≤ 2147483647; decide)) (va_cwS 3 hts gg_0 rfl rfl rfl (by decide +kernel) ⟨Nat.le_of_ble_eq_true rfl, Nat.le_of_ble_eq_true rfl⟩) ⟨pcW.blind, pre9⟩ rfl rfl hlv.1 rfl (lv_room (Nat.le_of_ble_eq_true rfl)) dX11_dip_5 ⟨Nat.le_of_ble_eq_true rfl, Nat.le_of_ble_eq_true rfl⟩)) hP hD hS hA hG hT [] rfl (by decide +kernel) (fun r1 u1 H locs hw1 hq9 hS => ?_)
  obtain ⟨rfl, hq1_1, hq1_2, hq1_3⟩ := hw1
  obtain ⟨hP, hD⟩ := pd9 [zO kk 11 [vR ta, vR kr, vR kl, vI nr, vI nw, vR sA, vR dA, vR pa, vR ki, vR kp, vI im, vR wa, vR or_, vR rq], zI rq (cy 0) 4 qf, zO pa 4 [vI cars, vR pt, vI dips, vR pd, vR ps], zI pd (cy 0) 27 df] hq9
  refine iz_eq (tgt := 35) hx hb dX11_dip_8 (by decide) (by first | exact rgw hq1_1 (by decide) (by decide) | omega) (fun c_1 => ?_) (fun c_1 => ?_)
  · refine lv_iconst (v := iI 0) hx hb dX11_dip_35 (by decide) ?_
    refine cjrx_v [false, false, true, true] (fun pre9 => (vx_runV (As := [vI 0]) (rest := []) ⟨hx, hb, hml, hown, hts⟩ (k_needArgument l hl D cy sa kk ta kr kl sA dA pa ki kp wa or_ rq nr nw im qf 0 H.size (by first | exact hr_nr | omega) (by first | exact hr_nw | omega) (by first | exact hr_im | omega) (by show (0 : Int) ≤ 0 ∧ (0 : Int) ≤ 1; decide)) (cwV 1 hts gg_1 rfl rfl rfl (by decide +kernel) ⟨Nat.le_of_ble_eq_true rfl, Nat.le_of_ble_eq_true rfl⟩) ⟨pcW.blind, (va_recv hG.1 hP (ci := 11) (q0 := 0) rfl rfl), pre9⟩ rfl rfl hlv.1 rfl (lv_room (Nat.le_of_ble_eq_true rfl)) dX11_dip_36 ⟨Nat.le_of_ble_eq_true rfl, Nat.le_of_ble_eq_true rfl⟩)) hP hD hS hA hG hT [0, 1] rfl (by decide +kernel) (fun E ux2 ce q9 H locs hp hq9 hS h1 h2 h3 => ?_) (fun u2 H locs hw2 hq9 hS => ?_)
    · obtain ⟨hP, hD⟩ := hq9
      obtain ⟨hp, hxg2⟩ := hp
      obtain rfl := hp
      exact vx_out (fun x h => (hex x h).elim) hlocks h1 h2 h3 (fun t ht hvm => ⟨((fun k => ([] : List Nat).getD k 0), (fun k => ([] : List Int).getD k 0), (fun k => ([(ux2.2.2 0)] : List (Nat → Int32)).getD k (fun _ => 0))), trivial, ⟨⟨rfl, by omega⟩, at9 ht hP hD [2, 3, 0, 1] (by decide +kernel) rfl⟩, hS.F ht⟩) hS.2.2 (Nat.le_of_ble_eq_true rfl) (Nat.le_of_ble_eq_true rfl)
    have hq2_0 : ((0 : Int) = 1) := hw2
    obtain ⟨hP, hD⟩ := pd9 [zO pa 4 [vI cars, vR pt, vI dips, vR pd, vR ps], zI pd (cy 0) 27 df, zO kk 11 [vR ta, vR kr, vR kl, vI nr, vI nw, vR sA, vR dA, vR pa, vR ki, vR kp, vI im, vR wa, vR or_, vR rq], zI rq (cy 0) 4 qf] hq9
    exfalso; omega
  · refine lv_iload_n hx hb dX11_dip_11 rfl (lv_at hlv 2 rfl) ?_
    refine lv_iconst (v := iI 1) hx hb dX11_dip_12 (by decide) ?_
    refine lv_bipush (v := iI 30) hx hb dX11_dip_13 (by decide) ?_
    refine cjr_i [true, true, true, true] (fun pre9 => (va_runS (As := [vI k, vI 1, vI 30]) (rest := [vR kk]) ⟨hx, hb, hml, hown, hts⟩ (s_within l hl D cy sa k 1 30 H.size (by first | exact hr_k | omega) (by show ((-2147483648) : Int) ≤ 1 ∧ (1 : Int) ≤ 2147483647; decide) (by show ((-2147483648) : Int) ≤ 30 ∧ (30 : Int) ≤ 2147483647; decide)) (va_cwS 3 hts gg_0 rfl rfl rfl (by decide +kernel) ⟨Nat.le_of_ble_eq_true rfl, Nat.le_of_ble_eq_true rfl⟩) ⟨pcW.blind, pre9⟩ rfl rfl hlv.1 rfl (lv_room (Nat.le_of_ble_eq_true rfl)) dX11_dip_15 ⟨Nat.le_of_ble_eq_true rfl, Nat.le_of_ble_eq_true rfl⟩)) hP hD hS hA hG hT [] rfl (by decide +kernel) (fun r3 u3 H locs hw3 hq9 hS => ?_)
    obtain ⟨rfl, hq3_1, hq3_2, hq3_3⟩ := hw3
    obtain ⟨hP, hD⟩ := pd9 [zO kk 11 [vR ta, vR kr, vR kl, vI nr, vI nw, vR sA, vR dA, vR pa, vR ki, vR kp, vI im, vR wa, vR or_, vR rq], zI rq (cy 0) 4 qf, zO pa 4 [vI cars, vR pt, vI dips, vR pd, vR ps], zI pd (cy 0) 27 df] hq9
    refine iz_eq (tgt := 35) hx hb dX11_dip_18 (by decide) (by first | exact rgw hq3_1 (by decide) (by decide) | omega) (fun c_2 => ?_) (fun c_2 => ?_)
    · refine lv_iconst (v := iI 0) hx hb dX11_dip_35 (by decide) ?_
      refine cjrx_v [false, false, true, true] (fun pre9 => (vx_runV (As := [vI 0]) (rest := []) ⟨hx, hb, hml, hown, hts⟩ (k_needArgument l hl D cy sa kk ta kr kl sA dA pa ki kp wa or_ rq nr nw im qf 0 H.size (by first | exact hr_nr | omega) (by first | exact hr_nw | omega) (by first | exact hr_im | omega) (by show (0 : Int) ≤ 0 ∧ (0 : Int) ≤ 1; decide)) (cwV 1 hts gg_1 rfl rfl rfl (by decide +kernel) ⟨Nat.le_of_ble_eq_true rfl, Nat.le_of_ble_eq_true rfl⟩) ⟨pcW.blind, (va_recv hG.1 hP (ci := 11) (q0 := 0) rfl rfl), pre9⟩ rfl rfl hlv.1 rfl (lv_room (Nat.le_of_ble_eq_true rfl)) dX11_dip_36 ⟨Nat.le_of_ble_eq_true rfl, Nat.le_of_ble_eq_true rfl⟩)) hP hD hS hA hG hT [0, 1] rfl (by decide +kernel) (fun E ux4 ce q9 H locs hp hq9 hS h1 h2 h3 => ?_) (fun u4 H locs hw4 hq9 hS => ?_)
      · obtain ⟨hP, hD⟩ := hq9
        obtain ⟨hp, hxg4⟩ := hp
        obtain rfl := hp
        exact vx_out (fun x h => (hex x h).elim) hlocks h1 h2 h3 (fun t ht hvm => ⟨((fun k => ([] : List Nat).getD k 0), (fun k => ([] : List Int).getD k 0), (fun k => ([(ux4.2.2 0)] : List (Nat → Int32)).getD k (fun _ => 0))), trivial, ⟨⟨rfl, by omega⟩, at9 ht hP hD [2, 3, 0, 1] (by decide +kernel) rfl⟩, hS.F ht⟩) hS.2.2 (Nat.le_of_ble_eq_true rfl) (Nat.le_of_ble_eq_true rfl)
      have hq4_0 : ((0 : Int) = 1) := hw4
      obtain ⟨hP, hD⟩ := pd9 [zO pa 4 [vI cars, vR pt, vI dips, vR pd, vR ps], zI pd (cy 0) 27 df, zO kk 11 [vR ta, vR kr, vR kl, vI nr, vI nw, vR sA, vR dA, vR pa, vR ki, vR kp, vI im, vR wa, vR or_, vR rq], zI rq (cy 0) 4 qf] hq9
      exfalso; omega
    · refine lv_iload_n hx hb dX11_dip_21 rfl (lv_at hlv 3 rfl) ?_
      refine lv_iconst (v := iI 1) hx hb dX11_dip_22 (by decide) ?_
      refine lv_bipush (v := iI 99) hx hb dX11_dip_23 (by decide) ?_
      refine cjr_i [true, true, true, true] (fun pre9 => (va_runS (As := [vI w_, vI 1, vI 99]) (rest := [vR kk]) ⟨hx, hb, hml, hown, hts⟩ (s_within l hl D cy sa w_ 1 99 H.size (by first | exact hr_w_ | omega) (by show ((-2147483648) : Int) ≤ 1 ∧ (1 : Int) ≤ 2147483647; decide) (by show ((-2147483648) : Int) ≤ 99 ∧ (99 : Int) ≤ 2147483647; decide)) (va_cwS 3 hts gg_0 rfl rfl rfl (by decide +kernel) ⟨Nat.le_of_ble_eq_true rfl, Nat.le_of_ble_eq_true rfl⟩) ⟨pcW.blind, pre9⟩ rfl rfl hlv.1 rfl (lv_room (Nat.le_of_ble_eq_true rfl)) dX11_dip_25 ⟨Nat.le_of_ble_eq_true rfl, Nat.le_of_ble_eq_true rfl⟩)) hP hD hS hA hG hT [] rfl (by decide +kernel) (fun r5 u5 H locs hw5 hq9 hS => ?_)
      obtain ⟨rfl, hq5_1, hq5_2, hq5_3⟩ := hw5
      obtain ⟨hP, hD⟩ := pd9 [zO kk 11 [vR ta, vR kr, vR kl, vI nr, vI nw, vR sA, vR dA, vR pa, vR ki, vR kp, vI im, vR wa, vR or_, vR rq], zI rq (cy 0) 4 qf, zO pa 4 [vI cars, vR pt, vI dips, vR pd, vR ps], zI pd (cy 0) 27 df] hq9
      refine iz_eq (tgt := 35) hx hb dX11_dip_28 (by decide) (by first | exact rgw hq5_1 (by decide) (by decide) | omega) (fun c_3 => ?_) (fun c_3 => ?_)
      · refine lv_iconst (v := iI 0) hx hb dX11_dip_35 (by decide) ?_
        refine cjrx_v [false, false, true, true] (fun pre9 => (vx_runV (As := [vI 0]) (rest := []) ⟨hx, hb, hml, hown, hts⟩ (k_needArgument l hl D cy sa kk ta kr kl sA dA pa ki kp wa or_ rq nr nw im qf 0 H.size (by first | exact hr_nr | omega) (by first | exact hr_nw | omega) (by first | exact hr_im | omega) (by show (0 : Int) ≤ 0 ∧ (0 : Int) ≤ 1; decide)) (cwV 1 hts gg_1 rfl rfl rfl (by decide +kernel) ⟨Nat.le_of_ble_eq_true rfl, Nat.le_of_ble_eq_true rfl⟩) ⟨pcW.blind, (va_recv hG.1 hP (ci := 11) (q0 := 0) rfl rfl), pre9⟩ rfl rfl hlv.1 rfl (lv_room (Nat.le_of_ble_eq_true rfl)) dX11_dip_36 ⟨Nat.le_of_ble_eq_true rfl, Nat.le_of_ble_eq_true rfl⟩)) hP hD hS hA hG hT [0, 1] rfl (by decide +kernel) (fun E ux6 ce q9 H locs hp hq9 hS h1 h2 h3 => ?_) (fun u6 H locs hw6 hq9 hS => ?_)
        · obtain ⟨hP, hD⟩ := hq9
          obtain ⟨hp, hxg6⟩ := hp
          obtain rfl := hp
          exact vx_out (fun x h => (hex x h).elim) hlocks h1 h2 h3 (fun t ht hvm => ⟨((fun k => ([] : List Nat).getD k 0), (fun k => ([] : List Int).getD k 0), (fun k => ([(ux6.2.2 0)] : List (Nat → Int32)).getD k (fun _ => 0))), trivial, ⟨⟨rfl, by omega⟩, at9 ht hP hD [2, 3, 0, 1] (by decide +kernel) rfl⟩, hS.F ht⟩) hS.2.2 (Nat.le_of_ble_eq_true rfl) (Nat.le_of_ble_eq_true rfl)
        have hq6_0 : ((0 : Int) = 1) := hw6
        obtain ⟨hP, hD⟩ := pd9 [zO pa 4 [vI cars, vR pt, vI dips, vR pd, vR ps], zI pd (cy 0) 27 df, zO kk 11 [vR ta, vR kr, vR kl, vI nr, vI nw, vR sA, vR dA, vR pa, vR ki, vR kp, vI im, vR wa, vR or_, vR rq], zI rq (cy 0) 4 qf] hq9
        exfalso; omega
      · refine lv_iconst (v := iI 1) hx hb dX11_dip_31 (by decide) ?_
        refine lv_goto (tgt := 36) hx hb dX11_dip_32 (by decide) ?_
        refine cjrx_v [false, false, true, true] (fun pre9 => (vx_runV (As := [vI 1]) (rest := []) ⟨hx, hb, hml, hown, hts⟩ (k_needArgument l hl D cy sa kk ta kr kl sA dA pa ki kp wa or_ rq nr nw im qf 1 H.size (by first | exact hr_nr | omega) (by first | exact hr_nw | omega) (by first | exact hr_im | omega) (by show (0 : Int) ≤ 1 ∧ (1 : Int) ≤ 1; decide)) (cwV 1 hts gg_1 rfl rfl rfl (by decide +kernel) ⟨Nat.le_of_ble_eq_true rfl, Nat.le_of_ble_eq_true rfl⟩) ⟨pcW.blind, (va_recv hG.1 hP (ci := 11) (q0 := 0) rfl rfl), pre9⟩ rfl rfl hlv.1 rfl (lv_room (Nat.le_of_ble_eq_true rfl)) dX11_dip_36 ⟨Nat.le_of_ble_eq_true rfl, Nat.le_of_ble_eq_true rfl⟩)) hP hD hS hA hG hT [0, 1] rfl (by decide +kernel) (fun E ux7 ce q9 H locs hp hq9 hS h1 h2 h3 => ?_) (fun u7 H locs hw7 hq9 hS => ?_)
        · obtain ⟨hP, hD⟩ := hq9
          obtain ⟨hp, hxg7⟩ := hp
          obtain rfl := hp
          exact vx_out (fun x h => (hex x h).elim) hlocks h1 h2 h3 (fun t ht hvm => ⟨((fun k => ([] : List Nat).getD k 0), (fun k => ([] : List Int).getD k 0), (fun k => ([(ux7.2.2 0)] : List (Nat → Int32)).getD k (fun _ => 0))), trivial, ⟨⟨rfl, by omega⟩, at9 ht hP hD [2, 3, 0, 1] (by decide +kernel) rfl⟩, hS.F ht⟩) hS.2.2 (Nat.le_of_ble_eq_true rfl) (Nat.le_of_ble_eq_true rfl)
        have hq7_0 : ((1 : Int) = 1) := hw7
        obtain ⟨hP, hD⟩ := pd9 [zO pa 4 [vI cars, vR pt, vI dips, vR pd, vR ps], zI pd (cy 0) 27 df, zO kk 11 [vR ta, vR kr, vR kl, vI nr, vI nw, vR sA, vR dA, vR pa, vR ki, vR kp, vI im, vR wa, vR or_, vR rq], zI rq (cy 0) 4 qf] hq9
        refine lv_aload_n hx hb dX11_dip_39 rfl (lv_at hlv 0 rfl) ?_
        refine va_get (D := D) (ci := 11) (v := vR pa) (C := RX11) (T := TX11) (N := 14) hx hb hts hi11 hown hG.1 hP 2 rfl rfl 7 (by decide) lf41 (fun _ h9 => h9) rfl dX11_dip_40 ?_
        refine lv_iload_n hx hb dX11_dip_43 rfl (lv_at hlv 1 rfl) ?_
        refine lv_iload_n hx hb dX11_dip_44 rfl (lv_at hlv 2 rfl) ?_
        refine lv_iload_n hx hb dX11_dip_45 rfl (lv_at hlv 3 rfl) ?_
        refine cjr_i [false, false, true, true] (fun pre9 => (va_runVN (host := "KerbSplash") (As := [vI n, vI k, vI w_]) (rest := []) ⟨hx, hb, hml, hown, hts⟩ (e_addDip l hl D cy sa pa pt pd ps cars dips df n k w_ H.size (by first | exact hr_cars | omega) (by first | exact hr_dips | omega) (by first | exact hr_n | omega) (by first | exact hr_k | omega) (by first | exact hr_w_ | omega)) ⟨va_cnB 3 hts gg_3 rfl rfl rfl (nM_K_308 hG.2.1) ini_RX4 (by decide +kernel) ⟨Nat.le_of_ble_eq_true rfl, Nat.le_of_ble_eq_true rfl⟩, im_X4_addDip, se_X4_addDip⟩ ⟨pcW.blind, (va_recv hG.1 hP (ci := 4) (q0 := 0) rfl rfl), pre9⟩ rfl rfl hlv.1 rfl (lv_room (Nat.le_of_ble_eq_true rfl)) dX11_dip_46 ⟨Nat.le_of_ble_eq_true rfl, Nat.le_of_ble_eq_true rfl⟩)) hP hD hS hA hG hT [0, 1] rfl (by decide +kernel) (fun r8 u8 H locs hw8 hq9 hS => ?_)
        obtain ⟨rfl, hq8_1, hq8_2, hq8_3, hq8_4, hq8_5, hq8_6⟩ := hw8
        obtain ⟨hP, hD⟩ := pd9 [zO kk 11 [vR ta, vR kr, vR kl, vI nr, vI nw, vR sA, vR dA, vR pa, vR ki, vR kp, vI im, vR wa, vR or_, vR rq], zI rq (cy 0) 4 qf, zO pa 4 [vI cars, vR pt, vI (u8.2.1 1), vR pd, vR ps], zI pd (cy 0) 27 (u8.2.2 0)] hq9
        refine W.widen (k := 1) (n := 6) (Nat.le_of_ble_eq_true rfl) (Nat.le_of_ble_eq_true rfl) ?_
        refine vx_ret ?_
        exact W.iret (v := iI (u8.2.1 0)) hx hb hr (fun t ht hW => ⟨⟨iI (u8.2.1 0), ((fun k => ([] : List Nat).getD k 0), (fun k => ([(u8.2.1 0), (u8.2.1 1)] : List Int).getD k 0), (fun k => ([(u8.2.2 0)] : List (Nat → Int32)).getD k (fun _ => 0))), rfl, ⟨rfl, (by show ((-1) ≤ (u8.2.1 0) ∧ (u8.2.1 0) ≤ 9); first | exact hq8_1 | omega), (by show (0 ≤ (u8.2.1 1) ∧ (u8.2.1 1) ≤ 9); first | exact hq8_2 | omega), (by show (1 ≤ n ∧ n ≤ 99 ∧ 1 ≤ k ∧ k ≤ 30 ∧ 1 ≤ w_ ∧ w_ ≤ 99); omega), (by show (dips < 9 → (u8.2.1 1) = dips + 1 ∧ (u8.2.1 0) = dips + 1); first | exact hq8_3 | omega), (by show (dips = 9 → (u8.2.1 1) = dips ∧ (u8.2.1 0) = -1); first | exact hq8_4 | omega), (by show (dips < 9 → nz ((u8.2.2 0)) = dipT (nz df) dips n k w_); exact hq8_5), (by show (dips = 9 → ((u8.2.2 0)) = df); exact hq8_6)⟩, at9 ht hP hD [0, 1, 2, 3] (by decide +kernel) rfl⟩, hS.F ht⟩) hS.2.2 dX11_dip_49
def vs_e_count : List Cond := .code yX11_count cX11_count 2 (some .int) :: (([.fieldLink RX11 41 "KerbSplash" "plan" "LKerbSplash$Plan;", .fieldLink RX11 105 "KerbSplash" "images" "I", .fieldLink RX11 10 "KerbSplash" "tape" "LKerbSplash$Tape;"] : List Cond) ++ ((wsX110) ++ ((wsX40) ++ ((wsX80) ++ ([])))))
set_option maxHeartbeats 4000000 in
set_option maxRecDepth 100000 in
theorem e_count (l : Launch) (hl : l.stackTraces = false) (D : va_G) (cy : Nat → ClassId) (sa : Nat → Nat) (kk ta kr kl sA dA pa ki kp wa or_ rq : Nat) (nr nw im : Int) (pt pd ps : Nat) (cars dips : Int) (tb : Nat) (fed len at_ we fa fp : Int) (n : Int) (sz : Nat) (hr_nr : 0 ≤ nr ∧ nr ≤ 4) (hr_nw : 0 ≤ nw ∧ nw ≤ 4) (hr_im : 0 ≤ im ∧ im ≤ 3) (hr_cars : 0 ≤ cars ∧ cars ≤ 20) (hr_dips : 0 ≤ dips ∧ dips ≤ 9) (hr_fed : 0 ≤ fed ∧ fed ≤ 600) (hr_len : 0 ≤ len ∧ len ≤ 600) (hr_at_ : 0 ≤ at_ ∧ at_ ≤ 600) (hr_we : 0 ≤ we ∧ we ≤ 600) (hr_fa : 0 ≤ fa ∧ fa ≤ 4) (hr_fp : (-1) ≤ fp ∧ fp ≤ 600) (hr_n : (-2147483648) ≤ n ∧ n ≤ 2147483647) : mI9 l yX11_count vs_e_count ({ frames := 0, cells := 0, slots := 0, locals := 0 }) D cy sa sz [vR kk, vI n] [zO kk 11 [vR ta, vR kr, vR kl, vI nr, vI nw, vR sA, vR dA, vR pa, vR ki, vR kp, vI im, vR wa, vR or_, vR rq], zO pa 4 [vI cars, vR pt, vI dips, vR pd, vR ps], zO ta 8 [vR tb, vI fed, vI len, vI at_, vI we, vI fa, vI fp]] (fun (r : Int32) (u : SV) => r = iI (u.2.1 0) ∧ ((-2147483648) ≤ u.2.1 0 ∧ u.2.1 0 ≤ 2147483647) ∧ (n = 0 → u.2.1 0 = cars) ∧ (n = 1 → u.2.1 0 = dips) ∧ (n = 2 → u.2.1 0 = im) ∧ (n = 3 → u.2.1 0 = fed) ∧ (n < 0 ∨ 3 < n → u.2.1 0 = -1)) (fun u : SV => [zO kk 11 [vR ta, vR kr, vR kl, vI nr, vI nw, vR sA, vR dA, vR pa, vR ki, vR kp, vI im, vR wa, vR or_, vR rq], zO pa 4 [vI cars, vR pt, vI dips, vR pd, vR ps], zO ta 8 [vR tb, vI fed, vI len, vI at_, vI we, vI fa, vI fp]]) 0 0 := by
  refine Met.ofW (cc := cX11_count) (maxL := 2) (ret := (some .int)) (by decide) rfl ?_
  intro p e s m args below meth c s₁ B hml hv
  obtain ⟨rfl, hsz, hP, hG, hD0, hT⟩ := hv
  have hx := B.exec
  have hb := B.bytes
  have hr := B.returns
  have hts := atoms_spec (ws := vs_e_count) B.pre
  have hown : s.vm.findClass RX11 = some m.cls := findClass_of_methodNamed B.named
  have hlocks := B.notSynchronized
  subst hsz
  have hD := hD0.self (sz := s.heap.size)
  generalize hAe : va_A [zO kk 11 [vR ta, vR kr, vR kl, vI nr, vI nw, vR sA, vR dA, vR pa, vR ki, vR kp, vI im, vR wa, vR or_, vR rq], zO pa 4 [vI cars, vR pt, vI dips, vR pd, vR ps], zO ta 8 [vR tb, vI fed, vI len, vI at_, vI we, vI fa, vI fp]] s.heap.size = A at hD hT ⊢
  have hA : ∀ q : Nat, s.heap.size ≤ q → A q := fun q h => by rw [← hAe]; exact Or.inr h
  have hS : va_S A s.heap s.heap [] := va_S.rf
  have hl0 := lv_entry ([vR kk, vI n]) (n := 2) (Nat.le_of_ble_eq_true rfl)
  rw [lg_entry_eq]
  generalize (lg_sl ([vR kk, vI n]) ++ List.replicate (2 - (lg_sl ([vR kk, vI n])).length) Slot.unset).toArray = ls at hl0 ⊢
  have hlv : lv_has ls 2 [(0, vR kk), (1, vI n)] := hl0
  have lf41 := hts (.fieldLink RX11 41 "KerbSplash" "plan" "LKerbSplash$Plan;") (List.mem_of_getElem? (i := 1) rfl)
  have hi11 : ∀ w ∈ wsX110, w ∈ vs_e_count := fun w h => List.mem_cons_of_mem _ (List.mem_append_right _ (List.mem_append_left _ h))
  have hi4 : ∀ w ∈ wsX40, w ∈ vs_e_count := fun w h => List.mem_cons_of_mem _ (List.mem_append_right _ (List.mem_append_right _ (List.mem_append_left _ h)))
  have lf105 := hts (.fieldLink RX11 105 "KerbSplash" "images" "I") (List.mem_of_getElem? (i := 2) rfl)
  have lf10 := hts (.fieldLink RX11 10 "KerbSplash" "tape" "LKerbSplash$Tape;") (List.mem_of_getElem? (i := 3) rfl)
  have hi8 : ∀ w ∈ wsX80, w ∈ vs_e_count := fun w h => List.mem_cons_of_mem _ (List.mem_append_right _ (List.mem_append_right _ (List.mem_append_right _ (List.mem_append_left _ h))))
  refine lv_iload_n hx hb dX11_count_0 rfl (lv_at hlv 1 rfl) ?_
  by_cases k_1 : n = 0
  · refine lt_i (y := iI 0) (by rw [k_1]) ?_
    refine lv_tableIn (tgt := 32) hx hb dX11_count_1 (by decide) (by decide) rfl (by decide) ?_
    refine lv_aload_n hx hb dX11_count_32 rfl (lv_at hlv 0 rfl) ?_
    refine va_get (D := D) (ci := 11) (v := vR pa) (C := RX11) (T := TX11) (N := 14) hx hb hts hi11 hown hG.1 hP 0 rfl rfl 7 (by decide) lf41 (fun _ h9 => h9) rfl dX11_count_33 ?_
    refine va_getN (D := D) (ci := 4) (v := vI cars) (C := RX4) (T := TX4) (N := 5) hx hb hts hi4 hown hG.1 hP 1 rfl rfl 0 (by decide) (va_Nw.use rfl (nF_K_263 hG.2.1)) (fun _ h9 => h9) rfl dX11_count_36 ?_
    refine W.widen (k := 0) (n := 0) (Nat.le_of_ble_eq_true rfl) (Nat.le_of_ble_eq_true rfl) ?_
    exact W.iret (v := iI cars) hx hb hr (fun t ht hW => ⟨⟨iI cars, ((fun k => ([] : List Nat).getD k 0), (fun k => ([cars] : List Int).getD k 0), (fun k => ([] : List (Nat → Int32)).getD k (fun _ => 0))), rfl, ⟨rfl, (by show ((-2147483648) ≤ cars ∧ cars ≤ 2147483647); first | exact rgw hr_cars (by decide) (by decide) | omega), (by show (n = 0 → cars = cars); omega), (by show (n = 1 → cars = dips); omega), (by show (n = 2 → cars = im); omega), (by show (n = 3 → cars = fed); omega), (by show (n < 0 ∨ 3 < n → cars = -1); omega)⟩, at9 ht hP hD [0, 1, 2] (by decide +kernel) rfl⟩, hS.F ht⟩) hS.2.2 dX11_count_39
  by_cases k_2 : n = 1
  · refine lt_i (y := iI 1) (by rw [k_2]) ?_
    refine lv_tableIn (tgt := 40) hx hb dX11_count_1 (by decide) (by decide) rfl (by decide) ?_
    refine lv_aload_n hx hb dX11_count_40 rfl (lv_at hlv 0 rfl) ?_
    refine va_get (D := D) (ci := 11) (v := vR pa) (C := RX11) (T := TX11) (N := 14) hx hb hts hi11 hown hG.1 hP 0 rfl rfl 7 (by decide) lf41 (fun _ h9 => h9) rfl dX11_count_41 ?_
    refine va_getN (D := D) (ci := 4) (v := vI dips) (C := RX4) (T := TX4) (N := 5) hx hb hts hi4 hown hG.1 hP 1 rfl rfl 2 (by decide) (va_Nw.use rfl (nF_K_312 hG.2.1)) (fun _ h9 => h9) rfl dX11_count_44 ?_
    refine W.widen (k := 0) (n := 0) (Nat.le_of_ble_eq_true rfl) (Nat.le_of_ble_eq_true rfl) ?_
    exact W.iret (v := iI dips) hx hb hr (fun t ht hW => ⟨⟨iI dips, ((fun k => ([] : List Nat).getD k 0), (fun k => ([dips] : List Int).getD k 0), (fun k => ([] : List (Nat → Int32)).getD k (fun _ => 0))), rfl, ⟨rfl, (by show ((-2147483648) ≤ dips ∧ dips ≤ 2147483647); first | exact rgw hr_dips (by decide) (by decide) | omega), (by show (n = 0 → dips = cars); omega), (by show (n = 1 → dips = dips); omega), (by show (n = 2 → dips = im); omega), (by show (n = 3 → dips = fed); omega), (by show (n < 0 ∨ 3 < n → dips = -1); omega)⟩, at9 ht hP hD [0, 1, 2] (by decide +kernel) rfl⟩, hS.F ht⟩) hS.2.2 dX11_count_47
  by_cases k_3 : n = 2
  · refine lt_i (y := iI 2) (by rw [k_3]) ?_
    refine lv_tableIn (tgt := 48) hx hb dX11_count_1 (by decide) (by decide) rfl (by decide) ?_
    refine lv_aload_n hx hb dX11_count_48 rfl (lv_at hlv 0 rfl) ?_
    refine va_get (D := D) (ci := 11) (v := vI im) (C := RX11) (T := TX11) (N := 14) hx hb hts hi11 hown hG.1 hP 0 rfl rfl 10 (by decide) lf105 (fun _ h9 => h9) rfl dX11_count_49 ?_
    refine W.widen (k := 0) (n := 0) (Nat.le_of_ble_eq_true rfl) (Nat.le_of_ble_eq_true rfl) ?_
    exact W.iret (v := iI im) hx hb hr (fun t ht hW => ⟨⟨iI im, ((fun k => ([] : List Nat).getD k 0), (fun k => ([im] : List Int).getD k 0), (fun k => ([] : List (Nat → Int32)).getD k (fun _ => 0))), rfl, ⟨rfl, (by show ((-2147483648) ≤ im ∧ im ≤ 2147483647); first | exact rgw hr_im (by decide) (by decide) | omega), (by show (n = 0 → im = cars); omega), (by show (n = 1 → im = dips); omega), (by show (n = 2 → im = im); omega), (by show (n = 3 → im = fed); omega), (by show (n < 0 ∨ 3 < n → im = -1); omega)⟩, at9 ht hP hD [0, 1, 2] (by decide +kernel) rfl⟩, hS.F ht⟩) hS.2.2 dX11_count_52
  by_cases k_4 : n = 3
  · refine lt_i (y := iI 3) (by rw [k_4]) ?_
    refine lv_tableIn (tgt := 53) hx hb dX11_count_1 (by decide) (by decide) rfl (by decide) ?_
    refine lv_aload_n hx hb dX11_count_53 rfl (lv_at hlv 0 rfl) ?_
    refine va_get (D := D) (ci := 11) (v := vR ta) (C := RX11) (T := TX11) (N := 14) hx hb hts hi11 hown hG.1 hP 0 rfl rfl 0 (by decide) lf10 (fun _ h9 => h9) rfl dX11_count_54 ?_
    refine va_getN (D := D) (ci := 8) (v := vI fed) (C := RX8) (T := TX8) (N := 7) hx hb hts hi8 hown hG.1 hP 2 rfl rfl 1 (by decide) (va_Nw.use rfl (nF_K_81 hG.2.1)) (fun _ h9 => h9) rfl dX11_count_57 ?_
    refine W.widen (k := 0) (n := 0) (Nat.le_of_ble_eq_true rfl) (Nat.le_of_ble_eq_true rfl) ?_
    exact W.iret (v := iI fed) hx hb hr (fun t ht hW => ⟨⟨iI fed, ((fun k => ([] : List Nat).getD k 0), (fun k => ([fed] : List Int).getD k 0), (fun k => ([] : List (Nat → Int32)).getD k (fun _ => 0))), rfl, ⟨rfl, (by show ((-2147483648) ≤ fed ∧ fed ≤ 2147483647); first | exact rgw hr_fed (by decide) (by decide) | omega), (by show (n = 0 → fed = cars); omega), (by show (n = 1 → fed = dips); omega), (by show (n = 2 → fed = im); omega), (by show (n = 3 → fed = fed); omega), (by show (n < 0 ∨ 3 < n → fed = -1); omega)⟩, at9 ht hP hD [0, 1, 2] (by decide +kernel) rfl⟩, hS.F ht⟩) hS.2.2 dX11_count_60
  refine lv_tableOut (tgt := 61) hx hb dX11_count_1 (by rw [iI_to (by omega) (by omega)]; omega) (by decide) ?_
  refine lv_iconst (v := iI (-1)) hx hb dX11_count_61 (by decide) ?_
  refine W.widen (k := 0) (n := 0) (Nat.le_of_ble_eq_true rfl) (Nat.le_of_ble_eq_true rfl) ?_
  exact W.iret (v := iI (-1)) hx hb hr (fun t ht hW => ⟨⟨iI (-1), ((fun k => ([] : List Nat).getD k 0), (fun k => ([(-1)] : List Int).getD k 0), (fun k => ([] : List (Nat → Int32)).getD k (fun _ => 0))), rfl, ⟨rfl, (by show ((-2147483648) ≤ (-1) ∧ (-1) ≤ 2147483647); show ((-2147483648) : Int) ≤ (-1) ∧ ((-1) : Int) ≤ 2147483647; decide), (by show (n = 0 → (-1) = cars); omega), (by show (n = 1 → (-1) = dips); omega), (by show (n = 2 → (-1) = im); omega), (by show (n = 3 → (-1) = fed); omega), (by show (n < 0 ∨ 3 < n → (-1) = -1); omega)⟩, at9 ht hP hD [0, 1, 2] (by decide +kernel) rfl⟩, hS.F ht⟩) hS.2.2 dX11_count_62
def vs_e_work : List Cond := .code yX11_work cX11_work 3 (some .int) :: (([.fieldLink RX11 31 "KerbSplash" "now" "LKerbSplash$Street;"] : List Cond) ++ ((wsX110) ++ ((wsX60) ++ ((va_wsS RX11 130 yX11_isWithin vs_s_within) ++ ((wsV RX11 177 RX11 yX11_needElement vs_k_needElement) ++ ((wsV RX11 134 RX11 yX11_needArgument vs_k_needArgument) ++ ([])))))))
theorem gd_e_work : vs_e_work.all goodWord = true := gd_C (by decide +kernel) (gd_A (by decide +kernel) (gd_A (by decide +kernel) (gd_A (by decide +kernel) (gd_A (gd_S gd_s_within (by decide +kernel)) (gd_A (gd_V gd_k_needElement (by decide +kernel)) (gd_A (gd_V gd_k_needArgument (by decide +kernel)) rfl))))))
set_option maxHeartbeats 4000000 in
set_option maxRecDepth 100000 in
theorem e_work (l : Launch) (hl : l.stackTraces = false) (D : va_G) (cy : Nat → ClassId) (sa : Nat → Nat) (kk ta kr kl sA dA pa ki kp wa or_ rq : Nat) (nr nw im : Int) (qf : Nat → Int32) (s2 s3 s6 s8 s11 s13 : Nat) (wi ro dr dt pe gu sh wo dn mi fl tk go : Int) (kf : Nat → Int32) (n k : Int) (sz : Nat) (hr_nr : 0 ≤ nr ∧ nr ≤ 4) (hr_nw : 0 ≤ nw ∧ nw ≤ 4) (hr_im : 0 ≤ im ∧ im ≤ 3) (hr_wi : 0 ≤ wi ∧ wi ≤ 16) (hr_ro : 0 ≤ ro ∧ ro ≤ 6) (hr_dr : 0 ≤ dr ∧ dr ≤ 14) (hr_dt : 0 ≤ dt ∧ dt ≤ 6) (hr_pe : 0 ≤ pe ∧ pe ≤ 8) (hr_gu : 0 ≤ gu ∧ gu ≤ 20) (hr_sh : 0 ≤ sh ∧ sh ≤ 2) (hr_wo : 0 ≤ wo ∧ wo ≤ 8) (hr_dn : (-2147483648) ≤ dn ∧ dn ≤ 2147483647) (hr_mi : 0 ≤ mi ∧ mi ≤ 600) (hr_fl : (-2147483648) ≤ fl ∧ fl ≤ 2147483647) (hr_tk : (-2147483648) ≤ tk ∧ tk ≤ 2147483647) (hr_go : (-2147483648) ≤ go ∧ go ≤ 2147483647) (hr_n : (-2147483648) ≤ n ∧ n ≤ 2147483647) (hr_k : (-2147483648) ≤ k ∧ k ≤ 2147483647) (hkf : tw_ kf) : xI9 l yX11_work vs_e_work ({ frames := 7, cells := 2, slots := 12, locals := 121 }) D cy sa sz [vR kk, vI n, vI k] [zO kk 11 [vR ta, vR kr, vR kl, vI nr, vI nw, vR sA, vR dA, vR pa, vR ki, vR kp, vI im, vR wa, vR or_, vR rq], zI rq (cy 0) 4 qf, zO sA 6 [vI wi, vI ro, vR s2, vR s3, vI dr, vI dt, vR s6, vI pe, vR s8, vI gu, vI sh, vR s11, vI wo, vR s13, vI dn, vI mi, vI fl, vI tk, vI go], zI s13 (cy 0) 40 kf] (fun (r : Int32) (u : SV) => r = iI (u.2.1 0) ∧ ((-2147483648) ≤ u.2.1 0 ∧ u.2.1 0 ≤ 2147483647) ∧ (0 ≤ n ∧ n < wo ∧ 0 ≤ k ∧ k ≤ 1) ∧ ((u.2.1 0) = nz kf (5 * n + k).toNat) ∧ tw_ kf) (fun u : SV => [zO kk 11 [vR ta, vR kr, vR kl, vI nr, vI nw, vR sA, vR dA, vR pa, vR ki, vR kp, vI im, vR wa, vR or_, vR rq], zI rq (cy 0) 4 qf, zO sA 6 [vI wi, vI ro, vR s2, vR s3, vI dr, vI dt, vR s6, vI pe, vR s8, vI gu, vI sh, vR s11, vI wo, vR s13, vI dn, vI mi, vI fl, vI tk, vI go], zI s13 (cy 0) 40 kf]) (fun (E : String) (u : SV) => ((E = "java/util/NoSuchElementException" ∧ (¬ (0 ≤ n ∧ n < wo))) ∨ (E = "java/lang/IllegalArgumentException" ∧ ((0 ≤ n ∧ n < wo) ∧ ¬ (0 ≤ k ∧ k ≤ 1))))) (fun u : SV => [zO kk 11 [vR ta, vR kr, vR kl, vI nr, vI nw, vR sA, vR dA, vR pa, vR ki, vR kp, vI im, vR wa, vR or_, vR rq], zI rq (cy 0) 4 (u.2.2 0), zO sA 6 [vI wi, vI ro, vR s2, vR s3, vI dr, vI dt, vR s6, vI pe, vR s8, vI gu, vI sh, vR s11, vI wo, vR s13, vI dn, vI mi, vI fl, vI tk, vI go], zI s13 (cy 0) 40 kf]) 2 12 := by
  refine vx_ofW (cc := cX11_work) (maxL := 3) (ret := (some .int)) (by decide) rfl ?_
  intro p e s m args below meth c s₁ B hml hex hv
  obtain ⟨rfl, hsz, hP, hG, hD0, hT⟩ := hv
  have hx := B.exec
  have hb := B.bytes
  have hr := B.returns
  have hts := atoms_spec (ws := vs_e_work) B.pre
  have hown : s.vm.findClass RX11 = some m.cls := findClass_of_methodNamed B.named
  have hlocks := B.notSynchronized
  subst hsz
  have hD := hD0.self (sz := s.heap.size)
  generalize hAe : va_A [zO kk 11 [vR ta, vR kr, vR kl, vI nr, vI nw, vR sA, vR dA, vR pa, vR ki, vR kp, vI im, vR wa, vR or_, vR rq], zI rq (cy 0) 4 qf, zO sA 6 [vI wi, vI ro, vR s2, vR s3, vI dr, vI dt, vR s6, vI pe, vR s8, vI gu, vI sh, vR s11, vI wo, vR s13, vI dn, vI mi, vI fl, vI tk, vI go], zI s13 (cy 0) 40 kf] s.heap.size = A at hD hT ⊢
  have hA : ∀ q : Nat, s.heap.size ≤ q → A q := fun q h => by rw [← hAe]; exact Or.inr h
  have hS : va_S A s.heap s.heap [] := va_S.rf
  have hl0 := lv_entry ([vR kk, vI n, vI k]) (n := 3) (Nat.le_of_ble_eq_true rfl)
  rw [lg_entry_eq]
  generalize (lg_sl ([vR kk, vI n, vI k]) ++ List.replicate (3 - (lg_sl ([vR kk, vI n, vI k])).length) Slot.unset).toArray = ls at hl0 ⊢
  have hlv : lv_has ls 3 [(0, vR kk), (1, vI n), (2, vI k)] := hl0
  have lf31 := hts (.fieldLink RX11 31 "KerbSplash" "now" "LKerbSplash$Street;") (List.mem_of_getElem? (i := 1) rfl)
  have hi11 : ∀ w ∈ wsX110, w ∈ vs_e_work := fun w h => List.mem_cons_of_mem _ (List.mem_append_right _ (List.mem_append_left _ h))
  have hi6 : ∀ w ∈ wsX60, w ∈ vs_e_work := fun w h => List.mem_cons_of_mem _ (List.mem_append_right _ (List.mem_append_right _ (List.mem_append_left _ h)))
  have gg_2 : GoodIn vs_e_work (va_wsS RX11 130 yX11_isWithin vs_s_within) := goodIn_sub (fun w h => List.mem_cons_of_mem _ (List.mem_append_right _ (List.mem_append_right _ (List.mem_append_right _ (List.mem_append_left _ h))))) (gd_S gd_s_within (by decide +kernel))
  have gg_3 : GoodIn vs_e_work (wsV RX11 177 RX11 yX11_needElement vs_k_needElement) := goodIn_sub (fun w h => List.mem_cons_of_mem _ (List.mem_append_right _ (List.mem_append_right _ (List.mem_append_right _ (List.mem_append_right _ (List.mem_append_left _ h)))))) (gd_V gd_k_needElement (by decide +kernel))
  have gg_4 : GoodIn vs_e_work (wsV RX11 134 RX11 yX11_needArgument vs_k_needArgument) := goodIn_sub (fun w h => List.mem_cons_of_mem _ (List.mem_append_right _ (List.mem_append_right _ (List.mem_append_right _ (List.mem_append_right _ (List.mem_append_right _ (List.mem_append_left _ h))))))) (gd_V gd_k_needArgument (by decide +kernel))
  refine lv_aload_n hx hb dX11_work_0 rfl (lv_at hlv 0 rfl) ?_
  refine lv_iload_n hx hb dX11_work_1 rfl (lv_at hlv 1 rfl) ?_
  refine lv_iconst (v := iI 0) hx hb dX11_work_2 (by decide) ?_
  refine lv_aload_n hx hb dX11_work_3 rfl (lv_at hlv 0 rfl) ?_
  refine va_get (D := D) (ci := 11) (v := vR sA) (C := RX11) (T := TX11) (N := 14) hx hb hts hi11 hown hG.1 hP 0 rfl rfl 5 (by decide) lf31 (fun _ h9 => h9) rfl dX11_work_4 ?_
  refine va_getN (D := D) (ci := 6) (v := vI wo) (C := RX6) (T := TX6) (N := 19) hx hb hts hi6 hown hG.1 hP 2 rfl rfl 12 (by decide) (va_Nw.use rfl (nF_K_153 hG.2.1)) (fun _ h9 => h9) rfl dX11_work_7 ?_
  refine lv_iconst (v := iI 1) hx hb dX11_work_10 (by decide) ?_
  refine lv_isub hx hb dX11_work_11 ?_
  refine lt_e (e0 := wo - 1) (Int32.ofInt_sub _ _).symm (fun z_1 hz_1 => ?_)
  refine cjr_i [true, true, true, true] (fun pre9 => (va_runS (As := [vI n, vI 0, vI z_1]) (rest := [vR kk]) ⟨hx, hb, hml, hown, hts⟩ (s_within l hl D cy sa n 0 z_1 s.heap.size (by first | exact hr_n | omega) (by show ((-2147483648) : Int) ≤ 0 ∧ (0 : Int) ≤ 2147483647; decide) (by omega)) (va_cwS 3 hts gg_2 rfl rfl rfl (by decide +kernel) ⟨Nat.le_of_ble_eq_true rfl, Nat.le_of_ble_eq_true rfl⟩) ⟨pcW.blind, pre9⟩ rfl rfl hlv.1 rfl (lv_room (Nat.le_of_ble_eq_true rfl)) dX11_work_12 ⟨Nat.le_of_ble_eq_true rfl, Nat.le_of_ble_eq_true rfl⟩)) hP hD hS hA hG hT [] rfl (by decide +kernel) (fun r1 u1 H locs hw1 hq9 hS => ?_)
  obtain ⟨rfl, hq1_1, hq1_2, hq1_3⟩ := hw1
  obtain ⟨hP, hD⟩ := pd9 [zO kk 11 [vR ta, vR kr, vR kl, vI nr, vI nw, vR sA, vR dA, vR pa, vR ki, vR kp, vI im, vR wa, vR or_, vR rq], zI rq (cy 0) 4 qf, zO sA 6 [vI wi, vI ro, vR s2, vR s3, vI dr, vI dt, vR s6, vI pe, vR s8, vI gu, vI sh, vR s11, vI wo, vR s13, vI dn, vI mi, vI fl, vI tk, vI go], zI s13 (cy 0) 40 kf] hq9
  refine cjrx_v [false, false, true, true] (fun pre9 => (vx_runV (As := [vI (u1.2.1 0)]) (rest := []) ⟨hx, hb, hml, hown, hts⟩ (k_needElement l hl D cy sa kk ta kr kl sA dA pa ki kp wa or_ rq nr nw im qf (u1.2.1 0) H.size (by first | exact hr_nr | omega) (by first | exact hr_nw | omega) (by first | exact hr_im | omega) (by first | exact hq1_1 | omega)) (cwV 1 hts gg_3 rfl rfl rfl (by decide +kernel) ⟨Nat.le_of_ble_eq_true rfl, Nat.le_of_ble_eq_true rfl⟩) ⟨pcW.blind, (va_recv hG.1 hP (ci := 11) (q0 := 0) rfl rfl), pre9⟩ rfl rfl hlv.1 rfl (lv_room (Nat.le_of_ble_eq_true rfl)) dX11_work_15 ⟨Nat.le_of_ble_eq_true rfl, Nat.le_of_ble_eq_true rfl⟩)) hP hD hS hA hG hT [0, 1] rfl (by decide +kernel) (fun E ux2 ce q9 H locs hp hq9 hS h1 h2 h3 => ?_) (fun u2 H locs hw2 hq9 hS => ?_)
  · obtain ⟨hP, hD⟩ := hq9
    obtain ⟨hp, hxg2⟩ := hp
    obtain rfl := hp
    exact vx_out (fun x h => (hex x h).elim) hlocks h1 h2 h3 (fun t ht hvm => ⟨((fun k => ([] : List Nat).getD k 0), (fun k => ([] : List Int).getD k 0), (fun k => ([(ux2.2.2 0)] : List (Nat → Int32)).getD k (fun _ => 0))), trivial, ⟨Or.inl ⟨rfl, by omega⟩, at9 ht hP hD [2, 3, 0, 1] (by decide +kernel) rfl⟩, hS.F ht⟩) hS.2.2 (Nat.le_of_ble_eq_true rfl) (Nat.le_of_ble_eq_true rfl)
  have hq2_0 : ((u1.2.1 0) = 1) := hw2
  obtain ⟨hP, hD⟩ := pd9 [zO sA 6 [vI wi, vI ro, vR s2, vR s3, vI dr, vI dt, vR s6, vI pe, vR s8, vI gu, vI sh, vR s11, vI wo, vR s13, vI dn, vI mi, vI fl, vI tk, vI go], zI s13 (cy 0) 40 kf, zO kk 11 [vR ta, vR kr, vR kl, vI nr, vI nw, vR sA, vR dA, vR pa, vR ki, vR kp, vI im, vR wa, vR or_, vR rq], zI rq (cy 0) 4 qf] hq9
  refine lv_aload_n hx hb dX11_work_18 rfl (lv_at hlv 0 rfl) ?_
  refine lv_iload_n hx hb dX11_work_19 rfl (lv_at hlv 2 rfl) ?_
  refine lv_iconst (v := iI 0) hx hb dX11_work_20 (by decide) ?_
  refine lv_iconst (v := iI 1) hx hb dX11_work_21 (by decide) ?_
  refine cjr_i [true, true, true, true] (fun pre9 => (va_runS (As := [vI k, vI 0, vI 1]) (rest := [vR kk]) ⟨hx, hb, hml, hown, hts⟩ (s_within l hl D cy sa k 0 1 H.size (by first | exact hr_k | omega) (by show ((-2147483648) : Int) ≤ 0 ∧ (0 : Int) ≤ 2147483647; decide) (by show ((-2147483648) : Int) ≤ 1 ∧ (1 : Int) ≤ 2147483647; decide)) (va_cwS 3 hts gg_2 rfl rfl rfl (by decide +kernel) ⟨Nat.le_of_ble_eq_true rfl, Nat.le_of_ble_eq_true rfl⟩) ⟨pcW.blind, pre9⟩ rfl rfl hlv.1 rfl (lv_room (Nat.le_of_ble_eq_true rfl)) dX11_work_22 ⟨Nat.le_of_ble_eq_true rfl, Nat.le_of_ble_eq_true rfl⟩)) hP hD hS hA hG hT [] rfl (by decide +kernel) (fun r3 u3 H locs hw3 hq9 hS => ?_)
  obtain ⟨rfl, hq3_1, hq3_2, hq3_3⟩ := hw3
  obtain ⟨hP, hD⟩ := pd9 [zO sA 6 [vI wi, vI ro, vR s2, vR s3, vI dr, vI dt, vR s6, vI pe, vR s8, vI gu, vI sh, vR s11, vI wo, vR s13, vI dn, vI mi, vI fl, vI tk, vI go], zI s13 (cy 0) 40 kf, zO kk 11 [vR ta, vR kr, vR kl, vI nr, vI nw, vR sA, vR dA, vR pa, vR ki, vR kp, vI im, vR wa, vR or_, vR rq], zI rq (cy 0) 4 qf] hq9
  refine cjrx_v [true, true, false, false] (fun pre9 => (vx_runV (As := [vI (u3.2.1 0)]) (rest := []) ⟨hx, hb, hml, hown, hts⟩ (k_needArgument l hl D cy sa kk ta kr kl sA dA pa ki kp wa or_ rq nr nw im qf (u3.2.1 0) H.size (by first | exact hr_nr | omega) (by first | exact hr_nw | omega) (by first | exact hr_im | omega) (by first | exact hq3_1 | omega)) (cwV 1 hts gg_4 rfl rfl rfl (by decide +kernel) ⟨Nat.le_of_ble_eq_true rfl, Nat.le_of_ble_eq_true rfl⟩) ⟨pcW.blind, (va_recv hG.1 hP (ci := 11) (q0 := 2) rfl rfl), pre9⟩ rfl rfl hlv.1 rfl (lv_room (Nat.le_of_ble_eq_true rfl)) dX11_work_25 ⟨Nat.le_of_ble_eq_true rfl, Nat.le_of_ble_eq_true rfl⟩)) hP hD hS hA hG hT [2, 3] rfl (by decide +kernel) (fun E ux4 ce q9 H locs hp hq9 hS h1 h2 h3 => ?_) (fun u4 H locs hw4 hq9 hS => ?_)
  · obtain ⟨hP, hD⟩ := hq9
    obtain ⟨hp, hxg4⟩ := hp
    obtain rfl := hp
    exact vx_out (fun x h => (hex x h).elim) hlocks h1 h2 h3 (fun t ht hvm => ⟨((fun k => ([] : List Nat).getD k 0), (fun k => ([] : List Int).getD k 0), (fun k => ([(ux4.2.2 0)] : List (Nat → Int32)).getD k (fun _ => 0))), trivial, ⟨Or.inr (⟨rfl, by omega⟩), at9 ht hP hD [2, 3, 0, 1] (by decide +kernel) rfl⟩, hS.F ht⟩) hS.2.2 (Nat.le_of_ble_eq_true rfl) (Nat.le_of_ble_eq_true rfl)
  have hq4_0 : ((u3.2.1 0) = 1) := hw4
  obtain ⟨hP, hD⟩ := pd9 [zO sA 6 [vI wi, vI ro, vR s2, vR s3, vI dr, vI dt, vR s6, vI pe, vR s8, vI gu, vI sh, vR s11, vI wo, vR s13, vI dn, vI mi, vI fl, vI tk, vI go], zI s13 (cy 0) 40 kf, zO kk 11 [vR ta, vR kr, vR kl, vI nr, vI nw, vR sA, vR dA, vR pa, vR ki, vR kp, vI im, vR wa, vR or_, vR rq], zI rq (cy 0) 4 qf] hq9
  refine lv_aload_n hx hb dX11_work_28 rfl (lv_at hlv 0 rfl) ?_
  refine va_get (D := D) (ci := 11) (v := vR sA) (C := RX11) (T := TX11) (N := 14) hx hb hts hi11 hown hG.1 hP 2 rfl rfl 5 (by decide) lf31 (fun _ h9 => h9) rfl dX11_work_29 ?_
  refine va_getN (D := D) (ci := 6) (v := vR s13) (C := RX6) (T := TX6) (N := 19) hx hb hts hi6 hown hG.1 hP 0 rfl rfl 13 (by decide) (va_Nw.use rfl (nF_K_189 hG.2.1)) (fun _ h9 => h9) rfl dX11_work_32 ?_
  refine lv_iconst (v := iI 5) hx hb dX11_work_35 (by decide) ?_
  refine lv_iload_n hx hb dX11_work_36 rfl (lv_at hlv 1 rfl) ?_
  refine lv_imul hx hb dX11_work_37 ?_
  refine lt_e (e0 := 5 * n) (Int32.ofInt_mul _ _).symm (fun z_2 hz_2 => ?_)
  refine lv_iload_n hx hb dX11_work_38 rfl (lv_at hlv 2 rfl) ?_
  refine lv_iadd hx hb dX11_work_39 ?_
  refine lt_e (e0 := z_2 + k) (Int32.ofInt_add _ _).symm (fun z_3 hz_3 => ?_)
  refine va_iald hx hb hG.1 hP 1 0 rfl rfl (iI_in (by omega) (by decide)) dX11_work_40 ?_
  refine lt_nz (i := z_3) (by omega) (fun z_4 hz_4 lz_4 uz_4 => ?_)
  refine W.widen (k := 2) (n := 12) (Nat.le_of_ble_eq_true rfl) (Nat.le_of_ble_eq_true rfl) ?_
  refine vx_ret ?_
  exact W.iret (v := iI z_4) hx hb hr (fun t ht hW => ⟨⟨iI z_4, ((fun k => ([] : List Nat).getD k 0), (fun k => ([z_4] : List Int).getD k 0), (fun k => ([] : List (Nat → Int32)).getD k (fun _ => 0))), rfl, ⟨rfl, (by show ((-2147483648) ≤ z_4 ∧ z_4 ≤ 2147483647); omega), (by show (0 ≤ n ∧ n < wo ∧ 0 ≤ k ∧ k ≤ 1); omega), (by show ((z_4) = nz kf (5 * n + k).toNat); exact (by have e9 : z_3 = 5 * n + k := (by omega); rw [← e9]; omega)), hkf⟩, at9 ht hP hD [2, 3, 0, 1] (by decide +kernel) rfl⟩, hS.F ht⟩) hS.2.2 dX11_work_41
end
