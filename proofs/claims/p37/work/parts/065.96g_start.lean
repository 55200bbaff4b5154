theorem gd_map (l : List Int) (j : Nat) : (l.map iI).getD j (iI 0) = iI (l.getD j 0) := by
  rw [List.getD_eq_getElem?_getD, List.getD_eq_getElem?_getD, List.getElem?_map]
  cases l[j]? <;> rfl
theorem tx_known {args : Array Value} {s : State} {A : Nat → Prop} (hs : ∀ w ∈ flatC (Jvm.Cond.and given_1 narrow_1), w.before args s = true) (hA : ∀ a : Nat, a < s.heap.size → ¬ A a) (k : Nat) : ∃ q : Nat × Nat, k < 56 → (txT k).eval args s none [] s = some (.ref q.1) ∧ va_O "java/lang/String" q.1 A s s.heap ∧ va_OF "java/lang/String" "coder" "B" (.int (iI 0)) q.1 A s s.heap ∧ va_OF "java/lang/String" "value" "[B" (.ref q.2) q.1 A s s.heap ∧ va_T .byte q.2 (wdT.getD k []).length (fun j => .int (iI ((wdT.getD k []).getD j 0))) A s s.heap := by
  by_cases hk : k < 56
  · obtain ⟨adK, adV, h1, h2⟩ := vk_Sof (args := args) (s := s) (N := 1) (tm := fun _ => txT k) (len := [(wdT.getD k []).length]) (byt := [(wdT.getD k []).map iI]) (A := A)
      (fun i hi => by obtain rfl : i = 0 := by omega
                      have := slen_r k hk
                      show (wdT.getD k []).length < 2 ^ 31
                      omega)
      (fun i hi => hs _ (tx_ex k hk)) (fun i hi => hs _ (tx_co k hk)) (fun i hi => hs _ (tx_ar k hk))
      (fun i hi => by obtain rfl : i = 0 := by omega
                      exact hs _ (tx_le k hk))
      (fun i hi j hj => by
        obtain rfl : i = 0 := by omega
        have h9 := hs _ (tx_el k hk j hj)
        have e9 : (([(wdT.getD k []).map iI] : List (List Int32)).getD 0 []).getD j 0 = iI ((wdT.getD k []).getD j 0) := by
          show ((wdT.getD k []).map iI).getD j 0 = iI ((wdT.getD k []).getD j 0)
          rw [show (0 : Int32) = iI 0 from by decide, gd_map]
        rw [e9]
        exact h9)
      (fun i j hi hj h => absurd (show i = j by omega) h) hA
    refine ⟨(adK 0, adV 0), fun _ => ⟨h2 0 (by decide), (h1.1 0 (by decide)).1, (h1.1 0 (by decide)).2.1, (h1.1 0 (by decide)).2.2.1, ?_⟩⟩
    have h3 := (h1.1 0 (by decide)).2.2.2
    have e3 : (fun j : Nat => Value.int (([(wdT.getD k []).map iI] : List (List Int32)).getD 0 [] |>.getD j 0)) = fun j => Value.int (iI ((wdT.getD k []).getD j 0)) := by
      funext j
      show Value.int (((wdT.getD k []).map iI).getD j 0) = _
      rw [show (0 : Int32) = iI 0 from by decide, gd_map]
    rw [e3] at h3
    exact h3
  · exact ⟨(0, 0), fun h => absurd h hk⟩
set_option maxRecDepth 1000000 in
theorem wo_ls_0 : Cond.laysStatic RWd (wdN.getD 0 "") "LKerbSplash$Word;" ∈ lw_tbl := mb_3 _ (List.mem_of_getElem? (i := 70) rfl)
set_option maxRecDepth 1000000 in
theorem wo_ls_1 : Cond.laysStatic RWd (wdN.getD 1 "") "LKerbSplash$Word;" ∈ lw_tbl := mb_3 _ (List.mem_of_getElem? (i := 131) rfl)
set_option maxRecDepth 1000000 in
theorem wo_ls_2 : Cond.laysStatic RWd (wdN.getD 2 "") "LKerbSplash$Word;" ∈ lw_tbl := mb_3 _ (List.mem_of_getElem? (i := 133) rfl)
set_option maxRecDepth 1000000 in
theorem wo_ls_3 : Cond.laysStatic RWd (wdN.getD 3 "") "LKerbSplash$Word;" ∈ lw_tbl := mb_3 _ (List.mem_of_getElem? (i := 135) rfl)
set_option maxRecDepth 1000000 in
theorem wo_ls_4 : Cond.laysStatic RWd (wdN.getD 4 "") "LKerbSplash$Word;" ∈ lw_tbl := mb_3 _ (List.mem_of_getElem? (i := 137) rfl)
set_option maxRecDepth 1000000 in
theorem wo_ls_5 : Cond.laysStatic RWd (wdN.getD 5 "") "LKerbSplash$Word;" ∈ lw_tbl := mb_3 _ (List.mem_of_getElem? (i := 139) rfl)
set_option maxRecDepth 1000000 in
theorem wo_ls_6 : Cond.laysStatic RWd (wdN.getD 6 "") "LKerbSplash$Word;" ∈ lw_tbl := mb_9 _ (List.mem_of_getElem? (i := 55) rfl)
set_option maxRecDepth 1000000 in
theorem wo_ls_7 : Cond.laysStatic RWd (wdN.getD 7 "") "LKerbSplash$Word;" ∈ lw_tbl := mb_9 _ (List.mem_of_getElem? (i := 56) rfl)
set_option maxRecDepth 1000000 in
theorem wo_ls_8 : Cond.laysStatic RWd (wdN.getD 8 "") "LKerbSplash$Word;" ∈ lw_tbl := mb_9 _ (List.mem_of_getElem? (i := 57) rfl)
set_option maxRecDepth 1000000 in
theorem wo_ls_9 : Cond.laysStatic RWd (wdN.getD 9 "") "LKerbSplash$Word;" ∈ lw_tbl := mb_9 _ (List.mem_of_getElem? (i := 58) rfl)
set_option maxRecDepth 1000000 in
theorem wo_ls_10 : Cond.laysStatic RWd (wdN.getD 10 "") "LKerbSplash$Word;" ∈ lw_tbl := mb_4 _ (List.mem_of_getElem? (i := 15) rfl)
set_option maxRecDepth 1000000 in
theorem wo_ls_11 : Cond.laysStatic RWd (wdN.getD 11 "") "LKerbSplash$Word;" ∈ lw_tbl := mb_9 _ (List.mem_of_getElem? (i := 59) rfl)
set_option maxRecDepth 1000000 in
theorem wo_ls_12 : Cond.laysStatic RWd (wdN.getD 12 "") "LKerbSplash$Word;" ∈ lw_tbl := mb_9 _ (List.mem_of_getElem? (i := 60) rfl)
set_option maxRecDepth 1000000 in
theorem wo_ls_13 : Cond.laysStatic RWd (wdN.getD 13 "") "LKerbSplash$Word;" ∈ lw_tbl := mb_9 _ (List.mem_of_getElem? (i := 61) rfl)
set_option maxRecDepth 1000000 in
theorem wo_ls_14 : Cond.laysStatic RWd (wdN.getD 14 "") "LKerbSplash$Word;" ∈ lw_tbl := mb_9 _ (List.mem_of_getElem? (i := 62) rfl)
set_option maxRecDepth 1000000 in
theorem wo_ls_15 : Cond.laysStatic RWd (wdN.getD 15 "") "LKerbSplash$Word;" ∈ lw_tbl := mb_9 _ (List.mem_of_getElem? (i := 63) rfl)
set_option maxRecDepth 1000000 in
theorem wo_ls_16 : Cond.laysStatic RWd (wdN.getD 16 "") "LKerbSplash$Word;" ∈ lw_tbl := mb_4 _ (List.mem_of_getElem? (i := 73) rfl)
set_option maxRecDepth 1000000 in
theorem wo_ls_17 : Cond.laysStatic RWd (wdN.getD 17 "") "LKerbSplash$Word;" ∈ lw_tbl := mb_4 _ (List.mem_of_getElem? (i := 115) rfl)
set_option maxRecDepth 1000000 in
theorem wo_ls_18 : Cond.laysStatic RWd (wdN.getD 18 "") "LKerbSplash$Word;" ∈ lw_tbl := mb_4 _ (List.mem_of_getElem? (i := 117) rfl)
set_option maxRecDepth 1000000 in
theorem wo_ls_19 : Cond.laysStatic RWd (wdN.getD 19 "") "LKerbSplash$Word;" ∈ lw_tbl := mb_4 _ (List.mem_of_getElem? (i := 113) rfl)
set_option maxRecDepth 1000000 in
theorem wo_ls_20 : Cond.laysStatic RWd (wdN.getD 20 "") "LKerbSplash$Word;" ∈ lw_tbl := mb_4 _ (List.mem_of_getElem? (i := 111) rfl)
set_option maxRecDepth 1000000 in
theorem wo_ls_21 : Cond.laysStatic RWd (wdN.getD 21 "") "LKerbSplash$Word;" ∈ lw_tbl := mb_4 _ (List.mem_of_getElem? (i := 96) rfl)
set_option maxRecDepth 1000000 in
theorem wo_ls_22 : Cond.laysStatic RWd (wdN.getD 22 "") "LKerbSplash$Word;" ∈ lw_tbl := mb_9 _ (List.mem_of_getElem? (i := 64) rfl)
set_option maxRecDepth 1000000 in
theorem wo_ls_23 : Cond.laysStatic RWd (wdN.getD 23 "") "LKerbSplash$Word;" ∈ lw_tbl := mb_9 _ (List.mem_of_getElem? (i := 65) rfl)
set_option maxRecDepth 1000000 in
theorem wo_ls_24 : Cond.laysStatic RWd (wdN.getD 24 "") "LKerbSplash$Word;" ∈ lw_tbl := mb_9 _ (List.mem_of_getElem? (i := 66) rfl)
set_option maxRecDepth 1000000 in
theorem wo_ls_25 : Cond.laysStatic RWd (wdN.getD 25 "") "LKerbSplash$Word;" ∈ lw_tbl := mb_9 _ (List.mem_of_getElem? (i := 67) rfl)
set_option maxRecDepth 1000000 in
theorem wo_ls_26 : Cond.laysStatic RWd (wdN.getD 26 "") "LKerbSplash$Word;" ∈ lw_tbl := mb_9 _ (List.mem_of_getElem? (i := 68) rfl)
set_option maxRecDepth 1000000 in
theorem wo_ls_27 : Cond.laysStatic RWd (wdN.getD 27 "") "LKerbSplash$Word;" ∈ lw_tbl := mb_9 _ (List.mem_of_getElem? (i := 69) rfl)
theorem wo_ls : ∀ k : Nat, k < 28 → Cond.laysStatic RWd (wdN.getD k "") "LKerbSplash$Word;" ∈ lw_tbl := by
  intro k hk
  match k, hk with
  | 0, _ => exact wo_ls_0
  | 1, _ => exact wo_ls_1
  | 2, _ => exact wo_ls_2
  | 3, _ => exact wo_ls_3
  | 4, _ => exact wo_ls_4
  | 5, _ => exact wo_ls_5
  | 6, _ => exact wo_ls_6
  | 7, _ => exact wo_ls_7
  | 8, _ => exact wo_ls_8
  | 9, _ => exact wo_ls_9
  | 10, _ => exact wo_ls_10
  | 11, _ => exact wo_ls_11
  | 12, _ => exact wo_ls_12
  | 13, _ => exact wo_ls_13
  | 14, _ => exact wo_ls_14
  | 15, _ => exact wo_ls_15
  | 16, _ => exact wo_ls_16
  | 17, _ => exact wo_ls_17
  | 18, _ => exact wo_ls_18
  | 19, _ => exact wo_ls_19
  | 20, _ => exact wo_ls_20
  | 21, _ => exact wo_ls_21
  | 22, _ => exact wo_ls_22
  | 23, _ => exact wo_ls_23
  | 24, _ => exact wo_ls_24
  | 25, _ => exact wo_ls_25
  | 26, _ => exact wo_ls_26
  | 27, _ => exact wo_ls_27
  | k + 28, h => exact absurd h (by omega)
theorem wo_fi : ∀ k : Nat, k < 28 → ∀ q ∈ ([("KerbSplash$Word", "work", "I", [iI (wdW.getD k 0)]), ("KerbSplash$Word", "saying", "I", [iI (wdS.getD k 0)]), ("KerbSplash$Word", "name", "I", [iI (wdM.getD k 0)]), ("java/lang/Enum", "ordinal", "I", [Int32.ofNat k])] : List (String × String × String × List Int32)), Cond.eq (.field (.static RWd (wdN.getD k "") "LKerbSplash$Word;") q.1 q.2.1 q.2.2.1) (.int (q.2.2.2.getD 0 0)) ∈ flatC (Jvm.Cond.and given_1 narrow_1) := by
  intro k hk q hq
  rcases List.mem_cons.mp hq with rfl | hq
  · exact wo_fi0 k hk
  rcases List.mem_cons.mp hq with rfl | hq
  · exact wo_fi1 k hk
  rcases List.mem_cons.mp hq with rfl | hq
  · exact wo_fi2 k hk
  rcases List.mem_cons.mp hq with rfl | hq
  · exact wo_fi3 k hk
  exact absurd hq List.not_mem_nil
theorem wo_known {args : Array Value} {s : State} {A : Nat → Prop} (hts : ∀ w ∈ lw_tbl, w.before args s = true) (hs : ∀ w ∈ flatC (Jvm.Cond.and given_1 narrow_1), w.before args s = true) (hA : ∀ a : Nat, a < s.heap.size → ¬ A a) (k : Nat) : ∃ a : Nat, k < 28 → (Term.static RWd (wdN.getD k "") "LKerbSplash$Word;").eval args s none [] s = some (.ref a) ∧ va_Z RWd (wdN.getD k "") "LKerbSplash$Word;" (.ref a) A s s.heap ∧ va_O RWd a A s s.heap ∧ va_OF RWd "work" "I" (.int (iI (wdW.getD k 0))) a A s s.heap ∧ va_OF RWd "saying" "I" (.int (iI (wdS.getD k 0))) a A s s.heap ∧ va_OF RWd "name" "I" (.int (iI (wdM.getD k 0))) a A s s.heap ∧ va_OF "java/lang/Enum" "ordinal" "I" (.int (Int32.ofNat k)) a A s s.heap := by
  by_cases hk : k < 28
  · obtain ⟨ad, h1, h2⟩ := va_Enof2 (args := args) (s := s) (E := RWd) (d := "LKerbSplash$Word;") (nm := [wdN.getD k ""]) (F := [("KerbSplash$Word", "work", "I", [iI (wdW.getD k 0)]), ("KerbSplash$Word", "saying", "I", [iI (wdS.getD k 0)]), ("KerbSplash$Word", "name", "I", [iI (wdM.getD k 0)]), ("java/lang/Enum", "ordinal", "I", [Int32.ofNat k])]) (A := A)
      (fun i hi => by obtain rfl : i = 0 := by simpa using hi
                      exact hts _ (wo_ls k hk))
      (hts (.initialized RWd) (mb_1 _ (List.mem_of_getElem? (i := 18) rfl)))
      (fun i hi => by obtain rfl : i = 0 := by simpa using hi
                      exact hs _ (wo_ex k hk))
      (fun q hq i hi => by obtain rfl : i = 0 := by simpa using hi
                           exact hs _ (wo_fi k hk q hq))
      (fun i j hi hj h => by
        have a1 : i = 0 := by simpa using hi
        have a2 : j = 0 := by simpa using hj
        exact absurd (a1.trans a2.symm) h) hA
    have h3 := h1.1 0 (Nat.zero_lt_succ _)
    exact ⟨ad 0, fun _ => ⟨h2 0 (Nat.zero_lt_succ _), h3.1, h3.2.1, h3.2.2 _ (List.mem_of_getElem? (i := 0) rfl), h3.2.2 _ (List.mem_of_getElem? (i := 1) rfl), h3.2.2 _ (List.mem_of_getElem? (i := 2) rfl), h3.2.2 _ (List.mem_of_getElem? (i := 3) rfl)⟩⟩
  · exact ⟨0, fun h => absurd h hk⟩
theorem OF_one {o n d : String} {v w : Value} {t : Nat} {A : Nat → Prop} {U : State} {H : Heap} (h : va_OF o n d v t A U H) (k : va_OF o n d w t A U H) : v = w := by
  obtain ⟨cf, kc, i, f, cell, h1, h2, h3, h4, h5, h6⟩ := h
  obtain ⟨cf', kc', i', f', cell', k1, k2, k3, k4, k5, k6⟩ := k
  rw [h1] at k1
  cases k1
  rw [h3] at k3
  cases k3
  simp_all
/-- the start's words and texts: sa is told by w (words), x (texts, their bytes), al (the row of words), t (the four messages) -/
def saF (t w : Nat → Nat) (x : Nat → Nat × Nat) (al : Nat) (k : Nat) : Nat := if k < 4 then t k else if k = 99 then al else if k < 200 then w (k - 100) else if k < 300 then (x (k - 200)).1 else (x (k - 300)).2
theorem saF_w {t w : Nat → Nat} {x : Nat → Nat × Nat} {al : Nat} (k : Nat) (hk : k < 100) : saF t w x al (100 + k) = w k := by
  unfold saF
  rw [if_neg (by omega), if_neg (by omega), if_pos (by omega), Nat.add_sub_cancel_left]
theorem saF_x {t w : Nat → Nat} {x : Nat → Nat × Nat} {al : Nat} (k : Nat) (hk : k < 100) : saF t w x al (200 + k) = (x k).1 := by
  unfold saF
  rw [if_neg (by omega), if_neg (by omega), if_neg (by omega), if_pos (by omega), Nat.add_sub_cancel_left]
theorem saF_v {t w : Nat → Nat} {x : Nat → Nat × Nat} {al : Nat} (k : Nat) (hk : k < 100) : saF t w x al (300 + k) = (x k).2 := by
  unfold saF
  rw [if_neg (by omega), if_neg (by omega), if_neg (by omega), if_neg (by omega), Nat.add_sub_cancel_left]
theorem saF_a {t w : Nat → Nat} {x : Nat → Nat × Nat} {al : Nat} : saF t w x al 99 = al := by
  unfold saF
  rw [if_neg (by decide), if_pos rfl]
theorem ofN_inj : ∀ i : Nat, i < 28 → ∀ j : Nat, j < 28 → Int32.ofNat i = Int32.ofNat j → i = j := by decide
theorem wd_start {args : Array Value} {s : State} {A : Nat → Prop} (hts : ∀ w ∈ lw_tbl, w.before args s = true) (hs : ∀ w ∈ flatC (Jvm.Cond.and given_1 narrow_1), w.before args s = true) (hA : ∀ a : Nat, a < s.heap.size → ¬ A a) : ∃ (w : Nat → Nat) (x : Nat → Nat × Nat) (al : Nat), (∀ t : Nat → Nat, WD (saF t w x al) A s s.heap) ∧ ∀ k : Nat, k < 56 → (txT k).eval args s none [] s = some (.ref (x k).1) := by
  obtain ⟨w, hw⟩ := Classical.axiomOfChoice (fun k => wo_known (A := A) hts hs hA k)
  obtain ⟨x, hx⟩ := Classical.axiomOfChoice (fun k => tx_known (args := args) (A := A) hs hA k)
  have hel : ∀ j : Nat, j < 28 → (Term.elem (.static RWd "ALL" "[LKerbSplash$Word;") (.int (Int32.ofNat j))).eval args s none [] s = some (.ref (w j)) := fun j hj => va_eqv (hs _ (wo_al j hj)) (hw j hj).1
  have hln : (Term.length (.static RWd "ALL" "[LKerbSplash$Word;")).eval args s none [] s = some (.int (Int32.ofNat 28)) := va_eqt (hs (Cond.eq (.length (.static RWd "ALL" "[LKerbSplash$Word;")) (.int 28)) (gv_p [true, false, false, false, false, false, false, true, true, true, true] rfl))
  have hao := hs (Cond.arrayOf (.static RWd "ALL" "[LKerbSplash$Word;") (.object RWd)) (gv_p [true, false, false, false, false, false, false, true, true, true, false] rfl)
  obtain ⟨al, ha1, -⟩ := va_Tof (args := args) (s := s) (tm := .static RWd "ALL" "[LKerbSplash$Word;") (ty := .object RWd) (N := 28) (f := fun j => .ref (w j)) (A := A) (by decide) hao hln hel hA
  have h2 : ∀ (t : Nat → Nat) (k : Nat), k < 56 → WD2 (saF t w x al) k A s s.heap := by
    intro t k hk
    unfold WD2
    rw [saF_x k (by omega), saF_v k (by omega)]
    exact (hx k hk).2
  refine ⟨w, x, al, fun t => ⟨fun k hk => ⟨?_, h2 t k (by omega)⟩, fun i j hi hj e => ?_, ?_, ?_, ?_, ?_, h2 t⟩, fun k hk => (hx k hk).1⟩
  · unfold WD1
    rw [saF_w k (by omega), saF_x k (by omega)]
    obtain ⟨g0, g1, g2, g3, g4, g5, g6⟩ := hw k hk
    exact ⟨g1, g2, g3, g4, g5, vk_OFof g0 (va_eqv (hs _ (wo_le k hk)) (hx k (by omega)).1) hA⟩
  · rw [saF_w i (by omega), saF_w j (by omega)] at e
    have g1 := (hw i hi).2.2.2.2.2.2
    have g2 := (hw j hj).2.2.2.2.2.2
    rw [e] at g1
    have g3 := OF_one g1 g2
    injection g3 with g4
    exact ofN_inj i hi j hj g4
  · rw [saF_a]
    exact va_Zof (hts (.laysStatic RWd "ALL" "[LKerbSplash$Word;") (mb_3 _ (List.mem_of_getElem? (i := 75) rfl))) (hts (.initialized RWd) (mb_1 _ (List.mem_of_getElem? (i := 18) rfl))) ha1 hA
  · obtain ⟨al', b1, b2⟩ := va_Tof (args := args) (s := s) (tm := .static RWd "ALL" "[LKerbSplash$Word;") (ty := .object RWd) (N := 28) (f := fun j => .ref (saF t w x al (100 + j))) (A := A) (by decide) hao hln (fun j hj => by
      show _ = some (Value.ref (saF t w x al (100 + j)))
      rw [saF_w j (by omega)]
      exact hel j hj) hA
    rw [ha1] at b1
    cases b1
    rw [saF_a]
    exact b2
  · exact va_Zof (hts (.laysStatic "java/lang/String" "COMPACT_STRINGS" "Z") (mb_3 _ (List.mem_of_getElem? (i := 85) rfl))) (hts (.initialized "java/lang/String") (mb_1 _ (List.mem_of_getElem? (i := 19) rfl))) (va_eqt (hs (Cond.eq (.static "java/lang/String" "COMPACT_STRINGS" "Z") (.int (iI 1))) (gv_p [true, false, false, false, false, true, true, false, false, false] rfl))) hA
  · exact va_Zqof (hts (.laysStatic "jdk/internal/util/Preconditions" "SIOOBE_FORMATTER" "Ljava/util/function/BiFunction;") (mb_3 _ (List.mem_of_getElem? (i := 101) rfl))) (hts (.initialized "jdk/internal/util/Preconditions") (mb_1 _ (List.mem_of_getElem? (i := 21) rfl))) (hs (.isRef (.static "jdk/internal/util/Preconditions" "SIOOBE_FORMATTER" "Ljava/util/function/BiFunction;")) (gv_p [true, false, false, false, false, true, true, false, false, true, false] rfl)) hA
theorem ac_known {ty : FieldType} {args : Array Value} {s : State} (h : (Cond.arrayClass ty).before args s = true) (hp : ∀ C, ty ≠ .object C) : ∃ cA : ClassId, ArrOfT s cA ty ∧ va_RA s cA ty := by
  obtain ⟨c, k, comp, h1, h2, h3⟩ := Cond.arrayClass_spec h
  refine ⟨c, fun n z => ⟨(fun k h => by cases h), k, h2, comp, h3⟩, ?_⟩
  cases ty with
  | object C => exact absurd rfl (hp C)
  | _ => exact h1
theorem ao_known {C : String} {args : Array Value} {s : State} (h : (Cond.arrayOver (.object C)).before args s = true) : ∃ cA : ClassId, ArrOfT s cA (.object C) ∧ va_RA s cA (.object C) := by
  obtain ⟨comp, c, k, h1, h2, h3, h4, h5⟩ := Cond.arrayOver_spec h
  exact ⟨c, fun n z => ⟨(fun k h => by cases h), k, h3, comp, h4⟩, k, comp, h3, h4, h1, h5⟩
theorem st_known {own tx cl : String} {k : Nat} {args : Array Value} {s : State} (h1 : (Cond.stringRef own k tx).before args s = true) (h2 : (Cond.exactly (.string own k) cl).before args s = true) : ∃ a : Nat, vk_R own k tx a s := by
  obtain ⟨a, ha⟩ : ∃ a : Nat, (Term.string own k).eval args s none [] s = some (.ref a) := by
    obtain ⟨a, c, cell, k, ha, -⟩ := Cond.exactly_spec h2
    exact ⟨a, ha⟩
  exact ⟨a, vk_R.of h1 ha⟩
set_option maxRecDepth 1000000 in
theorem nsF_in : ∀ q ∈ nsF, Cond.fieldLinkNest q.1 q.2.1 q.2.2.1 q.2.2.2.1 q.2.2.2.2.1 q.2.2.2.2.2 ∈ lw_tbl := List.forall_mem_cons.mpr ⟨(mb_1 _ (List.mem_of_getElem? (i := 45) rfl)), List.forall_mem_cons.mpr ⟨(mb_1 _ (List.mem_of_getElem? (i := 49) rfl)), List.forall_mem_cons.mpr ⟨(mb_1 _ (List.mem_of_getElem? (i := 52) rfl)), List.forall_mem_cons.mpr ⟨(mb_1 _ (List.mem_of_getElem? (i := 80) rfl)), List.forall_mem_cons.mpr ⟨(mb_1 _ (List.mem_of_getElem? (i := 81) rfl)), List.forall_mem_cons.mpr ⟨(mb_1 _ (List.mem_of_getElem? (i := 82) rfl)), List.forall_mem_cons.mpr ⟨(mb_1 _ (List.mem_of_getElem? (i := 83) rfl)), List.forall_mem_cons.mpr ⟨(mb_1 _ (List.mem_of_getElem? (i := 85) rfl)), List.forall_mem_cons.mpr ⟨(mb_1 _ (List.mem_of_getElem? (i := 86) rfl)), List.forall_mem_cons.mpr ⟨(mb_1 _ (List.mem_of_getElem? (i := 87) rfl)), List.forall_mem_cons.mpr ⟨(mb_1 _ (List.mem_of_getElem? (i := 88) rfl)), List.forall_mem_cons.mpr ⟨(mb_1 _ (List.mem_of_getElem? (i := 90) rfl)), List.forall_mem_cons.mpr ⟨(mb_1 _ (List.mem_of_getElem? (i := 91) rfl)), List.forall_mem_cons.mpr ⟨(mb_1 _ (List.mem_of_getElem? (i := 93) rfl)), List.forall_mem_cons.mpr ⟨(mb_1 _ (List.mem_of_getElem? (i := 94) rfl)), List.forall_mem_cons.mpr ⟨(mb_1 _ (List.mem_of_getElem? (i := 95) rfl)), List.forall_mem_cons.mpr ⟨(mb_1 _ (List.mem_of_getElem? (i := 97) rfl)), List.forall_mem_cons.mpr ⟨(mb_1 _ (List.mem_of_getElem? (i := 98) rfl)), List.forall_mem_cons.mpr ⟨(mb_1 _ (List.mem_of_getElem? (i := 99) rfl)), List.forall_mem_cons.mpr ⟨(mb_1 _ (List.mem_of_getElem? (i := 101) rfl)), List.forall_mem_cons.mpr ⟨(mb_1 _ (List.mem_of_getElem? (i := 102) rfl)), List.forall_mem_cons.mpr ⟨(mb_1 _ (List.mem_of_getElem? (i := 103) rfl)), List.forall_mem_cons.mpr ⟨(mb_1 _ (List.mem_of_getElem? (i := 104) rfl)), List.forall_mem_cons.mpr ⟨(mb_1 _ (List.mem_of_getElem? (i := 106) rfl)), List.forall_mem_cons.mpr ⟨(mb_1 _ (List.mem_of_getElem? (i := 107) rfl)), List.forall_mem_cons.mpr ⟨(mb_1 _ (List.mem_of_getElem? (i := 108) rfl)), List.forall_mem_cons.mpr ⟨(mb_1 _ (List.mem_of_getElem? (i := 110) rfl)), List.forall_mem_cons.mpr ⟨(mb_1 _ (List.mem_of_getElem? (i := 111) rfl)), List.forall_mem_cons.mpr ⟨(mb_1 _ (List.mem_of_getElem? (i := 112) rfl)), List.forall_mem_cons.mpr ⟨(mb_1 _ (List.mem_of_getElem? (i := 113) rfl)), List.forall_mem_cons.mpr ⟨(mb_1 _ (List.mem_of_getElem? (i := 115) rfl)), List.forall_mem_cons.mpr ⟨(mb_1 _ (List.mem_of_getElem? (i := 116) rfl)), List.forall_mem_cons.mpr ⟨(mb_1 _ (List.mem_of_getElem? (i := 117) rfl)), List.forall_mem_cons.mpr ⟨(mb_1 _ (List.mem_of_getElem? (i := 119) rfl)), List.forall_mem_cons.mpr ⟨(mb_1 _ (List.mem_of_getElem? (i := 121) rfl)), List.forall_mem_cons.mpr ⟨(mb_1 _ (List.mem_of_getElem? (i := 122) rfl)), List.forall_mem_cons.mpr ⟨(mb_1 _ (List.mem_of_getElem? (i := 125) rfl)), List.forall_mem_cons.mpr ⟨(mb_1 _ (List.mem_of_getElem? (i := 126) rfl)), List.forall_mem_cons.mpr ⟨(mb_1 _ (List.mem_of_getElem? (i := 127) rfl)), List.forall_mem_cons.mpr ⟨(mb_1 _ (List.mem_of_getElem? (i := 129) rfl)), List.forall_mem_cons.mpr ⟨(mb_1 _ (List.mem_of_getElem? (i := 131) rfl)), List.forall_mem_cons.mpr ⟨(mb_1 _ (List.mem_of_getElem? (i := 133) rfl)), List.forall_mem_cons.mpr ⟨(mb_1 _ (List.mem_of_getElem? (i := 135) rfl)), List.forall_mem_cons.mpr ⟨(mb_1 _ (List.mem_of_getElem? (i := 137) rfl)), List.forall_mem_cons.mpr ⟨(mb_1 _ (List.mem_of_getElem? (i := 139) rfl)), List.forall_mem_cons.mpr ⟨(mb_1 _ (List.mem_of_getElem? (i := 187) rfl)), List.forall_mem_cons.mpr ⟨(mb_1 _ (List.mem_of_getElem? (i := 188) rfl)), List.forall_mem_cons.mpr ⟨(mb_1 _ (List.mem_of_getElem? (i := 190) rfl)), List.forall_mem_cons.mpr ⟨(mb_1 _ (List.mem_of_getElem? (i := 191) rfl)), List.forall_mem_cons.mpr ⟨(mb_1 _ (List.mem_of_getElem? (i := 193) rfl)), List.forall_mem_cons.mpr ⟨(mb_1 _ (List.mem_of_getElem? (i := 195) rfl)), List.forall_mem_cons.mpr ⟨(mb_1 _ (List.mem_of_getElem? (i := 197) rfl)), List.forall_mem_cons.mpr ⟨(mb_1 _ (List.mem_of_getElem? (i := 198) rfl)), List.forall_mem_cons.mpr ⟨(mb_1 _ (List.mem_of_getElem? (i := 227) rfl)), List.forall_mem_cons.mpr ⟨(mb_1 _ (List.mem_of_getElem? (i := 232) rfl)), List.forall_mem_cons.mpr ⟨(mb_1 _ (List.mem_of_getElem? (i := 234) rfl)), List.forall_mem_cons.mpr ⟨(mb_1 _ (List.mem_of_getElem? (i := 236) rfl)), List.forall_mem_cons.mpr ⟨(mb_2 _ (List.mem_of_getElem? (i := 14) rfl)), List.forall_mem_cons.mpr ⟨(mb_2 _ (List.mem_of_getElem? (i := 36) rfl)), List.forall_mem_cons.mpr ⟨(mb_2 _ (List.mem_of_getElem? (i := 38) rfl)), List.forall_mem_cons.mpr ⟨(mb_2 _ (List.mem_of_getElem? (i := 40) rfl)), List.forall_mem_cons.mpr ⟨(mb_2 _ (List.mem_of_getElem? (i := 57) rfl)), List.forall_mem_cons.mpr ⟨(mb_2 _ (List.mem_of_getElem? (i := 58) rfl)), List.forall_mem_cons.mpr ⟨(mb_2 _ (List.mem_of_getElem? (i := 60) rfl)), List.forall_mem_cons.mpr ⟨(mb_2 _ (List.mem_of_getElem? (i := 61) rfl)), List.forall_mem_cons.mpr ⟨(mb_2 _ (List.mem_of_getElem? (i := 74) rfl)), List.forall_mem_cons.mpr ⟨(mb_2 _ (List.mem_of_getElem? (i := 76) rfl)), List.forall_mem_cons.mpr ⟨(mb_9 _ (List.mem_of_getElem? (i := 51) rfl)), List.forall_mem_cons.mpr ⟨(mb_9 _ (List.mem_of_getElem? (i := 52) rfl)), List.forall_mem_cons.mpr ⟨(mb_9 _ (List.mem_of_getElem? (i := 53) rfl)), fun _ h => absurd h List.not_mem_nil⟩⟩⟩⟩⟩⟩⟩⟩⟩⟩⟩⟩⟩⟩⟩⟩⟩⟩⟩⟩⟩⟩⟩⟩⟩⟩⟩⟩⟩⟩⟩⟩⟩⟩⟩⟩⟩⟩⟩⟩⟩⟩⟩⟩⟩⟩⟩⟩⟩⟩⟩⟩⟩⟩⟩⟩⟩⟩⟩⟩⟩⟩⟩⟩⟩⟩⟩⟩⟩⟩
set_option maxRecDepth 1000000 in
theorem nsM_in : ∀ q ∈ nsM, Cond.methodLinkNest q.1 q.2.1 q.2.2.1 q.2.2.2 ∈ lw_tbl := List.forall_mem_cons.mpr ⟨(mb_1 _ (List.mem_of_getElem? (i := 39) rfl)), List.forall_mem_cons.mpr ⟨(mb_1 _ (List.mem_of_getElem? (i := 75) rfl)), List.forall_mem_cons.mpr ⟨(mb_1 _ (List.mem_of_getElem? (i := 182) rfl)), List.forall_mem_cons.mpr ⟨(mb_1 _ (List.mem_of_getElem? (i := 214) rfl)), List.forall_mem_cons.mpr ⟨(mb_1 _ (List.mem_of_getElem? (i := 219) rfl)), List.forall_mem_cons.mpr ⟨(mb_1 _ (List.mem_of_getElem? (i := 222) rfl)), List.forall_mem_cons.mpr ⟨(mb_2 _ (List.mem_of_getElem? (i := 31) rfl)), List.forall_mem_cons.mpr ⟨(mb_2 _ (List.mem_of_getElem? (i := 52) rfl)), List.forall_mem_cons.mpr ⟨(mb_2 _ (List.mem_of_getElem? (i := 68) rfl)), List.forall_mem_cons.mpr ⟨(mb_2 _ (List.mem_of_getElem? (i := 134) rfl)), List.forall_mem_cons.mpr ⟨(mb_2 _ (List.mem_of_getElem? (i := 138) rfl)), List.forall_mem_cons.mpr ⟨(mb_2 _ (List.mem_of_getElem? (i := 154) rfl)), List.forall_mem_cons.mpr ⟨(mb_2 _ (List.mem_of_getElem? (i := 161) rfl)), List.forall_mem_cons.mpr ⟨(mb_3 _ (List.mem_of_getElem? (i := 25) rfl)), List.forall_mem_cons.mpr ⟨(mb_3 _ (List.mem_of_getElem? (i := 31) rfl)), List.forall_mem_cons.mpr ⟨(mb_3 _ (List.mem_of_getElem? (i := 42) rfl)), List.forall_mem_cons.mpr ⟨(mb_3 _ (List.mem_of_getElem? (i := 46) rfl)), List.forall_mem_cons.mpr ⟨(mb_3 _ (List.mem_of_getElem? (i := 53) rfl)), List.forall_mem_cons.mpr ⟨(mb_3 _ (List.mem_of_getElem? (i := 65) rfl)), List.forall_mem_cons.mpr ⟨(mb_3 _ (List.mem_of_getElem? (i := 71) rfl)), List.forall_mem_cons.mpr ⟨(mb_3 _ (List.mem_of_getElem? (i := 125) rfl)), List.forall_mem_cons.mpr ⟨(mb_3 _ (List.mem_of_getElem? (i := 140) rfl)), List.forall_mem_cons.mpr ⟨(mb_3 _ (List.mem_of_getElem? (i := 152) rfl)), List.forall_mem_cons.mpr ⟨(mb_3 _ (List.mem_of_getElem? (i := 165) rfl)), List.forall_mem_cons.mpr ⟨(mb_3 _ (List.mem_of_getElem? (i := 176) rfl)), List.forall_mem_cons.mpr ⟨(mb_3 _ (List.mem_of_getElem? (i := 177) rfl)), List.forall_mem_cons.mpr ⟨(mb_3 _ (List.mem_of_getElem? (i := 181) rfl)), List.forall_mem_cons.mpr ⟨(mb_3 _ (List.mem_of_getElem? (i := 193) rfl)), List.forall_mem_cons.mpr ⟨(mb_3 _ (List.mem_of_getElem? (i := 205) rfl)), List.forall_mem_cons.mpr ⟨(mb_3 _ (List.mem_of_getElem? (i := 214) rfl)), List.forall_mem_cons.mpr ⟨(mb_3 _ (List.mem_of_getElem? (i := 218) rfl)), List.forall_mem_cons.mpr ⟨(mb_3 _ (List.mem_of_getElem? (i := 222) rfl)), List.forall_mem_cons.mpr ⟨(mb_3 _ (List.mem_of_getElem? (i := 226) rfl)), List.forall_mem_cons.mpr ⟨(mb_3 _ (List.mem_of_getElem? (i := 227) rfl)), List.forall_mem_cons.mpr ⟨(mb_3 _ (List.mem_of_getElem? (i := 232) rfl)), List.forall_mem_cons.mpr ⟨(mb_4 _ (List.mem_of_getElem? (i := 3) rfl)), List.forall_mem_cons.mpr ⟨(mb_4 _ (List.mem_of_getElem? (i := 7) rfl)), List.forall_mem_cons.mpr ⟨(mb_4 _ (List.mem_of_getElem? (i := 8) rfl)), List.forall_mem_cons.mpr ⟨(mb_4 _ (List.mem_of_getElem? (i := 13) rfl)), List.forall_mem_cons.mpr ⟨(mb_4 _ (List.mem_of_getElem? (i := 16) rfl)), List.forall_mem_cons.mpr ⟨(mb_4 _ (List.mem_of_getElem? (i := 20) rfl)), List.forall_mem_cons.mpr ⟨(mb_4 _ (List.mem_of_getElem? (i := 21) rfl)), List.forall_mem_cons.mpr ⟨(mb_4 _ (List.mem_of_getElem? (i := 22) rfl)), List.forall_mem_cons.mpr ⟨(mb_4 _ (List.mem_of_getElem? (i := 36) rfl)), List.forall_mem_cons.mpr ⟨(mb_4 _ (List.mem_of_getElem? (i := 50) rfl)), List.forall_mem_cons.mpr ⟨(mb_4 _ (List.mem_of_getElem? (i := 54) rfl)), List.forall_mem_cons.mpr ⟨(mb_4 _ (List.mem_of_getElem? (i := 59) rfl)), List.forall_mem_cons.mpr ⟨(mb_4 _ (List.mem_of_getElem? (i := 64) rfl)), List.forall_mem_cons.mpr ⟨(mb_4 _ (List.mem_of_getElem? (i := 65) rfl)), List.forall_mem_cons.mpr ⟨(mb_4 _ (List.mem_of_getElem? (i := 66) rfl)), List.forall_mem_cons.mpr ⟨(mb_4 _ (List.mem_of_getElem? (i := 67) rfl)), List.forall_mem_cons.mpr ⟨(mb_4 _ (List.mem_of_getElem? (i := 82) rfl)), List.forall_mem_cons.mpr ⟨(mb_4 _ (List.mem_of_getElem? (i := 97) rfl)), List.forall_mem_cons.mpr ⟨(mb_4 _ (List.mem_of_getElem? (i := 101) rfl)), List.forall_mem_cons.mpr ⟨(mb_4 _ (List.mem_of_getElem? (i := 106) rfl)), List.forall_mem_cons.mpr ⟨(mb_4 _ (List.mem_of_getElem? (i := 118) rfl)), List.forall_mem_cons.mpr ⟨(mb_4 _ (List.mem_of_getElem? (i := 130) rfl)), List.forall_mem_cons.mpr ⟨(mb_4 _ (List.mem_of_getElem? (i := 131) rfl)), List.forall_mem_cons.mpr ⟨(mb_4 _ (List.mem_of_getElem? (i := 151) rfl)), List.forall_mem_cons.mpr ⟨(mb_4 _ (List.mem_of_getElem? (i := 171) rfl)), List.forall_mem_cons.mpr ⟨(mb_4 _ (List.mem_of_getElem? (i := 172) rfl)), List.forall_mem_cons.mpr ⟨(mb_4 _ (List.mem_of_getElem? (i := 232) rfl)), List.forall_mem_cons.mpr ⟨(mb_5 _ (List.mem_of_getElem? (i := 1) rfl)), List.forall_mem_cons.mpr ⟨(mb_5 _ (List.mem_of_getElem? (i := 13) rfl)), List.forall_mem_cons.mpr ⟨(mb_5 _ (List.mem_of_getElem? (i := 17) rfl)), List.forall_mem_cons.mpr ⟨(mb_5 _ (List.mem_of_getElem? (i := 41) rfl)), List.forall_mem_cons.mpr ⟨(mb_5 _ (List.mem_of_getElem? (i := 78) rfl)), List.forall_mem_cons.mpr ⟨(mb_5 _ (List.mem_of_getElem? (i := 89) rfl)), List.forall_mem_cons.mpr ⟨(mb_5 _ (List.mem_of_getElem? (i := 104) rfl)), List.forall_mem_cons.mpr ⟨(mb_5 _ (List.mem_of_getElem? (i := 122) rfl)), List.forall_mem_cons.mpr ⟨(mb_5 _ (List.mem_of_getElem? (i := 126) rfl)), List.forall_mem_cons.mpr ⟨(mb_5 _ (List.mem_of_getElem? (i := 134) rfl)), List.forall_mem_cons.mpr ⟨(mb_5 _ (List.mem_of_getElem? (i := 142) rfl)), List.forall_mem_cons.mpr ⟨(mb_5 _ (List.mem_of_getElem? (i := 143) rfl)), List.forall_mem_cons.mpr ⟨(mb_5 _ (List.mem_of_getElem? (i := 144) rfl)), List.forall_mem_cons.mpr ⟨(mb_5 _ (List.mem_of_getElem? (i := 145) rfl)), List.forall_mem_cons.mpr ⟨(mb_5 _ (List.mem_of_getElem? (i := 153) rfl)), List.forall_mem_cons.mpr ⟨(mb_5 _ (List.mem_of_getElem? (i := 157) rfl)), List.forall_mem_cons.mpr ⟨(mb_5 _ (List.mem_of_getElem? (i := 165) rfl)), List.forall_mem_cons.mpr ⟨(mb_5 _ (List.mem_of_getElem? (i := 176) rfl)), List.forall_mem_cons.mpr ⟨(mb_5 _ (List.mem_of_getElem? (i := 180) rfl)), List.forall_mem_cons.mpr ⟨(mb_5 _ (List.mem_of_getElem? (i := 181) rfl)), List.forall_mem_cons.mpr ⟨(mb_5 _ (List.mem_of_getElem? (i := 182) rfl)), List.forall_mem_cons.mpr ⟨(mb_5 _ (List.mem_of_getElem? (i := 190) rfl)), List.forall_mem_cons.mpr ⟨(mb_5 _ (List.mem_of_getElem? (i := 194) rfl)), List.forall_mem_cons.mpr ⟨(mb_5 _ (List.mem_of_getElem? (i := 195) rfl)), List.forall_mem_cons.mpr ⟨(mb_5 _ (List.mem_of_getElem? (i := 203) rfl)), List.forall_mem_cons.mpr ⟨(mb_5 _ (List.mem_of_getElem? (i := 207) rfl)), List.forall_mem_cons.mpr ⟨(mb_5 _ (List.mem_of_getElem? (i := 208) rfl)), List.forall_mem_cons.mpr ⟨(mb_5 _ (List.mem_of_getElem? (i := 216) rfl)), List.forall_mem_cons.mpr ⟨(mb_5 _ (List.mem_of_getElem? (i := 220) rfl)), List.forall_mem_cons.mpr ⟨(mb_5 _ (List.mem_of_getElem? (i := 231) rfl)), List.forall_mem_cons.mpr ⟨(mb_5 _ (List.mem_of_getElem? (i := 235) rfl)), List.forall_mem_cons.mpr ⟨(mb_5 _ (List.mem_of_getElem? (i := 237) rfl)), List.forall_mem_cons.mpr ⟨(mb_6 _ (List.mem_of_getElem? (i := 9) rfl)), List.forall_mem_cons.mpr ⟨(mb_6 _ (List.mem_of_getElem? (i := 14) rfl)), List.forall_mem_cons.mpr ⟨(mb_6 _ (List.mem_of_getElem? (i := 26) rfl)), List.forall_mem_cons.mpr ⟨(mb_6 _ (List.mem_of_getElem? (i := 37) rfl)), List.forall_mem_cons.mpr ⟨(mb_6 _ (List.mem_of_getElem? (i := 41) rfl)), List.forall_mem_cons.mpr ⟨(mb_6 _ (List.mem_of_getElem? (i := 45) rfl)), List.forall_mem_cons.mpr ⟨(mb_6 _ (List.mem_of_getElem? (i := 56) rfl)), List.forall_mem_cons.mpr ⟨(mb_6 _ (List.mem_of_getElem? (i := 64) rfl)), List.forall_mem_cons.mpr ⟨(mb_6 _ (List.mem_of_getElem? (i := 68) rfl)), List.forall_mem_cons.mpr ⟨(mb_6 _ (List.mem_of_getElem? (i := 87) rfl)), List.forall_mem_cons.mpr ⟨(mb_6 _ (List.mem_of_getElem? (i := 91) rfl)), List.forall_mem_cons.mpr ⟨(mb_6 _ (List.mem_of_getElem? (i := 99) rfl)), List.forall_mem_cons.mpr ⟨(mb_6 _ (List.mem_of_getElem? (i := 110) rfl)), List.forall_mem_cons.mpr ⟨(mb_6 _ (List.mem_of_getElem? (i := 134) rfl)), List.forall_mem_cons.mpr ⟨(mb_6 _ (List.mem_of_getElem? (i := 158) rfl)), List.forall_mem_cons.mpr ⟨(mb_6 _ (List.mem_of_getElem? (i := 162) rfl)), List.forall_mem_cons.mpr ⟨(mb_6 _ (List.mem_of_getElem? (i := 167) rfl)), fun _ h => absurd h List.not_mem_nil⟩⟩⟩⟩⟩⟩⟩⟩⟩⟩⟩⟩⟩⟩⟩⟩⟩⟩⟩⟩⟩⟩⟩⟩⟩⟩⟩⟩⟩⟩⟩⟩⟩⟩⟩⟩⟩⟩⟩⟩⟩⟩⟩⟩⟩⟩⟩⟩⟩⟩⟩⟩⟩⟩⟩⟩⟩⟩⟩⟩⟩⟩⟩⟩⟩⟩⟩⟩⟩⟩⟩⟩⟩⟩⟩⟩⟩⟩⟩⟩⟩⟩⟩⟩⟩⟩⟩⟩⟩⟩⟩⟩⟩⟩⟩⟩⟩⟩⟩⟩⟩⟩⟩⟩⟩⟩⟩⟩⟩⟩⟩
set_option maxRecDepth 1000000 in
theorem cs_in : ∀ e ∈ exn, Cond.castable e e ∈ lw_tbl := List.forall_mem_cons.mpr ⟨(mb_4 _ (List.mem_of_getElem? (i := 157) rfl)), List.forall_mem_cons.mpr ⟨(mb_4 _ (List.mem_of_getElem? (i := 190) rfl)), List.forall_mem_cons.mpr ⟨(mb_2 _ (List.mem_of_getElem? (i := 199) rfl)), List.forall_mem_cons.mpr ⟨(mb_5 _ (List.mem_of_getElem? (i := 27) rfl)), fun _ h => absurd h List.not_mem_nil⟩⟩⟩⟩
theorem nc_in0 : ∀ e ∈ exn, ∀ f ∈ exn, e ≠ f → Cond.not (.castable e f) ∈ flD (Jvm.Cond.and given_1 narrow_1) [] := by decide +kernel
theorem nc_in : ∀ e ∈ exn, ∀ f ∈ exn, e ≠ f → Cond.not (.castable e f) ∈ flatC (Jvm.Cond.and given_1 narrow_1) := fun e he f hf h => gv_mem (nc_in0 e he f hf h)
set_option maxRecDepth 1000000 in
theorem dc_in : ∀ y ∈ dcl, Cond.declares y ∈ lw_tbl := List.forall_mem_cons.mpr ⟨(mb_2 _ (List.mem_of_getElem? (i := 201) rfl)), List.forall_mem_cons.mpr ⟨(mb_2 _ (List.mem_of_getElem? (i := 203) rfl)), List.forall_mem_cons.mpr ⟨(mb_2 _ (List.mem_of_getElem? (i := 205) rfl)), fun _ h => absurd h List.not_mem_nil⟩⟩⟩
set_option maxRecDepth 1000000 in
theorem sr_in : ∀ q ∈ stX, Cond.stringRef q.1 q.2.1 q.2.2.1 ∈ lw_tbl := List.forall_mem_cons.mpr ⟨(mb_4 _ (List.mem_of_getElem? (i := 164) rfl)), List.forall_mem_cons.mpr ⟨(mb_4 _ (List.mem_of_getElem? (i := 197) rfl)), List.forall_mem_cons.mpr ⟨(mb_2 _ (List.mem_of_getElem? (i := 239) rfl)), List.forall_mem_cons.mpr ⟨(mb_5 _ (List.mem_of_getElem? (i := 34) rfl)), List.forall_mem_cons.mpr ⟨(mb_7 _ (List.mem_of_getElem? (i := 108) rfl)), List.forall_mem_cons.mpr ⟨(mb_7 _ (List.mem_of_getElem? (i := 109) rfl)), List.forall_mem_cons.mpr ⟨(mb_7 _ (List.mem_of_getElem? (i := 110) rfl)), List.forall_mem_cons.mpr ⟨(mb_7 _ (List.mem_of_getElem? (i := 111) rfl)), List.forall_mem_cons.mpr ⟨(mb_7 _ (List.mem_of_getElem? (i := 98) rfl)), List.forall_mem_cons.mpr ⟨(mb_7 _ (List.mem_of_getElem? (i := 102) rfl)), List.forall_mem_cons.mpr ⟨(mb_7 _ (List.mem_of_getElem? (i := 103) rfl)), List.forall_mem_cons.mpr ⟨(mb_7 _ (List.mem_of_getElem? (i := 104) rfl)), List.forall_mem_cons.mpr ⟨(mb_7 _ (List.mem_of_getElem? (i := 91) rfl)), List.forall_mem_cons.mpr ⟨(mb_7 _ (List.mem_of_getElem? (i := 167) rfl)), List.forall_mem_cons.mpr ⟨(mb_7 _ (List.mem_of_getElem? (i := 223) rfl)), List.forall_mem_cons.mpr ⟨(mb_7 _ (List.mem_of_getElem? (i := 224) rfl)), List.forall_mem_cons.mpr ⟨(mb_7 _ (List.mem_of_getElem? (i := 225) rfl)), List.forall_mem_cons.mpr ⟨(mb_7 _ (List.mem_of_getElem? (i := 226) rfl)), List.forall_mem_cons.mpr ⟨(mb_7 _ (List.mem_of_getElem? (i := 227) rfl)), List.forall_mem_cons.mpr ⟨(mb_7 _ (List.mem_of_getElem? (i := 228) rfl)), List.forall_mem_cons.mpr ⟨(mb_7 _ (List.mem_of_getElem? (i := 181) rfl)), List.forall_mem_cons.mpr ⟨(mb_7 _ (List.mem_of_getElem? (i := 205) rfl)), List.forall_mem_cons.mpr ⟨(mb_7 _ (List.mem_of_getElem? (i := 210) rfl)), List.forall_mem_cons.mpr ⟨(mb_7 _ (List.mem_of_getElem? (i := 198) rfl)), List.forall_mem_cons.mpr ⟨(mb_7 _ (List.mem_of_getElem? (i := 203) rfl)), List.forall_mem_cons.mpr ⟨(mb_7 _ (List.mem_of_getElem? (i := 204) rfl)), List.forall_mem_cons.mpr ⟨(mb_7 _ (List.mem_of_getElem? (i := 172) rfl)), List.forall_mem_cons.mpr ⟨(mb_7 _ (List.mem_of_getElem? (i := 173) rfl)), List.forall_mem_cons.mpr ⟨(mb_7 _ (List.mem_of_getElem? (i := 174) rfl)), List.forall_mem_cons.mpr ⟨(mb_7 _ (List.mem_of_getElem? (i := 175) rfl)), List.forall_mem_cons.mpr ⟨(mb_7 _ (List.mem_of_getElem? (i := 176) rfl)), fun _ h => absurd h List.not_mem_nil⟩⟩⟩⟩⟩⟩⟩⟩⟩⟩⟩⟩⟩⟩⟩⟩⟩⟩⟩⟩⟩⟩⟩⟩⟩⟩⟩⟩⟩⟩⟩
set_option maxRecDepth 1000000 in
theorem se_in : ∀ q ∈ stX, Cond.exactly (.string q.1 q.2.1) "java/lang/String" ∈ flatC (Jvm.Cond.and given_1 narrow_1) := List.forall_mem_cons.mpr ⟨(gv_p [true, false, true, true, false, false, true, true, false, false, true] rfl), List.forall_mem_cons.mpr ⟨(gv_p [true, false, true, true, false, true, false, true, false, true, true] rfl), List.forall_mem_cons.mpr ⟨(gv_p [true, false, true, false, true, true, true, true, true, false, true] rfl), List.forall_mem_cons.mpr ⟨(gv_p [true, false, true, true, true, false, false, true, true, true, false] rfl), List.forall_mem_cons.mpr ⟨(gv_p [true, true, false, false, false, true, false, true, true, true, true] rfl), List.forall_mem_cons.mpr ⟨(gv_p [true, true, false, false, false, true, true, true, false, false, true] rfl), List.forall_mem_cons.mpr ⟨(gv_p [true, true, false, false, true, false, false, false, false, true, true] rfl), List.forall_mem_cons.mpr ⟨(gv_p [true, true, false, false, true, false, false, true, true, false, true] rfl), List.forall_mem_cons.mpr ⟨(gv_p [true, true, false, false, false, false, false, true, false, false] rfl), List.forall_mem_cons.mpr ⟨(gv_p [true, true, false, false, false, false, true, false, false, true, false] rfl), List.forall_mem_cons.mpr ⟨(gv_p [true, true, false, false, false, false, true, true, false, true, false] rfl), List.forall_mem_cons.mpr ⟨(gv_p [true, true, false, false, false, true, false, false, true, false, false] rfl), List.forall_mem_cons.mpr ⟨(gv_p [true, false, true, true, true, true, true, true, true, false, false] rfl), List.forall_mem_cons.mpr ⟨(gv_p [true, true, false, false, true, false, true, false, true, true, false] rfl), List.forall_mem_cons.mpr ⟨(gv_p [true, true, false, true, false, true, true, true, false, false, true] rfl), List.forall_mem_cons.mpr ⟨(gv_p [true, true, false, true, true, false, false, false, false, true, true] rfl), List.forall_mem_cons.mpr ⟨(gv_p [true, true, false, true, true, false, false, true, true, false, false] rfl), List.forall_mem_cons.mpr ⟨(gv_p [true, true, false, true, true, false, true, false, true, false, true] rfl), List.forall_mem_cons.mpr ⟨(gv_p [true, true, false, true, true, false, true, true, true, false, false] rfl), List.forall_mem_cons.mpr ⟨(gv_p [true, true, false, true, true, true, false, false, true, false, false] rfl), List.forall_mem_cons.mpr ⟨(gv_p [true, true, false, true, false, false, false, true, false, true, true] rfl), List.forall_mem_cons.mpr ⟨(gv_p [true, true, false, true, false, true, false, false, true, true, true] rfl), List.forall_mem_cons.mpr ⟨(gv_p [true, true, false, true, false, true, true, false, false, false] rfl), List.forall_mem_cons.mpr ⟨(gv_p [true, true, false, true, false, false, true, false, false, true, false] rfl), List.forall_mem_cons.mpr ⟨(gv_p [true, true, false, true, false, false, true, true, false, false, true] rfl), List.forall_mem_cons.mpr ⟨(gv_p [true, true, false, true, false, true, false, false, false, false] rfl), List.forall_mem_cons.mpr ⟨(gv_p [true, true, false, false, true, false, true, true, true, true, false] rfl), List.forall_mem_cons.mpr ⟨(gv_p [true, true, false, false, true, true, false, true, false, false] rfl), List.forall_mem_cons.mpr ⟨(gv_p [true, true, false, false, true, true, true, false, false, true, true] rfl), List.forall_mem_cons.mpr ⟨(gv_p [true, true, false, false, true, true, true, true, false, true, false] rfl), List.forall_mem_cons.mpr ⟨(gv_p [true, true, false, true, false, false, false, false, false, true, true] rfl), fun _ h => absurd h List.not_mem_nil⟩⟩⟩⟩⟩⟩⟩⟩⟩⟩⟩⟩⟩⟩⟩⟩⟩⟩⟩⟩⟩⟩⟩⟩⟩⟩⟩⟩⟩⟩⟩
set_option maxHeartbeats 4000000 in
set_option maxRecDepth 1000000 in
theorem gc_start {s : State} {b : Nat} {A : Nat → Prop} (hA : ∀ a : Nat, a < s.heap.size → ¬ A a) (hts : ∀ w ∈ lw_tbl, w.before #[Value.ref b] s = true) (hgv : (Jvm.Cond.and given_1 narrow_1).before #[Value.ref b] s = true) : ∃ (D : va_G) (cy : Nat → ClassId) (sa : Nat → Nat), GC D cy sa s ∧ TH sa A s s.heap := by
  have hs := flat_of_before _ hgv
  obtain ⟨w, x, al, hW, hxe⟩ := wd_start (A := A) hts hs hA
  obtain ⟨k0, i0, hK0⟩ := u_known (C := RX0) (T := TX0) (N := 7) (n := 7) hts inX0 (hts (.instantiable RX0 7) (mb_1 _ (List.mem_of_getElem? (i := 221) rfl)))
  obtain ⟨k1, i1, hK1⟩ := u_known (C := RX1) (T := TX1) (N := 4) (n := 4) hts inX1 (hts (.instantiable RX1 4) (mb_2 _ (List.mem_of_getElem? (i := 67) rfl)))
  obtain ⟨k2, i2, hK2⟩ := u_known (C := RX2) (T := TX2) (N := 3) (n := 3) hts inX2 (hts (.instantiable RX2 3) (mb_4 _ (List.mem_of_getElem? (i := 35) rfl)))
  obtain ⟨k3, i3, hK3⟩ := u_known (C := RX3) (T := TX3) (N := 4) (n := 4) hts inX3 (hts (.instantiable RX3 4) (mb_2 _ (List.mem_of_getElem? (i := 30) rfl)))
  obtain ⟨k4, i4, hK4⟩ := u_known (C := RX4) (T := TX4) (N := 5) (n := 5) hts inX4 (hts (.instantiable RX4 5) (mb_1 _ (List.mem_of_getElem? (i := 181) rfl)))
  obtain ⟨k5, i5, hK5⟩ := u_known (C := RX5) (T := TX5) (N := 2) (n := 2) hts inX5 (hts (.instantiable RX5 2) (mb_2 _ (List.mem_of_getElem? (i := 51) rfl)))
  obtain ⟨k6, i6, hK6⟩ := u_known (C := RX6) (T := TX6) (N := 19) (n := 19) hts inX6 (hts (.instantiable RX6 19) (mb_1 _ (List.mem_of_getElem? (i := 74) rfl)))
  obtain ⟨k7, i7, hK7⟩ := u_known (C := RX7) (T := TX7) (N := 2) (n := 2) hts inX7 (hts (.instantiable RX7 2) (mb_3 _ (List.mem_of_getElem? (i := 30) rfl)))
  obtain ⟨k8, i8, hK8⟩ := u_known (C := RX8) (T := TX8) (N := 7) (n := 7) hts inX8 (hts (.instantiable RX8 7) (mb_1 _ (List.mem_of_getElem? (i := 38) rfl)))
  obtain ⟨k9, i9, hK9⟩ := u_known (C := RX9) (T := TX9) (N := 5) (n := 5) hts inX9 (hts (.instantiable RX9 5) (mb_1 _ (List.mem_of_getElem? (i := 213) rfl)))
  obtain ⟨k10, i10, hK10⟩ := u_known (C := RX10) (T := TX10) (N := 0) (n := 7) hts inX10 (hts (.instantiable RX10 7) (mb_3 _ (List.mem_of_getElem? (i := 128) rfl)))
  obtain ⟨k11, i11, hK11⟩ := u_known (C := RX11) (T := TX11) (N := 14) (n := 14) hts inX11 (hts (.instantiable RX11 14) (mb_1 _ (List.mem_of_getElem? (i := 30) rfl)))
  obtain ⟨k12, i12, hK12⟩ := u_known (C := RX12) (T := TX12) (N := 38) (n := 38) hts inX12 (hts (.instantiable RX12 38) (mb_6 _ (List.mem_of_getElem? (i := 172) rfl)))
  let kl : List ClassId := [k0, k1, k2, k3, k4, k5, k6, k7, k8, k9, k10, k11, k12]
  let il : List (Nat → Nat) := [i0, i1, i2, i3, i4, i5, i6, i7, i8, i9, i10, i11, i12]
  have hKc : ∀ (k : Nat) (q : vw_C), vwCl[k]? = some q → u_Kn s q.1 q.2.1 q.2.2 (kl.getD k k0) (il.getD k i0) := by
    intro k q hq
    match k, hq with
    | 0, hq => cases hq; exact hK0
    | 1, hq => cases hq; exact hK1
    | 2, hq => cases hq; exact hK2
    | 3, hq => cases hq; exact hK3
    | 4, hq => cases hq; exact hK4
    | 5, hq => cases hq; exact hK5
    | 6, hq => cases hq; exact hK6
    | 7, hq => cases hq; exact hK7
    | 8, hq => cases hq; exact hK8
    | 9, hq => cases hq; exact hK9
    | 10, hq => cases hq; exact hK10
    | 11, hq => cases hq; exact hK11
    | 12, hq => cases hq; exact hK12
    | k + 13, hq => simp [vwCl] at hq
  obtain ⟨a0, hA0⟩ := ac_known (hts (.arrayClass .int) (mb_1 _ (List.mem_of_getElem? (i := 179) rfl))) (fun C h => nomatch h)
  obtain ⟨a1, hA1⟩ := ac_known (hts (.arrayClass .byte) (mb_1 _ (List.mem_of_getElem? (i := 68) rfl))) (fun C h => nomatch h)
  obtain ⟨a2, hA2⟩ := ac_known (hts (.arrayClass .long) (mb_9 _ (List.mem_of_getElem? (i := 26) rfl))) (fun C h => nomatch h)
  have ho3 := hts (.arrayOver (.object RX6)) (mb_1 _ (List.mem_of_getElem? (i := 210) rfl))
  obtain ⟨a3, hA3⟩ := ao_known ho3
  have ho4 := hts (.arrayOver (.object RX5)) (mb_1 _ (List.mem_of_getElem? (i := 70) rfl))
  obtain ⟨a4, hA4⟩ := ao_known ho4
  have ho5 := hts (.arrayOver (.object RX1)) (mb_1 _ (List.mem_of_getElem? (i := 72) rfl))
  obtain ⟨a5, hA5⟩ := ao_known ho5
  have ho6 := hts (.arrayOver (.object RX4)) (mb_1 _ (List.mem_of_getElem? (i := 211) rfl))
  obtain ⟨a6, hA6⟩ := ao_known ho6
  let cl : List ClassId := [a0, a1, a2, a3, a4, a5, a6]
  obtain ⟨t0, hS0⟩ := st_known (hts _ (sr_in _ (List.mem_of_getElem? (i := 0) rfl))) (hs _ (se_in _ (List.mem_of_getElem? (i := 0) rfl)))
  obtain ⟨t1, hS1⟩ := st_known (hts _ (sr_in _ (List.mem_of_getElem? (i := 1) rfl))) (hs _ (se_in _ (List.mem_of_getElem? (i := 1) rfl)))
  obtain ⟨t2, hS2⟩ := st_known (hts _ (sr_in _ (List.mem_of_getElem? (i := 2) rfl))) (hs _ (se_in _ (List.mem_of_getElem? (i := 2) rfl)))
  obtain ⟨t3, hS3⟩ := st_known (hts _ (sr_in _ (List.mem_of_getElem? (i := 3) rfl))) (hs _ (se_in _ (List.mem_of_getElem? (i := 3) rfl)))
  let tl : Nat → Nat := fun k => ([t0, t1, t2, t3] : List Nat).getD k 0
  refine ⟨(fun k => kl.getD k k0, fun k => il.getD k i0), (fun k => cl.getD k a0), saF tl w x al, ⟨⟨hKc, ?_⟩, ⟨fun q hq => va_Nw.of rfl (hts _ (nsF_in q hq)), fun q hq => va_Nw.of rfl (hts _ (nsM_in q hq))⟩, ?_, fun e he => va_Nw.of rfl (hts _ (cs_in e he)), fun e he f hf hn => va_Nc.of (hs _ (nc_in e he f hf hn)), ⟨va_AO.of ho4, va_AO.of ho5, va_AO.of ho3, va_AO.of ho6⟩, fun y hy => va_Nw.of rfl (hts _ (dc_in y hy))⟩, ?_, ?_, hW tl⟩
  · intro k q hq
    match k, hq with
    | 0, hq => cases hq; exact hA0
    | 1, hq => cases hq; exact hA1
    | 2, hq => cases hq; exact hA2
    | 3, hq => cases hq; exact hA3
    | 4, hq => cases hq; exact hA4
    | 5, hq => cases hq; exact hA5
    | 6, hq => cases hq; exact hA6
    | k + 7, hq => simp [tyW] at hq
  · intro k q hq
    match k, hq with
    | 0, hq => cases hq; exact hS0
    | 1, hq => cases hq; exact hS1
    | 2, hq => cases hq; exact hS2
    | 3, hq => cases hq; exact hS3
    | 4, hq => cases hq; exact vk_R.of (hts (.stringRef RX12 133 "clear") (mb_7 _ (List.mem_of_getElem? (i := 108) rfl))) (hxe 34 (by decide))
    | 5, hq => cases hq; exact vk_R.of (hts (.stringRef RX12 139 "raise") (mb_7 _ (List.mem_of_getElem? (i := 109) rfl))) (hxe 35 (by decide))
    | 6, hq => cases hq; exact vk_R.of (hts (.stringRef RX12 141 "lower") (mb_7 _ (List.mem_of_getElem? (i := 110) rfl))) (hxe 36 (by decide))
    | 7, hq => cases hq; exact vk_R.of (hts (.stringRef RX12 143 "bore") (mb_7 _ (List.mem_of_getElem? (i := 111) rfl))) (hxe 37 (by decide))
    | 8, hq => cases hq; exact vk_R.of (hts (.stringRef RX12 154 "size") (mb_7 _ (List.mem_of_getElem? (i := 98) rfl))) (hxe 29 (by decide))
    | 9, hq => cases hq; exact vk_R.of (hts (.stringRef RX12 155 "high") (mb_7 _ (List.mem_of_getElem? (i := 102) rfl))) (hxe 30 (by decide))
    | 10, hq => cases hq; exact vk_R.of (hts (.stringRef RX12 157 "drain") (mb_7 _ (List.mem_of_getElem? (i := 103) rfl))) (hxe 31 (by decide))
    | 11, hq => cases hq; exact vk_R.of (hts (.stringRef RX12 162 "person") (mb_7 _ (List.mem_of_getElem? (i := 104) rfl))) (hxe 32 (by decide))
    | 12, hq => cases hq; exact vk_R.of (hts (.stringRef RX12 185 "shelter") (mb_7 _ (List.mem_of_getElem? (i := 91) rfl))) (hxe 33 (by decide))
    | 13, hq => cases hq; exact vk_R.of (hts (.stringRef RX12 207 "rain") (mb_7 _ (List.mem_of_getElem? (i := 167) rfl))) (hxe 38 (by decide))
    | 14, hq => cases hq; exact vk_R.of (hts (.stringRef RX12 215 "depth") (mb_7 _ (List.mem_of_getElem? (i := 223) rfl))) (hxe 50 (by decide))
    | 15, hq => cases hq; exact vk_R.of (hts (.stringRef RX12 217 "pace") (mb_7 _ (List.mem_of_getElem? (i := 224) rfl))) (hxe 51 (by decide))
    | 16, hq => cases hq; exact vk_R.of (hts (.stringRef RX12 219 "tyre") (mb_7 _ (List.mem_of_getElem? (i := 225) rfl))) (hxe 52 (by decide))
    | 17, hq => cases hq; exact vk_R.of (hts (.stringRef RX12 221 "row") (mb_7 _ (List.mem_of_getElem? (i := 226) rfl))) (hxe 53 (by decide))
    | 18, hq => cases hq; exact vk_R.of (hts (.stringRef RX12 223 "far") (mb_7 _ (List.mem_of_getElem? (i := 227) rfl))) (hxe 54 (by decide))
    | 19, hq => cases hq; exact vk_R.of (hts (.stringRef RX12 225 "people") (mb_7 _ (List.mem_of_getElem? (i := 228) rfl))) (hxe 55 (by decide))
    | 20, hq => cases hq; exact vk_R.of (hts (.stringRef RX12 242 "if") (mb_7 _ (List.mem_of_getElem? (i := 181) rfl))) (hxe 44 (by decide))
    | 21, hq => cases hq; exact vk_R.of (hts (.stringRef RX12 247 "then") (mb_7 _ (List.mem_of_getElem? (i := 205) rfl))) (hxe 45 (by decide))
    | 22, hq => cases hq; exact vk_R.of (hts (.stringRef RX12 252 "else") (mb_7 _ (List.mem_of_getElem? (i := 210) rfl))) (hxe 46 (by decide))
    | 23, hq => cases hq; exact vk_R.of (hts (.stringRef RX12 257 "not") (mb_7 _ (List.mem_of_getElem? (i := 198) rfl))) (hxe 49 (by decide))
    | 24, hq => cases hq; exact vk_R.of (hts (.stringRef RX12 262 "and") (mb_7 _ (List.mem_of_getElem? (i := 203) rfl))) (hxe 48 (by decide))
    | 25, hq => cases hq; exact vk_R.of (hts (.stringRef RX12 267 "or") (mb_7 _ (List.mem_of_getElem? (i := 204) rfl))) (hxe 47 (by decide))
    | 26, hq => cases hq; exact vk_R.of (hts (.stringRef RX12 269 "throw") (mb_7 _ (List.mem_of_getElem? (i := 172) rfl))) (hxe 39 (by decide))
    | 27, hq => cases hq; exact vk_R.of (hts (.stringRef RX12 271 "reach") (mb_7 _ (List.mem_of_getElem? (i := 173) rfl))) (hxe 40 (by decide))
    | 28, hq => cases hq; exact vk_R.of (hts (.stringRef RX12 273 "wet") (mb_7 _ (List.mem_of_getElem? (i := 174) rfl))) (hxe 41 (by decide))
    | 29, hq => cases hq; exact vk_R.of (hts (.stringRef RX12 275 "slow") (mb_7 _ (List.mem_of_getElem? (i := 175) rfl))) (hxe 42 (by decide))
    | 30, hq => cases hq; exact vk_R.of (hts (.stringRef RX12 277 "out") (mb_7 _ (List.mem_of_getElem? (i := 176) rfl))) (hxe 43 (by decide))
    | k + 31, hq => simp [stX] at hq
  · exact vx_Zqof (hts (.laysStatic Bundle.tN "UNASSIGNED_STACK" Bundle.steD) (by decide +kernel)) (hts (.initialized Bundle.tN) (by decide +kernel)) (hs (.isRef (.static Bundle.tN "UNASSIGNED_STACK" Bundle.steD)) (by decide +kernel)) hA
  · exact vx_Zqof (hts (.laysStatic Bundle.tN "SUPPRESSED_SENTINEL" Bundle.listD) (by decide +kernel)) (hts (.initialized Bundle.tN) (by decide +kernel)) (hs (.isRef (.static Bundle.tN "SUPPRESSED_SENTINEL" Bundle.listD)) (by decide +kernel)) hA
