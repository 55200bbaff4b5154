theorem dL_law__1915 : decode cL_law_ 1915 = .ok (.iinc 4 10, 3) := by decide +kernel
theorem dL_law__1918 : decode cL_law_ 1918 = .ok (.goto (-1895), 3) := by decide +kernel
theorem dL_law__1921 : decode cL_law_ 1921 = .ok (.iconst 1, 1) := by decide +kernel
theorem dL_law__1922 : decode cL_law_ 1922 = .ok (.ireturn, 1) := by decide +kernel
theorem dL_law__23 : decode cL_law_ 23 = .ok (.iload 4, 2) := by decide +kernel
theorem dL_law__25 : decode cL_law_ 25 = .ok (.aload_n 0, 1) := by decide +kernel
theorem dL_law__26 : decode cL_law_ 26 = .ok (.arraylength, 1) := by decide +kernel
theorem dL_law__27 : decode cL_law_ 27 = .ok (.bipush 10, 2) := by decide +kernel
theorem dL_law__29 : decode cL_law_ 29 = .ok (.isub, 1) := by decide +kernel
theorem dL_law__30 : decode cL_law_ 30 = .ok (.if_icmp .gt 1891, 3) := by decide +kernel
theorem dL_law__33 : decode cL_law_ 33 = .ok (.aload_n 0, 1) := by decide +kernel
theorem dL_law__34 : decode cL_law_ 34 = .ok (.iload 4, 2) := by decide +kernel
theorem dL_law__36 : decode cL_law_ 36 = .ok (.iaload, 1) := by decide +kernel
theorem dL_law__37 : decode cL_law_ 37 = .ok (.bipush 63, 2) := by decide +kernel
theorem dL_law__39 : decode cL_law_ 39 = .ok (.iand, 1) := by decide +kernel
theorem dL_law__40 : decode cL_law_ 40 = .ok (.tableswitch 1875 0 37 #[168, 241, 269, 297, 325, 338, 366, 418, 458, 498, 538, 578, 606, 646, 674, 702, 834, 910, 986, 1014, 1027, 1079, 1143, 1207, 1247, 1299, 1363, 1403, 1479, 1519, 1623, 1675, 1731, 1759, 1799, 1812, 1825, 1850], 168) := by decide +kernel
set_option maxHeartbeats 4000000 in
set_option maxRecDepth 100000 in
theorem law_turn {p : Program} {e : Env} {s : State} {m : MethodId} {below : List Frame} {meth : Method} {c : Code} (l : Launch) (hl : l.stackTraces = false) {b L : Nat} {xs : Nat → Int32} {D : va_G} {cy : Nat → ClassId} {sa : Nat → Nat} {A : Nat → Prop} (kk mm ao : Nat) (q1 q2 : Nat → Nat) (C0 : lw_At p s m meth c b L xs) (hL : L ≤ 5120) (hA : ∀ q : Nat, s.heap.size ≤ q → A q) (hbA : ¬ A b) (hG : GC D cy sa s) (hT : TH sa A s s.heap) (i : Int) (hi : 0 ≤ i ∧ i ≤ 5120) (hAe : A = fun q => s.heap.size ≤ q) {cells slots : Nat} (hcc : cells + 4 ≤ room_1.cells) (hcs : slots + 24 ≤ room_1.slots) (w0 : Nat → SV) {H : Heap} {locs : List Loc} {ls : Array Slot} (hF : LF w0) (hP : va_P D vwCl (LW cy kk mm ao q1 q2 w0) H) (hD : va_D A (LW cy kk mm ao q1 q2 w0)) (hS : va_S A s.heap H locs) (hlv : lv_has ls 7 [(4, .int (iI i)), (3, .ref ao), (2, .ref mm), (1, .ref kk), (0, .ref b)]) (kont : i + 10 ≤ (L : Int) → ∀ (u : Nat → SV) (H : Heap) (locs : List Loc) (ls : Array Slot), LF u → va_P D vwCl (LW cy kk mm ao q1 q2 u) H → va_D A (LW cy kk mm ao q1 q2 u) → va_S A s.heap H locs → lv_has ls 7 [(4, .int (iI i)), (3, .ref ao), (2, .ref mm), (1, .ref kk), (0, .ref b)] → W p l e room_1 s m #[Value.ref b] below meth c H locs (cells + 4) (slots + 24) (lw_Z below #[Value.ref b] s) (F0 m 1915 ls [])) : W p l e room_1 s m #[Value.ref b] below meth c H locs cells slots (lw_Z below #[Value.ref b] s) (F0 m 23 ls []) := by
  obtain ⟨hx, hb, hr, hml, hown0, hts0, hX, hbl, hlocks, hgv⟩ := id C0
  have hrc : room_1.cells = 601024 := rfl
  have hrs : room_1.slots = 7293034 := rfl
  refine lv_iload hx hb dL_law__23 (lv_at hlv 0 rfl) ?_
  refine lv_aload_n hx hb dL_law__25 rfl (lv_at hlv 4 rfl) ?_
  refine va_slen hx hb hX hbl hbA hS dL_law__26 ?_
  refine lt_i (y := iI (L : Int)) (ofN_i L) ?_
  refine lv_bipush (v := iI 10) hx hb dL_law__27 (by decide) ?_
  refine lv_isub hx hb dL_law__29 ?_
  refine lt_e (e0 := (L : Int) - 10) (Int32.ofInt_sub _ _).symm (fun z_1 hz_1 => ?_)
  refine ir_gt (tgt := 1921) hx hb dL_law__30 (by decide) (by omega) (by omega) (fun c_2 => ?_) (fun c_2 => ?_)
  · refine lv_iconst (v := iI 1) hx hb dL_law__1921 (by decide) ?_
    refine lt_i (y := 1) (by decide) ?_
    refine va_forget (fun q hq => by have h9 := hS.2.2 q hq; rw [hAe] at h9; exact h9) ?_
    refine W.widen (k := 601024) (n := 7293034) (by omega) (by omega) ?_
    exact lw_ret hx hb hr hlocks dL_law__1922
  · refine lv_aload_n hx hb dL_law__33 rfl (lv_at hlv 4 rfl) ?_
    refine lv_iload hx hb dL_law__34 (lv_at hlv 0 rfl) ?_
    refine va_sld hx hb hX hbl hbA hS (iI_in (by omega) (by omega)) dL_law__36 ?_
    refine lt_z (fun z_3 ez_3 lz_3 hz_3 => ?_)
    refine lv_bipush (v := iI 63) hx hb dL_law__37 (by decide) ?_
    refine lv_iand hx hb dL_law__39 ?_
    refine lt_aE 6 (by decide) (by decide) (hi := 63) (by decide) (fun z_4 ez_4 lz_4 hz_4 => ?_)
    by_cases k_5 : z_4 = 0
    · refine lt_i (y := iI 0) (by rw [k_5]) ?_
      refine lv_tableIn (tgt := 208) hx hb dL_law__40 (by decide) (by decide) rfl (by decide) ?_
      exact lc_feed l hl kk mm ao q1 q2 C0 hL hA hbA hG hT i (by omega) hcc hcs w0 hF hP hD hS hlv (kont (by omega))
    by_cases k_6 : z_4 = 1
    · refine lt_i (y := iI 1) (by rw [k_6]) ?_
      refine lv_tableIn (tgt := 281) hx hb dL_law__40 (by decide) (by decide) rfl (by decide) ?_
      exact lc_street l hl kk mm ao q1 q2 C0 hL hA hbA hG hT i (by omega) hcc hcs w0 hF hP hD hS hlv (kont (by omega))
    by_cases k_7 : z_4 = 2
    · refine lt_i (y := iI 2) (by rw [k_7]) ?_
      refine lv_tableIn (tgt := 309) hx hb dL_law__40 (by decide) (by decide) rfl (by decide) ?_
      exact lc_rain l hl kk mm ao q1 q2 C0 hL hA hbA hG hT i (by omega) hcc hcs w0 hF hP hD hS hlv (kont (by omega))
    by_cases k_8 : z_4 = 3
    · refine lt_i (y := iI 3) (by rw [k_8]) ?_
      refine lv_tableIn (tgt := 337) hx hb dL_law__40 (by decide) (by decide) rfl (by decide) ?_
      exact lc_law l hl kk mm ao q1 q2 C0 hL hA hbA hG hT i (by omega) hcc hcs w0 hF hP hD hS hlv (kont (by omega))
    by_cases k_9 : z_4 = 4
    · refine lt_i (y := iI 4) (by rw [k_9]) ?_
      refine lv_tableIn (tgt := 365) hx hb dL_law__40 (by decide) (by decide) rfl (by decide) ?_
      exact lc_fault l hl kk mm ao q1 q2 C0 hL hA hbA hG hT i (by omega) hcc hcs w0 hF hP hD hS hlv (kont (by omega))
    by_cases k_10 : z_4 = 5
    · refine lt_i (y := iI 5) (by rw [k_10]) ?_
      refine lv_tableIn (tgt := 378) hx hb dL_law__40 (by decide) (by decide) rfl (by decide) ?_
      exact lc_told l hl kk mm ao q1 q2 C0 hL hA hbA hG hT i (by omega) hcc hcs w0 hF hP hD hS hlv (kont (by omega))
    by_cases k_11 : z_4 = 6
    · refine lt_i (y := iI 6) (by rw [k_11]) ?_
      refine lv_tableIn (tgt := 406) hx hb dL_law__40 (by decide) (by decide) rfl (by decide) ?_
      exact lc_cell l hl kk mm ao q1 q2 C0 hL hA hbA hG hT i (by omega) hcc hcs w0 hF hP hD hS hlv (kont (by omega))
    by_cases k_12 : z_4 = 7
    · refine lt_i (y := iI 7) (by rw [k_12]) ?_
      refine lv_tableIn (tgt := 458) hx hb dL_law__40 (by decide) (by decide) rfl (by decide) ?_
      exact lc_drain l hl kk mm ao q1 q2 C0 hL hA hbA hG hT i (by omega) hcc hcs w0 hF hP hD hS hlv (kont (by omega))
    by_cases k_13 : z_4 = 8
    · refine lt_i (y := iI 8) (by rw [k_13]) ?_
      refine lv_tableIn (tgt := 498) hx hb dL_law__40 (by decide) (by decide) rfl (by decide) ?_
      exact lc_leaves l hl kk mm ao q1 q2 C0 hL hA hbA hG hT i (by omega) hcc hcs w0 hF hP hD hS hlv (kont (by omega))
    by_cases k_14 : z_4 = 9
    · refine lt_i (y := iI 9) (by rw [k_14]) ?_
      refine lv_tableIn (tgt := 538) hx hb dL_law__40 (by decide) (by decide) rfl (by decide) ?_
      exact lc_person l hl kk mm ao q1 q2 C0 hL hA hbA hG hT i (by omega) hcc hcs w0 hF hP hD hS hlv (kont (by omega))
    by_cases k_15 : z_4 = 10
    · refine lt_i (y := iI 10) (by rw [k_15]) ?_
      refine lv_tableIn (tgt := 578) hx hb dL_law__40 (by decide) (by decide) rfl (by decide) ?_
      exact lc_work l hl kk mm ao q1 q2 C0 hL hA hbA hG hT i (by omega) hcc hcs w0 hF hP hD hS hlv (kont (by omega))
    by_cases k_16 : z_4 = 11
    · refine lt_i (y := iI 11) (by rw [k_16]) ?_
      refine lv_tableIn (tgt := 618) hx hb dL_law__40 (by decide) (by decide) rfl (by decide) ?_
      exact lc_does l hl kk mm ao q1 q2 C0 hL hA hbA hG hT i (by omega) hcc hcs w0 hF hP hD hS hlv (kont (by omega))
    by_cases k_17 : z_4 = 12
    · refine lt_i (y := iI 12) (by rw [k_17]) ?_
      refine lv_tableIn (tgt := 646) hx hb dL_law__40 (by decide) (by decide) rfl (by decide) ?_
      exact lc_minutes l hl kk mm ao q1 q2 C0 hL hA hbA hG hT i (by omega) hcc hcs w0 hF hP hD hS hlv (kont (by omega))
    by_cases k_18 : z_4 = 13
    · refine lt_i (y := iI 13) (by rw [k_18]) ?_
      refine lv_tableIn (tgt := 686) hx hb dL_law__40 (by decide) (by decide) rfl (by decide) ?_
      exact lc_shower l hl kk mm ao q1 q2 C0 hL hA hbA hG hT i (by omega) hcc hcs w0 hF hP hD hS hlv (kont (by omega))
    by_cases k_19 : z_4 = 14
    · refine lt_i (y := iI 14) (by rw [k_19]) ?_
      refine lv_tableIn (tgt := 714) hx hb dL_law__40 (by decide) (by decide) rfl (by decide) ?_
      exact lc_sums l hl kk mm ao q1 q2 C0 hL hA hbA hG hT i (by omega) hcc hcs w0 hF hP hD hS hlv (kont (by omega))
    by_cases k_20 : z_4 = 15
    · refine lt_i (y := iI 15) (by rw [k_20]) ?_
      refine lv_tableIn (tgt := 742) hx hb dL_law__40 (by decide) (by decide) rfl (by decide) ?_
      exact lc_says l hl kk mm ao q1 q2 C0 hL hA hbA hG hT i (by omega) hcc hcs w0 hF hP hD hS hlv (kont (by omega))
    by_cases k_21 : z_4 = 16
    · refine lt_i (y := iI 16) (by rw [k_21]) ?_
      refine lv_tableIn (tgt := 874) hx hb dL_law__40 (by decide) (by decide) rfl (by decide) ?_
      exact lc_car l hl kk mm ao q1 q2 C0 hL hA hbA hG hT i (by omega) hcc hcs w0 hF hP hD hS hlv (kont (by omega))
    by_cases k_22 : z_4 = 17
    · refine lt_i (y := iI 17) (by rw [k_22]) ?_
      refine lv_tableIn (tgt := 950) hx hb dL_law__40 (by decide) (by decide) rfl (by decide) ?_
      exact lc_traffic l hl kk mm ao q1 q2 C0 hL hA hbA hG hT i (by omega) hcc hcs w0 hF hP hD hS hlv (kont (by omega))
    by_cases k_23 : z_4 = 18
    · refine lt_i (y := iI 18) (by rw [k_23]) ?_
      refine lv_tableIn (tgt := 1026) hx hb dL_law__40 (by decide) (by decide) rfl (by decide) ?_
      exact lc_pass l hl kk mm ao q1 q2 C0 hL hA hbA hG hT i (by omega) hcc hcs w0 hF hP hD hS hlv (kont (by omega))
    by_cases k_24 : z_4 = 19
    · refine lt_i (y := iI 19) (by rw [k_24]) ?_
      refine lv_tableIn (tgt := 1054) hx hb dL_law__40 (by decide) (by decide) rfl (by decide) ?_
      exact lc_clear l hl kk mm ao q1 q2 C0 hL hA hbA hG hT i (by omega) hcc hcs w0 hF hP hD hS hlv (kont (by omega))
    by_cases k_25 : z_4 = 20
    · refine lt_i (y := iI 20) (by rw [k_25]) ?_
      refine lv_tableIn (tgt := 1067) hx hb dL_law__40 (by decide) (by decide) rfl (by decide) ?_
      exact lc_deep l hl kk mm ao q1 q2 C0 hL hA hbA hG hT i (by omega) hcc hcs w0 hF hP hD hS hlv (kont (by omega))
    by_cases k_26 : z_4 = 21
    · refine lt_i (y := iI 21) (by rw [k_26]) ?_
      refine lv_tableIn (tgt := 1119) hx hb dL_law__40 (by decide) (by decide) rfl (by decide) ?_
      exact lc_when l hl kk mm ao q1 q2 C0 hL hA hbA hG hT i (by omega) hcc hcs w0 hF hP hD hS hlv (kont (by omega))
    by_cases k_27 : z_4 = 22
    · refine lt_i (y := iI 22) (by rw [k_27]) ?_
      refine lv_tableIn (tgt := 1183) hx hb dL_law__40 (by decide) (by decide) rfl (by decide) ?_
      exact lc_blame l hl kk mm ao q1 q2 C0 hL hA hbA hG hT i (by omega) hcc hcs w0 hF hP hD hS hlv (kont (by omega))
    by_cases k_28 : z_4 = 23
    · refine lt_i (y := iI 23) (by rw [k_28]) ?_
      refine lv_tableIn (tgt := 1247) hx hb dL_law__40 (by decide) (by decide) rfl (by decide) ?_
      exact lc_look l hl kk mm ao q1 q2 C0 hL hA hbA hG hT i (by omega) hcc hcs w0 hF hP hD hS hlv (kont (by omega))
    by_cases k_29 : z_4 = 24
    · refine lt_i (y := iI 24) (by rw [k_29]) ?_
      refine lv_tableIn (tgt := 1287) hx hb dL_law__40 (by decide) (by decide) rfl (by decide) ?_
      exact lc_stand l hl kk mm ao q1 q2 C0 hL hA hbA hG hT i (by omega) hcc hcs w0 hF hP hD hS hlv (kont (by omega))
    by_cases k_30 : z_4 = 25
    · refine lt_i (y := iI 25) (by rw [k_30]) ?_
      refine lv_tableIn (tgt := 1339) hx hb dL_law__40 (by decide) (by decide) rfl (by decide) ?_
      exact lc_pace l hl kk mm ao q1 q2 C0 hL hA hbA hG hT i (by omega) hcc hcs w0 hF hP hD hS hlv (kont (by omega))
    by_cases k_31 : z_4 = 26
    · refine lt_i (y := iI 26) (by rw [k_31]) ?_
      refine lv_tableIn (tgt := 1403) hx hb dL_law__40 (by decide) (by decide) rfl (by decide) ?_
      exact lc_moved l hl kk mm ao q1 q2 C0 hL hA hbA hG hT i (by omega) hcc hcs w0 hF hP hD hS hlv (kont (by omega))
    by_cases k_32 : z_4 = 27
    · refine lt_i (y := iI 27) (by rw [k_32]) ?_
      refine lv_tableIn (tgt := 1443) hx hb dL_law__40 (by decide) (by decide) rfl (by decide) ?_
      exact lc_mend l hl kk mm ao q1 q2 C0 hL hA hbA hG hT i (by omega) hcc hcs w0 hF hP hD hS hlv (kont (by omega))
    by_cases k_33 : z_4 = 28
    · refine lt_i (y := iI 28) (by rw [k_33]) ?_
      refine lv_tableIn (tgt := 1519) hx hb dL_law__40 (by decide) (by decide) rfl (by decide) ?_
      exact lc_share l hl kk mm ao q1 q2 C0 hL hA hbA hG hT i (by omega) hcc hcs w0 hF hP hD hS hlv (kont (by omega))
    by_cases k_34 : z_4 = 29
    · refine lt_i (y := iI 29) (by rw [k_34]) ?_
      refine lv_tableIn (tgt := 1559) hx hb dL_law__40 (by decide) (by decide) rfl (by decide) ?_
      exact lc_meant l hl kk mm ao q1 q2 C0 hL hA hbA hG hT i (by omega) hcc hcs w0 hF hP hD hS hlv (kont (by omega))
    by_cases k_35 : z_4 = 30
    · refine lt_i (y := iI 30) (by rw [k_35]) ?_
      refine lv_tableIn (tgt := 1663) hx hb dL_law__40 (by decide) (by decide) rfl (by decide) ?_
      exact lc_dip l hl kk mm ao q1 q2 C0 hL hA hbA hG hT i (by omega) hcc hcs w0 hF hP hD hS hlv (kont (by omega))
    by_cases k_36 : z_4 = 31
    · refine lt_i (y := iI 31) (by rw [k_36]) ?_
      refine lv_tableIn (tgt := 1715) hx hb dL_law__40 (by decide) (by decide) rfl (by decide) ?_
      exact lc_town l hl kk mm ao q1 q2 C0 hL hA hbA hG hT i (by omega) hcc hcs w0 hF hP hD hS hlv (kont (by omega))
    by_cases k_37 : z_4 = 32
    · refine lt_i (y := iI 32) (by rw [k_37]) ?_
      refine lv_tableIn (tgt := 1771) hx hb dL_law__40 (by decide) (by decide) rfl (by decide) ?_
      exact lc_sweep l hl kk mm ao q1 q2 C0 hL hA hbA hG hT i (by omega) hcc hcs w0 hF hP hD hS hlv (kont (by omega))
    by_cases k_38 : z_4 = 33
    · refine lt_i (y := iI 33) (by rw [k_38]) ?_
      refine lv_tableIn (tgt := 1799) hx hb dL_law__40 (by decide) (by decide) rfl (by decide) ?_
      exact lc_ice l hl kk mm ao q1 q2 C0 hL hA hbA hG hT i (by omega) hcc hcs w0 hF hP hD hS hlv (kont (by omega))
    by_cases k_39 : z_4 = 34
    · refine lt_i (y := iI 34) (by rw [k_39]) ?_
      refine lv_tableIn (tgt := 1839) hx hb dL_law__40 (by decide) (by decide) rfl (by decide) ?_
      exact lc_image l hl kk mm ao q1 q2 C0 hL hA hbA hG hT i (by omega) hcc hcs w0 hF hP hD hS hlv (kont (by omega))
    by_cases k_40 : z_4 = 35
    · refine lt_i (y := iI 35) (by rw [k_40]) ?_
      refine lv_tableIn (tgt := 1852) hx hb dL_law__40 (by decide) (by decide) rfl (by decide) ?_
      exact lc_restore l hl kk mm ao q1 q2 C0 hL hA hbA hG hT i (by omega) hcc hcs w0 hF hP hD hS hlv (kont (by omega))
    by_cases k_41 : z_4 = 36
    · refine lt_i (y := iI 36) (by rw [k_41]) ?_
      refine lv_tableIn (tgt := 1865) hx hb dL_law__40 (by decide) (by decide) rfl (by decide) ?_
      exact lc_status l hl kk mm ao q1 q2 C0 hL hA hbA hG hT i (by omega) hcc hcs w0 hF hP hD hS hlv (kont (by omega))
    by_cases k_42 : z_4 = 37
    · refine lt_i (y := iI 37) (by rw [k_42]) ?_
      refine lv_tableIn (tgt := 1890) hx hb dL_law__40 (by decide) (by decide) rfl (by decide) ?_
      exact lc_count l hl kk mm ao q1 q2 C0 hL hA hbA hG hT i (by omega) hcc hcs w0 hF hP hD hS hlv (kont (by omega))
    refine lv_tableOut (tgt := 1915) hx hb dL_law__40 (by rw [iI_to (by omega) (by omega)]; omega) (by decide) ?_
    refine W.widen (k := cells + 4) (n := slots + 24) (by omega) (by omega) ?_
    exact kont (by omega) w0 H locs ls hF hP hD hS hlv
set_option maxHeartbeats 4000000 in
set_option maxRecDepth 100000 in
theorem law_loop {p : Program} {e : Env} {s : State} {m : MethodId} {below : List Frame} {meth : Method} {c : Code} (l : Launch) (hl : l.stackTraces = false) {b L : Nat} {xs : Nat → Int32} {D : va_G} {cy : Nat → ClassId} {sa : Nat → Nat} {A : Nat → Prop} (kk mm ao : Nat) (q1 q2 : Nat → Nat) (C0 : lw_At p s m meth c b L xs) (hL : L ≤ 5120) (hA : ∀ q : Nat, s.heap.size ≤ q → A q) (hbA : ¬ A b) (hG : GC D cy sa s) (hT : TH sa A s s.heap) (hAe : A = fun q => s.heap.size ≤ q) {cb sb : Nat} (hcb : cb ≤ 10000) (hsb : sb ≤ 100000) : ∀ (fu j : Nat) (w0 : Nat → SV) (H : Heap) (locs : List Loc) (ls : Array Slot), (L : Int) < 10 * (j : Int) + 10 * (fu : Int) + 10 → 10 * (j : Int) ≤ 5120 → LF w0 → va_P D vwCl (LW cy kk mm ao q1 q2 w0) H → va_D A (LW cy kk mm ao q1 q2 w0) → va_S A s.heap H locs → lv_has ls 7 [(4, .int (iI (10 * (j : Int)))), (3, .ref ao), (2, .ref mm), (1, .ref kk), (0, .ref b)] → W p l e room_1 s m #[Value.ref b] below meth c H locs (cb + 4 * j) (sb + 24 * j) (lw_Z below #[Value.ref b] s) (F0 m 23 ls []) := by
  have hrc : room_1.cells = 601024 := rfl
  have hrs : room_1.slots = 7293034 := rfl
  intro fu
  induction fu with
  | zero =>
    intro j w0 H locs ls h1 h2 hF hP hD hS hlv
    exact law_turn l hl kk mm ao q1 q2 C0 hL hA hbA hG hT (10 * (j : Int)) (by omega) hAe (by omega) (by omega) w0 hF hP hD hS hlv (fun h => absurd h (by omega))
  | succ fu ih =>
    intro j w0 H locs ls h1 h2 hF hP hD hS hlv
    refine law_turn l hl kk mm ao q1 q2 C0 hL hA hbA hG hT (10 * (j : Int)) (by omega) hAe (by omega) (by omega) w0 hF hP hD hS hlv (fun h u H locs ls hF hP hD hS hlv => ?_)
    obtain ⟨hx, hb, hr, hml, hown0, hts0, hX, hbl, hlocks, hgv⟩ := id C0
    refine lv_iinc (v := iI (10 * ((j + 1 : Nat) : Int))) (lv' := [(4, .int (iI (10 * ((j + 1 : Nat) : Int)))), (3, .ref ao), (2, .ref mm), (1, .ref kk), (0, .ref b)]) hx hb dL_law__1915 hlv (k := 0) rfl (by rw [show (10 * ((j + 1 : Nat) : Int)) = 10 * (j : Int) + 10 by omega]; exact (Int32.ofInt_add _ _).symm) (by decide) rfl (fun ls hlv => ?_)
    refine lv_goto (tgt := 23) hx hb dL_law__1918 (by decide) ?_
    exact ih (j + 1) u H locs ls (by omega) (by omega) hF hP hD hS hlv
