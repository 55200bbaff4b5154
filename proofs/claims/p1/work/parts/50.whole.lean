
theorem not_03 {x : Int32} (g0 : ¬ x = 0) (g1 : ¬ x = 1) (g2 : ¬ x = 2) (g3 : ¬ x = 3) : ¬ (0 ≤ x ∧ x ≤ 3) := by
  intro h
  have h1 : (0 : Int32).toInt ≤ x.toInt := Int32.le_iff_toInt_le.mp h.1
  have h2 : x.toInt ≤ (3 : Int32).toInt := Int32.le_iff_toInt_le.mp h.2
  have e0 := lv_neT (a := 0) g0 (by decide)
  have e1 := lv_neT (a := 1) g1 (by decide)
  have e2 := lv_neT (a := 2) g2 (by decide)
  have e3 := lv_neT (a := 3) g3 (by decide)
  have z0 : (0 : Int32).toInt = 0 := by decide
  have z3 : (3 : Int32).toInt = 3 := by decide
  omega
set_option maxHeartbeats 4000000 in
theorem whole_start {p : Program} {e : Env} {s : State} {m : MethodId} {below : List Frame} {meth : Method} {c : Code} (l : Launch) (hl : l.stackTraces = false) {b L : Nat} {xs : Nat → Int32} (hL : L ≤ 10) (C0 : lw_At p s m meth c b L xs) : W p l e room_1 s m #[Value.ref b] below meth c s.heap [] 0 0 (lw_Z below #[Value.ref b] s) (entryFrame m ([Value.ref b] : List Value).toArray 7) := by
  obtain ⟨hx, hb, hr, hml, hown0, hts0, hX, hbl, hlocks, hgv⟩ := id C0
  obtain ⟨D, cy, sa, hG⟩ := gc_start hts0 hgv
  obtain ⟨A, hAe⟩ : ∃ A : Nat → Prop, A = fun q => s.heap.size ≤ q := ⟨_, rfl⟩
  have hT : TH A s s.heap := th_start hAe hts0 hgv
  by_cases hs : L < 10
  · exact law_short l hl hAe hs C0 hG hT
  obtain rfl : L = 10 := by omega
  by_cases h0 : xs 0 &&& 63 = 0
  · exact law_feed l hl hAe C0 hG hT h0
  by_cases h1 : xs 0 &&& 63 = 1
  · by_cases hv : 0 ≤ xs 1 ∧ xs 1 ≤ 0
    · exact law_street0 l hl hAe C0 hG hT h1 (Int32.le_antisymm hv.2 hv.1)
    · exact law_streetx l hl hAe C0 hG hT h1 hv
  by_cases h2 : xs 0 &&& 63 = 2
  · by_cases hv : 0 ≤ xs 1 ∧ xs 1 ≤ 0
    · exact law_rain0 l hl hAe C0 hG hT h2 (Int32.le_antisymm hv.2 hv.1)
    · exact law_rainx l hl hAe C0 hG hT h2 hv
  by_cases h3 : xs 0 &&& 63 = 3
  · by_cases hv : 0 ≤ xs 1 ∧ xs 1 ≤ 0
    · exact law_law0 l hl hAe C0 hG hT h3 (Int32.le_antisymm hv.2 hv.1)
    · exact law_lawx l hl hAe C0 hG hT h3 hv
  by_cases h4 : xs 0 &&& 63 = 4
  · exact law_fault l hl hAe C0 hG hT h4
  by_cases h5 : xs 0 &&& 63 = 5
  · exact law_told l hl hAe C0 hG hT h5
  by_cases h6 : xs 0 &&& 63 = 6
  · exact law_cell l hl hAe C0 hG hT h6
  by_cases h7 : xs 0 &&& 63 = 7
  · exact law_drain l hl hAe C0 hG hT h7
  by_cases h8 : xs 0 &&& 63 = 8
  · exact law_leaves l hl hAe C0 hG hT h8
  by_cases h9 : xs 0 &&& 63 = 9
  · exact law_person l hl hAe C0 hG hT h9
  by_cases h10 : xs 0 &&& 63 = 10
  · exact law_work l hl hAe C0 hG hT h10
  by_cases h11 : xs 0 &&& 63 = 11
  · exact law_does l hl hAe C0 hG hT h11
  by_cases h12 : xs 0 &&& 63 = 12
  · exact law_minutes l hl hAe C0 hG hT h12
  by_cases h13 : xs 0 &&& 63 = 13
  · exact law_shower l hl hAe C0 hG hT h13
  by_cases h14 : xs 0 &&& 63 = 14
  · by_cases g0 : xs 1 = 0
    · exact law_sums0 l hl hAe C0 hG hT h14 g0
    by_cases g1 : xs 1 = 1
    · exact law_sums1 l hl hAe C0 hG hT h14 g1
    by_cases g2 : xs 1 = 2
    · exact law_sums2 l hl hAe C0 hG hT h14 g2
    by_cases g3 : xs 1 = 3
    · exact law_sums3 l hl hAe C0 hG hT h14 g3
    exact law_sumsx l hl hAe C0 hG hT h14 (not_03 g0 g1 g2 g3)
  by_cases h15 : xs 0 &&& 63 = 15
  · exact law_says l hl hAe C0 hG hT h15
  by_cases h16 : xs 0 &&& 63 = 16
  · exact law_car l hl hAe C0 hG hT h16
  by_cases h17 : xs 0 &&& 63 = 17
  · exact law_traffic l hl hAe C0 hG hT h17
  by_cases h18 : xs 0 &&& 63 = 18
  · exact law_pass l hl hAe C0 hG hT h18
  by_cases h19 : xs 0 &&& 63 = 19
  · exact law_clear l hl hAe C0 hG hT h19
  by_cases h20 : xs 0 &&& 63 = 20
  · exact law_deep l hl hAe C0 hG hT h20
  by_cases h21 : xs 0 &&& 63 = 21
  · exact law_when l hl hAe C0 hG hT h21
  by_cases h22 : xs 0 &&& 63 = 22
  · exact law_blame l hl hAe C0 hG hT h22
  by_cases h23 : xs 0 &&& 63 = 23
  · exact law_look l hl hAe C0 hG hT h23
  by_cases h24 : xs 0 &&& 63 = 24
  · exact law_stand l hl hAe C0 hG hT h24
  by_cases h25 : xs 0 &&& 63 = 25
  · exact law_pace l hl hAe C0 hG hT h25
  by_cases h26 : xs 0 &&& 63 = 26
  · exact law_moved l hl hAe C0 hG hT h26
  by_cases h27 : xs 0 &&& 63 = 27
  · exact law_mend l hl hAe C0 hG hT h27
  by_cases h28 : xs 0 &&& 63 = 28
  · by_cases g0 : xs 1 = 0
    · exact law_share0 l hl hAe C0 hG hT h28 g0
    by_cases g1 : xs 1 = 1
    · exact law_share1 l hl hAe C0 hG hT h28 g1
    by_cases g2 : xs 1 = 2
    · exact law_share2 l hl hAe C0 hG hT h28 g2
    by_cases g3 : xs 1 = 3
    · exact law_share3 l hl hAe C0 hG hT h28 g3
    exact law_sharex l hl hAe C0 hG hT h28 (not_03 g0 g1 g2 g3)
  by_cases h29 : xs 0 &&& 63 = 29
  · exact law_meant l hl hAe C0 hG hT h29
  by_cases h30 : xs 0 &&& 63 = 30
  · exact law_dip l hl hAe C0 hG hT h30
  by_cases h31 : xs 0 &&& 63 = 31
  · exact law_town l hl hAe C0 hG hT h31
  by_cases h32 : xs 0 &&& 63 = 32
  · exact law_sweep l hl hAe C0 hG hT h32
  by_cases h33 : xs 0 &&& 63 = 33
  · exact law_ice l hl hAe C0 hG hT h33
  by_cases h34 : xs 0 &&& 63 = 34
  · exact law_image l hl hAe C0 hG hT h34
  by_cases h35 : xs 0 &&& 63 = 35
  · exact law_restore l hl hAe C0 hG hT h35
  by_cases h36 : xs 0 &&& 63 = 36
  · exact law_status l hl hAe C0 hG hT h36
  by_cases h37 : xs 0 &&& 63 = 37
  · by_cases g0 : xs 1 = 0
    · exact law_count0 l hl hAe C0 hG hT h37 g0
    by_cases g1 : xs 1 = 1
    · exact law_count1 l hl hAe C0 hG hT h37 g1
    by_cases g2 : xs 1 = 2
    · exact law_count2 l hl hAe C0 hG hT h37 g2
    by_cases g3 : xs 1 = 3
    · exact law_count3 l hl hAe C0 hG hT h37 g3
    exact law_countx l hl hAe C0 hG hT h37 g0 g1 g2 g3
  refine law_dflt l hl hAe C0 hG hT ?_
  have e0 := lv_neT (a := 0) h0 (by decide)
  have e1 := lv_neT (a := 1) h1 (by decide)
  have e2 := lv_neT (a := 2) h2 (by decide)
  have e3 := lv_neT (a := 3) h3 (by decide)
  have e4 := lv_neT (a := 4) h4 (by decide)
  have e5 := lv_neT (a := 5) h5 (by decide)
  have e6 := lv_neT (a := 6) h6 (by decide)
  have e7 := lv_neT (a := 7) h7 (by decide)
  have e8 := lv_neT (a := 8) h8 (by decide)
  have e9 := lv_neT (a := 9) h9 (by decide)
  have e10 := lv_neT (a := 10) h10 (by decide)
  have e11 := lv_neT (a := 11) h11 (by decide)
  have e12 := lv_neT (a := 12) h12 (by decide)
  have e13 := lv_neT (a := 13) h13 (by decide)
  have e14 := lv_neT (a := 14) h14 (by decide)
  have e15 := lv_neT (a := 15) h15 (by decide)
  have e16 := lv_neT (a := 16) h16 (by decide)
  have e17 := lv_neT (a := 17) h17 (by decide)
  have e18 := lv_neT (a := 18) h18 (by decide)
  have e19 := lv_neT (a := 19) h19 (by decide)
  have e20 := lv_neT (a := 20) h20 (by decide)
  have e21 := lv_neT (a := 21) h21 (by decide)
  have e22 := lv_neT (a := 22) h22 (by decide)
  have e23 := lv_neT (a := 23) h23 (by decide)
  have e24 := lv_neT (a := 24) h24 (by decide)
  have e25 := lv_neT (a := 25) h25 (by decide)
  have e26 := lv_neT (a := 26) h26 (by decide)
  have e27 := lv_neT (a := 27) h27 (by decide)
  have e28 := lv_neT (a := 28) h28 (by decide)
  have e29 := lv_neT (a := 29) h29 (by decide)
  have e30 := lv_neT (a := 30) h30 (by decide)
  have e31 := lv_neT (a := 31) h31 (by decide)
  have e32 := lv_neT (a := 32) h32 (by decide)
  have e33 := lv_neT (a := 33) h33 (by decide)
  have e34 := lv_neT (a := 34) h34 (by decide)
  have e35 := lv_neT (a := 35) h35 (by decide)
  have e36 := lv_neT (a := 36) h36 (by decide)
  have e37 := lv_neT (a := 37) h37 (by decide)
  omega
