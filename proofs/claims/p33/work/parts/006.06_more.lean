theorem nar_b {a : Int} (h : 0 ≤ a ∧ a ≤ 1) : narrow .boolean (.int (iI a)) = .int (iI a) := by
  rcases (show a = 0 ∨ a = 1 by omega) with rfl | rfl <;> decide
theorem nar_c {a : Int} (h : 0 ≤ a ∧ a ≤ 65535) : narrow .char (.int (iI a)) = .int (iI a) := by
  obtain ⟨n, rfl⟩ := Int.eq_ofNat_of_zero_le h.1
  exact (pk_charN (by omega)).1
theorem i2c_eq {a : Int} (h : 0 ≤ a ∧ a ≤ 65535) : ((iI a).toUInt32 % 65536).toInt32 = iI a := by
  obtain ⟨n, rfl⟩ := Int.eq_ofNat_of_zero_le h.1
  rw [pk_char, ← iI_nI, pk_tn (by omega), Nat.mod_eq_of_lt (by omega)]
theorem ia_id {a : Int} {mk : Int32} (k : Nat) (hm : mk.toBitVec.toNat = 2 ^ k - 1) (hk : k ≤ 30) (h : 0 ≤ a ∧ a < 2 ^ k) : iI a &&& mk = iI a := by
  obtain ⟨n, rfl⟩ := Int.eq_ofNat_of_zero_le h.1
  have h1 : n < 2 ^ k := by
    have : ((2 ^ k : Nat) : Int) = 2 ^ k := by simp
    omega
  have h2 : (2 : Nat) ^ k ≤ 2 ^ 30 := Nat.pow_le_pow_right (by decide) hk
  rw [← iI_nI, pk_andN (by omega) k hm, Nat.mod_eq_of_lt h1]
theorem dv_eq {a b : Int} (ha : 0 ≤ a ∧ a ≤ 2147483647) (hb : 0 < b ∧ b ≤ 2147483647) : iI a / iI b = iI (a / b) := by
  obtain ⟨n, rfl⟩ := Int.eq_ofNat_of_zero_le ha.1
  obtain ⟨d, rfl⟩ := Int.eq_ofNat_of_zero_le (Int.le_of_lt hb.1)
  rw [← iI_nI, ← iI_nI, pk_div (by omega) (by omega) (by omega), iI_nI]
  simp
theorem ng_eq (a : Int) : -(iI a) = iI (-a) := (Int32.ofInt_neg a).symm
abbrev jJ (z : Int) : Int64 := Int64.ofInt z
theorem jJ_to {a : Int} (h : -9223372036854775808 ≤ a ∧ a ≤ 9223372036854775807) : (jJ a).toInt = a := Int64.toInt_ofInt_of_le (by omega) (by omega)
theorem jJ_i {a : Int} (h : -2147483648 ≤ a ∧ a ≤ 2147483647) : (iI a).toInt64 = jJ a := by
  rw [← Int64.toInt_inj, Int32.toInt_toInt64, iI_to h.1 h.2, jJ_to (by omega)]
theorem jJ_l {a : Int} (h : -2147483648 ≤ a ∧ a ≤ 2147483647) : (jJ a).toInt32 = iI a := by
  rw [← jJ_i h]; simp
theorem jJ_lt {a b : Int} (ha : -9223372036854775808 ≤ a ∧ a ≤ 9223372036854775807) (hb : -9223372036854775808 ≤ b ∧ b ≤ 9223372036854775807) : jJ a < jJ b ↔ a < b := by
  rw [Int64.lt_iff_toInt_lt, jJ_to ha, jJ_to hb]
theorem jJ_eq {a b : Int} (ha : -9223372036854775808 ≤ a ∧ a ≤ 9223372036854775807) (hb : -9223372036854775808 ≤ b ∧ b ≤ 9223372036854775807) : jJ a = jJ b ↔ a = b := by
  rw [← Int64.toInt_inj, jJ_to ha, jJ_to hb]
theorem lc_ex {a b : Int} (ha : -9223372036854775808 ≤ a ∧ a ≤ 9223372036854775807) (hb : -9223372036854775808 ≤ b ∧ b ≤ 9223372036854775807) : ∃ z : Int, lg_cmp (jJ a) (jJ b) = iI z ∧ ((z = -1 ∧ a < b) ∨ (z = 0 ∧ a = b) ∨ (z = 1 ∧ b < a)) := by
  unfold lg_cmp
  by_cases h1 : jJ a > jJ b
  · exact ⟨1, by rw [if_pos h1]; rfl, Or.inr (Or.inr ⟨rfl, (jJ_lt hb ha).mp h1⟩)⟩
  · rw [if_neg h1]
    have h3 : ¬ b < a := fun q => h1 ((jJ_lt hb ha).mpr q)
    by_cases h2 : jJ a = jJ b
    · exact ⟨0, by rw [if_pos h2]; rfl, Or.inr (Or.inl ⟨rfl, (jJ_eq ha hb).mp h2⟩)⟩
    · have h4 : ¬ a = b := fun q => h2 ((jJ_eq ha hb).mpr q)
      exact ⟨-1, by rw [if_neg h2]; rfl, Or.inl ⟨rfl, by omega⟩⟩
theorem fW_b {k : Int} (h : 0 ≤ k ∧ k < 28) : (-1 ≤ fW k ∧ fW k ≤ 3) ∧ (fW k = -1 ↔ k < 6 ∨ 9 < k) := by
  have := fW_r k.toNat (by omega)
  unfold fW
  omega
theorem fS_b {k : Int} (h : 0 ≤ k ∧ k < 28) : -1 ≤ fS k ∧ fS k ≤ 4 := fS_r k.toNat (by omega)
theorem fM_b {k : Int} (h : 0 ≤ k ∧ k < 28) : -1 ≤ fM k ∧ fM k ≤ 6 := fM_r k.toNat (by omega)
theorem sl_b {k : Int} (h : 0 ≤ k ∧ k < 56) : 0 ≤ slen k ∧ slen k ≤ 7 := by
  have := slen_r k.toNat (by omega)
  unfold slen
  omega
theorem sc_b {k i : Int} (h : 0 ≤ k ∧ k < 56) (hi : 0 ≤ i ∧ i < slen k) : 97 ≤ sch k i ∧ sch k i ≤ 122 := by
  unfold slen at hi
  exact sch_r k.toNat (by omega) i.toNat (by omega)
theorem sb_rd {k e : Int} (h : 0 ≤ e ∧ e < slen k) (hk : 0 ≤ k ∧ k < 56) : (fun j : Nat => Value.int (iI ((wdT.getD k.toNat []).getD j 0))) (iI e).toNatClampNeg = .int (iI (sch k e)) := by
  have := sl_b hk
  show Value.int (iI ((wdT.getD k.toNat []).getD (iI e).toNatClampNeg 0)) = _
  rw [iI_cl h.1 (by omega)]
  rfl
theorem sb_in {k e : Int} (h : 0 ≤ e ∧ e < slen k) (hk : 0 ≤ k ∧ k < 56) : vp_in (iI e) (wdT.getD k.toNat []).length := by
  have := sl_b hk
  unfold slen at h this
  exact iI_in h (by omega)
theorem wa_rd {sa : Nat → Nat} {e : Int} (h : 0 ≤ e ∧ e < 28) : (fun j : Nat => Value.ref (sa (100 + j))) (iI e).toNatClampNeg = .ref (wd sa e) := by
  show Value.ref (sa (100 + (iI e).toNatClampNeg)) = _
  rw [iI_cl h.1 (by omega)]
theorem wd_inj {sa : Nat → Nat} {A : Nat → Prop} {U : State} {H : Heap} (h : WD sa A U H) {i j : Int} (hi : 0 ≤ i ∧ i < 28) (hj : 0 ≤ j ∧ j < 28) (e : wd sa i = wd sa j) : i = j := by
  have := h.2.1 i.toNat j.toNat (by omega) (by omega) e
  omega
theorem inv_cpy {n : Nat} {lo hi : Int} {f g : Nat → Int32} {sp dp m : Nat} (hf : inv_ n lo hi f) (h0 : sp = 0) (h1 : dp = 0) (h2 : m = n) : inv_ n lo hi (va_cpy f g sp dp m) := by
  subst h0 h1 h2
  intro j hj
  rw [pk_cpy_in (Nat.zero_le j) (by omega), show 0 + (j - 0) = j by omega]
  exact hf j hj
theorem tab_cpy {st : Nat} {cnt : Int} {lo hi : List Int} {f g : Nat → Int32} {sp dp n : Nat} (hf : tab_ st cnt lo hi f) (h0 : sp = 0) (h1 : dp = 0) (hn : (st : Int) * cnt ≤ n) : tab_ st cnt lo hi (va_cpy f g sp dp n) := by
  subst h0 h1
  intro k c hk hc
  have h3 : (st : Int) * ((k : Int) + 1) ≤ st * cnt := Int.mul_le_mul_of_nonneg_left (by omega) (by omega)
  have h4 : ((st * k : Nat) : Int) = (st : Int) * k := by simp
  have h5 : (st : Int) * ((k : Int) + 1) = st * k + st := by rw [Int.mul_add, Int.mul_one]
  have h6 : st * k + c < n := by omega
  rw [pk_cpy_in (Nat.zero_le _) (by omega), show 0 + (st * k + c - 0) = st * k + c by omega]
  exact hf k c hk hc
theorem tab_weak {st : Nat} {cnt : Int} {lo hi lo2 hi2 : List Int} {f : Nat → Int32} (hf : tab_ st cnt lo hi f) (h : ∀ c, c < st → lo2.getD c 0 ≤ lo.getD c 0 ∧ hi.getD c 0 ≤ hi2.getD c 0) : tab_ st cnt lo2 hi2 f := by
  intro k c hk hc
  obtain ⟨z, h1, h2, h3, h4⟩ := hf k c hk hc
  exact ⟨z, h1, h2, Int.le_trans (h c hc).1 h3, Int.le_trans h4 (h c hc).2⟩
theorem or_nI (n k : Nat) : nI n ||| nI k = nI (n ||| k) := by
  apply Int32.toBitVec_inj.mp
  show (nI n).toBitVec ||| (nI k).toBitVec = _
  exact BitVec.ofNat_or.symm
theorem or_b {a b : Int} (k : Nat) (ha : 0 ≤ a ∧ a < 2 ^ k) (hb : 0 ≤ b ∧ b < 2 ^ k) : ∃ z : Int, iI a ||| iI b = iI z ∧ 0 ≤ z ∧ z < 2 ^ k := by
  obtain ⟨n, rfl⟩ := Int.eq_ofNat_of_zero_le ha.1
  obtain ⟨q, rfl⟩ := Int.eq_ofNat_of_zero_le hb.1
  have e : ((2 ^ k : Nat) : Int) = 2 ^ k := by simp
  have h := Nat.or_lt_two_pow (x := n) (y := q) (n := k) (by omega) (by omega)
  refine ⟨((n ||| q : Nat) : Int), ?_, by omega, by omega⟩
  rw [← iI_nI, ← iI_nI, ← iI_nI, or_nI]
theorem sh1 : ∀ k : Nat, k < 31 → iI 1 <<< iI (k : Int) = iI ((2 ^ k : Nat) : Int) := by decide
theorem sh_b {k : Int} {n : Nat} (hk : 0 ≤ k ∧ k ≤ n) (hn : n ≤ 30) : ∃ z : Int, iI 1 <<< iI k = iI z ∧ 1 ≤ z ∧ z ≤ 2 ^ n := by
  obtain ⟨q, rfl⟩ := Int.eq_ofNat_of_zero_le hk.1
  have e : ((2 ^ n : Nat) : Int) = 2 ^ n := by simp
  have h1 : (2 : Nat) ^ q ≤ 2 ^ n := Nat.pow_le_pow_right (by decide) (by omega)
  have h2 : 0 < (2 : Nat) ^ q := Nat.two_pow_pos q
  exact ⟨((2 ^ q : Nat) : Int), sh1 q (by omega), by omega, by omega⟩
theorem go_0 : ∀ a : Fin 64, ∀ k : Fin 6, ¬ (iI (a.1 : Int) >>> iI (k.1 : Int)) &&& iI 1 = iI 0 → ∃ z : Fin 64, iI (a.1 : Int) &&& ((iI 1 <<< iI (k.1 : Int)) ^^^ iI (-1)) = iI (z.1 : Int) ∧ z.1 < a.1 := by decide +kernel
theorem go_dec {a k z1 z2 z4 z5 : Int} (ha : 0 ≤ a ∧ a < 64) (hk : 0 ≤ k ∧ k < 6) (e1 : iI 1 <<< iI k = iI z1) (e2 : iI z1 ^^^ iI (-1) = iI z2) (e4 : iI a >>> iI k = iI z4) (e5 : iI z4 &&& iI 1 = iI z5) (h5 : ¬ z5 = 0) (hr : 0 ≤ z5 ∧ z5 ≤ 1) : ∃ z : Int, iI a &&& iI z2 = iI z ∧ 0 ≤ z ∧ z < a := by
  obtain ⟨n, rfl⟩ := Int.eq_ofNat_of_zero_le ha.1
  obtain ⟨q, rfl⟩ := Int.eq_ofNat_of_zero_le hk.1
  obtain ⟨z, h1, h2⟩ := go_0 ⟨n, by omega⟩ ⟨q, by omega⟩ (by
    show ¬ (iI (n : Int) >>> iI (q : Int)) &&& iI 1 = iI 0
    rw [e4, e5]
    exact fun h => h5 ((iI_eq (by omega) (by omega)).mp h))
  rw [e1, e2] at h1
  exact ⟨(z.1 : Int), h1, by omega, by have : z.1 < n := h2; omega⟩
/-- the rows of works: of a work that clears, the drain is one -/
def tw_ (f : Nat → Int32) : Prop := tab_ 5 8 [0, 0, 0, 0, 0] [3, 99, 15, 5, 99] f ∧ ∀ k : Nat, k < 8 → f (5 * k) = iI 0 → ∃ z : Int, f (5 * k + 2) = iI z ∧ 0 ≤ z ∧ z ≤ 13
theorem tw_cpy {f g : Nat → Int32} {sp dp n : Nat} (hf : tw_ f) (h0 : sp = 0) (h1 : dp = 0) (hn : n = 40) : tw_ (va_cpy f g sp dp n) := by
  refine ⟨tab_cpy hf.1 h0 h1 (by omega), ?_⟩
  subst h0 h1 hn
  intro k hk h
  rw [pk_cpy_in (Nat.zero_le _) (by omega), show 0 + (5 * k - 0) = 5 * k by omega] at h
  rw [pk_cpy_in (Nat.zero_le _) (by omega), show 0 + (5 * k + 2 - 0) = 5 * k + 2 by omega]
  exact hf.2 k hk h
theorem tw_x {f : Nat → Int32} (hf : tw_ f) {k e0 e2 z0 z2 : Int} (hk : 0 ≤ k ∧ k < 8) (he0 : e0 = 5 * k) (he2 : e2 = 5 * k + 2) (h0 : f (iI e0).toNatClampNeg = iI z0) (h2 : f (iI e2).toNatClampNeg = iI z2) (hz : z0 = 0) (hr : -2147483648 ≤ z2 ∧ z2 ≤ 2147483647) : 0 ≤ z2 ∧ z2 ≤ 13 := by
  subst hz
  rw [iI_cl (by omega) (by omega), show e0.toNat = 5 * k.toNat by omega] at h0
  rw [iI_cl (by omega) (by omega), show e2.toNat = 5 * k.toNat + 2 by omega] at h2
  obtain ⟨z, h3, h4⟩ := hf.2 k.toNat (by omega) h0
  have := (iI_eq (a := z2) (b := z) hr (by omega)).mp (h2.symm.trans h3)
  omega
theorem tw_set {f f1 f2 f3 f4 f5 : Nat → Int32} (hf : tw_ f) {k e0 e1 e2 e3 e4 v0 v1 v2 v3 v4 : Int} (hk : 0 ≤ k ∧ k < 8) (he0 : e0 = 5 * k) (he1 : e1 = 5 * k + 1) (he2 : e2 = 5 * k + 2) (he3 : e3 = 5 * k + 3) (he4 : e4 = 5 * k + 4)
    (h1 : f1 = upd f (iI e0).toNatClampNeg (iI v0)) (h2 : f2 = upd f1 (iI e1).toNatClampNeg (iI v1)) (h3 : f3 = upd f2 (iI e2).toNatClampNeg (iI v2)) (h4 : f4 = upd f3 (iI e3).toNatClampNeg (iI v3)) (h5 : f5 = upd f4 (iI e4).toNatClampNeg (iI v4))
    (b0 : 0 ≤ v0 ∧ v0 ≤ 3) (b1 : 0 ≤ v1 ∧ v1 ≤ 99) (b2 : 0 ≤ v2 ∧ v2 ≤ 15) (b3 : 0 ≤ v3 ∧ v3 ≤ 5) (b4 : 0 ≤ v4 ∧ v4 ≤ 99) (hx : v0 = 0 → v2 ≤ 13) : tw_ f5 := by
  have t1 : tab_ 5 8 [0, 0, 0, 0, 0] [3, 99, 15, 5, 99] f1 := by rw [h1]; exact tab_wr (k := k) (c := 0) (a := 0) (b := 3) hf.1 (by omega) (by omega) (by decide) (by omega) rfl rfl (by omega)
  have t2 : tab_ 5 8 [0, 0, 0, 0, 0] [3, 99, 15, 5, 99] f2 := by rw [h2]; exact tab_wr (k := k) (c := 1) (a := 0) (b := 99) t1 (by omega) (by omega) (by decide) (by omega) rfl rfl (by omega)
  have t3 : tab_ 5 8 [0, 0, 0, 0, 0] [3, 99, 15, 5, 99] f3 := by rw [h3]; exact tab_wr (k := k) (c := 2) (a := 0) (b := 15) t2 (by omega) (by omega) (by decide) (by omega) rfl rfl (by omega)
  have t4 : tab_ 5 8 [0, 0, 0, 0, 0] [3, 99, 15, 5, 99] f4 := by rw [h4]; exact tab_wr (k := k) (c := 3) (a := 0) (b := 5) t3 (by omega) (by omega) (by decide) (by omega) rfl rfl (by omega)
  have t5 : tab_ 5 8 [0, 0, 0, 0, 0] [3, 99, 15, 5, 99] f5 := by rw [h5]; exact tab_wr (k := k) (c := 4) (a := 0) (b := 99) t4 (by omega) (by omega) (by decide) (by omega) rfl rfl (by omega)
  refine ⟨t5, ?_⟩
  rw [iI_cl (by omega) (by omega), show e0.toNat = 5 * k.toNat by omega] at h1
  rw [iI_cl (by omega) (by omega), show e1.toNat = 5 * k.toNat + 1 by omega] at h2
  rw [iI_cl (by omega) (by omega), show e2.toNat = 5 * k.toNat + 2 by omega] at h3
  rw [iI_cl (by omega) (by omega), show e3.toNat = 5 * k.toNat + 3 by omega] at h4
  rw [iI_cl (by omega) (by omega), show e4.toNat = 5 * k.toNat + 4 by omega] at h5
  intro j hj h
  by_cases q : j = k.toNat
  · subst q
    have g0 : f5 (5 * k.toNat) = iI v0 := by rw [h5, pk_un (by omega), h4, pk_un (by omega), h3, pk_un (by omega), h2, pk_un (by omega), h1, pk_us]
    have g2 : f5 (5 * k.toNat + 2) = iI v2 := by rw [h5, pk_un (by omega), h4, pk_un (by omega), h3, pk_us]
    have g3 : v0 = 0 := (iI_eq (by omega) (by omega)).mp (g0.symm.trans h)
    exact ⟨v2, g2, b2.1, hx g3⟩
  · have g : ∀ c : Nat, c < 5 → f5 (5 * j + c) = f (5 * j + c) := fun c hc => by rw [h5, pk_un (by omega), h4, pk_un (by omega), h3, pk_un (by omega), h2, pk_un (by omega), h1, pk_un (by omega)]
    have g0 := g 0 (by decide)
    rw [Nat.add_zero] at g0
    rw [g0] at h
    rw [g 2 (by decide)]
    exact hf.2 j hj h
theorem gsub_V {own C : String} {idx : Nat} {y : MethodName} {L : List Cond} {hd hd0 : Cond} (h1 : Cond.methodLink own idx y ∈ L) (h2 : Cond.instanceMethod y ∈ L) (h3 : Cond.selects C y y ∈ L) (h4 : Cond.initialized C ∈ L) (h5 : hd ∈ L) : ∀ w ∈ wsV own idx C y (hd :: L), w ∈ hd0 :: L := by
  intro w hw
  refine List.mem_cons_of_mem _ ?_
  simp only [wsV, List.mem_append, List.mem_cons, List.not_mem_nil, or_false] at hw
  rcases hw with (rfl | rfl | rfl | rfl) | rfl | h <;> assumption
section RG2
variable {p : Program} {l : Launch} {e : Env} {R : Room} {s : State} {m : MethodId} {args : Array Value} {below : List Frame} {meth : Method} {c : Code} {H : Heap} {locs : List Loc} {cells slots : Nat} {Q : State → Prop} {pc : Nat} {ls : Array Slot} {rest : List Value} {cc : ByteArray} {A : Nat → Prop} {sa : Nat → Nat}
theorem lt_l {x y : Int64} (h : x = y) (k : W p l e R s m args below meth c H locs cells slots Q (F0 m pc ls (.long y :: rest))) : W p l e R s m args below meth c H locs cells slots Q (F0 m pc ls (.long x :: rest)) := h ▸ k
theorem lt_lc {a b : Int} (ha : -9223372036854775808 ≤ a ∧ a ≤ 9223372036854775807) (hb : -9223372036854775808 ≤ b ∧ b ≤ 9223372036854775807) (kk : ∀ z : Int, ((z = -1 ∧ a < b) ∨ (z = 0 ∧ a = b) ∨ (z = 1 ∧ b < a)) → W p l e R s m args below meth c H locs cells slots Q (F0 m pc ls (.int (iI z) :: rest))) : W p l e R s m args below meth c H locs cells slots Q (F0 m pc ls (.int (lg_cmp (jJ a) (jJ b)) :: rest)) := by
  obtain ⟨z, h1, h2⟩ := lc_ex ha hb
  rw [h1]
  exact kk z h2
theorem lt_aE {x : Int32} {mk : Int32} (k : Nat) (hm : mk.toBitVec.toNat = 2 ^ k - 1) (hk : k ≤ 30) {hi : Int} (hh : (2 : Int) ^ k = hi + 1) (kk : ∀ z : Int, x &&& mk = iI z → 0 ≤ z → z ≤ hi → W p l e R s m args below meth c H locs cells slots Q (F0 m pc ls (.int (iI z) :: rest))) : W p l e R s m args below meth c H locs cells slots Q (F0 m pc ls (.int (x &&& mk) :: rest)) := by
  obtain ⟨z, h1, h2, h3⟩ := ia_ex x k hm hk
  have h4 := kk z h1 h2 (by omega)
  rw [h1]
  exact h4
theorem lt_o2 {a b : Int} (k : Nat) {M : Int} (hM : (2 : Int) ^ k = M + 1) (ha : 0 ≤ a ∧ a ≤ M) (hb : 0 ≤ b ∧ b ≤ M) (kk : ∀ z : Int, 0 ≤ z → z ≤ M → W p l e R s m args below meth c H locs cells slots Q (F0 m pc ls (.int (iI z) :: rest))) : W p l e R s m args below meth c H locs cells slots Q (F0 m pc ls (.int (iI a ||| iI b) :: rest)) := by
  obtain ⟨z, h1, h2, h3⟩ := or_b (a := a) (b := b) k (by omega) (by omega)
  rw [h1]
  exact kk z h2 (by omega)
theorem aw_eq (hexec : p.tables.exec = Jvm.exec) (hb : c.code = cc) (hW : WD sa A s s.heap) {i j : Int} {off : Int} {tgt : Nat} (hdg : decode cc pc = .ok (.if_acmp .eq off, 3)) (ht : (pc : Int) + off = (tgt : Int)) (hi : 0 ≤ i ∧ i < 28) (hj : 0 ≤ j ∧ j < 28)
    (kt : i = j → W p l e R s m args below meth c H locs cells slots Q (F0 m tgt ls rest)) (kf : ¬ i = j → W p l e R s m args below meth c H locs cells slots Q (F0 m (pc + 3) ls rest)) : W p l e R s m args below meth c H locs cells slots Q (F0 m pc ls (.ref (wd sa j) :: .ref (wd sa i) :: rest)) :=
  lv_acmp_eq (rx := some (wd sa i)) (ry := some (wd sa j)) hexec hb hdg ht (fun q => kt (wd_inj hW hi hj (Option.some.inj q))) (fun q => kf (fun z => q (by rw [z])))
theorem aw_ne (hexec : p.tables.exec = Jvm.exec) (hb : c.code = cc) (hW : WD sa A s s.heap) {i j : Int} {off : Int} {tgt : Nat} (hdg : decode cc pc = .ok (.if_acmp .ne off, 3)) (ht : (pc : Int) + off = (tgt : Int)) (hi : 0 ≤ i ∧ i < 28) (hj : 0 ≤ j ∧ j < 28)
    (kt : ¬ i = j → W p l e R s m args below meth c H locs cells slots Q (F0 m tgt ls rest)) (kf : i = j → W p l e R s m args below meth c H locs cells slots Q (F0 m (pc + 3) ls rest)) : W p l e R s m args below meth c H locs cells slots Q (F0 m pc ls (.ref (wd sa j) :: .ref (wd sa i) :: rest)) :=
  lv_acmp_ne (rx := some (wd sa i)) (ry := some (wd sa j)) hexec hb hdg ht (fun q => kt (fun z => q (by rw [z]))) (fun q => kf (wd_inj hW hi hj (Option.some.inj q)))
theorem vk_getfN (hexec : p.tables.exec = Jvm.exec) (hb : c.code = cc) {o n d own ref host : String} {index q : Nat} {v : Value} (hE : va_OF o n d v q A s s.heap) (hS : va_S A s.heap H locs) (hown : s.vm.findClass own = some m.cls) (hlink : (Cond.fieldLinkNest own index ref n d host).before args s = true) (hsame : ∀ x, s.fieldFound? o n d = some x → s.fieldFound? ref n d = some x) (hdg : decode cc pc = .ok (.getfield index, 3))
    (kk : W p l e R s m args below meth c H locs cells slots Q (F0 m (pc + 3) ls (v :: rest))) : W p l e R s m args below meth c H locs cells slots Q (F0 m pc ls (.ref q :: rest)) := by
  obtain ⟨cf, k, fi, f, cell, h1, h2, h3, h4, h5, h6⟩ := hE.kept hS.2.1
  exact va_Wgetf hexec hb hown hlink (hsame _ h1) h2 h3 h4 (v := v) h5 rfl rfl hdg kk
theorem va_ldcwS (hexec : p.tables.exec = Jvm.exec) (hb : c.code = cc) {own tx : String} {index q : Nat} (hown : s.vm.findClass own = some m.cls) (hZ : vk_R own index tx q s) (hdg : decode cc pc = .ok (.ldc_w index, 3))
    (k : W p l e R s m args below meth c H locs cells slots Q (F0 m (pc + 3) ls (.ref q :: rest))) : W p l e R s m args below meth c H locs cells slots Q (F0 m pc ls rest) := by
  intro T hT X
  obtain ⟨t, a1, b1⟩ := k T hT X
  exact ⟨t, X.ldcStringW hexec hown (text := tx) (a := q) hZ.1 hZ.2 (g := F0 m pc ls rest) rfl (by rw [hb]; exact hdg) t a1, b1⟩
theorem wo_recv {E : String} {t : Nat} (h : va_O E t A s s.heap) (hS : va_S A s.heap H locs) : ∃ cell : Cell, H[t]? = some cell ∧ cell.vm.isStatics = false ∧ s.vm.findClass E = some cell.cls := by
  obtain ⟨cell, h1, h2, h3, -⟩ := h.kept hS.2.1
  exact ⟨cell, h1, h2, h3⟩
end RG2
