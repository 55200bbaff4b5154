
/-- a number's four bytes, and what a call of feed puts -/
def bq (n j : Int) : Int := if j = 0 then n / 16777216 % 256 else if j = 1 then n / 65536 % 256 else if j = 2 then n / 256 % 256 else n % 256
def FD (a b c d e j : Int) : Int := if j < 4 then bq a j else if j < 8 then bq b (j - 4) else if j < 12 then bq c (j - 8) else if j < 16 then bq d (j - 12) else bq e (j - 16)
def AdC (f f1 : Nat → Int32) (fed n : Int) : Prop := BR f1 ∧ ∀ k : Nat, k < 600 → gz f1 k = if fed ≤ (k : Int) ∧ (k : Int) < fed + 4 then bq n ((k : Int) - fed) else gz f k
def fdv (g : Nat → Int) (fed a b c d e : Int) (k : Nat) : Int := if fed ≤ 580 ∧ fed ≤ (k : Int) ∧ (k : Int) < fed + 20 then FD a b c d e ((k : Int) - fed) else g k
def FeC (f f1 : Nat → Int32) (fed a b c d e : Int) : Prop := BR f1 ∧ ∀ k : Nat, k < 600 → gz f1 k = fdv (gz f) fed a b c d e k
def FeM (f f1 : Nat → Int32) (fed a b c d e : Int) : Prop := ∀ k : Nat, k < 600 → nz f1 k = fdv (nz f) fed a b c d e k
theorem sr_q {n z : Int} {y : Int32} (k : Nat) (hs : (y.toBitVec.smod 32).toNat = k) (hn : -2147483648 ≤ n ∧ n ≤ 2147483647) (hz : -2147483648 ≤ z ∧ z ≤ 2147483647) (h : iI n >>> y = iI z) : z = n / 2 ^ k := by
  have h1 := pk_shr (iI n) y k hs
  rw [h, iI_to hz.1 hz.2, iI_to hn.1 hn.2, Int.shiftRight_eq_div_pow] at h1
  rw [h1]; simp
theorem b8_q {z v : Int} (hz : -2147483648 ≤ z ∧ z ≤ 2147483647) (hv : -2147483648 ≤ v ∧ v ≤ 2147483647) (h : (iI z).toInt8.toInt32 = iI v) : v % 256 = z % 256 ∧ -128 ≤ v ∧ v ≤ 127 := by
  have h1 : (iI v).toInt = (iI z).toInt.bmod (2 ^ 8) := by rw [← h, Int8.toInt_toInt32, Int32.toInt_toInt8]
  rw [iI_to hv.1 hv.2, iI_to hz.1 hz.2] at h1
  have h2 : z.bmod (2 ^ 8) % ((2 ^ 8 : Nat) : Int) = z % ((2 ^ 8 : Nat) : Int) := Int.bmod_emod
  rw [← h1] at h2
  have h3 := (iI z).toInt8.le_toInt
  have h4 := (iI z).toInt8.toInt_lt
  have h5 : (iI z).toInt8.toInt = v := by rw [← Int8.toInt_toInt32, h, iI_to hv.1 hv.2]
  exact ⟨h2, by omega, by omega⟩
theorem AdW {f f1 : Nat → Int32} {e n zs zb : Int} {y : Int32} (k : Nat) (hy : (y.toBitVec.smod 32).toNat = k) (he : 0 ≤ e ∧ e ≤ 2147483647) (hn : -2147483648 ≤ n ∧ n ≤ 2147483647) (hs : -2147483648 ≤ zs ∧ zs ≤ 2147483647) (hb : -2147483648 ≤ zb ∧ zb ≤ 2147483647) (es : iI n >>> y = iI zs) (eb : (iI zs).toInt8.toInt32 = iI zb) (hd : f1 = upd f (iI e).toNatClampNeg (vp_nar .byte (iI zb))) : (∀ j : Nat, (j : Int) = e → gz f1 j = n / 2 ^ k % 256 ∧ -128 ≤ nz f1 j ∧ nz f1 j ≤ 127) ∧ ∀ j : Nat, (j : Int) ≠ e → nz f1 j = nz f j := by
  have h1 := sr_q k hy hn hs es
  have h2 := b8_q hs hb eb
  obtain ⟨w, hw, hl, hh⟩ := iI_ex (vp_nar .byte (iI zb))
  have h3 := b8_q hb ⟨hl, hh⟩ hw
  rw [hw] at hd
  refine ⟨fun j hj => ?_, fun j hj => nz_un hd he hj⟩
  have h4 := nz_us hd he ⟨hl, hh⟩ hj
  refine ⟨?_, by omega, by omega⟩
  unfold gz
  rw [h4, ← h1]
  omega
theorem AdC_4 {f f1 f2 f3 f4 : Nat → Int32} {fed e1 e2 e3 n : Int} (hB : BR f) (h0 : 0 ≤ fed) (q1 : e1 = fed + 1) (q2 : e2 = fed + 2) (q3 : e3 = fed + 3)
    (w1 : (∀ j : Nat, (j : Int) = fed → gz f1 j = n / 2 ^ 24 % 256 ∧ -128 ≤ nz f1 j ∧ nz f1 j ≤ 127) ∧ ∀ j : Nat, (j : Int) ≠ fed → nz f1 j = nz f j)
    (w2 : (∀ j : Nat, (j : Int) = e1 → gz f2 j = n / 2 ^ 16 % 256 ∧ -128 ≤ nz f2 j ∧ nz f2 j ≤ 127) ∧ ∀ j : Nat, (j : Int) ≠ e1 → nz f2 j = nz f1 j)
    (w3 : (∀ j : Nat, (j : Int) = e2 → gz f3 j = n / 2 ^ 8 % 256 ∧ -128 ≤ nz f3 j ∧ nz f3 j ≤ 127) ∧ ∀ j : Nat, (j : Int) ≠ e2 → nz f3 j = nz f2 j)
    (w4 : (∀ j : Nat, (j : Int) = e3 → gz f4 j = n / 2 ^ 0 % 256 ∧ -128 ≤ nz f4 j ∧ nz f4 j ≤ 127) ∧ ∀ j : Nat, (j : Int) ≠ e3 → nz f4 j = nz f3 j) : AdC f f4 fed n := by
  have key : ∀ k : Nat, k < 600 → (-128 ≤ nz f4 k ∧ nz f4 k ≤ 127) ∧ gz f4 k = if fed ≤ (k : Int) ∧ (k : Int) < fed + 4 then bq n ((k : Int) - fed) else gz f k := by
    intro k hk
    by_cases c3 : (k : Int) = e3
    · have := w4.1 k c3
      rw [if_pos ⟨by omega, by omega⟩, this.1]
      refine ⟨this.2, ?_⟩
      unfold bq
      rw [if_neg (by omega), if_neg (by omega), if_neg (by omega)]
      simp
    · have a4 := w4.2 k c3
      by_cases c2 : (k : Int) = e2
      · have := w3.1 k c2
        unfold gz at this ⊢
        rw [if_pos ⟨by omega, by omega⟩, a4, this.1]
        refine ⟨this.2, ?_⟩
        unfold bq
        rw [if_neg (by omega), if_neg (by omega), if_pos (by omega)]
        rfl
      · have a3 := w3.2 k c2
        by_cases c1 : (k : Int) = e1
        · have := w2.1 k c1
          unfold gz at this ⊢
          rw [if_pos ⟨by omega, by omega⟩, a4, a3, this.1]
          refine ⟨this.2, ?_⟩
          unfold bq
          rw [if_neg (by omega), if_pos (by omega)]
          rfl
        · have a2 := w2.2 k c1
          by_cases c0 : (k : Int) = fed
          · have := w1.1 k c0
            unfold gz at this ⊢
            rw [if_pos ⟨by omega, by omega⟩, a4, a3, a2, this.1]
            refine ⟨this.2, ?_⟩
            unfold bq
            rw [if_pos (by omega)]
            rfl
          · have a1 := w1.2 k c0
            have := hB k hk
            unfold gz
            rw [if_neg (by omega), a4, a3, a2, a1]
            exact ⟨this, rfl⟩
  exact ⟨fun k hk => (key k hk).1, fun k hk => (key k hk).2⟩
theorem FeC_5 {f f1 f2 f3 f4 f5 : Nat → Int32} {fed e1 e2 e3 e4 a b c d e : Int} (h0 : 0 ≤ fed ∧ fed ≤ 580) (q1 : e1 = fed + 4) (q2 : e2 = fed + 8) (q3 : e3 = fed + 12) (q4 : e4 = fed + 16) (w1 : AdC f f1 fed a) (w2 : AdC f1 f2 e1 b) (w3 : AdC f2 f3 e2 c) (w4 : AdC f3 f4 e3 d) (w5 : AdC f4 f5 e4 e) : FeC f f5 fed a b c d e := by
  subst q1 q2 q3 q4
  refine ⟨w5.1, fun k hk => ?_⟩
  rw [w5.2 k hk, w4.2 k hk, w3.2 k hk, w2.2 k hk, w1.2 k hk]
  unfold fdv FD
  by_cases z0 : fed ≤ (k : Int) ∧ (k : Int) < fed + 20
  · rw [if_pos (show fed ≤ 580 ∧ fed ≤ (k : Int) ∧ (k : Int) < fed + 20 from ⟨h0.2, z0⟩)]
    by_cases c5 : fed + 16 ≤ (k : Int)
    · rw [if_pos (show fed + 16 ≤ (k : Int) ∧ (k : Int) < fed + 16 + 4 by omega), if_neg (show ¬ (k : Int) - fed < 4 by omega), if_neg (show ¬ (k : Int) - fed < 8 by omega), if_neg (show ¬ (k : Int) - fed < 12 by omega), if_neg (show ¬ (k : Int) - fed < 16 by omega), show (k : Int) - (fed + 16) = (k : Int) - fed - 16 by omega]
    · rw [if_neg (show ¬ (fed + 16 ≤ (k : Int) ∧ (k : Int) < fed + 16 + 4) by omega)]
      by_cases c4 : fed + 12 ≤ (k : Int)
      · rw [if_pos (show fed + 12 ≤ (k : Int) ∧ (k : Int) < fed + 12 + 4 by omega), if_neg (show ¬ (k : Int) - fed < 4 by omega), if_neg (show ¬ (k : Int) - fed < 8 by omega), if_neg (show ¬ (k : Int) - fed < 12 by omega), if_pos (show (k : Int) - fed < 16 by omega), show (k : Int) - (fed + 12) = (k : Int) - fed - 12 by omega]
      · rw [if_neg (show ¬ (fed + 12 ≤ (k : Int) ∧ (k : Int) < fed + 12 + 4) by omega)]
        by_cases c3 : fed + 8 ≤ (k : Int)
        · rw [if_pos (show fed + 8 ≤ (k : Int) ∧ (k : Int) < fed + 8 + 4 by omega), if_neg (show ¬ (k : Int) - fed < 4 by omega), if_neg (show ¬ (k : Int) - fed < 8 by omega), if_pos (show (k : Int) - fed < 12 by omega), show (k : Int) - (fed + 8) = (k : Int) - fed - 8 by omega]
        · rw [if_neg (show ¬ (fed + 8 ≤ (k : Int) ∧ (k : Int) < fed + 8 + 4) by omega)]
          by_cases c2 : fed + 4 ≤ (k : Int)
          · rw [if_pos (show fed + 4 ≤ (k : Int) ∧ (k : Int) < fed + 4 + 4 by omega), if_neg (show ¬ (k : Int) - fed < 4 by omega), if_pos (show (k : Int) - fed < 8 by omega), show (k : Int) - (fed + 4) = (k : Int) - fed - 4 by omega]
          · rw [if_neg (show ¬ (fed + 4 ≤ (k : Int) ∧ (k : Int) < fed + 4 + 4) by omega), if_pos (show fed ≤ (k : Int) ∧ (k : Int) < fed + 4 by omega), if_pos (show (k : Int) - fed < 4 by omega)]
  · rw [if_neg (show ¬ (fed ≤ 580 ∧ fed ≤ (k : Int) ∧ (k : Int) < fed + 20) from fun q => z0 q.2), if_neg (show ¬ (fed + 16 ≤ (k : Int) ∧ (k : Int) < fed + 16 + 4) by omega), if_neg (show ¬ (fed + 12 ≤ (k : Int) ∧ (k : Int) < fed + 12 + 4) by omega), if_neg (show ¬ (fed + 8 ≤ (k : Int) ∧ (k : Int) < fed + 8 + 4) by omega), if_neg (show ¬ (fed + 4 ≤ (k : Int) ∧ (k : Int) < fed + 4 + 4) by omega), if_neg (show ¬ (fed ≤ (k : Int) ∧ (k : Int) < fed + 4) by omega)]
theorem FeC_n {f : Nat → Int32} {fed a b c d e : Int} (hB : BR f) (h : 580 < fed) : FeC f f fed a b c d e := ⟨hB, fun k _ => by unfold fdv; rw [if_neg (by omega)]⟩
theorem rem4 : ∀ q : Nat, q < 20 → iI (q : Int) - iI (q : Int) / iI 4 * iI 4 = iI ((q % 4 : Nat) : Int) := by decide +kernel
theorem fdq {q v z1 z2 z3 z4 z5 : Int} {mk : Int32} (hq : 0 ≤ q ∧ q < 20) (hv : -2147483648 ≤ v ∧ v ≤ 2147483647) (h1 : -2147483648 ≤ z1 ∧ z1 ≤ 2147483647) (h2 : -2147483648 ≤ z2 ∧ z2 ≤ 2147483647) (h3 : -2147483648 ≤ z3 ∧ z3 ≤ 2147483647) (h4 : -2147483648 ≤ z4 ∧ z4 ≤ 2147483647) (h5 : 0 ≤ z5 ∧ z5 ≤ 255) (hm : mk.toBitVec.toNat = 2 ^ 8 - 1) (e1 : iI q - iI q / iI 4 * iI 4 = iI z1) (e2 : iI 8 * iI z1 = iI z2) (e3 : iI 24 - iI z2 = iI z3) (e4 : iI v >>> (iI z3 &&& 31) = iI z4) (e5 : iI z4 &&& mk = iI z5) : z5 = bq v (q % 4) := by
  have a5 := am_eq e5 hm h5
  have a1 : z1 = q % 4 := by
    have := rem4 q.toNat (by omega)
    rw [show ((q.toNat : Nat) : Int) = q by omega, e1] at this
    have := (iI_eq h1 (by omega)).mp this
    omega
  have a2 : z2 = 8 * z1 := by
    have : iI 8 * iI z1 = iI (8 * z1) := (Int32.ofInt_mul 8 z1).symm
    rw [e2] at this
    exact (iI_eq h2 (by omega)).mp this
  have a3 : z3 = 24 - z2 := by
    have : iI 24 - iI z2 = iI (24 - z2) := (Int32.ofInt_sub 24 z2).symm
    rw [e3] at this
    exact (iI_eq h3 (by omega)).mp this
  have hz : z3 = 24 ∨ z3 = 16 ∨ z3 = 8 ∨ z3 = 0 := by omega
  unfold bq
  rcases hz with w | w | w | w
  · subst w
    have := sr_q 24 (by decide) hv h4 e4
    rw [if_pos (by omega), a5, this]; rfl
  · subst w
    have := sr_q 16 (by decide) hv h4 e4
    rw [if_neg (by omega), if_pos (by omega), a5, this]; rfl
  · subst w
    have := sr_q 8 (by decide) hv h4 e4
    rw [if_neg (by omega), if_neg (by omega), if_pos (by omega), a5, this]; rfl
  · subst w
    have := sr_q 0 (by decide) hv h4 e4
    rw [if_neg (by omega), if_neg (by omega), if_neg (by omega), a5, this]; simp
/-- the reference's feed, j numbers in -/
def FmP (f f1 : Nat → Int32) (tp a b c d e j : Int) : Prop := ∀ k : Nat, k < 600 → nz f1 k = if tp ≤ (k : Int) ∧ (k : Int) < tp + j then FD a b c d e ((k : Int) - tp) else nz f k
theorem FmP_0 {f : Nat → Int32} {tp a b c d e : Int} : FmP f f tp a b c d e 0 := fun k _ => by rw [if_neg (by omega)]
theorem FmP_s {f f1 f2 : Nat → Int32} {tp a b c d e j x z j1 : Int} (h : FmP f f1 tp a b c d e j) (hj : 0 ≤ j ∧ j < 20) (htp : 0 ≤ tp) (hx : x = tp + j) (hr : 0 ≤ x ∧ x ≤ 2147483647) (hz : 0 ≤ z ∧ z ≤ 255) (hd : f2 = upd f1 (iI x).toNatClampNeg (iI z)) (hv : z = FD a b c d e j) (e1 : j1 = j + 1) : FmP f f2 tp a b c d e j1 := by
  intro k hk
  by_cases q : (k : Int) = x
  · rw [nz_us hd hr (by omega) q, if_pos ⟨by omega, by omega⟩, hv, show (k : Int) - tp = j by omega]
  · rw [nz_un hd hr q, h k hk]
    by_cases w : tp ≤ (k : Int) ∧ (k : Int) < tp + j
    · rw [if_pos w, if_pos ⟨w.1, by omega⟩]
    · rw [if_neg w, if_neg (by omega)]
theorem FD_q {a b c d e j v : Int} (hj : 0 ≤ j ∧ j < 20) (hv : (j < 4 ∧ v = a) ∨ (4 ≤ j ∧ j < 8 ∧ v = b) ∨ (8 ≤ j ∧ j < 12 ∧ v = c) ∨ (12 ≤ j ∧ j < 16 ∧ v = d) ∨ (16 ≤ j ∧ v = e)) : FD a b c d e j = bq v (j % 4) := by
  unfold FD
  rcases hv with ⟨q, w⟩ | ⟨q1, q, w⟩ | ⟨q1, q, w⟩ | ⟨q1, q, w⟩ | ⟨q, w⟩ <;> subst w
  · rw [if_pos q, show j % 4 = j by omega]
  · rw [if_neg (by omega), if_pos q, show j % 4 = j - 4 by omega]
  · rw [if_neg (by omega), if_neg (by omega), if_pos q, show j % 4 = j - 8 by omega]
  · rw [if_neg (by omega), if_neg (by omega), if_neg (by omega), if_pos q, show j % 4 = j - 12 by omega]
  · rw [if_neg (by omega), if_neg (by omega), if_neg (by omega), if_neg (by omega), show j % 4 = j - 16 by omega]
theorem FeM_e {f f1 : Nat → Int32} {tp a b c d e j : Int} (h : FmP f f1 tp a b c d e j) (hj : j = 20) (ht : tp ≤ 580) : FeM f f1 tp a b c d e := by
  subst hj
  intro k hk
  rw [h k hk]
  unfold fdv
  by_cases q : tp ≤ (k : Int) ∧ (k : Int) < tp + 20
  · rw [if_pos q, if_pos ⟨ht, q⟩]
  · rw [if_neg q, if_neg (fun w => q w.2)]
theorem FeM_n {f : Nat → Int32} {tp a b c d e : Int} (h : 580 < tp) : FeM f f tp a b c d e := fun k _ => by unfold fdv; rw [if_neg (by omega)]
/-- the two tapes are one -/
def TPR (f f9 : Nat → Int32) : Prop := TPg f (nz f9)
theorem TPR_f {f f1 f9 f2 : Nat → Int32} {fed tp a b c d e : Int} (h : TPR f f9) (hf : fed = tp) (h1 : FeC f f1 fed a b c d e) (h2 : FeM f9 f2 tp a b c d e) : TPR f1 f2 := by
  subst hf
  refine ⟨h1.1, fun k hk => ?_⟩
  rw [h1.2 k hk, h2 k hk]
  unfold fdv
  rw [h.2 k hk]
