section

/-- a number's four bytes, and what a call of feed puts -/
def bq (n j : Int) : Int := if j = 0 then n / 16777216 % 256 else if j = 1 then n / 65536 % 256 else if j = 2 then n / 256 % 256 else n % 256
def FD (a b c d e j : Int) : Int := if j < 4 then bq a j else if j < 8 then bq b (j - 4) else if j < 12 then bq c (j - 8) else if j < 16 then bq d (j - 12) else bq e (j - 16)
def AdC (f f1 : Nat → Int32) (fed n : Int) : Prop := BR f1 ∧ ∀ k : Nat, k < 600 → gz f1 k = if fed ≤ (k : Int) ∧ (k : Int) < fed + 4 then bq n ((k : Int) - fed) else gz f k
def fdv (g : Nat → Int) (fed a b c d e : Int) (k : Nat) : Int := if fed ≤ 580 ∧ fed ≤ (k : Int) ∧ (k : Int) < fed + 20 then FD a b c d e ((k : Int) - fed) else g k
def FeC (f f1 : Nat → Int32) (fed a b c d e : Int) : Prop := BR f1 ∧ ∀ k : Nat, k < 600 → gz f1 k = fdv (gz f) fed a b c d e k
def FeM (f f1 : Nat → Int32) (fed a b c d e : Int) : Prop := ∀ k : Nat, k < 600 → nz f1 k = fdv (nz f) fed a b c d e k
theorem sr_q {n z : Int} {y : Int32} (k : Nat) (hs : (y.toBitVec.smod 32).toNat = k) (hn : -2147483648 ≤ n ∧ n ≤ 2147483647) (hz : -2147483648 ≤ z ∧ z ≤ 2147483647) (h : iI n >>> y = iI z) : z = n / 2 ^ k := by
  have h1 := pk_shr (iI n) y k hs
  rw [h, iI_to hz.1 hz.2, iI_to hn.1 hn.2, Int.shiftRight_eq_div_pow] at h1
  rw [h1]; simp
theorem b8_q {z v : Int} (hz : -2147483648 ≤ z ∧ z ≤ 2147483647) (hv : -2147483648 ≤ v ∧ v ≤ 2147483647) (h : (iI z).toInt8.toInt32 = iI v) : v % 256 = z % 256 ∧ -128 ≤ v ∧ v ≤ 127 := by
  have h1 : (iI v).toInt = (iI z).toInt.bmod (2 ^ 8) := by rw [← h, Int8.toInt_toInt32, Int32.toInt_toInt8]
  rw [iI_to hv.1 hv.2, iI_to hz.1 hz.2] at h1
  have h2 : z.bmod (2 ^ 8) % ((2 ^ 8 : Nat) : Int) = z % ((2 ^ 8 : Nat) : Int) := Int.bmod_emod
  rw [← h1] at h2
  have h3 := (iI z).toInt8.le_toInt
  have h4 := (iI z).toInt8.toInt_lt
  have h5 : (iI z).toInt8.toInt = v := by rw [← Int8.toInt_toInt32, h, iI_to hv.1 hv.2]
  exact ⟨h2, by omega, by omega⟩
theorem AdW {f f1 : Nat → Int32} {e n zs zb : Int} {y : Int32} (k : Nat) (hy : (y.toBitVec.smod 32).toNat = k) (he : 0 ≤ e ∧ e ≤ 2147483647) (hn : -2147483648 ≤ n ∧ n ≤ 2147483647) (hs : -2147483648 ≤ zs ∧ zs ≤ 2147483647) (hb : -2147483648 ≤ zb ∧ zb ≤ 2147483647) (es : iI n >>> y = iI zs) (eb : (iI zs).toInt8.toInt32 = iI zb) (hd : f1 = upd f (iI e).toNatClampNeg (vp_nar .byte (iI zb))) : (∀ j : Nat, (j : Int) = e → gz f1 j = n / 2 ^ k % 256 ∧ -128 ≤ nz f1 j ∧ nz f1 j ≤ 127) ∧ ∀ j : Nat, (j : Int) ≠ e → nz f1 j = nz f j := by
  have h1 := sr_q k hy hn hs es
  have h2 := b8_q hs hb eb
  obtain ⟨w, hw, hl, hh⟩ := iI_ex (vp_nar .byte (iI zb))
  have h3 := b8_q hb ⟨hl, hh⟩ hw
  rw [hw] at hd
  refine ⟨fun j hj => ?_, fun j hj => nz_un hd he hj⟩
  have h4 := nz_us hd he ⟨hl, hh⟩ hj
  refine ⟨?_, by omega, by omega⟩
  unfold gz
  rw [h4, ← h1]
  omega
theorem AdC_4 {f f1 f2 f3 f4 : Nat → Int32} {fed e1 e2 e3 n : Int} (hB : BR f) (h0 : 0 ≤ fed) (q1 : e1 = fed + 1) (q2 : e2 = fed + 2) (q3 : e3 = fed + 3)
    (w1 : (∀ j : Nat, (j : Int) = fed → gz f1 j = n / 2 ^ 24 % 256 ∧ -128 ≤ nz f1 j ∧ nz f1 j ≤ 127) ∧ ∀ j : Nat, (j : Int) ≠ fed → nz f1 j = nz f j)
    (w2 : (∀ j : Nat, (j : Int) = e1 → gz f2 j = n / 2 ^ 16 % 256 ∧ -128 ≤ nz f2 j ∧ nz f2 j ≤ 127) ∧ ∀ j : Nat, (j : Int) ≠ e1 → nz f2 j = nz f1 j)
    (w3 : (∀ j : Nat, (j : Int) = e2 → gz f3 j = n / 2 ^ 8 % 256 ∧ -128 ≤ nz f3 j ∧ nz f3 j ≤ 127) ∧ ∀ j : Nat, (j : Int) ≠ e2 → nz f3 j = nz f2 j)
    (w4 : (∀ j : Nat, (j : Int) = e3 → gz f4 j = n / 2 ^ 0 % 256 ∧ -128 ≤ nz f4 j ∧ nz f4 j ≤ 127) ∧ ∀ j : Nat, (j : Int) ≠ e3 → nz f4 j = nz f3 j) : AdC f f4 fed n := by
  have key : ∀ k : Nat, k < 600 → (-128 ≤ nz f4 k ∧ nz f4 k ≤ 127) ∧ gz f4 k = if fed ≤ (k : Int) ∧ (k : Int) < fed + 4 then bq n ((k : Int) - fed) else gz f k := by
    intro k hk
    by_cases c3 : (k : Int) = e3
    · have := w4.1 k c3
      rw [if_pos ⟨by omega, by omega⟩, this.1]
      refine ⟨this.2, ?_⟩
      unfold bq
      rw [if_neg (by omega), if_neg (by omega), if_neg (by omega)]
      simp
    · have a4 := w4.2 k c3
      by_cases c2 : (k : Int) = e2
      · have := w3.1 k c2
        unfold gz at this ⊢
        rw [if_pos ⟨by omega, by omega⟩, a4, this.1]
        refine ⟨this.2, ?_⟩
        unfold bq
        rw [if_neg (by omega), if_neg (by omega), if_pos (by omega)]
        rfl
      · have a3 := w3.2 k c2
        by_cases c1 : (k : Int) = e1
        · have := w2.1 k c1
          unfold gz at this ⊢
          rw [if_pos ⟨by omega, by omega⟩, a4, a3, this.1]
          refine ⟨this.2, ?_⟩
          unfold bq
          rw [if_neg (by omega), if_pos (by omega)]
          rfl
        · have a2 := w2.2 k c1
          by_cases c0 : (k : Int) = fed
          · have := w1.1 k c0
            unfold gz at this ⊢
            rw [if_pos ⟨by omega, by omega⟩, a4, a3, a2, this.1]
            refine ⟨this.2, ?_⟩
            unfold bq
            rw [if_pos (by omega)]
            rfl
          · have a1 := w1.2 k c0
            have := hB k hk
            unfold gz
            rw [if_neg (by omega), a4, a3, a2, a1]
            exact ⟨this, rfl⟩
  exact ⟨fun k hk => (key k hk).1, fun k hk => (key k hk).2⟩
theorem FeC_5 {f f1 f2 f3 f4 f5 : Nat → Int32} {fed e1 e2 e3 e4 a b c d e : Int} (h0 : 0 ≤ fed ∧ fed ≤ 580) (q1 : e1 = fed + 4) (q2 : e2 = fed + 8) (q3 : e3 = fed + 12) (q4 : e4 = fed + 16) (w1 : AdC f f1 fed a) (w2 : AdC f1 f2 e1 b) (w3 : AdC f2 f3 e2 c) (w4 : AdC f3 f4 e3 d) (w5 : AdC f4 f5 e4 e) : FeC f f5 fed a b c d e := by
  subst q1 q2 q3 q4
  refine ⟨w5.1, fun k hk => ?_⟩
  rw [w5.2 k hk, w4.2 k hk, w3.2 k hk, w2.2 k hk, w1.2 k hk]
  unfold fdv FD
  by_cases z0 : fed ≤ (k : Int) ∧ (k : Int) < fed + 20
  · rw [if_pos (show fed ≤ 580 ∧ fed ≤ (k : Int) ∧ (k : Int) < fed + 20 from ⟨h0.2, z0⟩)]
    by_cases c5 : fed + 16 ≤ (k : Int)
    · rw [if_pos (show fed + 16 ≤ (k : Int) ∧ (k : Int) < fed + 16 + 4 by omega), if_neg (show ¬ (k : Int) - fed < 4 by omega), if_neg (show ¬ (k : Int) - fed < 8 by omega), if_neg (show ¬ (k : Int) - fed < 12 by omega), if_neg (show ¬ (k : Int) - fed < 16 by omega), show (k : Int) - (fed + 16) = (k : Int) - fed - 16 by omega]
    · rw [if_neg (show ¬ (fed + 16 ≤ (k : Int) ∧ (k : Int) < fed + 16 + 4) by omega)]
      by_cases c4 : fed + 12 ≤ (k : Int)
      · rw [if_pos (show fed + 12 ≤ (k : Int) ∧ (k : Int) < fed + 12 + 4 by omega), if_neg (show ¬ (k : Int) - fed < 4 by omega), if_neg (show ¬ (k : Int) - fed < 8 by omega), if_neg (show ¬ (k : Int) - fed < 12 by omega), if_pos (show (k : Int) - fed < 16 by omega), show (k : Int) - (fed + 12) = (k : Int) - fed - 12 by omega]
      · rw [if_neg (show ¬ (fed + 12 ≤ (k : Int) ∧ (k : Int) < fed + 12 + 4) by omega)]
        by_cases c3 : fed + 8 ≤ (k : Int)
        · rw [if_pos (show fed + 8 ≤ (k : Int) ∧ (k : Int) < fed + 8 + 4 by omega), if_neg (show ¬ (k : Int) - fed < 4 by omega), if_neg (show ¬ (k : Int) - fed < 8 by omega), if_pos (show (k : Int) - fed < 12 by omega), show (k : Int) - (fed + 8) = (k : Int) - fed - 8 by omega]
        · rw [if_neg (show ¬ (fed + 8 ≤ (k : Int) ∧ (k : Int) < fed + 8 + 4) by omega)]
          by_cases c2 : fed + 4 ≤ (k : Int)
          · rw [if_pos (show fed + 4 ≤ (k : Int) ∧ (k : Int) < fed + 4 + 4 by omega), if_neg (show ¬ (k : Int) - fed < 4 by omega), if_pos (show (k : Int) - fed < 8 by omega), show (k : Int) - (fed + 4) = (k : Int) - fed - 4 by omega]
          · rw [if_neg (show ¬ (fed + 4 ≤ (k : Int) ∧ (k : Int) < fed + 4 + 4) by omega), if_pos (show fed ≤ (k : Int) ∧ (k : Int) < fed + 4 by omega), if_pos (show (k : Int) - fed < 4 by omega)]
  · rw [if_neg (show ¬ (fed ≤ 580 ∧ fed ≤ (k : Int) ∧ (k : Int) < fed + 20) from fun q => z0 q.2), if_neg (show ¬ (fed + 16 ≤ (k : Int) ∧ (k : Int) < fed + 16 + 4) by omega), if_neg (show ¬ (fed + 12 ≤ (k : Int) ∧ (k : Int) < fed + 12 + 4) by omega), if_neg (show ¬ (fed + 8 ≤ (k : Int) ∧ (k : Int) < fed + 8 + 4) by omega), if_neg (show ¬ (fed + 4 ≤ (k : Int) ∧ (k : Int) < fed + 4 + 4) by omega), if_neg (show ¬ (fed ≤ (k : Int) ∧ (k : Int) < fed + 4) by omega)]
theorem FeC_n {f : Nat → Int32} {fed a b c d e : Int} (hB : BR f) (h : 580 < fed) : FeC f f fed a b c d e := ⟨hB, fun k _ => by unfold fdv; rw [if_neg (by omega)]⟩
theorem rem4 : ∀ q : Nat, q < 20 → iI (q : Int) - iI (q : Int) / iI 4 * iI 4 = iI ((q % 4 : Nat) : Int) := by decide +kernel
theorem fdq {q v z1 z2 z3 z4 z5 : Int} {mk : Int32} (hq : 0 ≤ q ∧ q < 20) (hv : -2147483648 ≤ v ∧ v ≤ 2147483647) (h1 : -2147483648 ≤ z1 ∧ z1 ≤ 2147483647) (h2 : -2147483648 ≤ z2 ∧ z2 ≤ 2147483647) (h3 : -2147483648 ≤ z3 ∧ z3 ≤ 2147483647) (h4 : -2147483648 ≤ z4 ∧ z4 ≤ 2147483647) (h5 : 0 ≤ z5 ∧ z5 ≤ 255) (hm : mk.toBitVec.toNat = 2 ^ 8 - 1) (e1 : iI q - iI q / iI 4 * iI 4 = iI z1) (e2 : iI 8 * iI z1 = iI z2) (e3 : iI 24 - iI z2 = iI z3) (e4 : iI v >>> (iI z3 &&& 31) = iI z4) (e5 : iI z4 &&& mk = iI z5) : z5 = bq v (q % 4) := by
  have a5 := am_eq e5 hm h5
  have a1 : z1 = q % 4 := by
    have := rem4 q.toNat (by omega)
    rw [show ((q.toNat : Nat) : Int) = q by omega, e1] at this
    have := (iI_eq h1 (by omega)).mp this
    omega
  have a2 : z2 = 8 * z1 := by
    have : iI 8 * iI z1 = iI (8 * z1) := (Int32.ofInt_mul 8 z1).symm
    rw [e2] at this
    exact (iI_eq h2 (by omega)).mp this
  have a3 : z3 = 24 - z2 := by
    have : iI 24 - iI z2 = iI (24 - z2) := (Int32.ofInt_sub 24 z2).symm
    rw [e3] at this
    exact (iI_eq h3 (by omega)).mp this
  have hz : z3 = 24 ∨ z3 = 16 ∨ z3 = 8 ∨ z3 = 0 := by omega
  unfold bq
  rcases hz with w | w | w | w
  · subst w
    have := sr_q 24 (by decide) hv h4 e4
    rw [if_pos (by omega), a5, this]; rfl
  · subst w
    have := sr_q 16 (by decide) hv h4 e4
    rw [if_neg (by omega), if_pos (by omega), a5, this]; rfl
  · subst w
    have := sr_q 8 (by decide) hv h4 e4
    rw [if_neg (by omega), if_neg (by omega), if_pos (by omega), a5, this]; rfl
  · subst w
    have := sr_q 0 (by decide) hv h4 e4
    rw [if_neg (by omega), if_neg (by omega), if_neg (by omega), a5, this]; simp
/-- the reference's feed, j numbers in -/
def FmP (f f1 : Nat → Int32) (tp a b c d e j : Int) : Prop := ∀ k : Nat, k < 600 → nz f1 k = if tp ≤ (k : Int) ∧ (k : Int) < tp + j then FD a b c d e ((k : Int) - tp) else nz f k
theorem FmP_0 {f : Nat → Int32} {tp a b c d e : Int} : FmP f f tp a b c d e 0 := fun k _ => by rw [if_neg (by omega)]
theorem FmP_s {f f1 f2 : Nat → Int32} {tp a b c d e j x z j1 : Int} (h : FmP f f1 tp a b c d e j) (hj : 0 ≤ j ∧ j < 20) (htp : 0 ≤ tp) (hx : x = tp + j) (hr : 0 ≤ x ∧ x ≤ 2147483647) (hz : 0 ≤ z ∧ z ≤ 255) (hd : f2 = upd f1 (iI x).toNatClampNeg (iI z)) (hv : z = FD a b c d e j) (e1 : j1 = j + 1) : FmP f f2 tp a b c d e j1 := by
  intro k hk
  by_cases q : (k : Int) = x
  · rw [nz_us hd hr (by omega) q, if_pos ⟨by omega, by omega⟩, hv, show (k : Int) - tp = j by omega]
  · rw [nz_un hd hr q, h k hk]
    by_cases w : tp ≤ (k : Int) ∧ (k : Int) < tp + j
    · rw [if_pos w, if_pos ⟨w.1, by omega⟩]
    · rw [if_neg w, if_neg (by omega)]
theorem FD_q {a b c d e j v : Int} (hj : 0 ≤ j ∧ j < 20) (hv : (j < 4 ∧ v = a) ∨ (4 ≤ j ∧ j < 8 ∧ v = b) ∨ (8 ≤ j ∧ j < 12 ∧ v = c) ∨ (12 ≤ j ∧ j < 16 ∧ v = d) ∨ (16 ≤ j ∧ v = e)) : FD a b c d e j = bq v (j % 4) := by
  unfold FD
  rcases hv with ⟨q, w⟩ | ⟨q1, q, w⟩ | ⟨q1, q, w⟩ | ⟨q1, q, w⟩ | ⟨q, w⟩ <;> subst w
  · rw [if_pos q, show j % 4 = j by omega]
  · rw [if_neg (by omega), if_pos q, show j % 4 = j - 4 by omega]
  · rw [if_neg (by omega), if_neg (by omega), if_pos q, show j % 4 = j - 8 by omega]
  · rw [if_neg (by omega), if_neg (by omega), if_neg (by omega), if_pos q, show j % 4 = j - 12 by omega]
  · rw [if_neg (by omega), if_neg (by omega), if_neg (by omega), if_neg (by omega), show j % 4 = j - 16 by omega]
theorem FeM_e {f f1 : Nat → Int32} {tp a b c d e j : Int} (h : FmP f f1 tp a b c d e j) (hj : j = 20) (ht : tp ≤ 580) : FeM f f1 tp a b c d e := by
  subst hj
  intro k hk
  rw [h k hk]
  unfold fdv
  by_cases q : tp ≤ (k : Int) ∧ (k : Int) < tp + 20
  · rw [if_pos q, if_pos ⟨ht, q⟩]
  · rw [if_neg q, if_neg (fun w => q w.2)]
theorem FeM_n {f : Nat → Int32} {tp a b c d e : Int} (h : 580 < tp) : FeM f f tp a b c d e := fun k _ => by unfold fdv; rw [if_neg (by omega)]
/-- the two tapes are one -/
def TPR (f f9 : Nat → Int32) : Prop := TPg f (nz f9)
theorem TPR_f {f f1 f9 f2 : Nat → Int32} {fed tp a b c d e : Int} (h : TPR f f9) (hf : fed = tp) (h1 : FeC f f1 fed a b c d e) (h2 : FeM f9 f2 tp a b c d e) : TPR f1 f2 := by
  subst hf
  refine ⟨h1.1, fun k hk => ?_⟩
  rw [h1.2 k hk, h2 k hk]
  unfold fdv
  rw [h.2 k hk]
end
section

def vs_e_add : List Cond := .code yX8_add cX8_add 3 none :: (([.fieldLink RX8 19 "KerbSplash$Tape" "fed" "I", .fieldLink RX8 11 "KerbSplash$Tape" "bytes" "[B"] : List Cond) ++ ((wsX80) ++ ([])))
theorem gd_e_add : vs_e_add.all goodWord = true := gd_C (by decide +kernel) (gd_A (by decide +kernel) (gd_A (by decide +kernel) rfl))
set_option maxHeartbeats 4000000 in
set_option maxRecDepth 100000 in
theorem e_add (l : Launch) (hl : l.stackTraces = false) (D : va_G) (cy : Nat → ClassId) (sa : Nat → Nat) (ta tb : Nat) (fed len at_ we fa fp : Int) (bf : Nat → Int32) (n : Int) (sz : Nat) (hr_fed : 0 ≤ fed ∧ fed ≤ 600) (hr_len : 0 ≤ len ∧ len ≤ 600) (hr_at_ : 0 ≤ at_ ∧ at_ ≤ 600) (hr_we : 0 ≤ we ∧ we ≤ 600) (hr_fa : 0 ≤ fa ∧ fa ≤ 4) (hr_fp : (-1) ≤ fp ∧ fp ≤ 600) (hr_n : (-2147483648) ≤ n ∧ n ≤ 2147483647) (hp0 : fed ≤ 596) (hn_bb : BR bf) : mV9 l yX8_add vs_e_add ({ frames := 0, cells := 0, slots := 0, locals := 0 }) D cy sa sz [vR ta, vI n] [zO ta 8 [vR tb, vI fed, vI len, vI at_, vI we, vI fa, vI fp], zI tb (cy 1) 600 bf] (fun u : SV => (0 ≤ u.2.1 0 ∧ u.2.1 0 ≤ 600) ∧ (u.2.1 0 = fed + 4) ∧ (AdC bf (u.2.2 0) fed n)) (fun u : SV => [zO ta 8 [vR tb, vI (u.2.1 0), vI len, vI at_, vI we, vI fa, vI fp], zI tb (cy 1) 600 (u.2.2 0)]) 0 0 := by
  refine Met.ofW (cc := cX8_add) (maxL := 3) (ret := none) (by decide) rfl ?_
  intro p e s m args below meth c s₁ B hml hv
  obtain ⟨rfl, hsz, hP, hG, hD0, hT⟩ := hv
  have hx := B.exec
  have hb := B.bytes
  have hr := B.returns
  have hts := atoms_spec (ws := vs_e_add) B.pre
  have hown : s.vm.findClass RX8 = some m.cls := findClass_of_methodNamed B.named
  have hlocks := B.notSynchronized
  subst hsz
  have hD := hD0.self (sz := s.heap.size)
  generalize hAe : va_A [zO ta 8 [vR tb, vI fed, vI len, vI at_, vI we, vI fa, vI fp], zI tb (cy 1) 600 bf] s.heap.size = A at hD hT ⊢
  have hA : ∀ q : Nat, s.heap.size ≤ q → A q := fun q h => by rw [← hAe]; exact Or.inr h
  have hS : va_S A s.heap s.heap [] := va_S.rf
  have hl0 := lv_entry ([vR ta, vI n]) (n := 3) (Nat.le_of_ble_eq_true rfl)
  rw [lg_entry_eq]
  generalize (lg_sl ([vR ta, vI n]) ++ List.replicate (3 - (lg_sl ([vR ta, vI n])).length) Slot.unset).toArray = ls at hl0 ⊢
  have hlv : lv_has ls 3 [(0, vR ta), (1, vI n)] := hl0
  have lf19 := hts (.fieldLink RX8 19 "KerbSplash$Tape" "fed" "I") (List.mem_of_getElem? (i := 1) rfl)
  have hi8 : ∀ w ∈ wsX80, w ∈ vs_e_add := fun w h => List.mem_cons_of_mem _ (List.mem_append_right _ (List.mem_append_left _ h))
  have lf11 := hts (.fieldLink RX8 11 "KerbSplash$Tape" "bytes" "[B") (List.mem_of_getElem? (i := 2) rfl)
  refine lv_bipush (v := iI 24) hx hb dX8_add_0 (by decide) ?_
  refine lv_istore_n (lv' := [(2, vI 24), (0, vR ta), (1, vI n)]) hx hb dX8_add_2 rfl hlv (by decide) rfl (fun ls hlv => ?_)
  refine lv_iload_n hx hb dX8_add_3 rfl (lv_at hlv 0 rfl) ?_
  refine iz_lt (tgt := 46) hx hb dX8_add_4 (by decide) (by show ((-2147483648) : Int) ≤ 24 ∧ (24 : Int) ≤ 2147483647; decide) (fun c_1 => by exfalso; omega) (fun c_1 => ?_)
  refine lv_aload_n hx hb dX8_add_7 rfl (lv_at hlv 1 rfl) ?_
  refine va_get (D := D) (ci := 8) (v := vI fed) (C := RX8) (T := TX8) (N := 7) hx hb hts hi8 hown hG.1 hP 0 rfl rfl 1 (by decide) lf19 (fun _ h9 => h9) rfl dX8_add_8 ?_
  refine lv_sipush (v := iI 600) hx hb dX8_add_11 (by decide) ?_
  refine ir_ge (tgt := 46) hx hb dX8_add_14 (by decide) (by first | exact rgw hr_fed (by decide) (by decide) | omega) (by show ((-2147483648) : Int) ≤ 600 ∧ (600 : Int) ≤ 2147483647; decide) (fun c_2 => ?_) (fun c_2 => ?_)
  · refine W.widen (k := 0) (n := 0) (Nat.le_of_ble_eq_true rfl) (Nat.le_of_ble_eq_true rfl) ?_
    exact W.vret hx hb hr (fun t ht hW => ⟨⟨((fun k => ([] : List Nat).getD k 0), (fun k => ([fed] : List Int).getD k 0), (fun k => ([bf] : List (Nat → Int32)).getD k (fun _ => 0))), rfl, ⟨(by show (0 ≤ fed ∧ fed ≤ 600); first | exact hr_fed | omega), (by show (fed = fed + 4); omega), (by show (AdC bf (bf) fed n); exact (by exfalso; omega))⟩, at9 ht hP hD [0, 1] (by decide +kernel) rfl⟩, hS.F ht⟩) hS.2.2 dX8_add_46
  · refine lv_aload_n hx hb dX8_add_17 rfl (lv_at hlv 1 rfl) ?_
    refine va_get (D := D) (ci := 8) (v := vR tb) (C := RX8) (T := TX8) (N := 7) hx hb hts hi8 hown hG.1 hP 0 rfl rfl 0 (by decide) lf11 (fun _ h9 => h9) rfl dX8_add_18 ?_
    refine lv_aload_n hx hb dX8_add_21 rfl (lv_at hlv 1 rfl) ?_
    refine va_get (D := D) (ci := 8) (v := vI fed) (C := RX8) (T := TX8) (N := 7) hx hb hts hi8 hown hG.1 hP 0 rfl rfl 1 (by decide) lf19 (fun _ h9 => h9) rfl dX8_add_22 ?_
    refine lv_iload_n hx hb dX8_add_25 rfl (lv_at hlv 2 rfl) ?_
    refine lv_iload_n hx hb dX8_add_26 rfl (lv_at hlv 0 rfl) ?_
    refine lv_ishr hx hb dX8_add_27 ?_
    refine lt_z (fun z_3 ez_3 lz_3 hz_3 => ?_)
    refine lv_i2b (v := (iI z_3).toInt8.toInt32) hx hb dX8_add_28 rfl ?_
    refine lt_z (fun z_4 ez_4 lz_4 hz_4 => ?_)
    refine va_bast hx hb hG.1 hP hD hS 1 1 rfl rfl (iI_in (by omega) (by decide)) dX8_add_29 (fun H locs hP hD hS => ?_)
    have ⟨f_5, hdf_5, hP, hD⟩ : ∃ f_5 : Nat → Int32, f_5 = upd bf (iI fed).toNatClampNeg (vp_nar .byte (iI z_4)) ∧ va_P D vwCl [zO ta 8 [vR tb, vI fed, vI len, vI at_, vI we, vI fa, vI fp], zI tb (cy 1) 600 f_5] H ∧ va_D A [zO ta 8 [vR tb, vI fed, vI len, vI at_, vI we, vI fa, vI fp], zI tb (cy 1) 600 f_5] := ⟨_, rfl, hP, hD⟩
    refine lv_aload_n hx hb dX8_add_30 rfl (lv_at hlv 1 rfl) ?_
    refine lv_dup hx hb dX8_add_31 rfl ?_
    refine va_get (D := D) (ci := 8) (v := vI fed) (C := RX8) (T := TX8) (N := 7) hx hb hts hi8 hown hG.1 hP 0 rfl rfl 1 (by decide) lf19 (fun _ h9 => h9) rfl dX8_add_32 ?_
    refine lv_iconst (v := iI 1) hx hb dX8_add_35 (by decide) ?_
    refine lv_iadd hx hb dX8_add_36 ?_
    refine lt_e (e0 := fed + 1) (Int32.ofInt_add _ _).symm (fun z_6 hz_6 => ?_)
    refine va_put (D := D) (ci := 8) (v := vI z_6) (ty := .int) (C := RX8) (T := TX8) (N := 7) hx hb hts hi8 tyX8 tyX8_ok nmX8 hown hG.1 hP hD hS 0 rfl rfl 1 (by decide) lf19 (fun _ h9 => h9) rfl (by decide +kernel) rfl rfl (Nat.le_of_ble_eq_true rfl) dX8_add_37 (fun H locs hP hD hS => ?_)
    obtain ⟨hP, hD⟩ := pw9 [zO ta 8 [vR tb, vI z_6, vI len, vI at_, vI we, vI fa, vI fp], zI tb (cy 1) 600 f_5] hP hD
    refine lv_iinc (v := iI 16) (lv' := [(2, vI 16), (0, vR ta), (1, vI n)]) hx hb dX8_add_40 hlv (k := 0) rfl (by decide) (by decide) rfl (fun ls hlv => ?_)
    refine lv_goto (tgt := 3) hx hb dX8_add_43 (by decide) ?_
    refine lv_iload_n hx hb dX8_add_3 rfl (lv_at hlv 0 rfl) ?_
    refine iz_lt (tgt := 46) hx hb dX8_add_4 (by decide) (by show ((-2147483648) : Int) ≤ 16 ∧ (16 : Int) ≤ 2147483647; decide) (fun c_7 => by exfalso; omega) (fun c_7 => ?_)
    refine lv_aload_n hx hb dX8_add_7 rfl (lv_at hlv 1 rfl) ?_
    refine va_get (D := D) (ci := 8) (v := vI z_6) (C := RX8) (T := TX8) (N := 7) hx hb hts hi8 hown hG.1 hP 0 rfl rfl 1 (by decide) lf19 (fun _ h9 => h9) rfl dX8_add_8 ?_
    refine lv_sipush (v := iI 600) hx hb dX8_add_11 (by decide) ?_
    refine ir_ge (tgt := 46) hx hb dX8_add_14 (by decide) (by omega) (by show ((-2147483648) : Int) ≤ 600 ∧ (600 : Int) ≤ 2147483647; decide) (fun c_8 => ?_) (fun c_8 => ?_)
    · refine W.widen (k := 0) (n := 0) (Nat.le_of_ble_eq_true rfl) (Nat.le_of_ble_eq_true rfl) ?_
      exact W.vret hx hb hr (fun t ht hW => ⟨⟨((fun k => ([] : List Nat).getD k 0), (fun k => ([z_6] : List Int).getD k 0), (fun k => ([f_5] : List (Nat → Int32)).getD k (fun _ => 0))), rfl, ⟨(by show (0 ≤ z_6 ∧ z_6 ≤ 600); omega), (by show (z_6 = fed + 4); omega), (by show (AdC bf (f_5) fed n); exact (by exfalso; omega))⟩, at9 ht hP hD [0, 1] (by decide +kernel) rfl⟩, hS.F ht⟩) hS.2.2 dX8_add_46
    · refine lv_aload_n hx hb dX8_add_17 rfl (lv_at hlv 1 rfl) ?_
      refine va_get (D := D) (ci := 8) (v := vR tb) (C := RX8) (T := TX8) (N := 7) hx hb hts hi8 hown hG.1 hP 0 rfl rfl 0 (by decide) lf11 (fun _ h9 => h9) rfl dX8_add_18 ?_
      refine lv_aload_n hx hb dX8_add_21 rfl (lv_at hlv 1 rfl) ?_
      refine va_get (D := D) (ci := 8) (v := vI z_6) (C := RX8) (T := TX8) (N := 7) hx hb hts hi8 hown hG.1 hP 0 rfl rfl 1 (by decide) lf19 (fun _ h9 => h9) rfl dX8_add_22 ?_
      refine lv_iload_n hx hb dX8_add_25 rfl (lv_at hlv 2 rfl) ?_
      refine lv_iload_n hx hb dX8_add_26 rfl (lv_at hlv 0 rfl) ?_
      refine lv_ishr hx hb dX8_add_27 ?_
      refine lt_z (fun z_9 ez_9 lz_9 hz_9 => ?_)
      refine lv_i2b (v := (iI z_9).toInt8.toInt32) hx hb dX8_add_28 rfl ?_
      refine lt_z (fun z_10 ez_10 lz_10 hz_10 => ?_)
      refine va_bast hx hb hG.1 hP hD hS 1 1 rfl rfl (iI_in (by omega) (by decide)) dX8_add_29 (fun H locs hP hD hS => ?_)
      have ⟨f_11, hdf_11, hP, hD⟩ : ∃ f_11 : Nat → Int32, f_11 = upd f_5 (iI z_6).toNatClampNeg (vp_nar .byte (iI z_10)) ∧ va_P D vwCl [zO ta 8 [vR tb, vI z_6, vI len, vI at_, vI we, vI fa, vI fp], zI tb (cy 1) 600 f_11] H ∧ va_D A [zO ta 8 [vR tb, vI z_6, vI len, vI at_, vI we, vI fa, vI fp], zI tb (cy 1) 600 f_11] := ⟨_, rfl, hP, hD⟩
      refine lv_aload_n hx hb dX8_add_30 rfl (lv_at hlv 1 rfl) ?_
      refine lv_dup hx hb dX8_add_31 rfl ?_
      refine va_get (D := D) (ci := 8) (v := vI z_6) (C := RX8) (T := TX8) (N := 7) hx hb hts hi8 hown hG.1 hP 0 rfl rfl 1 (by decide) lf19 (fun _ h9 => h9) rfl dX8_add_32 ?_
      refine lv_iconst (v := iI 1) hx hb dX8_add_35 (by decide) ?_
      refine lv_iadd hx hb dX8_add_36 ?_
      refine lt_e (e0 := z_6 + 1) (Int32.ofInt_add _ _).symm (fun z_12 hz_12 => ?_)
      refine va_put (D := D) (ci := 8) (v := vI z_12) (ty := .int) (C := RX8) (T := TX8) (N := 7) hx hb hts hi8 tyX8 tyX8_ok nmX8 hown hG.1 hP hD hS 0 rfl rfl 1 (by decide) lf19 (fun _ h9 => h9) rfl (by decide +kernel) rfl rfl (Nat.le_of_ble_eq_true rfl) dX8_add_37 (fun H locs hP hD hS => ?_)
      obtain ⟨hP, hD⟩ := pw9 [zO ta 8 [vR tb, vI z_12, vI len, vI at_, vI we, vI fa, vI fp], zI tb (cy 1) 600 f_11] hP hD
      refine lv_iinc (v := iI 8) (lv' := [(2, vI 8), (0, vR ta), (1, vI n)]) hx hb dX8_add_40 hlv (k := 0) rfl (by decide) (by decide) rfl (fun ls hlv => ?_)
      refine lv_goto (tgt := 3) hx hb dX8_add_43 (by decide) ?_
      refine lv_iload_n hx hb dX8_add_3 rfl (lv_at hlv 0 rfl) ?_
      refine iz_lt (tgt := 46) hx hb dX8_add_4 (by decide) (by show ((-2147483648) : Int) ≤ 8 ∧ (8 : Int) ≤ 2147483647; decide) (fun c_13 => by exfalso; omega) (fun c_13 => ?_)
      refine lv_aload_n hx hb dX8_add_7 rfl (lv_at hlv 1 rfl) ?_
      refine va_get (D := D) (ci := 8) (v := vI z_12) (C := RX8) (T := TX8) (N := 7) hx hb hts hi8 hown hG.1 hP 0 rfl rfl 1 (by decide) lf19 (fun _ h9 => h9) rfl dX8_add_8 ?_
      refine lv_sipush (v := iI 600) hx hb dX8_add_11 (by decide) ?_
      refine ir_ge (tgt := 46) hx hb dX8_add_14 (by decide) (by omega) (by show ((-2147483648) : Int) ≤ 600 ∧ (600 : Int) ≤ 2147483647; decide) (fun c_14 => ?_) (fun c_14 => ?_)
      · refine W.widen (k := 0) (n := 0) (Nat.le_of_ble_eq_true rfl) (Nat.le_of_ble_eq_true rfl) ?_
        exact W.vret hx hb hr (fun t ht hW => ⟨⟨((fun k => ([] : List Nat).getD k 0), (fun k => ([z_12] : List Int).getD k 0), (fun k => ([f_11] : List (Nat → Int32)).getD k (fun _ => 0))), rfl, ⟨(by show (0 ≤ z_12 ∧ z_12 ≤ 600); omega), (by show (z_12 = fed + 4); omega), (by show (AdC bf (f_11) fed n); exact (by exfalso; omega))⟩, at9 ht hP hD [0, 1] (by decide +kernel) rfl⟩, hS.F ht⟩) hS.2.2 dX8_add_46
      · refine lv_aload_n hx hb dX8_add_17 rfl (lv_at hlv 1 rfl) ?_
        refine va_get (D := D) (ci := 8) (v := vR tb) (C := RX8) (T := TX8) (N := 7) hx hb hts hi8 hown hG.1 hP 0 rfl rfl 0 (by decide) lf11 (fun _ h9 => h9) rfl dX8_add_18 ?_
        refine lv_aload_n hx hb dX8_add_21 rfl (lv_at hlv 1 rfl) ?_
        refine va_get (D := D) (ci := 8) (v := vI z_12) (C := RX8) (T := TX8) (N := 7) hx hb hts hi8 hown hG.1 hP 0 rfl rfl 1 (by decide) lf19 (fun _ h9 => h9) rfl dX8_add_22 ?_
        refine lv_iload_n hx hb dX8_add_25 rfl (lv_at hlv 2 rfl) ?_
        refine lv_iload_n hx hb dX8_add_26 rfl (lv_at hlv 0 rfl) ?_
        refine lv_ishr hx hb dX8_add_27 ?_
        refine lt_z (fun z_15 ez_15 lz_15 hz_15 => ?_)
        refine lv_i2b (v := (iI z_15).toInt8.toInt32) hx hb dX8_add_28 rfl ?_
        refine lt_z (fun z_16 ez_16 lz_16 hz_16 => ?_)
        refine va_bast hx hb hG.1 hP hD hS 1 1 rfl rfl (iI_in (by omega) (by decide)) dX8_add_29 (fun H locs hP hD hS => ?_)
        have ⟨f_17, hdf_17, hP, hD⟩ : ∃ f_17 : Nat → Int32, f_17 = upd f_11 (iI z_12).toNatClampNeg (vp_nar .byte (iI z_16)) ∧ va_P D vwCl [zO ta 8 [vR tb, vI z_12, vI len, vI at_, vI we, vI fa, vI fp], zI tb (cy 1) 600 f_17] H ∧ va_D A [zO ta 8 [vR tb, vI z_12, vI len, vI at_, vI we, vI fa, vI fp], zI tb (cy 1) 600 f_17] := ⟨_, rfl, hP, hD⟩
        refine lv_aload_n hx hb dX8_add_30 rfl (lv_at hlv 1 rfl) ?_
        refine lv_dup hx hb dX8_add_31 rfl ?_
        refine va_get (D := D) (ci := 8) (v := vI z_12) (C := RX8) (T := TX8) (N := 7) hx hb hts hi8 hown hG.1 hP 0 rfl rfl 1 (by decide) lf19 (fun _ h9 => h9) rfl dX8_add_32 ?_
        refine lv_iconst (v := iI 1) hx hb dX8_add_35 (by decide) ?_
        refine lv_iadd hx hb dX8_add_36 ?_
        refine lt_e (e0 := z_12 + 1) (Int32.ofInt_add _ _).symm (fun z_18 hz_18 => ?_)
        refine va_put (D := D) (ci := 8) (v := vI z_18) (ty := .int) (C := RX8) (T := TX8) (N := 7) hx hb hts hi8 tyX8 tyX8_ok nmX8 hown hG.1 hP hD hS 0 rfl rfl 1 (by decide) lf19 (fun _ h9 => h9) rfl (by decide +kernel) rfl rfl (Nat.le_of_ble_eq_true rfl) dX8_add_37 (fun H locs hP hD hS => ?_)
        obtain ⟨hP, hD⟩ := pw9 [zO ta 8 [vR tb, vI z_18, vI len, vI at_, vI we, vI fa, vI fp], zI tb (cy 1) 600 f_17] hP hD
        refine lv_iinc (v := iI 0) (lv' := [(2, vI 0), (0, vR ta), (1, vI n)]) hx hb dX8_add_40 hlv (k := 0) rfl (by decide) (by decide) rfl (fun ls hlv => ?_)
        refine lv_goto (tgt := 3) hx hb dX8_add_43 (by decide) ?_
        refine lv_iload_n hx hb dX8_add_3 rfl (lv_at hlv 0 rfl) ?_
        refine iz_lt (tgt := 46) hx hb dX8_add_4 (by decide) (by show ((-2147483648) : Int) ≤ 0 ∧ (0 : Int) ≤ 2147483647; decide) (fun c_19 => by exfalso; omega) (fun c_19 => ?_)
        refine lv_aload_n hx hb dX8_add_7 rfl (lv_at hlv 1 rfl) ?_
        refine va_get (D := D) (ci := 8) (v := vI z_18) (C := RX8) (T := TX8) (N := 7) hx hb hts hi8 hown hG.1 hP 0 rfl rfl 1 (by decide) lf19 (fun _ h9 => h9) rfl dX8_add_8 ?_
        refine lv_sipush (v := iI 600) hx hb dX8_add_11 (by decide) ?_
        refine ir_ge (tgt := 46) hx hb dX8_add_14 (by decide) (by omega) (by show ((-2147483648) : Int) ≤ 600 ∧ (600 : Int) ≤ 2147483647; decide) (fun c_20 => ?_) (fun c_20 => ?_)
        · refine W.widen (k := 0) (n := 0) (Nat.le_of_ble_eq_true rfl) (Nat.le_of_ble_eq_true rfl) ?_
          exact W.vret hx hb hr (fun t ht hW => ⟨⟨((fun k => ([] : List Nat).getD k 0), (fun k => ([z_18] : List Int).getD k 0), (fun k => ([f_17] : List (Nat → Int32)).getD k (fun _ => 0))), rfl, ⟨(by show (0 ≤ z_18 ∧ z_18 ≤ 600); omega), (by show (z_18 = fed + 4); omega), (by show (AdC bf (f_17) fed n); exact (by exfalso; omega))⟩, at9 ht hP hD [0, 1] (by decide +kernel) rfl⟩, hS.F ht⟩) hS.2.2 dX8_add_46
        · refine lv_aload_n hx hb dX8_add_17 rfl (lv_at hlv 1 rfl) ?_
          refine va_get (D := D) (ci := 8) (v := vR tb) (C := RX8) (T := TX8) (N := 7) hx hb hts hi8 hown hG.1 hP 0 rfl rfl 0 (by decide) lf11 (fun _ h9 => h9) rfl dX8_add_18 ?_
          refine lv_aload_n hx hb dX8_add_21 rfl (lv_at hlv 1 rfl) ?_
          refine va_get (D := D) (ci := 8) (v := vI z_18) (C := RX8) (T := TX8) (N := 7) hx hb hts hi8 hown hG.1 hP 0 rfl rfl 1 (by decide) lf19 (fun _ h9 => h9) rfl dX8_add_22 ?_
          refine lv_iload_n hx hb dX8_add_25 rfl (lv_at hlv 2 rfl) ?_
          refine lv_iload_n hx hb dX8_add_26 rfl (lv_at hlv 0 rfl) ?_
          refine lv_ishr hx hb dX8_add_27 ?_
          refine lt_z (fun z_21 ez_21 lz_21 hz_21 => ?_)
          refine lv_i2b (v := (iI z_21).toInt8.toInt32) hx hb dX8_add_28 rfl ?_
          refine lt_z (fun z_22 ez_22 lz_22 hz_22 => ?_)
          refine va_bast hx hb hG.1 hP hD hS 1 1 rfl rfl (iI_in (by omega) (by decide)) dX8_add_29 (fun H locs hP hD hS => ?_)
          have ⟨f_23, hdf_23, hP, hD⟩ : ∃ f_23 : Nat → Int32, f_23 = upd f_17 (iI z_18).toNatClampNeg (vp_nar .byte (iI z_22)) ∧ va_P D vwCl [zO ta 8 [vR tb, vI z_18, vI len, vI at_, vI we, vI fa, vI fp], zI tb (cy 1) 600 f_23] H ∧ va_D A [zO ta 8 [vR tb, vI z_18, vI len, vI at_, vI we, vI fa, vI fp], zI tb (cy 1) 600 f_23] := ⟨_, rfl, hP, hD⟩
          refine lv_aload_n hx hb dX8_add_30 rfl (lv_at hlv 1 rfl) ?_
          refine lv_dup hx hb dX8_add_31 rfl ?_
          refine va_get (D := D) (ci := 8) (v := vI z_18) (C := RX8) (T := TX8) (N := 7) hx hb hts hi8 hown hG.1 hP 0 rfl rfl 1 (by decide) lf19 (fun _ h9 => h9) rfl dX8_add_32 ?_
          refine lv_iconst (v := iI 1) hx hb dX8_add_35 (by decide) ?_
          refine lv_iadd hx hb dX8_add_36 ?_
          refine lt_e (e0 := z_18 + 1) (Int32.ofInt_add _ _).symm (fun z_24 hz_24 => ?_)
          refine va_put (D := D) (ci := 8) (v := vI z_24) (ty := .int) (C := RX8) (T := TX8) (N := 7) hx hb hts hi8 tyX8 tyX8_ok nmX8 hown hG.1 hP hD hS 0 rfl rfl 1 (by decide) lf19 (fun _ h9 => h9) rfl (by decide +kernel) rfl rfl (Nat.le_of_ble_eq_true rfl) dX8_add_37 (fun H locs hP hD hS => ?_)
          obtain ⟨hP, hD⟩ := pw9 [zO ta 8 [vR tb, vI z_24, vI len, vI at_, vI we, vI fa, vI fp], zI tb (cy 1) 600 f_23] hP hD
          refine lv_iinc (v := iI (-8)) (lv' := [(2, vI (-8)), (0, vR ta), (1, vI n)]) hx hb dX8_add_40 hlv (k := 0) rfl (by decide) (by decide) rfl (fun ls hlv => ?_)
          refine lv_goto (tgt := 3) hx hb dX8_add_43 (by decide) ?_
          refine lv_iload_n hx hb dX8_add_3 rfl (lv_at hlv 0 rfl) ?_
          refine iz_lt (tgt := 46) hx hb dX8_add_4 (by decide) (by show ((-2147483648) : Int) ≤ (-8) ∧ ((-8) : Int) ≤ 2147483647; decide) (fun c_25 => ?_) (fun c_25 => by exfalso; omega)
          refine W.widen (k := 0) (n := 0) (Nat.le_of_ble_eq_true rfl) (Nat.le_of_ble_eq_true rfl) ?_
          exact W.vret hx hb hr (fun t ht hW => ⟨⟨((fun k => ([] : List Nat).getD k 0), (fun k => ([z_24] : List Int).getD k 0), (fun k => ([f_23] : List (Nat → Int32)).getD k (fun _ => 0))), rfl, ⟨(by show (0 ≤ z_24 ∧ z_24 ≤ 600); omega), (by show (z_24 = fed + 4); omega), (by show (AdC bf (f_23) fed n); exact (by first | exact AdC_4 hn_bb (by omega) (by omega) (by omega) (by omega) (AdW (e := fed) 24 (by decide) (by omega) (by omega) (by omega) (by omega) ez_3 ez_4 hdf_5) (AdW (e := z_6) 16 (by decide) (by omega) (by omega) (by omega) (by omega) ez_9 ez_10 hdf_11) (AdW (e := z_12) 8 (by decide) (by omega) (by omega) (by omega) (by omega) ez_15 ez_16 hdf_17) (AdW (e := z_18) 0 (by decide) (by omega) (by omega) (by omega) (by omega) ez_21 ez_22 hdf_23) | (exfalso; omega)))⟩, at9 ht hP hD [0, 1] (by decide +kernel) rfl⟩, hS.F ht⟩) hS.2.2 dX8_add_46
def vs_e_feed : List Cond := .code yX11_feed cX11_feed 6 (some .int) :: (([.fieldLink RX11 10 "KerbSplash" "tape" "LKerbSplash$Tape;", .initialized RX8, .instanceMethod yX8_hasRoom, .selects RX8 yX8_hasRoom yX8_hasRoom, .instanceMethod yX8_add, .selects RX8 yX8_add yX8_add] : List Cond) ++ ((wsX110) ++ ((vs_s_hasRoom) ++ ((vs_e_add) ++ ((wsX80) ++ ([]))))))
set_option maxHeartbeats 4000000 in
set_option maxRecDepth 100000 in
theorem e_feed (l : Launch) (hl : l.stackTraces = false) (D : va_G) (cy : Nat → ClassId) (sa : Nat → Nat) (kk ta kr kl sA dA pa ki kp wa or_ rq : Nat) (nr nw im : Int) (tb : Nat) (fed len at_ we fa fp : Int) (bf : Nat → Int32) (a_ b_ c_ d_ e_ : Int) (sz : Nat) (hr_nr : 0 ≤ nr ∧ nr ≤ 4) (hr_nw : 0 ≤ nw ∧ nw ≤ 4) (hr_im : 0 ≤ im ∧ im ≤ 3) (hr_fed : 0 ≤ fed ∧ fed ≤ 600) (hr_len : 0 ≤ len ∧ len ≤ 600) (hr_at_ : 0 ≤ at_ ∧ at_ ≤ 600) (hr_we : 0 ≤ we ∧ we ≤ 600) (hr_fa : 0 ≤ fa ∧ fa ≤ 4) (hr_fp : (-1) ≤ fp ∧ fp ≤ 600) (hr_a_ : (-2147483648) ≤ a_ ∧ a_ ≤ 2147483647) (hr_b_ : (-2147483648) ≤ b_ ∧ b_ ≤ 2147483647) (hr_c_ : (-2147483648) ≤ c_ ∧ c_ ≤ 2147483647) (hr_d_ : (-2147483648) ≤ d_ ∧ d_ ≤ 2147483647) (hr_e_ : (-2147483648) ≤ e_ ∧ e_ ≤ 2147483647) (hn_bb : BR bf) : mI9 l yX11_feed vs_e_feed ({ frames := 1, cells := 0, slots := 0, locals := 22 }) D cy sa sz [vR kk, vI a_, vI b_, vI c_, vI d_, vI e_] [zO kk 11 [vR ta, vR kr, vR kl, vI nr, vI nw, vR sA, vR dA, vR pa, vR ki, vR kp, vI im, vR wa, vR or_, vR rq], zO ta 8 [vR tb, vI fed, vI len, vI at_, vI we, vI fa, vI fp], zI tb (cy 1) 600 bf] (fun (r : Int32) (u : SV) => r = iI (u.2.1 0) ∧ ((-1) ≤ u.2.1 0 ∧ u.2.1 0 ≤ 600) ∧ (0 ≤ u.2.1 1 ∧ u.2.1 1 ≤ 600) ∧ (fed ≤ 580 → u.2.1 0 = fed + 20 ∧ u.2.1 1 = fed + 20) ∧ (580 < fed → u.2.1 0 = -1 ∧ u.2.1 1 = fed) ∧ (FeC bf (u.2.2 0) fed a_ b_ c_ d_ e_)) (fun u : SV => [zO kk 11 [vR ta, vR kr, vR kl, vI nr, vI nw, vR sA, vR dA, vR pa, vR ki, vR kp, vI im, vR wa, vR or_, vR rq], zO ta 8 [vR tb, vI (u.2.1 1), vI len, vI at_, vI we, vI fa, vI fp], zI tb (cy 1) 600 (u.2.2 0)]) 0 0 := by
  refine Met.ofW (cc := cX11_feed) (maxL := 6) (ret := (some .int)) (by decide) rfl ?_
  intro p e s m args below meth c s₁ B hml hv
  obtain ⟨rfl, hsz, hP, hG, hD0, hT⟩ := hv
  have hx := B.exec
  have hb := B.bytes
  have hr := B.returns
  have hts := atoms_spec (ws := vs_e_feed) B.pre
  have hown : s.vm.findClass RX11 = some m.cls := findClass_of_methodNamed B.named
  have hlocks := B.notSynchronized
  subst hsz
  have hD := hD0.self (sz := s.heap.size)
  generalize hAe : va_A [zO kk 11 [vR ta, vR kr, vR kl, vI nr, vI nw, vR sA, vR dA, vR pa, vR ki, vR kp, vI im, vR wa, vR or_, vR rq], zO ta 8 [vR tb, vI fed, vI len, vI at_, vI we, vI fa, vI fp], zI tb (cy 1) 600 bf] s.heap.size = A at hD hT ⊢
  have hA : ∀ q : Nat, s.heap.size ≤ q → A q := fun q h => by rw [← hAe]; exact Or.inr h
  have hS : va_S A s.heap s.heap [] := va_S.rf
  have hl0 := lv_entry ([vR kk, vI a_, vI b_, vI c_, vI d_, vI e_]) (n := 6) (Nat.le_of_ble_eq_true rfl)
  rw [lg_entry_eq]
  generalize (lg_sl ([vR kk, vI a_, vI b_, vI c_, vI d_, vI e_]) ++ List.replicate (6 - (lg_sl ([vR kk, vI a_, vI b_, vI c_, vI d_, vI e_])).length) Slot.unset).toArray = ls at hl0 ⊢
  have hlv : lv_has ls 6 [(0, vR kk), (1, vI a_), (2, vI b_), (3, vI c_), (4, vI d_), (5, vI e_)] := hl0
  have lf10 := hts (.fieldLink RX11 10 "KerbSplash" "tape" "LKerbSplash$Tape;") (List.mem_of_getElem? (i := 1) rfl)
  have hi11 : ∀ w ∈ wsX110, w ∈ vs_e_feed := fun w h => List.mem_cons_of_mem _ (List.mem_append_right _ (List.mem_append_left _ h))
  have gg_1 : GoodIn vs_e_feed (vs_s_hasRoom) := goodIn_sub (fun w h => List.mem_cons_of_mem _ (List.mem_append_right _ (List.mem_append_right _ (List.mem_append_left _ h)))) gd_s_hasRoom
  have ini_RX8 := hts (.initialized RX8) (List.mem_of_getElem? (i := 2) rfl)
  have im_X8_hasRoom := hts (.instanceMethod yX8_hasRoom) (List.mem_of_getElem? (i := 3) rfl)
  have se_X8_hasRoom := hts (.selects RX8 yX8_hasRoom yX8_hasRoom) (List.mem_of_getElem? (i := 4) rfl)
  have gg_2 : GoodIn vs_e_feed (vs_e_add) := goodIn_sub (fun w h => List.mem_cons_of_mem _ (List.mem_append_right _ (List.mem_append_right _ (List.mem_append_right _ (List.mem_append_left _ h))))) gd_e_add
  have im_X8_add := hts (.instanceMethod yX8_add) (List.mem_of_getElem? (i := 5) rfl)
  have se_X8_add := hts (.selects RX8 yX8_add yX8_add) (List.mem_of_getElem? (i := 6) rfl)
  have hi8 : ∀ w ∈ wsX80, w ∈ vs_e_feed := fun w h => List.mem_cons_of_mem _ (List.mem_append_right _ (List.mem_append_right _ (List.mem_append_right _ (List.mem_append_right _ (List.mem_append_left _ h)))))
  refine lv_aload_n hx hb dX11_feed_0 rfl (lv_at hlv 0 rfl) ?_
  refine va_get (D := D) (ci := 11) (v := vR ta) (C := RX11) (T := TX11) (N := 14) hx hb hts hi11 hown hG.1 hP 0 rfl rfl 0 (by decide) lf10 (fun _ h9 => h9) rfl dX11_feed_1 ?_
  refine cjr_i [true, false, true] (fun pre9 => (va_runVN (host := "KerbSplash") (As := []) (rest := []) ⟨hx, hb, hml, hown, hts⟩ (s_hasRoom l hl D cy sa ta tb fed len at_ we fa fp s.heap.size (by first | exact hr_fed | omega) (by first | exact hr_len | omega) (by first | exact hr_at_ | omega) (by first | exact hr_we | omega) (by first | exact hr_fa | omega) (by first | exact hr_fp | omega)) ⟨va_cnB 0 hts gg_1 rfl rfl rfl (nM_K_73 hG.2.1) ini_RX8 (by decide +kernel) ⟨Nat.le_of_ble_eq_true rfl, Nat.le_of_ble_eq_true rfl⟩, im_X8_hasRoom, se_X8_hasRoom⟩ ⟨pcW.blind, (va_recv hG.1 hP (ci := 8) (q0 := 1) rfl rfl), pre9⟩ rfl rfl hlv.1 rfl (lv_room (Nat.le_of_ble_eq_true rfl)) dX11_feed_4 ⟨Nat.le_of_ble_eq_true rfl, Nat.le_of_ble_eq_true rfl⟩)) hP hD hS hA hG hT [1] rfl (by decide +kernel) (fun r1 u1 H locs hw1 hq9 hS => ?_)
  obtain ⟨rfl, hq1_1, hq1_2, hq1_3⟩ := hw1
  obtain ⟨hP, hD⟩ := pd9 [zO kk 11 [vR ta, vR kr, vR kl, vI nr, vI nw, vR sA, vR dA, vR pa, vR ki, vR kp, vI im, vR wa, vR or_, vR rq], zI tb (cy 1) 600 bf, zO ta 8 [vR tb, vI fed, vI len, vI at_, vI we, vI fa, vI fp]] hq9
  refine iz_ne (tgt := 12) hx hb dX11_feed_7 (by decide) (by first | exact rgw hq1_1 (by decide) (by decide) | omega) (fun c_1 => ?_) (fun c_1 => ?_)
  · refine lv_aload_n hx hb dX11_feed_12 rfl (lv_at hlv 0 rfl) ?_
    refine va_get (D := D) (ci := 11) (v := vR ta) (C := RX11) (T := TX11) (N := 14) hx hb hts hi11 hown hG.1 hP 0 rfl rfl 0 (by decide) lf10 (fun _ h9 => h9) rfl dX11_feed_13 ?_
    refine lv_iload_n hx hb dX11_feed_16 rfl (lv_at hlv 1 rfl) ?_
    refine cjr_v [true, false, false] (fun pre9 => (va_runVN (host := "KerbSplash") (As := [vI a_]) (rest := []) ⟨hx, hb, hml, hown, hts⟩ (e_add l hl D cy sa ta tb fed len at_ we fa fp bf a_ H.size (by first | exact hr_fed | omega) (by first | exact hr_len | omega) (by first | exact hr_at_ | omega) (by first | exact hr_we | omega) (by first | exact hr_fa | omega) (by first | exact hr_fp | omega) (by first | exact hr_a_ | omega) (by omega) hn_bb) ⟨va_cnB 1 hts gg_2 rfl rfl rfl (nM_K_77 hG.2.1) ini_RX8 (by decide +kernel) ⟨Nat.le_of_ble_eq_true rfl, Nat.le_of_ble_eq_true rfl⟩, im_X8_add, se_X8_add⟩ ⟨pcW.blind, (va_recv hG.1 hP (ci := 8) (q0 := 2) rfl rfl), pre9⟩ rfl rfl hlv.1 rfl (lv_room (Nat.le_of_ble_eq_true rfl)) dX11_feed_17 ⟨Nat.le_of_ble_eq_true rfl, Nat.le_of_ble_eq_true rfl⟩)) hP hD hS hA hG hT [2, 1] rfl (by decide +kernel) (fun u2 H locs hw2 hq9 hS => ?_)
    obtain ⟨hq2_0, hq2_1, hq2_2⟩ := hw2
    obtain ⟨hP, hD⟩ := pd9 [zO kk 11 [vR ta, vR kr, vR kl, vI nr, vI nw, vR sA, vR dA, vR pa, vR ki, vR kp, vI im, vR wa, vR or_, vR rq], zO ta 8 [vR tb, vI (u2.2.1 0), vI len, vI at_, vI we, vI fa, vI fp], zI tb (cy 1) 600 (u2.2.2 0)] hq9
    refine lv_aload_n hx hb dX11_feed_20 rfl (lv_at hlv 0 rfl) ?_
    refine va_get (D := D) (ci := 11) (v := vR ta) (C := RX11) (T := TX11) (N := 14) hx hb hts hi11 hown hG.1 hP 0 rfl rfl 0 (by decide) lf10 (fun _ h9 => h9) rfl dX11_feed_21 ?_
    refine lv_iload_n hx hb dX11_feed_24 rfl (lv_at hlv 2 rfl) ?_
    refine cjr_v [true, false, false] (fun pre9 => (va_runVN (host := "KerbSplash") (As := [vI b_]) (rest := []) ⟨hx, hb, hml, hown, hts⟩ (e_add l hl D cy sa ta tb (u2.2.1 0) len at_ we fa fp (u2.2.2 0) b_ H.size (by first | exact hq2_0 | omega) (by first | exact hr_len | omega) (by first | exact hr_at_ | omega) (by first | exact hr_we | omega) (by first | exact hr_fa | omega) (by first | exact hr_fp | omega) (by first | exact hr_b_ | omega) (by omega) (hq2_2.1)) ⟨va_cnB 1 hts gg_2 rfl rfl rfl (nM_K_77 hG.2.1) ini_RX8 (by decide +kernel) ⟨Nat.le_of_ble_eq_true rfl, Nat.le_of_ble_eq_true rfl⟩, im_X8_add, se_X8_add⟩ ⟨pcW.blind, (va_recv hG.1 hP (ci := 8) (q0 := 1) rfl rfl), pre9⟩ rfl rfl hlv.1 rfl (lv_room (Nat.le_of_ble_eq_true rfl)) dX11_feed_25 ⟨Nat.le_of_ble_eq_true rfl, Nat.le_of_ble_eq_true rfl⟩)) hP hD hS hA hG hT [1, 2] rfl (by decide +kernel) (fun u3 H locs hw3 hq9 hS => ?_)
    obtain ⟨hq3_0, hq3_1, hq3_2⟩ := hw3
    obtain ⟨hP, hD⟩ := pd9 [zO kk 11 [vR ta, vR kr, vR kl, vI nr, vI nw, vR sA, vR dA, vR pa, vR ki, vR kp, vI im, vR wa, vR or_, vR rq], zO ta 8 [vR tb, vI (u3.2.1 0), vI len, vI at_, vI we, vI fa, vI fp], zI tb (cy 1) 600 (u3.2.2 0)] hq9
    refine lv_aload_n hx hb dX11_feed_28 rfl (lv_at hlv 0 rfl) ?_
    refine va_get (D := D) (ci := 11) (v := vR ta) (C := RX11) (T := TX11) (N := 14) hx hb hts hi11 hown hG.1 hP 0 rfl rfl 0 (by decide) lf10 (fun _ h9 => h9) rfl dX11_feed_29 ?_
    refine lv_iload_n hx hb dX11_feed_32 rfl (lv_at hlv 3 rfl) ?_
    refine cjr_v [true, false, false] (fun pre9 => (va_runVN (host := "KerbSplash") (As := [vI c_]) (rest := []) ⟨hx, hb, hml, hown, hts⟩ (e_add l hl D cy sa ta tb (u3.2.1 0) len at_ we fa fp (u3.2.2 0) c_ H.size (by first | exact hq3_0 | omega) (by first | exact hr_len | omega) (by first | exact hr_at_ | omega) (by first | exact hr_we | omega) (by first | exact hr_fa | omega) (by first | exact hr_fp | omega) (by first | exact hr_c_ | omega) (by omega) (hq3_2.1)) ⟨va_cnB 1 hts gg_2 rfl rfl rfl (nM_K_77 hG.2.1) ini_RX8 (by decide +kernel) ⟨Nat.le_of_ble_eq_true rfl, Nat.le_of_ble_eq_true rfl⟩, im_X8_add, se_X8_add⟩ ⟨pcW.blind, (va_recv hG.1 hP (ci := 8) (q0 := 1) rfl rfl), pre9⟩ rfl rfl hlv.1 rfl (lv_room (Nat.le_of_ble_eq_true rfl)) dX11_feed_33 ⟨Nat.le_of_ble_eq_true rfl, Nat.le_of_ble_eq_true rfl⟩)) hP hD hS hA hG hT [1, 2] rfl (by decide +kernel) (fun u4 H locs hw4 hq9 hS => ?_)
    obtain ⟨hq4_0, hq4_1, hq4_2⟩ := hw4
    obtain ⟨hP, hD⟩ := pd9 [zO kk 11 [vR ta, vR kr, vR kl, vI nr, vI nw, vR sA, vR dA, vR pa, vR ki, vR kp, vI im, vR wa, vR or_, vR rq], zO ta 8 [vR tb, vI (u4.2.1 0), vI len, vI at_, vI we, vI fa, vI fp], zI tb (cy 1) 600 (u4.2.2 0)] hq9
    refine lv_aload_n hx hb dX11_feed_36 rfl (lv_at hlv 0 rfl) ?_
    refine va_get (D := D) (ci := 11) (v := vR ta) (C := RX11) (T := TX11) (N := 14) hx hb hts hi11 hown hG.1 hP 0 rfl rfl 0 (by decide) lf10 (fun _ h9 => h9) rfl dX11_feed_37 ?_
    refine lv_iload hx hb dX11_feed_40 (lv_at hlv 4 rfl) ?_
    refine cjr_v [true, false, false] (fun pre9 => (va_runVN (host := "KerbSplash") (As := [vI d_]) (rest := []) ⟨hx, hb, hml, hown, hts⟩ (e_add l hl D cy sa ta tb (u4.2.1 0) len at_ we fa fp (u4.2.2 0) d_ H.size (by first | exact hq4_0 | omega) (by first | exact hr_len | omega) (by first | exact hr_at_ | omega) (by first | exact hr_we | omega) (by first | exact hr_fa | omega) (by first | exact hr_fp | omega) (by first | exact hr_d_ | omega) (by omega) (hq4_2.1)) ⟨va_cnB 1 hts gg_2 rfl rfl rfl (nM_K_77 hG.2.1) ini_RX8 (by decide +kernel) ⟨Nat.le_of_ble_eq_true rfl, Nat.le_of_ble_eq_true rfl⟩, im_X8_add, se_X8_add⟩ ⟨pcW.blind, (va_recv hG.1 hP (ci := 8) (q0 := 1) rfl rfl), pre9⟩ rfl rfl hlv.1 rfl (lv_room (Nat.le_of_ble_eq_true rfl)) dX11_feed_42 ⟨Nat.le_of_ble_eq_true rfl, Nat.le_of_ble_eq_true rfl⟩)) hP hD hS hA hG hT [1, 2] rfl (by decide +kernel) (fun u5 H locs hw5 hq9 hS => ?_)
    obtain ⟨hq5_0, hq5_1, hq5_2⟩ := hw5
    obtain ⟨hP, hD⟩ := pd9 [zO kk 11 [vR ta, vR kr, vR kl, vI nr, vI nw, vR sA, vR dA, vR pa, vR ki, vR kp, vI im, vR wa, vR or_, vR rq], zO ta 8 [vR tb, vI (u5.2.1 0), vI len, vI at_, vI we, vI fa, vI fp], zI tb (cy 1) 600 (u5.2.2 0)] hq9
    refine lv_aload_n hx hb dX11_feed_45 rfl (lv_at hlv 0 rfl) ?_
    refine va_get (D := D) (ci := 11) (v := vR ta) (C := RX11) (T := TX11) (N := 14) hx hb hts hi11 hown hG.1 hP 0 rfl rfl 0 (by decide) lf10 (fun _ h9 => h9) rfl dX11_feed_46 ?_
    refine lv_iload hx hb dX11_feed_49 (lv_at hlv 5 rfl) ?_
    refine cjr_v [true, false, false] (fun pre9 => (va_runVN (host := "KerbSplash") (As := [vI e_]) (rest := []) ⟨hx, hb, hml, hown, hts⟩ (e_add l hl D cy sa ta tb (u5.2.1 0) len at_ we fa fp (u5.2.2 0) e_ H.size (by first | exact hq5_0 | omega) (by first | exact hr_len | omega) (by first | exact hr_at_ | omega) (by first | exact hr_we | omega) (by first | exact hr_fa | omega) (by first | exact hr_fp | omega) (by first | exact hr_e_ | omega) (by omega) (hq5_2.1)) ⟨va_cnB 1 hts gg_2 rfl rfl rfl (nM_K_77 hG.2.1) ini_RX8 (by decide +kernel) ⟨Nat.le_of_ble_eq_true rfl, Nat.le_of_ble_eq_true rfl⟩, im_X8_add, se_X8_add⟩ ⟨pcW.blind, (va_recv hG.1 hP (ci := 8) (q0 := 1) rfl rfl), pre9⟩ rfl rfl hlv.1 rfl (lv_room (Nat.le_of_ble_eq_true rfl)) dX11_feed_51 ⟨Nat.le_of_ble_eq_true rfl, Nat.le_of_ble_eq_true rfl⟩)) hP hD hS hA hG hT [1, 2] rfl (by decide +kernel) (fun u6 H locs hw6 hq9 hS => ?_)
    obtain ⟨hq6_0, hq6_1, hq6_2⟩ := hw6
    obtain ⟨hP, hD⟩ := pd9 [zO kk 11 [vR ta, vR kr, vR kl, vI nr, vI nw, vR sA, vR dA, vR pa, vR ki, vR kp, vI im, vR wa, vR or_, vR rq], zO ta 8 [vR tb, vI (u6.2.1 0), vI len, vI at_, vI we, vI fa, vI fp], zI tb (cy 1) 600 (u6.2.2 0)] hq9
    refine lv_aload_n hx hb dX11_feed_54 rfl (lv_at hlv 0 rfl) ?_
    refine va_get (D := D) (ci := 11) (v := vR ta) (C := RX11) (T := TX11) (N := 14) hx hb hts hi11 hown hG.1 hP 0 rfl rfl 0 (by decide) lf10 (fun _ h9 => h9) rfl dX11_feed_55 ?_
    refine va_getN (D := D) (ci := 8) (v := vI (u6.2.1 0)) (C := RX8) (T := TX8) (N := 7) hx hb hts hi8 hown hG.1 hP 1 rfl rfl 1 (by decide) (va_Nw.use rfl (nF_K_81 hG.2.1)) (fun _ h9 => h9) rfl dX11_feed_58 ?_
    refine W.widen (k := 0) (n := 0) (Nat.le_of_ble_eq_true rfl) (Nat.le_of_ble_eq_true rfl) ?_
    exact W.iret (v := iI (u6.2.1 0)) hx hb hr (fun t ht hW => ⟨⟨iI (u6.2.1 0), ((fun k => ([] : List Nat).getD k 0), (fun k => ([(u6.2.1 0), (u6.2.1 0)] : List Int).getD k 0), (fun k => ([(u6.2.2 0)] : List (Nat → Int32)).getD k (fun _ => 0))), rfl, ⟨rfl, (by show ((-1) ≤ (u6.2.1 0) ∧ (u6.2.1 0) ≤ 600); first | exact rgw hq6_0 (by decide) (by decide) | omega), (by show (0 ≤ (u6.2.1 0) ∧ (u6.2.1 0) ≤ 600); first | exact hq6_0 | omega), (by show (fed ≤ 580 → (u6.2.1 0) = fed + 20 ∧ (u6.2.1 0) = fed + 20); omega), (by show (580 < fed → (u6.2.1 0) = -1 ∧ (u6.2.1 0) = fed); omega), (by show (FeC bf ((u6.2.2 0)) fed a_ b_ c_ d_ e_); exact (FeC_5 (by omega) (by omega) (by omega) (by omega) (by omega) hq2_2 hq3_2 hq4_2 hq5_2 hq6_2))⟩, at9 ht hP hD [0, 1, 2] (by decide +kernel) rfl⟩, hS.F ht⟩) hS.2.2 dX11_feed_61
  · refine lv_iconst (v := iI (-1)) hx hb dX11_feed_10 (by decide) ?_
    refine W.widen (k := 0) (n := 0) (Nat.le_of_ble_eq_true rfl) (Nat.le_of_ble_eq_true rfl) ?_
    exact W.iret (v := iI (-1)) hx hb hr (fun t ht hW => ⟨⟨iI (-1), ((fun k => ([] : List Nat).getD k 0), (fun k => ([(-1), fed] : List Int).getD k 0), (fun k => ([bf] : List (Nat → Int32)).getD k (fun _ => 0))), rfl, ⟨rfl, (by show ((-1) ≤ (-1) ∧ (-1) ≤ 600); show ((-1) : Int) ≤ (-1) ∧ ((-1) : Int) ≤ 600; decide), (by show (0 ≤ fed ∧ fed ≤ 600); first | exact hr_fed | omega), (by show (fed ≤ 580 → (-1) = fed + 20 ∧ fed = fed + 20); omega), (by show (580 < fed → (-1) = -1 ∧ fed = fed); omega), (by show (FeC bf (bf) fed a_ b_ c_ d_ e_); exact (FeC_n hn_bb (by omega)))⟩, at9 ht hP hD [0, 2, 1] (by decide +kernel) rfl⟩, hS.F ht⟩) hS.2.2 dX11_feed_11
end
section

def vs_x_feed : List Cond := .code yX12_feed cX12_feed 8 (some .int) :: (([.fieldLink RX12 1 "KerbSplashModel" "thrown" "I", .fieldLink RX12 77 "KerbSplashModel" "taped" "I", .fieldLink RX12 20 "KerbSplashModel" "tape" "[I"] : List Cond) ++ ((wsX120) ++ ([])))
set_option maxHeartbeats 4000000 in
set_option maxRecDepth 100000 in
theorem x_feed (l : Launch) (hl : l.stackTraces = false) (D : va_G) (cy : Nat → ClassId) (sa : Nat → Nat) (mm m1 m9 m10 m11 m12 m13 m14 m15 m19 m20 m21 m23 m24 m25 m26 m27 m28 m33 m35 : Nat) (th tp sz_ ap bad bk opn fp im nr nl sp_ wtc wcl ir ip shu sfa swr : Int) (f9 : Nat → Int32) (a_ b_ c_ d_ e_ : Int) (sz : Nat) (hr_th : (-2147483648) ≤ th ∧ th ≤ 2147483647) (hr_tp : 0 ≤ tp ∧ tp ≤ 600) (hr_sz_ : 0 ≤ sz_ ∧ sz_ ≤ 600) (hr_ap : 0 ≤ ap ∧ ap ≤ 602) (hr_bad : (-1) ≤ bad ∧ bad ≤ 602) (hr_bk : 0 ≤ bk ∧ bk ≤ 4) (hr_opn : 0 ≤ opn ∧ opn ≤ 7) (hr_fp : (-2147483648) ≤ fp ∧ fp ≤ 2147483647) (hr_im : 0 ≤ im ∧ im ≤ 3) (hr_nr : 0 ≤ nr ∧ nr ≤ 4) (hr_nl : 0 ≤ nl ∧ nl ≤ 4) (hr_sp_ : 0 ≤ sp_ ∧ sp_ ≤ 602) (hr_wtc : (-2147483648) ≤ wtc ∧ wtc ≤ 2147483647) (hr_wcl : 0 ≤ wcl ∧ wcl ≤ 95) (hr_ir : 0 ≤ ir ∧ ir ≤ 5) (hr_ip : (-2147483648) ≤ ip ∧ ip ≤ 2147483647) (hr_shu : (-2147483648) ≤ shu ∧ shu ≤ 2147483647) (hr_sfa : (-2147483648) ≤ sfa ∧ sfa ≤ 2147483647) (hr_swr : (-2147483648) ≤ swr ∧ swr ≤ 2147483647) (hr_a_ : (-2147483648) ≤ a_ ∧ a_ ≤ 2147483647) (hr_b_ : (-2147483648) ≤ b_ ∧ b_ ≤ 2147483647) (hr_c_ : (-2147483648) ≤ c_ ∧ c_ ≤ 2147483647) (hr_d_ : (-2147483648) ≤ d_ ∧ d_ ≤ 2147483647) (hr_e_ : (-2147483648) ≤ e_ ∧ e_ ≤ 2147483647) (hf9 : inv_ 600 0 255 f9) : mI9 l yX12_feed vs_x_feed ({ frames := 0, cells := 0, slots := 0, locals := 0 }) D cy sa sz [vR mm, vI a_, vI b_, vI c_, vI d_, vI e_] [zO mm 12 [vI th, vR m1, vI tp, vI sz_, vI ap, vI bad, vI bk, vI opn, vI fp, vR m9, vR m10, vR m11, vR m12, vR m13, vR m14, vR m15, vI im, vI nr, vI nl, vR m19, vR m20, vR m21, vI sp_, vR m23, vR m24, vR m25, vR m26, vR m27, vR m28, vI wtc, vI wcl, vI ir, vI ip, vR m33, vI shu, vR m35, vI sfa, vI swr], zI m9 (cy 0) 600 f9] (fun (r : Int32) (u : SV) => r = iI (u.2.1 0) ∧ (0 ≤ u.2.1 1 ∧ u.2.1 1 ≤ 600) ∧ ((-1) ≤ u.2.1 0 ∧ u.2.1 0 ≤ 600) ∧ (tp ≤ 580 → u.2.1 0 = tp + 20 ∧ u.2.1 1 = tp + 20) ∧ (580 < tp → u.2.1 0 = -1 ∧ u.2.1 1 = tp) ∧ (FeM f9 (u.2.2 0) tp a_ b_ c_ d_ e_) ∧ inv_ 600 0 255 (u.2.2 0)) (fun u : SV => [zO mm 12 [vI 0, vR m1, vI (u.2.1 1), vI sz_, vI ap, vI bad, vI bk, vI opn, vI fp, vR m9, vR m10, vR m11, vR m12, vR m13, vR m14, vR m15, vI im, vI nr, vI nl, vR m19, vR m20, vR m21, vI sp_, vR m23, vR m24, vR m25, vR m26, vR m27, vR m28, vI wtc, vI wcl, vI ir, vI ip, vR m33, vI shu, vR m35, vI sfa, vI swr], zI m9 (cy 0) 600 (u.2.2 0)]) 0 0 := by
  refine Met.ofW (cc := cX12_feed) (maxL := 8) (ret := (some .int)) (by decide) rfl ?_
  intro p e s m args below meth c s₁ B hml hv
  obtain ⟨rfl, hsz, hP, hG, hD0, hT⟩ := hv
  have hx := B.exec
  have hb := B.bytes
  have hr := B.returns
  have hts := atoms_spec (ws := vs_x_feed) B.pre
  have hown : s.vm.findClass RX12 = some m.cls := findClass_of_methodNamed B.named
  have hlocks := B.notSynchronized
  subst hsz
  have hD := hD0.self (sz := s.heap.size)
  generalize hAe : va_A [zO mm 12 [vI th, vR m1, vI tp, vI sz_, vI ap, vI bad, vI bk, vI opn, vI fp, vR m9, vR m10, vR m11, vR m12, vR m13, vR m14, vR m15, vI im, vI nr, vI nl, vR m19, vR m20, vR m21, vI sp_, vR m23, vR m24, vR m25, vR m26, vR m27, vR m28, vI wtc, vI wcl, vI ir, vI ip, vR m33, vI shu, vR m35, vI sfa, vI swr], zI m9 (cy 0) 600 f9] s.heap.size = A at hD hT ⊢
  have hA : ∀ q : Nat, s.heap.size ≤ q → A q := fun q h => by rw [← hAe]; exact Or.inr h
  have hS : va_S A s.heap s.heap [] := va_S.rf
  have hl0 := lv_entry ([vR mm, vI a_, vI b_, vI c_, vI d_, vI e_]) (n := 8) (Nat.le_of_ble_eq_true rfl)
  rw [lg_entry_eq]
  generalize (lg_sl ([vR mm, vI a_, vI b_, vI c_, vI d_, vI e_]) ++ List.replicate (8 - (lg_sl ([vR mm, vI a_, vI b_, vI c_, vI d_, vI e_])).length) Slot.unset).toArray = ls at hl0 ⊢
  have hlv : lv_has ls 8 [(0, vR mm), (1, vI a_), (2, vI b_), (3, vI c_), (4, vI d_), (5, vI e_)] := hl0
  have lf1 := hts (.fieldLink RX12 1 "KerbSplashModel" "thrown" "I") (List.mem_of_getElem? (i := 1) rfl)
  have hi12 : ∀ w ∈ wsX120, w ∈ vs_x_feed := fun w h => List.mem_cons_of_mem _ (List.mem_append_right _ (List.mem_append_left _ h))
  have lf77 := hts (.fieldLink RX12 77 "KerbSplashModel" "taped" "I") (List.mem_of_getElem? (i := 2) rfl)
  have lf20 := hts (.fieldLink RX12 20 "KerbSplashModel" "tape" "[I") (List.mem_of_getElem? (i := 3) rfl)
  refine lv_aload_n hx hb dX12_feed_0 rfl (lv_at hlv 0 rfl) ?_
  refine lv_iconst (v := iI 0) hx hb dX12_feed_1 (by decide) ?_
  refine va_put (D := D) (ci := 12) (v := vI 0) (ty := .int) (C := RX12) (T := TX12) (N := 38) hx hb hts hi12 tyX12 tyX12_ok nmX12 hown hG.1 hP hD hS 0 rfl rfl 0 (by decide) lf1 (fun _ h9 => h9) rfl (by decide +kernel) rfl rfl (Nat.le_of_ble_eq_true rfl) dX12_feed_2 (fun H locs hP hD hS => ?_)
  obtain ⟨hP, hD⟩ := pw9 [zO mm 12 [vI 0, vR m1, vI tp, vI sz_, vI ap, vI bad, vI bk, vI opn, vI fp, vR m9, vR m10, vR m11, vR m12, vR m13, vR m14, vR m15, vI im, vI nr, vI nl, vR m19, vR m20, vR m21, vI sp_, vR m23, vR m24, vR m25, vR m26, vR m27, vR m28, vI wtc, vI wcl, vI ir, vI ip, vR m33, vI shu, vR m35, vI sfa, vI swr], zI m9 (cy 0) 600 f9] hP hD
  refine lv_aload_n hx hb dX12_feed_5 rfl (lv_at hlv 0 rfl) ?_
  refine va_get (D := D) (ci := 12) (v := vI tp) (C := RX12) (T := TX12) (N := 38) hx hb hts hi12 hown hG.1 hP 0 rfl rfl 2 (by decide) lf77 (fun _ h9 => h9) rfl dX12_feed_6 ?_
  refine lv_bipush (v := iI 20) hx hb dX12_feed_9 (by decide) ?_
  refine lv_iadd hx hb dX12_feed_11 ?_
  refine lt_e (e0 := tp + 20) (Int32.ofInt_add _ _).symm (fun z_1 hz_1 => ?_)
  refine lv_sipush (v := iI 600) hx hb dX12_feed_12 (by decide) ?_
  refine ir_le (tgt := 20) hx hb dX12_feed_15 (by decide) (by omega) (by show ((-2147483648) : Int) ≤ 600 ∧ (600 : Int) ≤ 2147483647; decide) (fun c_2 => ?_) (fun c_2 => ?_)
  · refine lv_iconst (v := iI 0) hx hb dX12_feed_20 (by decide) ?_
    refine lv_istore (lv' := [(6, vI 0), (0, vR mm), (1, vI a_), (2, vI b_), (3, vI c_), (4, vI d_), (5, vI e_)]) hx hb dX12_feed_21 hlv (by decide) rfl (fun ls hlv => ?_)
    refine (?_ : ∀ (fu : Nat) (q6 : Int) (qt : Int) (tg : Nat → Int32) (H : Heap) (locs : List Loc) (ls : Array Slot), 20 - q6 < (fu : Int) → (0 ≤ q6 ∧ q6 ≤ 20) → (0 ≤ qt ∧ qt ≤ 600) → (qt = tp + q6) → (FmP f9 tg tp a_ b_ c_ d_ e_ q6) → inv_ 600 0 255 tg → va_P D vwCl [zO mm 12 [vI 0, vR m1, vI qt, vI sz_, vI ap, vI bad, vI bk, vI opn, vI fp, vR m9, vR m10, vR m11, vR m12, vR m13, vR m14, vR m15, vI im, vI nr, vI nl, vR m19, vR m20, vR m21, vI sp_, vR m23, vR m24, vR m25, vR m26, vR m27, vR m28, vI wtc, vI wcl, vI ir, vI ip, vR m33, vI shu, vR m35, vI sfa, vI swr], zI m9 (cy 0) 600 tg] H → va_D A [zO mm 12 [vI 0, vR m1, vI qt, vI sz_, vI ap, vI bad, vI bk, vI opn, vI fp, vR m9, vR m10, vR m11, vR m12, vR m13, vR m14, vR m15, vI im, vI nr, vI nl, vR m19, vR m20, vR m21, vI sp_, vR m23, vR m24, vR m25, vR m26, vR m27, vR m28, vI wtc, vI wcl, vI ir, vI ip, vR m33, vI shu, vR m35, vI sfa, vI swr], zI m9 (cy 0) 600 tg] → va_S A s.heap H locs → lv_has ls 8 [(6, vI q6), (0, vR mm), (1, vI a_), (2, vI b_), (3, vI c_), (4, vI d_), (5, vI e_)] → W p l e _ s m _ below meth c H locs _ _ _ (F0 m 23 ls [])) (((20 - 0) + 1 : Int)).toNat 0 tp f9 _ _ _ (by omega) (by show (0 : Int) ≤ 0 ∧ (0 : Int) ≤ 20; decide) (by first | exact hr_tp | omega) (by omega) FmP_0 hf9 hP hD hS hlv
    clear hP hD hS hlv
    intro fu
    induction fu with
    | zero => intro q6 qt tg H locs ls hm23 hl23_0 hl23_1 hl23_2 hl23_3 hitg hP hD hS hlv; omega
    | succ fu ih23 =>
      intro q6 qt tg H locs ls hm23 hl23_0 hl23_1 hl23_2 hl23_3 hitg hP hD hS hlv
      refine lv_iload hx hb dX12_feed_23 (lv_at hlv 0 rfl) ?_
      refine lv_bipush (v := iI 20) hx hb dX12_feed_25 (by decide) ?_
      refine ir_ge (tgt := 120) hx hb dX12_feed_27 (by decide) (by first | exact rgw hl23_0 (by decide) (by decide) | omega) (by show ((-2147483648) : Int) ≤ 20 ∧ (20 : Int) ≤ 2147483647; decide) (fun c_3 => ?_) (fun c_3 => ?_)
      · refine lv_aload_n hx hb dX12_feed_120 rfl (lv_at hlv 1 rfl) ?_
        refine va_get (D := D) (ci := 12) (v := vI qt) (C := RX12) (T := TX12) (N := 38) hx hb hts hi12 hown hG.1 hP 0 rfl rfl 2 (by decide) lf77 (fun _ h9 => h9) rfl dX12_feed_121 ?_
        refine W.widen (k := 0) (n := 0) (Nat.le_of_ble_eq_true rfl) (Nat.le_of_ble_eq_true rfl) ?_
        exact W.iret (v := iI qt) hx hb hr (fun t ht hW => ⟨⟨iI qt, ((fun k => ([] : List Nat).getD k 0), (fun k => ([qt, qt] : List Int).getD k 0), (fun k => ([tg] : List (Nat → Int32)).getD k (fun _ => 0))), rfl, ⟨rfl, (by show (0 ≤ qt ∧ qt ≤ 600); first | exact hl23_1 | omega), (by show ((-1) ≤ qt ∧ qt ≤ 600); first | exact rgw hl23_1 (by decide) (by decide) | omega), (by show (tp ≤ 580 → qt = tp + 20 ∧ qt = tp + 20); omega), (by show (580 < tp → qt = -1 ∧ qt = tp); omega), (by show (FeM f9 (tg) tp a_ b_ c_ d_ e_); exact (FeM_e hl23_3 (by omega) (by omega))), hitg⟩, at9 ht hP hD [0, 1] (by decide +kernel) rfl⟩, hS.F ht⟩) hS.2.2 dX12_feed_124
      · refine lv_iload hx hb dX12_feed_30 (lv_at hlv 0 rfl) ?_
        refine lv_iconst (v := iI 4) hx hb dX12_feed_32 (by decide) ?_
        refine ir_ge (tgt := 40) hx hb dX12_feed_33 (by decide) (by first | exact rgw hl23_0 (by decide) (by decide) | omega) (by show ((-2147483648) : Int) ≤ 4 ∧ (4 : Int) ≤ 2147483647; decide) (fun c_4 => ?_) (fun c_4 => ?_)
        · refine lv_iload hx hb dX12_feed_40 (lv_at hlv 0 rfl) ?_
          refine lv_bipush (v := iI 8) hx hb dX12_feed_42 (by decide) ?_
          refine ir_ge (tgt := 51) hx hb dX12_feed_44 (by decide) (by first | exact rgw hl23_0 (by decide) (by decide) | omega) (by show ((-2147483648) : Int) ≤ 8 ∧ (8 : Int) ≤ 2147483647; decide) (fun c_5 => ?_) (fun c_5 => ?_)
          · refine lv_iload hx hb dX12_feed_51 (lv_at hlv 0 rfl) ?_
            refine lv_bipush (v := iI 12) hx hb dX12_feed_53 (by decide) ?_
            refine ir_ge (tgt := 62) hx hb dX12_feed_55 (by decide) (by first | exact rgw hl23_0 (by decide) (by decide) | omega) (by show ((-2147483648) : Int) ≤ 12 ∧ (12 : Int) ≤ 2147483647; decide) (fun c_6 => ?_) (fun c_6 => ?_)
            · refine lv_iload hx hb dX12_feed_62 (lv_at hlv 0 rfl) ?_
              refine lv_bipush (v := iI 16) hx hb dX12_feed_64 (by decide) ?_
              refine ir_ge (tgt := 74) hx hb dX12_feed_66 (by decide) (by first | exact rgw hl23_0 (by decide) (by decide) | omega) (by show ((-2147483648) : Int) ≤ 16 ∧ (16 : Int) ≤ 2147483647; decide) (fun c_7 => ?_) (fun c_7 => ?_)
              · refine lv_iload hx hb dX12_feed_74 (lv_at hlv 6 rfl) ?_
                refine lv_istore (lv' := [(7, vI e_), (6, vI q6), (0, vR mm), (1, vI a_), (2, vI b_), (3, vI c_), (4, vI d_), (5, vI e_)]) hx hb dX12_feed_76 hlv (by decide) rfl (fun ls hlv => ?_)
                refine lv_aload_n hx hb dX12_feed_78 rfl (lv_at hlv 2 rfl) ?_
                refine va_get (D := D) (ci := 12) (v := vR m9) (C := RX12) (T := TX12) (N := 38) hx hb hts hi12 hown hG.1 hP 0 rfl rfl 9 (by decide) lf20 (fun _ h9 => h9) rfl dX12_feed_79 ?_
                refine lv_aload_n hx hb dX12_feed_82 rfl (lv_at hlv 2 rfl) ?_
                refine va_get (D := D) (ci := 12) (v := vI qt) (C := RX12) (T := TX12) (N := 38) hx hb hts hi12 hown hG.1 hP 0 rfl rfl 2 (by decide) lf77 (fun _ h9 => h9) rfl dX12_feed_83 ?_
                refine lv_iload hx hb dX12_feed_86 (lv_at hlv 0 rfl) ?_
                refine lv_bipush (v := iI 24) hx hb dX12_feed_88 (by decide) ?_
                refine lv_bipush (v := iI 8) hx hb dX12_feed_90 (by decide) ?_
                refine lv_iload hx hb dX12_feed_92 (lv_at hlv 1 rfl) ?_
                refine lv_iconst (v := iI 4) hx hb dX12_feed_94 (by decide) ?_
                refine lv_irem hx hb dX12_feed_95 (fun q => absurd ((iI_eq (a := 4) (b := 0) (by omega) (by omega)).mp q) (by omega)) ?_
                refine lt_z (fun z_8 ez_8 lz_8 hz_8 => ?_)
                refine lv_imul hx hb dX12_feed_96 ?_
                refine lt_z (fun z_9 ez_9 lz_9 hz_9 => ?_)
                refine lv_isub hx hb dX12_feed_97 ?_
                refine lt_z (fun z_10 ez_10 lz_10 hz_10 => ?_)
                refine lv_ishr hx hb dX12_feed_98 ?_
                refine lt_z (fun z_11 ez_11 lz_11 hz_11 => ?_)
                refine lv_sipush (v := iI 255) hx hb dX12_feed_99 (by decide) ?_
                refine lv_iand hx hb dX12_feed_102 ?_
                refine lt_aE 8 (by decide) (by decide) (hi := 255) (by decide) (fun z_12 ez_12 lz_12 hz_12 => ?_)
                refine va_iast hx hb hG.1 hP hD hS 1 0 rfl rfl (iI_in (by omega) (by decide)) dX12_feed_103 (fun H locs hP hD hS => ?_)
                obtain ⟨f_13, hdf_13, hP, hD⟩ := pe9e (fun f_13 => [zO mm 12 [vI 0, vR m1, vI qt, vI sz_, vI ap, vI bad, vI bk, vI opn, vI fp, vR m9, vR m10, vR m11, vR m12, vR m13, vR m14, vR m15, vI im, vI nr, vI nl, vR m19, vR m20, vR m21, vI sp_, vR m23, vR m24, vR m25, vR m26, vR m27, vR m28, vI wtc, vI wcl, vI ir, vI ip, vR m33, vI shu, vR m35, vI sfa, vI swr], zI m9 (cy 0) 600 f_13]) (upd tg (iI qt).toNatClampNeg (iI z_12)) hP hD
                have hif_13 : inv_ 600 0 255 f_13 := by rw [hdf_13]; exact inv_wr hitg (by omega)
                refine lv_aload_n hx hb dX12_feed_104 rfl (lv_at hlv 2 rfl) ?_
                refine lv_dup hx hb dX12_feed_105 rfl ?_
                refine va_get (D := D) (ci := 12) (v := vI qt) (C := RX12) (T := TX12) (N := 38) hx hb hts hi12 hown hG.1 hP 0 rfl rfl 2 (by decide) lf77 (fun _ h9 => h9) rfl dX12_feed_106 ?_
                refine lv_iconst (v := iI 1) hx hb dX12_feed_109 (by decide) ?_
                refine lv_iadd hx hb dX12_feed_110 ?_
                refine lt_e (e0 := qt + 1) (Int32.ofInt_add _ _).symm (fun z_14 hz_14 => ?_)
                refine va_put (D := D) (ci := 12) (v := vI z_14) (ty := .int) (C := RX12) (T := TX12) (N := 38) hx hb hts hi12 tyX12 tyX12_ok nmX12 hown hG.1 hP hD hS 0 rfl rfl 2 (by decide) lf77 (fun _ h9 => h9) rfl (by decide +kernel) rfl rfl (Nat.le_of_ble_eq_true rfl) dX12_feed_111 (fun H locs hP hD hS => ?_)
                obtain ⟨hP, hD⟩ := pw9 [zO mm 12 [vI 0, vR m1, vI z_14, vI sz_, vI ap, vI bad, vI bk, vI opn, vI fp, vR m9, vR m10, vR m11, vR m12, vR m13, vR m14, vR m15, vI im, vI nr, vI nl, vR m19, vR m20, vR m21, vI sp_, vR m23, vR m24, vR m25, vR m26, vR m27, vR m28, vI wtc, vI wcl, vI ir, vI ip, vR m33, vI shu, vR m35, vI sfa, vI swr], zI m9 (cy 0) 600 f_13] hP hD
                obtain ⟨z_15, hz_15⟩ : ∃ z : Int, z = q6 + 1 := ⟨_, rfl⟩
                refine lv_iinc (v := iI z_15) (lv' := [(6, vI z_15), (7, vI e_), (0, vR mm), (1, vI a_), (2, vI b_), (3, vI c_), (4, vI d_), (5, vI e_)]) hx hb dX12_feed_114 hlv (k := 1) rfl (by rw [hz_15]; exact (Int32.ofInt_add _ _).symm) (by decide) rfl (fun ls hlv => ?_)
                refine lv_goto (tgt := 23) hx hb dX12_feed_117 (by decide) ?_
                exact ih23 z_15 z_14 f_13 H locs ls (by omega) (by omega) (by omega) (by omega) (FmP_s hl23_3 (by omega) (by omega) (x := qt) (z := z_12) (by omega) (by omega) (by omega) hdf_13 ((fdq (by omega) (v := e_) (by omega) (by omega) (by omega) (by omega) (by omega) (by omega) (by decide) ez_8 ez_9 ez_10 ez_11 ez_12).trans (FD_q (by omega) (by omega)).symm) (by omega)) hif_13 (hP.sub [0, 1] rfl) (hD.sub [0, 1] (by decide) rfl) hS (lv_sub hlv [0, 2, 3, 4, 5, 6, 7] rfl)
              · refine lv_iload hx hb dX12_feed_69 (lv_at hlv 5 rfl) ?_
                refine lv_goto (tgt := 76) hx hb dX12_feed_71 (by decide) ?_
                refine lv_istore (lv' := [(7, vI d_), (6, vI q6), (0, vR mm), (1, vI a_), (2, vI b_), (3, vI c_), (4, vI d_), (5, vI e_)]) hx hb dX12_feed_76 hlv (by decide) rfl (fun ls hlv => ?_)
                refine lv_aload_n hx hb dX12_feed_78 rfl (lv_at hlv 2 rfl) ?_
                refine va_get (D := D) (ci := 12) (v := vR m9) (C := RX12) (T := TX12) (N := 38) hx hb hts hi12 hown hG.1 hP 0 rfl rfl 9 (by decide) lf20 (fun _ h9 => h9) rfl dX12_feed_79 ?_
                refine lv_aload_n hx hb dX12_feed_82 rfl (lv_at hlv 2 rfl) ?_
                refine va_get (D := D) (ci := 12) (v := vI qt) (C := RX12) (T := TX12) (N := 38) hx hb hts hi12 hown hG.1 hP 0 rfl rfl 2 (by decide) lf77 (fun _ h9 => h9) rfl dX12_feed_83 ?_
                refine lv_iload hx hb dX12_feed_86 (lv_at hlv 0 rfl) ?_
                refine lv_bipush (v := iI 24) hx hb dX12_feed_88 (by decide) ?_
                refine lv_bipush (v := iI 8) hx hb dX12_feed_90 (by decide) ?_
                refine lv_iload hx hb dX12_feed_92 (lv_at hlv 1 rfl) ?_
                refine lv_iconst (v := iI 4) hx hb dX12_feed_94 (by decide) ?_
                refine lv_irem hx hb dX12_feed_95 (fun q => absurd ((iI_eq (a := 4) (b := 0) (by omega) (by omega)).mp q) (by omega)) ?_
                refine lt_z (fun z_16 ez_16 lz_16 hz_16 => ?_)
                refine lv_imul hx hb dX12_feed_96 ?_
                refine lt_z (fun z_17 ez_17 lz_17 hz_17 => ?_)
                refine lv_isub hx hb dX12_feed_97 ?_
                refine lt_z (fun z_18 ez_18 lz_18 hz_18 => ?_)
                refine lv_ishr hx hb dX12_feed_98 ?_
                refine lt_z (fun z_19 ez_19 lz_19 hz_19 => ?_)
                refine lv_sipush (v := iI 255) hx hb dX12_feed_99 (by decide) ?_
                refine lv_iand hx hb dX12_feed_102 ?_
                refine lt_aE 8 (by decide) (by decide) (hi := 255) (by decide) (fun z_20 ez_20 lz_20 hz_20 => ?_)
                refine va_iast hx hb hG.1 hP hD hS 1 0 rfl rfl (iI_in (by omega) (by decide)) dX12_feed_103 (fun H locs hP hD hS => ?_)
                obtain ⟨f_21, hdf_21, hP, hD⟩ := pe9e (fun f_21 => [zO mm 12 [vI 0, vR m1, vI qt, vI sz_, vI ap, vI bad, vI bk, vI opn, vI fp, vR m9, vR m10, vR m11, vR m12, vR m13, vR m14, vR m15, vI im, vI nr, vI nl, vR m19, vR m20, vR m21, vI sp_, vR m23, vR m24, vR m25, vR m26, vR m27, vR m28, vI wtc, vI wcl, vI ir, vI ip, vR m33, vI shu, vR m35, vI sfa, vI swr], zI m9 (cy 0) 600 f_21]) (upd tg (iI qt).toNatClampNeg (iI z_20)) hP hD
                have hif_21 : inv_ 600 0 255 f_21 := by rw [hdf_21]; exact inv_wr hitg (by omega)
                refine lv_aload_n hx hb dX12_feed_104 rfl (lv_at hlv 2 rfl) ?_
                refine lv_dup hx hb dX12_feed_105 rfl ?_
                refine va_get (D := D) (ci := 12) (v := vI qt) (C := RX12) (T := TX12) (N := 38) hx hb hts hi12 hown hG.1 hP 0 rfl rfl 2 (by decide) lf77 (fun _ h9 => h9) rfl dX12_feed_106 ?_
                refine lv_iconst (v := iI 1) hx hb dX12_feed_109 (by decide) ?_
                refine lv_iadd hx hb dX12_feed_110 ?_
                refine lt_e (e0 := qt + 1) (Int32.ofInt_add _ _).symm (fun z_22 hz_22 => ?_)
                refine va_put (D := D) (ci := 12) (v := vI z_22) (ty := .int) (C := RX12) (T := TX12) (N := 38) hx hb hts hi12 tyX12 tyX12_ok nmX12 hown hG.1 hP hD hS 0 rfl rfl 2 (by decide) lf77 (fun _ h9 => h9) rfl (by decide +kernel) rfl rfl (Nat.le_of_ble_eq_true rfl) dX12_feed_111 (fun H locs hP hD hS => ?_)
                obtain ⟨hP, hD⟩ := pw9 [zO mm 12 [vI 0, vR m1, vI z_22, vI sz_, vI ap, vI bad, vI bk, vI opn, vI fp, vR m9, vR m10, vR m11, vR m12, vR m13, vR m14, vR m15, vI im, vI nr, vI nl, vR m19, vR m20, vR m21, vI sp_, vR m23, vR m24, vR m25, vR m26, vR m27, vR m28, vI wtc, vI wcl, vI ir, vI ip, vR m33, vI shu, vR m35, vI sfa, vI swr], zI m9 (cy 0) 600 f_21] hP hD
                obtain ⟨z_23, hz_23⟩ : ∃ z : Int, z = q6 + 1 := ⟨_, rfl⟩
                refine lv_iinc (v := iI z_23) (lv' := [(6, vI z_23), (7, vI d_), (0, vR mm), (1, vI a_), (2, vI b_), (3, vI c_), (4, vI d_), (5, vI e_)]) hx hb dX12_feed_114 hlv (k := 1) rfl (by rw [hz_23]; exact (Int32.ofInt_add _ _).symm) (by decide) rfl (fun ls hlv => ?_)
                refine lv_goto (tgt := 23) hx hb dX12_feed_117 (by decide) ?_
                exact ih23 z_23 z_22 f_21 H locs ls (by omega) (by omega) (by omega) (by omega) (FmP_s hl23_3 (by omega) (by omega) (x := qt) (z := z_20) (by omega) (by omega) (by omega) hdf_21 ((fdq (by omega) (v := d_) (by omega) (by omega) (by omega) (by omega) (by omega) (by omega) (by decide) ez_16 ez_17 ez_18 ez_19 ez_20).trans (FD_q (by omega) (by omega)).symm) (by omega)) hif_21 (hP.sub [0, 1] rfl) (hD.sub [0, 1] (by decide) rfl) hS (lv_sub hlv [0, 2, 3, 4, 5, 6, 7] rfl)
            · refine lv_iload_n hx hb dX12_feed_58 rfl (lv_at hlv 4 rfl) ?_
              refine lv_goto (tgt := 76) hx hb dX12_feed_59 (by decide) ?_
              refine lv_istore (lv' := [(7, vI c_), (6, vI q6), (0, vR mm), (1, vI a_), (2, vI b_), (3, vI c_), (4, vI d_), (5, vI e_)]) hx hb dX12_feed_76 hlv (by decide) rfl (fun ls hlv => ?_)
              refine lv_aload_n hx hb dX12_feed_78 rfl (lv_at hlv 2 rfl) ?_
              refine va_get (D := D) (ci := 12) (v := vR m9) (C := RX12) (T := TX12) (N := 38) hx hb hts hi12 hown hG.1 hP 0 rfl rfl 9 (by decide) lf20 (fun _ h9 => h9) rfl dX12_feed_79 ?_
              refine lv_aload_n hx hb dX12_feed_82 rfl (lv_at hlv 2 rfl) ?_
              refine va_get (D := D) (ci := 12) (v := vI qt) (C := RX12) (T := TX12) (N := 38) hx hb hts hi12 hown hG.1 hP 0 rfl rfl 2 (by decide) lf77 (fun _ h9 => h9) rfl dX12_feed_83 ?_
              refine lv_iload hx hb dX12_feed_86 (lv_at hlv 0 rfl) ?_
              refine lv_bipush (v := iI 24) hx hb dX12_feed_88 (by decide) ?_
              refine lv_bipush (v := iI 8) hx hb dX12_feed_90 (by decide) ?_
              refine lv_iload hx hb dX12_feed_92 (lv_at hlv 1 rfl) ?_
              refine lv_iconst (v := iI 4) hx hb dX12_feed_94 (by decide) ?_
              refine lv_irem hx hb dX12_feed_95 (fun q => absurd ((iI_eq (a := 4) (b := 0) (by omega) (by omega)).mp q) (by omega)) ?_
              refine lt_z (fun z_24 ez_24 lz_24 hz_24 => ?_)
              refine lv_imul hx hb dX12_feed_96 ?_
              refine lt_z (fun z_25 ez_25 lz_25 hz_25 => ?_)
              refine lv_isub hx hb dX12_feed_97 ?_
              refine lt_z (fun z_26 ez_26 lz_26 hz_26 => ?_)
              refine lv_ishr hx hb dX12_feed_98 ?_
              refine lt_z (fun z_27 ez_27 lz_27 hz_27 => ?_)
              refine lv_sipush (v := iI 255) hx hb dX12_feed_99 (by decide) ?_
              refine lv_iand hx hb dX12_feed_102 ?_
              refine lt_aE 8 (by decide) (by decide) (hi := 255) (by decide) (fun z_28 ez_28 lz_28 hz_28 => ?_)
              refine va_iast hx hb hG.1 hP hD hS 1 0 rfl rfl (iI_in (by omega) (by decide)) dX12_feed_103 (fun H locs hP hD hS => ?_)
              obtain ⟨f_29, hdf_29, hP, hD⟩ := pe9e (fun f_29 => [zO mm 12 [vI 0, vR m1, vI qt, vI sz_, vI ap, vI bad, vI bk, vI opn, vI fp, vR m9, vR m10, vR m11, vR m12, vR m13, vR m14, vR m15, vI im, vI nr, vI nl, vR m19, vR m20, vR m21, vI sp_, vR m23, vR m24, vR m25, vR m26, vR m27, vR m28, vI wtc, vI wcl, vI ir, vI ip, vR m33, vI shu, vR m35, vI sfa, vI swr], zI m9 (cy 0) 600 f_29]) (upd tg (iI qt).toNatClampNeg (iI z_28)) hP hD
              have hif_29 : inv_ 600 0 255 f_29 := by rw [hdf_29]; exact inv_wr hitg (by omega)
              refine lv_aload_n hx hb dX12_feed_104 rfl (lv_at hlv 2 rfl) ?_
              refine lv_dup hx hb dX12_feed_105 rfl ?_
              refine va_get (D := D) (ci := 12) (v := vI qt) (C := RX12) (T := TX12) (N := 38) hx hb hts hi12 hown hG.1 hP 0 rfl rfl 2 (by decide) lf77 (fun _ h9 => h9) rfl dX12_feed_106 ?_
              refine lv_iconst (v := iI 1) hx hb dX12_feed_109 (by decide) ?_
              refine lv_iadd hx hb dX12_feed_110 ?_
              refine lt_e (e0 := qt + 1) (Int32.ofInt_add _ _).symm (fun z_30 hz_30 => ?_)
              refine va_put (D := D) (ci := 12) (v := vI z_30) (ty := .int) (C := RX12) (T := TX12) (N := 38) hx hb hts hi12 tyX12 tyX12_ok nmX12 hown hG.1 hP hD hS 0 rfl rfl 2 (by decide) lf77 (fun _ h9 => h9) rfl (by decide +kernel) rfl rfl (Nat.le_of_ble_eq_true rfl) dX12_feed_111 (fun H locs hP hD hS => ?_)
              obtain ⟨hP, hD⟩ := pw9 [zO mm 12 [vI 0, vR m1, vI z_30, vI sz_, vI ap, vI bad, vI bk, vI opn, vI fp, vR m9, vR m10, vR m11, vR m12, vR m13, vR m14, vR m15, vI im, vI nr, vI nl, vR m19, vR m20, vR m21, vI sp_, vR m23, vR m24, vR m25, vR m26, vR m27, vR m28, vI wtc, vI wcl, vI ir, vI ip, vR m33, vI shu, vR m35, vI sfa, vI swr], zI m9 (cy 0) 600 f_29] hP hD
              obtain ⟨z_31, hz_31⟩ : ∃ z : Int, z = q6 + 1 := ⟨_, rfl⟩
              refine lv_iinc (v := iI z_31) (lv' := [(6, vI z_31), (7, vI c_), (0, vR mm), (1, vI a_), (2, vI b_), (3, vI c_), (4, vI d_), (5, vI e_)]) hx hb dX12_feed_114 hlv (k := 1) rfl (by rw [hz_31]; exact (Int32.ofInt_add _ _).symm) (by decide) rfl (fun ls hlv => ?_)
              refine lv_goto (tgt := 23) hx hb dX12_feed_117 (by decide) ?_
              exact ih23 z_31 z_30 f_29 H locs ls (by omega) (by omega) (by omega) (by omega) (FmP_s hl23_3 (by omega) (by omega) (x := qt) (z := z_28) (by omega) (by omega) (by omega) hdf_29 ((fdq (by omega) (v := c_) (by omega) (by omega) (by omega) (by omega) (by omega) (by omega) (by decide) ez_24 ez_25 ez_26 ez_27 ez_28).trans (FD_q (by omega) (by omega)).symm) (by omega)) hif_29 (hP.sub [0, 1] rfl) (hD.sub [0, 1] (by decide) rfl) hS (lv_sub hlv [0, 2, 3, 4, 5, 6, 7] rfl)
          · refine lv_iload_n hx hb dX12_feed_47 rfl (lv_at hlv 3 rfl) ?_
            refine lv_goto (tgt := 76) hx hb dX12_feed_48 (by decide) ?_
            refine lv_istore (lv' := [(7, vI b_), (6, vI q6), (0, vR mm), (1, vI a_), (2, vI b_), (3, vI c_), (4, vI d_), (5, vI e_)]) hx hb dX12_feed_76 hlv (by decide) rfl (fun ls hlv => ?_)
            refine lv_aload_n hx hb dX12_feed_78 rfl (lv_at hlv 2 rfl) ?_
            refine va_get (D := D) (ci := 12) (v := vR m9) (C := RX12) (T := TX12) (N := 38) hx hb hts hi12 hown hG.1 hP 0 rfl rfl 9 (by decide) lf20 (fun _ h9 => h9) rfl dX12_feed_79 ?_
            refine lv_aload_n hx hb dX12_feed_82 rfl (lv_at hlv 2 rfl) ?_
            refine va_get (D := D) (ci := 12) (v := vI qt) (C := RX12) (T := TX12) (N := 38) hx hb hts hi12 hown hG.1 hP 0 rfl rfl 2 (by decide) lf77 (fun _ h9 => h9) rfl dX12_feed_83 ?_
            refine lv_iload hx hb dX12_feed_86 (lv_at hlv 0 rfl) ?_
            refine lv_bipush (v := iI 24) hx hb dX12_feed_88 (by decide) ?_
            refine lv_bipush (v := iI 8) hx hb dX12_feed_90 (by decide) ?_
            refine lv_iload hx hb dX12_feed_92 (lv_at hlv 1 rfl) ?_
            refine lv_iconst (v := iI 4) hx hb dX12_feed_94 (by decide) ?_
            refine lv_irem hx hb dX12_feed_95 (fun q => absurd ((iI_eq (a := 4) (b := 0) (by omega) (by omega)).mp q) (by omega)) ?_
            refine lt_z (fun z_32 ez_32 lz_32 hz_32 => ?_)
            refine lv_imul hx hb dX12_feed_96 ?_
            refine lt_z (fun z_33 ez_33 lz_33 hz_33 => ?_)
            refine lv_isub hx hb dX12_feed_97 ?_
            refine lt_z (fun z_34 ez_34 lz_34 hz_34 => ?_)
            refine lv_ishr hx hb dX12_feed_98 ?_
            refine lt_z (fun z_35 ez_35 lz_35 hz_35 => ?_)
            refine lv_sipush (v := iI 255) hx hb dX12_feed_99 (by decide) ?_
            refine lv_iand hx hb dX12_feed_102 ?_
            refine lt_aE 8 (by decide) (by decide) (hi := 255) (by decide) (fun z_36 ez_36 lz_36 hz_36 => ?_)
            refine va_iast hx hb hG.1 hP hD hS 1 0 rfl rfl (iI_in (by omega) (by decide)) dX12_feed_103 (fun H locs hP hD hS => ?_)
            obtain ⟨f_37, hdf_37, hP, hD⟩ := pe9e (fun f_37 => [zO mm 12 [vI 0, vR m1, vI qt, vI sz_, vI ap, vI bad, vI bk, vI opn, vI fp, vR m9, vR m10, vR m11, vR m12, vR m13, vR m14, vR m15, vI im, vI nr, vI nl, vR m19, vR m20, vR m21, vI sp_, vR m23, vR m24, vR m25, vR m26, vR m27, vR m28, vI wtc, vI wcl, vI ir, vI ip, vR m33, vI shu, vR m35, vI sfa, vI swr], zI m9 (cy 0) 600 f_37]) (upd tg (iI qt).toNatClampNeg (iI z_36)) hP hD
            have hif_37 : inv_ 600 0 255 f_37 := by rw [hdf_37]; exact inv_wr hitg (by omega)
            refine lv_aload_n hx hb dX12_feed_104 rfl (lv_at hlv 2 rfl) ?_
            refine lv_dup hx hb dX12_feed_105 rfl ?_
            refine va_get (D := D) (ci := 12) (v := vI qt) (C := RX12) (T := TX12) (N := 38) hx hb hts hi12 hown hG.1 hP 0 rfl rfl 2 (by decide) lf77 (fun _ h9 => h9) rfl dX12_feed_106 ?_
            refine lv_iconst (v := iI 1) hx hb dX12_feed_109 (by decide) ?_
            refine lv_iadd hx hb dX12_feed_110 ?_
            refine lt_e (e0 := qt + 1) (Int32.ofInt_add _ _).symm (fun z_38 hz_38 => ?_)
            refine va_put (D := D) (ci := 12) (v := vI z_38) (ty := .int) (C := RX12) (T := TX12) (N := 38) hx hb hts hi12 tyX12 tyX12_ok nmX12 hown hG.1 hP hD hS 0 rfl rfl 2 (by decide) lf77 (fun _ h9 => h9) rfl (by decide +kernel) rfl rfl (Nat.le_of_ble_eq_true rfl) dX12_feed_111 (fun H locs hP hD hS => ?_)
            obtain ⟨hP, hD⟩ := pw9 [zO mm 12 [vI 0, vR m1, vI z_38, vI sz_, vI ap, vI bad, vI bk, vI opn, vI fp, vR m9, vR m10, vR m11, vR m12, vR m13, vR m14, vR m15, vI im, vI nr, vI nl, vR m19, vR m20, vR m21, vI sp_, vR m23, vR m24, vR m25, vR m26, vR m27, vR m28, vI wtc, vI wcl, vI ir, vI ip, vR m33, vI shu, vR m35, vI sfa, vI swr], zI m9 (cy 0) 600 f_37] hP hD
            obtain ⟨z_39, hz_39⟩ : ∃ z : Int, z = q6 + 1 := ⟨_, rfl⟩
            refine lv_iinc (v := iI z_39) (lv' := [(6, vI z_39), (7, vI b_), (0, vR mm), (1, vI a_), (2, vI b_), (3, vI c_), (4, vI d_), (5, vI e_)]) hx hb dX12_feed_114 hlv (k := 1) rfl (by rw [hz_39]; exact (Int32.ofInt_add _ _).symm) (by decide) rfl (fun ls hlv => ?_)
            refine lv_goto (tgt := 23) hx hb dX12_feed_117 (by decide) ?_
            exact ih23 z_39 z_38 f_37 H locs ls (by omega) (by omega) (by omega) (by omega) (FmP_s hl23_3 (by omega) (by omega) (x := qt) (z := z_36) (by omega) (by omega) (by omega) hdf_37 ((fdq (by omega) (v := b_) (by omega) (by omega) (by omega) (by omega) (by omega) (by omega) (by decide) ez_32 ez_33 ez_34 ez_35 ez_36).trans (FD_q (by omega) (by omega)).symm) (by omega)) hif_37 (hP.sub [0, 1] rfl) (hD.sub [0, 1] (by decide) rfl) hS (lv_sub hlv [0, 2, 3, 4, 5, 6, 7] rfl)
        · refine lv_iload_n hx hb dX12_feed_36 rfl (lv_at hlv 2 rfl) ?_
          refine lv_goto (tgt := 76) hx hb dX12_feed_37 (by decide) ?_
          refine lv_istore (lv' := [(7, vI a_), (6, vI q6), (0, vR mm), (1, vI a_), (2, vI b_), (3, vI c_), (4, vI d_), (5, vI e_)]) hx hb dX12_feed_76 hlv (by decide) rfl (fun ls hlv => ?_)
          refine lv_aload_n hx hb dX12_feed_78 rfl (lv_at hlv 2 rfl) ?_
          refine va_get (D := D) (ci := 12) (v := vR m9) (C := RX12) (T := TX12) (N := 38) hx hb hts hi12 hown hG.1 hP 0 rfl rfl 9 (by decide) lf20 (fun _ h9 => h9) rfl dX12_feed_79 ?_
          refine lv_aload_n hx hb dX12_feed_82 rfl (lv_at hlv 2 rfl) ?_
          refine va_get (D := D) (ci := 12) (v := vI qt) (C := RX12) (T := TX12) (N := 38) hx hb hts hi12 hown hG.1 hP 0 rfl rfl 2 (by decide) lf77 (fun _ h9 => h9) rfl dX12_feed_83 ?_
          refine lv_iload hx hb dX12_feed_86 (lv_at hlv 0 rfl) ?_
          refine lv_bipush (v := iI 24) hx hb dX12_feed_88 (by decide) ?_
          refine lv_bipush (v := iI 8) hx hb dX12_feed_90 (by decide) ?_
          refine lv_iload hx hb dX12_feed_92 (lv_at hlv 1 rfl) ?_
          refine lv_iconst (v := iI 4) hx hb dX12_feed_94 (by decide) ?_
          refine lv_irem hx hb dX12_feed_95 (fun q => absurd ((iI_eq (a := 4) (b := 0) (by omega) (by omega)).mp q) (by omega)) ?_
          refine lt_z (fun z_40 ez_40 lz_40 hz_40 => ?_)
          refine lv_imul hx hb dX12_feed_96 ?_
          refine lt_z (fun z_41 ez_41 lz_41 hz_41 => ?_)
          refine lv_isub hx hb dX12_feed_97 ?_
          refine lt_z (fun z_42 ez_42 lz_42 hz_42 => ?_)
          refine lv_ishr hx hb dX12_feed_98 ?_
          refine lt_z (fun z_43 ez_43 lz_43 hz_43 => ?_)
          refine lv_sipush (v := iI 255) hx hb dX12_feed_99 (by decide) ?_
          refine lv_iand hx hb dX12_feed_102 ?_
          refine lt_aE 8 (by decide) (by decide) (hi := 255) (by decide) (fun z_44 ez_44 lz_44 hz_44 => ?_)
          refine va_iast hx hb hG.1 hP hD hS 1 0 rfl rfl (iI_in (by omega) (by decide)) dX12_feed_103 (fun H locs hP hD hS => ?_)
          obtain ⟨f_45, hdf_45, hP, hD⟩ := pe9e (fun f_45 => [zO mm 12 [vI 0, vR m1, vI qt, vI sz_, vI ap, vI bad, vI bk, vI opn, vI fp, vR m9, vR m10, vR m11, vR m12, vR m13, vR m14, vR m15, vI im, vI nr, vI nl, vR m19, vR m20, vR m21, vI sp_, vR m23, vR m24, vR m25, vR m26, vR m27, vR m28, vI wtc, vI wcl, vI ir, vI ip, vR m33, vI shu, vR m35, vI sfa, vI swr], zI m9 (cy 0) 600 f_45]) (upd tg (iI qt).toNatClampNeg (iI z_44)) hP hD
          have hif_45 : inv_ 600 0 255 f_45 := by rw [hdf_45]; exact inv_wr hitg (by omega)
          refine lv_aload_n hx hb dX12_feed_104 rfl (lv_at hlv 2 rfl) ?_
          refine lv_dup hx hb dX12_feed_105 rfl ?_
          refine va_get (D := D) (ci := 12) (v := vI qt) (C := RX12) (T := TX12) (N := 38) hx hb hts hi12 hown hG.1 hP 0 rfl rfl 2 (by decide) lf77 (fun _ h9 => h9) rfl dX12_feed_106 ?_
          refine lv_iconst (v := iI 1) hx hb dX12_feed_109 (by decide) ?_
          refine lv_iadd hx hb dX12_feed_110 ?_
          refine lt_e (e0 := qt + 1) (Int32.ofInt_add _ _).symm (fun z_46 hz_46 => ?_)
          refine va_put (D := D) (ci := 12) (v := vI z_46) (ty := .int) (C := RX12) (T := TX12) (N := 38) hx hb hts hi12 tyX12 tyX12_ok nmX12 hown hG.1 hP hD hS 0 rfl rfl 2 (by decide) lf77 (fun _ h9 => h9) rfl (by decide +kernel) rfl rfl (Nat.le_of_ble_eq_true rfl) dX12_feed_111 (fun H locs hP hD hS => ?_)
          obtain ⟨hP, hD⟩ := pw9 [zO mm 12 [vI 0, vR m1, vI z_46, vI sz_, vI ap, vI bad, vI bk, vI opn, vI fp, vR m9, vR m10, vR m11, vR m12, vR m13, vR m14, vR m15, vI im, vI nr, vI nl, vR m19, vR m20, vR m21, vI sp_, vR m23, vR m24, vR m25, vR m26, vR m27, vR m28, vI wtc, vI wcl, vI ir, vI ip, vR m33, vI shu, vR m35, vI sfa, vI swr], zI m9 (cy 0) 600 f_45] hP hD
          obtain ⟨z_47, hz_47⟩ : ∃ z : Int, z = q6 + 1 := ⟨_, rfl⟩
          refine lv_iinc (v := iI z_47) (lv' := [(6, vI z_47), (7, vI a_), (0, vR mm), (1, vI a_), (2, vI b_), (3, vI c_), (4, vI d_), (5, vI e_)]) hx hb dX12_feed_114 hlv (k := 1) rfl (by rw [hz_47]; exact (Int32.ofInt_add _ _).symm) (by decide) rfl (fun ls hlv => ?_)
          refine lv_goto (tgt := 23) hx hb dX12_feed_117 (by decide) ?_
          exact ih23 z_47 z_46 f_45 H locs ls (by omega) (by omega) (by omega) (by omega) (FmP_s hl23_3 (by omega) (by omega) (x := qt) (z := z_44) (by omega) (by omega) (by omega) hdf_45 ((fdq (by omega) (v := a_) (by omega) (by omega) (by omega) (by omega) (by omega) (by omega) (by decide) ez_40 ez_41 ez_42 ez_43 ez_44).trans (FD_q (by omega) (by omega)).symm) (by omega)) hif_45 (hP.sub [0, 1] rfl) (hD.sub [0, 1] (by decide) rfl) hS (lv_sub hlv [0, 2, 3, 4, 5, 6, 7] rfl)
  · refine lv_iconst (v := iI (-1)) hx hb dX12_feed_18 (by decide) ?_
    refine W.widen (k := 0) (n := 0) (Nat.le_of_ble_eq_true rfl) (Nat.le_of_ble_eq_true rfl) ?_
    exact W.iret (v := iI (-1)) hx hb hr (fun t ht hW => ⟨⟨iI (-1), ((fun k => ([] : List Nat).getD k 0), (fun k => ([(-1), tp] : List Int).getD k 0), (fun k => ([f9] : List (Nat → Int32)).getD k (fun _ => 0))), rfl, ⟨rfl, (by show (0 ≤ tp ∧ tp ≤ 600); first | exact hr_tp | omega), (by show ((-1) ≤ (-1) ∧ (-1) ≤ 600); show ((-1) : Int) ≤ (-1) ∧ ((-1) : Int) ≤ 600; decide), (by show (tp ≤ 580 → (-1) = tp + 20 ∧ tp = tp + 20); omega), (by show (580 < tp → (-1) = -1 ∧ tp = tp); omega), (by show (FeM f9 (f9) tp a_ b_ c_ d_ e_); exact (FeM_n (by omega))), hf9⟩, at9 ht hP hD [0, 1] (by decide +kernel) rfl⟩, hS.F ht⟩) hS.2.2 dX12_feed_19
end
section

def vs_e_cells : List Cond := .code yX6_cells cX6_cells 1 (some .int) :: (([.fieldLink RX6 28 "KerbSplash$Street" "wide" "I", .fieldLink RX6 32 "KerbSplash$Street" "rows" "I"] : List Cond) ++ ((wsX60) ++ ([])))
theorem gd_e_cells : vs_e_cells.all goodWord = true := gd_C (by decide +kernel) (gd_A (by decide +kernel) (gd_A (by decide +kernel) rfl))
set_option maxHeartbeats 4000000 in
set_option maxRecDepth 100000 in
theorem e_cells (l : Launch) (hl : l.stackTraces = false) (D : va_G) (cy : Nat → ClassId) (sa : Nat → Nat) (sA s2 s3 s6 s8 s11 s13 : Nat) (wi ro dr dt pe gu sh wo dn mi fl tk go : Int) (sz : Nat) (hr_wi : 0 ≤ wi ∧ wi ≤ 16) (hr_ro : 0 ≤ ro ∧ ro ≤ 6) (hr_dr : 0 ≤ dr ∧ dr ≤ 14) (hr_dt : 0 ≤ dt ∧ dt ≤ 6) (hr_pe : 0 ≤ pe ∧ pe ≤ 8) (hr_gu : 0 ≤ gu ∧ gu ≤ 20) (hr_sh : 0 ≤ sh ∧ sh ≤ 2) (hr_wo : 0 ≤ wo ∧ wo ≤ 8) (hr_dn : (-2147483648) ≤ dn ∧ dn ≤ 2147483647) (hr_mi : 0 ≤ mi ∧ mi ≤ 600) (hr_fl : (-2147483648) ≤ fl ∧ fl ≤ 2147483647) (hr_tk : (-2147483648) ≤ tk ∧ tk ≤ 2147483647) (hr_go : (-2147483648) ≤ go ∧ go ≤ 2147483647) : mI9 l yX6_cells vs_e_cells ({ frames := 0, cells := 0, slots := 0, locals := 0 }) D cy sa sz [vR sA] [zO sA 6 [vI wi, vI ro, vR s2, vR s3, vI dr, vI dt, vR s6, vI pe, vR s8, vI gu, vI sh, vR s11, vI wo, vR s13, vI dn, vI mi, vI fl, vI tk, vI go]] (fun (r : Int32) (u : SV) => r = iI (u.2.1 0) ∧ (0 ≤ u.2.1 0 ∧ u.2.1 0 ≤ 96) ∧ (u.2.1 0 = wi * ro)) (fun u : SV => [zO sA 6 [vI wi, vI ro, vR s2, vR s3, vI dr, vI dt, vR s6, vI pe, vR s8, vI gu, vI sh, vR s11, vI wo, vR s13, vI dn, vI mi, vI fl, vI tk, vI go]]) 0 0 := by
  refine Met.ofW (cc := cX6_cells) (maxL := 1) (ret := (some .int)) (by decide) rfl ?_
  intro p e s m args below meth c s₁ B hml hv
  obtain ⟨rfl, hsz, hP, hG, hD0, hT⟩ := hv
  have hx := B.exec
  have hb := B.bytes
  have hr := B.returns
  have hts := atoms_spec (ws := vs_e_cells) B.pre
  have hown : s.vm.findClass RX6 = some m.cls := findClass_of_methodNamed B.named
  have hlocks := B.notSynchronized
  subst hsz
  have hD := hD0.self (sz := s.heap.size)
  generalize hAe : va_A [zO sA 6 [vI wi, vI ro, vR s2, vR s3, vI dr, vI dt, vR s6, vI pe, vR s8, vI gu, vI sh, vR s11, vI wo, vR s13, vI dn, vI mi, vI fl, vI tk, vI go]] s.heap.size = A at hD hT ⊢
  have hA : ∀ q : Nat, s.heap.size ≤ q → A q := fun q h => by rw [← hAe]; exact Or.inr h
  have hS : va_S A s.heap s.heap [] := va_S.rf
  have hl0 := lv_entry ([vR sA]) (n := 1) (Nat.le_of_ble_eq_true rfl)
  rw [lg_entry_eq]
  generalize (lg_sl ([vR sA]) ++ List.replicate (1 - (lg_sl ([vR sA])).length) Slot.unset).toArray = ls at hl0 ⊢
  have hlv : lv_has ls 1 [(0, vR sA)] := hl0
  have lf28 := hts (.fieldLink RX6 28 "KerbSplash$Street" "wide" "I") (List.mem_of_getElem? (i := 1) rfl)
  have hi6 : ∀ w ∈ wsX60, w ∈ vs_e_cells := fun w h => List.mem_cons_of_mem _ (List.mem_append_right _ (List.mem_append_left _ h))
  have lf32 := hts (.fieldLink RX6 32 "KerbSplash$Street" "rows" "I") (List.mem_of_getElem? (i := 2) rfl)
  refine lv_aload_n hx hb dX6_cells_0 rfl (lv_at hlv 0 rfl) ?_
  refine va_get (D := D) (ci := 6) (v := vI wi) (C := RX6) (T := TX6) (N := 19) hx hb hts hi6 hown hG.1 hP 0 rfl rfl 0 (by decide) lf28 (fun _ h9 => h9) rfl dX6_cells_1 ?_
  refine lv_aload_n hx hb dX6_cells_4 rfl (lv_at hlv 0 rfl) ?_
  refine va_get (D := D) (ci := 6) (v := vI ro) (C := RX6) (T := TX6) (N := 19) hx hb hts hi6 hown hG.1 hP 0 rfl rfl 1 (by decide) lf32 (fun _ h9 => h9) rfl dX6_cells_5 ?_
  refine lv_imul hx hb dX6_cells_8 ?_
  refine lt_e (e0 := wi * ro) (Int32.ofInt_mul _ _).symm (fun z_1 hz_1 => ?_)
  have bz_1 : 0 ≤ z_1 ∧ z_1 ≤ 96 := by rw [hz_1]; exact mul_bd (x := 16) (y := 6) (by omega) (by omega) (by decide)
  refine W.widen (k := 0) (n := 0) (Nat.le_of_ble_eq_true rfl) (Nat.le_of_ble_eq_true rfl) ?_
  exact W.iret (v := iI z_1) hx hb hr (fun t ht hW => ⟨⟨iI z_1, ((fun k => ([] : List Nat).getD k 0), (fun k => ([z_1] : List Int).getD k 0), (fun k => ([] : List (Nat → Int32)).getD k (fun _ => 0))), rfl, ⟨rfl, (by show (0 ≤ z_1 ∧ z_1 ≤ 96); omega), (by show (z_1 = wi * ro); omega)⟩, at9 ht hP hD [0] (by decide +kernel) rfl⟩, hS.F ht⟩) hS.2.2 dX6_cells_9
def vs_e_fill4 : List Cond := .code yJ7_fill_53178 cJ7_fill_53178 4 none :: (([] : List Cond) ++ ([]))
theorem gd_e_fill4 : vs_e_fill4.all goodWord = true := gd_C (by decide +kernel) (gd_A (by decide +kernel) rfl)
set_option maxHeartbeats 4000000 in
set_option maxRecDepth 100000 in
theorem e_fill4 (l : Launch) (hl : l.stackTraces = false) (D : va_G) (cy : Nat → ClassId) (sa : Nat → Nat) (fa : Nat) (ff : Nat → Int32) (v : Int) (sz : Nat) (hr_v : (-2147483648) ≤ v ∧ v ≤ 2147483647) : mV9 l yJ7_fill_53178 vs_e_fill4 ({ frames := 0, cells := 0, slots := 0, locals := 0 }) D cy sa sz [vR fa, vI v] [zI fa (cy 0) 4 ff] (fun u : SV => (∀ j : Nat, j < 4 → nz (u.2.2 0) j = v)) (fun u : SV => [zI fa (cy 0) 4 (u.2.2 0)]) 0 0 := by
  refine Met.ofW (cc := cJ7_fill_53178) (maxL := 4) (ret := none) (by decide) rfl ?_
  intro p e s m args below meth c s₁ B hml hv
  obtain ⟨rfl, hsz, hP, hG, hD0, hT⟩ := hv
  have hx := B.exec
  have hb := B.bytes
  have hr := B.returns
  have hts := atoms_spec (ws := vs_e_fill4) B.pre
  have hown : s.vm.findClass RJ7 = some m.cls := findClass_of_methodNamed B.named
  have hlocks := B.notSynchronized
  subst hsz
  have hD := hD0.self (sz := s.heap.size)
  generalize hAe : va_A [zI fa (cy 0) 4 ff] s.heap.size = A at hD hT ⊢
  have hA : ∀ q : Nat, s.heap.size ≤ q → A q := fun q h => by rw [← hAe]; exact Or.inr h
  have hS : va_S A s.heap s.heap [] := va_S.rf
  have hl0 := lv_entry ([vR fa, vI v]) (n := 4) (Nat.le_of_ble_eq_true rfl)
  rw [lg_entry_eq]
  generalize (lg_sl ([vR fa, vI v]) ++ List.replicate (4 - (lg_sl ([vR fa, vI v])).length) Slot.unset).toArray = ls at hl0 ⊢
  have hlv : lv_has ls 4 [(0, vR fa), (1, vI v)] := hl0
  refine lv_iconst (v := iI 0) hx hb dJ7_fill_53178_0 (by decide) ?_
  refine lv_istore_n (lv' := [(2, vI 0), (0, vR fa), (1, vI v)]) hx hb dJ7_fill_53178_1 rfl hlv (by decide) rfl (fun ls hlv => ?_)
  refine lv_aload_n hx hb dJ7_fill_53178_2 rfl (lv_at hlv 1 rfl) ?_
  refine va_alen (v := iI 4) hx hb hG.1 hP 0 0 rfl rfl (iI_nI _) dJ7_fill_53178_3 ?_
  refine lv_istore_n (lv' := [(3, vI 4), (2, vI 0), (0, vR fa), (1, vI v)]) hx hb dJ7_fill_53178_4 rfl hlv (by decide) rfl (fun ls hlv => ?_)
  refine (?_ : ∀ (fu : Nat) (x : Int) (fg : Nat → Int32) (H : Heap) (locs : List Loc) (ls : Array Slot), 4 - x < (fu : Int) → (0 ≤ x ∧ x ≤ 4) → (∀ j : Nat, (j : Int) < x → nz fg j = v) → va_P D vwCl [zI fa (cy 0) 4 fg] H → va_D A [zI fa (cy 0) 4 fg] → va_S A s.heap H locs → lv_has ls 4 [(3, vI 4), (2, vI x), (0, vR fa), (1, vI v)] → W p l e _ s m _ below meth c H locs _ _ _ (F0 m 5 ls [])) (((4 - 0) + 1 : Int)).toNat 0 ff _ _ _ (by omega) (by show (0 : Int) ≤ 0 ∧ (0 : Int) ≤ 4; decide) (fun j h9 => absurd h9 (by omega))  hP hD hS hlv
  clear hP hD hS hlv
  intro fu
  induction fu with
  | zero => intro x fg H locs ls hm5 hl5_0 hl5_1  hP hD hS hlv; omega
  | succ fu ih5 =>
    intro x fg H locs ls hm5 hl5_0 hl5_1  hP hD hS hlv
    refine lv_iload_n hx hb dJ7_fill_53178_5 rfl (lv_at hlv 1 rfl) ?_
    refine lv_iload_n hx hb dJ7_fill_53178_6 rfl (lv_at hlv 0 rfl) ?_
    refine ir_ge (tgt := 20) hx hb dJ7_fill_53178_7 (by decide) (by first | exact rgw hl5_0 (by decide) (by decide) | omega) (by show ((-2147483648) : Int) ≤ 4 ∧ (4 : Int) ≤ 2147483647; decide) (fun c_1 => ?_) (fun c_1 => ?_)
    · refine W.widen (k := 0) (n := 0) (Nat.le_of_ble_eq_true rfl) (Nat.le_of_ble_eq_true rfl) ?_
      exact W.vret hx hb hr (fun t ht hW => ⟨⟨((fun k => ([] : List Nat).getD k 0), (fun k => ([] : List Int).getD k 0), (fun k => ([fg] : List (Nat → Int32)).getD k (fun _ => 0))), rfl, (by show (∀ j : Nat, j < 4 → nz (fg) j = v); exact (fun j h9 => hl5_1 j (by omega))), at9 ht hP hD [0] (by decide +kernel) rfl⟩, hS.F ht⟩) hS.2.2 dJ7_fill_53178_20
    · refine lv_aload_n hx hb dJ7_fill_53178_10 rfl (lv_at hlv 2 rfl) ?_
      refine lv_iload_n hx hb dJ7_fill_53178_11 rfl (lv_at hlv 1 rfl) ?_
      refine lv_iload_n hx hb dJ7_fill_53178_12 rfl (lv_at hlv 3 rfl) ?_
      refine va_iast hx hb hG.1 hP hD hS 0 0 rfl rfl (iI_in (by omega) (by decide)) dJ7_fill_53178_13 (fun H locs hP hD hS => ?_)
      obtain ⟨f_2, hdf_2, hP, hD⟩ := pe9e (fun f_2 => [zI fa (cy 0) 4 f_2]) (upd fg (iI x).toNatClampNeg (iI v)) hP hD
      obtain ⟨z_3, hz_3⟩ : ∃ z : Int, z = x + 1 := ⟨_, rfl⟩
      refine lv_iinc (v := iI z_3) (lv' := [(2, vI z_3), (3, vI 4), (0, vR fa), (1, vI v)]) hx hb dJ7_fill_53178_14 hlv (k := 1) rfl (by rw [hz_3]; exact (Int32.ofInt_add _ _).symm) (by decide) rfl (fun ls hlv => ?_)
      refine lv_goto (tgt := 5) hx hb dJ7_fill_53178_17 (by decide) ?_
      exact ih5 z_3 f_2 H locs ls (by omega) (by omega) (fun j h9 => by by_cases q9 : (j : Int) = x; exact nz_us hdf_2 (by omega) (by omega) q9; rw [nz_un hdf_2 (by omega) q9]; exact hl5_1 j (by omega))  (hP.sub [0] rfl) (hD.sub [0] (by decide) rfl) hS (lv_sub hlv [1, 0, 2, 3] rfl)
def vs_e_reset : List Cond := .code yX4_reset cX4_reset 1 none :: (([.fieldLink RX4 21 "KerbSplash$Plan" "cars" "I", .fieldLink RX4 25 "KerbSplash$Plan" "dips" "I", .fieldLink RX4 18 "KerbSplash$Plan" "shares" "[I"] : List Cond) ++ ((wsX40) ++ ((va_wsS RX4 28 yJ7_fill_53178 vs_e_fill4) ++ ([]))))
theorem gd_e_reset : vs_e_reset.all goodWord = true := gd_C (by decide +kernel) (gd_A (by decide +kernel) (gd_A (by decide +kernel) (gd_A (gd_S gd_e_fill4 (by decide +kernel)) rfl)))
set_option maxHeartbeats 4000000 in
set_option maxRecDepth 100000 in
theorem e_reset (l : Launch) (hl : l.stackTraces = false) (D : va_G) (cy : Nat → ClassId) (sa : Nat → Nat) (pa pt pd ps : Nat) (cars dips : Int) (shf : Nat → Int32) (sz : Nat) (hr_cars : 0 ≤ cars ∧ cars ≤ 20) (hr_dips : 0 ≤ dips ∧ dips ≤ 9) : mV9 l yX4_reset vs_e_reset ({ frames := 1, cells := 0, slots := 0, locals := 23 }) D cy sa sz [vR pa] [zO pa 4 [vI cars, vR pt, vI dips, vR pd, vR ps], zI ps (cy 0) 4 shf] (fun u : SV => (∀ j : Nat, j < 4 → nz (u.2.2 0) j = 1)) (fun u : SV => [zO pa 4 [vI 0, vR pt, vI 0, vR pd, vR ps], zI ps (cy 0) 4 (u.2.2 0)]) 0 0 := by
  refine Met.ofW (cc := cX4_reset) (maxL := 1) (ret := none) (by decide) rfl ?_
  intro p e s m args below meth c s₁ B hml hv
  obtain ⟨rfl, hsz, hP, hG, hD0, hT⟩ := hv
  have hx := B.exec
  have hb := B.bytes
  have hr := B.returns
  have hts := atoms_spec (ws := vs_e_reset) B.pre
  have hown : s.vm.findClass RX4 = some m.cls := findClass_of_methodNamed B.named
  have hlocks := B.notSynchronized
  subst hsz
  have hD := hD0.self (sz := s.heap.size)
  generalize hAe : va_A [zO pa 4 [vI cars, vR pt, vI dips, vR pd, vR ps], zI ps (cy 0) 4 shf] s.heap.size = A at hD hT ⊢
  have hA : ∀ q : Nat, s.heap.size ≤ q → A q := fun q h => by rw [← hAe]; exact Or.inr h
  have hS : va_S A s.heap s.heap [] := va_S.rf
  have hl0 := lv_entry ([vR pa]) (n := 1) (Nat.le_of_ble_eq_true rfl)
  rw [lg_entry_eq]
  generalize (lg_sl ([vR pa]) ++ List.replicate (1 - (lg_sl ([vR pa])).length) Slot.unset).toArray = ls at hl0 ⊢
  have hlv : lv_has ls 1 [(0, vR pa)] := hl0
  have lf21 := hts (.fieldLink RX4 21 "KerbSplash$Plan" "cars" "I") (List.mem_of_getElem? (i := 1) rfl)
  have hi4 : ∀ w ∈ wsX40, w ∈ vs_e_reset := fun w h => List.mem_cons_of_mem _ (List.mem_append_right _ (List.mem_append_left _ h))
  have lf25 := hts (.fieldLink RX4 25 "KerbSplash$Plan" "dips" "I") (List.mem_of_getElem? (i := 2) rfl)
  have lf18 := hts (.fieldLink RX4 18 "KerbSplash$Plan" "shares" "[I") (List.mem_of_getElem? (i := 3) rfl)
  have gg_1 : GoodIn vs_e_reset (va_wsS RX4 28 yJ7_fill_53178 vs_e_fill4) := goodIn_sub (fun w h => List.mem_cons_of_mem _ (List.mem_append_right _ (List.mem_append_right _ (List.mem_append_left _ h)))) (gd_S gd_e_fill4 (by decide +kernel))
  refine lv_aload_n hx hb dX4_reset_0 rfl (lv_at hlv 0 rfl) ?_
  refine lv_iconst (v := iI 0) hx hb dX4_reset_1 (by decide) ?_
  refine va_put (D := D) (ci := 4) (v := vI 0) (ty := .int) (C := RX4) (T := TX4) (N := 5) hx hb hts hi4 tyX4 tyX4_ok nmX4 hown hG.1 hP hD hS 0 rfl rfl 0 (by decide) lf21 (fun _ h9 => h9) rfl (by decide +kernel) rfl rfl (Nat.le_of_ble_eq_true rfl) dX4_reset_2 (fun H locs hP hD hS => ?_)
  obtain ⟨hP, hD⟩ := pw9 [zO pa 4 [vI 0, vR pt, vI dips, vR pd, vR ps], zI ps (cy 0) 4 shf] hP hD
  refine lv_aload_n hx hb dX4_reset_5 rfl (lv_at hlv 0 rfl) ?_
  refine lv_iconst (v := iI 0) hx hb dX4_reset_6 (by decide) ?_
  refine va_put (D := D) (ci := 4) (v := vI 0) (ty := .int) (C := RX4) (T := TX4) (N := 5) hx hb hts hi4 tyX4 tyX4_ok nmX4 hown hG.1 hP hD hS 0 rfl rfl 2 (by decide) lf25 (fun _ h9 => h9) rfl (by decide +kernel) rfl rfl (Nat.le_of_ble_eq_true rfl) dX4_reset_7 (fun H locs hP hD hS => ?_)
  obtain ⟨hP, hD⟩ := pw9 [zO pa 4 [vI 0, vR pt, vI 0, vR pd, vR ps], zI ps (cy 0) 4 shf] hP hD
  refine lv_aload_n hx hb dX4_reset_10 rfl (lv_at hlv 0 rfl) ?_
  refine va_get (D := D) (ci := 4) (v := vR ps) (C := RX4) (T := TX4) (N := 5) hx hb hts hi4 hown hG.1 hP 0 rfl rfl 4 (by decide) lf18 (fun _ h9 => h9) rfl dX4_reset_11 ?_
  refine lv_iconst (v := iI 1) hx hb dX4_reset_14 (by decide) ?_
  refine cjr_v [true, false] (fun pre9 => (va_runS (As := [vR ps, vI 1]) (rest := []) ⟨hx, hb, hml, hown, hts⟩ (e_fill4 l hl D cy sa ps shf 1 H.size (by show ((-2147483648) : Int) ≤ 1 ∧ (1 : Int) ≤ 2147483647; decide)) (va_cwS 2 hts gg_1 rfl rfl rfl (by decide +kernel) ⟨Nat.le_of_ble_eq_true rfl, Nat.le_of_ble_eq_true rfl⟩) ⟨pcW.blind, pre9⟩ rfl rfl hlv.1 rfl (lv_room (Nat.le_of_ble_eq_true rfl)) dX4_reset_15 ⟨Nat.le_of_ble_eq_true rfl, Nat.le_of_ble_eq_true rfl⟩)) hP hD hS hA hG hT [1] rfl (by decide +kernel) (fun u1 H locs hw1 hq9 hS => ?_)
  have hq1_0 : (∀ j : Nat, j < 4 → nz (u1.2.2 0) j = 1) := hw1
  obtain ⟨hP, hD⟩ := pd9 [zO pa 4 [vI 0, vR pt, vI 0, vR pd, vR ps], zI ps (cy 0) 4 (u1.2.2 0)] hq9
  refine W.widen (k := 0) (n := 0) (Nat.le_of_ble_eq_true rfl) (Nat.le_of_ble_eq_true rfl) ?_
  exact W.vret hx hb hr (fun t ht hW => ⟨⟨((fun k => ([] : List Nat).getD k 0), (fun k => ([] : List Int).getD k 0), (fun k => ([(u1.2.2 0)] : List (Nat → Int32)).getD k (fun _ => 0))), rfl, (by show (∀ j : Nat, j < 4 → nz ((u1.2.2 0)) j = 1); exact hq1_0), at9 ht hP hD [0, 1] (by decide +kernel) rfl⟩, hS.F ht⟩) hS.2.2 dX4_reset_18
def vs_e_kstreet : List Cond := .code yX11_street cX11_street 3 (some .int) :: (([.classLink RX11 88 RX7, .instantiable RX7 2, .initialized RX7, .fieldLink RX11 10 "KerbSplash" "tape" "LKerbSplash$Tape;", .fieldLink RX11 35 "KerbSplash" "draft" "LKerbSplash$Street;", .instanceMethod yX7_init, .instanceMethod yX7_read, .selects RX7 yX7_read yX7_read, .initialized RX8, .instanceMethod yX8_good, .selects RX8 yX8_good yX8_good, .fieldLink RX11 31 "KerbSplash" "now" "LKerbSplash$Street;", .fieldLink RX11 41 "KerbSplash" "plan" "LKerbSplash$Plan;", .initialized RX4, .instanceMethod yX4_reset, .selects RX4 yX4_reset yX4_reset, .fieldLink RX11 105 "KerbSplash" "images" "I", .initialized RX6, .instanceMethod yX6_cells, .selects RX6 yX6_cells yX6_cells] : List Cond) ++ ((wsV RX11 85 RX11 yX11_beginText vs_k_begin) ++ ((wsX70) ++ ((wsX110) ++ ((vs_k_rdinit) ++ ((vs_e_sread) ++ ((vs_s_good) ++ ((vs_e_reset) ++ ((vs_e_cells) ++ ((wsX80) ++ ([])))))))))))
theorem gd_e_kstreet : vs_e_kstreet.all goodWord = true := gd_C (by decide +kernel) (gd_A (by decide +kernel) (gd_A (gd_V gd_k_begin (by decide +kernel)) (gd_A (by decide +kernel) (gd_A (by decide +kernel) (gd_A gd_k_rdinit (gd_A gd_e_sread (gd_A gd_s_good (gd_A gd_e_reset (gd_A gd_e_cells (gd_A (by decide +kernel) rfl))))))))))
set_option maxHeartbeats 4000000 in
set_option maxRecDepth 100000 in
theorem e_kstreet (l : Launch) (hl : l.stackTraces = false) (D : va_G) (cy : Nat → ClassId) (sa : Nat → Nat) (kk ta kr kl sA dA pa ki kp wa or_ rq : Nat) (nr nw im : Int) (qf : Nat → Int32) (tb : Nat) (fed len at_ we fa fp : Int) (bf : Nat → Int32) (s2 s3 s6 s8 s11 s13 : Nat) (swi sro sdr sdt spe sgu ssh swo sdn smi sfl stk sgo : Int) (shf swf sdf spf ssf skf : Nat → Int32) (d2 d3 d6 d8 d11 d13 : Nat) (dwi dro ddr ddt dpe dgu dsh dwo ddn dmi dfl dtk dgo : Int) (dhf dwf ddf dpf dsf dkf : Nat → Int32) (pt pd ps : Nat) (cars dips : Int) (tf df pshf : Nat → Int32) (n : Int) (gq : Nat → Int) (sz : Nat) (hr_nr : 0 ≤ nr ∧ nr ≤ 4) (hr_nw : 0 ≤ nw ∧ nw ≤ 4) (hr_im : 0 ≤ im ∧ im ≤ 3) (hr_fed : 0 ≤ fed ∧ fed ≤ 600) (hr_len : 0 ≤ len ∧ len ≤ 600) (hr_at_ : 0 ≤ at_ ∧ at_ ≤ 600) (hr_we : 0 ≤ we ∧ we ≤ 600) (hr_fa : 0 ≤ fa ∧ fa ≤ 4) (hr_fp : (-1) ≤ fp ∧ fp ≤ 600) (hr_swi : 0 ≤ swi ∧ swi ≤ 16) (hr_sro : 0 ≤ sro ∧ sro ≤ 6) (hr_sdr : 0 ≤ sdr ∧ sdr ≤ 14) (hr_sdt : 0 ≤ sdt ∧ sdt ≤ 6) (hr_spe : 0 ≤ spe ∧ spe ≤ 8) (hr_sgu : 0 ≤ sgu ∧ sgu ≤ 20) (hr_ssh : 0 ≤ ssh ∧ ssh ≤ 2) (hr_swo : 0 ≤ swo ∧ swo ≤ 8) (hr_sdn : (-2147483648) ≤ sdn ∧ sdn ≤ 2147483647) (hr_smi : 0 ≤ smi ∧ smi ≤ 600) (hr_sfl : (-2147483648) ≤ sfl ∧ sfl ≤ 2147483647) (hr_stk : (-2147483648) ≤ stk ∧ stk ≤ 2147483647) (hr_sgo : (-2147483648) ≤ sgo ∧ sgo ≤ 2147483647) (hr_dwi : 0 ≤ dwi ∧ dwi ≤ 16) (hr_dro : 0 ≤ dro ∧ dro ≤ 6) (hr_ddr : 0 ≤ ddr ∧ ddr ≤ 14) (hr_ddt : 0 ≤ ddt ∧ ddt ≤ 6) (hr_dpe : 0 ≤ dpe ∧ dpe ≤ 8) (hr_dgu : 0 ≤ dgu ∧ dgu ≤ 20) (hr_dsh : 0 ≤ dsh ∧ dsh ≤ 2) (hr_dwo : 0 ≤ dwo ∧ dwo ≤ 8) (hr_ddn : (-2147483648) ≤ ddn ∧ ddn ≤ 2147483647) (hr_dmi : 0 ≤ dmi ∧ dmi ≤ 600) (hr_dfl : (-2147483648) ≤ dfl ∧ dfl ≤ 2147483647) (hr_dtk : (-2147483648) ≤ dtk ∧ dtk ≤ 2147483647) (hr_dgo : (-2147483648) ≤ dgo ∧ dgo ≤ 2147483647) (hr_cars : 0 ≤ cars ∧ cars ≤ 20) (hr_dips : 0 ≤ dips ∧ dips ≤ 9) (hr_n : (-2147483648) ≤ n ∧ n ≤ 2147483647) (hp0 : 0 < swi → 1 ≤ sro) (hn_br : TPg bf gq) (hshf : inv_ 96 0 99 shf) (hsdf : tab_ 4 14 [0, 0, 0, 0] [15, 5, 99, 16] sdf) (hspf : tab_ 4 28 [0, 0, (-2147483648), (-2147483648)] [15, 19, 2147483647, 2147483647] spf) (hskf : tw_ skf) (hdhf : inv_ 96 0 99 dhf) (hddf : tab_ 4 14 [0, 0, 0, 0] [15, 5, 99, 16] ddf) (hdpf : tab_ 4 28 [0, 0, (-2147483648), (-2147483648)] [15, 19, 2147483647, 2147483647] dpf) (hdkf : tw_ dkf) (htf : tab_ 5 20 [0, 0, (-2147483648), (-2147483648), (-2147483648)] [99, 5, 2147483647, 2147483647, 2147483647] tf) : xI9 l yX11_street vs_e_kstreet ({ frames := 9, cells := 2, slots := 8, locals := 194 }) D cy sa sz [vR kk, vI n] [zO kk 11 [vR ta, vR kr, vR kl, vI nr, vI nw, vR sA, vR dA, vR pa, vR ki, vR kp, vI im, vR wa, vR or_, vR rq], zI rq (cy 0) 4 qf, zO ta 8 [vR tb, vI fed, vI len, vI at_, vI we, vI fa, vI fp], zI tb (cy 1) 600 bf, zO sA 6 [vI swi, vI sro, vR s2, vR s3, vI sdr, vI sdt, vR s6, vI spe, vR s8, vI sgu, vI ssh, vR s11, vI swo, vR s13, vI sdn, vI smi, vI sfl, vI stk, vI sgo], zI s2 (cy 0) 96 shf, zI s3 (cy 0) 96 swf, zI s6 (cy 0) 56 sdf, zI s8 (cy 0) 112 spf, zI s11 (cy 0) 4 ssf, zI s13 (cy 0) 40 skf, zO dA 6 [vI dwi, vI dro, vR d2, vR d3, vI ddr, vI ddt, vR d6, vI dpe, vR d8, vI dgu, vI dsh, vR d11, vI dwo, vR d13, vI ddn, vI dmi, vI dfl, vI dtk, vI dgo], zI d2 (cy 0) 96 dhf, zI d3 (cy 0) 96 dwf, zI d6 (cy 0) 56 ddf, zI d8 (cy 0) 112 dpf, zI d11 (cy 0) 4 dsf, zI d13 (cy 0) 40 dkf, zO pa 4 [vI cars, vR pt, vI dips, vR pd, vR ps], zI pt (cy 0) 100 tf, zI pd (cy 0) 27 df, zI ps (cy 0) 4 pshf] (fun (r : Int32) (u : SV) => r = iI (u.2.1 0) ∧ ((-2147483648) ≤ u.2.1 0 ∧ u.2.1 0 ≤ 2147483647) ∧ (0 ≤ u.2.1 1 ∧ u.2.1 1 ≤ 600) ∧ (0 ≤ u.2.1 2 ∧ u.2.1 2 ≤ 600) ∧ (0 ≤ u.2.1 3 ∧ u.2.1 3 ≤ 600) ∧ (0 ≤ u.2.1 4 ∧ u.2.1 4 ≤ 600) ∧ (0 ≤ u.2.1 5 ∧ u.2.1 5 ≤ 4) ∧ ((-1) ≤ u.2.1 6 ∧ u.2.1 6 ≤ 600) ∧ (0 ≤ u.2.1 10 ∧ u.2.1 10 ≤ 16) ∧ (0 ≤ u.2.1 11 ∧ u.2.1 11 ≤ 6) ∧ (0 ≤ u.2.1 12 ∧ u.2.1 12 ≤ 14) ∧ (0 ≤ u.2.1 13 ∧ u.2.1 13 ≤ 6) ∧ (0 ≤ u.2.1 14 ∧ u.2.1 14 ≤ 8) ∧ (0 ≤ u.2.1 15 ∧ u.2.1 15 ≤ 20) ∧ (0 ≤ u.2.1 16 ∧ u.2.1 16 ≤ 2) ∧ (0 ≤ u.2.1 17 ∧ u.2.1 17 ≤ 8) ∧ ((-2147483648) ≤ u.2.1 18 ∧ u.2.1 18 ≤ 2147483647) ∧ (0 ≤ u.2.1 19 ∧ u.2.1 19 ≤ 600) ∧ ((-2147483648) ≤ u.2.1 20 ∧ u.2.1 20 ≤ 2147483647) ∧ ((-2147483648) ≤ u.2.1 21 ∧ u.2.1 21 ≤ 2147483647) ∧ ((-2147483648) ≤ u.2.1 22 ∧ u.2.1 22 ≤ 2147483647) ∧ (0 ≤ u.2.1 23 ∧ u.2.1 23 ≤ 16) ∧ (0 ≤ u.2.1 24 ∧ u.2.1 24 ≤ 6) ∧ (0 ≤ u.2.1 25 ∧ u.2.1 25 ≤ 14) ∧ (0 ≤ u.2.1 26 ∧ u.2.1 26 ≤ 6) ∧ (0 ≤ u.2.1 27 ∧ u.2.1 27 ≤ 8) ∧ (0 ≤ u.2.1 28 ∧ u.2.1 28 ≤ 20) ∧ (0 ≤ u.2.1 29 ∧ u.2.1 29 ≤ 2) ∧ (0 ≤ u.2.1 30 ∧ u.2.1 30 ≤ 8) ∧ ((-2147483648) ≤ u.2.1 31 ∧ u.2.1 31 ≤ 2147483647) ∧ (0 ≤ u.2.1 32 ∧ u.2.1 32 ≤ 600) ∧ ((-2147483648) ≤ u.2.1 33 ∧ u.2.1 33 ≤ 2147483647) ∧ ((-2147483648) ≤ u.2.1 34 ∧ u.2.1 34 ≤ 2147483647) ∧ ((-2147483648) ≤ u.2.1 35 ∧ u.2.1 35 ≤ 2147483647) ∧ (0 ≤ u.2.1 40 ∧ u.2.1 40 ≤ 3) ∧ (0 ≤ u.2.1 41 ∧ u.2.1 41 ≤ 20) ∧ (0 ≤ u.2.1 42 ∧ u.2.1 42 ≤ 9) ∧ (0 ≤ n ∧ n ≤ fed ∧ u.2.1 1 = 0) ∧ (0 < u.2.1 10 → 1 ≤ u.2.1 11) ∧ ((STV gq n).1.1 = 0 → DRL (STV gq n).2.1 (STV gq n).2.2 (u.2.1 10) (u.2.1 11) (u.2.1 12) (u.2.1 13) (u.2.1 14) (u.2.1 16) (u.2.1 17) (u.2.2 0) (u.2.2 2) (u.2.2 3) (u.2.2 4) (u.2.2 5) ∧ (u.2.1 15) = 0 ∧ (u.2.1 18) = 0 ∧ (u.2.1 19) = 0 ∧ (u.2.1 20) = 0 ∧ (u.2.1 21) = 0 ∧ (u.2.1 22) = 0 ∧ (∀ j : Nat, j < 96 → nz (u.2.2 1) j = 0) ∧ (u.2.1 40) = 0 ∧ (u.2.1 41) = 0 ∧ (u.2.1 42) = 0 ∧ ∀ j : Nat, j < 4 → nz (u.2.2 12) j = 1) ∧ ((STV gq n).1.1 ≠ 0 → (u.2.1 10) = swi ∧ (u.2.1 11) = sro ∧ (u.2.1 12) = sdr ∧ (u.2.1 13) = sdt ∧ (u.2.1 14) = spe ∧ (u.2.1 15) = sgu ∧ (u.2.1 16) = ssh ∧ (u.2.1 17) = swo ∧ (u.2.1 18) = sdn ∧ (u.2.1 19) = smi ∧ (u.2.1 20) = sfl ∧ (u.2.1 21) = stk ∧ (u.2.1 22) = sgo ∧ (u.2.2 0) = shf ∧ (u.2.2 1) = swf ∧ (u.2.2 2) = sdf ∧ (u.2.2 3) = spf ∧ (u.2.2 4) = ssf ∧ (u.2.2 5) = skf ∧ (u.2.1 40) = im ∧ (u.2.1 41) = cars ∧ (u.2.1 42) = dips ∧ (u.2.2 12) = pshf) ∧ (0 ≤ n ∧ n ≤ fed → ((STV gq n).1.1 = 0 → (u.2.1 0) = (STV gq n).2.1 0 * (STV gq n).2.1 1) ∧ ((STV gq n).1.1 ≠ 0 → (u.2.1 0) = (STV gq n).1.1 - 10)) ∧ inv_ 96 0 99 (u.2.2 0) ∧ tab_ 4 14 [0, 0, 0, 0] [15, 5, 99, 16] (u.2.2 2) ∧ tab_ 4 28 [0, 0, (-2147483648), (-2147483648)] [15, 19, 2147483647, 2147483647] (u.2.2 3) ∧ tw_ (u.2.2 5) ∧ inv_ 96 0 99 (u.2.2 6) ∧ tab_ 4 14 [0, 0, 0, 0] [15, 5, 99, 16] (u.2.2 8) ∧ tab_ 4 28 [0, 0, (-2147483648), (-2147483648)] [15, 19, 2147483647, 2147483647] (u.2.2 9) ∧ tw_ (u.2.2 11) ∧ tab_ 5 20 [0, 0, (-2147483648), (-2147483648), (-2147483648)] [99, 5, 2147483647, 2147483647, 2147483647] tf) (fun u : SV => [zO kk 11 [vR ta, vR kr, vR kl, vI nr, vI nw, vR (u.1 0), vR (u.1 7), vR pa, vR ki, vR kp, vI (u.2.1 40), vR wa, vR or_, vR rq], zI rq (cy 0) 4 qf, zO ta 8 [vR tb, vI (u.2.1 1), vI (u.2.1 2), vI (u.2.1 3), vI (u.2.1 4), vI (u.2.1 5), vI (u.2.1 6)], zI tb (cy 1) 600 bf, zO (u.1 0) 6 [vI (u.2.1 10), vI (u.2.1 11), vR (u.1 1), vR (u.1 2), vI (u.2.1 12), vI (u.2.1 13), vR (u.1 3), vI (u.2.1 14), vR (u.1 4), vI (u.2.1 15), vI (u.2.1 16), vR (u.1 5), vI (u.2.1 17), vR (u.1 6), vI (u.2.1 18), vI (u.2.1 19), vI (u.2.1 20), vI (u.2.1 21), vI (u.2.1 22)], zI (u.1 1) (cy 0) 96 (u.2.2 0), zI (u.1 2) (cy 0) 96 (u.2.2 1), zI (u.1 3) (cy 0) 56 (u.2.2 2), zI (u.1 4) (cy 0) 112 (u.2.2 3), zI (u.1 5) (cy 0) 4 (u.2.2 4), zI (u.1 6) (cy 0) 40 (u.2.2 5), zO (u.1 7) 6 [vI (u.2.1 23), vI (u.2.1 24), vR (u.1 8), vR (u.1 9), vI (u.2.1 25), vI (u.2.1 26), vR (u.1 10), vI (u.2.1 27), vR (u.1 11), vI (u.2.1 28), vI (u.2.1 29), vR (u.1 12), vI (u.2.1 30), vR (u.1 13), vI (u.2.1 31), vI (u.2.1 32), vI (u.2.1 33), vI (u.2.1 34), vI (u.2.1 35)], zI (u.1 8) (cy 0) 96 (u.2.2 6), zI (u.1 9) (cy 0) 96 (u.2.2 7), zI (u.1 10) (cy 0) 56 (u.2.2 8), zI (u.1 11) (cy 0) 112 (u.2.2 9), zI (u.1 12) (cy 0) 4 (u.2.2 10), zI (u.1 13) (cy 0) 40 (u.2.2 11), zO pa 4 [vI (u.2.1 41), vR pt, vI (u.2.1 42), vR pd, vR ps], zI pt (cy 0) 100 tf, zI pd (cy 0) 27 df, zI ps (cy 0) 4 (u.2.2 12)]) (fun (E : String) (u : SV) => (E = "java/lang/IllegalArgumentException") ∧ (¬ (0 ≤ n ∧ n ≤ fed))) (fun u : SV => [zO kk 11 [vR ta, vR kr, vR kl, vI nr, vI nw, vR sA, vR dA, vR pa, vR ki, vR kp, vI im, vR wa, vR or_, vR rq], zI rq (cy 0) 4 (u.2.2 0), zO ta 8 [vR tb, vI fed, vI len, vI at_, vI we, vI fa, vI fp], zI tb (cy 1) 600 bf, zO sA 6 [vI swi, vI sro, vR s2, vR s3, vI sdr, vI sdt, vR s6, vI spe, vR s8, vI sgu, vI ssh, vR s11, vI swo, vR s13, vI sdn, vI smi, vI sfl, vI stk, vI sgo], zI s2 (cy 0) 96 shf, zI s3 (cy 0) 96 swf, zI s6 (cy 0) 56 sdf, zI s8 (cy 0) 112 spf, zI s11 (cy 0) 4 ssf, zI s13 (cy 0) 40 skf, zO dA 6 [vI dwi, vI dro, vR d2, vR d3, vI ddr, vI ddt, vR d6, vI dpe, vR d8, vI dgu, vI dsh, vR d11, vI dwo, vR d13, vI ddn, vI dmi, vI dfl, vI dtk, vI dgo], zI d2 (cy 0) 96 dhf, zI d3 (cy 0) 96 dwf, zI d6 (cy 0) 56 ddf, zI d8 (cy 0) 112 dpf, zI d11 (cy 0) 4 dsf, zI d13 (cy 0) 40 dkf, zO pa 4 [vI cars, vR pt, vI dips, vR pd, vR ps], zI pt (cy 0) 100 tf, zI pd (cy 0) 27 df, zI ps (cy 0) 4 pshf]) 2 8 := by
  refine vx_ofW (cc := cX11_street) (maxL := 3) (ret := (some .int)) (by decide) rfl ?_
  intro p e s m args below meth c s₁ B hml hex hv
  obtain ⟨rfl, hsz, hP, hG, hD0, hT⟩ := hv
  have hx := B.exec
  have hb := B.bytes
  have hr := B.returns
  have hts := atoms_spec (ws := vs_e_kstreet) B.pre
  have hown : s.vm.findClass RX11 = some m.cls := findClass_of_methodNamed B.named
  have hlocks := B.notSynchronized
  subst hsz
  have hD := hD0.self (sz := s.heap.size)
  generalize hAe : va_A [zO kk 11 [vR ta, vR kr, vR kl, vI nr, vI nw, vR sA, vR dA, vR pa, vR ki, vR kp, vI im, vR wa, vR or_, vR rq], zI rq (cy 0) 4 qf, zO ta 8 [vR tb, vI fed, vI len, vI at_, vI we, vI fa, vI fp], zI tb (cy 1) 600 bf, zO sA 6 [vI swi, vI sro, vR s2, vR s3, vI sdr, vI sdt, vR s6, vI spe, vR s8, vI sgu, vI ssh, vR s11, vI swo, vR s13, vI sdn, vI smi, vI sfl, vI stk, vI sgo], zI s2 (cy 0) 96 shf, zI s3 (cy 0) 96 swf, zI s6 (cy 0) 56 sdf, zI s8 (cy 0) 112 spf, zI s11 (cy 0) 4 ssf, zI s13 (cy 0) 40 skf, zO dA 6 [vI dwi, vI dro, vR d2, vR d3, vI ddr, vI ddt, vR d6, vI dpe, vR d8, vI dgu, vI dsh, vR d11, vI dwo, vR d13, vI ddn, vI dmi, vI dfl, vI dtk, vI dgo], zI d2 (cy 0) 96 dhf, zI d3 (cy 0) 96 dwf, zI d6 (cy 0) 56 ddf, zI d8 (cy 0) 112 dpf, zI d11 (cy 0) 4 dsf, zI d13 (cy 0) 40 dkf, zO pa 4 [vI cars, vR pt, vI dips, vR pd, vR ps], zI pt (cy 0) 100 tf, zI pd (cy 0) 27 df, zI ps (cy 0) 4 pshf] s.heap.size = A at hD hT ⊢
  have hA : ∀ q : Nat, s.heap.size ≤ q → A q := fun q h => by rw [← hAe]; exact Or.inr h
  have hS : va_S A s.heap s.heap [] := va_S.rf
  have hl0 := lv_entry ([vR kk, vI n]) (n := 3) (Nat.le_of_ble_eq_true rfl)
  rw [lg_entry_eq]
  generalize (lg_sl ([vR kk, vI n]) ++ List.replicate (3 - (lg_sl ([vR kk, vI n])).length) Slot.unset).toArray = ls at hl0 ⊢
  have hlv : lv_has ls 3 [(0, vR kk), (1, vI n)] := hl0
  have gg_0 : GoodIn vs_e_kstreet (wsV RX11 85 RX11 yX11_beginText vs_k_begin) := goodIn_sub (fun w h => List.mem_cons_of_mem _ (List.mem_append_right _ (List.mem_append_left _ h))) (gd_V gd_k_begin (by decide +kernel))
  have cl88 := hts (.classLink RX11 88 RX7) (List.mem_of_getElem? (i := 1) rfl)
  have in7 := hts (.instantiable RX7 2) (List.mem_of_getElem? (i := 2) rfl)
  have ini7 := hts (.initialized RX7) (List.mem_of_getElem? (i := 3) rfl)
  have hi7 : ∀ w ∈ wsX70, w ∈ vs_e_kstreet := fun w h => List.mem_cons_of_mem _ (List.mem_append_right _ (List.mem_append_right _ (List.mem_append_left _ h)))
  have lf10 := hts (.fieldLink RX11 10 "KerbSplash" "tape" "LKerbSplash$Tape;") (List.mem_of_getElem? (i := 4) rfl)
  have hi11 : ∀ w ∈ wsX110, w ∈ vs_e_kstreet := fun w h => List.mem_cons_of_mem _ (List.mem_append_right _ (List.mem_append_right _ (List.mem_append_right _ (List.mem_append_left _ h))))
  have lf35 := hts (.fieldLink RX11 35 "KerbSplash" "draft" "LKerbSplash$Street;") (List.mem_of_getElem? (i := 5) rfl)
  have gg_3 : GoodIn vs_e_kstreet (vs_k_rdinit) := goodIn_sub (fun w h => List.mem_cons_of_mem _ (List.mem_append_right _ (List.mem_append_right _ (List.mem_append_right _ (List.mem_append_right _ (List.mem_append_left _ h)))))) gd_k_rdinit
  have ini_RX7 := hts (.initialized RX7) (List.mem_of_getElem? (i := 3) rfl)
  have im_X7_init := hts (.instanceMethod yX7_init) (List.mem_of_getElem? (i := 6) rfl)
  have gg_4 : GoodIn vs_e_kstreet (vs_e_sread) := goodIn_sub (fun w h => List.mem_cons_of_mem _ (List.mem_append_right _ (List.mem_append_right _ (List.mem_append_right _ (List.mem_append_right _ (List.mem_append_right _ (List.mem_append_left _ h))))))) gd_e_sread
  have im_X7_read := hts (.instanceMethod yX7_read) (List.mem_of_getElem? (i := 7) rfl)
  have se_X7_read := hts (.selects RX7 yX7_read yX7_read) (List.mem_of_getElem? (i := 8) rfl)
  have gg_5 : GoodIn vs_e_kstreet (vs_s_good) := goodIn_sub (fun w h => List.mem_cons_of_mem _ (List.mem_append_right _ (List.mem_append_right _ (List.mem_append_right _ (List.mem_append_right _ (List.mem_append_right _ (List.mem_append_right _ (List.mem_append_left _ h)))))))) gd_s_good
  have ini_RX8 := hts (.initialized RX8) (List.mem_of_getElem? (i := 9) rfl)
  have im_X8_good := hts (.instanceMethod yX8_good) (List.mem_of_getElem? (i := 10) rfl)
  have se_X8_good := hts (.selects RX8 yX8_good yX8_good) (List.mem_of_getElem? (i := 11) rfl)
  have lf31 := hts (.fieldLink RX11 31 "KerbSplash" "now" "LKerbSplash$Street;") (List.mem_of_getElem? (i := 12) rfl)
  have lf41 := hts (.fieldLink RX11 41 "KerbSplash" "plan" "LKerbSplash$Plan;") (List.mem_of_getElem? (i := 13) rfl)
  have gg_6 : GoodIn vs_e_kstreet (vs_e_reset) := goodIn_sub (fun w h => List.mem_cons_of_mem _ (List.mem_append_right _ (List.mem_append_right _ (List.mem_append_right _ (List.mem_append_right _ (List.mem_append_right _ (List.mem_append_right _ (List.mem_append_right _ (List.mem_append_left _ h))))))))) gd_e_reset
  have ini_RX4 := hts (.initialized RX4) (List.mem_of_getElem? (i := 14) rfl)
  have im_X4_reset := hts (.instanceMethod yX4_reset) (List.mem_of_getElem? (i := 15) rfl)
  have se_X4_reset := hts (.selects RX4 yX4_reset yX4_reset) (List.mem_of_getElem? (i := 16) rfl)
  have lf105 := hts (.fieldLink RX11 105 "KerbSplash" "images" "I") (List.mem_of_getElem? (i := 17) rfl)
  have gg_7 : GoodIn vs_e_kstreet (vs_e_cells) := goodIn_sub (fun w h => List.mem_cons_of_mem _ (List.mem_append_right _ (List.mem_append_right _ (List.mem_append_right _ (List.mem_append_right _ (List.mem_append_right _ (List.mem_append_right _ (List.mem_append_right _ (List.mem_append_right _ (List.mem_append_left _ h)))))))))) gd_e_cells
  have ini_RX6 := hts (.initialized RX6) (List.mem_of_getElem? (i := 18) rfl)
  have im_X6_cells := hts (.instanceMethod yX6_cells) (List.mem_of_getElem? (i := 19) rfl)
  have se_X6_cells := hts (.selects RX6 yX6_cells yX6_cells) (List.mem_of_getElem? (i := 20) rfl)
  have hi8 : ∀ w ∈ wsX80, w ∈ vs_e_kstreet := fun w h => List.mem_cons_of_mem _ (List.mem_append_right _ (List.mem_append_right _ (List.mem_append_right _ (List.mem_append_right _ (List.mem_append_right _ (List.mem_append_right _ (List.mem_append_right _ (List.mem_append_right _ (List.mem_append_right _ (List.mem_append_left _ h))))))))))
  refine lv_aload_n hx hb dX11_street_0 rfl (lv_at hlv 0 rfl) ?_
  refine lv_iload_n hx hb dX11_street_1 rfl (lv_at hlv 1 rfl) ?_
  refine cjrx_v [false, false, false, true, true, true, true, true, true, true, true, true, true, true, true, true, true, true, true, true, true, true] (fun pre9 => (vx_runV (As := [vI n]) (rest := []) ⟨hx, hb, hml, hown, hts⟩ (k_begin l hl D cy sa kk ta kr kl sA dA pa ki kp wa or_ rq nr nw im qf tb fed len at_ we fa fp n s.heap.size (by first | exact hr_nr | omega) (by first | exact hr_nw | omega) (by first | exact hr_im | omega) (by first | exact hr_fed | omega) (by first | exact hr_len | omega) (by first | exact hr_at_ | omega) (by first | exact hr_we | omega) (by first | exact hr_fa | omega) (by first | exact hr_fp | omega) (by first | exact hr_n | omega)) (cwV 1 hts gg_0 rfl rfl rfl (by decide +kernel) ⟨Nat.le_of_ble_eq_true rfl, Nat.le_of_ble_eq_true rfl⟩) ⟨pcW.blind, (va_recv hG.1 hP (ci := 11) (q0 := 0) rfl rfl), pre9⟩ rfl rfl hlv.1 rfl (lv_room (Nat.le_of_ble_eq_true rfl)) dX11_street_2 ⟨Nat.le_of_ble_eq_true rfl, Nat.le_of_ble_eq_true rfl⟩)) hP hD hS hA hG hT [0, 1, 2] rfl (by decide +kernel) (fun E ux1 ce q9 H locs hp hq9 hS h1 h2 h3 => ?_) (fun u1 H locs hw1 hq9 hS => ?_)
  · obtain ⟨hP, hD⟩ := hq9
    obtain ⟨hp, hxg1⟩ := hp
    obtain rfl := hp
    exact vx_out (fun x h => (hex x h).elim) hlocks h1 h2 h3 (fun t ht hvm => ⟨((fun k => ([] : List Nat).getD k 0), (fun k => ([] : List Int).getD k 0), (fun k => ([(ux1.2.2 0)] : List (Nat → Int32)).getD k (fun _ => 0))), trivial, ⟨⟨rfl, by omega⟩, at9 ht hP hD [19, 20, 21, 0, 1, 2, 3, 4, 5, 6, 7, 8, 9, 10, 11, 12, 13, 14, 15, 16, 17, 18] (by decide +kernel) rfl⟩, hS.F ht⟩) hS.2.2 (Nat.le_of_ble_eq_true rfl) (Nat.le_of_ble_eq_true rfl)
  have hq1_0 : ((0 : Int) ≤ n ∧ n ≤ fed) := hw1
  obtain ⟨hP, hD⟩ := pd9 [zI tb (cy 1) 600 bf, zO sA 6 [vI swi, vI sro, vR s2, vR s3, vI sdr, vI sdt, vR s6, vI spe, vR s8, vI sgu, vI ssh, vR s11, vI swo, vR s13, vI sdn, vI smi, vI sfl, vI stk, vI sgo], zI s2 (cy 0) 96 shf, zI s3 (cy 0) 96 swf, zI s6 (cy 0) 56 sdf, zI s8 (cy 0) 112 spf, zI s11 (cy 0) 4 ssf, zI s13 (cy 0) 40 skf, zO dA 6 [vI dwi, vI dro, vR d2, vR d3, vI ddr, vI ddt, vR d6, vI dpe, vR d8, vI dgu, vI dsh, vR d11, vI dwo, vR d13, vI ddn, vI dmi, vI dfl, vI dtk, vI dgo], zI d2 (cy 0) 96 dhf, zI d3 (cy 0) 96 dwf, zI d6 (cy 0) 56 ddf, zI d8 (cy 0) 112 dpf, zI d11 (cy 0) 4 dsf, zI d13 (cy 0) 40 dkf, zO pa 4 [vI cars, vR pt, vI dips, vR pd, vR ps], zI pt (cy 0) 100 tf, zI pd (cy 0) 27 df, zI ps (cy 0) 4 pshf, zO kk 11 [vR ta, vR kr, vR kl, vI nr, vI nw, vR sA, vR dA, vR pa, vR ki, vR kp, vI im, vR wa, vR or_, vR rq], zI rq (cy 0) 4 qf, zO ta 8 [vR tb, vI 0, vI n, vI 0, vI 0, vI 0, vI (-1)]] hq9
  refine va_new (ci := 7) (fs := [vN, vN]) (C := RX7) (T := TX7) (N := 2) hx hb hts hi7 tyX7 tyX7_ok hown cl88 in7 ini7 hG.1 hP hD hS hA rfl (by decide) (Nat.le_of_ble_eq_true rfl) (Nat.le_of_ble_eq_true rfl) dX11_street_5 (fun q_1 H hP hD hS => ?_)
  obtain ⟨hP, hD⟩ := pw9 [zI tb (cy 1) 600 bf, zO sA 6 [vI swi, vI sro, vR s2, vR s3, vI sdr, vI sdt, vR s6, vI spe, vR s8, vI sgu, vI ssh, vR s11, vI swo, vR s13, vI sdn, vI smi, vI sfl, vI stk, vI sgo], zI s2 (cy 0) 96 shf, zI s3 (cy 0) 96 swf, zI s6 (cy 0) 56 sdf, zI s8 (cy 0) 112 spf, zI s11 (cy 0) 4 ssf, zI s13 (cy 0) 40 skf, zO dA 6 [vI dwi, vI dro, vR d2, vR d3, vI ddr, vI ddt, vR d6, vI dpe, vR d8, vI dgu, vI dsh, vR d11, vI dwo, vR d13, vI ddn, vI dmi, vI dfl, vI dtk, vI dgo], zI d2 (cy 0) 96 dhf, zI d3 (cy 0) 96 dwf, zI d6 (cy 0) 56 ddf, zI d8 (cy 0) 112 dpf, zI d11 (cy 0) 4 dsf, zI d13 (cy 0) 40 dkf, zO pa 4 [vI cars, vR pt, vI dips, vR pd, vR ps], zI pt (cy 0) 100 tf, zI pd (cy 0) 27 df, zI ps (cy 0) 4 pshf, zO kk 11 [vR ta, vR kr, vR kl, vI nr, vI nw, vR sA, vR dA, vR pa, vR ki, vR kp, vI im, vR wa, vR or_, vR rq], zI rq (cy 0) 4 qf, zO ta 8 [vR tb, vI 0, vI n, vI 0, vI 0, vI 0, vI (-1)], zO q_1 7 [vN, vN]] hP hD
  refine lv_dup hx hb dX11_street_8 rfl ?_
  refine lv_aload_n hx hb dX11_street_9 rfl (lv_at hlv 0 rfl) ?_
  refine va_get (D := D) (ci := 11) (v := vR ta) (C := RX11) (T := TX11) (N := 14) hx hb hts hi11 hown hG.1 hP 19 rfl rfl 0 (by decide) lf10 (fun _ h9 => h9) rfl dX11_street_10 ?_
  refine lv_aload_n hx hb dX11_street_13 rfl (lv_at hlv 0 rfl) ?_
  refine va_get (D := D) (ci := 11) (v := vR dA) (C := RX11) (T := TX11) (N := 14) hx hb hts hi11 hown hG.1 hP 19 rfl rfl 6 (by decide) lf35 (fun _ h9 => h9) rfl dX11_street_14 ?_
  refine cjr_v [true, true, true, true, true, true, true, true, true, true, true, true, true, true, true, true, true, true, true, true, true, true, false] (fun pre9 => (va_runIN (host := "KerbSplash") (As := [vR ta, vR dA]) (rest := [vR q_1]) ⟨hx, hb, hml, hown, hts⟩ (k_rdinit l hl D cy sa q_1 ta dA H.size) ⟨va_cnB 2 hts gg_3 rfl rfl rfl (nM_K_90 hG.2.1) ini_RX7 (by decide +kernel) ⟨Nat.le_of_ble_eq_true rfl, Nat.le_of_ble_eq_true rfl⟩, rfl, im_X7_init⟩ ⟨pcW.blind, pre9⟩ rfl rfl hlv.1 rfl (lv_room (Nat.le_of_ble_eq_true rfl)) dX11_street_17 ⟨Nat.le_of_ble_eq_true rfl, Nat.le_of_ble_eq_true rfl⟩)) hP hD hS hA hG hT [22] rfl (by decide +kernel) (fun u2 H locs hw2 hq9 hS => ?_)
  obtain ⟨hP, hD⟩ := pd9 [zI tb (cy 1) 600 bf, zO sA 6 [vI swi, vI sro, vR s2, vR s3, vI sdr, vI sdt, vR s6, vI spe, vR s8, vI sgu, vI ssh, vR s11, vI swo, vR s13, vI sdn, vI smi, vI sfl, vI stk, vI sgo], zI s2 (cy 0) 96 shf, zI s3 (cy 0) 96 swf, zI s6 (cy 0) 56 sdf, zI s8 (cy 0) 112 spf, zI s11 (cy 0) 4 ssf, zI s13 (cy 0) 40 skf, zO dA 6 [vI dwi, vI dro, vR d2, vR d3, vI ddr, vI ddt, vR d6, vI dpe, vR d8, vI dgu, vI dsh, vR d11, vI dwo, vR d13, vI ddn, vI dmi, vI dfl, vI dtk, vI dgo], zI d2 (cy 0) 96 dhf, zI d3 (cy 0) 96 dwf, zI d6 (cy 0) 56 ddf, zI d8 (cy 0) 112 dpf, zI d11 (cy 0) 4 dsf, zI d13 (cy 0) 40 dkf, zO pa 4 [vI cars, vR pt, vI dips, vR pd, vR ps], zI pt (cy 0) 100 tf, zI pd (cy 0) 27 df, zI ps (cy 0) 4 pshf, zO kk 11 [vR ta, vR kr, vR kl, vI nr, vI nw, vR sA, vR dA, vR pa, vR ki, vR kp, vI im, vR wa, vR or_, vR rq], zI rq (cy 0) 4 qf, zO ta 8 [vR tb, vI 0, vI n, vI 0, vI 0, vI 0, vI (-1)], zO q_1 7 [vR ta, vR dA]] hq9
  refine cjr_v [false, true, true, true, true, true, true, true, false, false, false, false, false, false, false, true, true, true, true, true, true, false, false] (fun pre9 => (va_runVN (host := "KerbSplash") (As := []) (rest := []) ⟨hx, hb, hml, hown, hts⟩ (e_sread l hl D cy sa q_1 ta tb 0 n 0 0 0 (-1) bf dA d2 d3 d6 d8 d11 d13 dwi dro ddr ddt dpe dgu dsh dwo ddn dmi dfl dtk dgo gq dhf dwf ddf dpf dsf dkf H.size (by show (0 : Int) ≤ 0 ∧ (0 : Int) ≤ 600; decide) (by omega) (by show (0 : Int) ≤ 0 ∧ (0 : Int) ≤ 600; decide) (by show (0 : Int) ≤ 0 ∧ (0 : Int) ≤ 600; decide) (by show (0 : Int) ≤ 0 ∧ (0 : Int) ≤ 4; decide) (by show ((-1) : Int) ≤ (-1) ∧ ((-1) : Int) ≤ 600; decide) (by first | exact hr_dwi | omega) (by first | exact hr_dro | omega) (by first | exact hr_ddr | omega) (by first | exact hr_ddt | omega) (by first | exact hr_dpe | omega) (by first | exact hr_dgu | omega) (by first | exact hr_dsh | omega) (by first | exact hr_dwo | omega) (by first | exact hr_ddn | omega) (by first | exact hr_dmi | omega) (by first | exact hr_dfl | omega) (by first | exact hr_dtk | omega) (by first | exact hr_dgo | omega) (by omega) (by omega) (by omega) hn_br hdhf hddf hdpf hdkf) ⟨va_cnB 0 hts gg_4 rfl rfl rfl (nM_K_93 hG.2.1) ini_RX7 (by decide +kernel) ⟨Nat.le_of_ble_eq_true rfl, Nat.le_of_ble_eq_true rfl⟩, im_X7_read, se_X7_read⟩ ⟨pcW.blind, (va_recv hG.1 hP (ci := 7) (q0 := 22) rfl rfl), pre9⟩ rfl rfl hlv.1 rfl (lv_room (Nat.le_of_ble_eq_true rfl)) dX11_street_20 ⟨Nat.le_of_ble_eq_true rfl, Nat.le_of_ble_eq_true rfl⟩)) hP hD hS hA hG hT [22, 21, 0, 8, 9, 10, 11, 12, 13, 14] rfl (by decide +kernel) (fun u3 H locs hw3 hq9 hS => ?_)
  obtain ⟨hq3_0, hq3_1, hq3_2, hq3_3, hq3_4, hq3_5, hq3_6, hq3_7, hq3_8, hq3_9, hq3_10, hq3_11, hq3_12, hq3_13, hq3_14, hq3_15, hq3_16⟩ := hw3
  obtain ⟨hP, hD⟩ := pd9 [zO sA 6 [vI swi, vI sro, vR s2, vR s3, vI sdr, vI sdt, vR s6, vI spe, vR s8, vI sgu, vI ssh, vR s11, vI swo, vR s13, vI sdn, vI smi, vI sfl, vI stk, vI sgo], zI s2 (cy 0) 96 shf, zI s3 (cy 0) 96 swf, zI s6 (cy 0) 56 sdf, zI s8 (cy 0) 112 spf, zI s11 (cy 0) 4 ssf, zI s13 (cy 0) 40 skf, zO pa 4 [vI cars, vR pt, vI dips, vR pd, vR ps], zI pt (cy 0) 100 tf, zI pd (cy 0) 27 df, zI ps (cy 0) 4 pshf, zO kk 11 [vR ta, vR kr, vR kl, vI nr, vI nw, vR sA, vR dA, vR pa, vR ki, vR kp, vI im, vR wa, vR or_, vR rq], zI rq (cy 0) 4 qf, zO q_1 7 [vR ta, vR dA], zO ta 8 [vR tb, vI 0, vI n, vI (u3.2.1 0), vI (u3.2.1 1), vI (u3.2.1 2), vI (u3.2.1 3)], zI tb (cy 1) 600 bf, zO dA 6 [vI (u3.2.1 4), vI (u3.2.1 5), vR d2, vR d3, vI (u3.2.1 6), vI (u3.2.1 7), vR d6, vI (u3.2.1 8), vR d8, vI 0, vI (u3.2.1 9), vR d11, vI (u3.2.1 10), vR d13, vI 0, vI 0, vI 0, vI 0, vI 0], zI d2 (cy 0) 96 (u3.2.2 0), zI d3 (cy 0) 96 (u3.2.2 5), zI d6 (cy 0) 56 (u3.2.2 1), zI d8 (cy 0) 112 (u3.2.2 2), zI d11 (cy 0) 4 (u3.2.2 3), zI d13 (cy 0) 40 (u3.2.2 4)] hq9
  refine lv_aload_n hx hb dX11_street_23 rfl (lv_at hlv 0 rfl) ?_
  refine va_get (D := D) (ci := 11) (v := vR ta) (C := RX11) (T := TX11) (N := 14) hx hb hts hi11 hown hG.1 hP 11 rfl rfl 0 (by decide) lf10 (fun _ h9 => h9) rfl dX11_street_24 ?_
  refine cjr_i [true, true, true, true, true, true, true, true, true, true, true, true, true, true, false, true, true, true, true, true, true, true, true] (fun pre9 => (va_runVN (host := "KerbSplash") (As := []) (rest := []) ⟨hx, hb, hml, hown, hts⟩ (s_good l hl D cy sa ta tb 0 n (u3.2.1 0) (u3.2.1 1) (u3.2.1 2) (u3.2.1 3) H.size (by show (0 : Int) ≤ 0 ∧ (0 : Int) ≤ 600; decide) (by omega) (by first | exact hq3_0 | omega) (by first | exact hq3_1 | omega) (by first | exact hq3_2 | omega) (by first | exact hq3_3 | omega)) ⟨va_cnB 0 hts gg_5 rfl rfl rfl (nM_K_96 hG.2.1) ini_RX8 (by decide +kernel) ⟨Nat.le_of_ble_eq_true rfl, Nat.le_of_ble_eq_true rfl⟩, im_X8_good, se_X8_good⟩ ⟨pcW.blind, (va_recv hG.1 hP (ci := 8) (q0 := 14) rfl rfl), pre9⟩ rfl rfl hlv.1 rfl (lv_room (Nat.le_of_ble_eq_true rfl)) dX11_street_27 ⟨Nat.le_of_ble_eq_true rfl, Nat.le_of_ble_eq_true rfl⟩)) hP hD hS hA hG hT [14] rfl (by decide +kernel) (fun r4 u4 H locs hw4 hq9 hS => ?_)
  obtain ⟨rfl, hq4_1, hq4_2, hq4_3⟩ := hw4
  obtain ⟨hP, hD⟩ := pd9 [zO sA 6 [vI swi, vI sro, vR s2, vR s3, vI sdr, vI sdt, vR s6, vI spe, vR s8, vI sgu, vI ssh, vR s11, vI swo, vR s13, vI sdn, vI smi, vI sfl, vI stk, vI sgo], zI s2 (cy 0) 96 shf, zI s3 (cy 0) 96 swf, zI s6 (cy 0) 56 sdf, zI s8 (cy 0) 112 spf, zI s11 (cy 0) 4 ssf, zI s13 (cy 0) 40 skf, zO pa 4 [vI cars, vR pt, vI dips, vR pd, vR ps], zI pt (cy 0) 100 tf, zI pd (cy 0) 27 df, zI ps (cy 0) 4 pshf, zO kk 11 [vR ta, vR kr, vR kl, vI nr, vI nw, vR sA, vR dA, vR pa, vR ki, vR kp, vI im, vR wa, vR or_, vR rq], zI rq (cy 0) 4 qf, zO q_1 7 [vR ta, vR dA], zI tb (cy 1) 600 bf, zO dA 6 [vI (u3.2.1 4), vI (u3.2.1 5), vR d2, vR d3, vI (u3.2.1 6), vI (u3.2.1 7), vR d6, vI (u3.2.1 8), vR d8, vI 0, vI (u3.2.1 9), vR d11, vI (u3.2.1 10), vR d13, vI 0, vI 0, vI 0, vI 0, vI 0], zI d2 (cy 0) 96 (u3.2.2 0), zI d3 (cy 0) 96 (u3.2.2 5), zI d6 (cy 0) 56 (u3.2.2 1), zI d8 (cy 0) 112 (u3.2.2 2), zI d11 (cy 0) 4 (u3.2.2 3), zI d13 (cy 0) 40 (u3.2.2 4), zO ta 8 [vR tb, vI 0, vI n, vI (u3.2.1 0), vI (u3.2.1 1), vI (u3.2.1 2), vI (u3.2.1 3)]] hq9
  refine iz_ne (tgt := 44) hx hb dX11_street_30 (by decide) (by first | exact rgw hq4_1 (by decide) (by decide) | omega) (fun c_2 => ?_) (fun c_2 => ?_)
  · refine lv_aload_n hx hb dX11_street_44 rfl (lv_at hlv 0 rfl) ?_
    refine va_get (D := D) (ci := 11) (v := vR sA) (C := RX11) (T := TX11) (N := 14) hx hb hts hi11 hown hG.1 hP 11 rfl rfl 5 (by decide) lf31 (fun _ h9 => h9) rfl dX11_street_45 ?_
    refine lv_astore_n (lv' := [(2, vR sA), (0, vR kk), (1, vI n)]) hx hb dX11_street_48 rfl hlv (by decide) rfl (fun ls hlv => ?_)
    refine lv_aload_n hx hb dX11_street_49 rfl (lv_at hlv 1 rfl) ?_
    refine lv_aload_n hx hb dX11_street_50 rfl (lv_at hlv 1 rfl) ?_
    refine va_get (D := D) (ci := 11) (v := vR dA) (C := RX11) (T := TX11) (N := 14) hx hb hts hi11 hown hG.1 hP 11 rfl rfl 6 (by decide) lf35 (fun _ h9 => h9) rfl dX11_street_51 ?_
    refine va_put (D := D) (ci := 11) (v := vR dA) (ty := .object "KerbSplash$Street") (C := RX11) (T := TX11) (N := 14) hx hb hts hi11 tyX11 tyX11_ok nmX11 hown hG.1 hP hD hS 11 rfl rfl 5 (by decide) lf31 (fun _ h9 => h9) rfl (by decide +kernel) rfl rfl (Nat.le_of_ble_eq_true rfl) dX11_street_54 (fun H locs hP hD hS => ?_)
    obtain ⟨hP, hD⟩ := pw9 [zO sA 6 [vI swi, vI sro, vR s2, vR s3, vI sdr, vI sdt, vR s6, vI spe, vR s8, vI sgu, vI ssh, vR s11, vI swo, vR s13, vI sdn, vI smi, vI sfl, vI stk, vI sgo], zI s2 (cy 0) 96 shf, zI s3 (cy 0) 96 swf, zI s6 (cy 0) 56 sdf, zI s8 (cy 0) 112 spf, zI s11 (cy 0) 4 ssf, zI s13 (cy 0) 40 skf, zO pa 4 [vI cars, vR pt, vI dips, vR pd, vR ps], zI pt (cy 0) 100 tf, zI pd (cy 0) 27 df, zI ps (cy 0) 4 pshf, zO kk 11 [vR ta, vR kr, vR kl, vI nr, vI nw, vR dA, vR dA, vR pa, vR ki, vR kp, vI im, vR wa, vR or_, vR rq], zI rq (cy 0) 4 qf, zO q_1 7 [vR ta, vR dA], zI tb (cy 1) 600 bf, zO dA 6 [vI (u3.2.1 4), vI (u3.2.1 5), vR d2, vR d3, vI (u3.2.1 6), vI (u3.2.1 7), vR d6, vI (u3.2.1 8), vR d8, vI 0, vI (u3.2.1 9), vR d11, vI (u3.2.1 10), vR d13, vI 0, vI 0, vI 0, vI 0, vI 0], zI d2 (cy 0) 96 (u3.2.2 0), zI d3 (cy 0) 96 (u3.2.2 5), zI d6 (cy 0) 56 (u3.2.2 1), zI d8 (cy 0) 112 (u3.2.2 2), zI d11 (cy 0) 4 (u3.2.2 3), zI d13 (cy 0) 40 (u3.2.2 4), zO ta 8 [vR tb, vI 0, vI n, vI (u3.2.1 0), vI (u3.2.1 1), vI (u3.2.1 2), vI (u3.2.1 3)]] hP hD
    refine lv_aload_n hx hb dX11_street_57 rfl (lv_at hlv 1 rfl) ?_
    refine lv_aload_n hx hb dX11_street_58 rfl (lv_at hlv 0 rfl) ?_
    refine va_put (D := D) (ci := 11) (v := vR sA) (ty := .object "KerbSplash$Street") (C := RX11) (T := TX11) (N := 14) hx hb hts hi11 tyX11 tyX11_ok nmX11 hown hG.1 hP hD hS 11 rfl rfl 6 (by decide) lf35 (fun _ h9 => h9) rfl (by decide +kernel) rfl rfl (Nat.le_of_ble_eq_true rfl) dX11_street_59 (fun H locs hP hD hS => ?_)
    obtain ⟨hP, hD⟩ := pw9 [zO sA 6 [vI swi, vI sro, vR s2, vR s3, vI sdr, vI sdt, vR s6, vI spe, vR s8, vI sgu, vI ssh, vR s11, vI swo, vR s13, vI sdn, vI smi, vI sfl, vI stk, vI sgo], zI s2 (cy 0) 96 shf, zI s3 (cy 0) 96 swf, zI s6 (cy 0) 56 sdf, zI s8 (cy 0) 112 spf, zI s11 (cy 0) 4 ssf, zI s13 (cy 0) 40 skf, zO pa 4 [vI cars, vR pt, vI dips, vR pd, vR ps], zI pt (cy 0) 100 tf, zI pd (cy 0) 27 df, zI ps (cy 0) 4 pshf, zO kk 11 [vR ta, vR kr, vR kl, vI nr, vI nw, vR dA, vR sA, vR pa, vR ki, vR kp, vI im, vR wa, vR or_, vR rq], zI rq (cy 0) 4 qf, zO q_1 7 [vR ta, vR dA], zI tb (cy 1) 600 bf, zO dA 6 [vI (u3.2.1 4), vI (u3.2.1 5), vR d2, vR d3, vI (u3.2.1 6), vI (u3.2.1 7), vR d6, vI (u3.2.1 8), vR d8, vI 0, vI (u3.2.1 9), vR d11, vI (u3.2.1 10), vR d13, vI 0, vI 0, vI 0, vI 0, vI 0], zI d2 (cy 0) 96 (u3.2.2 0), zI d3 (cy 0) 96 (u3.2.2 5), zI d6 (cy 0) 56 (u3.2.2 1), zI d8 (cy 0) 112 (u3.2.2 2), zI d11 (cy 0) 4 (u3.2.2 3), zI d13 (cy 0) 40 (u3.2.2 4), zO ta 8 [vR tb, vI 0, vI n, vI (u3.2.1 0), vI (u3.2.1 1), vI (u3.2.1 2), vI (u3.2.1 3)]] hP hD
    refine lv_aload_n hx hb dX11_street_62 rfl (lv_at hlv 1 rfl) ?_
    refine va_get (D := D) (ci := 11) (v := vR pa) (C := RX11) (T := TX11) (N := 14) hx hb hts hi11 hown hG.1 hP 11 rfl rfl 7 (by decide) lf41 (fun _ h9 => h9) rfl dX11_street_63 ?_
    refine cjr_v [true, true, true, true, true, true, true, false, true, true, false, true, true, true, true, true, true, true, true, true, true, true, true] (fun pre9 => (va_runVN (host := "KerbSplash") (As := []) (rest := []) ⟨hx, hb, hml, hown, hts⟩ (e_reset l hl D cy sa pa pt pd ps cars dips pshf H.size (by first | exact hr_cars | omega) (by first | exact hr_dips | omega)) ⟨va_cnB 0 hts gg_6 rfl rfl rfl (nM_K_102 hG.2.1) ini_RX4 (by decide +kernel) ⟨Nat.le_of_ble_eq_true rfl, Nat.le_of_ble_eq_true rfl⟩, im_X4_reset, se_X4_reset⟩ ⟨pcW.blind, (va_recv hG.1 hP (ci := 4) (q0 := 7) rfl rfl), pre9⟩ rfl rfl hlv.1 rfl (lv_room (Nat.le_of_ble_eq_true rfl)) dX11_street_66 ⟨Nat.le_of_ble_eq_true rfl, Nat.le_of_ble_eq_true rfl⟩)) hP hD hS hA hG hT [7, 10] rfl (by decide +kernel) (fun u5 H locs hw5 hq9 hS => ?_)
    have hq5_0 : (∀ j : Nat, j < 4 → nz (u5.2.2 0) j = 1) := hw5
    obtain ⟨hP, hD⟩ := pd9 [zO sA 6 [vI swi, vI sro, vR s2, vR s3, vI sdr, vI sdt, vR s6, vI spe, vR s8, vI sgu, vI ssh, vR s11, vI swo, vR s13, vI sdn, vI smi, vI sfl, vI stk, vI sgo], zI s2 (cy 0) 96 shf, zI s3 (cy 0) 96 swf, zI s6 (cy 0) 56 sdf, zI s8 (cy 0) 112 spf, zI s11 (cy 0) 4 ssf, zI s13 (cy 0) 40 skf, zI pt (cy 0) 100 tf, zI pd (cy 0) 27 df, zO kk 11 [vR ta, vR kr, vR kl, vI nr, vI nw, vR dA, vR sA, vR pa, vR ki, vR kp, vI im, vR wa, vR or_, vR rq], zI rq (cy 0) 4 qf, zO q_1 7 [vR ta, vR dA], zI tb (cy 1) 600 bf, zO dA 6 [vI (u3.2.1 4), vI (u3.2.1 5), vR d2, vR d3, vI (u3.2.1 6), vI (u3.2.1 7), vR d6, vI (u3.2.1 8), vR d8, vI 0, vI (u3.2.1 9), vR d11, vI (u3.2.1 10), vR d13, vI 0, vI 0, vI 0, vI 0, vI 0], zI d2 (cy 0) 96 (u3.2.2 0), zI d3 (cy 0) 96 (u3.2.2 5), zI d6 (cy 0) 56 (u3.2.2 1), zI d8 (cy 0) 112 (u3.2.2 2), zI d11 (cy 0) 4 (u3.2.2 3), zI d13 (cy 0) 40 (u3.2.2 4), zO ta 8 [vR tb, vI 0, vI n, vI (u3.2.1 0), vI (u3.2.1 1), vI (u3.2.1 2), vI (u3.2.1 3)], zO pa 4 [vI 0, vR pt, vI 0, vR pd, vR ps], zI ps (cy 0) 4 (u5.2.2 0)] hq9
    refine lv_aload_n hx hb dX11_street_69 rfl (lv_at hlv 1 rfl) ?_
    refine lv_iconst (v := iI 0) hx hb dX11_street_70 (by decide) ?_
    refine va_put (D := D) (ci := 11) (v := vI 0) (ty := .int) (C := RX11) (T := TX11) (N := 14) hx hb hts hi11 tyX11 tyX11_ok nmX11 hown hG.1 hP hD hS 9 rfl rfl 10 (by decide) lf105 (fun _ h9 => h9) rfl (by decide +kernel) rfl rfl (Nat.le_of_ble_eq_true rfl) dX11_street_71 (fun H locs hP hD hS => ?_)
    obtain ⟨hP, hD⟩ := pw9 [zO sA 6 [vI swi, vI sro, vR s2, vR s3, vI sdr, vI sdt, vR s6, vI spe, vR s8, vI sgu, vI ssh, vR s11, vI swo, vR s13, vI sdn, vI smi, vI sfl, vI stk, vI sgo], zI s2 (cy 0) 96 shf, zI s3 (cy 0) 96 swf, zI s6 (cy 0) 56 sdf, zI s8 (cy 0) 112 spf, zI s11 (cy 0) 4 ssf, zI s13 (cy 0) 40 skf, zI pt (cy 0) 100 tf, zI pd (cy 0) 27 df, zO kk 11 [vR ta, vR kr, vR kl, vI nr, vI nw, vR dA, vR sA, vR pa, vR ki, vR kp, vI 0, vR wa, vR or_, vR rq], zI rq (cy 0) 4 qf, zO q_1 7 [vR ta, vR dA], zI tb (cy 1) 600 bf, zO dA 6 [vI (u3.2.1 4), vI (u3.2.1 5), vR d2, vR d3, vI (u3.2.1 6), vI (u3.2.1 7), vR d6, vI (u3.2.1 8), vR d8, vI 0, vI (u3.2.1 9), vR d11, vI (u3.2.1 10), vR d13, vI 0, vI 0, vI 0, vI 0, vI 0], zI d2 (cy 0) 96 (u3.2.2 0), zI d3 (cy 0) 96 (u3.2.2 5), zI d6 (cy 0) 56 (u3.2.2 1), zI d8 (cy 0) 112 (u3.2.2 2), zI d11 (cy 0) 4 (u3.2.2 3), zI d13 (cy 0) 40 (u3.2.2 4), zO ta 8 [vR tb, vI 0, vI n, vI (u3.2.1 0), vI (u3.2.1 1), vI (u3.2.1 2), vI (u3.2.1 3)], zO pa 4 [vI 0, vR pt, vI 0, vR pd, vR ps], zI ps (cy 0) 4 (u5.2.2 0)] hP hD
    refine lv_aload_n hx hb dX11_street_74 rfl (lv_at hlv 1 rfl) ?_
    refine va_get (D := D) (ci := 11) (v := vR dA) (C := RX11) (T := TX11) (N := 14) hx hb hts hi11 hown hG.1 hP 9 rfl rfl 5 (by decide) lf31 (fun _ h9 => h9) rfl dX11_street_75 ?_
    refine cjr_i [true, true, true, true, true, true, true, true, true, true, true, true, true, false, true, true, true, true, true, true, true, true, true] (fun pre9 => (va_runVN (host := "KerbSplash") (As := []) (rest := []) ⟨hx, hb, hml, hown, hts⟩ (e_cells l hl D cy sa dA d2 d3 d6 d8 d11 d13 (u3.2.1 4) (u3.2.1 5) (u3.2.1 6) (u3.2.1 7) (u3.2.1 8) 0 (u3.2.1 9) (u3.2.1 10) 0 0 0 0 0 H.size (by first | exact hq3_4 | omega) (by first | exact rgw hq3_5 (by decide) (by decide) | omega) (by first | exact rgw hq3_6 (by decide) (by decide) | omega) (by first | exact hq3_7 | omega) (by first | exact hq3_8 | omega) (by show (0 : Int) ≤ 0 ∧ (0 : Int) ≤ 20; decide) (by first | exact hq3_9 | omega) (by first | exact hq3_10 | omega) (by show ((-2147483648) : Int) ≤ 0 ∧ (0 : Int) ≤ 2147483647; decide) (by show (0 : Int) ≤ 0 ∧ (0 : Int) ≤ 600; decide) (by show ((-2147483648) : Int) ≤ 0 ∧ (0 : Int) ≤ 2147483647; decide) (by show ((-2147483648) : Int) ≤ 0 ∧ (0 : Int) ≤ 2147483647; decide) (by show ((-2147483648) : Int) ≤ 0 ∧ (0 : Int) ≤ 2147483647; decide)) ⟨va_cnB 0 hts gg_7 rfl rfl rfl (nM_K_108 hG.2.1) ini_RX6 (by decide +kernel) ⟨Nat.le_of_ble_eq_true rfl, Nat.le_of_ble_eq_true rfl⟩, im_X6_cells, se_X6_cells⟩ ⟨pcW.blind, (va_recv hG.1 hP (ci := 6) (q0 := 13) rfl rfl), pre9⟩ rfl rfl hlv.1 rfl (lv_room (Nat.le_of_ble_eq_true rfl)) dX11_street_78 ⟨Nat.le_of_ble_eq_true rfl, Nat.le_of_ble_eq_true rfl⟩)) hP hD hS hA hG hT [13] rfl (by decide +kernel) (fun r6 u6 H locs hw6 hq9 hS => ?_)
    obtain ⟨rfl, hq6_1, hq6_2⟩ := hw6
    obtain ⟨hP, hD⟩ := pd9 [zO sA 6 [vI swi, vI sro, vR s2, vR s3, vI sdr, vI sdt, vR s6, vI spe, vR s8, vI sgu, vI ssh, vR s11, vI swo, vR s13, vI sdn, vI smi, vI sfl, vI stk, vI sgo], zI s2 (cy 0) 96 shf, zI s3 (cy 0) 96 swf, zI s6 (cy 0) 56 sdf, zI s8 (cy 0) 112 spf, zI s11 (cy 0) 4 ssf, zI s13 (cy 0) 40 skf, zI pt (cy 0) 100 tf, zI pd (cy 0) 27 df, zO kk 11 [vR ta, vR kr, vR kl, vI nr, vI nw, vR dA, vR sA, vR pa, vR ki, vR kp, vI 0, vR wa, vR or_, vR rq], zI rq (cy 0) 4 qf, zO q_1 7 [vR ta, vR dA], zI tb (cy 1) 600 bf, zI d2 (cy 0) 96 (u3.2.2 0), zI d3 (cy 0) 96 (u3.2.2 5), zI d6 (cy 0) 56 (u3.2.2 1), zI d8 (cy 0) 112 (u3.2.2 2), zI d11 (cy 0) 4 (u3.2.2 3), zI d13 (cy 0) 40 (u3.2.2 4), zO ta 8 [vR tb, vI 0, vI n, vI (u3.2.1 0), vI (u3.2.1 1), vI (u3.2.1 2), vI (u3.2.1 3)], zO pa 4 [vI 0, vR pt, vI 0, vR pd, vR ps], zI ps (cy 0) 4 (u5.2.2 0), zO dA 6 [vI (u3.2.1 4), vI (u3.2.1 5), vR d2, vR d3, vI (u3.2.1 6), vI (u3.2.1 7), vR d6, vI (u3.2.1 8), vR d8, vI 0, vI (u3.2.1 9), vR d11, vI (u3.2.1 10), vR d13, vI 0, vI 0, vI 0, vI 0, vI 0]] hq9
    refine W.widen (k := 2) (n := 8) (Nat.le_of_ble_eq_true rfl) (Nat.le_of_ble_eq_true rfl) ?_
    refine vx_ret ?_
    exact W.iret (v := iI (u6.2.1 0)) hx hb hr (fun t ht hW => ⟨⟨iI (u6.2.1 0), ((fun k => ([dA, d2, d3, d6, d8, d11, d13, sA, s2, s3, s6, s8, s11, s13] : List Nat).getD k 0), (fun k => ([(u6.2.1 0), 0, n, (u3.2.1 0), (u3.2.1 1), (u3.2.1 2), (u3.2.1 3), 0, 0, 0, (u3.2.1 4), (u3.2.1 5), (u3.2.1 6), (u3.2.1 7), (u3.2.1 8), 0, (u3.2.1 9), (u3.2.1 10), 0, 0, 0, 0, 0, swi, sro, sdr, sdt, spe, sgu, ssh, swo, sdn, smi, sfl, stk, sgo, 0, 0, 0, 0, 0, 0, 0] : List Int).getD k 0), (fun k => ([(u3.2.2 0), (u3.2.2 5), (u3.2.2 1), (u3.2.2 2), (u3.2.2 3), (u3.2.2 4), shf, swf, sdf, spf, ssf, skf, (u5.2.2 0)] : List (Nat → Int32)).getD k (fun _ => 0))), rfl, ⟨rfl, (by show ((-2147483648) ≤ (u6.2.1 0) ∧ (u6.2.1 0) ≤ 2147483647); first | exact rgw hq6_1 (by decide) (by decide) | omega), (by show (0 ≤ 0 ∧ 0 ≤ 600); show (0 : Int) ≤ 0 ∧ (0 : Int) ≤ 600; decide), (by show (0 ≤ n ∧ n ≤ 600); omega), (by show (0 ≤ (u3.2.1 0) ∧ (u3.2.1 0) ≤ 600); first | exact hq3_0 | omega), (by show (0 ≤ (u3.2.1 1) ∧ (u3.2.1 1) ≤ 600); first | exact hq3_1 | omega), (by show (0 ≤ (u3.2.1 2) ∧ (u3.2.1 2) ≤ 4); first | exact hq3_2 | omega), (by show ((-1) ≤ (u3.2.1 3) ∧ (u3.2.1 3) ≤ 600); first | exact hq3_3 | omega), (by show (0 ≤ (u3.2.1 4) ∧ (u3.2.1 4) ≤ 16); first | exact hq3_4 | omega), (by show (0 ≤ (u3.2.1 5) ∧ (u3.2.1 5) ≤ 6); first | exact rgw hq3_5 (by decide) (by decide) | omega), (by show (0 ≤ (u3.2.1 6) ∧ (u3.2.1 6) ≤ 14); first | exact rgw hq3_6 (by decide) (by decide) | omega), (by show (0 ≤ (u3.2.1 7) ∧ (u3.2.1 7) ≤ 6); first | exact hq3_7 | omega), (by show (0 ≤ (u3.2.1 8) ∧ (u3.2.1 8) ≤ 8); first | exact hq3_8 | omega), (by show (0 ≤ 0 ∧ 0 ≤ 20); show (0 : Int) ≤ 0 ∧ (0 : Int) ≤ 20; decide), (by show (0 ≤ (u3.2.1 9) ∧ (u3.2.1 9) ≤ 2); first | exact hq3_9 | omega), (by show (0 ≤ (u3.2.1 10) ∧ (u3.2.1 10) ≤ 8); first | exact hq3_10 | omega), (by show ((-2147483648) ≤ 0 ∧ 0 ≤ 2147483647); show ((-2147483648) : Int) ≤ 0 ∧ (0 : Int) ≤ 2147483647; decide), (by show (0 ≤ 0 ∧ 0 ≤ 600); show (0 : Int) ≤ 0 ∧ (0 : Int) ≤ 600; decide), (by show ((-2147483648) ≤ 0 ∧ 0 ≤ 2147483647); show ((-2147483648) : Int) ≤ 0 ∧ (0 : Int) ≤ 2147483647; decide), (by show ((-2147483648) ≤ 0 ∧ 0 ≤ 2147483647); show ((-2147483648) : Int) ≤ 0 ∧ (0 : Int) ≤ 2147483647; decide), (by show ((-2147483648) ≤ 0 ∧ 0 ≤ 2147483647); show ((-2147483648) : Int) ≤ 0 ∧ (0 : Int) ≤ 2147483647; decide), (by show (0 ≤ swi ∧ swi ≤ 16); first | exact hr_swi | omega), (by show (0 ≤ sro ∧ sro ≤ 6); first | exact hr_sro | omega), (by show (0 ≤ sdr ∧ sdr ≤ 14); first | exact hr_sdr | omega), (by show (0 ≤ sdt ∧ sdt ≤ 6); first | exact hr_sdt | omega), (by show (0 ≤ spe ∧ spe ≤ 8); first | exact hr_spe | omega), (by show (0 ≤ sgu ∧ sgu ≤ 20); first | exact hr_sgu | omega), (by show (0 ≤ ssh ∧ ssh ≤ 2); first | exact hr_ssh | omega), (by show (0 ≤ swo ∧ swo ≤ 8); first | exact hr_swo | omega), (by show ((-2147483648) ≤ sdn ∧ sdn ≤ 2147483647); first | exact hr_sdn | omega), (by show (0 ≤ smi ∧ smi ≤ 600); first | exact hr_smi | omega), (by show ((-2147483648) ≤ sfl ∧ sfl ≤ 2147483647); first | exact hr_sfl | omega), (by show ((-2147483648) ≤ stk ∧ stk ≤ 2147483647); first | exact hr_stk | omega), (by show ((-2147483648) ≤ sgo ∧ sgo ≤ 2147483647); first | exact hr_sgo | omega), (by show (0 ≤ 0 ∧ 0 ≤ 3); show (0 : Int) ≤ 0 ∧ (0 : Int) ≤ 3; decide), (by show (0 ≤ 0 ∧ 0 ≤ 20); show (0 : Int) ≤ 0 ∧ (0 : Int) ≤ 20; decide), (by show (0 ≤ 0 ∧ 0 ≤ 9); show (0 : Int) ≤ 0 ∧ (0 : Int) ≤ 9; decide), (by show (0 ≤ n ∧ n ≤ fed ∧ 0 = 0); omega), (by show (0 < (u3.2.1 4) → 1 ≤ (u3.2.1 5)); omega), (by show ((STV gq n).1.1 = 0 → DRL (STV gq n).2.1 (STV gq n).2.2 ((u3.2.1 4)) ((u3.2.1 5)) ((u3.2.1 6)) ((u3.2.1 7)) ((u3.2.1 8)) ((u3.2.1 9)) ((u3.2.1 10)) ((u3.2.2 0)) ((u3.2.2 1)) ((u3.2.2 2)) ((u3.2.2 3)) ((u3.2.2 4)) ∧ (0) = 0 ∧ (0) = 0 ∧ (0) = 0 ∧ (0) = 0 ∧ (0) = 0 ∧ (0) = 0 ∧ (∀ j : Nat, j < 96 → nz ((u3.2.2 5)) j = 0) ∧ (0) = 0 ∧ (0) = 0 ∧ (0) = 0 ∧ ∀ j : Nat, j < 4 → nz ((u5.2.2 0)) j = 1); exact (fun h9 => ⟨(hq3_11.2 (by omega)).2, rfl, rfl, rfl, rfl, rfl, rfl, hq3_12, rfl, rfl, rfl, hq5_0⟩)), (by show ((STV gq n).1.1 ≠ 0 → ((u3.2.1 4)) = swi ∧ ((u3.2.1 5)) = sro ∧ ((u3.2.1 6)) = sdr ∧ ((u3.2.1 7)) = sdt ∧ ((u3.2.1 8)) = spe ∧ (0) = sgu ∧ ((u3.2.1 9)) = ssh ∧ ((u3.2.1 10)) = swo ∧ (0) = sdn ∧ (0) = smi ∧ (0) = sfl ∧ (0) = stk ∧ (0) = sgo ∧ ((u3.2.2 0)) = shf ∧ ((u3.2.2 5)) = swf ∧ ((u3.2.2 1)) = sdf ∧ ((u3.2.2 2)) = spf ∧ ((u3.2.2 3)) = ssf ∧ ((u3.2.2 4)) = skf ∧ (0) = im ∧ (0) = cars ∧ (0) = dips ∧ ((u5.2.2 0)) = pshf); exact (fun h9 => by have q9 := hq3_11.2 (by omega); exact absurd (show (STV gq n).1.1 = 0 by rw [q9.1]) h9)), (by show (0 ≤ n ∧ n ≤ fed → ((STV gq n).1.1 = 0 → ((u6.2.1 0)) = (STV gq n).2.1 0 * (STV gq n).2.1 1) ∧ ((STV gq n).1.1 ≠ 0 → ((u6.2.1 0)) = (STV gq n).1.1 - 10)); exact (fun _ => by have q9 := hq3_11.2 (by omega); have q8 := q9.2.1; rw [q9.1]; exact ⟨fun _ => by rw [← q8.1, ← q8.2.1]; exact hq6_2, fun h9 => absurd rfl h9⟩)), hq3_13, hq3_14, hq3_15, hq3_16, hshf, hsdf, hspf, hskf, htf⟩, at9 ht hP hD [9, 10, 19, 12, 22, 13, 14, 15, 16, 17, 18, 0, 1, 2, 3, 4, 5, 6, 20, 7, 8, 21] (by decide +kernel) rfl⟩, hS.F ht⟩) hS.2.2 dX11_street_81
  · refine lv_aload_n hx hb dX11_street_33 rfl (lv_at hlv 0 rfl) ?_
    refine va_get (D := D) (ci := 11) (v := vR ta) (C := RX11) (T := TX11) (N := 14) hx hb hts hi11 hown hG.1 hP 11 rfl rfl 0 (by decide) lf10 (fun _ h9 => h9) rfl dX11_street_34 ?_
    refine va_getN (D := D) (ci := 8) (v := vI (u3.2.1 2)) (C := RX8) (T := TX8) (N := 7) hx hb hts hi8 hown hG.1 hP 22 rfl rfl 5 (by decide) (va_Nw.use rfl (nF_K_99 hG.2.1)) (fun _ h9 => h9) rfl dX11_street_37 ?_
    refine lv_bipush (v := iI 10) hx hb dX11_street_40 (by decide) ?_
    refine lv_isub hx hb dX11_street_42 ?_
    refine lt_e (e0 := (u3.2.1 2) - 10) (Int32.ofInt_sub _ _).symm (fun z_3 hz_3 => ?_)
    refine W.widen (k := 2) (n := 8) (Nat.le_of_ble_eq_true rfl) (Nat.le_of_ble_eq_true rfl) ?_
    refine vx_ret ?_
    exact W.iret (v := iI z_3) hx hb hr (fun t ht hW => ⟨⟨iI z_3, ((fun k => ([sA, s2, s3, s6, s8, s11, s13, dA, d2, d3, d6, d8, d11, d13] : List Nat).getD k 0), (fun k => ([z_3, 0, n, (u3.2.1 0), (u3.2.1 1), (u3.2.1 2), (u3.2.1 3), 0, 0, 0, swi, sro, sdr, sdt, spe, sgu, ssh, swo, sdn, smi, sfl, stk, sgo, (u3.2.1 4), (u3.2.1 5), (u3.2.1 6), (u3.2.1 7), (u3.2.1 8), 0, (u3.2.1 9), (u3.2.1 10), 0, 0, 0, 0, 0, 0, 0, 0, 0, im, cars, dips] : List Int).getD k 0), (fun k => ([shf, swf, sdf, spf, ssf, skf, (u3.2.2 0), (u3.2.2 5), (u3.2.2 1), (u3.2.2 2), (u3.2.2 3), (u3.2.2 4), pshf] : List (Nat → Int32)).getD k (fun _ => 0))), rfl, ⟨rfl, (by show ((-2147483648) ≤ z_3 ∧ z_3 ≤ 2147483647); omega), (by show (0 ≤ 0 ∧ 0 ≤ 600); show (0 : Int) ≤ 0 ∧ (0 : Int) ≤ 600; decide), (by show (0 ≤ n ∧ n ≤ 600); omega), (by show (0 ≤ (u3.2.1 0) ∧ (u3.2.1 0) ≤ 600); first | exact hq3_0 | omega), (by show (0 ≤ (u3.2.1 1) ∧ (u3.2.1 1) ≤ 600); first | exact hq3_1 | omega), (by show (0 ≤ (u3.2.1 2) ∧ (u3.2.1 2) ≤ 4); first | exact hq3_2 | omega), (by show ((-1) ≤ (u3.2.1 3) ∧ (u3.2.1 3) ≤ 600); first | exact hq3_3 | omega), (by show (0 ≤ swi ∧ swi ≤ 16); first | exact hr_swi | omega), (by show (0 ≤ sro ∧ sro ≤ 6); first | exact hr_sro | omega), (by show (0 ≤ sdr ∧ sdr ≤ 14); first | exact hr_sdr | omega), (by show (0 ≤ sdt ∧ sdt ≤ 6); first | exact hr_sdt | omega), (by show (0 ≤ spe ∧ spe ≤ 8); first | exact hr_spe | omega), (by show (0 ≤ sgu ∧ sgu ≤ 20); first | exact hr_sgu | omega), (by show (0 ≤ ssh ∧ ssh ≤ 2); first | exact hr_ssh | omega), (by show (0 ≤ swo ∧ swo ≤ 8); first | exact hr_swo | omega), (by show ((-2147483648) ≤ sdn ∧ sdn ≤ 2147483647); first | exact hr_sdn | omega), (by show (0 ≤ smi ∧ smi ≤ 600); first | exact hr_smi | omega), (by show ((-2147483648) ≤ sfl ∧ sfl ≤ 2147483647); first | exact hr_sfl | omega), (by show ((-2147483648) ≤ stk ∧ stk ≤ 2147483647); first | exact hr_stk | omega), (by show ((-2147483648) ≤ sgo ∧ sgo ≤ 2147483647); first | exact hr_sgo | omega), (by show (0 ≤ (u3.2.1 4) ∧ (u3.2.1 4) ≤ 16); first | exact hq3_4 | omega), (by show (0 ≤ (u3.2.1 5) ∧ (u3.2.1 5) ≤ 6); first | exact rgw hq3_5 (by decide) (by decide) | omega), (by show (0 ≤ (u3.2.1 6) ∧ (u3.2.1 6) ≤ 14); first | exact rgw hq3_6 (by decide) (by decide) | omega), (by show (0 ≤ (u3.2.1 7) ∧ (u3.2.1 7) ≤ 6); first | exact hq3_7 | omega), (by show (0 ≤ (u3.2.1 8) ∧ (u3.2.1 8) ≤ 8); first | exact hq3_8 | omega), (by show (0 ≤ 0 ∧ 0 ≤ 20); show (0 : Int) ≤ 0 ∧ (0 : Int) ≤ 20; decide), (by show (0 ≤ (u3.2.1 9) ∧ (u3.2.1 9) ≤ 2); first | exact hq3_9 | omega), (by show (0 ≤ (u3.2.1 10) ∧ (u3.2.1 10) ≤ 8); first | exact hq3_10 | omega), (by show ((-2147483648) ≤ 0 ∧ 0 ≤ 2147483647); show ((-2147483648) : Int) ≤ 0 ∧ (0 : Int) ≤ 2147483647; decide), (by show (0 ≤ 0 ∧ 0 ≤ 600); show (0 : Int) ≤ 0 ∧ (0 : Int) ≤ 600; decide), (by show ((-2147483648) ≤ 0 ∧ 0 ≤ 2147483647); show ((-2147483648) : Int) ≤ 0 ∧ (0 : Int) ≤ 2147483647; decide), (by show ((-2147483648) ≤ 0 ∧ 0 ≤ 2147483647); show ((-2147483648) : Int) ≤ 0 ∧ (0 : Int) ≤ 2147483647; decide), (by show ((-2147483648) ≤ 0 ∧ 0 ≤ 2147483647); show ((-2147483648) : Int) ≤ 0 ∧ (0 : Int) ≤ 2147483647; decide), (by show (0 ≤ im ∧ im ≤ 3); first | exact hr_im | omega), (by show (0 ≤ cars ∧ cars ≤ 20); first | exact hr_cars | omega), (by show (0 ≤ dips ∧ dips ≤ 9); first | exact hr_dips | omega), (by show (0 ≤ n ∧ n ≤ fed ∧ 0 = 0); omega), (by show (0 < swi → 1 ≤ sro); omega), (by show ((STV gq n).1.1 = 0 → DRL (STV gq n).2.1 (STV gq n).2.2 (swi) (sro) (sdr) (sdt) (spe) (ssh) (swo) (shf) (sdf) (spf) (ssf) (skf) ∧ (sgu) = 0 ∧ (sdn) = 0 ∧ (smi) = 0 ∧ (sfl) = 0 ∧ (stk) = 0 ∧ (sgo) = 0 ∧ (∀ j : Nat, j < 96 → nz (swf) j = 0) ∧ (im) = 0 ∧ (cars) = 0 ∧ (dips) = 0 ∧ ∀ j : Nat, j < 4 → nz (pshf) j = 1); exact (fun h9 => by have q9 := hq3_11.1 (by omega); rw [q9] at h9; exact absurd (show (u3.2.1 2) = 0 from h9) (by omega))), (by show ((STV gq n).1.1 ≠ 0 → (swi) = swi ∧ (sro) = sro ∧ (sdr) = sdr ∧ (sdt) = sdt ∧ (spe) = spe ∧ (sgu) = sgu ∧ (ssh) = ssh ∧ (swo) = swo ∧ (sdn) = sdn ∧ (smi) = smi ∧ (sfl) = sfl ∧ (stk) = stk ∧ (sgo) = sgo ∧ (shf) = shf ∧ (swf) = swf ∧ (sdf) = sdf ∧ (spf) = spf ∧ (ssf) = ssf ∧ (skf) = skf ∧ (im) = im ∧ (cars) = cars ∧ (dips) = dips ∧ (pshf) = pshf); exact (fun _ => ⟨rfl, rfl, rfl, rfl, rfl, rfl, rfl, rfl, rfl, rfl, rfl, rfl, rfl, rfl, rfl, rfl, rfl, rfl, rfl, rfl, rfl, rfl, rfl⟩)), (by show (0 ≤ n ∧ n ≤ fed → ((STV gq n).1.1 = 0 → (z_3) = (STV gq n).2.1 0 * (STV gq n).2.1 1) ∧ ((STV gq n).1.1 ≠ 0 → (z_3) = (STV gq n).1.1 - 10)); exact (fun _ => by have q9 := hq3_11.1 (by omega); rw [q9]; exact ⟨fun h9 => absurd (show (u3.2.1 2) = 0 from h9) (by omega), fun _ => by show z_3 = (u3.2.1 2) - 10; omega⟩)), hshf, hsdf, hspf, hskf, hq3_13, hq3_14, hq3_15, hq3_16, htf⟩, at9 ht hP hD [11, 12, 22, 14, 0, 1, 2, 3, 4, 5, 6, 15, 16, 17, 18, 19, 20, 21, 7, 8, 9, 10] (by decide +kernel) rfl⟩, hS.F ht⟩) hS.2.2 dX11_street_43
end
section

def vs_ew_street : List Cond := .codeWith yL_street cL_street 4 (some .int) [(0, 9, 12, 13)] :: (([.classLink RL 13 "java/lang/IllegalArgumentException"] : List Cond) ++ ((wsV RL 7 RX11 yX11_street vs_e_kstreet) ++ ([])))
set_option maxHeartbeats 4000000 in
set_option maxRecDepth 100000 in
theorem ew_street (l : Launch) (hl : l.stackTraces = false) (D : va_G) (cy : Nat → ClassId) (sa : Nat → Nat) (kk ta kr kl sA dA pa ki kp wa or_ rq : Nat) (nr nw im : Int) (qf : Nat → Int32) (tb : Nat) (fed len at_ we fa fp : Int) (bf : Nat → Int32) (s2 s3 s6 s8 s11 s13 : Nat) (swi sro sdr sdt spe sgu ssh swo sdn smi sfl stk sgo : Int) (shf swf sdf spf ssf skf : Nat → Int32) (d2 d3 d6 d8 d11 d13 : Nat) (dwi dro ddr ddt dpe dgu dsh dwo ddn dmi dfl dtk dgo : Int) (dhf dwf ddf dpf dsf dkf : Nat → Int32) (pt pd ps : Nat) (cars dips : Int) (tf df pshf : Nat → Int32) (n : Int) (gq : Nat → Int) (ao : Nat) (av : Int) (sz : Nat) (hr_nr : 0 ≤ nr ∧ nr ≤ 4) (hr_nw : 0 ≤ nw ∧ nw ≤ 4) (hr_im : 0 ≤ im ∧ im ≤ 3) (hr_fed : 0 ≤ fed ∧ fed ≤ 600) (hr_len : 0 ≤ len ∧ len ≤ 600) (hr_at_ : 0 ≤ at_ ∧ at_ ≤ 600) (hr_we : 0 ≤ we ∧ we ≤ 600) (hr_fa : 0 ≤ fa ∧ fa ≤ 4) (hr_fp : (-1) ≤ fp ∧ fp ≤ 600) (hr_swi : 0 ≤ swi ∧ swi ≤ 16) (hr_sro : 0 ≤ sro ∧ sro ≤ 6) (hr_sdr : 0 ≤ sdr ∧ sdr ≤ 14) (hr_sdt : 0 ≤ sdt ∧ sdt ≤ 6) (hr_spe : 0 ≤ spe ∧ spe ≤ 8) (hr_sgu : 0 ≤ sgu ∧ sgu ≤ 20) (hr_ssh : 0 ≤ ssh ∧ ssh ≤ 2) (hr_swo : 0 ≤ swo ∧ swo ≤ 8) (hr_sdn : (-2147483648) ≤ sdn ∧ sdn ≤ 2147483647) (hr_smi : 0 ≤ smi ∧ smi ≤ 600) (hr_sfl : (-2147483648) ≤ sfl ∧ sfl ≤ 2147483647) (hr_stk : (-2147483648) ≤ stk ∧ stk ≤ 2147483647) (hr_sgo : (-2147483648) ≤ sgo ∧ sgo ≤ 2147483647) (hr_dwi : 0 ≤ dwi ∧ dwi ≤ 16) (hr_dro : 0 ≤ dro ∧ dro ≤ 6) (hr_ddr : 0 ≤ ddr ∧ ddr ≤ 14) (hr_ddt : 0 ≤ ddt ∧ ddt ≤ 6) (hr_dpe : 0 ≤ dpe ∧ dpe ≤ 8) (hr_dgu : 0 ≤ dgu ∧ dgu ≤ 20) (hr_dsh : 0 ≤ dsh ∧ dsh ≤ 2) (hr_dwo : 0 ≤ dwo ∧ dwo ≤ 8) (hr_ddn : (-2147483648) ≤ ddn ∧ ddn ≤ 2147483647) (hr_dmi : 0 ≤ dmi ∧ dmi ≤ 600) (hr_dfl : (-2147483648) ≤ dfl ∧ dfl ≤ 2147483647) (hr_dtk : (-2147483648) ≤ dtk ∧ dtk ≤ 2147483647) (hr_dgo : (-2147483648) ≤ dgo ∧ dgo ≤ 2147483647) (hr_cars : 0 ≤ cars ∧ cars ≤ 20) (hr_dips : 0 ≤ dips ∧ dips ≤ 9) (hr_n : (-2147483648) ≤ n ∧ n ≤ 2147483647) (hr_av : (-2147483648) ≤ av ∧ av ≤ 2147483647) (hp0 : 0 < swi → 1 ≤ sro) (hn_br : TPg bf gq) (hshf : inv_ 96 0 99 shf) (hsdf : tab_ 4 14 [0, 0, 0, 0] [15, 5, 99, 16] sdf) (hspf : tab_ 4 28 [0, 0, (-2147483648), (-2147483648)] [15, 19, 2147483647, 2147483647] spf) (hskf : tw_ skf) (hdhf : inv_ 96 0 99 dhf) (hddf : tab_ 4 14 [0, 0, 0, 0] [15, 5, 99, 16] ddf) (hdpf : tab_ 4 28 [0, 0, (-2147483648), (-2147483648)] [15, 19, 2147483647, 2147483647] dpf) (hdkf : tw_ dkf) (htf : tab_ 5 20 [0, 0, (-2147483648), (-2147483648), (-2147483648)] [99, 5, 2147483647, 2147483647, 2147483647] tf) : mI9 l yL_street vs_ew_street ({ frames := 10, cells := 2, slots := 8, locals := 216 }) D cy sa sz [vR kk, vI n, vR ao] [zO kk 11 [vR ta, vR kr, vR kl, vI nr, vI nw, vR sA, vR dA, vR pa, vR ki, vR kp, vI im, vR wa, vR or_, vR rq], zI rq (cy 0) 4 qf, zO ta 8 [vR tb, vI fed, vI len, vI at_, vI we, vI fa, vI fp], zI tb (cy 1) 600 bf, zO sA 6 [vI swi, vI sro, vR s2, vR s3, vI sdr, vI sdt, vR s6, vI spe, vR s8, vI sgu, vI ssh, vR s11, vI swo, vR s13, vI sdn, vI smi, vI sfl, vI stk, vI sgo], zI s2 (cy 0) 96 shf, zI s3 (cy 0) 96 swf, zI s6 (cy 0) 56 sdf, zI s8 (cy 0) 112 spf, zI s11 (cy 0) 4 ssf, zI s13 (cy 0) 40 skf, zO dA 6 [vI dwi, vI dro, vR d2, vR d3, vI ddr, vI ddt, vR d6, vI dpe, vR d8, vI dgu, vI dsh, vR d11, vI dwo, vR d13, vI ddn, vI dmi, vI dfl, vI dtk, vI dgo], zI d2 (cy 0) 96 dhf, zI d3 (cy 0) 96 dwf, zI d6 (cy 0) 56 ddf, zI d8 (cy 0) 112 dpf, zI d11 (cy 0) 4 dsf, zI d13 (cy 0) 40 dkf, zO pa 4 [vI cars, vR pt, vI dips, vR pd, vR ps], zI pt (cy 0) 100 tf, zI pd (cy 0) 27 df, zI ps (cy 0) 4 pshf, zL ao (cy 2) 1 (fun _ => (iI av).toInt64)] (fun (r : Int32) (u : SV) => r = iI (u.2.1 43) ∧ (0 ≤ u.2.1 1 ∧ u.2.1 1 ≤ 600) ∧ (0 ≤ u.2.1 2 ∧ u.2.1 2 ≤ 600) ∧ (0 ≤ u.2.1 3 ∧ u.2.1 3 ≤ 600) ∧ (0 ≤ u.2.1 4 ∧ u.2.1 4 ≤ 600) ∧ (0 ≤ u.2.1 5 ∧ u.2.1 5 ≤ 4) ∧ ((-1) ≤ u.2.1 6 ∧ u.2.1 6 ≤ 600) ∧ (0 ≤ u.2.1 10 ∧ u.2.1 10 ≤ 16) ∧ (0 ≤ u.2.1 11 ∧ u.2.1 11 ≤ 6) ∧ (0 ≤ u.2.1 12 ∧ u.2.1 12 ≤ 14) ∧ (0 ≤ u.2.1 13 ∧ u.2.1 13 ≤ 6) ∧ (0 ≤ u.2.1 14 ∧ u.2.1 14 ≤ 8) ∧ (0 ≤ u.2.1 15 ∧ u.2.1 15 ≤ 20) ∧ (0 ≤ u.2.1 16 ∧ u.2.1 16 ≤ 2) ∧ (0 ≤ u.2.1 17 ∧ u.2.1 17 ≤ 8) ∧ ((-2147483648) ≤ u.2.1 18 ∧ u.2.1 18 ≤ 2147483647) ∧ (0 ≤ u.2.1 19 ∧ u.2.1 19 ≤ 600) ∧ ((-2147483648) ≤ u.2.1 20 ∧ u.2.1 20 ≤ 2147483647) ∧ ((-2147483648) ≤ u.2.1 21 ∧ u.2.1 21 ≤ 2147483647) ∧ ((-2147483648) ≤ u.2.1 22 ∧ u.2.1 22 ≤ 2147483647) ∧ (0 ≤ u.2.1 23 ∧ u.2.1 23 ≤ 16) ∧ (0 ≤ u.2.1 24 ∧ u.2.1 24 ≤ 6) ∧ (0 ≤ u.2.1 25 ∧ u.2.1 25 ≤ 14) ∧ (0 ≤ u.2.1 26 ∧ u.2.1 26 ≤ 6) ∧ (0 ≤ u.2.1 27 ∧ u.2.1 27 ≤ 8) ∧ (0 ≤ u.2.1 28 ∧ u.2.1 28 ≤ 20) ∧ (0 ≤ u.2.1 29 ∧ u.2.1 29 ≤ 2) ∧ (0 ≤ u.2.1 30 ∧ u.2.1 30 ≤ 8) ∧ ((-2147483648) ≤ u.2.1 31 ∧ u.2.1 31 ≤ 2147483647) ∧ (0 ≤ u.2.1 32 ∧ u.2.1 32 ≤ 600) ∧ ((-2147483648) ≤ u.2.1 33 ∧ u.2.1 33 ≤ 2147483647) ∧ ((-2147483648) ≤ u.2.1 34 ∧ u.2.1 34 ≤ 2147483647) ∧ ((-2147483648) ≤ u.2.1 35 ∧ u.2.1 35 ≤ 2147483647) ∧ (0 ≤ u.2.1 40 ∧ u.2.1 40 ≤ 3) ∧ (0 ≤ u.2.1 41 ∧ u.2.1 41 ≤ 20) ∧ (0 ≤ u.2.1 42 ∧ u.2.1 42 ≤ 9) ∧ (0 ≤ u.2.1 43 ∧ u.2.1 43 ≤ 1) ∧ ((-2147483648) ≤ u.2.1 44 ∧ u.2.1 44 ≤ 2147483647) ∧ (0 ≤ n ∧ n ≤ fed → u.2.1 1 = 0 ∧ u.2.1 43 = 0) ∧ (¬ (0 ≤ n ∧ n ≤ fed) → u.2.1 1 = fed ∧ u.2.1 43 = 1) ∧ (0 < u.2.1 10 → 1 ≤ u.2.1 11) ∧ (0 ≤ n ∧ n ≤ fed → (STV gq n).1.1 = 0 → DRL (STV gq n).2.1 (STV gq n).2.2 (u.2.1 10) (u.2.1 11) (u.2.1 12) (u.2.1 13) (u.2.1 14) (u.2.1 16) (u.2.1 17) (u.2.2 0) (u.2.2 2) (u.2.2 3) (u.2.2 4) (u.2.2 5) ∧ (u.2.1 15) = 0 ∧ (u.2.1 18) = 0 ∧ (u.2.1 19) = 0 ∧ (u.2.1 20) = 0 ∧ (u.2.1 21) = 0 ∧ (u.2.1 22) = 0 ∧ (∀ j : Nat, j < 96 → nz (u.2.2 1) j = 0) ∧ (u.2.1 40) = 0 ∧ (u.2.1 41) = 0 ∧ (u.2.1 42) = 0 ∧ ∀ j : Nat, j < 4 → nz (u.2.2 12) j = 1) ∧ (¬ (0 ≤ n ∧ n ≤ fed ∧ (STV gq n).1.1 = 0) → (u.2.1 10) = swi ∧ (u.2.1 11) = sro ∧ (u.2.1 12) = sdr ∧ (u.2.1 13) = sdt ∧ (u.2.1 14) = spe ∧ (u.2.1 15) = sgu ∧ (u.2.1 16) = ssh ∧ (u.2.1 17) = swo ∧ (u.2.1 18) = sdn ∧ (u.2.1 19) = smi ∧ (u.2.1 20) = sfl ∧ (u.2.1 21) = stk ∧ (u.2.1 22) = sgo ∧ (u.2.2 0) = shf ∧ (u.2.2 1) = swf ∧ (u.2.2 2) = sdf ∧ (u.2.2 3) = spf ∧ (u.2.2 4) = ssf ∧ (u.2.2 5) = skf ∧ (u.2.1 40) = im ∧ (u.2.1 41) = cars ∧ (u.2.1 42) = dips ∧ (u.2.2 12) = pshf) ∧ (0 ≤ n ∧ n ≤ fed → ((STV gq n).1.1 = 0 → (u.2.1 44) = (STV gq n).2.1 0 * (STV gq n).2.1 1) ∧ ((STV gq n).1.1 ≠ 0 → (u.2.1 44) = (STV gq n).1.1 - 10)) ∧ inv_ 96 0 99 (u.2.2 0) ∧ tab_ 4 14 [0, 0, 0, 0] [15, 5, 99, 16] (u.2.2 2) ∧ tab_ 4 28 [0, 0, (-2147483648), (-2147483648)] [15, 19, 2147483647, 2147483647] (u.2.2 3) ∧ tw_ (u.2.2 5) ∧ inv_ 96 0 99 (u.2.2 6) ∧ tab_ 4 14 [0, 0, 0, 0] [15, 5, 99, 16] (u.2.2 8) ∧ tab_ 4 28 [0, 0, (-2147483648), (-2147483648)] [15, 19, 2147483647, 2147483647] (u.2.2 9) ∧ tw_ (u.2.2 11) ∧ tab_ 5 20 [0, 0, (-2147483648), (-2147483648), (-2147483648)] [99, 5, 2147483647, 2147483647, 2147483647] tf) (fun u : SV => [zO kk 11 [vR ta, vR kr, vR kl, vI nr, vI nw, vR (u.1 0), vR (u.1 7), vR pa, vR ki, vR kp, vI (u.2.1 40), vR wa, vR or_, vR rq], zI rq (cy 0) 4 (u.2.2 13), zO ta 8 [vR tb, vI (u.2.1 1), vI (u.2.1 2), vI (u.2.1 3), vI (u.2.1 4), vI (u.2.1 5), vI (u.2.1 6)], zI tb (cy 1) 600 bf, zO (u.1 0) 6 [vI (u.2.1 10), vI (u.2.1 11), vR (u.1 1), vR (u.1 2), vI (u.2.1 12), vI (u.2.1 13), vR (u.1 3), vI (u.2.1 14), vR (u.1 4), vI (u.2.1 15), vI (u.2.1 16), vR (u.1 5), vI (u.2.1 17), vR (u.1 6), vI (u.2.1 18), vI (u.2.1 19), vI (u.2.1 20), vI (u.2.1 21), vI (u.2.1 22)], zI (u.1 1) (cy 0) 96 (u.2.2 0), zI (u.1 2) (cy 0) 96 (u.2.2 1), zI (u.1 3) (cy 0) 56 (u.2.2 2), zI (u.1 4) (cy 0) 112 (u.2.2 3), zI (u.1 5) (cy 0) 4 (u.2.2 4), zI (u.1 6) (cy 0) 40 (u.2.2 5), zO (u.1 7) 6 [vI (u.2.1 23), vI (u.2.1 24), vR (u.1 8), vR (u.1 9), vI (u.2.1 25), vI (u.2.1 26), vR (u.1 10), vI (u.2.1 27), vR (u.1 11), vI (u.2.1 28), vI (u.2.1 29), vR (u.1 12), vI (u.2.1 30), vR (u.1 13), vI (u.2.1 31), vI (u.2.1 32), vI (u.2.1 33), vI (u.2.1 34), vI (u.2.1 35)], zI (u.1 8) (cy 0) 96 (u.2.2 6), zI (u.1 9) (cy 0) 96 (u.2.2 7), zI (u.1 10) (cy 0) 56 (u.2.2 8), zI (u.1 11) (cy 0) 112 (u.2.2 9), zI (u.1 12) (cy 0) 4 (u.2.2 10), zI (u.1 13) (cy 0) 40 (u.2.2 11), zO pa 4 [vI (u.2.1 41), vR pt, vI (u.2.1 42), vR pd, vR ps], zI pt (cy 0) 100 tf, zI pd (cy 0) 27 df, zI ps (cy 0) 4 (u.2.2 12), zL ao (cy 2) 1 (fun _ => (iI (u.2.1 44)).toInt64)]) 2 8 := by
  refine va_MetW (cc := cL_street) (maxL := 4) (ret := (some .int)) (by decide) rfl ?_
  intro p e s m args below meth c s₁ B hml hv
  obtain ⟨rfl, hsz, hP, hG, hD0, hT⟩ := hv
  have hx := B.exec
  have hb := B.bytes
  have hr := B.returns
  have hts := atoms_spec (ws := vs_ew_street) B.pre
  have hown : s.vm.findClass RL = some m.cls := findClass_of_methodNamed B.named
  have hlocks := B.notSynchronized
  subst hsz
  have hD := hD0.self (sz := s.heap.size)
  generalize hAe : va_A [zO kk 11 [vR ta, vR kr, vR kl, vI nr, vI nw, vR sA, vR dA, vR pa, vR ki, vR kp, vI im, vR wa, vR or_, vR rq], zI rq (cy 0) 4 qf, zO ta 8 [vR tb, vI fed, vI len, vI at_, vI we, vI fa, vI fp], zI tb (cy 1) 600 bf, zO sA 6 [vI swi, vI sro, vR s2, vR s3, vI sdr, vI sdt, vR s6, vI spe, vR s8, vI sgu, vI ssh, vR s11, vI swo, vR s13, vI sdn, vI smi, vI sfl, vI stk, vI sgo], zI s2 (cy 0) 96 shf, zI s3 (cy 0) 96 swf, zI s6 (cy 0) 56 sdf, zI s8 (cy 0) 112 spf, zI s11 (cy 0) 4 ssf, zI s13 (cy 0) 40 skf, zO dA 6 [vI dwi, vI dro, vR d2, vR d3, vI ddr, vI ddt, vR d6, vI dpe, vR d8, vI dgu, vI dsh, vR d11, vI dwo, vR d13, vI ddn, vI dmi, vI dfl, vI dtk, vI dgo], zI d2 (cy 0) 96 dhf, zI d3 (cy 0) 96 dwf, zI d6 (cy 0) 56 ddf, zI d8 (cy 0) 112 dpf, zI d11 (cy 0) 4 dsf, zI d13 (cy 0) 40 dkf, zO pa 4 [vI cars, vR pt, vI dips, vR pd, vR ps], zI pt (cy 0) 100 tf, zI pd (cy 0) 27 df, zI ps (cy 0) 4 pshf, zL ao (cy 2) 1 (fun _ => (iI av).toInt64)] s.heap.size = A at hD hT ⊢
  have hA : ∀ q : Nat, s.heap.size ≤ q → A q := fun q h => by rw [← hAe]; exact Or.inr h
  have hS : va_S A s.heap s.heap [] := va_S.rf
  have hl0 := lv_entry ([vR kk, vI n, vR ao]) (n := 4) (Nat.le_of_ble_eq_true rfl)
  rw [lg_entry_eq]
  generalize (lg_sl ([vR kk, vI n, vR ao]) ++ List.replicate (4 - (lg_sl ([vR kk, vI n, vR ao])).length) Slot.unset).toArray = ls at hl0 ⊢
  have hlv : lv_has ls 4 [(0, vR kk), (1, vI n), (2, vR ao)] := hl0
  have gg_0 : GoodIn vs_ew_street (wsV RL 7 RX11 yX11_street vs_e_kstreet) := goodIn_sub (fun w h => List.mem_cons_of_mem _ (List.mem_append_right _ (List.mem_append_left _ h))) (gd_V gd_e_kstreet (by decide +kernel))
  have xc13 := hts (.classLink RL 13 "java/lang/IllegalArgumentException") (List.mem_of_getElem? (i := 1) rfl)
  have htab : c.exceptionTable.toList = [(⟨0, 9, 12, 13⟩ : ExceptionTableEntry)] := vx_table (x := yL_street) B (hts (.codeWith yL_street cL_street 4 (some .int) [(0, 9, 12, 13)]) List.mem_cons_self)
  refine lv_aload_n hx hb dL_street_0 rfl (lv_at hlv 2 rfl) ?_
  refine lv_iconst (v := iI 0) hx hb dL_street_1 (by decide) ?_
  refine lv_aload_n hx hb dL_street_2 rfl (lv_at hlv 0 rfl) ?_
  refine lv_iload_n hx hb dL_street_3 rfl (lv_at hlv 1 rfl) ?_
  refine cjrx_i [false, false, false, false, false, false, false, false, false, false, false, false, false, false, false, false, false, false, false, false, false, false, true] (fun pre9 => (vx_runV (As := [vI n]) (rest := [vI 0, vR ao]) ⟨hx, hb, hml, hown, hts⟩ (e_kstreet l hl D cy sa kk ta kr kl sA dA pa ki kp wa or_ rq nr nw im qf tb fed len at_ we fa fp bf s2 s3 s6 s8 s11 s13 swi sro sdr sdt spe sgu ssh swo sdn smi sfl stk sgo shf swf sdf spf ssf skf d2 d3 d6 d8 d11 d13 dwi dro ddr ddt dpe dgu dsh dwo ddn dmi dfl dtk dgo dhf dwf ddf dpf dsf dkf pt pd ps cars dips tf df pshf n gq s.heap.size (by first | exact hr_nr | omega) (by first | exact hr_nw | omega) (by first | exact hr_im | omega) (by first | exact hr_fed | omega) (by first | exact hr_len | omega) (by first | exact hr_at_ | omega) (by first | exact hr_we | omega) (by first | exact hr_fa | omega) (by first | exact hr_fp | omega) (by first | exact hr_swi | omega) (by first | exact hr_sro | omega) (by first | exact hr_sdr | omega) (by first | exact hr_sdt | omega) (by first | exact hr_spe | omega) (by first | exact hr_sgu | omega) (by first | exact hr_ssh | omega) (by first | exact hr_swo | omega) (by first | exact hr_sdn | omega) (by first | exact hr_smi | omega) (by first | exact hr_sfl | omega) (by first | exact hr_stk | omega) (by first | exact hr_sgo | omega) (by first | exact hr_dwi | omega) (by first | exact hr_dro | omega) (by first | exact hr_ddr | omega) (by first | exact hr_ddt | omega) (by first | exact hr_dpe | omega) (by first | exact hr_dgu | omega) (by first | exact hr_dsh | omega) (by first | exact hr_dwo | omega) (by first | exact hr_ddn | omega) (by first | exact hr_dmi | omega) (by first | exact hr_dfl | omega) (by first | exact hr_dtk | omega) (by first | exact hr_dgo | omega) (by first | exact hr_cars | omega) (by first | exact hr_dips | omega) (by first | exact hr_n | omega) hp0 hn_br hshf hsdf hspf hskf hdhf hddf hdpf hdkf htf) (cwV 1 hts gg_0 rfl rfl rfl (by decide +kernel) ⟨Nat.le_of_ble_eq_true rfl, Nat.le_of_ble_eq_true rfl⟩) ⟨pcW.blind, (va_recv hG.1 hP (ci := 11) (q0 := 0) rfl rfl), pre9⟩ rfl rfl hlv.1 rfl (lv_room (Nat.le_of_ble_eq_true rfl)) dL_street_4 ⟨Nat.le_of_ble_eq_true rfl, Nat.le_of_ble_eq_true rfl⟩)) hP hD hS hA hG hT [0, 1, 2, 3, 4, 5, 6, 7, 8, 9, 10, 11, 12, 13, 14, 15, 16, 17, 18, 19, 20, 21] rfl (by decide +kernel) (fun E ux1 ce q9 H locs hp hq9 hS h1 h2 h3 => ?_) (fun r1 u1 H locs hw1 hq9 hS => ?_)
  · obtain ⟨hP, hD⟩ := pd9 [zL ao (cy 2) 1 (fun _ => (iI av).toInt64), zO kk 11 [vR ta, vR kr, vR kl, vI nr, vI nw, vR sA, vR dA, vR pa, vR ki, vR kp, vI im, vR wa, vR or_, vR rq], zI rq (cy 0) 4 (ux1.2.2 0), zO ta 8 [vR tb, vI fed, vI len, vI at_, vI we, vI fa, vI fp], zI tb (cy 1) 600 bf, zO sA 6 [vI swi, vI sro, vR s2, vR s3, vI sdr, vI sdt, vR s6, vI spe, vR s8, vI sgu, vI ssh, vR s11, vI swo, vR s13, vI sdn, vI smi, vI sfl, vI stk, vI sgo], zI s2 (cy 0) 96 shf, zI s3 (cy 0) 96 swf, zI s6 (cy 0) 56 sdf, zI s8 (cy 0) 112 spf, zI s11 (cy 0) 4 ssf, zI s13 (cy 0) 40 skf, zO dA 6 [vI dwi, vI dro, vR d2, vR d3, vI ddr, vI ddt, vR d6, vI dpe, vR d8, vI dgu, vI dsh, vR d11, vI dwo, vR d13, vI ddn, vI dmi, vI dfl, vI dtk, vI dgo], zI d2 (cy 0) 96 dhf, zI d3 (cy 0) 96 dwf, zI d6 (cy 0) 56 ddf, zI d8 (cy 0) 112 dpf, zI d11 (cy 0) 4 dsf, zI d13 (cy 0) 40 dkf, zO pa 4 [vI cars, vR pt, vI dips, vR pd, vR ps], zI pt (cy 0) 100 tf, zI pd (cy 0) 27 df, zI ps (cy 0) 4 pshf] hq9
    obtain ⟨hp, hxg1⟩ := hp
    obtain rfl := hp
    refine vx_catch (name := "java/lang/IllegalArgumentException") hown [] (⟨0, 9, 12, 13⟩ : ExceptionTableEntry) [] htab (fun z hz => absurd hz List.not_mem_nil) (by decide) (by decide) xc13 (va_Nw.use rfl (hG.2.2.2.1 _ (List.mem_of_getElem? (i := 2) rfl))) h1 h2 h3 ?_
    refine lv_astore_n (lv' := [(3, vR q9), (0, vR kk), (1, vI n), (2, vR ao)]) hx hb dL_street_12 rfl hlv (by decide) rfl (fun ls hlv => ?_)
    refine lv_iconst (v := iI 1) hx hb dL_street_13 (by decide) ?_
    refine W.widen (k := 2) (n := 8) (Nat.le_of_ble_eq_true rfl) (Nat.le_of_ble_eq_true rfl) ?_
    exact W.iret (v := iI 1) hx hb hr (fun t ht hW => ⟨⟨iI 1, ((fun k => ([sA, s2, s3, s6, s8, s11, s13, dA, d2, d3, d6, d8, d11, d13] : List Nat).getD k 0), (fun k => ([0, fed, len, at_, we, fa, fp, 0, 0, 0, swi, sro, sdr, sdt, spe, sgu, ssh, swo, sdn, smi, sfl, stk, sgo, dwi, dro, ddr, ddt, dpe, dgu, dsh, dwo, ddn, dmi, dfl, dtk, dgo, 0, 0, 0, 0, im, cars, dips, 1, av] : List Int).getD k 0), (fun k => ([shf, swf, sdf, spf, ssf, skf, dhf, dwf, ddf, dpf, dsf, dkf, pshf, (ux1.2.2 0)] : List (Nat → Int32)).getD k (fun _ => 0))), rfl, ⟨rfl, (by show (0 ≤ fed ∧ fed ≤ 600); first | exact hr_fed | omega), (by show (0 ≤ len ∧ len ≤ 600); first | exact hr_len | omega), (by show (0 ≤ at_ ∧ at_ ≤ 600); first | exact hr_at_ | omega), (by show (0 ≤ we ∧ we ≤ 600); first | exact hr_we | omega), (by show (0 ≤ fa ∧ fa ≤ 4); first | exact hr_fa | omega), (by show ((-1) ≤ fp ∧ fp ≤ 600); first | exact hr_fp | omega), (by show (0 ≤ swi ∧ swi ≤ 16); first | exact hr_swi | omega), (by show (0 ≤ sro ∧ sro ≤ 6); first | exact hr_sro | omega), (by show (0 ≤ sdr ∧ sdr ≤ 14); first | exact hr_sdr | omega), (by show (0 ≤ sdt ∧ sdt ≤ 6); first | exact hr_sdt | omega), (by show (0 ≤ spe ∧ spe ≤ 8); first | exact hr_spe | omega), (by show (0 ≤ sgu ∧ sgu ≤ 20); first | exact hr_sgu | omega), (by show (0 ≤ ssh ∧ ssh ≤ 2); first | exact hr_ssh | omega), (by show (0 ≤ swo ∧ swo ≤ 8); first | exact hr_swo | omega), (by show ((-2147483648) ≤ sdn ∧ sdn ≤ 2147483647); first | exact hr_sdn | omega), (by show (0 ≤ smi ∧ smi ≤ 600); first | exact hr_smi | omega), (by show ((-2147483648) ≤ sfl ∧ sfl ≤ 2147483647); first | exact hr_sfl | omega), (by show ((-2147483648) ≤ stk ∧ stk ≤ 2147483647); first | exact hr_stk | omega), (by show ((-2147483648) ≤ sgo ∧ sgo ≤ 2147483647); first | exact hr_sgo | omega), (by show (0 ≤ dwi ∧ dwi ≤ 16); first | exact hr_dwi | omega), (by show (0 ≤ dro ∧ dro ≤ 6); first | exact hr_dro | omega), (by show (0 ≤ ddr ∧ ddr ≤ 14); first | exact hr_ddr | omega), (by show (0 ≤ ddt ∧ ddt ≤ 6); first | exact hr_ddt | omega), (by show (0 ≤ dpe ∧ dpe ≤ 8); first | exact hr_dpe | omega), (by show (0 ≤ dgu ∧ dgu ≤ 20); first | exact hr_dgu | omega), (by show (0 ≤ dsh ∧ dsh ≤ 2); first | exact hr_dsh | omega), (by show (0 ≤ dwo ∧ dwo ≤ 8); first | exact hr_dwo | omega), (by show ((-2147483648) ≤ ddn ∧ ddn ≤ 2147483647); first | exact hr_ddn | omega), (by show (0 ≤ dmi ∧ dmi ≤ 600); first | exact hr_dmi | omega), (by show ((-2147483648) ≤ dfl ∧ dfl ≤ 2147483647); first | exact hr_dfl | omega), (by show ((-2147483648) ≤ dtk ∧ dtk ≤ 2147483647); first | exact hr_dtk | omega), (by show ((-2147483648) ≤ dgo ∧ dgo ≤ 2147483647); first | exact hr_dgo | omega), (by show (0 ≤ im ∧ im ≤ 3); first | exact hr_im | omega), (by show (0 ≤ cars ∧ cars ≤ 20); first | exact hr_cars | omega), (by show (0 ≤ dips ∧ dips ≤ 9); first | exact hr_dips | omega), (by show (0 ≤ 1 ∧ 1 ≤ 1); show (0 : Int) ≤ 1 ∧ (1 : Int) ≤ 1; decide), (by show ((-2147483648) ≤ av ∧ av ≤ 2147483647); first | exact hr_av | omega), (by show (0 ≤ n ∧ n ≤ fed → fed = 0 ∧ 1 = 0); omega), (by show (¬ (0 ≤ n ∧ n ≤ fed) → fed = fed ∧ 1 = 1); omega), (by show (0 < swi → 1 ≤ sro); omega), (by show (0 ≤ n ∧ n ≤ fed → (STV gq n).1.1 = 0 → DRL (STV gq n).2.1 (STV gq n).2.2 (swi) (sro) (sdr) (sdt) (spe) (ssh) (swo) (shf) (sdf) (spf) (ssf) (skf) ∧ (sgu) = 0 ∧ (sdn) = 0 ∧ (smi) = 0 ∧ (sfl) = 0 ∧ (stk) = 0 ∧ (sgo) = 0 ∧ (∀ j : Nat, j < 96 → nz (swf) j = 0) ∧ (im) = 0 ∧ (cars) = 0 ∧ (dips) = 0 ∧ ∀ j : Nat, j < 4 → nz (pshf) j = 1); exact (fun h9 => absurd h9 (by omega))), (by show (¬ (0 ≤ n ∧ n ≤ fed ∧ (STV gq n).1.1 = 0) → (swi) = swi ∧ (sro) = sro ∧ (sdr) = sdr ∧ (sdt) = sdt ∧ (spe) = spe ∧ (sgu) = sgu ∧ (ssh) = ssh ∧ (swo) = swo ∧ (sdn) = sdn ∧ (smi) = smi ∧ (sfl) = sfl ∧ (stk) = stk ∧ (sgo) = sgo ∧ (shf) = shf ∧ (swf) = swf ∧ (sdf) = sdf ∧ (spf) = spf ∧ (ssf) = ssf ∧ (skf) = skf ∧ (im) = im ∧ (cars) = cars ∧ (dips) = dips ∧ (pshf) = pshf); exact (fun _ => ⟨rfl, rfl, rfl, rfl, rfl, rfl, rfl, rfl, rfl, rfl, rfl, rfl, rfl, rfl, rfl, rfl, rfl, rfl, rfl, rfl, rfl, rfl, rfl⟩)), (by show (0 ≤ n ∧ n ≤ fed → ((STV gq n).1.1 = 0 → (av) = (STV gq n).2.1 0 * (STV gq n).2.1 1) ∧ ((STV gq n).1.1 ≠ 0 → (av) = (STV gq n).1.1 - 10)); exact (fun h9 => absurd h9 (by omega))), hshf, hsdf, hspf, hskf, hdhf, hddf, hdpf, hdkf, htf⟩, at9 ht hP hD [1, 2, 3, 4, 5, 6, 7, 8, 9, 10, 11, 12, 13, 14, 15, 16, 17, 18, 19, 20, 21, 22, 0] (by decide +kernel) rfl⟩, hS.F ht⟩) hS.2.2 dL_street_14
  obtain ⟨rfl, hq1_1, hq1_2, hq1_3, hq1_4, hq1_5, hq1_6, hq1_7, hq1_8, hq1_9, hq1_10, hq1_11, hq1_12, hq1_13, hq1_14, hq1_15, hq1_16, hq1_17, hq1_18, hq1_19, hq1_20, hq1_21, hq1_22, hq1_23, hq1_24, hq1_25, hq1_26, hq1_27, hq1_28, hq1_29, hq1_30, hq1_31, hq1_32, hq1_33, hq1_34, hq1_35, hq1_36, hq1_37, hq1_38, hq1_39, hq1_40, hq1_41, hq1_42, hq1_43, hq1_44, hq1_45, hq1_46, hq1_47, hq1_48, hq1_49, hq1_50⟩ := hw1
  obtain ⟨hP, hD⟩ := pd9 [zL ao (cy 2) 1 (fun _ => (iI av).toInt64), zO kk 11 [vR ta, vR kr, vR kl, vI nr, vI nw, vR (u1.1 0), vR (u1.1 7), vR pa, vR ki, vR kp, vI (u1.2.1 40), vR wa, vR or_, vR rq], zI rq (cy 0) 4 qf, zO ta 8 [vR tb, vI (u1.2.1 1), vI (u1.2.1 2), vI (u1.2.1 3), vI (u1.2.1 4), vI (u1.2.1 5), vI (u1.2.1 6)], zI tb (cy 1) 600 bf, zO (u1.1 0) 6 [vI (u1.2.1 10), vI (u1.2.1 11), vR (u1.1 1), vR (u1.1 2), vI (u1.2.1 12), vI (u1.2.1 13), vR (u1.1 3), vI (u1.2.1 14), vR (u1.1 4), vI (u1.2.1 15), vI (u1.2.1 16), vR (u1.1 5), vI (u1.2.1 17), vR (u1.1 6), vI (u1.2.1 18), vI (u1.2.1 19), vI (u1.2.1 20), vI (u1.2.1 21), vI (u1.2.1 22)], zI (u1.1 1) (cy 0) 96 (u1.2.2 0), zI (u1.1 2) (cy 0) 96 (u1.2.2 1), zI (u1.1 3) (cy 0) 56 (u1.2.2 2), zI (u1.1 4) (cy 0) 112 (u1.2.2 3), zI (u1.1 5) (cy 0) 4 (u1.2.2 4), zI (u1.1 6) (cy 0) 40 (u1.2.2 5), zO (u1.1 7) 6 [vI (u1.2.1 23), vI (u1.2.1 24), vR (u1.1 8), vR (u1.1 9), vI (u1.2.1 25), vI (u1.2.1 26), vR (u1.1 10), vI (u1.2.1 27), vR (u1.1 11), vI (u1.2.1 28), vI (u1.2.1 29), vR (u1.1 12), vI (u1.2.1 30), vR (u1.1 13), vI (u1.2.1 31), vI (u1.2.1 32), vI (u1.2.1 33), vI (u1.2.1 34), vI (u1.2.1 35)], zI (u1.1 8) (cy 0) 96 (u1.2.2 6), zI (u1.1 9) (cy 0) 96 (u1.2.2 7), zI (u1.1 10) (cy 0) 56 (u1.2.2 8), zI (u1.1 11) (cy 0) 112 (u1.2.2 9), zI (u1.1 12) (cy 0) 4 (u1.2.2 10), zI (u1.1 13) (cy 0) 40 (u1.2.2 11), zO pa 4 [vI (u1.2.1 41), vR pt, vI (u1.2.1 42), vR pd, vR ps], zI pt (cy 0) 100 tf, zI pd (cy 0) 27 df, zI ps (cy 0) 4 (u1.2.2 12)] hq9
  refine lv_i2l (v := jJ (u1.2.1 0)) hx hb dL_street_7 (jJ_i (by omega)) ?_
  refine va_last hx hb hG.1 hP hD hS 0 2 rfl rfl (iI_in (by omega) (by decide)) dL_street_8 (fun H locs hP hD hS => ?_)
  obtain ⟨hP, hD⟩ := arl 0 (fun _ => (iI (u1.2.1 0)).toInt64) hP hD rfl (arl_2 (by omega))
  obtain ⟨hP, hD⟩ := pw9 [zL ao (cy 2) 1 (fun _ => (iI (u1.2.1 0)).toInt64), zO kk 11 [vR ta, vR kr, vR kl, vI nr, vI nw, vR (u1.1 0), vR (u1.1 7), vR pa, vR ki, vR kp, vI (u1.2.1 40), vR wa, vR or_, vR rq], zI rq (cy 0) 4 qf, zO ta 8 [vR tb, vI (u1.2.1 1), vI (u1.2.1 2), vI (u1.2.1 3), vI (u1.2.1 4), vI (u1.2.1 5), vI (u1.2.1 6)], zI tb (cy 1) 600 bf, zO (u1.1 0) 6 [vI (u1.2.1 10), vI (u1.2.1 11), vR (u1.1 1), vR (u1.1 2), vI (u1.2.1 12), vI (u1.2.1 13), vR (u1.1 3), vI (u1.2.1 14), vR (u1.1 4), vI (u1.2.1 15), vI (u1.2.1 16), vR (u1.1 5), vI (u1.2.1 17), vR (u1.1 6), vI (u1.2.1 18), vI (u1.2.1 19), vI (u1.2.1 20), vI (u1.2.1 21), vI (u1.2.1 22)], zI (u1.1 1) (cy 0) 96 (u1.2.2 0), zI (u1.1 2) (cy 0) 96 (u1.2.2 1), zI (u1.1 3) (cy 0) 56 (u1.2.2 2), zI (u1.1 4) (cy 0) 112 (u1.2.2 3), zI (u1.1 5) (cy 0) 4 (u1.2.2 4), zI (u1.1 6) (cy 0) 40 (u1.2.2 5), zO (u1.1 7) 6 [vI (u1.2.1 23), vI (u1.2.1 24), vR (u1.1 8), vR (u1.1 9), vI (u1.2.1 25), vI (u1.2.1 26), vR (u1.1 10), vI (u1.2.1 27), vR (u1.1 11), vI (u1.2.1 28), vI (u1.2.1 29), vR (u1.1 12), vI (u1.2.1 30), vR (u1.1 13), vI (u1.2.1 31), vI (u1.2.1 32), vI (u1.2.1 33), vI (u1.2.1 34), vI (u1.2.1 35)], zI (u1.1 8) (cy 0) 96 (u1.2.2 6), zI (u1.1 9) (cy 0) 96 (u1.2.2 7), zI (u1.1 10) (cy 0) 56 (u1.2.2 8), zI (u1.1 11) (cy 0) 112 (u1.2.2 9), zI (u1.1 12) (cy 0) 4 (u1.2.2 10), zI (u1.1 13) (cy 0) 40 (u1.2.2 11), zO pa 4 [vI (u1.2.1 41), vR pt, vI (u1.2.1 42), vR pd, vR ps], zI pt (cy 0) 100 tf, zI pd (cy 0) 27 df, zI ps (cy 0) 4 (u1.2.2 12)] hP hD
  refine lv_goto (tgt := 15) hx hb dL_street_9 (by decide) ?_
  refine lv_iconst (v := iI 0) hx hb dL_street_15 (by decide) ?_
  refine W.widen (k := 2) (n := 8) (Nat.le_of_ble_eq_true rfl) (Nat.le_of_ble_eq_true rfl) ?_
  exact W.iret (v := iI 0) hx hb hr (fun t ht hW => ⟨⟨iI 0, ((fun k => ([(u1.1 0), (u1.1 1), (u1.1 2), (u1.1 3), (u1.1 4), (u1.1 5), (u1.1 6), (u1.1 7), (u1.1 8), (u1.1 9), (u1.1 10), (u1.1 11), (u1.1 12), (u1.1 13)] : List Nat).getD k 0), (fun k => ([0, (u1.2.1 1), (u1.2.1 2), (u1.2.1 3), (u1.2.1 4), (u1.2.1 5), (u1.2.1 6), 0, 0, 0, (u1.2.1 10), (u1.2.1 11), (u1.2.1 12), (u1.2.1 13), (u1.2.1 14), (u1.2.1 15), (u1.2.1 16), (u1.2.1 17), (u1.2.1 18), (u1.2.1 19), (u1.2.1 20), (u1.2.1 21), (u1.2.1 22), (u1.2.1 23), (u1.2.1 24), (u1.2.1 25), (u1.2.1 26), (u1.2.1 27), (u1.2.1 28), (u1.2.1 29), (u1.2.1 30), (u1.2.1 31), (u1.2.1 32), (u1.2.1 33), (u1.2.1 34), (u1.2.1 35), 0, 0, 0, 0, (u1.2.1 40), (u1.2.1 41), (u1.2.1 42), 0, (u1.2.1 0)] : List Int).getD k 0), (fun k => ([(u1.2.2 0), (u1.2.2 1), (u1.2.2 2), (u1.2.2 3), (u1.2.2 4), (u1.2.2 5), (u1.2.2 6), (u1.2.2 7), (u1.2.2 8), (u1.2.2 9), (u1.2.2 10), (u1.2.2 11), (u1.2.2 12), qf] : List (Nat → Int32)).getD k (fun _ => 0))), rfl, ⟨rfl, (by show (0 ≤ (u1.2.1 1) ∧ (u1.2.1 1) ≤ 600); first | exact hq1_2 | omega), (by show (0 ≤ (u1.2.1 2) ∧ (u1.2.1 2) ≤ 600); first | exact hq1_3 | omega), (by show (0 ≤ (u1.2.1 3) ∧ (u1.2.1 3) ≤ 600); first | exact hq1_4 | omega), (by show (0 ≤ (u1.2.1 4) ∧ (u1.2.1 4) ≤ 600); first | exact hq1_5 | omega), (by show (0 ≤ (u1.2.1 5) ∧ (u1.2.1 5) ≤ 4); first | exact hq1_6 | omega), (by show ((-1) ≤ (u1.2.1 6) ∧ (u1.2.1 6) ≤ 600); first | exact hq1_7 | omega), (by show (0 ≤ (u1.2.1 10) ∧ (u1.2.1 10) ≤ 16); first | exact hq1_8 | omega), (by show (0 ≤ (u1.2.1 11) ∧ (u1.2.1 11) ≤ 6); first | exact hq1_9 | omega), (by show (0 ≤ (u1.2.1 12) ∧ (u1.2.1 12) ≤ 14); first | exact hq1_10 | omega), (by show (0 ≤ (u1.2.1 13) ∧ (u1.2.1 13) ≤ 6); first | exact hq1_11 | omega), (by show (0 ≤ (u1.2.1 14) ∧ (u1.2.1 14) ≤ 8); first | exact hq1_12 | omega), (by show (0 ≤ (u1.2.1 15) ∧ (u1.2.1 15) ≤ 20); first | exact hq1_13 | omega), (by show (0 ≤ (u1.2.1 16) ∧ (u1.2.1 16) ≤ 2); first | exact hq1_14 | omega), (by show (0 ≤ (u1.2.1 17) ∧ (u1.2.1 17) ≤ 8); first | exact hq1_15 | omega), (by show ((-2147483648) ≤ (u1.2.1 18) ∧ (u1.2.1 18) ≤ 2147483647); first | exact hq1_16 | omega), (by show (0 ≤ (u1.2.1 19) ∧ (u1.2.1 19) ≤ 600); first | exact hq1_17 | omega), (by show ((-2147483648) ≤ (u1.2.1 20) ∧ (u1.2.1 20) ≤ 2147483647); first | exact hq1_18 | omega), (by show ((-2147483648) ≤ (u1.2.1 21) ∧ (u1.2.1 21) ≤ 2147483647); first | exact hq1_19 | omega), (by show ((-2147483648) ≤ (u1.2.1 22) ∧ (u1.2.1 22) ≤ 2147483647); first | exact hq1_20 | omega), (by show (0 ≤ (u1.2.1 23) ∧ (u1.2.1 23) ≤ 16); first | exact hq1_21 | omega), (by show (0 ≤ (u1.2.1 24) ∧ (u1.2.1 24) ≤ 6); first | exact hq1_22 | omega), (by show (0 ≤ (u1.2.1 25) ∧ (u1.2.1 25) ≤ 14); first | exact hq1_23 | omega), (by show (0 ≤ (u1.2.1 26) ∧ (u1.2.1 26) ≤ 6); first | exact hq1_24 | omega), (by show (0 ≤ (u1.2.1 27) ∧ (u1.2.1 27) ≤ 8); first | exact hq1_25 | omega), (by show (0 ≤ (u1.2.1 28) ∧ (u1.2.1 28) ≤ 20); first | exact hq1_26 | omega), (by show (0 ≤ (u1.2.1 29) ∧ (u1.2.1 29) ≤ 2); first | exact hq1_27 | omega), (by show (0 ≤ (u1.2.1 30) ∧ (u1.2.1 30) ≤ 8); first | exact hq1_28 | omega), (by show ((-2147483648) ≤ (u1.2.1 31) ∧ (u1.2.1 31) ≤ 2147483647); first | exact hq1_29 | omega), (by show (0 ≤ (u1.2.1 32) ∧ (u1.2.1 32) ≤ 600); first | exact hq1_30 | omega), (by show ((-2147483648) ≤ (u1.2.1 33) ∧ (u1.2.1 33) ≤ 2147483647); first | exact hq1_31 | omega), (by show ((-2147483648) ≤ (u1.2.1 34) ∧ (u1.2.1 34) ≤ 2147483647); first | exact hq1_32 | omega), (by show ((-2147483648) ≤ (u1.2.1 35) ∧ (u1.2.1 35) ≤ 2147483647); first | exact hq1_33 | omega), (by show (0 ≤ (u1.2.1 40) ∧ (u1.2.1 40) ≤ 3); first | exact hq1_34 | omega), (by show (0 ≤ (u1.2.1 41) ∧ (u1.2.1 41) ≤ 20); first | exact hq1_35 | omega), (by show (0 ≤ (u1.2.1 42) ∧ (u1.2.1 42) ≤ 9); first | exact hq1_36 | omega), (by show (0 ≤ 0 ∧ 0 ≤ 1); show (0 : Int) ≤ 0 ∧ (0 : Int) ≤ 1; decide), (by show ((-2147483648) ≤ (u1.2.1 0) ∧ (u1.2.1 0) ≤ 2147483647); first | exact hq1_1 | omega), (by show (0 ≤ n ∧ n ≤ fed → (u1.2.1 1) = 0 ∧ 0 = 0); omega), (by show (¬ (0 ≤ n ∧ n ≤ fed) → (u1.2.1 1) = fed ∧ 0 = 1); omega), (by show (0 < (u1.2.1 10) → 1 ≤ (u1.2.1 11)); first | exact hq1_38 | omega), (by show (0 ≤ n ∧ n ≤ fed → (STV gq n).1.1 = 0 → DRL (STV gq n).2.1 (STV gq n).2.2 ((u1.2.1 10)) ((u1.2.1 11)) ((u1.2.1 12)) ((u1.2.1 13)) ((u1.2.1 14)) ((u1.2.1 16)) ((u1.2.1 17)) ((u1.2.2 0)) ((u1.2.2 2)) ((u1.2.2 3)) ((u1.2.2 4)) ((u1.2.2 5)) ∧ ((u1.2.1 15)) = 0 ∧ ((u1.2.1 18)) = 0 ∧ ((u1.2.1 19)) = 0 ∧ ((u1.2.1 20)) = 0 ∧ ((u1.2.1 21)) = 0 ∧ ((u1.2.1 22)) = 0 ∧ (∀ j : Nat, j < 96 → nz ((u1.2.2 1)) j = 0) ∧ ((u1.2.1 40)) = 0 ∧ ((u1.2.1 41)) = 0 ∧ ((u1.2.1 42)) = 0 ∧ ∀ j : Nat, j < 4 → nz ((u1.2.2 12)) j = 1); exact (fun _ => hq1_39)), (by show (¬ (0 ≤ n ∧ n ≤ fed ∧ (STV gq n).1.1 = 0) → ((u1.2.1 10)) = swi ∧ ((u1.2.1 11)) = sro ∧ ((u1.2.1 12)) = sdr ∧ ((u1.2.1 13)) = sdt ∧ ((u1.2.1 14)) = spe ∧ ((u1.2.1 15)) = sgu ∧ ((u1.2.1 16)) = ssh ∧ ((u1.2.1 17)) = swo ∧ ((u1.2.1 18)) = sdn ∧ ((u1.2.1 19)) = smi ∧ ((u1.2.1 20)) = sfl ∧ ((u1.2.1 21)) = stk ∧ ((u1.2.1 22)) = sgo ∧ ((u1.2.2 0)) = shf ∧ ((u1.2.2 1)) = swf ∧ ((u1.2.2 2)) = sdf ∧ ((u1.2.2 3)) = spf ∧ ((u1.2.2 4)) = ssf ∧ ((u1.2.2 5)) = skf ∧ ((u1.2.1 40)) = im ∧ ((u1.2.1 41)) = cars ∧ ((u1.2.1 42)) = dips ∧ ((u1.2.2 12)) = pshf); exact (fun h9 => hq1_40 (fun h8 => h9 ⟨by omega, by omega, h8⟩))), (by show (0 ≤ n ∧ n ≤ fed → ((STV gq n).1.1 = 0 → ((u1.2.1 0)) = (STV gq n).2.1 0 * (STV gq n).2.1 1) ∧ ((STV gq n).1.1 ≠ 0 → ((u1.2.1 0)) = (STV gq n).1.1 - 10)); exact hq1_41), hq1_42, hq1_43, hq1_44, hq1_45, hq1_46, hq1_47, hq1_48, hq1_49, hq1_50⟩, at9 ht hP hD [1, 2, 3, 4, 5, 6, 7, 8, 9, 10, 11, 12, 13, 14, 15, 16, 17, 18, 19, 20, 21, 22, 0] (by decide +kernel) rfl⟩, hS.F ht⟩) hS.2.2 dL_street_16
end
section

theorem SQ.fw {q : Nat → Int} {f f1 : Nat → Int32} {e v : Int} (h : ∀ j : Nat, FRq j → nz f j = q j) (hd : f1 = upd f (iI e).toNatClampNeg (iI v)) (he : 0 ≤ e ∧ e ≤ 2147483647) (hv : -2147483648 ≤ v ∧ v ≤ 2147483647) : ∀ j : Nat, FRq j → nz f1 j = upz q e v j := by
  intro j hj
  by_cases c : (j : Int) = e
  · rw [upz_s c]; exact nz_us hd he hv c
  · rw [upz_n c, nz_un hd he c]; exact h j hj
/-- what is planned: the class's numbers, and the reference's places -/
def RPl (cars dips : Int) (tf df sh : Nat → Int32) (S : Nat → Int) : Prop := (0 ≤ cars ∧ cars ≤ 20) ∧ (0 ≤ dips ∧ dips ≤ 9) ∧ S 252 = cars ∧ S 357 = dips ∧ (∀ k : Nat, k < 4 → nz sh k = S (353 + k)) ∧ (∀ j : Nat, (j : Int) < 5 * cars → nz tf j = S (253 + j)) ∧ ∀ j : Nat, (j : Int) < 3 * dips → nz df j = S (358 + j)
theorem RPl.fr {cars dips : Int} {tf df sh : Nat → Int32} {S S1 : Nat → Int} (h : RPl cars dips tf df sh S) (e : ∀ j : Nat, FRq j → S1 j = S j) : RPl cars dips tf df sh S1 := by
  obtain ⟨h1, h2, h3, h4, h5, h6, h7⟩ := h
  refine ⟨h1, h2, ?_, ?_, fun k hk => ?_, fun j hj => ?_, fun j hj => ?_⟩
  · rw [e 252 (by unfold FRq; omega)]; exact h3
  · rw [e 357 (by unfold FRq; omega)]; exact h4
  · rw [e (353 + k) (by unfold FRq; omega)]; exact h5 k hk
  · rw [e (253 + j) (by unfold FRq; omega)]; exact h6 j hj
  · rw [e (358 + j) (by unfold FRq; omega)]; exact h7 j hj
/-- what a street is told once for all -/
def RSt (wi ro dt pe sh wo : Int) (sf kf : Nat → Int32) (nb : Nat → Int) : Prop := wi = nb 0 ∧ ro = nb 1 ∧ dt = nb 2 ∧ pe = nb 3 ∧ sh = nb 4 ∧ wo = nb 5 ∧ DS nb sf ∧ DK nb kf
theorem RSt.ext {wi ro dt pe sh wo : Int} {sf kf sf1 kf1 : Nat → Int32} {nb : Nat → Int} (h : RSt wi ro dt pe sh wo sf kf nb) (h4 : sh ≤ 2) (h5 : wo ≤ 8) (e1 : ∀ j : Nat, j < 4 → sf1 j = sf j) (e2 : ∀ j : Nat, j < 40 → kf1 j = kf j) : RSt wi ro dt pe sh wo sf1 kf1 nb := by
  obtain ⟨a0, a1, a2, a3, a4, a5, a6, a7⟩ := h
  refine ⟨a0, a1, a2, a3, a4, a5, fun k h0 h1 => ?_, fun k h0 h1 => ?_⟩
  · have := a6 k h0 h1
    rw [nz_ext (e1 _ (by omega)), nz_ext (e1 _ (by omega))]; exact this
  · have := a7 k h0 h1
    rw [nz_ext (e2 _ (by omega)), nz_ext (e2 _ (by omega)), nz_ext (e2 _ (by omega)), nz_ext (e2 _ (by omega)), nz_ext (e2 _ (by omega))]; exact this
theorem RPl.ext {cars dips : Int} {tf df sh tf1 df1 sh1 : Nat → Int32} {S S1 : Nat → Int} (h : RPl cars dips tf df sh S) (e1 : ∀ j : Nat, j < 100 → tf1 j = tf j) (e2 : ∀ j : Nat, j < 27 → df1 j = df j) (e3 : ∀ j : Nat, j < 4 → sh1 j = sh j) (e : ∀ j : Nat, FRq j → S1 j = S j) : RPl cars dips tf1 df1 sh1 S1 := by
  have h := h.fr e
  obtain ⟨h1, h2, h3, h4, h5, h6, h7⟩ := h
  refine ⟨h1, h2, h3, h4, fun k hk => ?_, fun j hj => ?_, fun j hj => ?_⟩
  · rw [nz_ext (e3 k hk)]; exact h5 k hk
  · rw [nz_ext (e1 j (by omega))]; exact h6 j hj
  · rw [nz_ext (e2 j (by omega))]; exact h7 j hj
theorem cpe_ {f g : Nat → Int32} {n : Nat} {N : Int32} (hn : N.toNatClampNeg = n) : ∀ j : Nat, j < n → va_cpy f g (iI 0).toNatClampNeg (iI 0).toNatClampNeg N.toNatClampNeg j = f j := by
  intro j hj
  have z : (iI 0).toNatClampNeg = 0 := by decide
  unfold va_cpy
  rw [hn, z, if_pos ⟨Nat.zero_le _, by omega⟩]
  congr 1
  omega
/-- an image of the reference -/
def imz (f : Nat → Int32) (k : Nat) : Nat → Int := fun j => nz f (389 * k + j)
/-- whether a car may be told -/
def TrR (p0 p1 p2 p3 p4 ro : Int) : Int := if 0 ≤ p0 ∧ p0 ≤ 99 ∧ 0 ≤ p1 ∧ p1 ≤ ro - 1 ∧ 1 ≤ p2 ∧ p2 ≤ 60 ∧ 1 ≤ p3 ∧ p3 ≤ 9 ∧ 0 ≤ p4 ∧ p4 ≤ 3 then 0 else 1
theorem TrR_0 {p0 p1 p2 p3 p4 ro : Int} (h : 0 ≤ p0 ∧ p0 ≤ 99 ∧ 0 ≤ p1 ∧ p1 ≤ ro - 1 ∧ 1 ≤ p2 ∧ p2 ≤ 60 ∧ 1 ≤ p3 ∧ p3 ≤ 9 ∧ 0 ≤ p4 ∧ p4 ≤ 3) : TrR p0 p1 p2 p3 p4 ro = 0 := if_pos h
theorem TrR_1 {p0 p1 p2 p3 p4 ro : Int} (h : ¬ (0 ≤ p0 ∧ p0 ≤ 99 ∧ 0 ≤ p1 ∧ p1 ≤ ro - 1 ∧ 1 ≤ p2 ∧ p2 ≤ 60 ∧ 1 ≤ p3 ∧ p3 ≤ 9 ∧ 0 ≤ p4 ∧ p4 ≤ 3)) : TrR p0 p1 p2 p3 p4 ro = 1 := if_neg h
theorem TrR_r (p0 p1 p2 p3 p4 ro : Int) : TrR p0 p1 p2 p3 p4 ro = 0 ∨ TrR p0 p1 p2 p3 p4 ro = 1 := by unfold TrR; split <;> simp
/-- a car more: the places -/
def carZ (S : Nat → Int) (c p0 p1 p2 p3 p4 : Int) : Nat → Int := upz (upz (upz (upz (upz (upz S (253 + 5 * c) p0) (254 + 5 * c) p1) (255 + 5 * c) p2) (256 + 5 * c) p3) (257 + 5 * c) p4) 252 (c + 1)
def carT (f : Nat → Int) (c p0 p1 p2 p3 p4 : Int) : Nat → Int := upz (upz (upz (upz (upz f (5 * c) p0) (5 * c + 1) p1) (5 * c + 2) p2) (5 * c + 3) p3) (5 * c + 4) p4
theorem RPl.car {cars dips p0 p1 p2 p3 p4 : Int} {tf df sh tf1 : Nat → Int32} {S S1 : Nat → Int} (h : RPl cars dips tf df sh S) (hc : cars < 20) (e1 : nz tf1 = carT (nz tf) cars p0 p1 p2 p3 p4) (e : ∀ j : Nat, FRq j → S1 j = carZ S cars p0 p1 p2 p3 p4 j) : RPl (cars + 1) dips tf1 df sh S1 := by
  obtain ⟨h1, h2, h3, h4, h5, h6, h7⟩ := h
  have far : ∀ j : Nat, FRq j → 353 ≤ j → S1 j = S j := fun j hj h9 => by
    rw [e j hj]; unfold carZ
    rw [upz_n (by omega), upz_n (by omega), upz_n (by omega), upz_n (by omega), upz_n (by omega), upz_n (by omega)]
  refine ⟨by omega, h2, ?_, ?_, fun k hk => ?_, fun j hj => ?_, fun j hj => ?_⟩
  · rw [e 252 (by unfold FRq; omega)]; unfold carZ; exact upz_s rfl
  · rw [far 357 (by unfold FRq; omega) (by omega)]; exact h4
  · rw [far (353 + k) (by unfold FRq; omega) (by omega)]; exact h5 k hk
  · rw [e (253 + j) (by unfold FRq; omega), e1]
    unfold carZ carT
    rw [upz_n (show ((253 + j : Nat) : Int) ≠ 252 by omega)]
    by_cases c4 : (j : Int) = 5 * cars + 4
    · rw [upz_s c4, upz_s (show ((253 + j : Nat) : Int) = 257 + 5 * cars by omega)]
    · rw [upz_n c4, upz_n (show ((253 + j : Nat) : Int) ≠ 257 + 5 * cars by omega)]
      by_cases c3 : (j : Int) = 5 * cars + 3
      · rw [upz_s c3, upz_s (show ((253 + j : Nat) : Int) = 256 + 5 * cars by omega)]
      · rw [upz_n c3, upz_n (show ((253 + j : Nat) : Int) ≠ 256 + 5 * cars by omega)]
        by_cases c2 : (j : Int) = 5 * cars + 2
        · rw [upz_s c2, upz_s (show ((253 + j : Nat) : Int) = 255 + 5 * cars by omega)]
        · rw [upz_n c2, upz_n (show ((253 + j : Nat) : Int) ≠ 255 + 5 * cars by omega)]
          by_cases c1 : (j : Int) = 5 * cars + 1
          · rw [upz_s c1, upz_s (show ((253 + j : Nat) : Int) = 254 + 5 * cars by omega)]
          · rw [upz_n c1, upz_n (show ((253 + j : Nat) : Int) ≠ 254 + 5 * cars by omega)]
            by_cases c0 : (j : Int) = 5 * cars
            · rw [upz_s c0, upz_s (show ((253 + j : Nat) : Int) = 253 + 5 * cars by omega)]
            · rw [upz_n c0, upz_n (show ((253 + j : Nat) : Int) ≠ 253 + 5 * cars by omega)]
              exact h6 j (by omega)
  · rw [far (358 + j) (by unfold FRq; omega) (by omega)]; exact h7 j hj
theorem RPl.clear {cars dips : Int} {tf df sh : Nat → Int32} {S S1 : Nat → Int} (h : RPl cars dips tf df sh S) (e : ∀ j : Nat, FRq j → S1 j = upz S 252 0 j) : RPl 0 dips tf df sh S1 := by
  obtain ⟨h1, h2, h3, h4, h5, h6, h7⟩ := h
  have far : ∀ j : Nat, FRq j → 353 ≤ j → S1 j = S j := fun j hj h9 => by
    rw [e j hj, upz_n (by omega)]
  refine ⟨by omega, h2, ?_, ?_, fun k hk => ?_, fun j hj => by omega, fun j hj => ?_⟩
  · rw [e 252 (by unfold FRq; omega)]; exact upz_s rfl
  · rw [far 357 (by unfold FRq; omega) (by omega)]; exact h4
  · rw [far (353 + k) (by unfold FRq; omega) (by omega)]; exact h5 k hk
  · rw [far (358 + j) (by unfold FRq; omega) (by omega)]; exact h7 j hj
def dipZ (S : Nat → Int) (c p0 p1 p2 : Int) : Nat → Int := upz (upz (upz (upz S (358 + 3 * c) p0) (359 + 3 * c) p1) (360 + 3 * c) p2) 357 (c + 1)
def dipT (f : Nat → Int) (c p0 p1 p2 : Int) : Nat → Int := upz (upz (upz f (3 * c) p0) (3 * c + 1) p1) (3 * c + 2) p2
theorem RPl.dip {cars dips p0 p1 p2 : Int} {tf df sh df1 : Nat → Int32} {S S1 : Nat → Int} (h : RPl cars dips tf df sh S) (hc : dips < 9) (e1 : nz df1 = dipT (nz df) dips p0 p1 p2) (e : ∀ j : Nat, FRq j → S1 j = dipZ S dips p0 p1 p2 j) : RPl cars (dips + 1) tf df1 sh S1 := by
  obtain ⟨h1, h2, h3, h4, h5, h6, h7⟩ := h
  have far : ∀ j : Nat, FRq j → j < 357 → S1 j = S j := fun j hj h9 => by
    rw [e j hj]; unfold dipZ
    rw [upz_n (by omega), upz_n (by omega), upz_n (by omega), upz_n (by omega)]
  refine ⟨h1, by omega, ?_, ?_, fun k hk => ?_, fun j hj => ?_, fun j hj => ?_⟩
  · rw [far 252 (by unfold FRq; omega) (by omega)]; exact h3
  · rw [e 357 (by unfold FRq; omega)]; unfold dipZ; exact upz_s rfl
  · rw [far (353 + k) (by unfold FRq; omega) (by omega)]; exact h5 k hk
  · rw [far (253 + j) (by unfold FRq; omega) (by omega)]; exact h6 j hj
  · rw [e (358 + j) (by unfold FRq; omega), e1]
    unfold dipZ dipT
    rw [upz_n (show ((358 + j : Nat) : Int) ≠ 357 by omega)]
    by_cases c2 : (j : Int) = 3 * dips + 2
    · rw [upz_s c2, upz_s (show ((358 + j : Nat) : Int) = 360 + 3 * dips by omega)]
    · rw [upz_n c2, upz_n (show ((358 + j : Nat) : Int) ≠ 360 + 3 * dips by omega)]
      by_cases c1 : (j : Int) = 3 * dips + 1
      · rw [upz_s c1, upz_s (show ((358 + j : Nat) : Int) = 359 + 3 * dips by omega)]
      · rw [upz_n c1, upz_n (show ((358 + j : Nat) : Int) ≠ 359 + 3 * dips by omega)]
        by_cases c0 : (j : Int) = 3 * dips
        · rw [upz_s c0, upz_s (show ((358 + j : Nat) : Int) = 358 + 3 * dips by omega)]
        · rw [upz_n c0, upz_n (show ((358 + j : Nat) : Int) ≠ 358 + 3 * dips by omega)]
          exact h7 j (by omega)
theorem RPl.share {cars dips k v : Int} {tf df sh sh1 : Nat → Int32} {S S1 : Nat → Int} (h : RPl cars dips tf df sh S) (hk : 0 ≤ k ∧ k ≤ 3) (e1 : nz sh1 = upz (nz sh) k v) (e : ∀ j : Nat, FRq j → S1 j = upz S (353 + k) v j) : RPl cars dips tf df sh1 S1 := by
  obtain ⟨h1, h2, h3, h4, h5, h6, h7⟩ := h
  have far : ∀ j : Nat, FRq j → (j < 353 ∨ 357 ≤ j) → S1 j = S j := fun j hj h9 => by
    rw [e j hj, upz_n (by omega)]
  refine ⟨h1, h2, ?_, ?_, fun i hi => ?_, fun j hj => ?_, fun j hj => ?_⟩
  · rw [far 252 (by unfold FRq; omega) (by omega)]; exact h3
  · rw [far 357 (by unfold FRq; omega) (by omega)]; exact h4
  · rw [e (353 + i) (by unfold FRq; omega), e1]
    by_cases c : (i : Int) = k
    · rw [upz_s c, upz_s (show ((353 + i : Nat) : Int) = 353 + k by omega)]
    · rw [upz_n c, upz_n (show ((353 + i : Nat) : Int) ≠ 353 + k by omega)]; exact h5 i hi
  · rw [far (253 + j) (by unfold FRq; omega) (by omega)]; exact h6 j hj
  · rw [far (358 + j) (by unfold FRq; omega) (by omega)]; exact h7 j hj
/-- a text of a street that stands: the plan behind it -/
theorem RPl.new {tf df sh : Nat → Int32} {nb ns S : Nat → Int} {v : Int} (hn : DN nb ns) (h1 : ∀ j : Nat, j < 4 → nz sh j = 1) (e : ∀ j : Nat, j < 389 → S j = upz ns 215 v j) : RPl 0 0 tf df sh S := by
  have z : ∀ j : Nat, 234 ≤ j → j < 389 → S j = ns0 j := fun j a b => by
    rw [e j b, upz_n (by omega), hn.2.2.2.2.2.2 j (by omega)]
  refine ⟨by omega, by omega, ?_, ?_, fun k hk => ?_, fun j hj => by omega, fun j hj => by omega⟩
  · rw [z 252 (by omega) (by omega)]; rfl
  · rw [z 357 (by omega) (by omega)]; rfl
  · rw [z (353 + k) (by omega) (by omega), h1 k hk]
    unfold ns0
    rw [if_neg (by omega), if_pos (by omega)]
theorem RSt.new {nb ns b : Nat → Int} {wi ro dr dt pe sh wo : Int} {hf df pf sf kf : Nat → Int32} (h : DRL nb ns wi ro dr dt pe sh wo hf df pf sf kf) (e : ∀ j : Nat, j < 68 → b j = nb j) : RSt wi ro dt pe sh wo sf kf b := by
  obtain ⟨⟨a0, a1, a2, a3, a4, a5, a6⟩, hn, -, -, -, hs, hk⟩ := h
  obtain ⟨n0, n1, n2, n3, n4, n5, -⟩ := hn
  refine ⟨by rw [e 0 (by decide)]; exact a0, by rw [e 1 (by decide)]; exact a1, by rw [e 2 (by decide)]; exact a3, by rw [e 3 (by decide)]; exact a4, by rw [e 4 (by decide)]; exact a5, by rw [e 5 (by decide)]; exact a6, fun k h0 h1 => ?_, fun k h0 h1 => ?_⟩
  · rw [e 4 (by decide)] at h1
    rw [e _ (by omega), e _ (by omega)]; exact hs k h0 h1
  · rw [e 5 (by decide)] at h1
    rw [e _ (by omega), e _ (by omega), e _ (by omega), e _ (by omega), e _ (by omega)]; exact hk k h0 h1
theorem RSt.b {wi ro dt pe sh wo : Int} {sf kf : Nat → Int32} {nb : Nat → Int} (h : RSt wi ro dt pe sh wo sf kf nb) : wi = nb 0 ∧ ro = nb 1 ∧ dt = nb 2 ∧ pe = nb 3 ∧ sh = nb 4 ∧ wo = nb 5 := ⟨h.1, h.2.1, h.2.2.1, h.2.2.2.1, h.2.2.2.2.1, h.2.2.2.2.2.1⟩
theorem RPl.n {cars dips : Int} {tf df sh : Nat → Int32} {S : Nat → Int} (h : RPl cars dips tf df sh S) : S 252 = cars ∧ S 357 = dips := ⟨h.2.2.1, h.2.2.2.1⟩
theorem upz_cg {F G : Nat → Int} {e e' v v' : Int} (h : F = G) (he : e = e') (hv : v = v') : upz F e v = upz G e' v' := by rw [h, he, hv]
theorem st_img {swi sro sdt spe ssh swo a0 a1 a3 a4 a6 a7 : Int} {ssf skf b4 b5 : Nat → Int32} {nb : Nat → Int} (h : RSt swi sro sdt spe ssh swo ssf skf nb) (r4 : 0 ≤ ssh ∧ ssh ≤ 2) (r5 : 0 ≤ swo ∧ swo ≤ 8) (e0 : a0 = swi) (e1 : a1 = sro) (e3 : a3 = sdt) (e4 : a4 = spe) (e6 : a6 = ssh) (e7 : a7 = swo) (c4 : ∀ j : Nat, j < 4 → b4 j = ssf j) (c5 : ∀ j : Nat, j < 40 → b5 j = skf j) : RSt a0 a1 a3 a4 a6 a7 b4 b5 nb := by
  subst e0 e1 e3 e4 e6 e7
  exact h.ext r4.2 r5.2 c4 c5
theorem pl_img {cars dips c d : Int} {tf df sh t1 d1 s1 : Nat → Int32} {S S1 : Nat → Int} (h : RPl cars dips tf df sh S) (e0 : c = cars) (e1 : d = dips) (ct : ∀ j : Nat, j < 100 → t1 j = tf j) (cd : ∀ j : Nat, j < 27 → d1 j = df j) (cs : ∀ j : Nat, j < 4 → s1 j = sh j) (e : ∀ j : Nat, FRq j → S1 j = S j) : RPl c d t1 d1 s1 S1 := by
  subst e0 e1
  exact h.ext ct cd cs e
theorem pl_trf {cars dips c1 ro nb1 R V p0 p1 p2 p3 p4 : Int} {tf df sh tf1 f12 f2 : Nat → Int32} (h : RPl cars dips tf df sh (nz f12)) (hro : ro = nb1) (hR : R = TrR p0 p1 p2 p3 p4 ro) (tv : R = 0 → (cars < 20 → c1 = cars + 1 ∧ V = cars + 1) ∧ (cars = 20 → c1 = cars ∧ V = -1)) (t1 : R = 1 → c1 = cars) (tc : R = 0 → cars < 20 → nz tf1 = carT (nz tf) cars p0 p1 p2 p3 p4) (ts : R = 1 ∨ cars = 20 → tf1 = tf) (tq : TrR p0 p1 p2 p3 p4 nb1 = 0 → nz f12 252 < 20 → ∀ j : Nat, FRq j → nz f2 j = carZ (nz f12) (nz f12 252) p0 p1 p2 p3 p4 j) (tn : TrR p0 p1 p2 p3 p4 nb1 = 1 ∨ nz f12 252 = 20 → f2 = f12) : RPl c1 dips tf1 df sh (nz f2) := by
  subst hro
  have hc := h.n.1
  have h20 := h.1
  rcases TrR_r p0 p1 p2 p3 p4 ro with q | q
  · by_cases w : cars = 20
    · rw [ts (Or.inr w), tn (Or.inr (by omega)), ((tv (by omega)).2 w).1]; exact h
    · have e := tq q (by omega)
      rw [hc] at e
      rw [((tv (by omega)).1 (by omega)).1]
      exact h.car (by omega) (tc (by omega) (by omega)) e
  · rw [ts (Or.inl (by omega)), tn (Or.inl q), t1 (by omega)]; exact h
theorem pl_dip {cars dips d1 p0 p1 p2 : Int} {C : Prop} {tf df sh df1 f12 f2 : Nat → Int32} (h : RPl cars dips tf df sh (nz f12)) (tv : C → dips < 9 → d1 = dips + 1) (t1 : ¬ (C ∧ dips < 9) → d1 = dips) (tc : C → dips < 9 → nz df1 = dipT (nz df) dips p0 p1 p2) (ts : ¬ (C ∧ dips < 9) → df1 = df) (tq : C → nz f12 357 < 9 → ∀ j : Nat, FRq j → nz f2 j = dipZ (nz f12) (nz f12 357) p0 p1 p2 j) (tn : ¬ (C ∧ nz f12 357 < 9) → f2 = f12) : RPl cars d1 tf df1 sh (nz f2) := by
  have hc := h.n.2
  by_cases w : C ∧ dips < 9
  · have e := tq w.1 (by omega)
    rw [hc] at e
    rw [tv w.1 w.2]
    exact h.dip w.2 (tc w.1 w.2) e
  · rw [ts w, tn (fun q => w ⟨q.1, by omega⟩), t1 w]; exact h
theorem pl_shr {cars dips n k : Int} {C : Prop} {tf df sh sh1 f12 f2 : Nat → Int32} (h : RPl cars dips tf df sh (nz f12)) (hn : C → 0 ≤ n ∧ n ≤ 3) (c1 : C → nz sh1 = upz (nz sh) n k) (c0 : ¬ C → sh1 = sh) (m1 : C → ∀ j : Nat, FRq j → nz f2 j = upz (nz f12) (353 + n) k j) (m0 : ¬ C → f2 = f12) : RPl cars dips tf df sh1 (nz f2) := by
  by_cases w : C
  · exact h.share (hn w) (c1 w) (m1 w)
  · rw [c0 w, m0 w]; exact h
theorem DRL.dn {nb ns : Nat → Int} {wi ro dr dt pe sh wo : Int} {hf df pf sf kf : Nat → Int32} (h : DRL nb ns wi ro dr dt pe sh wo hf df pf sf kf) : DN nb ns := h.2.1
/-- a text of a street: what is told behind it -/
theorem st_str {C D : Prop} {nb ns : Nat → Int} {swi sro sdt spe ssh swo a0 a1 a2 a3 a4 a6 a7 : Int} {ssf skf b0 b2 b3 b4 b5 f10 f1 : Nat → Int32} (h : RSt swi sro sdt spe ssh swo ssf skf (nz f10)) (c1 : C → D → DRL nb ns a0 a1 a2 a3 a4 a6 a7 b0 b2 b3 b4 b5) (c0 : ¬ (C ∧ D) → a0 = swi ∧ a1 = sro ∧ a3 = sdt ∧ a4 = spe ∧ a6 = ssh ∧ a7 = swo ∧ b4 = ssf ∧ b5 = skf) (m1 : C → D → ∀ j : Nat, j < 68 → nz f1 j = nb j) (m0 : ¬ (C ∧ D) → f1 = f10) : RSt a0 a1 a3 a4 a6 a7 b4 b5 (nz f1) := by
  by_cases w : C ∧ D
  · exact RSt.new (c1 w.1 w.2) (m1 w.1 w.2)
  · obtain ⟨e0, e1, e3, e4, e6, e7, e8, e9⟩ := c0 w
    rw [e0, e1, e3, e4, e6, e7, e8, e9, m0 w]; exact h
theorem pl_str {C D : Prop} {nb ns : Nat → Int} {v cars dips c d : Int} {tf df sh s1 f12 f2 : Nat → Int32} (h : RPl cars dips tf df sh (nz f12)) (c1 : C → D → DN nb ns ∧ c = 0 ∧ d = 0 ∧ ∀ j : Nat, j < 4 → nz s1 j = 1) (c0 : ¬ (C ∧ D) → c = cars ∧ d = dips ∧ s1 = sh) (m1 : C → D → ∀ j : Nat, j < 389 → nz f2 j = upz ns 215 v j) (m0 : ¬ (C ∧ D) → f2 = f12) : RPl c d tf df s1 (nz f2) := by
  by_cases w : C ∧ D
  · obtain ⟨e1, e2, e3, e4⟩ := c1 w.1 w.2
    rw [e2, e3]; exact RPl.new e1 e4 (m1 w.1 w.2)
  · obtain ⟨e1, e2, e3⟩ := c0 w
    rw [e1, e2, e3, m0 w]; exact h
theorem ie_str {C D : Prop} {im mi im1 mi1 : Int} (h : im = mi) (c1 : C → D → im1 = 0) (c0 : ¬ (C ∧ D) → im1 = im) (m1 : C → D → mi1 = 0) (m0 : ¬ (C ∧ D) → mi1 = mi) : im1 = mi1 := by
  by_cases w : C ∧ D
  · rw [c1 w.1 w.2, m1 w.1 w.2]
  · rw [c0 w, m0 w, h]
/-- an image that stands -/
def GIm (k im iwi iro idt ipe ish iwo jcars jdips : Int) (isf ikf jtf jdf jsh : Nat → Int32) (nb S : Nat → Int) : Prop := k < im → RSt iwi iro idt ipe ish iwo isf ikf nb ∧ RPl jcars jdips jtf jdf jsh S
theorem g_str {C D : Prop} {k im im1 iwi iro idt ipe ish iwo jcars jdips : Int} {isf ikf jtf jdf jsh f10 f1 : Nat → Int32} {S : Nat → Int} (h : GIm k im iwi iro idt ipe ish iwo jcars jdips isf ikf jtf jdf jsh (nz f10) S) (hk : 0 ≤ k) (c1 : C → D → im1 = 0) (c0 : ¬ (C ∧ D) → im1 = im) (m0 : ¬ (C ∧ D) → f1 = f10) : GIm k im1 iwi iro idt ipe ish iwo jcars jdips isf ikf jtf jdf jsh (nz f1) S := by
  intro q
  by_cases w : C ∧ D
  · have := c1 w.1 w.2; omega
  · rw [m0 w]; exact h (by have := c0 w; omega)
theorem GIm.le {k im im1 iwi iro idt ipe ish iwo jcars jdips : Int} {isf ikf jtf jdf jsh : Nat → Int32} {nb S : Nat → Int} (h : GIm k im iwi iro idt ipe ish iwo jcars jdips isf ikf jtf jdf jsh nb S) (e : k < im1 → k < im) : GIm k im1 iwi iro idt ipe ish iwo jcars jdips isf ikf jtf jdf jsh nb S := fun q => h (e q)
theorem GIm.fr {k im im1 iwi iro idt ipe ish iwo jcars jdips : Int} {isf ikf jtf jdf jsh : Nat → Int32} {nb S S1 : Nat → Int} (h : GIm k im iwi iro idt ipe ish iwo jcars jdips isf ikf jtf jdf jsh nb S) (e : k < im1 → k < im) (e1 : ∀ j : Nat, FRq j → S1 j = S j) : GIm k im1 iwi iro idt ipe ish iwo jcars jdips isf ikf jtf jdf jsh nb S1 := fun q => ⟨(h (e q)).1, (h (e q)).2.fr e1⟩
theorem RSt.wk {wi ro dt pe sh wo n k : Int} {sf kf : Nat → Int32} {nb : Nat → Int} (h : RSt wi ro dt pe sh wo sf kf nb) : (0 ≤ n ∧ n < wo) ∧ 0 ≤ k ∧ k ≤ 1 → nz kf (5 * n + k).toNat = nb (28 + 5 * n + 4 * k).toNat := by
  intro q
  obtain ⟨a0, a1, a2, a3, a4, a5, a6, a7⟩ := h
  have := a7 n q.1.1 (by omega)
  rcases (show k = 0 ∨ k = 1 by omega) with e | e
  · subst e; rw [show 5 * n + 0 = 5 * n by omega, show 28 + 5 * n + 4 * 0 = 28 + 5 * n by omega]; exact this.1
  · subst e; rw [show 28 + 5 * n + 4 * 1 = 32 + 5 * n by omega]; exact this.2.1
end
