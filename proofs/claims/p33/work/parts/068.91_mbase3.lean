/-- a set with one more dip -/
def so (a k : Int) : Int32 := iI a ||| (iI 1 <<< (iI k &&& 31))
/-- the days of a set, of the first n dips -/
def dsN (f : Nat → Int32) (a : Int) : Nat → Int32
  | 0 => iI 0
  | n + 1 => dsN f a n + (if bt a n = iI 1 then f (359 + 3 * n) else iI 0)
/-- what a dip weighs behind a set -/
def dgV (f r : Nat → Int32) (n : Nat) (a k : Int) : Int32 := ((if nz f (360 + 3 * k.toNat) < (dsN f (so a k).toInt n).toInt then iI 1000000 else iI 0) + f (358 + 3 * k.toNat) * dsN f (so a k).toInt n) + r (so a k).toInt.toNat
/-- r at a is what some dip from q on that is not in a weighs -/
def RS (f r : Nat → Int32) (n : Nat) (a q : Int) : Prop := ∃ k : Nat, q ≤ (k : Int) ∧ k < n ∧ ¬ bt a k = iI 1 ∧ r a.toNat = dgV f r n a k
theorem so_0 : ∀ k : Fin 9, ∀ a : Fin 512, 0 ≤ (so (a.1 : Int) (k.1 : Int)).toInt ∧ (so (a.1 : Int) (k.1 : Int)).toInt ≤ 511 := by decide +kernel
theorem so_1 : ∀ k : Fin 9, ∀ a : Fin 512, ¬ bt (a.1 : Int) (k.1 : Int) = iI 1 → (a.1 : Int) < (so (a.1 : Int) (k.1 : Int)).toInt ∧ ∀ n : Fin 10, k.1 < n.1 → a.1 < 2 ^ n.1 → (so (a.1 : Int) (k.1 : Int)).toInt < (2 ^ n.1 : Nat) := by decide +kernel
theorem so_2 : ∀ n : Fin 10, ∀ a : Fin 512, a.1 + 1 < 2 ^ n.1 → ∃ k : Fin 9, k.1 < n.1 ∧ ¬ bt (a.1 : Int) (k.1 : Int) = iI 1 := by decide +kernel
theorem so_3 : ∀ n : Fin 10, iI 1 <<< (iI (n.1 : Int) &&& 31) = iI ((2 ^ n.1 : Nat) : Int) ∧ 2 ^ n.1 ≤ 512 := by decide +kernel
theorem so_r {a k : Int} (ha : 0 ≤ a ∧ a ≤ 511) (hk : 0 ≤ k ∧ k ≤ 8) : 0 ≤ (so a k).toInt ∧ (so a k).toInt ≤ 511 := by
  obtain ⟨n, rfl⟩ := Int.eq_ofNat_of_zero_le ha.1
  obtain ⟨q, rfl⟩ := Int.eq_ofNat_of_zero_le hk.1
  exact so_0 ⟨q, by omega⟩ ⟨n, by omega⟩
theorem so_ex {a k z1 : Int} (ha : 0 ≤ a ∧ a ≤ 511) (hk : 0 ≤ k ∧ k ≤ 8) (e1 : iI 1 <<< (iI k &&& 31) = iI z1) : ∃ z : Int, iI a ||| iI z1 = iI z ∧ z = (so a k).toInt ∧ 0 ≤ z ∧ z ≤ 511 := by
  refine ⟨(so a k).toInt, ?_, rfl, so_r ha hk⟩
  rw [← e1]
  exact (Int32.ofInt_toInt (so a k)).symm
theorem so_p {N zz : Int} (hN : 0 ≤ N ∧ N ≤ 9) (e : iI 1 <<< (iI N &&& 31) = iI zz) (hz : 0 ≤ zz ∧ zz ≤ 512) : zz = ((2 ^ N.toNat : Nat) : Int) := by
  obtain ⟨n, rfl⟩ := Int.eq_ofNat_of_zero_le hN.1
  obtain ⟨h, h2⟩ := so_3 ⟨n, by omega⟩
  have h3 : iI 1 <<< (iI (n : Int) &&& 31) = iI ((2 ^ n : Nat) : Int) := h
  have h4 : (2 ^ n : Nat) ≤ 512 := h2
  rw [e] at h3
  have h5 : zz = ((2 ^ n : Nat) : Int) := by
    clear h h2 e
    generalize (2 ^ n : Nat) = w at h3 h4 ⊢
    exact (iI_eq (a := zz) (b := (w : Int)) (by omega) (by omega)).mp h3
  rw [h5]
  rfl
theorem so_gt {a k : Int} (ha : 0 ≤ a ∧ a ≤ 511) (hk : 0 ≤ k ∧ k ≤ 8) (hb : ¬ bt a k = iI 1) : a < (so a k).toInt := by
  obtain ⟨n, rfl⟩ := Int.eq_ofNat_of_zero_le ha.1
  obtain ⟨q, rfl⟩ := Int.eq_ofNat_of_zero_le hk.1
  exact (so_1 ⟨q, by omega⟩ ⟨n, by omega⟩ hb).1
theorem dgV_ext {f r r1 : Nat → Int32} {n : Nat} {a k : Int} (h : r1 (so a k).toInt.toNat = r (so a k).toInt.toNat) : dgV f r1 n a k = dgV f r n a k := by
  unfold dgV
  rw [h]
theorem RS.keep {f r r1 : Nat → Int32} {n : Nat} {a q : Int} (h : RS f r n a 0) (ha : 0 ≤ a ∧ a ≤ 511) (hn : n ≤ 9) (hq : q < a) (h1 : ∀ j : Nat, q < (j : Int) → r1 j = r j) : RS f r1 n a 0 := by
  obtain ⟨k, b1, b2, b3, b4⟩ := h
  have := so_gt (a := a) (k := (k : Int)) ha (by omega) b3
  refine ⟨k, b1, b2, b3, ?_⟩
  rw [dgV_ext (h1 _ (by omega)), h1 _ (by omega), b4]
/-- while the dips of a set are tried -/
def AB (f r : Nat → Int32) (n : Nat) (a q : Int) : Prop := (nz r a.toNat = -1 ∧ ∀ k : Nat, (k : Int) < q → bt a k = iI 1) ∨ RS f r n a 0
theorem AB.zero {f r r1 : Nat → Int32} {n : Nat} {a : Int} (ha : 0 ≤ a ∧ a ≤ 511) (hd : r1 = upd r (iI a).toNatClampNeg (iI (-1))) : AB f r1 n a 0 := Or.inl ⟨nz_us hd (by omega) (by omega) (by omega), fun k hk => absurd hk (by omega)⟩
theorem AB.keep {f r : Nat → Int32} {n : Nat} {a q q1 y : Int} (h : AB f r n a q) (ey : y = nz r a.toNat) (hy : y ≠ -1) : AB f r n a q1 := by
  rcases h with ⟨b1, b2⟩ | h
  · exact absurd b1 (by omega)
  · exact Or.inr h
theorem nb_e {a q z4 z5 : Int} (e4 : iI a >>> (iI q &&& 31) = iI z4) (e5 : iI z4 &&& iI 1 = iI z5) (h5 : z5 = 0) : ¬ bt a q = iI 1 := by
  rw [bt_e e4 e5, h5]
  decide
theorem AB.put {f r r1 : Nat → Int32} {n : Nat} {a q q1 v : Int} (ha : 0 ≤ a ∧ a ≤ 511) (hq : 0 ≤ q ∧ q < (n : Int)) (hn : n ≤ 9) (hb : ¬ bt a q = iI 1) (hd : r1 = upd r (iI a).toNatClampNeg (iI v)) (hv : iI v = dgV f r n a q) : AB f r1 n a q1 := by
  have := so_gt (a := a) (k := q) ha (by omega) hb
  refine Or.inr ⟨q.toNat, by omega, by omega, ?_, ?_⟩
  · rw [show ((q.toNat : Nat) : Int) = q by omega]; exact hb
  · rw [show ((q.toNat : Nat) : Int) = q by omega, dgV_ext (r := r) ?_, ← hv, hd, iI_cl (by omega) (by omega), pk_us]
    rw [hd, iI_cl (by omega) (by omega), pk_un (by omega)]
/-- all sets above q, below z, are weighed -/
def RA (f r : Nat → Int32) (n : Nat) (q z : Int) : Prop := ∀ a : Int, q < a → a < z → RS f r n a 0
theorem RA.zero {f r : Nat → Int32} {n : Nat} {q z : Int} (h : z ≤ q + 1) : RA f r n q z := fun a b c => absurd b (by omega)
theorem RA.put {f r r1 : Nat → Int32} {n : Nat} {q z : Int} {x : Int32} (h : RA f r n q z) (hq : 0 ≤ q) (hz : z ≤ 511) (hn : n ≤ 9) (hd : r1 = upd r (iI q).toNatClampNeg x) : RA f r1 n q z := fun a b c => (h a b c).keep (by omega) hn b (fun j hj => by rw [hd, iI_cl (by omega) (by omega), pk_un (by omega)])
theorem RA.next {f r : Nat → Int32} {n : Nat} {q q1 z : Int} (h : RA f r n q z) (h0 : q < z → RS f r n q 0) (h1 : q1 = q - 1) : RA f r n q1 z := fun a b c => by
  by_cases e : a = q
  · subst e; exact h0 c
  · exact h a (by omega) c
theorem RS.lt {f r : Nat → Int32} {n : Nat} {a q : Int} (h : RS f r n a q) : q < (n : Int) := by
  obtain ⟨k, b1, b2, _, _⟩ := h
  omega
