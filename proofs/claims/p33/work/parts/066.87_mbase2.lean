/-- the images: each of three rows of 389 places is a state -/
def IM (f : Nat → Int32) : Prop := ∀ r : Nat, r < 3 → SI 8 (fun j => f (389 * r + j))
theorem IM.put {f f1 g : Nat → Int32} {r : Int} (h : IM f) (hr : 0 ≤ r ∧ r < 3) (hg : SI 8 g) (h1 : (∀ j : Nat, (j : Int) < 389 → f1 (389 * r.toNat + j) = g j) ∧ ∀ j : Nat, ((j : Int) < 389 * r ∨ 389 * r + 389 ≤ j) → f1 j = f j) : IM f1 := by
  intro q hq
  by_cases e : q = r.toNat
  · subst e
    exact hg.ext (fun j hj => h1.1 j (by omega))
  · exact (h q hq).ext (fun j hj => h1.2 (389 * q + j) (by omega))
theorem IM.get {f g : Nat → Int32} {r : Int} (h : IM f) (hr : 0 ≤ r ∧ r < 3) (h1 : ∀ j : Nat, (j : Int) < 389 → g j = f (389 * r.toNat + j)) : SI 8 g :=
  (h r.toNat (by omega)).ext (fun j hj => h1 j (by omega))
theorem IM.zero {f : Nat → Int32} (h : ∀ j : Nat, j < 1167 → f j = iI 0) : IM f := fun r hr => SI.zero (by decide) (fun j _ b _ => h (389 * r + j) (by omega))
/-- the k-th bit -/
def bt (a k : Int) : Int32 := (iI a >>> (iI k &&& 31)) &&& iI 1
theorem sw_0 : ∀ a : Fin 64, ∀ k : Fin 6, ¬ bt (a.1 : Int) (k.1 : Int) = iI 1 → ∃ z : Fin 64, iI (a.1 : Int) ||| (iI 1 <<< (iI (k.1 : Int) &&& 31)) = iI (z.1 : Int) ∧ a.1 < z.1 := by decide +kernel
theorem sw_inc {a k z1 z4 z5 : Int} (ha : 0 ≤ a ∧ a < 64) (hk : 0 ≤ k ∧ k < 6) (e1 : iI 1 <<< (iI k &&& 31) = iI z1) (e4 : iI a >>> (iI k &&& 31) = iI z4) (e5 : iI z4 &&& iI 1 = iI z5) (h5 : ¬ z5 = 1) (hr : 0 ≤ z5 ∧ z5 ≤ 1) : ∃ z : Int, iI a ||| iI z1 = iI z ∧ a < z ∧ z < 64 := by
  obtain ⟨n, rfl⟩ := Int.eq_ofNat_of_zero_le ha.1
  obtain ⟨q, rfl⟩ := Int.eq_ofNat_of_zero_le hk.1
  obtain ⟨z, h1, h2⟩ := sw_0 ⟨n, by omega⟩ ⟨q, by omega⟩ (by
    show ¬ bt (n : Int) (q : Int) = iI 1
    unfold bt
    rw [e4, e5]
    exact fun h => h5 ((iI_eq (by omega) (by omega)).mp h))
  have h3 : iI (n : Int) ||| (iI 1 <<< (iI (q : Int) &&& 31)) = iI (z.1 : Int) := h1
  rw [e1] at h3
  exact ⟨(z.1 : Int), h3, by have : n < z.1 := h2; omega, by omega⟩
theorem bt_e {a k z4 z5 : Int} (e4 : iI a >>> (iI k &&& 31) = iI z4) (e5 : iI z4 &&& iI 1 = iI z5) : bt a k = iI z5 := by
  unfold bt
  rw [e4, e5]
/-- mend: of the works of a set, those before q are not done -/
def MD (a q : Int) (f : Nat → Int32) : Prop := ∀ j : Nat, (j : Int) < q → bt a j = iI 1 → nz f (198 + j) = 0
theorem MD.zero {a : Int} {f : Nat → Int32} : MD a 0 f := fun j hj => absurd hj (by omega)
theorem MD.skip {a q q1 z4 z5 : Int} {f : Nat → Int32} (h : MD a q f) (hq : 0 ≤ q) (e4 : iI a >>> (iI q &&& 31) = iI z4) (e5 : iI z4 &&& iI 1 = iI z5) (h5 : z5 = 0) (h1 : q1 = q + 1) : MD a q1 f := by
  intro j hj hb
  by_cases e : (j : Int) = q
  · rw [e, bt_e e4 e5, h5] at hb
    exact absurd hb (by decide)
  · exact h j (by omega) hb
theorem MD.next {a q q1 : Int} {f : Nat → Int32} (h : MD a q f) (hq : 0 ≤ q) (h0 : nz f (198 + q.toNat) = 0) (h1 : q1 = q + 1) : MD a q1 f := by
  intro j hj hb
  by_cases e : (j : Int) = q
  · rw [show 198 + j = 198 + q.toNat by omega]; exact h0
  · exact h j (by omega) hb
/-- of the works of a set, those from q on are not done -/
def MF (a q n : Int) (f : Nat → Int32) : Prop := ∀ j : Nat, q ≤ (j : Int) → (j : Int) < n → bt a j = iI 1 → nz f (198 + j) = 0
theorem MD.all {a n : Int} {f : Nat → Int32} (h : MD a n f) : MF a 0 n f := fun j _ hj hb => h j hj hb
theorem MF.use {a q n z4 z5 : Int} {f : Nat → Int32} (h : MF a q n f) (hq : 0 ≤ q ∧ q < n) (e4 : iI a >>> (iI q &&& 31) = iI z4) (e5 : iI z4 &&& iI 1 = iI z5) (h5 : z5 = 1) : nz f (198 + q.toNat) ≠ 1 := by
  have := h q.toNat (by omega) (by omega) (by rw [show ((q.toNat : Nat) : Int) = q by omega, bt_e e4 e5, h5])
  omega
theorem MF.next {a q q1 n : Int} {f f1 : Nat → Int32} (h : MF a q n f) (hf : ∀ j : Nat, (q : Int) < (j : Int) → (j : Int) < 8 → nz f1 (198 + j) = nz f (198 + j)) (hn : n ≤ 8) (h1 : q1 = q + 1) : MF a q1 n f1 := fun j a1 a2 hb => by
  rw [hf j (by omega) (by omega)]
  exact h j (by omega) a2 hb
