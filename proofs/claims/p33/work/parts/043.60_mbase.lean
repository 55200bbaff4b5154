def nz (f : Nat → Int32) (k : Nat) : Int := (f k).toInt
theorem nz_e (f : Nat → Int32) (k : Nat) : f k = iI (nz f k) := (Int32.ofInt_toInt (f k)).symm
theorem nz_r (f : Nat → Int32) (k : Nat) : -2147483648 ≤ nz f k ∧ nz f k ≤ 2147483647 := by
  have h1 := (f k).le_toInt
  have h2 := (f k).toInt_lt
  unfold nz
  omega
theorem nz_us {f f1 : Nat → Int32} {e v : Int} (hd : f1 = upd f (iI e).toNatClampNeg (iI v)) (he : 0 ≤ e ∧ e ≤ 2147483647) (hv : -2147483648 ≤ v ∧ v ≤ 2147483647) {k : Nat} (hk : (k : Int) = e) : nz f1 k = v := by
  subst hd
  rw [iI_cl he.1 he.2, show e.toNat = k by omega]
  unfold nz
  rw [pk_us]
  exact iI_to hv.1 hv.2
theorem nz_un {f f1 : Nat → Int32} {e : Int} {x : Int32} (hd : f1 = upd f (iI e).toNatClampNeg x) (he : 0 ≤ e ∧ e ≤ 2147483647) {k : Nat} (hk : (k : Int) ≠ e) : nz f1 k = nz f k := by
  subst hd
  rw [iI_cl he.1 he.2]
  unfold nz
  rw [pk_un (by omega)]
theorem nz_ext {f g : Nat → Int32} {k : Nat} (h : f k = g k) : nz f k = nz g k := by
  unfold nz
  rw [h]
theorem inv_nz {n : Nat} {lo hi : Int} {f : Nat → Int32} (hf : inv_ n lo hi f) {k : Nat} (hk : k < n) : lo ≤ nz f k ∧ nz f k ≤ hi := by
  obtain ⟨z, h1, h2, h3, h4, h5⟩ := hf k hk
  have : nz f k = z := by
    unfold nz
    rw [h1]
    exact iI_to h2 h3
  omega
def b01 (z : Int) : Int := if z = 1 then 1 else 0
theorem b01_r (z : Int) : 0 ≤ b01 z ∧ b01 z ≤ 1 := by
  unfold b01
  split <;> omega
theorem b01_1 : b01 1 = 1 := rfl
theorem b01_n {z : Int} (h : z ≠ 1) : b01 z = 0 := if_neg h
/-- how many works are done -/
def dcn (f : Nat → Int32) : Int := b01 (nz f 198) + b01 (nz f 199) + b01 (nz f 200) + b01 (nz f 201) + b01 (nz f 202) + b01 (nz f 203) + b01 (nz f 204) + b01 (nz f 205)
theorem dcn_r (f : Nat → Int32) : 0 ≤ dcn f ∧ dcn f ≤ 8 := by
  have h0 := b01_r (nz f 198)
  have h1 := b01_r (nz f 199)
  have h2 := b01_r (nz f 200)
  have h3 := b01_r (nz f 201)
  have h4 := b01_r (nz f 202)
  have h5 := b01_r (nz f 203)
  have h6 := b01_r (nz f 204)
  have h7 := b01_r (nz f 205)
  unfold dcn
  omega
theorem dcn_ext {f g : Nat → Int32} (h : ∀ j : Nat, 198 ≤ j → j < 206 → nz f j = nz g j) : dcn f = dcn g := by
  unfold dcn
  rw [h 198 (by decide) (by decide), h 199 (by decide) (by decide), h 200 (by decide) (by decide), h 201 (by decide) (by decide), h 202 (by decide) (by decide), h 203 (by decide) (by decide), h 204 (by decide) (by decide), h 205 (by decide) (by decide)]
theorem dcn_up {f f1 : Nat → Int32} {k : Int} (hk : 0 ≤ k ∧ k < 8) (hd : f1 = upd f (iI (198 + k)).toNatClampNeg (iI 1)) (h0 : nz f (198 + k.toNat) ≠ 1) : dcn f1 = dcn f + 1 ∧ dcn f ≤ 7 := by
  have hs : nz f1 (198 + k.toNat) = 1 := nz_us hd (by omega) (by omega) (by omega)
  have hn : ∀ j : Nat, (j : Int) ≠ 198 + k → nz f1 j = nz f j := fun j hj => nz_un hd (by omega) hj
  rcases (show k = 0 ∨ k = 1 ∨ k = 2 ∨ k = 3 ∨ k = 4 ∨ k = 5 ∨ k = 6 ∨ k = 7 by omega) with rfl | rfl | rfl | rfl | rfl | rfl | rfl | rfl
  · have a0 : nz f1 198 = 1 := hs
    have a1 : nz f 198 ≠ 1 := h0
    unfold dcn
    rw [a0, hn 199 (by omega), hn 200 (by omega), hn 201 (by omega), hn 202 (by omega), hn 203 (by omega), hn 204 (by omega), hn 205 (by omega), b01_n a1, b01_1]
    have h1 := b01_r (nz f 199)
    have h2 := b01_r (nz f 200)
    have h3 := b01_r (nz f 201)
    have h4 := b01_r (nz f 202)
    have h5 := b01_r (nz f 203)
    have h6 := b01_r (nz f 204)
    have h7 := b01_r (nz f 205)
    omega
  · have a0 : nz f1 199 = 1 := hs
    have a1 : nz f 199 ≠ 1 := h0
    unfold dcn
    rw [a0, hn 198 (by omega), hn 200 (by omega), hn 201 (by omega), hn 202 (by omega), hn 203 (by omega), hn 204 (by omega), hn 205 (by omega), b01_n a1, b01_1]
    have h0 := b01_r (nz f 198)
    have h2 := b01_r (nz f 200)
    have h3 := b01_r (nz f 201)
    have h4 := b01_r (nz f 202)
    have h5 := b01_r (nz f 203)
    have h6 := b01_r (nz f 204)
    have h7 := b01_r (nz f 205)
    omega
  · have a0 : nz f1 200 = 1 := hs
    have a1 : nz f 200 ≠ 1 := h0
    unfold dcn
    rw [a0, hn 198 (by omega), hn 199 (by omega), hn 201 (by omega), hn 202 (by omega), hn 203 (by omega), hn 204 (by omega), hn 205 (by omega), b01_n a1, b01_1]
    have h0 := b01_r (nz f 198)
    have h1 := b01_r (nz f 199)
    have h3 := b01_r (nz f 201)
    have h4 := b01_r (nz f 202)
    have h5 := b01_r (nz f 203)
    have h6 := b01_r (nz f 204)
    have h7 := b01_r (nz f 205)
    omega
  · have a0 : nz f1 201 = 1 := hs
    have a1 : nz f 201 ≠ 1 := h0
    unfold dcn
    rw [a0, hn 198 (by omega), hn 199 (by omega), hn 200 (by omega), hn 202 (by omega), hn 203 (by omega), hn 204 (by omega), hn 205 (by omega), b01_n a1, b01_1]
    have h0 := b01_r (nz f 198)
    have h1 := b01_r (nz f 199)
    have h2 := b01_r (nz f 200)
    have h4 := b01_r (nz f 202)
    have h5 := b01_r (nz f 203)
    have h6 := b01_r (nz f 204)
    have h7 := b01_r (nz f 205)
    omega
  · have a0 : nz f1 202 = 1 := hs
    have a1 : nz f 202 ≠ 1 := h0
    unfold dcn
    rw [a0, hn 198 (by omega), hn 199 (by omega), hn 200 (by omega), hn 201 (by omega), hn 203 (by omega), hn 204 (by omega), hn 205 (by omega), b01_n a1, b01_1]
    have h0 := b01_r (nz f 198)
    have h1 := b01_r (nz f 199)
    have h2 := b01_r (nz f 200)
    have h3 := b01_r (nz f 201)
    have h5 := b01_r (nz f 203)
    have h6 := b01_r (nz f 204)
    have h7 := b01_r (nz f 205)
    omega
  · have a0 : nz f1 203 = 1 := hs
    have a1 : nz f 203 ≠ 1 := h0
    unfold dcn
    rw [a0, hn 198 (by omega), hn 199 (by omega), hn 200 (by omega), hn 201 (by omega), hn 202 (by omega), hn 204 (by omega), hn 205 (by omega), b01_n a1, b01_1]
    have h0 := b01_r (nz f 198)
    have h1 := b01_r (nz f 199)
    have h2 := b01_r (nz f 200)
    have h3 := b01_r (nz f 201)
    have h4 := b01_r (nz f 202)
    have h6 := b01_r (nz f 204)
    have h7 := b01_r (nz f 205)
    omega
  · have a0 : nz f1 204 = 1 := hs
    have a1 : nz f 204 ≠ 1 := h0
    unfold dcn
    rw [a0, hn 198 (by omega), hn 199 (by omega), hn 200 (by omega), hn 201 (by omega), hn 202 (by omega), hn 203 (by omega), hn 205 (by omega), b01_n a1, b01_1]
    have h0 := b01_r (nz f 198)
    have h1 := b01_r (nz f 199)
    have h2 := b01_r (nz f 200)
    have h3 := b01_r (nz f 201)
    have h4 := b01_r (nz f 202)
    have h5 := b01_r (nz f 203)
    have h7 := b01_r (nz f 205)
    omega
  · have a0 : nz f1 205 = 1 := hs
    have a1 : nz f 205 ≠ 1 := h0
    unfold dcn
    rw [a0, hn 198 (by omega), hn 199 (by omega), hn 200 (by omega), hn 201 (by omega), hn 202 (by omega), hn 203 (by omega), hn 204 (by omega), b01_n a1, b01_1]
    have h0 := b01_r (nz f 198)
    have h1 := b01_r (nz f 199)
    have h2 := b01_r (nz f 200)
    have h3 := b01_r (nz f 201)
    have h4 := b01_r (nz f 202)
    have h5 := b01_r (nz f 203)
    have h6 := b01_r (nz f 204)
    omega
/-- the reference's state -/
def SI (pm : Int) (f : Nat → Int32) : Prop := (0 ≤ nz f 206 ∧ nz f 206 ≤ dcn f) ∧ (∀ j : Nat, j < 8 → 0 ≤ nz f (207 + j) ∧ nz f (207 + j) ≤ 7) ∧ (0 ≤ nz f 215 ∧ nz f 215 ≤ pm) ∧ (0 ≤ nz f 252 ∧ nz f 252 ≤ 20) ∧ (∀ r : Nat, r < 20 → 0 ≤ nz f (254 + 5 * r) ∧ nz f (254 + 5 * r) ≤ 5) ∧ (0 ≤ nz f 357 ∧ nz f 357 ≤ 9) ∧ (0 ≤ nz f 388 ∧ nz f 388 ≤ 600)
theorem SI.nzx {pm : Int} {f g : Nat → Int32} (hs : SI pm f) (h : ∀ j : Nat, 198 ≤ j → j < 389 → (j < 216 ∨ j = 252 ∨ j = 357 ∨ j = 388 ∨ (253 ≤ j ∧ j < 353)) → nz g j = nz f j) : SI pm g := by
  obtain ⟨h1, h2, h3, h4, h5, h6, h7⟩ := hs
  have hd : dcn g = dcn f := dcn_ext (fun j a b => h j a (by omega) (by omega))
  refine ⟨?_, fun j hj => ?_, ?_, ?_, fun r hr => ?_, ?_, ?_⟩
  · rw [h 206 (by decide) (by decide) (by decide), hd]; exact h1
  · rw [h (207 + j) (by omega) (by omega) (by omega)]; exact h2 j hj
  · rw [h 215 (by decide) (by decide) (by decide)]; exact h3
  · rw [h 252 (by decide) (by decide) (by decide)]; exact h4
  · rw [h (254 + 5 * r) (by omega) (by omega) (by omega)]; exact h5 r hr
  · rw [h 357 (by decide) (by decide) (by decide)]; exact h6
  · rw [h 388 (by decide) (by decide) (by decide)]; exact h7
theorem SI.ext {pm : Int} {f g : Nat → Int32} (hs : SI pm f) (h : ∀ j : Nat, j < 389 → g j = f j) : SI pm g := hs.nzx (fun j _ b _ => nz_ext (h j b))
theorem SI.up {a b : Int} {f : Nat → Int32} (hs : SI a f) (h : a ≤ b) : SI b f := ⟨hs.1, hs.2.1, ⟨hs.2.2.1.1, Int.le_trans hs.2.2.1.2 h⟩, hs.2.2.2⟩
/-- a write to a place of which nothing is asked -/
theorem SI.wo {pm : Int} {f f1 : Nat → Int32} {e v : Int} (hs : SI pm f) (hd : f1 = upd f (iI e).toNatClampNeg (iI v)) (he : 0 ≤ e ∧ e < 389) (h1 : e < 198 ∨ 215 < e) (h2 : e ≠ 252 ∧ e ≠ 357 ∧ e ≠ 388) (h3 : e < 253 ∨ 353 ≤ e) : SI pm f1 :=
  hs.nzx (fun j a b c => nz_un hd (by omega) (by omega))
/-- a write into a row of cars: its column 1 is a row of the street -/
theorem SI.wc {pm : Int} {f f1 : Nat → Int32} {e v k : Int} {c : Nat} (hs : SI pm f) (hd : f1 = upd f (iI e).toNatClampNeg (iI v)) (hk : 0 ≤ k ∧ k < 20) (hc : c < 5) (he : e = 253 + 5 * k + c) (hv : -2147483648 ≤ v ∧ v ≤ 2147483647) (h1 : c = 1 → 0 ≤ v ∧ v ≤ 5) : SI pm f1 := by
  have hn : ∀ j : Nat, (j : Int) ≠ e → nz f1 j = nz f j := fun j hj => nz_un hd (by omega) hj
  have hq : dcn f1 = dcn f := dcn_ext (fun j a b => hn j (by omega))
  obtain ⟨a1, a2, a3, a4, a5, a6, a7⟩ := hs
  refine ⟨?_, fun j hj => ?_, ?_, ?_, fun r hr => ?_, ?_, ?_⟩
  · rw [hn 206 (by omega), hq]; exact a1
  · rw [hn (207 + j) (by omega)]; exact a2 j hj
  · rw [hn 215 (by omega)]; exact a3
  · rw [hn 252 (by omega)]; exact a4
  · by_cases q : ((254 + 5 * r : Nat) : Int) = e
    · rw [nz_us hd (by omega) hv q]; exact h1 (by omega)
    · rw [hn _ q]; exact a5 r hr
  · rw [hn 357 (by omega)]; exact a6
  · rw [hn 388 (by omega)]; exact a7
theorem SI.wk {pm pn : Int} {f f1 : Nat → Int32} {e v : Int} (hs : SI pm f) (hd : f1 = upd f (iI e).toNatClampNeg (iI v)) (hv : -2147483648 ≤ v ∧ v ≤ 2147483647) (h : (e = 215 ∧ 0 ≤ v ∧ v ≤ pn) ∨ (e = 252 ∧ 0 ≤ v ∧ v ≤ 20 ∧ pm ≤ pn) ∨ (e = 357 ∧ 0 ≤ v ∧ v ≤ 9 ∧ pm ≤ pn) ∨ (e = 388 ∧ 0 ≤ v ∧ v ≤ 600 ∧ pm ≤ pn)) : SI pn f1 := by
  have hn : ∀ j : Nat, (j : Int) ≠ e → nz f1 j = nz f j := fun j hj => nz_un hd (by omega) hj
  have hw : ∀ j : Nat, (j : Int) = e → nz f1 j = v := fun j hj => nz_us hd (by omega) hv hj
  have hq : dcn f1 = dcn f := dcn_ext (fun j a b => hn j (by omega))
  obtain ⟨a1, a2, a3, a4, a5, a6, a7⟩ := hs
  refine ⟨?_, fun j hj => ?_, ?_, ?_, fun r hr => ?_, ?_, ?_⟩
  · rw [hn 206 (by omega), hq]; exact a1
  · rw [hn (207 + j) (by omega)]; exact a2 j hj
  · by_cases q : e = 215
    · rw [hw 215 (by omega)]; omega
    · rw [hn 215 (by omega)]; omega
  · by_cases q : e = 252
    · rw [hw 252 (by omega)]; omega
    · rw [hn 252 (by omega)]; exact a4
  · rw [hn _ (by omega)]; exact a5 r hr
  · by_cases q : e = 357
    · rw [hw 357 (by omega)]; omega
    · rw [hn 357 (by omega)]; exact a6
  · by_cases q : e = 388
    · rw [hw 388 (by omega)]; omega
    · rw [hn 388 (by omega)]; exact a7
/-- a work is done: the state behind it, with room for one bored drain more -/
theorem SI.wd {pm : Int} {f f1 : Nat → Int32} {k : Int} (hs : SI pm f) (hk : 0 ≤ k ∧ k < 8) (hd : f1 = upd f (iI (198 + k)).toNatClampNeg (iI 1)) (h0 : nz f (198 + k.toNat) ≠ 1) : SI pm f1 ∧ nz f1 206 + 1 ≤ dcn f1 ∧ nz f1 206 ≤ 7 := by
  have hn : ∀ j : Nat, (j : Int) ≠ 198 + k → nz f1 j = nz f j := fun j hj => nz_un hd (by omega) hj
  obtain ⟨hq, hq7⟩ := dcn_up hk hd h0
  obtain ⟨a1, a2, a3, a4, a5, a6, a7⟩ := hs
  have e6 := hn 206 (by omega)
  refine ⟨⟨?_, fun j hj => ?_, ?_, ?_, fun r hr => ?_, ?_, ?_⟩, by omega, by omega⟩
  · rw [e6, hq]; omega
  · rw [hn (207 + j) (by omega)]; exact a2 j hj
  · rw [hn 215 (by omega)]; exact a3
  · rw [hn 252 (by omega)]; exact a4
  · rw [hn _ (by omega)]; exact a5 r hr
  · rw [hn 357 (by omega)]; exact a6
  · rw [hn 388 (by omega)]; exact a7
theorem SI.wb {pm : Int} {f f1 f2 : Nat → Int32} {e v w : Int} (hs : SI pm f) (hr : nz f 206 + 1 ≤ dcn f) (he : e = 207 + nz f 206) (h8 : nz f 206 ≤ 7) (hv : 0 ≤ v ∧ v ≤ 7) (hd : f1 = upd f (iI e).toNatClampNeg (iI v)) (hw : w = nz f1 206 + 1) (hd2 : f2 = upd f1 (iI 206).toNatClampNeg (iI w)) : SI pm f2 := by
  obtain ⟨a1, a2, a3, a4, a5, a6, a7⟩ := hs
  have hn : ∀ j : Nat, (j : Int) ≠ e → nz f1 j = nz f j := fun j hj => nz_un hd (by omega) hj
  have hn2 : ∀ j : Nat, (j : Int) ≠ 206 → nz f2 j = nz f1 j := fun j hj => nz_un hd2 (by omega) hj
  have e6 := hn 206 (by omega)
  have w6 : nz f2 206 = w := nz_us hd2 (by omega) (by have := dcn_r f; omega) (by omega)
  have hq : dcn f2 = dcn f := dcn_ext (fun j a b => (hn2 j (by omega)).trans (hn j (by omega)))
  refine ⟨?_, fun j hj => ?_, ?_, ?_, fun r hr => ?_, ?_, ?_⟩
  · rw [w6, hq]; omega
  · by_cases q : ((207 + j : Nat) : Int) = e
    · rw [hn2 _ (by omega), nz_us hd (by omega) (by omega) q]; exact hv
    · rw [hn2 _ (by omega), hn _ q]; exact a2 j hj
  · rw [hn2 _ (by omega), hn 215 (by omega)]; exact a3
  · rw [hn2 _ (by omega), hn 252 (by omega)]; exact a4
  · rw [hn2 _ (by omega), hn _ (by omega)]; exact a5 r hr
  · rw [hn2 _ (by omega), hn 357 (by omega)]; exact a6
  · rw [hn2 _ (by omega), hn 388 (by omega)]; exact a7
theorem SI.zero {pm : Int} (h : 0 ≤ pm) {f : Nat → Int32} (hf : ∀ j : Nat, 198 ≤ j → j < 389 → (j < 353 ∨ 357 ≤ j) → f j = iI 0) : SI pm f := by
  have hz : ∀ j : Nat, 198 ≤ j → j < 389 → (j < 353 ∨ 357 ≤ j) → nz f j = 0 := fun j a b c => by
    unfold nz
    rw [hf j a b c]
    rfl
  have hd := dcn_r f
  refine ⟨?_, fun j hj => ?_, ?_, ?_, fun r hr => ?_, ?_, ?_⟩
  · rw [hz 206 (by decide) (by decide) (by decide)]; omega
  · rw [hz (207 + j) (by omega) (by omega) (by omega)]; omega
  · rw [hz 215 (by decide) (by decide) (by decide)]; omega
  · rw [hz 252 (by decide) (by decide) (by decide)]; omega
  · rw [hz _ (by omega) (by omega) (by omega)]; omega
  · rw [hz 357 (by decide) (by decide) (by decide)]; omega
  · rw [hz 388 (by decide) (by decide) (by decide)]; omega
/-- a street that is read -/
def NI (f : Nat → Int32) : Prop := (0 ≤ nz f 0 ∧ nz f 0 ≤ 16) ∧ (0 ≤ nz f 1 ∧ nz f 1 ≤ 6) ∧ (0 ≤ nz f 2 ∧ nz f 2 ≤ 6) ∧ (0 ≤ nz f 3 ∧ nz f 3 ≤ 8) ∧ (0 ≤ nz f 4 ∧ nz f 4 ≤ 2) ∧ (0 ≤ nz f 5 ∧ nz f 5 ≤ 8) ∧ (∀ r : Nat, r < 6 → (0 ≤ nz f (6 + 3 * r) ∧ nz f (6 + 3 * r) ≤ 15) ∧ 0 ≤ nz f (7 + 3 * r) ∧ nz f (7 + 3 * r) ≤ 5) ∧ (∀ r : Nat, r < 8 → (0 ≤ nz f (29 + 5 * r) ∧ nz f (29 + 5 * r) ≤ 15) ∧ (0 ≤ nz f (30 + 5 * r) ∧ nz f (30 + 5 * r) ≤ 5) ∧ (nz f (28 + 5 * r) = 0 → nz f (29 + 5 * r) ≤ 5))
/-- a street that is told -/
def BI (f : Nat → Int32) : Prop := NI f ∧ (nz f 0 = 0 ∨ 2 ≤ nz f 0) ∧ (0 < nz f 0 → 1 ≤ nz f 1)
theorem NI.nzx {f g : Nat → Int32} (h : NI f) (q : ∀ j : Nat, j < 68 → nz g j = nz f j) : NI g := by
  obtain ⟨h0, h1, h2, h3, h4, h5, h6, h7⟩ := h
  refine ⟨?_, ?_, ?_, ?_, ?_, ?_, fun r hr => ?_, fun r hr => ?_⟩
  · rw [q 0 (by decide)]; exact h0
  · rw [q 1 (by decide)]; exact h1
  · rw [q 2 (by decide)]; exact h2
  · rw [q 3 (by decide)]; exact h3
  · rw [q 4 (by decide)]; exact h4
  · rw [q 5 (by decide)]; exact h5
  · rw [q (6 + 3 * r) (by omega), q (7 + 3 * r) (by omega)]; exact h6 r hr
  · rw [q (29 + 5 * r) (by omega), q (30 + 5 * r) (by omega), q (28 + 5 * r) (by omega)]; exact h7 r hr
theorem BI.ext {f g : Nat → Int32} (h : BI f) (q : ∀ j : Nat, j < 68 → g j = f j) : BI g := by
  have q2 : ∀ j : Nat, j < 68 → nz g j = nz f j := fun j hj => nz_ext (q j hj)
  refine ⟨h.1.nzx q2, ?_, ?_⟩
  · rw [q2 0 (by decide)]; exact h.2.1
  · rw [q2 0 (by decide), q2 1 (by decide)]; exact h.2.2
theorem NI.zero {f : Nat → Int32} (hf : ∀ j : Nat, j < 68 → f j = iI 0) : NI f := by
  have hz : ∀ j : Nat, j < 68 → nz f j = 0 := fun j a => by
    unfold nz
    rw [hf j a]
    rfl
  refine ⟨?_, ?_, ?_, ?_, ?_, ?_, fun r hr => ?_, fun r hr => ?_⟩
  · rw [hz 0 (by decide)]; omega
  · rw [hz 1 (by decide)]; omega
  · rw [hz 2 (by decide)]; omega
  · rw [hz 3 (by decide)]; omega
  · rw [hz 4 (by decide)]; omega
  · rw [hz 5 (by decide)]; omega
  · rw [hz (6 + 3 * r) (by omega), hz (7 + 3 * r) (by omega)]; omega
  · rw [hz (29 + 5 * r) (by omega), hz (30 + 5 * r) (by omega), hz (28 + 5 * r) (by omega)]; omega
/-- a write to a count (places 0 to 5), or to a place of which nothing is asked -/
theorem NI.wk {f f1 : Nat → Int32} {e v : Int} (h : NI f) (hd : f1 = upd f (iI e).toNatClampNeg (iI v)) (hv : -2147483648 ≤ v ∧ v ≤ 2147483647) (he : (e = 0 ∧ 0 ≤ v ∧ v ≤ 16) ∨ (e = 1 ∧ 0 ≤ v ∧ v ≤ 6) ∨ (e = 2 ∧ 0 ≤ v ∧ v ≤ 6) ∨ (e = 3 ∧ 0 ≤ v ∧ v ≤ 8) ∨ (e = 4 ∧ 0 ≤ v ∧ v ≤ 2) ∨ (e = 5 ∧ 0 ≤ v ∧ v ≤ 8) ∨ (24 ≤ e ∧ e < 28)) : NI f1 := by
  have hn : ∀ j : Nat, (j : Int) ≠ e → nz f1 j = nz f j := fun j hj => nz_un hd (by omega) hj
  have hw : ∀ j : Nat, (j : Int) = e → nz f1 j = v := fun j hj => nz_us hd (by omega) hv hj
  obtain ⟨h0, h1, h2, h3, h4, h5, h6, h7⟩ := h
  refine ⟨?_, ?_, ?_, ?_, ?_, ?_, fun r hr => ?_, fun r hr => ?_⟩
  · by_cases q : e = 0
    · rw [hw 0 (by omega)]; omega
    · rw [hn 0 (by omega)]; exact h0
  · by_cases q : e = 1
    · rw [hw 1 (by omega)]; omega
    · rw [hn 1 (by omega)]; exact h1
  · by_cases q : e = 2
    · rw [hw 2 (by omega)]; omega
    · rw [hn 2 (by omega)]; exact h2
  · by_cases q : e = 3
    · rw [hw 3 (by omega)]; omega
    · rw [hn 3 (by omega)]; exact h3
  · by_cases q : e = 4
    · rw [hw 4 (by omega)]; omega
    · rw [hn 4 (by omega)]; exact h4
  · by_cases q : e = 5
    · rw [hw 5 (by omega)]; omega
    · rw [hn 5 (by omega)]; exact h5
  · rw [hn (6 + 3 * r) (by omega), hn (7 + 3 * r) (by omega)]; exact h6 r hr
  · rw [hn (29 + 5 * r) (by omega), hn (30 + 5 * r) (by omega), hn (28 + 5 * r) (by omega)]; exact h7 r hr
theorem NI.wr {f f1 : Nat → Int32} {e v k : Int} {c : Nat} (h : NI f) (hd : f1 = upd f (iI e).toNatClampNeg (iI v)) (hk : 0 ≤ k ∧ k < 6) (hc : c < 3) (he : e = 6 + 3 * k + c) (hv : -2147483648 ≤ v ∧ v ≤ 2147483647) (h1 : (c = 0 → 0 ≤ v ∧ v ≤ 15) ∧ (c = 1 → 0 ≤ v ∧ v ≤ 5)) : NI f1 := by
  have hn : ∀ j : Nat, (j : Int) ≠ e → nz f1 j = nz f j := fun j hj => nz_un hd (by omega) hj
  have hw : ∀ j : Nat, (j : Int) = e → nz f1 j = v := fun j hj => nz_us hd (by omega) hv hj
  obtain ⟨h0, h1', h2, h3, h4, h5, h6, h7⟩ := h
  refine ⟨?_, ?_, ?_, ?_, ?_, ?_, fun r hr => ⟨?_, ?_⟩, fun r hr => ?_⟩
  · rw [hn 0 (by omega)]; exact h0
  · rw [hn 1 (by omega)]; exact h1'
  · rw [hn 2 (by omega)]; exact h2
  · rw [hn 3 (by omega)]; exact h3
  · rw [hn 4 (by omega)]; exact h4
  · rw [hn 5 (by omega)]; exact h5
  · by_cases q : ((6 + 3 * r : Nat) : Int) = e
    · rw [hw _ q]; exact h1.1 (by omega)
    · rw [hn _ q]; exact (h6 r hr).1
  · by_cases q : ((7 + 3 * r : Nat) : Int) = e
    · rw [hw _ q]; exact h1.2 (by omega)
    · rw [hn _ q]; exact (h6 r hr).2
  · rw [hn (29 + 5 * r) (by omega), hn (30 + 5 * r) (by omega), hn (28 + 5 * r) (by omega)]; exact h7 r hr
theorem NI.ww {f f1 f2 f3 f4 f5 : Nat → Int32} {k e0 e1 e2 e3 e4 v0 v1 v2 v3 v4 : Int} (h : NI f) (hk : 0 ≤ k ∧ k < 8) (he0 : e0 = 28 + 5 * k) (he1 : e1 = 29 + 5 * k) (he2 : e2 = 30 + 5 * k) (he3 : e3 = 31 + 5 * k) (he4 : e4 = 32 + 5 * k)
    (d1 : f1 = upd f (iI e0).toNatClampNeg (iI v0)) (d2 : f2 = upd f1 (iI e1).toNatClampNeg (iI v1)) (d3 : f3 = upd f2 (iI e2).toNatClampNeg (iI v2)) (d4 : f4 = upd f3 (iI e3).toNatClampNeg (iI v3)) (d5 : f5 = upd f4 (iI e4).toNatClampNeg (iI v4))
    (b0 : 0 ≤ v0 ∧ v0 ≤ 3) (b1 : 0 ≤ v1 ∧ v1 ≤ 15) (b2 : 0 ≤ v2 ∧ v2 ≤ 5) (hx : v0 = 0 → v1 ≤ 5) : NI f5 ∧ ∀ j : Nat, j < 28 → nz f5 j = nz f j := by
  have hn : ∀ j : Nat, ((j : Int) < 28 + 5 * k ∨ 33 + 5 * k ≤ (j : Int)) → nz f5 j = nz f j := fun j hj => by
    rw [nz_un d5 (by omega) (by omega), nz_un d4 (by omega) (by omega), nz_un d3 (by omega) (by omega), nz_un d2 (by omega) (by omega), nz_un d1 (by omega) (by omega)]
  have g0 : ∀ j : Nat, (j : Int) = e0 → nz f5 j = v0 := fun j hj => by
    rw [nz_un d5 (by omega) (by omega), nz_un d4 (by omega) (by omega), nz_un d3 (by omega) (by omega), nz_un d2 (by omega) (by omega), nz_us d1 (by omega) (by omega) hj]
  have g1 : ∀ j : Nat, (j : Int) = e1 → nz f5 j = v1 := fun j hj => by
    rw [nz_un d5 (by omega) (by omega), nz_un d4 (by omega) (by omega), nz_un d3 (by omega) (by omega), nz_us d2 (by omega) (by omega) hj]
  have g2 : ∀ j : Nat, (j : Int) = e2 → nz f5 j = v2 := fun j hj => by
    rw [nz_un d5 (by omega) (by omega), nz_un d4 (by omega) (by omega), nz_us d3 (by omega) (by omega) hj]
  obtain ⟨h0, h1', h2, h3, h4, h5, h6, h7⟩ := h
  refine ⟨⟨?_, ?_, ?_, ?_, ?_, ?_, fun r hr => ?_, fun r hr => ?_⟩, fun j hj => hn j (by omega)⟩
  · rw [hn 0 (by omega)]; exact h0
  · rw [hn 1 (by omega)]; exact h1'
  · rw [hn 2 (by omega)]; exact h2
  · rw [hn 3 (by omega)]; exact h3
  · rw [hn 4 (by omega)]; exact h4
  · rw [hn 5 (by omega)]; exact h5
  · rw [hn (6 + 3 * r) (by omega), hn (7 + 3 * r) (by omega)]; exact h6 r hr
  · by_cases q : (r : Int) = k
    · rw [g1 (29 + 5 * r) (by omega), g2 (30 + 5 * r) (by omega), g0 (28 + 5 * r) (by omega)]; exact ⟨b1, b2, hx⟩
    · rw [hn (29 + 5 * r) (by omega), hn (30 + 5 * r) (by omega), hn (28 + 5 * r) (by omega)]; exact h7 r hr
def nx (v c : Int) : Int := ((iI v <<< (iI 5 &&& 31)) ||| iI (c - 96)).toInt
/-- the letters from k on: their number (if they are 6 at most), how many -/
def wvG (f : Nat → Int32) (sz : Int) : Nat → Int → Int → Int → Int × Int
  | 0, _, v, n => (v, n)
  | fu + 1, k, v, n => if k < sz ∧ 97 ≤ nz f k.toNat ∧ nz f k.toNat ≤ 122 then wvG f sz fu (k + 1) (if n < 6 then nx v (nz f k.toNat) else 0) (n + 1) else (v, n)
def wv (f : Nat → Int32) (sz a : Int) : Int := if 6 < (wvG f sz (602 - a).toNat a 0 0).2 then 0 else (wvG f sz (602 - a).toNat a 0 0).1
theorem nx_eq {v q z1 z2 z3 : Int} (e1 : iI v <<< (iI 5 &&& 31) = iI z1) (h2 : z2 = q - 96) (e3 : iI z1 ||| iI z2 = iI z3) (hr : -2147483648 ≤ z3 ∧ z3 ≤ 2147483647) : z3 = nx v q := by
  unfold nx
  rw [e1, ← h2, e3]
  exact (iI_to hr.1 hr.2).symm
theorem wvG_step {f : Nat → Int32} {sz k v n k1 v1 n1 : Int} {x : Int × Int} (h : wvG f sz (602 - k).toNat k v n = x) (hk : k < sz ∧ k < 602) (hc : 97 ≤ nz f k.toNat ∧ nz f k.toNat ≤ 122) (e1 : k1 = k + 1) (e2 : (n < 6 ∧ v1 = nx v (nz f k.toNat)) ∨ (6 ≤ n ∧ v1 = 0)) (e3 : n1 = n + 1) : wvG f sz (602 - k1).toNat k1 v1 n1 = x := by
  subst e1 e3
  rw [show (602 - k).toNat = (602 - (k + 1)).toNat + 1 by omega, wvG, if_pos ⟨hk.1, hc⟩] at h
  rw [← h]
  rcases e2 with ⟨a, b⟩ | ⟨a, b⟩
  · rw [if_pos a, b]
  · rw [if_neg (by omega), b]
theorem wvG_end {f : Nat → Int32} {sz k v n : Int} (fu : Nat) (hc : ¬ (k < sz ∧ 97 ≤ nz f k.toNat ∧ nz f k.toNat ≤ 122)) : wvG f sz fu k v n = (v, n) := by
  cases fu with
  | zero => rfl
  | succ fu => rw [wvG, if_neg hc]
theorem wv_fin {f : Nat → Int32} {sz k v n a r : Int} (h : wvG f sz (602 - k).toNat k v n = wvG f sz (602 - a).toNat a 0 0) (hc : ¬ (k < sz ∧ 97 ≤ nz f k.toNat ∧ nz f k.toNat ≤ 122)) (hr : (6 < n ∧ r = 0) ∨ (n ≤ 6 ∧ r = v)) : r = wv f sz a := by
  rw [wvG_end _ hc] at h
  unfold wv
  rw [← h]
  rcases hr with ⟨a, b⟩ | ⟨a, b⟩
  · rw [if_pos a]; exact b
  · rw [if_neg (by show ¬ 6 < n; omega)]; exact b
/-- zeros so far, where P asks for them -/
theorem zs_st {P : Nat → Prop} {f f1 : Nat → Int32} {q v q1 : Int} (h : ∀ j : Nat, (j : Int) < q → P j → f j = iI 0) (hd : f1 = upd f (iI q).toNatClampNeg (iI v)) (hq : 0 ≤ q ∧ q ≤ 2147483647) (hv : P q.toNat → v = 0) (h1 : q1 = q + 1) : ∀ j : Nat, (j : Int) < q1 → P j → f1 j = iI 0 := by
  intro j hj hp
  subst hd h1
  rw [iI_cl hq.1 hq.2]
  by_cases e : j = q.toNat
  · subst e
    rw [pk_us, hv hp]
  · rw [pk_un e]
    exact h j (by omega) hp
/-- a copy so far -/
theorem cp_st {f f1 g : Nat → Int32} {q z q1 : Int} (h : ∀ j : Nat, (j : Int) < q → f j = g j) (hd : f1 = upd f (iI q).toNatClampNeg (iI z)) (hz : z = nz g q.toNat) (hq : 0 ≤ q ∧ q ≤ 2147483647) (h1 : q1 = q + 1) : ∀ j : Nat, (j : Int) < q1 → f1 j = g j := by
  intro j hj
  subst hd h1
  rw [iI_cl hq.1 hq.2]
  by_cases e : j = q.toNat
  · subst e
    rw [pk_us, hz]
    exact (nz_e g q.toNat).symm
  · rw [pk_un e]
    exact h j (by omega)
/-- a copy into rows of 389 places: row r so far; the other rows stay -/
theorem ci_st {f f0 f1 g : Nat → Int32} {q z q1 e : Int} {r : Int} (h : (∀ j : Nat, (j : Int) < q → f (389 * r.toNat + j) = g j) ∧ ∀ j : Nat, ((j : Int) < 389 * r ∨ 389 * r + 389 ≤ j) → f j = f0 j) (hd : f1 = upd f (iI e).toNatClampNeg (iI z)) (he : e = 389 * r + q) (hr : 0 ≤ r ∧ r ≤ 3) (hz : z = nz g q.toNat) (hq : 0 ≤ q ∧ q < 389) (h1 : q1 = q + 1) : (∀ j : Nat, (j : Int) < q1 → f1 (389 * r.toNat + j) = g j) ∧ ∀ j : Nat, ((j : Int) < 389 * r ∨ 389 * r + 389 ≤ j) → f1 j = f0 j := by
  subst hd h1
  rw [iI_cl (by omega) (by omega)]
  refine ⟨fun j hj => ?_, fun j hj => ?_⟩
  · by_cases e9 : j = q.toNat
    · subst e9
      rw [show e.toNat = 389 * r.toNat + q.toNat by omega, pk_us, hz]
      exact (nz_e g q.toNat).symm
    · rw [pk_un (by omega)]
      exact h.1 j (by omega)
  · rw [pk_un (by omega)]
    exact h.2 j hj
theorem co_st {f f1 g : Nat → Int32} {q z q1 e : Int} {r : Int} (h : ∀ j : Nat, (j : Int) < q → f j = g (389 * r.toNat + j)) (hd : f1 = upd f (iI q).toNatClampNeg (iI z)) (he : e = 389 * r + q) (hr : 0 ≤ r ∧ r ≤ 3) (hz : z = nz g e.toNat) (hq : 0 ≤ q ∧ q < 389) (h1 : q1 = q + 1) : ∀ j : Nat, (j : Int) < q1 → f1 j = g (389 * r.toNat + j) := by
  intro j hj
  subst hd h1
  rw [iI_cl hq.1 (by omega)]
  by_cases e9 : j = q.toNat
  · subst e9
    rw [pk_us, hz, show e.toNat = 389 * r.toNat + q.toNat by omega]
    exact (nz_e g _).symm
  · rw [pk_un e9]
    exact h j (by omega)
section MB
variable {p : Program} {l : Launch} {e : Env} {R : Room} {s : State} {m : MethodId} {args : Array Value} {below : List Frame} {meth : Method} {c : Code} {H : Heap} {locs : List Loc} {cells slots : Nat} {Q : State → Prop} {pc : Nat} {ls : Array Slot} {rest : List Value}
theorem lt_nz {f : Nat → Int32} {i : Int} (he : 0 ≤ i ∧ i ≤ 2147483647) (kk : ∀ z : Int, z = nz f i.toNat → -2147483648 ≤ z → z ≤ 2147483647 → W p l e R s m args below meth c H locs cells slots Q (F0 m pc ls (.int (iI z) :: rest))) : W p l e R s m args below meth c H locs cells slots Q (F0 m pc ls (.int (f (iI i).toNatClampNeg) :: rest)) := by
  have h1 := nz_r f i.toNat
  have h2 := kk (nz f i.toNat) rfl h1.1 h1.2
  rw [iI_cl he.1 he.2, nz_e f i.toNat]
  exact h2
end MB
