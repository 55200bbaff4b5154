theorem lt_sh2 {p : Program} {l : Launch} {e : Env} {R : Room} {s : State} {m : MethodId} {args : Array Value} {below : List Frame} {meth : Method} {c : Code} {H : Heap} {locs : List Loc} {cells slots : Nat} {Q : State → Prop} {pc : Nat} {ls : Array Slot} {rest : List Value} {k : Int} {n : Nat} {M : Int} (hM : (2 : Int) ^ n = M) (hn : n ≤ 30) (hk : 0 ≤ k ∧ k ≤ n) (kk : ∀ z : Int, iI 1 <<< (iI k &&& 31) = iI z → 1 ≤ z → z ≤ M → W p l e R s m args below meth c H locs cells slots Q (F0 m pc ls (.int (iI z) :: rest))) : W p l e R s m args below meth c H locs cells slots Q (F0 m pc ls (.int (iI 1 <<< (iI k &&& 31)) :: rest)) := by
  obtain ⟨z, h1, h2, h3⟩ := sh_b hk hn
  have h4 : iI k &&& 31 = iI k := ia_id 5 (by decide) (by decide) (by omega)
  have h5 : iI 1 <<< (iI k &&& 31) = iI z := by rw [h4]; exact h1
  have h6 := kk z h5 h2 (by omega)
  rw [h5]
  exact h6
theorem go_dec2 {a k z1 z2 z4 z5 : Int} (ha : 0 ≤ a ∧ a < 64) (hk : 0 ≤ k ∧ k < 6) (e1 : iI 1 <<< (iI k &&& 31) = iI z1) (e2 : iI z1 ^^^ iI (-1) = iI z2) (e4 : iI a >>> (iI k &&& 31) = iI z4) (e5 : iI z4 &&& iI 1 = iI z5) (h5 : ¬ z5 = 0) (hr : 0 ≤ z5 ∧ z5 ≤ 1) : ∃ z : Int, iI a &&& iI z2 = iI z ∧ 0 ≤ z ∧ z < a := by
  have h4 : iI k &&& 31 = iI k := ia_id 5 (by decide) (by decide) (by omega)
  rw [h4] at e1 e4
  exact go_dec ha hk e1 e2 e4 e5 h5 hr
