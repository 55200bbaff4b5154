
theorem arl {D : va_G} {ws : va_W} {H : Heap} {A : Nat → Prop} (k : Nat) {a : Nat} {cA : ClassId} {n : Nat} {f : Nat → Int64} (g : Nat → Int64) (hP : va_P D vwCl ws H) (hD : va_D A ws) (hk : ws[k]? = some (a, .inl (cA, n, .inr (.inl f)))) (h : ∀ j : Nat, j < n → f j = g j) :
    va_P D vwCl (ws.set k (a, .inl (cA, n, .inr (.inl g)))) H ∧ va_D A (ws.set k (a, .inl (cA, n, .inr (.inl g)))) := by
  refine ⟨hP.set hD hk ?_ (fun q _ => rfl), hD.set hk⟩
  have h1 : H[a]? = some (vp_cell cA (n, .inr (.inl f))) := hP k _ hk
  show H[a]? = some (vp_cell cA (n, .inr (.inl g)))
  rw [h1]
  show some (arrV cA n (fun j => Value.long (f j))) = some (arrV cA n (fun j => Value.long (g j)))
  congr 1
  unfold arrV
  congr 1
  apply Array.ext
  · simp
  · intro i h1 h2
    simp only [Array.getElem_ofFn]
    rw [h i (by simpa using h1)]
theorem arl_2 {f : Nat → Int64} {z : Int} (hz : -2147483648 ≤ z ∧ z ≤ 2147483647) : ∀ j : Nat, j < 1 → vp_updL f 0 (jJ z) j = (iI z).toInt64 := fun j hj => by
  obtain rfl : j = 0 := by omega
  exact (jJ_i hz).symm
