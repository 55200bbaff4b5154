/-- the places of what is planned -/
def FRq (j : Nat) : Prop := 252 ≤ j ∧ j < 385
/-- the reference's state, its plan told by q -/
def SQ (q : Nat → Int) (pm : Int) (f : Nat → Int32) : Prop := SI pm f ∧ ∀ j : Nat, FRq j → nz f j = q j
theorem SQ.of {pm : Int} {f : Nat → Int32} (h : SI pm f) : SQ (nz f) pm f := ⟨h, fun _ _ => rfl⟩
theorem SQ.up {q : Nat → Int} {a b : Int} {f : Nat → Int32} (hs : SQ q a f) (h : a ≤ b) : SQ q b f := ⟨hs.1.up h, hs.2⟩
theorem SQ.ext {q : Nat → Int} {pm : Int} {f g : Nat → Int32} (hs : SQ q pm f) (h : ∀ j : Nat, j < 389 → g j = f j) : SQ q pm g := ⟨hs.1.ext h, fun j hj => (nz_ext (h j (by unfold FRq at hj; omega))).trans (hs.2 j hj)⟩
theorem SQ.fr {q : Nat → Int} {f f1 : Nat → Int32} {e : Int} {x : Int32} (h : ∀ j : Nat, FRq j → nz f j = q j) (hd : f1 = upd f (iI e).toNatClampNeg x) (he : 0 ≤ e ∧ e ≤ 2147483647) (h1 : e < 252 ∨ 385 ≤ e) : ∀ j : Nat, FRq j → nz f1 j = q j := fun j hj => (nz_un hd he (by unfold FRq at hj; omega)).trans (h j hj)
