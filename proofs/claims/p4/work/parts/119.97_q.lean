abbrev zO (a ci : Nat) (fs : List Value) : Nat × va_E := (a, .inr (ci, fs))
abbrev zI (a : Nat) (c : ClassId) (n : Nat) (f : Nat → Int32) : Nat × va_E := (a, .inl (c, n, .inl f))
abbrev zL (a : Nat) (c : ClassId) (n : Nat) (f : Nat → Int64) : Nat × va_E := (a, .inl (c, n, .inr (.inl f)))
abbrev zQ (a : Nat) (c : ClassId) (n : Nat) (f : Nat → Option Nat) : Nat × va_E := (a, .inl (c, n, .inr (.inr (.inr (.inr f)))))
abbrev vI (z : Int) : Value := Value.int (iI z)
abbrev vR (a : Nat) : Value := Value.ref a
theorem lw_openE {D : va_G} {cl : List vw_C} {A : Nat → Prop} {G : Nat → va_W} {H : Heap} {ids : List Nat} (tt oo : List Nat) (p : ids.Perm (tt ++ oo)) (hP : va_P D cl (LWG G ids) H) (hD : va_D A (LWG G ids)) : ∃ pl : va_W, pl = LWG G oo ∧ va_P D cl (LWG G tt ++ pl) H ∧ va_D A (LWG G tt ++ pl) := ⟨_, rfl, lw_open tt oo p hP hD⟩
