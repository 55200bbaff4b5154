abbrev zO (a ci : Nat) (fs : List Value) : Nat × va_E := (a, .inr (ci, fs))
abbrev zI (a : Nat) (c : ClassId) (n : Nat) (f : Nat → Int32) : Nat × va_E := (a, .inl (c, n, .inl f))
abbrev zL (a : Nat) (c : ClassId) (n : Nat) (f : Nat → Int64) : Nat × va_E := (a, .inl (c, n, .inr (.inl f)))
abbrev zQ (a : Nat) (c : ClassId) (n : Nat) (f : Nat → Option Nat) : Nat × va_E := (a, .inl (c, n, .inr (.inr (.inr (.inr f)))))
abbrev vI (z : Int) : Value := Value.int (iI z)
abbrev vR (a : Nat) : Value := Value.ref a
abbrev vJ (z : Int) : Value := Value.long (jJ z)
abbrev vN : Value := Value.null
theorem gd_A {a b : List Cond} (h1 : a.all goodWord = true) (h2 : b.all goodWord = true) : (a ++ b).all goodWord = true := by rw [List.all_append, h1, h2]; rfl
theorem gd_C {a : Cond} {b : List Cond} (h1 : goodWord a = true) (h2 : b.all goodWord = true) : (a :: b).all goodWord = true := by rw [List.all_cons, h1, h2]; rfl
theorem gd_V {own C : String} {idx : Nat} {y : MethodName} {ws : List Cond} (h : ws.all goodWord = true) (h4 : ([.methodLink own idx y, .instanceMethod y, .selects C y y, .initialized C] : List Cond).all goodWord = true) : (wsV own idx C y ws).all goodWord = true := gd_A h4 h
theorem gd_S {own : String} {idx : Nat} {y : MethodName} {ws : List Cond} (h : ws.all goodWord = true) (h4 : ([.methodLink own idx y, .static y, .initialized y.cls] : List Cond).all goodWord = true) : (va_wsS own idx y ws).all goodWord = true := gd_A h4 h
