abbrev iI (z : Int) : Int32 := Int32.ofInt z
def wdN : List String := ["NO", "SIZE", "HIGH", "DRAIN", "PERSON", "SHELTER", "CLEAR", "RAISE", "LOWER", "BORE", "RAIN", "THROW", "REACH", "WET", "SLOW", "OUT", "IF", "THEN", "ELSE", "OR", "AND", "NOT", "DEPTH", "PACE", "TYRE", "ROW", "FAR", "PEOPLE"]
def wdT : List (List Int) := [[], [115, 105, 122, 101], [104, 105, 103, 104], [100, 114, 97, 105, 110], [112, 101, 114, 115, 111, 110], [115, 104, 101, 108, 116, 101, 114], [99, 108, 101, 97, 114], [114, 97, 105, 115, 101], [108, 111, 119, 101, 114], [98, 111, 114, 101], [114, 97, 105, 110], [116, 104, 114, 111, 119], [114, 101, 97, 99, 104], [119, 101, 116], [115, 108, 111, 119], [111, 117, 116], [105, 102], [116, 104, 101, 110], [101, 108, 115, 101], [111, 114], [97, 110, 100], [110, 111, 116], [100, 101, 112, 116, 104], [112, 97, 99, 101], [116, 121, 114, 101], [114, 111, 119], [102, 97, 114], [112, 101, 111, 112, 108, 101], [], [115, 105, 122, 101], [104, 105, 103, 104], [100, 114, 97, 105, 110], [112, 101, 114, 115, 111, 110], [115, 104, 101, 108, 116, 101, 114], [99, 108, 101, 97, 114], [114, 97, 105, 115, 101], [108, 111, 119, 101, 114], [98, 111, 114, 101], [114, 97, 105, 110], [116, 104, 114, 111, 119], [114, 101, 97, 99, 104], [119, 101, 116], [115, 108, 111, 119], [111, 117, 116], [105, 102], [116, 104, 101, 110], [101, 108, 115, 101], [111, 114], [97, 110, 100], [110, 111, 116], [100, 101, 112, 116, 104], [112, 97, 99, 101], [116, 121, 114, 101], [114, 111, 119], [102, 97, 114], [112, 101, 111, 112, 108, 101]]
def wdW : List Int := [-1, -1, -1, -1, -1, -1, 0, 1, 2, 3, -1, -1, -1, -1, -1, -1, -1, -1, -1, -1, -1, -1, -1, -1, -1, -1, -1, -1]
def wdS : List Int := [-1, -1, -1, -1, -1, -1, -1, -1, -1, -1, -1, 0, 1, 2, 3, 4, -1, -1, -1, -1, -1, -1, -1, -1, -1, -1, -1, -1]
def wdM : List Int := [-1, -1, -1, -1, -1, 6, -1, -1, -1, -1, -1, -1, -1, -1, -1, -1, -1, -1, -1, -1, -1, -1, 0, 1, 2, 3, 4, 5]
abbrev RWd : String := "KerbSplash$Word"
/-- the address of the k-th word, of its text, of the text's bytes -/
abbrev wd (sa : Nat → Nat) (k : Int) : Nat := sa (100 + k.toNat)
abbrev sn (sa : Nat → Nat) (k : Int) : Nat := sa (200 + k.toNat)
abbrev sw (sa : Nat → Nat) (k : Int) : Nat := sa (300 + k.toNat)
def slen (k : Int) : Int := ((wdT.getD k.toNat []).length : Int)
def sch (k i : Int) : Int := (wdT.getD k.toNat []).getD i.toNat 0
def fW (k : Int) : Int := wdW.getD k.toNat 0
def fS (k : Int) : Int := wdS.getD k.toNat 0
def fM (k : Int) : Int := wdM.getD k.toNat 0
def WD1 (sa : Nat → Nat) (k : Nat) (A : Nat → Prop) (U : State) (H : Heap) : Prop :=
  va_Z RWd (wdN.getD k "") "LKerbSplash$Word;" (.ref (sa (100 + k))) A U H ∧ va_O RWd (sa (100 + k)) A U H ∧ va_OF RWd "work" "I" (.int (iI (wdW.getD k 0))) (sa (100 + k)) A U H ∧ va_OF RWd "saying" "I" (.int (iI (wdS.getD k 0))) (sa (100 + k)) A U H ∧ va_OF RWd "name" "I" (.int (iI (wdM.getD k 0))) (sa (100 + k)) A U H ∧ va_OF RWd "letters" "Ljava/lang/String;" (.ref (sa (200 + k))) (sa (100 + k)) A U H
def WD2 (sa : Nat → Nat) (k : Nat) (A : Nat → Prop) (U : State) (H : Heap) : Prop :=
  va_O "java/lang/String" (sa (200 + k)) A U H ∧ va_OF "java/lang/String" "coder" "B" (.int (iI 0)) (sa (200 + k)) A U H ∧ va_OF "java/lang/String" "value" "[B" (.ref (sa (300 + k))) (sa (200 + k)) A U H ∧ va_T .byte (sa (300 + k)) (wdT.getD k []).length (fun j => .int (iI ((wdT.getD k []).getD j 0))) A U H
/-- the constants: words, their row, their texts -/
def WD (sa : Nat → Nat) (A : Nat → Prop) (U : State) (H : Heap) : Prop :=
  (∀ k : Nat, k < 28 → WD1 sa k A U H ∧ WD2 sa k A U H) ∧ (∀ i j : Nat, i < 28 → j < 28 → sa (100 + i) = sa (100 + j) → i = j) ∧ va_Z RWd "ALL" "[LKerbSplash$Word;" (.ref (sa 99)) A U H ∧ va_T (.object RWd) (sa 99) 28 (fun j => .ref (sa (100 + j))) A U H ∧ va_Z "java/lang/String" "COMPACT_STRINGS" "Z" (.int (iI 1)) A U H ∧ va_Zq "jdk/internal/util/Preconditions" "SIOOBE_FORMATTER" "Ljava/util/function/BiFunction;" A U H ∧ (∀ k : Nat, k < 56 → WD2 sa k A U H)
theorem WD.tx {sa : Nat → Nat} {A : Nat → Prop} {U : State} {H : Heap} (h : WD sa A U H) (k : Nat) (hk : k < 56) : WD2 sa k A U H := h.2.2.2.2.2.2 k hk
theorem WD.moved {sa : Nat → Nat} {A : Nat → Prop} {u U : State} {H : Heap} (hvm : u.vm.Alike U.vm) (h : WD sa A u H) : WD sa A U H :=
  ⟨fun k hk => ⟨⟨(h.1 k hk).1.1.moved hvm, (h.1 k hk).1.2.1.moved hvm, (h.1 k hk).1.2.2.1.moved hvm, (h.1 k hk).1.2.2.2.1.moved hvm, (h.1 k hk).1.2.2.2.2.1.moved hvm, (h.1 k hk).1.2.2.2.2.2.moved hvm⟩, (h.1 k hk).2.1.moved hvm, (h.1 k hk).2.2.1.moved hvm, (h.1 k hk).2.2.2.1.moved hvm, (h.1 k hk).2.2.2.2.moved hvm⟩, h.2.1, h.2.2.1.moved hvm, h.2.2.2.1.moved hvm, h.2.2.2.2.1.moved hvm, h.2.2.2.2.2.1.moved hvm, fun k hk => ⟨(h.2.2.2.2.2.2 k hk).1.moved hvm, (h.2.2.2.2.2.2 k hk).2.1.moved hvm, (h.2.2.2.2.2.2 k hk).2.2.1.moved hvm, (h.2.2.2.2.2.2 k hk).2.2.2.moved hvm⟩⟩
theorem WD.kept {sa : Nat → Nat} {A : Nat → Prop} {U : State} {H H1 : Heap} (h : WD sa A U H) (hq : ∀ a : Nat, a < H.size → ¬ A a → H1[a]? = H[a]?) : WD sa A U H1 :=
  ⟨fun k hk => ⟨⟨(h.1 k hk).1.1.kept hq, (h.1 k hk).1.2.1.kept hq, (h.1 k hk).1.2.2.1.kept hq, (h.1 k hk).1.2.2.2.1.kept hq, (h.1 k hk).1.2.2.2.2.1.kept hq, (h.1 k hk).1.2.2.2.2.2.kept hq⟩, (h.1 k hk).2.1.kept hq, (h.1 k hk).2.2.1.kept hq, (h.1 k hk).2.2.2.1.kept hq, (h.1 k hk).2.2.2.2.kept hq⟩, h.2.1, h.2.2.1.kept hq, h.2.2.2.1.kept hq, h.2.2.2.2.1.kept hq, h.2.2.2.2.2.1.kept hq, fun k hk => ⟨(h.2.2.2.2.2.2 k hk).1.kept hq, (h.2.2.2.2.2.2 k hk).2.1.kept hq, (h.2.2.2.2.2.2 k hk).2.2.1.kept hq, (h.2.2.2.2.2.2 k hk).2.2.2.kept hq⟩⟩
theorem WD.narrow {sa : Nat → Nat} {A B : Nat → Prop} {U : State} {H : Heap} (h : WD sa A U H) (hq : ∀ q, B q → A q) : WD sa B U H :=
  ⟨fun k hk => ⟨⟨(h.1 k hk).1.1.narrow hq, (h.1 k hk).1.2.1.narrow hq, (h.1 k hk).1.2.2.1.narrow hq, (h.1 k hk).1.2.2.2.1.narrow hq, (h.1 k hk).1.2.2.2.2.1.narrow hq, (h.1 k hk).1.2.2.2.2.2.narrow hq⟩, (h.1 k hk).2.1.narrow hq, (h.1 k hk).2.2.1.narrow hq, (h.1 k hk).2.2.2.1.narrow hq, (h.1 k hk).2.2.2.2.narrow hq⟩, h.2.1, h.2.2.1.narrow hq, h.2.2.2.1.narrow hq, h.2.2.2.2.1.narrow hq, h.2.2.2.2.2.1.narrow hq, fun k hk => ⟨(h.2.2.2.2.2.2 k hk).1.narrow hq, (h.2.2.2.2.2.2 k hk).2.1.narrow hq, (h.2.2.2.2.2.2 k hk).2.2.1.narrow hq, (h.2.2.2.2.2.2 k hk).2.2.2.narrow hq⟩⟩
theorem fW_r : ∀ k : Nat, k < 28 → -1 ≤ wdW.getD k 0 ∧ wdW.getD k 0 ≤ 3 ∧ (wdW.getD k 0 = -1 ↔ k < 6 ∨ 9 < k) := by decide
theorem fS_r : ∀ k : Nat, k < 28 → -1 ≤ wdS.getD k 0 ∧ wdS.getD k 0 ≤ 4 := by decide
theorem fM_r : ∀ k : Nat, k < 28 → -1 ≤ wdM.getD k 0 ∧ wdM.getD k 0 ≤ 6 := by decide
theorem slen_r : ∀ k : Nat, k < 56 → (wdT.getD k []).length ≤ 7 := by decide
theorem sch_r : ∀ k : Nat, k < 56 → ∀ i : Nat, i < (wdT.getD k []).length → 97 ≤ (wdT.getD k []).getD i 0 ∧ (wdT.getD k []).getD i 0 ≤ 122 := by decide
