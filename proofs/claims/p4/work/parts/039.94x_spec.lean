
/-- how far a run of letters goes -/
def rnN (p : Int → Bool) (g : Nat → Int) (n : Nat) : Nat → Nat → Nat
  | 0, a => a
  | d + 1, a => if a < n ∧ p (g a) = true then rnN p g n d (a + 1) else a
def rnI (p : Int → Bool) (g : Nat → Int) (n a : Int) : Int := ((rnN p g n.toNat (n.toNat - a.toNat) a.toNat : Nat) : Int)
theorem rnI_go {p : Int → Bool} {g : Nat → Int} {n a b : Int} (h0 : 0 ≤ a) (h1 : a < n) (h2 : p (g a.toNat) = true) (hb : b = a + 1) : rnI p g n b = rnI p g n a := by
  subst hb
  unfold rnI
  have e1 : n.toNat - a.toNat = (n.toNat - (a + 1).toNat) + 1 := by omega
  have e2 : (a + 1).toNat = a.toNat + 1 := by omega
  rw [e1, show rnN p g n.toNat ((n.toNat - (a + 1).toNat) + 1) a.toNat = if a.toNat < n.toNat ∧ p (g a.toNat) = true then rnN p g n.toNat (n.toNat - (a + 1).toNat) (a.toNat + 1) else a.toNat from rfl, if_pos ⟨by omega, h2⟩, e2]
theorem rnI_stop {p : Int → Bool} {g : Nat → Int} {n a : Int} (h0 : 0 ≤ a) (h : ¬ (a < n ∧ p (g a.toNat) = true)) : rnI p g n a = a := by
  unfold rnI
  cases n.toNat - a.toNat with
  | zero => show ((a.toNat : Nat) : Int) = a; omega
  | succ d =>
    rw [show rnN p g n.toNat (d + 1) a.toNat = if a.toNat < n.toNat ∧ p (g a.toNat) = true then rnN p g n.toNat d (a.toNat + 1) else a.toNat from rfl, if_neg (fun q => h ⟨by omega, q.2⟩)]
    omega
theorem rnN_le (p : Int → Bool) (g : Nat → Int) (n : Nat) : ∀ d a : Nat, a ≤ rnN p g n d a ∧ (rnN p g n d a ≤ n ∨ rnN p g n d a = a) ∧ (n ≤ a + d → ¬ (rnN p g n d a < n ∧ p (g (rnN p g n d a)) = true))
  | 0, a => ⟨Nat.le_refl a, Or.inr rfl, fun q h => by have h1 : a < n := h.1; omega⟩
  | d + 1, a => by
    by_cases h : a < n ∧ p (g a) = true
    · have e : rnN p g n (d + 1) a = rnN p g n d (a + 1) := by
        show (if a < n ∧ p (g a) = true then rnN p g n d (a + 1) else a) = _
        rw [if_pos h]
      rw [e]
      have ih := rnN_le p g n d (a + 1)
      refine ⟨by omega, ?_, fun q => ih.2.2 (by omega)⟩
      rcases ih.2.1 with q | q
      · exact Or.inl q
      · exact Or.inl (by omega)
    · have e : rnN p g n (d + 1) a = a := by
        show (if a < n ∧ p (g a) = true then rnN p g n d (a + 1) else a) = _
        rw [if_neg h]
      rw [e]
      exact ⟨Nat.le_refl a, Or.inr rfl, fun _ => h⟩
theorem rnI_le (p : Int → Bool) (g : Nat → Int) {n a : Int} (h0 : 0 ≤ a) : a ≤ rnI p g n a ∧ (rnI p g n a ≤ n ∨ rnI p g n a = a) := by
  have h := rnN_le p g n.toNat (n.toNat - a.toNat) a.toNat
  unfold rnI
  refine ⟨by omega, ?_⟩
  rcases h.2.1 with q | q
  · by_cases hn : 0 ≤ n
    · exact Or.inl (by omega)
    · exact Or.inr (by omega)
  · exact Or.inr (by omega)
theorem rnI_end (p : Int → Bool) (g : Nat → Int) {n a : Int} (h0 : 0 ≤ a) : ¬ (rnI p g n a < n ∧ p (g (rnI p g n a).toNat) = true) := by
  have h := (rnN_le p g n.toNat (n.toNat - a.toNat) a.toNat).2.2 (by omega)
  unfold rnI
  exact fun q => h ⟨by omega, by simpa using q.2⟩
theorem rnI_id (p : Int → Bool) (g : Nat → Int) {n a : Int} (h0 : 0 ≤ a) : rnI p g n (rnI p g n a) = rnI p g n a :=
  rnI_stop (Int.le_trans h0 (rnI_le p g h0).1) (rnI_end p g h0)
def pSp (c : Int) : Bool := decide (c = 32)
def pSm (c : Int) : Bool := decide (97 ≤ c ∧ c ≤ 122)
def pDg (c : Int) : Bool := decide (48 ≤ c ∧ c ≤ 57)
theorem pSp_t {c : Int} (h : c = 32) : pSp c = true := decide_eq_true h
theorem pSm_t {c : Int} (h : 97 ≤ c ∧ c ≤ 122) : pSm c = true := decide_eq_true h
theorem pDg_t {c : Int} (h : 48 ≤ c ∧ c ≤ 57) : pDg c = true := decide_eq_true h
theorem pSp_i {c : Int} (h : pSp c = true) : c = 32 := of_decide_eq_true h
theorem pSm_i {c : Int} (h : pSm c = true) : 97 ≤ c ∧ c ≤ 122 := of_decide_eq_true h
theorem pDg_i {c : Int} (h : pDg c = true) : 48 ≤ c ∧ c ≤ 57 := of_decide_eq_true h
/-- the number that stands at a, no more than 10000 -/
def vlN (g : Nat → Int) (n : Nat) : Nat → Nat → Int → Int
  | 0, _, v => v
  | d + 1, a, v => if a < n ∧ pDg (g a) = true then vlN g n d (a + 1) (min (v * 10 + g a - 48) 10000) else v
def vlI (g : Nat → Int) (n a v : Int) : Int := vlN g n.toNat (n.toNat - a.toNat) a.toNat v
theorem vlI_go {g : Nat → Int} {n a b v w : Int} (h0 : 0 ≤ a) (h1 : a < n) (h2 : 48 ≤ g a.toNat ∧ g a.toNat ≤ 57) (hb : b = a + 1) (hw : w = min (v * 10 + g a.toNat - 48) 10000) : vlI g n b w = vlI g n a v := by
  subst hb hw
  unfold vlI
  have e1 : n.toNat - a.toNat = (n.toNat - (a + 1).toNat) + 1 := by omega
  have e2 : (a + 1).toNat = a.toNat + 1 := by omega
  rw [e1, show vlN g n.toNat ((n.toNat - (a + 1).toNat) + 1) a.toNat v = if a.toNat < n.toNat ∧ pDg (g a.toNat) = true then vlN g n.toNat (n.toNat - (a + 1).toNat) (a.toNat + 1) (min (v * 10 + g a.toNat - 48) 10000) else v from rfl, if_pos ⟨by omega, pDg_t h2⟩, e2]
theorem vlI_stop {g : Nat → Int} {n a v : Int} (h0 : 0 ≤ a) (h : ¬ (a < n ∧ 48 ≤ g a.toNat ∧ g a.toNat ≤ 57)) : vlI g n a v = v := by
  unfold vlI
  cases n.toNat - a.toNat with
  | zero => rfl
  | succ d => rw [show vlN g n.toNat (d + 1) a.toNat v = if a.toNat < n.toNat ∧ pDg (g a.toNat) = true then vlN g n.toNat d (a.toNat + 1) (min (v * 10 + g a.toNat - 48) 10000) else v from rfl, if_neg (fun q => h ⟨by omega, pDg_i q.2⟩)]
/-- a number's fault (0: none), and where it ends -/
def nF (g : Nat → Int) (n a lo hi : Int) : Int := if rnI pSp g n a < n ∧ pDg (g (rnI pSp g n a).toNat) = true then (if lo ≤ vlI g n (rnI pSp g n a) 0 ∧ vlI g n (rnI pSp g n a) 0 ≤ hi then 0 else 2) else 1
def nA (g : Nat → Int) (n a : Int) : Int := rnI pDg g n (rnI pSp g n a)
/-- the word rain stands at a -/
def isRp (g : Nat → Int) (n a : Int) : Prop := a + 4 ≤ n ∧ g a.toNat = 114 ∧ g (a.toNat + 1) = 97 ∧ g (a.toNat + 2) = 105 ∧ g (a.toNat + 3) = 110 ∧ ¬ (a + 4 < n ∧ 97 ≤ g (a.toNat + 4) ∧ g (a.toNat + 4) ≤ 122)
def isRb (g : Nat → Int) (n a : Int) : Bool := decide (a + 4 ≤ n ∧ g a.toNat = 114 ∧ g (a.toNat + 1) = 97 ∧ g (a.toNat + 2) = 105 ∧ g (a.toNat + 3) = 110 ∧ ¬ (a + 4 < n ∧ 97 ≤ g (a.toNat + 4) ∧ g (a.toNat + 4) ≤ 122))
abbrev isR (g : Nat → Int) (n a : Int) : Prop := isRb g n a = true
theorem isR_iff {g : Nat → Int} {n a : Int} : isR g n a ↔ isRp g n a := by
  unfold isR isRb isRp
  exact decide_eq_true_iff
/-- what a step of reading leaves: f, a ahead of it, f', a' behind it; f = 0: no fault yet -/
def NuS (g : Nat → Int) (n lo hi a f a' f' : Int) : Prop := (f ≠ 0 → f' = f) ∧ (f = 0 → f' = nF g n a lo hi ∧ (f' = 0 → a' = nA g n a))
def WwS (g : Nat → Int) (n a f a' f' : Int) : Prop := (f ≠ 0 → f' = f) ∧ (f = 0 → (isR g n (rnI pSp g n a) → f' = 0 ∧ a' = rnI pSp g n a + 4) ∧ (¬ isR g n (rnI pSp g n a) → f' = 1))
def SgS (g : Nat → Int) (n c a f a' f' : Int) : Prop := (f ≠ 0 → f' = f) ∧ (f = 0 → (rnI pSp g n a < n ∧ g (rnI pSp g n a).toNat = c → f' = 0 ∧ a' = rnI pSp g n a + 1) ∧ (¬ (rnI pSp g n a < n ∧ g (rnI pSp g n a).toNat = c) → f' = 1))
/-- a piece of a rain: its fault, and where it ends -/
def pF (g : Nat → Int) (n m a : Int) : Int :=
  if isR g n (rnI pSp g n a) then (if m = 8 then 3 else
    if nF g n (rnI pSp g n a + 4) 0 20 = 0 then
      (if nF g n (nA g n (rnI pSp g n a + 4)) 1 30 = 0 then
        (if rnI pSp g n (nA g n (nA g n (rnI pSp g n a + 4))) < n ∧ g (rnI pSp g n (nA g n (nA g n (rnI pSp g n a + 4)))).toNat = 59 then 0 else 1)
       else nF g n (nA g n (rnI pSp g n a + 4)) 1 30)
    else nF g n (rnI pSp g n a + 4) 0 20) else 1
def pA (g : Nat → Int) (n a : Int) : Int := rnI pSp g n (nA g n (nA g n (rnI pSp g n a + 4))) + 1
/-- a whole rain's fault -/
def rvN (g : Nat → Int) (n : Int) : Nat → Int → Int → Int
  | 0, _, _ => 0
  | d + 1, m, a => if rnI pSp g n a < n then (if pF g n m a = 0 then rvN g n d (m + 1) (pA g n a) else pF g n m a) else 0
def rvI (g : Nat → Int) (n m a : Int) : Int := rvN g n (9 - m).toNat m a
def RV (g : Nat → Int) (n : Int) : Int := if rnI pSp g n 0 < n then rvI g n 0 0 else 1
theorem pF_id {g : Nat → Int} {n m a : Int} (h0 : 0 ≤ a) : pF g n m (rnI pSp g n a) = pF g n m a ∧ pA g n (rnI pSp g n a) = pA g n a := by
  unfold pF pA
  rw [rnI_id pSp g h0]
  exact ⟨rfl, rfl⟩
/-- the steps of a piece, one behind another -/
theorem pF_all {g : Nat → Int} {n m a a1 f1 a2 f2 a3 f3 a4 f4 a5 f5 : Int} (h0 : 0 ≤ a)
    (h1 : (isR g n (rnI pSp g n a) ∧ m = 8 ∧ f1 = 3) ∨ (¬ (isR g n (rnI pSp g n a) ∧ m = 8) ∧ f1 = 0)) (e1 : rnI pSp g n a1 = rnI pSp g n a)
    (h2 : WwS g n a1 f1 a2 f2) (h3 : NuS g n 0 20 a2 f2 a3 f3) (h4 : NuS g n 1 30 a3 f3 a4 f4) (h5 : SgS g n 59 a4 f4 a5 f5) : f5 = pF g n m a ∧ (f5 = 0 → a5 = pA g n a) := by
  unfold WwS at h2
  rw [e1] at h2
  unfold pF pA
  rcases h1 with ⟨hr, hm, hf⟩ | ⟨hr, hf⟩
  · have x2 := h2.1 (by omega)
    have x3 := h3.1 (by omega)
    have x4 := h4.1 (by omega)
    have x5 := h5.1 (by omega)
    rw [if_pos hr, if_pos hm]
    exact ⟨by omega, fun q => by omega⟩
  · by_cases hR : isR g n (rnI pSp g n a)
    · have hm : m ≠ 8 := fun q => hr ⟨hR, q⟩
      obtain ⟨x2, y2⟩ := (h2.2 hf).1 hR
      obtain ⟨x3, y3⟩ := h3.2 x2
      rw [y2] at x3 y3
      rw [if_pos hR, if_neg hm]
      by_cases h30 : f3 = 0
      · rw [if_pos (by rw [← x3]; exact h30)]
        obtain ⟨x4, y4⟩ := h4.2 h30
        rw [y3 h30] at x4 y4
        by_cases h40 : f4 = 0
        · rw [if_pos (by rw [← x4]; exact h40)]
          have x5 := h5.2 h40
          rw [y4 h40] at x5
          by_cases hc : rnI pSp g n (nA g n (nA g n (rnI pSp g n a + 4))) < n ∧ g (rnI pSp g n (nA g n (nA g n (rnI pSp g n a + 4)))).toNat = 59
          · rw [if_pos hc]
            exact ⟨(x5.1 hc).1, fun _ => (x5.1 hc).2⟩
          · rw [if_neg hc]
            have := x5.2 hc
            exact ⟨this, fun q => by omega⟩
        · rw [if_neg (by rw [← x4]; exact h40)]
          have x5 := h5.1 h40
          exact ⟨by omega, fun q => by omega⟩
      · rw [if_neg (by rw [← x3]; exact h30)]
        have x4 := h4.1 h30
        have x5 := h5.1 (by omega)
        exact ⟨by omega, fun q => by omega⟩
    · have x2 := (h2.2 hf).2 hR
      have x3 := h3.1 (by omega)
      have x4 := h4.1 (by omega)
      have x5 := h5.1 (by omega)
      rw [if_neg hR]
      exact ⟨by omega, fun q => by omega⟩
theorem pF_8 {g : Nat → Int} {n a : Int} : pF g n 8 a ≠ 0 := by
  unfold pF
  by_cases h : isR g n (rnI pSp g n a)
  · rw [if_pos h, if_pos rfl]; decide
  · rw [if_neg h]; decide
theorem rvI_end {g : Nat → Int} {n m a : Int} (hm : m ≤ 8) (h : ¬ rnI pSp g n a < n) : rvI g n m a = 0 := by
  unfold rvI
  rw [show (9 - m).toNat = (8 - m).toNat + 1 by omega]
  show (if rnI pSp g n a < n then _ else 0) = 0
  rw [if_neg h]
theorem rvI_go {g : Nat → Int} {n m a : Int} (hm : m ≤ 8) (h : rnI pSp g n a < n) : (pF g n m a = 0 → rvI g n m a = rvI g n (m + 1) (pA g n a)) ∧ (pF g n m a ≠ 0 → rvI g n m a = pF g n m a) := by
  unfold rvI
  rw [show (9 - m).toNat = (8 - m).toNat + 1 by omega, show (9 - (m + 1)).toNat = (8 - m).toNat by omega]
  constructor
  · intro q
    show (if rnI pSp g n a < n then (if pF g n m a = 0 then rvN g n (8 - m).toNat (m + 1) (pA g n a) else pF g n m a) else 0) = _
    rw [if_pos h, if_pos q]
  · intro q
    show (if rnI pSp g n a < n then (if pF g n m a = 0 then rvN g n (8 - m).toNat (m + 1) (pA g n a) else pF g n m a) else 0) = _
    rw [if_pos h, if_neg q]
/-- what holds ahead of piece m: its fault f and its place a tell the whole rain's fault V -/
def RvL (g : Nat → Int) (n V m a f : Int) : Prop := (f ≠ 0 → V = f) ∧ (f = 0 → V = rvI g n m a)
theorem RvL_0 {g : Nat → Int} {n f : Int} (h : (rnI pSp g n 0 < n ∧ f = 0) ∨ (¬ rnI pSp g n 0 < n ∧ f = 1)) {a : Int} (ha : rnI pSp g n a = rnI pSp g n 0 ∧ 0 ≤ a) : RvL g n (RV g n) 0 a f := by
  unfold RvL RV
  rcases h with ⟨q, e⟩ | ⟨q, e⟩
  · rw [if_pos q]
    refine ⟨fun w => absurd e w, fun _ => ?_⟩
    have e1 := rvI_go (g := g) (n := n) (m := 0) (a := 0) (by decide) q
    have e2 := rvI_go (g := g) (n := n) (m := 0) (a := a) (by decide) (by rw [ha.1]; exact q)
    have e3 : pF g n 0 a = pF g n 0 0 := by unfold pF; rw [ha.1]
    have e4 : pA g n a = pA g n 0 := by unfold pA; rw [ha.1]
    rw [e3, e4] at e2
    by_cases z : pF g n 0 0 = 0
    · rw [e1.1 z, e2.1 z]
    · rw [e1.2 z, e2.2 z]
  · rw [if_neg q]
    exact ⟨fun _ => e.symm, fun w => by omega⟩
theorem RvL_go {g : Nat → Int} {n V m a f a1 a2 f2 m1 : Int} (h : RvL g n V m a f) (hm : 0 ≤ m ∧ m ≤ 8) (h0 : 0 ≤ a) (hf : f = 0) (ha : a1 = rnI pSp g n a) (hn : a1 < n) (hp : f2 = pF g n m a1 ∧ (f2 = 0 → a2 = pA g n a1)) (e : m1 = m + 1) : RvL g n V m1 a2 f2 := by
  subst ha e
  rw [(pF_id (m := m) h0).1, (pF_id (m := m) h0).2] at hp
  have q := rvI_go (g := g) (n := n) (m := m) (a := a) hm.2 hn
  unfold RvL at h ⊢
  have hV := h.2 hf
  refine ⟨fun w => ?_, fun w => ?_⟩
  · rw [hV, q.2 (by rw [← hp.1]; exact w), hp.1]
  · rw [hV, q.1 (by rw [← hp.1]; exact w), hp.2 w]
theorem RvL_end {g : Nat → Int} {n V m a f : Int} (h : RvL g n V m a f) (hm : 0 ≤ m ∧ m ≤ 8) (hf : f ≠ 0 ∨ ¬ rnI pSp g n a < n) : V = f := by
  unfold RvL at h
  by_cases q : f = 0
  · rw [h.2 q, rvI_end hm.2 (hf.resolve_left (fun w => w q)), q]
  · exact h.1 q
/-- a byte of the class's tape, as the document counts it -/
def gz (f : Nat → Int32) (k : Nat) : Int := nz f k % 256
theorem gz_nn (f : Nat → Int32) (k : Nat) : 0 ≤ gz f k := by unfold gz; omega
theorem nz_rd {f : Nat → Int32} {z i : Int} (hz : z = nz f i.toNat) (he : 0 ≤ i ∧ i ≤ 2147483647) : f (iI i).toNatClampNeg = iI z := by
  rw [iI_cl he.1 he.2, hz]
  exact nz_e f i.toNat
/-- the class's tape holds bytes -/
def BR (f : Nat → Int32) : Prop := ∀ k : Nat, k < 600 → -128 ≤ nz f k ∧ nz f k ≤ 127
theorem am_eq {z w : Int} {mk : Int32} (h : iI z &&& mk = iI w) (hm : mk.toBitVec.toNat = 2 ^ 8 - 1) (hw : 0 ≤ w ∧ w ≤ 255) : w = z % 256 := by
  have h1 : ((iI z &&& mk).toBitVec).toNat = ((iI w).toBitVec).toNat := by rw [h]
  rw [Int32.toBitVec_and, BitVec.toNat_and, hm, Nat.and_two_pow_sub_one_eq_mod] at h1
  have e1 : ((iI z).toBitVec).toNat = (z % 4294967296).toNat := by
    show (BitVec.ofInt 32 z).toNat = _
    rw [BitVec.toNat_ofInt]; rfl
  have e2 : ((iI w).toBitVec).toNat = (w % 4294967296).toNat := by
    show (BitVec.ofInt 32 w).toNat = _
    rw [BitVec.toNat_ofInt]; rfl
  rw [e1, e2] at h1
  omega
/-- sign: what stands there (or -1), the place behind the blanks -/
def SiS (g : Nat → Int) (n a f r a' : Int) : Prop := (f ≠ 0 → r = -1 ∧ a' = a) ∧ (f = 0 → a' = rnI pSp g n a ∧ (a' < n → r = g a'.toNat) ∧ (¬ a' < n → r = -1))
theorem SiS_1 {g : Nat → Int} {n a f : Int} (h : f ≠ 0) : SiS g n a f (-1) a := ⟨fun _ => ⟨rfl, rfl⟩, fun q => absurd q h⟩
theorem rn_sp {g : Nat → Int} {n x : Int} (h0 : 0 ≤ x) (h : ¬ (x < n ∧ g x.toNat = 32)) : rnI pSp g n x = x := rnI_stop h0 (fun q => h ⟨q.1, pSp_i q.2⟩)
theorem SiS_2 {g : Nat → Int} {n a f x : Int} (hf : f = 0) (hl : rnI pSp g n x = rnI pSp g n a) (h0 : 0 ≤ x) (hx : ¬ x < n) : SiS g n a f (-1) x :=
  ⟨fun q => absurd hf q, fun _ => ⟨by rw [← hl, rn_sp h0 (fun q => hx q.1)], fun q => absurd q hx, fun _ => rfl⟩⟩
theorem SiS_3 {g : Nat → Int} {n a f x r : Int} (hf : f = 0) (hl : rnI pSp g n x = rnI pSp g n a) (h0 : 0 ≤ x) (hx : x < n) (hg : g x.toNat ≠ 32) (hr : r = g x.toNat) : SiS g n a f r x :=
  ⟨fun q => absurd hf q, fun _ => ⟨by rw [← hl, rn_sp h0 (fun q => hg q.2)], fun _ => hr, fun q => absurd hx q⟩⟩
def HmS (g : Nat → Int) (n a f r a' : Int) : Prop := (f ≠ 0 → r = 0 ∧ a' = a) ∧ (f = 0 → a' = rnI pSp g n a ∧ (r = 1 → a' < n) ∧ (r = 0 → ¬ a' < n))
theorem HmS_of {g : Nat → Int} {n a f x r b : Int} (hg : ∀ k, 0 ≤ g k) (h : SiS g n a f x b) (hr : (x ≠ -1 ∧ r = 1) ∨ (x = -1 ∧ r = 0)) : HmS g n a f r b := by
  refine ⟨fun q => ?_, fun q => ?_⟩
  · have := h.1 q
    exact ⟨by omega, this.2⟩
  · obtain ⟨h1, h2, h3⟩ := h.2 q
    refine ⟨h1, fun w => ?_, fun w w1 => ?_⟩
    · by_cases hb : b < n
      · exact hb
      · have := h3 hb; omega
    · have := h2 w1
      have := hg b.toNat
      omega
/-- a word of the table stands from fr to en -/
def FM (f : Nat → Int32) (fr en k : Int) : Prop := en = fr + slen k ∧ ∀ t : Int, 0 ≤ t → t < slen k → nz f (fr + t).toNat = sch k t
def WnN (f : Nat → Int32) (fr en q : Int) : Prop := 10 < q → ¬ FM f fr en 10
theorem WnN_0 {f : Nat → Int32} {fr en : Int} : WnN f fr en 0 := fun h => absurd h (by decide)
theorem WnN_s {f : Nat → Int32} {fr en q q1 : Int} (h : WnN f fr en q) (hn : ¬ FM f fr en q) (e : q1 = q + 1) : WnN f fr en q1 := by
  intro w
  by_cases h1 : 10 < q
  · exact h h1
  · rw [show (10 : Int) = q by omega]; exact hn
theorem rain_one : ∀ k : Nat, k < 28 → (slen (k : Int) = 4 ∧ sch (k : Int) 0 = 114 ∧ sch (k : Int) 1 = 97 ∧ sch (k : Int) 2 = 105 ∧ sch (k : Int) 3 = 110) → k = 10 := by decide +kernel
theorem rain_is : slen 10 = 4 ∧ sch 10 0 = 114 ∧ sch 10 1 = 97 ∧ sch 10 2 = 105 ∧ sch 10 3 = 110 := by decide +kernel
theorem FM_10 {f : Nat → Int32} {fr en : Int} (h : FM f fr en 10) : en = fr + 4 ∧ nz f fr.toNat = 114 ∧ nz f (fr + 1).toNat = 97 ∧ nz f (fr + 2).toNat = 105 ∧ nz f (fr + 3).toNat = 110 := by
  obtain ⟨r0, r1, r2, r3, r4⟩ := rain_is
  obtain ⟨h1, h2⟩ := h
  have t0 := h2 0 (by omega) (by omega)
  have t1 := h2 1 (by omega) (by omega)
  have t2 := h2 2 (by omega) (by omega)
  have t3 := h2 3 (by omega) (by omega)
  rw [show fr + 0 = fr by omega] at t0
  exact ⟨by omega, by omega, by omega, by omega, by omega⟩
theorem FM_u {f : Nat → Int32} {fr en k : Int} (hk : 0 ≤ k ∧ k ≤ 27) (h : FM f fr en k) : k = 10 ↔ FM f fr en 10 := by
  refine ⟨fun q => by rw [← q]; exact h, fun q => ?_⟩
  obtain ⟨q0, q1, q2, q3, q4⟩ := FM_10 q
  obtain ⟨h1, h2⟩ := h
  have t0 := h2 0 (by omega) (by omega)
  have t1 := h2 1 (by omega) (by omega)
  have t2 := h2 2 (by omega) (by omega)
  have t3 := h2 3 (by omega) (by omega)
  rw [show fr + 0 = fr by omega] at t0
  have := rain_one k.toNat (by omega)
  rw [show ((k.toNat : Nat) : Int) = k by omega] at this
  have := this ⟨by omega, by omega, by omega, by omega, by omega⟩
  omega
/-- word: which word of the table (10: rain), the place behind the blanks, the word's end -/
def WoS (g : Nat → Int) (n a f k a' w : Int) : Prop := (f ≠ 0 → k = 0) ∧ (f = 0 → a' = rnI pSp g n a ∧ (k = 10 ↔ isR g n a') ∧ (k = 10 → w = a' + 4))
theorem rn_sm {g : Nat → Int} {n x : Int} (h0 : 0 ≤ x) (h : ¬ (x < n ∧ 97 ≤ g x.toNat ∧ g x.toNat ≤ 122)) : rnI pSm g n x = x := rnI_stop h0 (fun q => h ⟨q.1, pSm_i q.2⟩)
theorem isR_i {g : Nat → Int} {n a : Int} (h0 : 0 ≤ a) (hr : rnI pSm g n a = a + 4) (h1 : g a.toNat = 114) (h2 : g (a.toNat + 1) = 97) (h3 : g (a.toNat + 2) = 105) (h4 : g (a.toNat + 3) = 110) : isR g n a := by
  have q1 := rnI_le pSm g (n := n) h0
  have q2 := rnI_end pSm g (n := n) h0
  rw [hr] at q1 q2
  refine isR_iff.mpr ⟨by omega, h1, h2, h3, h4, fun w => q2 ⟨w.1, pSm_t ?_⟩⟩
  rw [show (a + 4).toNat = a.toNat + 4 by omega]
  exact w.2
theorem isR_e {g : Nat → Int} {n a : Int} (h0 : 0 ≤ a) (h : isR g n a) : rnI pSm g n a = a + 4 := by
  obtain ⟨hn, h1, h2, h3, h4, h5⟩ := isR_iff.mp h
  have s1 := rnI_go (p := pSm) (g := g) (n := n) (a := a) (b := a + 1) h0 (by omega) (pSm_t (by omega)) rfl
  have s2 := rnI_go (p := pSm) (g := g) (n := n) (a := a + 1) (b := a + 2) (by omega) (by omega) (pSm_t (by rw [show (a + 1).toNat = a.toNat + 1 by omega]; omega)) (by omega)
  have s3 := rnI_go (p := pSm) (g := g) (n := n) (a := a + 2) (b := a + 3) (by omega) (by omega) (pSm_t (by rw [show (a + 2).toNat = a.toNat + 2 by omega]; omega)) (by omega)
  have s4 := rnI_go (p := pSm) (g := g) (n := n) (a := a + 3) (b := a + 4) (by omega) (by omega) (pSm_t (by rw [show (a + 3).toNat = a.toNat + 3 by omega]; omega)) (by omega)
  have s5 := rn_sm (g := g) (n := n) (x := a + 4) (by omega) (by rw [show (a + 4).toNat = a.toNat + 4 by omega]; exact h5)
  omega
theorem WoS_1 {g : Nat → Int} {n a f r b w : Int} (hg : ∀ k, 0 ≤ g k) (h : SiS g n a f r b) (hr : r = -1) : WoS g n a f 0 b w := by
  refine ⟨fun _ => rfl, fun q => ?_⟩
  obtain ⟨h1, h2, h3⟩ := h.2 q
  refine ⟨h1, ⟨fun e => absurd e (by decide), fun e => ?_⟩, fun e => absurd e (by decide)⟩
  have h4 : b < n := by have := (isR_iff.mp e).1; omega
  have := h2 h4
  have := hg b.toNat
  omega
theorem WoS_2 {f0 : Nat → Int32} {n a f r b x k : Int} (hB : BR f0) (hn : n ≤ 600) (h : SiS (gz f0) n a f r b) (hr : r ≠ -1) (hb : 0 ≤ b) (hl : rnI pSm (gz f0) n x = rnI pSm (gz f0) n b) (hx : 0 ≤ x) (hs : ¬ (x < n ∧ 97 ≤ gz f0 x.toNat ∧ gz f0 x.toNat ≤ 122)) (hk : k = 10 ↔ FM f0 b x 10) : WoS (gz f0) n a f k b x := by
  have hf : f = 0 := by
    by_cases q : f = 0
    · exact q
    · exact absurd (h.1 q).1 hr
  refine ⟨fun q => absurd hf q, fun _ => ?_⟩
  obtain ⟨h1, h2, h3⟩ := h.2 hf
  have e : rnI pSm (gz f0) n b = x := by rw [← hl]; exact rn_sm hx hs
  refine ⟨h1, ⟨fun q => ?_, fun q => ?_⟩, fun q => (FM_10 (hk.mp q)).1⟩
  · obtain ⟨t0, t1, t2, t3, t4⟩ := FM_10 (hk.mp q)
    have z2 : (b + 1).toNat = b.toNat + 1 := by omega
    have z3 : (b + 2).toNat = b.toNat + 2 := by omega
    have z4 : (b + 3).toNat = b.toNat + 3 := by omega
    rw [z2] at t2; rw [z3] at t3; rw [z4] at t4
    refine isR_i hb (by rw [e]; exact t0) ?_ ?_ ?_ ?_
    · show nz f0 b.toNat % 256 = 114; omega
    · show nz f0 (b.toNat + 1) % 256 = 97; omega
    · show nz f0 (b.toNat + 2) % 256 = 105; omega
    · show nz f0 (b.toNat + 3) % 256 = 110; omega
  · have e4 := isR_e hb q
    obtain ⟨hn4, t1, t2, t3, t4, t5⟩ := isR_iff.mp q
    have b1 := hB b.toNat (by omega)
    have b2 := hB (b.toNat + 1) (by omega)
    have b3 := hB (b.toNat + 2) (by omega)
    have b4 := hB (b.toNat + 3) (by omega)
    unfold gz at t1 t2 t3 t4
    obtain ⟨r0, r1, r2, r3, r4⟩ := rain_is
    refine hk.mpr ⟨by omega, fun t ht0 ht1 => ?_⟩
    rcases (show t = 0 ∨ t = 1 ∨ t = 2 ∨ t = 3 by omega) with rfl | rfl | rfl | rfl
    · rw [show (b + 0).toNat = b.toNat by omega]; omega
    · rw [show (b + 1).toNat = b.toNat + 1 by omega]; omega
    · rw [show (b + 2).toNat = b.toNat + 2 by omega]; omega
    · rw [show (b + 3).toNat = b.toNat + 3 by omega]; omega
theorem WoS_R {g : Nat → Int} {n a f k b w : Int} (h : WoS g n a f k b w) (hf : f = 0) : k = 10 ↔ isR g n (rnI pSp g n a) := by
  obtain ⟨h1, h2, h3⟩ := h.2 hf
  rw [← h1]; exact h2
theorem WoS_a {g : Nat → Int} {n a f k b w : Int} (h : WoS g n a f k b w) (hf : f = 0) (h0 : 0 ≤ a) : rnI pSp g n b = rnI pSp g n a := by
  rw [(h.2 hf).1]; exact rnI_id pSp g h0
theorem WwS_1 {g : Nat → Int} {n a f k b w a' f' : Int} (h : WoS g n a f k b w) (hk : k = 10) (hf : f' = f) (ha : a' = w) : WwS g n a f a' f' := by
  refine ⟨fun _ => hf, fun q => ?_⟩
  have hR := (WoS_R h q).mp hk
  obtain ⟨h1, h2, h3⟩ := h.2 q
  have := h3 hk
  exact ⟨fun _ => ⟨by omega, by omega⟩, fun w1 => absurd hR w1⟩
theorem WwS_2 {g : Nat → Int} {n a f k b w a' f' : Int} (h : WoS g n a f k b w) (hk : k ≠ 10) (h1 : f ≠ 0 → f' = f) (h2 : f = 0 → f' = 1) : WwS g n a f a' f' :=
  ⟨h1, fun q => ⟨fun w1 => absurd ((WoS_R h q).mpr w1) hk, fun _ => h2 q⟩⟩
theorem NuS_1 {g : Nat → Int} {n lo hi a f r b a' f' : Int} (h : SiS g n a f r b) (hr : ¬ (48 ≤ r ∧ r ≤ 57)) (h1 : f ≠ 0 → f' = f) (h2 : f = 0 → f' = 1) : NuS g n lo hi a f a' f' := by
  refine ⟨h1, fun q => ?_⟩
  obtain ⟨e1, e2, e3⟩ := h.2 q
  have e4 : nF g n a lo hi = 1 := by
    unfold nF
    rw [if_neg (fun w => hr ?_)]
    rw [← e1] at w
    rw [e2 w.1]
    exact pDg_i w.2
  rw [h2 q, e4]
  exact ⟨rfl, fun w => absurd w (by decide)⟩
theorem rn_dg {g : Nat → Int} {n x : Int} (h0 : 0 ≤ x) (h : ¬ (x < n ∧ 48 ≤ g x.toNat ∧ g x.toNat ≤ 57)) : rnI pDg g n x = x := rnI_stop h0 (fun q => h ⟨q.1, pDg_i q.2⟩)
theorem NuS_2 {g : Nat → Int} {n lo hi a f r b x v a' f' : Int} (h : SiS g n a f r b) (hr : 48 ≤ r ∧ r ≤ 57) (hl : rnI pDg g n x = rnI pDg g n b) (hv : vlI g n x v = vlI g n b 0) (hx : 0 ≤ x) (hs : ¬ (x < n ∧ 48 ≤ g x.toNat ∧ g x.toNat ≤ 57)) (h1 : (lo ≤ v ∧ v ≤ hi ∧ f' = f ∧ a' = x) ∨ (¬ (lo ≤ v ∧ v ≤ hi) ∧ (f = 0 → f' = 2))) : NuS g n lo hi a f a' f' := by
  have hf : f = 0 := by
    by_cases q : f = 0
    · exact q
    · have := (h.1 q).1; omega
  refine ⟨fun q => absurd hf q, fun _ => ?_⟩
  obtain ⟨e1, e2, e3⟩ := h.2 hf
  have hb : b < n := by
    by_cases q : b < n
    · exact q
    · have := e3 q; omega
  have e4 := e2 hb
  have ev : vlI g n (rnI pSp g n a) 0 = v := by rw [← e1, ← hv]; exact vlI_stop hx hs
  have ex : nA g n a = x := by unfold nA; rw [← e1, ← hl]; exact rn_dg hx hs
  have ec : rnI pSp g n a < n ∧ pDg (g (rnI pSp g n a).toNat) = true := by rw [← e1]; exact ⟨hb, pDg_t (by rw [← e4]; exact hr)⟩
  have eF : nF g n a lo hi = if lo ≤ v ∧ v ≤ hi then 0 else 2 := by unfold nF; rw [if_pos ec, ev]
  rw [eF, ex]
  rcases h1 with ⟨w1, w2, w3, w4⟩ | ⟨w1, w2⟩
  · rw [if_pos ⟨w1, w2⟩]
    exact ⟨by omega, fun _ => w4⟩
  · rw [if_neg w1]
    have := w2 hf
    exact ⟨this, fun q => by omega⟩
theorem SgS_1 {g : Nat → Int} {n c a f r b a' f' : Int} (h : SiS g n a f r b) (hc : 0 ≤ c) (hr : r = c) (hf : f' = f) (ha : a' = b + 1) : SgS g n c a f a' f' := by
  refine ⟨fun _ => hf, fun q => ?_⟩
  obtain ⟨e1, e2, e3⟩ := h.2 q
  have hb : b < n := by
    by_cases w : b < n
    · exact w
    · have := e3 w; omega
  have e4 := e2 hb
  rw [← e1]
  exact ⟨fun _ => ⟨by omega, ha⟩, fun w => absurd ⟨hb, by omega⟩ w⟩
theorem SgS_2 {g : Nat → Int} {n c a f r b a' f' : Int} (h : SiS g n a f r b) (hr : r ≠ c) (h1 : f ≠ 0 → f' = f) (h2 : f = 0 → f' = 1) : SgS g n c a f a' f' := by
  refine ⟨h1, fun q => ?_⟩
  obtain ⟨e1, e2, e3⟩ := h.2 q
  rw [← e1]
  exact ⟨fun w => absurd (by rw [e2 w.1]; exact w.2) hr, fun _ => h2 q⟩
theorem RvL_i {g : Nat → Int} {n a f r b f' : Int} (h : HmS g n a f r b) (hf : f = 0) (ha : a = 0) (hr : (r = 1 ∧ f' = f) ∨ (r = 0 ∧ f' = 1)) : RvL g n (RV g n) 0 b f' := by
  subst ha
  obtain ⟨e1, e2, e3⟩ := h.2 hf
  refine RvL_0 ?_ ⟨by rw [e1]; exact rnI_id pSp g (by decide), by rw [e1]; exact (rnI_le pSp g (by decide)).1⟩
  rw [← e1]
  rcases hr with ⟨w1, w2⟩ | ⟨w1, w2⟩
  · exact Or.inl ⟨e2 w1, by omega⟩
  · exact Or.inr ⟨e3 w1, w2⟩
theorem RvE {g : Nat → Int} {n V m a f r b : Int} (h : RvL g n V m a f) (hm : HmS g n a f r b) (hr : r = 0) (h8 : 0 ≤ m ∧ m ≤ 8) : V = f := by
  refine RvL_end h h8 ?_
  by_cases q : f = 0
  · obtain ⟨e1, e2, e3⟩ := hm.2 q
    rw [← e1]
    exact Or.inr (e3 hr)
  · exact Or.inl q
