
/-- how far a run of letters goes -/
def rnN (p : Int → Bool) (g : Nat → Int) (n : Nat) : Nat → Nat → Nat
  | 0, a => a
  | d + 1, a => if a < n ∧ p (g a) = true then rnN p g n d (a + 1) else a
def rnI (p : Int → Bool) (g : Nat → Int) (n a : Int) : Int := ((rnN p g n.toNat (n.toNat - a.toNat) a.toNat : Nat) : Int)
theorem rnI_go {p : Int → Bool} {g : Nat → Int} {n a b : Int} (h0 : 0 ≤ a) (h1 : a < n) (h2 : p (g a.toNat) = true) (hb : b = a + 1) : rnI p g n b = rnI p g n a := by
  subst hb
  unfold rnI
  have e1 : n.toNat - a.toNat = (n.toNat - (a + 1).toNat) + 1 := by omega
  have e2 : (a + 1).toNat = a.toNat + 1 := by omega
  rw [e1, show rnN p g n.toNat ((n.toNat - (a + 1).toNat) + 1) a.toNat = if a.toNat < n.toNat ∧ p (g a.toNat) = true then rnN p g n.toNat (n.toNat - (a + 1).toNat) (a.toNat + 1) else a.toNat from rfl, if_pos ⟨by omega, h2⟩, e2]
theorem rnI_stop {p : Int → Bool} {g : Nat → Int} {n a : Int} (h0 : 0 ≤ a) (h : ¬ (a < n ∧ p (g a.toNat) = true)) : rnI p g n a = a := by
  unfold rnI
  cases n.toNat - a.toNat with
  | zero => show ((a.toNat : Nat) : Int) = a; omega
  | succ d =>
    rw [show rnN p g n.toNat (d + 1) a.toNat = if a.toNat < n.toNat ∧ p (g a.toNat) = true then rnN p g n.toNat d (a.toNat + 1) else a.toNat from rfl, if_neg (fun q => h ⟨by omega, q.2⟩)]
    omega
theorem rnN_le (p : Int → Bool) (g : Nat → Int) (n : Nat) : ∀ d a : Nat, a ≤ rnN p g n d a ∧ (rnN p g n d a ≤ n ∨ rnN p g n d a = a) ∧ (n ≤ a + d → ¬ (rnN p g n d a < n ∧ p (g (rnN p g n d a)) = true))
  | 0, a => ⟨Nat.le_refl a, Or.inr rfl, fun q h => by have h1 : a < n := h.1; omega⟩
  | d + 1, a => by
    by_cases h : a < n ∧ p (g a) = true
    · have e : rnN p g n (d + 1) a = rnN p g n d (a + 1) := by
        show (if a < n ∧ p (g a) = true then rnN p g n d (a + 1) else a) = _
        rw [if_pos h]
      rw [e]
      have ih := rnN_le p g n d (a + 1)
      refine ⟨by omega, ?_, fun q => ih.2.2 (by omega)⟩
      rcases ih.2.1 with q | q
      · exact Or.inl q
      · exact Or.inl (by omega)
    · have e : rnN p g n (d + 1) a = a := by
        show (if a < n ∧ p (g a) = true then rnN p g n d (a + 1) else a) = _
        rw [if_neg h]
      rw [e]
      exact ⟨Nat.le_refl a, Or.inr rfl, fun _ => h⟩
theorem rnI_le (p : Int → Bool) (g : Nat → Int) {n a : Int} (h0 : 0 ≤ a) : a ≤ rnI p g n a ∧ (rnI p g n a ≤ n ∨ rnI p g n a = a) := by
  have h := rnN_le p g n.toNat (n.toNat - a.toNat) a.toNat
  unfold rnI
  refine ⟨by omega, ?_⟩
  rcases h.2.1 with q | q
  · by_cases hn : 0 ≤ n
    · exact Or.inl (by omega)
    · exact Or.inr (by omega)
  · exact Or.inr (by omega)
theorem rnI_end (p : Int → Bool) (g : Nat → Int) {n a : Int} (h0 : 0 ≤ a) : ¬ (rnI p g n a < n ∧ p (g (rnI p g n a).toNat) = true) := by
  have h := (rnN_le p g n.toNat (n.toNat - a.toNat) a.toNat).2.2 (by omega)
  unfold rnI
  exact fun q => h ⟨by omega, by simpa using q.2⟩
theorem rnI_id (p : Int → Bool) (g : Nat → Int) {n a : Int} (h0 : 0 ≤ a) : rnI p g n (rnI p g n a) = rnI p g n a :=
  rnI_stop (Int.le_trans h0 (rnI_le p g h0).1) (rnI_end p g h0)
def pSp (c : Int) : Bool := decide (c = 32)
def pSm (c : Int) : Bool := decide (97 ≤ c ∧ c ≤ 122)
def pDg (c : Int) : Bool := decide (48 ≤ c ∧ c ≤ 57)
theorem pSp_t {c : Int} (h : c = 32) : pSp c = true := decide_eq_true h
theorem pSm_t {c : Int} (h : 97 ≤ c ∧ c ≤ 122) : pSm c = true := decide_eq_true h
theorem pDg_t {c : Int} (h : 48 ≤ c ∧ c ≤ 57) : pDg c = true := decide_eq_true h
theorem pSp_i {c : Int} (h : pSp c = true) : c = 32 := of_decide_eq_true h
theorem pSm_i {c : Int} (h : pSm c = true) : 97 ≤ c ∧ c ≤ 122 := of_decide_eq_true h
theorem pDg_i {c : Int} (h : pDg c = true) : 48 ≤ c ∧ c ≤ 57 := of_decide_eq_true h
/-- the number that stands at a, no more than 10000 -/
def vlN (g : Nat → Int) (n : Nat) : Nat → Nat → Int → Int
  | 0, _, v => v
  | d + 1, a, v => if a < n ∧ pDg (g a) = true then vlN g n d (a + 1) (min (v * 10 + g a - 48) 10000) else v
def vlI (g : Nat → Int) (n a v : Int) : Int := vlN g n.toNat (n.toNat - a.toNat) a.toNat v
theorem vlI_go {g : Nat → Int} {n a b v w : Int} (h0 : 0 ≤ a) (h1 : a < n) (h2 : 48 ≤ g a.toNat ∧ g a.toNat ≤ 57) (hb : b = a + 1) (hw : w = min (v * 10 + g a.toNat - 48) 10000) : vlI g n b w = vlI g n a v := by
  subst hb hw
  unfold vlI
  have e1 : n.toNat - a.toNat = (n.toNat - (a + 1).toNat) + 1 := by omega
  have e2 : (a + 1).toNat = a.toNat + 1 := by omega
  rw [e1, show vlN g n.toNat ((n.toNat - (a + 1).toNat) + 1) a.toNat v = if a.toNat < n.toNat ∧ pDg (g a.toNat) = true then vlN g n.toNat (n.toNat - (a + 1).toNat) (a.toNat + 1) (min (v * 10 + g a.toNat - 48) 10000) else v from rfl, if_pos ⟨by omega, pDg_t h2⟩, e2]
theorem vlI_stop {g : Nat → Int} {n a v : Int} (h0 : 0 ≤ a) (h : ¬ (a < n ∧ 48 ≤ g a.toNat ∧ g a.toNat ≤ 57)) : vlI g n a v = v := by
  unfold vlI
  cases n.toNat - a.toNat with
  | zero => rfl
  | succ d => rw [show vlN g n.toNat (d + 1) a.toNat v = if a.toNat < n.toNat ∧ pDg (g a.toNat) = true then vlN g n.toNat d (a.toNat + 1) (min (v * 10 + g a.toNat - 48) 10000) else v from rfl, if_neg (fun q => h ⟨by omega, pDg_i q.2⟩)]
/-- a number's fault (0: none), and where it ends -/
def nF (g : Nat → Int) (n a lo hi : Int) : Int := if rnI pSp g n a < n ∧ pDg (g (rnI pSp g n a).toNat) = true then (if lo ≤ vlI g n (rnI pSp g n a) 0 ∧ vlI g n (rnI pSp g n a) 0 ≤ hi then 0 else 2) else 1
def nA (g : Nat → Int) (n a : Int) : Int := rnI pDg g n (rnI pSp g n a)
def nV (g : Nat → Int) (n a : Int) : Int := vlI g n (rnI pSp g n a) 0
theorem rn_sp {g : Nat → Int} {n x : Int} (h0 : 0 ≤ x) (h : ¬ (x < n ∧ g x.toNat = 32)) : rnI pSp g n x = x := rnI_stop h0 (fun q => h ⟨q.1, pSp_i q.2⟩)
theorem rn_sm {g : Nat → Int} {n x : Int} (h0 : 0 ≤ x) (h : ¬ (x < n ∧ 97 ≤ g x.toNat ∧ g x.toNat ≤ 122)) : rnI pSm g n x = x := rnI_stop h0 (fun q => h ⟨q.1, pSm_i q.2⟩)
theorem rn_dg {g : Nat → Int} {n x : Int} (h0 : 0 ≤ x) (h : ¬ (x < n ∧ 48 ≤ g x.toNat ∧ g x.toNat ≤ 57)) : rnI pDg g n x = x := rnI_stop h0 (fun q => h ⟨q.1, pDg_i q.2⟩)
theorem rn_nn {p : Int → Bool} {g : Nat → Int} {n a : Int} (h0 : 0 ≤ a) : 0 ≤ rnI p g n a := Int.le_trans h0 (rnI_le p g h0).1
/-- a step of reading: F its fault (0: none), P the fault's place, A its end; f, p, a ahead of it, f', p', a' behind -/
def RdS (F P A f p a' f' p' : Int) : Prop := (f ≠ 0 → f' = f ∧ p' = p) ∧ (f = 0 → f' = F ∧ (F = 0 → a' = A) ∧ (F ≠ 0 → p' = P))
def thF (F1 F2 : Int) : Int := if F1 = 0 then F2 else F1
def thP (F1 P1 P2 : Int) : Int := if F1 = 0 then P2 else P1
theorem RdS.nil {f p a : Int} : RdS 0 0 a f p a f p := ⟨fun _ => ⟨rfl, rfl⟩, fun q => ⟨q, fun _ => rfl, fun w => absurd rfl w⟩⟩
theorem RdS.ok {F P A f p a' f' p' : Int} (h : RdS F P A f p a' f' p') (hf : f' = 0) : f = 0 ∧ F = 0 ∧ a' = A := by
  by_cases q : f = 0
  · obtain ⟨e1, e2, e3⟩ := h.2 q
    exact ⟨q, by omega, e2 (by omega)⟩
  · have := h.1 q
    omega
theorem RdS.seq {F1 P1 A1 f p a1 f1 p1 a2 f2 p2 : Int} (F2 P2 A2 : Int → Int) (h1 : RdS F1 P1 A1 f p a1 f1 p1) (h2 : RdS (F2 a1) (P2 a1) (A2 a1) f1 p1 a2 f2 p2) : RdS (thF F1 (F2 A1)) (thP F1 P1 (P2 A1)) (A2 A1) f p a2 f2 p2 := by
  unfold thF thP
  refine ⟨fun q => ?_, fun q => ?_⟩
  · obtain ⟨e1, e2⟩ := h1.1 q
    have h3 := h2.1 (by omega)
    exact ⟨by omega, by omega⟩
  · obtain ⟨e1, e2, e3⟩ := h1.2 q
    by_cases hF : F1 = 0
    · have ea := e2 hF
      subst ea
      rw [if_pos hF, if_pos hF]
      exact h2.2 (by omega)
    · rw [if_neg hF, if_neg hF]
      have h3 := h2.1 (by omega)
      have h4 := e3 hF
      exact ⟨by omega, fun w => absurd w hF, fun _ => by omega⟩
/-- numbers one behind another -/
def chF (g : Nat → Int) (n : Int) : List (Int × Int) → Int → Int
  | [], _ => 0
  | q :: r, a => thF (nF g n a q.1 q.2) (chF g n r (nA g n a))
def chP (g : Nat → Int) (n : Int) : List (Int × Int) → Int → Int
  | [], _ => 0
  | q :: r, a => thP (nF g n a q.1 q.2) (rnI pSp g n a) (chP g n r (nA g n a))
def chA (g : Nat → Int) (n : Int) : List (Int × Int) → Int → Int
  | [], a => a
  | _ :: r, a => chA g n r (nA g n a)
def NuP (g : Nat → Int) (n lo hi a f p v a' f' p' : Int) : Prop := RdS (nF g n a lo hi) (rnI pSp g n a) (nA g n a) f p a' f' p' ∧ (f' = 0 → v = nV g n a)
theorem ch_c {g : Nat → Int} {n lo hi a f p v a1 f1 p1 a' f' p' : Int} {r : List (Int × Int)} (h : NuP g n lo hi a f p v a1 f1 p1) (k : RdS (chF g n r a1) (chP g n r a1) (chA g n r a1) f1 p1 a' f' p') : RdS (chF g n ((lo, hi) :: r) a) (chP g n ((lo, hi) :: r) a) (chA g n ((lo, hi) :: r) a) f p a' f' p' :=
  RdS.seq (chF g n r) (chP g n r) (chA g n r) h.1 k
theorem ch_n {g : Nat → Int} {n a f p : Int} : RdS (chF g n [] a) (chP g n [] a) (chA g n [] a) f p a f p := RdS.nil
def sgF (g : Nat → Int) (n c a : Int) : Int := if rnI pSp g n a < n ∧ g (rnI pSp g n a).toNat = c then 0 else 1
def SgP (g : Nat → Int) (n c a f p a' f' p' : Int) : Prop := RdS (sgF g n c a) (rnI pSp g n a) (rnI pSp g n a + 1) f p a' f' p'
/-- sign: what stands there (or -1), the place behind the blanks -/
def SiS (g : Nat → Int) (n a f r a' : Int) : Prop := (f ≠ 0 → r = -1 ∧ a' = a) ∧ (f = 0 → a' = rnI pSp g n a ∧ (a' < n → r = g a'.toNat) ∧ (¬ a' < n → r = -1))
theorem SiS_1 {g : Nat → Int} {n a f : Int} (h : f ≠ 0) : SiS g n a f (-1) a := ⟨fun _ => ⟨rfl, rfl⟩, fun q => absurd q h⟩
theorem SiS_2 {g : Nat → Int} {n a f x : Int} (hf : f = 0) (hl : rnI pSp g n x = rnI pSp g n a) (h0 : 0 ≤ x) (hx : ¬ x < n) : SiS g n a f (-1) x :=
  ⟨fun q => absurd hf q, fun _ => ⟨by rw [← hl, rn_sp h0 (fun q => hx q.1)], fun q => absurd q hx, fun _ => rfl⟩⟩
theorem SiS_3 {g : Nat → Int} {n a f x r : Int} (hf : f = 0) (hl : rnI pSp g n x = rnI pSp g n a) (h0 : 0 ≤ x) (hx : x < n) (hg : g x.toNat ≠ 32) (hr : r = g x.toNat) : SiS g n a f r x :=
  ⟨fun q => absurd hf q, fun _ => ⟨by rw [← hl, rn_sp h0 (fun q => hg q.2)], fun _ => hr, fun q => absurd hx q⟩⟩
def HmS (g : Nat → Int) (n a f r a' : Int) : Prop := (f ≠ 0 → r = 0 ∧ a' = a) ∧ (f = 0 → a' = rnI pSp g n a ∧ (r = 1 → a' < n) ∧ (r = 0 → ¬ a' < n))
theorem HmS_of {g : Nat → Int} {n a f x r b : Int} (hg : ∀ k : Nat, (k : Int) < n → 0 ≤ g k) (h : SiS g n a f x b) (h0 : 0 ≤ b) (hr : (x ≠ -1 ∧ r = 1) ∨ (x = -1 ∧ r = 0)) : HmS g n a f r b := by
  refine ⟨fun q => ?_, fun q => ?_⟩
  · have := h.1 q
    exact ⟨by omega, this.2⟩
  · obtain ⟨h1, h2, h3⟩ := h.2 q
    refine ⟨h1, fun w => ?_, fun w w1 => ?_⟩
    · by_cases hb : b < n
      · exact hb
      · have := h3 hb; omega
    · have := h2 w1
      have := hg b.toNat (by omega)
      omega
theorem NuP_1 {g : Nat → Int} {n lo hi a f p r b v a' f' p' : Int} (h : SiS g n a f r b) (hr : ¬ (48 ≤ r ∧ r ≤ 57)) (h1 : f ≠ 0 → f' = f ∧ p' = p) (h2 : f = 0 → f' = 1 ∧ p' = b) : NuP g n lo hi a f p v a' f' p' := by
  refine ⟨⟨h1, fun q => ?_⟩, fun q => ?_⟩
  · obtain ⟨e1, e2, e3⟩ := h.2 q
    obtain ⟨w1, w2⟩ := h2 q
    have e4 : nF g n a lo hi = 1 := by
      unfold nF
      rw [if_neg (fun w => hr ?_)]
      rw [← e1] at w
      rw [e2 w.1]
      exact pDg_i w.2
    rw [e4]
    exact ⟨w1, fun w => absurd w (by decide), fun _ => by omega⟩
  · by_cases w : f = 0
    · have := h2 w; omega
    · have := h1 w; omega
theorem NuP_2 {g : Nat → Int} {n lo hi a f p r b x v a' f' p' : Int} (h : SiS g n a f r b) (hr : 48 ≤ r ∧ r ≤ 57) (hl : rnI pDg g n x = rnI pDg g n b) (hv : vlI g n x v = vlI g n b 0) (hx : 0 ≤ x) (hs : ¬ (x < n ∧ 48 ≤ g x.toNat ∧ g x.toNat ≤ 57)) (h1 : (lo ≤ v ∧ v ≤ hi ∧ f' = f ∧ a' = x) ∨ (¬ (lo ≤ v ∧ v ≤ hi) ∧ (f = 0 → f' = 2 ∧ p' = b))) : NuP g n lo hi a f p v a' f' p' := by
  have hf : f = 0 := by
    by_cases q : f = 0
    · exact q
    · have := (h.1 q).1; omega
  obtain ⟨e1, e2, e3⟩ := h.2 hf
  have hb : b < n := by
    by_cases q : b < n
    · exact q
    · have := e3 q; omega
  have e4 := e2 hb
  have ev : vlI g n (rnI pSp g n a) 0 = v := by rw [← e1, ← hv]; exact vlI_stop hx hs
  have ex : nA g n a = x := by unfold nA; rw [← e1, ← hl]; exact rn_dg hx hs
  have ec : rnI pSp g n a < n ∧ pDg (g (rnI pSp g n a).toNat) = true := by rw [← e1]; exact ⟨hb, pDg_t (by rw [← e4]; exact hr)⟩
  have eF : nF g n a lo hi = if lo ≤ v ∧ v ≤ hi then 0 else 2 := by unfold nF; rw [if_pos ec, ev]
  refine ⟨⟨fun q => absurd hf q, fun _ => ?_⟩, fun _ => ev.symm⟩
  rw [eF, ex]
  rcases h1 with ⟨w1, w2, w3, w4⟩ | ⟨w1, w2⟩
  · rw [if_pos ⟨w1, w2⟩]
    exact ⟨by omega, fun _ => w4, fun w => absurd rfl w⟩
  · rw [if_neg w1]
    obtain ⟨q1, q2⟩ := w2 hf
    exact ⟨q1, fun w => absurd w (by decide), fun _ => by omega⟩
theorem SgP_1 {g : Nat → Int} {n c a f p r b a' f' p' : Int} (h : SiS g n a f r b) (hc : 0 ≤ c) (hr : r = c) (hf : f' = f) (ha : a' = b + 1) : SgP g n c a f p a' f' p' := by
  have q : f = 0 := by
    by_cases q : f = 0
    · exact q
    · have := (h.1 q).1; omega
  obtain ⟨e1, e2, e3⟩ := h.2 q
  have hb : b < n := by
    by_cases w : b < n
    · exact w
    · have := e3 w; omega
  have e4 := e2 hb
  have eF : sgF g n c a = 0 := by
    unfold sgF
    rw [← e1, if_pos ⟨hb, by omega⟩]
  refine ⟨fun w => absurd q w, fun _ => ?_⟩
  rw [eF, ← e1]
  exact ⟨by omega, fun _ => ha, fun w => absurd rfl w⟩
theorem SgP_2 {g : Nat → Int} {n c a f p r b a' f' p' : Int} (h : SiS g n a f r b) (hr : r ≠ c) (h1 : f ≠ 0 → f' = f ∧ p' = p) (h2 : f = 0 → f' = 1 ∧ p' = b) : SgP g n c a f p a' f' p' := by
  refine ⟨h1, fun q => ?_⟩
  obtain ⟨e1, e2, e3⟩ := h.2 q
  obtain ⟨w1, w2⟩ := h2 q
  have eF : sgF g n c a = 1 := by
    unfold sgF
    rw [if_neg (fun w => hr ?_)]
    rw [← e1] at w
    rw [e2 w.1]
    exact w.2
  rw [eF]
  exact ⟨w1, fun w => absurd w (by decide), fun _ => by omega⟩
/-- a word of the table stands at p -/
def isW (g : Nat → Int) (n p k : Int) : Prop := rnI pSm g n p = p + slen k ∧ ∀ t : Int, 0 ≤ t → t < slen k → g (p + t).toNat = sch k t
def isWb (g : Nat → Int) (n p k : Int) : Bool := (rnI pSm g n p == p + slen k) && (List.range (slen k).toNat).all (fun t => g (p + (t : Int)).toNat == sch k (t : Int))
theorem isWb_iff {g : Nat → Int} {n p k : Int} : isWb g n p k = true ↔ isW g n p k := by
  unfold isWb isW
  rw [Bool.and_eq_true, List.all_eq_true]
  constructor
  · intro h
    refine ⟨by simpa using h.1, fun t h0 h1 => ?_⟩
    have := h.2 t.toNat (List.mem_range.mpr (by omega))
    rw [show ((t.toNat : Nat) : Int) = t by omega] at this
    simpa using this
  · intro h
    refine ⟨by simpa using h.1, fun t ht => ?_⟩
    have := h.2 (t : Int) (by omega) (by have := List.mem_range.mp ht; omega)
    simpa using this
/-- which word stands at p (0: none) -/
def wk (g : Nat → Int) (n p : Int) : Int := (([1, 2, 3, 4, 5, 6, 7, 8, 9, 10, 11, 12, 13, 14, 15, 16, 17, 18, 19, 20, 21, 22, 23, 24, 25, 26, 27] : List Int).find? (isWb g n p)).getD 0
theorem gD_ {l : List Int} {i : Nat} (h : i < l.length) : l.getD i 0 = l[i] := by rw [List.getD_eq_getElem?_getD, List.getElem?_eq_getElem h, Option.getD_some]
theorem wdT_inj : ∀ k : Nat, k < 28 → ∀ j : Nat, j < 28 → wdT.getD k [] = wdT.getD j [] → k = j := by decide +kernel
theorem isW_uniq {g : Nat → Int} {n p k j : Int} (hk : 0 ≤ k ∧ k ≤ 27) (hj : 0 ≤ j ∧ j ≤ 27) (h1 : isW g n p k) (h2 : isW g n p j) : k = j := by
  have e1 : slen k = slen j := by have a := h1.1; have b := h2.1; omega
  have e2 : wdT.getD k.toNat [] = wdT.getD j.toNat [] := by
    refine List.ext_getElem (by unfold slen at e1; omega) (fun i a b => ?_)
    have q1 := h1.2 (i : Int) (by omega) (by unfold slen; omega)
    have q2 := h2.2 (i : Int) (by omega) (by unfold slen; omega)
    rw [q1] at q2
    unfold sch at q2
    rw [show ((i : Int)).toNat = i by omega, gD_ a, gD_ b] at q2
    exact q2
  have := wdT_inj k.toNat (by omega) j.toNat (by omega) e2
  omega
theorem wk_of {g : Nat → Int} {n p k : Int} (hk : 1 ≤ k ∧ k ≤ 27) (h : isW g n p k) : wk g n p = k := by
  unfold wk
  cases hf : (([1, 2, 3, 4, 5, 6, 7, 8, 9, 10, 11, 12, 13, 14, 15, 16, 17, 18, 19, 20, 21, 22, 23, 24, 25, 26, 27] : List Int).find? (isWb g n p)) with
  | none =>
    have := List.find?_eq_none.mp hf k (by simp; omega)
    exact absurd (isWb_iff.mpr h) this
  | some j =>
    have h1 := isWb_iff.mp (List.find?_some hf)
    have h2 := List.mem_of_find?_eq_some hf
    have h3 : 0 ≤ j ∧ j ≤ 27 := by simp at h2; omega
    exact (isW_uniq ⟨by omega, by omega⟩ h3 h h1).symm
theorem wk_no {g : Nat → Int} {n p : Int} (h : ∀ j : Int, 1 ≤ j → j ≤ 27 → ¬ isW g n p j) : wk g n p = 0 := by
  unfold wk
  rw [List.find?_eq_none.mpr (fun j hj => fun w => ?_)]
  · rfl
  · exact h j (by simp at hj; omega) (by simp at hj; omega) (isWb_iff.mp w)
theorem wk_r (g : Nat → Int) (n p : Int) : 0 ≤ wk g n p ∧ wk g n p ≤ 27 ∧ (1 ≤ wk g n p → isW g n p (wk g n p)) := by
  unfold wk
  cases hf : (([1, 2, 3, 4, 5, 6, 7, 8, 9, 10, 11, 12, 13, 14, 15, 16, 17, 18, 19, 20, 21, 22, 23, 24, 25, 26, 27] : List Int).find? (isWb g n p)) with
  | none => exact ⟨by decide, by decide, fun q => absurd q (by decide)⟩
  | some j =>
    have h2 := List.mem_of_find?_eq_some hf
    show 0 ≤ j ∧ j ≤ 27 ∧ (1 ≤ j → isW g n p j)
    exact ⟨by simp at h2; omega, by simp at h2; omega, fun _ => isWb_iff.mp (List.find?_some hf)⟩
theorem wk_iff {g : Nat → Int} {n p k : Int} (hk : 1 ≤ k ∧ k ≤ 27) : wk g n p = k ↔ isW g n p k := by
  constructor
  · intro h
    have := (wk_r g n p).2.2 (by omega)
    rw [h] at this
    exact this
  · exact wk_of hk
theorem wk_end {g : Nat → Int} {n p : Int} (h0 : 0 ≤ p) (h : ¬ p < n) : wk g n p = 0 := by
  have e : rnI pSm g n p = p := rnI_stop h0 (fun q => h q.1)
  have hr := wk_r g n p
  by_cases q : 1 ≤ wk g n p
  · have h1 := (hr.2.2 q).1
    have h2 : ∀ k : Nat, k < 28 → 1 ≤ k → 1 ≤ slen (k : Int) := by decide
    have h3 := h2 (wk g n p).toNat (by omega) (by omega)
    rw [show (((wk g n p).toNat : Nat) : Int) = wk g n p by omega] at h3
    omega
  · omega
/-- word: which one, the place behind the blanks, its end -/
def WoP (g : Nat → Int) (n a f k a' w : Int) : Prop := (f ≠ 0 → k = 0 ∧ a' = a) ∧ (f = 0 → a' = rnI pSp g n a ∧ k = wk g n a' ∧ (a' < n → w = rnI pSm g n a'))
/-- an array's numbers, one of them anew -/
def upz (F : Nat → Int) (e v : Int) : Nat → Int := fun j => if (j : Int) = e then v else F j
theorem upz_s {F : Nat → Int} {e v : Int} {j : Nat} (h : (j : Int) = e) : upz F e v j = v := if_pos h
theorem upz_n {F : Nat → Int} {e v : Int} {j : Nat} (h : (j : Int) ≠ e) : upz F e v j = F j := if_neg h
theorem upz_c {f f1 : Nat → Int32} {F : Nat → Int} {e v e' v' : Int} (h : nz f = F) (hd : f1 = upd f (iI e).toNatClampNeg (iI v)) (he : 0 ≤ e ∧ e ≤ 2147483647) (hv : -2147483648 ≤ v ∧ v ≤ 2147483647) (ee : e = e') (ev : v = v') : nz f1 = upz F e' v' := by
  subst ee ev h
  funext j
  by_cases q : (j : Int) = e
  · rw [upz_s q]; exact nz_us hd he hv q
  · rw [upz_n q]; exact nz_un hd he q
/-- a byte of the class's tape, as the document counts it -/
def gz (f : Nat → Int32) (k : Nat) : Int := nz f k % 256
theorem nz_rd {f : Nat → Int32} {z i : Int} (hz : z = nz f i.toNat) (he : 0 ≤ i ∧ i ≤ 2147483647) : f (iI i).toNatClampNeg = iI z := by
  rw [iI_cl he.1 he.2, hz]
  exact nz_e f i.toNat
/-- the class's tape holds bytes -/
def BR (f : Nat → Int32) : Prop := ∀ k : Nat, k < 600 → -128 ≤ nz f k ∧ nz f k ≤ 127
theorem am_eq {z w : Int} {mk : Int32} (h : iI z &&& mk = iI w) (hm : mk.toBitVec.toNat = 2 ^ 8 - 1) (hw : 0 ≤ w ∧ w ≤ 255) : w = z % 256 := by
  have h1 : ((iI z &&& mk).toBitVec).toNat = ((iI w).toBitVec).toNat := by rw [h]
  rw [Int32.toBitVec_and, BitVec.toNat_and, hm, Nat.and_two_pow_sub_one_eq_mod] at h1
  have e1 : ((iI z).toBitVec).toNat = (z % 4294967296).toNat := by
    show (BitVec.ofInt 32 z).toNat = _
    rw [BitVec.toNat_ofInt]; rfl
  have e2 : ((iI w).toBitVec).toNat = (w % 4294967296).toNat := by
    show (BitVec.ofInt 32 w).toNat = _
    rw [BitVec.toNat_ofInt]; rfl
  rw [e1, e2] at h1
  omega
/-- the class's tape tells the letters g -/
def TPg (f : Nat → Int32) (g : Nat → Int) : Prop := BR f ∧ ∀ k : Nat, k < 600 → gz f k = g k
theorem TPg.at {f : Nat → Int32} {g : Nat → Int} (h : TPg f g) {x : Int} (hx : 0 ≤ x ∧ x < 600) : nz f x.toNat % 256 = g x.toNat ∧ -128 ≤ nz f x.toNat ∧ nz f x.toNat ≤ 127 := ⟨h.2 x.toNat (by omega), h.1 x.toNat (by omega)⟩
theorem TPg.nn {f : Nat → Int32} {g : Nat → Int} (h : TPg f g) {n : Int} (hn : n ≤ 600) (k : Nat) (hk : (k : Int) < n) : 0 ≤ g k := by
  have := h.2 k (by omega)
  unfold gz at this
  omega
/-- a word of the table stands from fr to en -/
def FM (f : Nat → Int32) (fr en k : Int) : Prop := en = fr + slen k ∧ ∀ t : Int, 0 ≤ t → t < slen k → nz f (fr + t).toNat = sch k t
def FMn (f : Nat → Int32) (fr en q : Int) : Prop := ∀ j : Int, 0 ≤ j → j < q → ¬ FM f fr en j
theorem FMn_0 {f : Nat → Int32} {fr en : Int} : FMn f fr en 0 := fun j h0 h1 => absurd h1 (by omega)
theorem FMn_s {f : Nat → Int32} {fr en q q1 : Int} (h : FMn f fr en q) (hn : ¬ FM f fr en q) (e : q1 = q + 1) : FMn f fr en q1 := by
  intro j h0 h1
  by_cases w : j = q
  · rw [w]; exact hn
  · exact h j h0 (by omega)
theorem sl_pos : ∀ k : Nat, k < 28 → 1 ≤ k → 1 ≤ slen (k : Int) := by decide
theorem sl_0 : slen 0 = 0 := by decide
def FMr (f : Nat → Int32) (fr en k : Int) : Prop := (1 ≤ k → FM f fr en k) ∧ (k = 0 → ∀ j : Int, 1 ≤ j → j ≤ 27 → ¬ FM f fr en j)
theorem FMr_f {f : Nat → Int32} {fr en q : Int} (hq : 0 ≤ q ∧ q ≤ 27) (h : FM f fr en q) : FMr f fr en q := by
  refine ⟨fun _ => h, fun e j h1 h2 w => ?_⟩
  have a := h.1
  have b := w.1
  rw [e, sl_0] at a
  have c := sl_pos j.toNat (by omega) (by omega)
  rw [show ((j.toNat : Nat) : Int) = j by omega] at c
  omega
theorem FMr_n {f : Nat → Int32} {fr en q : Int} (h : FMn f fr en q) (hq : ¬ q < 28) : FMr f fr en 0 := ⟨fun w => absurd w (by decide), fun _ j h1 h2 => h j (by omega) (by omega)⟩
theorem sch_lo : ∀ k : Nat, k < 28 → ∀ i : Nat, i < (wdT.getD k []).length → 97 ≤ (wdT.getD k []).getD i 0 ∧ (wdT.getD k []).getD i 0 ≤ 122 := fun k hk i hi => sch_r k (by omega) i hi
theorem FM_W {f : Nat → Int32} {g : Nat → Int} {n b x k : Int} (hT : TPg f g) (hn : n ≤ 600) (hb : 0 ≤ b) (hx : x ≤ 600) (hk : 0 ≤ k ∧ k ≤ 27) (e : rnI pSm g n b = x) : FM f b x k ↔ isW g n b k := by
  constructor
  · intro h
    refine ⟨by rw [e]; exact h.1, fun t h0 h1 => ?_⟩
    have a := h.2 t h0 h1
    have q := TPg.at hT (x := b + t) (by have := h.1; omega)
    have r := sch_lo k.toNat (by omega) t.toNat (by unfold slen at h1; omega)
    have r2 : sch k t = (wdT.getD k.toNat []).getD t.toNat 0 := rfl
    omega
  · intro h
    have e2 : x = b + slen k := by rw [← e]; exact h.1
    refine ⟨e2, fun t h0 h1 => ?_⟩
    have a := h.2 t h0 h1
    have q := TPg.at hT (x := b + t) (by omega)
    have r := sch_lo k.toNat (by omega) t.toNat (by unfold slen at h1; omega)
    have r2 : sch k t = (wdT.getD k.toNat []).getD t.toNat 0 := rfl
    omega
theorem WoP_1 {g : Nat → Int} {n a f r b w : Int} (hg : ∀ k : Nat, (k : Int) < n → 0 ≤ g k) (h : SiS g n a f r b) (h0 : 0 ≤ b) (hr : r = -1) : WoP g n a f 0 b w := by
  refine ⟨fun q => ⟨rfl, (h.1 q).2⟩, fun q => ?_⟩
  obtain ⟨h1, h2, h3⟩ := h.2 q
  have hb : ¬ b < n := by
    intro w
    have := h2 w
    have := hg b.toNat (by omega)
    omega
  exact ⟨h1, (wk_end h0 hb).symm, fun w => absurd w hb⟩
theorem WoP_2 {f0 : Nat → Int32} {g : Nat → Int} {n a f r b x k : Int} (hT : TPg f0 g) (hn : n ≤ 600) (h : SiS g n a f r b) (hr : r ≠ -1) (hb : 0 ≤ b) (hl : rnI pSm g n x = rnI pSm g n b) (hx : 0 ≤ x ∧ x ≤ 600) (hs : ¬ (x < n ∧ 97 ≤ g x.toNat ∧ g x.toNat ≤ 122)) (hk : 0 ≤ k ∧ k ≤ 27) (hm : FMr f0 b x k) : WoP g n a f k b x := by
  have hf : f = 0 := by
    by_cases q : f = 0
    · exact q
    · exact absurd (h.1 q).1 hr
  refine ⟨fun q => absurd hf q, fun _ => ?_⟩
  obtain ⟨h1, h2, h3⟩ := h.2 hf
  have e : rnI pSm g n b = x := by rw [← hl]; exact rn_sm hx.1 hs
  refine ⟨h1, ?_, fun _ => e.symm⟩
  by_cases q : k = 0
  · rw [q]
    exact (wk_no (fun j j1 j2 w => hm.2 q j j1 j2 ((FM_W hT hn hb hx.2 ⟨by omega, j2⟩ e).mpr w))).symm
  · exact (wk_of ⟨by omega, hk.2⟩ ((FM_W hT hn hb hx.2 hk e).mp (hm.1 (by omega)))).symm
theorem WoP_e {g : Nat → Int} {n a f k b w : Int} (h : WoP g n a f k b w) (hf : f = 0) : b = rnI pSp g n a ∧ k = wk g n (rnI pSp g n a) ∧ (rnI pSp g n a < n → w = rnI pSm g n (rnI pSp g n a)) := by
  obtain ⟨h1, h2, h3⟩ := h.2 hf
  rw [← h1]
  exact ⟨rfl, h2, h3⟩
theorem NuP.hi {g : Nat → Int} {n lo hi lo' hi' a f p v a' f' p' : Int} (h : NuP g n lo hi a f p v a' f' p') (e1 : lo = lo') (e2 : hi = hi') : NuP g n lo' hi' a f p v a' f' p' := by
  subst e1 e2
  exact h
/-- what the words of a clause ask for -/
def clL (nb : Nat → Int) (k : Int) (g : Nat → Int) (n a : Int) : List (Int × Int) :=
  if k = 1 then [(2, 16), (1, 6)]
  else if k = 2 then [(0, nb 0 - 1), (0, nb 1 - 1), (0, 99)]
  else if k = 3 then [(0, nb 0 - 1), (0, nb 1 - 1), (1, 99), (0, 16)]
  else if k = 4 then [(0, nb 0 - 1), (0, 19)]
  else if k = 5 then [(0, nb 0 - 1), (nV g n a, nb 0 - 1)]
  else if k = 6 then [(0, nb 2 - 1), (1, 99)]
  else if k = 9 then [(0, nb 0 - 1), (0, nb 1 - 1), (1, 99), (1, 99)]
  else [(0, nb 0 - 1), (0, nb 1 - 1), (1, 50), (1, 99)]
abbrev v1 (g : Nat → Int) (n a : Int) : Int := nV g n a
abbrev v2 (g : Nat → Int) (n a : Int) : Int := nV g n (nA g n a)
abbrev v3 (g : Nat → Int) (n a : Int) : Int := nV g n (nA g n (nA g n a))
abbrev v4 (g : Nat → Int) (n a : Int) : Int := nV g n (nA g n (nA g n (nA g n a)))
def wkB (nb : Nat → Int) (kd x y b c : Int) : Nat → Int := upz (upz (upz (upz (upz (upz nb (28 + 5 * nb 5) kd) (29 + 5 * nb 5) x) (30 + 5 * nb 5) y) (31 + 5 * nb 5) b) (32 + 5 * nb 5) c) 5 (nb 5 + 1)
/-- the street behind a clause: its counts and what it is told (as the reference keeps them) -/
def clB (nb : Nat → Int) (k : Int) (g : Nat → Int) (n a : Int) : Nat → Int :=
  if k = 1 then upz (upz nb 0 (v1 g n a)) 1 (v2 g n a)
  else if k = 2 then nb
  else if k = 3 then upz (upz (upz (upz nb (6 + 3 * nb 2) (v1 g n a)) (7 + 3 * nb 2) (v2 g n a)) (8 + 3 * nb 2) (v3 g n a)) 2 (nb 2 + 1)
  else if k = 4 then upz nb 3 (nb 3 + 1)
  else if k = 5 then upz (upz (upz nb (24 + 2 * nb 4) (v1 g n a)) (25 + 2 * nb 4) (v2 g n a)) 4 (nb 4 + 1)
  else if k = 6 then wkB nb 0 (v1 g n a) 0 0 (v2 g n a)
  else wkB nb (k - 6) (v1 g n a) (v2 g n a) (v3 g n a) (v4 g n a)
def clT (nb ns : Nat → Int) (k : Int) (g : Nat → Int) (n a : Int) : Nat → Int :=
  if k = 2 then upz ns (16 * v2 g n a + v1 g n a) (v3 g n a)
  else if k = 3 then upz ns (192 + nb 2) (v4 g n a)
  else if k = 4 then upz (upz ns (216 + nb 3) (v1 g n a)) (225 + nb 3) (v2 g n a)
  else ns
/-- a count is full -/
def isFl (nb : Nat → Int) (k : Int) : Prop := (k = 3 ∧ nb 2 = 6) ∨ (k = 4 ∧ nb 3 = 8) ∨ (k = 5 ∧ nb 4 = 2) ∨ (6 ≤ k ∧ k ≤ 9 ∧ nb 5 = 8)
def isFb (nb : Nat → Int) (k : Int) : Bool := decide ((k = 3 ∧ nb 2 = 6) ∨ (k = 4 ∧ nb 3 = 8) ∨ (k = 5 ∧ nb 4 = 2) ∨ (6 ≤ k ∧ k ≤ 9 ∧ nb 5 = 8))
/-- a clause whose word k stands at p: its fault, the fault's place, its end -/
def kF (g : Nat → Int) (n m k p : Int) (nb : Nat → Int) : Int :=
  if ¬ (1 ≤ k ∧ k ≤ 9) then 1 else if m = 60 ∨ isFb nb k = true then 3 else if k = 1 ∧ 0 < m then 4
  else thF (chF g n (clL nb k g n (rnI pSm g n p)) (rnI pSm g n p)) (sgF g n 59 (chA g n (clL nb k g n (rnI pSm g n p)) (rnI pSm g n p)))
def kP (g : Nat → Int) (n m k p : Int) (nb : Nat → Int) : Int :=
  if ¬ (1 ≤ k ∧ k ≤ 9) then p else if m = 60 ∨ isFb nb k = true then p else if k = 1 ∧ 0 < m then p
  else thP (chF g n (clL nb k g n (rnI pSm g n p)) (rnI pSm g n p)) (chP g n (clL nb k g n (rnI pSm g n p)) (rnI pSm g n p)) (rnI pSp g n (chA g n (clL nb k g n (rnI pSm g n p)) (rnI pSm g n p)))
def kA (g : Nat → Int) (n k p : Int) (nb : Nat → Int) : Int := rnI pSp g n (chA g n (clL nb k g n (rnI pSm g n p)) (rnI pSm g n p)) + 1
def cF (g : Nat → Int) (n m a : Int) (nb : Nat → Int) : Int := kF g n m (wk g n (rnI pSp g n a)) (rnI pSp g n a) nb
def cP (g : Nat → Int) (n m a : Int) (nb : Nat → Int) : Int := kP g n m (wk g n (rnI pSp g n a)) (rnI pSp g n a) nb
def cA (g : Nat → Int) (n a : Int) (nb : Nat → Int) : Int := kA g n (wk g n (rnI pSp g n a)) (rnI pSp g n a) nb
def cB (g : Nat → Int) (n a : Int) (nb : Nat → Int) : Nat → Int := clB nb (wk g n (rnI pSp g n a)) g n (rnI pSm g n (rnI pSp g n a))
def cT (g : Nat → Int) (n a : Int) (nb ns : Nat → Int) : Nat → Int := clT nb ns (wk g n (rnI pSp g n a)) g n (rnI pSm g n (rnI pSp g n a))
/-- the street behind m clauses, at a: fault, place, the street -/
def stN (g : Nat → Int) (n : Int) : Nat → Int → Int → (Nat → Int) → (Nat → Int) → (Int × Int) × (Nat → Int) × (Nat → Int)
  | 0, _, _, nb, ns => ((0, -1), nb, ns)
  | d + 1, m, a, nb, ns => if rnI pSp g n a < n then (if cF g n m a nb = 0 then stN g n d (m + 1) (cA g n a nb) (cB g n a nb) (cT g n a nb ns) else ((cF g n m a nb, cP g n m a nb), nb, ns)) else ((0, -1), nb, ns)
def stI (g : Nat → Int) (n m a : Int) (nb ns : Nat → Int) : (Int × Int) × (Nat → Int) × (Nat → Int) := stN g n (61 - m).toNat m a nb ns
def nb0 : Nat → Int := fun j => if j = 0 then 8 else if j = 1 then 3 else 0
def ns0 : Nat → Int := fun j => if j < 96 then 50 else if 353 ≤ j ∧ j < 357 then 1 else 0
/-- what a text says of a street -/
def STV (g : Nat → Int) (n : Int) : (Int × Int) × (Nat → Int) × (Nat → Int) := stI g n 0 0 nb0 ns0
theorem c_id {g : Nat → Int} {n m a : Int} {nb ns : Nat → Int} (h0 : 0 ≤ a) : cF g n m (rnI pSp g n a) nb = cF g n m a nb ∧ cP g n m (rnI pSp g n a) nb = cP g n m a nb ∧ cA g n (rnI pSp g n a) nb = cA g n a nb ∧ cB g n (rnI pSp g n a) nb = cB g n a nb ∧ cT g n (rnI pSp g n a) nb ns = cT g n a nb ns := by
  unfold cF cP cA cB cT
  rw [rnI_id pSp g h0]
  exact ⟨rfl, rfl, rfl, rfl, rfl⟩
theorem kF_60 {g : Nat → Int} {n k p : Int} {nb : Nat → Int} : kF g n 60 k p nb ≠ 0 := by
  unfold kF
  by_cases h : ¬ (1 ≤ k ∧ k ≤ 9)
  · rw [if_pos h]; decide
  · rw [if_neg h, if_pos (Or.inl rfl)]; decide
theorem stI_end {g : Nat → Int} {n m a : Int} {nb ns : Nat → Int} (h : ¬ rnI pSp g n a < n) : stI g n m a nb ns = ((0, -1), nb, ns) := by
  unfold stI
  cases (61 - m).toNat with
  | zero => rfl
  | succ d =>
    show (if rnI pSp g n a < n then _ else _) = _
    rw [if_neg h]
theorem stI_go {g : Nat → Int} {n m a : Int} {nb ns : Nat → Int} (hm : m ≤ 60) (h : rnI pSp g n a < n) : (cF g n m a nb = 0 → stI g n m a nb ns = stI g n (m + 1) (cA g n a nb) (cB g n a nb) (cT g n a nb ns)) ∧ (cF g n m a nb ≠ 0 → stI g n m a nb ns = ((cF g n m a nb, cP g n m a nb), nb, ns)) := by
  unfold stI
  rw [show (61 - m).toNat = (60 - m).toNat + 1 by omega, show (61 - (m + 1)).toNat = (60 - m).toNat by omega]
  constructor
  · intro q
    show (if rnI pSp g n a < n then (if cF g n m a nb = 0 then _ else _) else _) = _
    rw [if_pos h, if_pos q]
  · intro q
    show (if rnI pSp g n a < n then (if cF g n m a nb = 0 then _ else _) else _) = _
    rw [if_pos h, if_neg q]
/-- ahead of clause m: the fault f (at p), or the street so far, tell what the whole text says -/
def StL (g : Nat → Int) (n m a f p : Int) (nb ns : Nat → Int) (V : (Int × Int) × (Nat → Int) × (Nat → Int)) : Prop := (f ≠ 0 → V.1 = (f, p)) ∧ (f = 0 → V = stI g n m a nb ns)
theorem StL_0 {g : Nat → Int} {n : Int} : StL g n 0 0 0 (-1) nb0 ns0 (STV g n) := ⟨fun h => absurd rfl h, fun _ => rfl⟩
theorem StL_go {g : Nat → Int} {n m a f p a1 a2 f2 p2 m1 : Int} {nb ns : Nat → Int} {V : (Int × Int) × (Nat → Int) × (Nat → Int)} (h : StL g n m a f p nb ns V) (hm : 0 ≤ m ∧ m ≤ 60) (h0 : 0 ≤ a) (hf : f = 0) (ha : a1 = rnI pSp g n a) (hn : a1 < n) (hp : RdS (cF g n m a1 nb) (cP g n m a1 nb) (cA g n a1 nb) f p a2 f2 p2) (e : m1 = m + 1) : StL g n m1 a2 f2 p2 (cB g n a1 nb) (cT g n a1 nb ns) V := by
  subst ha e
  obtain ⟨i1, i2, i3, i4, i5⟩ := c_id (g := g) (n := n) (m := m) (nb := nb) (ns := ns) h0
  rw [i1, i2, i3] at hp
  rw [i4, i5]
  have q := stI_go (g := g) (n := n) (m := m) (a := a) (nb := nb) (ns := ns) hm.2 hn
  have hV := h.2 hf
  obtain ⟨e1, e2, e3⟩ := hp.2 hf
  refine ⟨fun w => ?_, fun w => ?_⟩
  · have hc : cF g n m a nb ≠ 0 := by omega
    rw [hV, q.2 hc, e1, e3 hc]
  · have hc : cF g n m a nb = 0 := by omega
    rw [hV, q.1 hc, e2 hc]
theorem StL_end {g : Nat → Int} {n m a f p : Int} {nb ns : Nat → Int} {V : (Int × Int) × (Nat → Int) × (Nat → Int)} (h : StL g n m a f p nb ns V) (hf : f ≠ 0 ∨ ¬ rnI pSp g n a < n) : (f ≠ 0 → V.1 = (f, p)) ∧ (f = 0 → V = ((0, -1), nb, ns)) := by
  refine ⟨h.1, fun q => ?_⟩
  rw [h.2 q, stI_end (hf.resolve_left (fun w => w q))]
/-- the class's street tells what nb, ns tell -/
def DZ (nb : Nat → Int) (wi ro dr dt pe sh wo : Int) : Prop := wi = nb 0 ∧ ro = nb 1 ∧ dr = nb 2 ∧ dt = nb 2 ∧ pe = nb 3 ∧ sh = nb 4 ∧ wo = nb 5
def DH (nb ns : Nat → Int) (hf : Nat → Int32) : Prop := ∀ x y : Int, 0 ≤ x → x < nb 0 → 0 ≤ y → y < nb 1 → nz hf (y * nb 0 + x).toNat = ns (16 * y + x).toNat
def DD (nb ns : Nat → Int) (df : Nat → Int32) : Prop := ∀ k : Int, 0 ≤ k → k < nb 2 → nz df (4 * k).toNat = nb (6 + 3 * k).toNat ∧ nz df (4 * k + 1).toNat = nb (7 + 3 * k).toNat ∧ nz df (4 * k + 2).toNat = nb (8 + 3 * k).toNat ∧ nz df (4 * k + 3).toNat = ns (192 + k).toNat
def DP (nb ns : Nat → Int) (pf : Nat → Int32) : Prop := (∀ k : Int, 0 ≤ k → k < nb 3 → nz pf (4 * k).toNat = ns (216 + k).toNat ∧ nz pf (4 * k + 1).toNat = ns (225 + k).toNat ∧ nz pf (4 * k + 2).toNat = 0 ∧ nz pf (4 * k + 3).toNat = 0)
def DS (nb : Nat → Int) (sf : Nat → Int32) : Prop := ∀ k : Int, 0 ≤ k → k < nb 4 → nz sf (2 * k).toNat = nb (24 + 2 * k).toNat ∧ nz sf (2 * k + 1).toNat = nb (25 + 2 * k).toNat
def DK (nb : Nat → Int) (kf : Nat → Int32) : Prop := ∀ k : Int, 0 ≤ k → k < nb 5 → nz kf (5 * k).toNat = nb (28 + 5 * k).toNat ∧ nz kf (5 * k + 1).toNat = nb (32 + 5 * k).toNat ∧ nz kf (5 * k + 2).toNat = nb (29 + 5 * k).toNat ∧ nz kf (5 * k + 3).toNat = nb (30 + 5 * k).toNat ∧ nz kf (5 * k + 4).toNat = nb (31 + 5 * k).toNat
/-- the reference's counts, and places that no clause touches -/
def DN (nb ns : Nat → Int) : Prop := (2 ≤ nb 0 ∧ nb 0 ≤ 16) ∧ (1 ≤ nb 1 ∧ nb 1 ≤ 6) ∧ (0 ≤ nb 2 ∧ nb 2 ≤ 6) ∧ (0 ≤ nb 3 ∧ nb 3 ≤ 8) ∧ (0 ≤ nb 4 ∧ nb 4 ≤ 2) ∧ (0 ≤ nb 5 ∧ nb 5 ≤ 8) ∧ ∀ j : Nat, (96 ≤ j ∧ j < 192) ∨ (198 ≤ j ∧ j < 216) ∨ 234 ≤ j → ns j = ns0 j
def DRL (nb ns : Nat → Int) (wi ro dr dt pe sh wo : Int) (hf df pf sf kf : Nat → Int32) : Prop := DZ nb wi ro dr dt pe sh wo ∧ DN nb ns ∧ DH nb ns hf ∧ DD nb ns df ∧ DP nb ns pf ∧ DS nb sf ∧ DK nb kf
/-- ahead of the first clause all cells are of one height -/
def DF (ns : Nat → Int) (hf : Nat → Int32) : Prop := (∀ j : Nat, j < 96 → nz hf j = 50) ∧ ∀ j : Nat, j < 96 → ns j = 50
theorem DRL_0 {hf df pf sf kf : Nat → Int32} (h : ∀ j : Nat, j < 96 → nz hf j = 50) : DRL nb0 ns0 8 3 0 0 0 0 0 hf df pf sf kf ∧ DF ns0 hf := by
  have hs : ∀ j : Nat, j < 96 → ns0 j = 50 := fun j hj => if_pos hj
  refine ⟨⟨⟨rfl, rfl, rfl, rfl, rfl, rfl, rfl⟩, ⟨by decide, by decide, by decide, by decide, by decide, by decide, fun j _ => rfl⟩, fun x y hx hx1 hy hy1 => ?_, fun k h0 h1 => absurd h1 (by show ¬ k < 0; omega), fun k h0 h1 => absurd h1 (by show ¬ k < 0; omega), fun k h0 h1 => absurd h1 (by show ¬ k < 0; omega), fun k h0 h1 => absurd h1 (by show ¬ k < 0; omega)⟩, h, hs⟩
  have a : x < 8 := hx1
  have b : y < 3 := hy1
  rw [show nb0 0 = 8 from rfl, h _ (by omega), hs _ (by omega)]
theorem DN_n {nb ns : Nat → Int} (h : DN nb ns) {e v : Int} (he : (0 ≤ e ∧ e < 96) ∨ (192 ≤ e ∧ e < 198) ∨ (216 ≤ e ∧ e < 234)) : ∀ j : Nat, (96 ≤ j ∧ j < 192) ∨ (198 ≤ j ∧ j < 216) ∨ 234 ≤ j → upz ns e v j = ns0 j := fun j hj => by rw [upz_n (by omega)]; exact h.2.2.2.2.2.2 j hj
theorem DRL_size {nb ns : Nat → Int} {wi ro dr dt pe sh wo : Int} {hf df pf sf kf : Nat → Int32} {w d : Int} (h : DRL nb ns wi ro dr dt pe sh wo hf df pf sf kf) (hF : DF ns hf) (hw : 2 ≤ w ∧ w ≤ 16) (hd : 1 ≤ d ∧ d ≤ 6) : DRL (upz (upz nb 0 w) 1 d) ns w d dr dt pe sh wo hf df pf sf kf := by
  obtain ⟨⟨z0, z1, z2, z3, z4, z5, z6⟩, ⟨n0, n1, n2, n3, n4, n5, n6⟩, hH, hD, hP, hS, hK⟩ := h
  have e0 : upz (upz nb 0 w) 1 d 0 = w := by rw [upz_n (by decide), upz_s (by decide)]
  have e1 : upz (upz nb 0 w) 1 d 1 = d := upz_s (by decide)
  have en : ∀ j : Nat, 2 ≤ j → upz (upz nb 0 w) 1 d j = nb j := fun j hj => by rw [upz_n (by omega), upz_n (by omega)]
  refine ⟨⟨e0.symm, e1.symm, by rw [en 2 (by decide)]; exact z2, by rw [en 2 (by decide)]; exact z3, by rw [en 3 (by decide)]; exact z4, by rw [en 4 (by decide)]; exact z5, by rw [en 5 (by decide)]; exact z6⟩, ⟨by rw [e0]; exact hw, by rw [e1]; exact hd, by rw [en 2 (by decide)]; exact n2, by rw [en 3 (by decide)]; exact n3, by rw [en 4 (by decide)]; exact n4, by rw [en 5 (by decide)]; exact n5, n6⟩, ?_, ?_, ?_, ?_, ?_⟩
  · intro x y hx hx1 hy hy1
    rw [e0] at hx1 ⊢
    rw [e1] at hy1
    have hb : y * w ≤ 80 := by
      have a1 : y * w ≤ 5 * w := Int.mul_le_mul_of_nonneg_right (by omega) (by omega)
      omega
    have hb0 : 0 ≤ y * w := Int.mul_nonneg hy (by omega)
    rw [hF.1 _ (by omega), hF.2 _ (by omega)]
  · intro k h0 h1
    rw [en 2 (by decide)] at h1
    rw [en _ (by omega), en _ (by omega), en _ (by omega)]
    exact hD k h0 h1
  · intro k h0 h1
    rw [en 3 (by decide)] at h1
    exact hP k h0 h1
  · intro k h0 h1
    rw [en 4 (by decide)] at h1
    rw [en _ (by omega), en _ (by omega)]
    exact hS k h0 h1
  · intro k h0 h1
    rw [en 5 (by decide)] at h1
    rw [en _ (by omega), en _ (by omega), en _ (by omega), en _ (by omega), en _ (by omega)]
    exact hK k h0 h1
theorem ij_eq {x y a b w : Int} (hx : 0 ≤ x ∧ x < w) (ha : 0 ≤ a ∧ a < w) (h : y * w + x = b * w + a) : x = a ∧ y = b := by
  have h1 : (y * w + x) % w = x := by rw [Int.add_comm, Int.add_mul_emod_self_right]; exact Int.emod_eq_of_lt hx.1 hx.2
  have h2 : (b * w + a) % w = a := by rw [Int.add_comm, Int.add_mul_emod_self_right]; exact Int.emod_eq_of_lt ha.1 ha.2
  rw [h, h2] at h1
  refine ⟨h1.symm, ?_⟩
  have h3 : y * w = b * w := by omega
  exact Int.eq_of_mul_eq_mul_right (by omega) h3
theorem DRL_high {nb ns : Nat → Int} {wi ro dr dt pe sh wo : Int} {hf df pf sf kf : Nat → Int32} {a b c i : Int} {hf1 : Nat → Int32} (h : DRL nb ns wi ro dr dt pe sh wo hf df pf sf kf) (ha : 0 ≤ a ∧ a ≤ nb 0 - 1) (hb : 0 ≤ b ∧ b ≤ nb 1 - 1) (hi : i = b * wi + a) (h1 : nz hf1 = upz (nz hf) i c) : DRL nb (upz ns (16 * b + a) c) wi ro dr dt pe sh wo hf1 df pf sf kf := by
  obtain ⟨hZ, hN, hH, hD, hP, hS, hK⟩ := h
  obtain ⟨n0, n1, n2, n3, n4, n5, n6⟩ := id hN
  have hw : wi = nb 0 := hZ.1
  refine ⟨hZ, ⟨n0, n1, n2, n3, n4, n5, DN_n hN (by omega)⟩, ?_, ?_, ?_, hS, hK⟩
  · intro x y hx hx1 hy hy1
    have p0 : 0 ≤ y * nb 0 := Int.mul_nonneg hy (by omega)
    have p1 : 0 ≤ b * nb 0 := Int.mul_nonneg hb.1 (by omega)
    rw [h1]
    rw [hw] at hi
    by_cases q : x = a ∧ y = b
    · obtain ⟨q1, q2⟩ := q
      subst q1 q2
      rw [upz_s (by omega), upz_s (by omega)]
    · have : y * nb 0 + x ≠ b * nb 0 + a := fun w => q (ij_eq ⟨hx, hx1⟩ ⟨ha.1, by omega⟩ w)
      rw [upz_n (by omega), upz_n (by omega)]
      exact hH x y hx hx1 hy hy1
  · intro k h0 h2
    rw [upz_n (by omega)]
    exact hD k h0 h2
  · intro k h0 h2
    rw [upz_n (by omega), upz_n (by omega)]
    exact hP k h0 h2
theorem DRL_drain {nb ns : Nat → Int} {wi ro dr dt pe sh wo : Int} {hf df pf sf kf : Nat → Int32} {x y r l : Int} {df1 : Nat → Int32} (h : DRL nb ns wi ro dr dt pe sh wo hf df pf sf kf) (h6 : dr < 6) (h1 : nz df1 = upz (upz (upz (upz (nz df) (4 * dr) x) (4 * dr + 1) y) (4 * dr + 2) r) (4 * dr + 3) l) {dr1 dt1 : Int} (e1 : dr1 = dr + 1) (e2 : dt1 = dr + 1) : DRL (upz (upz (upz (upz nb (6 + 3 * nb 2) x) (7 + 3 * nb 2) y) (8 + 3 * nb 2) r) 2 (nb 2 + 1)) (upz ns (192 + nb 2) l) wi ro dr1 dt1 pe sh wo hf df1 pf sf kf := by
  obtain ⟨⟨z0, z1, z2, z3, z4, z5, z6⟩, hN, hH, hD, hP, hS, hK⟩ := h
  obtain ⟨n0, n1, n2, n3, n4, n5, n6⟩ := id hN
  obtain ⟨B, hB⟩ : ∃ B, B = upz (upz (upz (upz nb (6 + 3 * nb 2) x) (7 + 3 * nb 2) y) (8 + 3 * nb 2) r) 2 (nb 2 + 1) := ⟨_, rfl⟩
  rw [← hB]
  have b2 : B 2 = nb 2 + 1 := by rw [hB]; exact upz_s (by decide)
  have bn : ∀ j : Nat, j ≠ 2 → ((j : Int) < 6 + 3 * nb 2 ∨ 8 + 3 * nb 2 < (j : Int)) → B j = nb j := fun j hj hk => by rw [hB, upz_n (by omega), upz_n (by omega), upz_n (by omega), upz_n (by omega)]
  have bx : ∀ j : Nat, (j : Int) = 6 + 3 * nb 2 → B j = x := fun j hj => by rw [hB, upz_n (by omega), upz_n (by omega), upz_n (by omega), upz_s (by omega)]
  have by_ : ∀ j : Nat, (j : Int) = 7 + 3 * nb 2 → B j = y := fun j hj => by rw [hB, upz_n (by omega), upz_n (by omega), upz_s (by omega)]
  have br : ∀ j : Nat, (j : Int) = 8 + 3 * nb 2 → B j = r := fun j hj => by rw [hB, upz_n (by omega), upz_s (by omega)]
  rw [z2] at h1 h6
  have dn : ∀ j : Nat, ((j : Int) < 4 * nb 2 ∨ 4 * nb 2 + 3 < (j : Int)) → nz df1 j = nz df j := fun j hj => by rw [h1, upz_n (by omega), upz_n (by omega), upz_n (by omega), upz_n (by omega)]
  have d0 : ∀ j : Nat, (j : Int) = 4 * nb 2 → nz df1 j = x := fun j hj => by rw [h1, upz_n (by omega), upz_n (by omega), upz_n (by omega), upz_s (by omega)]
  have d1 : ∀ j : Nat, (j : Int) = 4 * nb 2 + 1 → nz df1 j = y := fun j hj => by rw [h1, upz_n (by omega), upz_n (by omega), upz_s (by omega)]
  have d2 : ∀ j : Nat, (j : Int) = 4 * nb 2 + 2 → nz df1 j = r := fun j hj => by rw [h1, upz_n (by omega), upz_s (by omega)]
  have d3 : ∀ j : Nat, (j : Int) = 4 * nb 2 + 3 → nz df1 j = l := fun j hj => by rw [h1, upz_s (by omega)]
  have c0 := bn 0 (by decide) (by omega)
  have c1 := bn 1 (by decide) (by omega)
  have c3 := bn 3 (by decide) (by omega)
  have c4 := bn 4 (by decide) (by omega)
  have c5 := bn 5 (by decide) (by omega)
  refine ⟨⟨by omega, by omega, by omega, by omega, by omega, by omega, by omega⟩, ⟨by omega, by omega, by omega, by omega, by omega, by omega, DN_n hN (by omega)⟩, ?_, ?_, ?_, ?_, ?_⟩
  · intro x' y' hx hx1 hy hy1
    rw [c0] at hx1 ⊢
    rw [c1] at hy1
    rw [upz_n (by omega)]
    exact hH x' y' hx hx1 hy hy1
  · intro k h0 h2
    rw [b2] at h2
    by_cases q : k = nb 2
    · subst q
      rw [d0 _ (by omega), d1 _ (by omega), d2 _ (by omega), d3 _ (by omega), bx _ (by omega), by_ _ (by omega), br _ (by omega), upz_s (by omega)]
      exact ⟨rfl, rfl, rfl, rfl⟩
    · rw [dn _ (by omega), dn _ (by omega), dn _ (by omega), dn _ (by omega), bn _ (by omega) (by omega), bn _ (by omega) (by omega), bn _ (by omega) (by omega), upz_n (by omega)]
      exact hD k h0 (by omega)
  · intro k h0 h2
    rw [c3] at h2
    rw [upz_n (by omega), upz_n (by omega)]
    exact hP k h0 h2
  · intro k h0 h2
    rw [c4] at h2
    rw [bn _ (by omega) (by omega), bn _ (by omega) (by omega)]
    exact hS k h0 h2
  · intro k h0 h2
    rw [c5] at h2
    rw [bn _ (by omega) (by omega), bn _ (by omega) (by omega), bn _ (by omega) (by omega), bn _ (by omega) (by omega), bn _ (by omega) (by omega)]
    exact hK k h0 h2
theorem DRL_person {nb ns : Nat → Int} {wi ro dr dt pe sh wo : Int} {hf df pf sf kf : Nat → Int32} {x f : Int} {pf1 : Nat → Int32} (h : DRL nb ns wi ro dr dt pe sh wo hf df pf sf kf) (h8 : pe < 8) (h1 : nz pf1 = upz (upz (upz (upz (nz pf) (4 * pe) x) (4 * pe + 1) f) (4 * pe + 2) 0) (4 * pe + 3) 0) {pe1 : Int} (e1 : pe1 = pe + 1) : DRL (upz nb 3 (nb 3 + 1)) (upz (upz ns (216 + nb 3) x) (225 + nb 3) f) wi ro dr dt pe1 sh wo hf df pf1 sf kf := by
  obtain ⟨⟨z0, z1, z2, z3, z4, z5, z6⟩, hN, hH, hD, hP, hS, hK⟩ := h
  obtain ⟨n0, n1, n2, n3, n4, n5, n6⟩ := id hN
  have b3 : upz nb 3 (nb 3 + 1) 3 = nb 3 + 1 := upz_s (by decide)
  have bn : ∀ j : Nat, j ≠ 3 → upz nb 3 (nb 3 + 1) j = nb j := fun j hj => upz_n (by omega)
  rw [z4] at h1 h8
  have dn : ∀ j : Nat, ((j : Int) < 4 * nb 3 ∨ 4 * nb 3 + 3 < (j : Int)) → nz pf1 j = nz pf j := fun j hj => by rw [h1, upz_n (by omega), upz_n (by omega), upz_n (by omega), upz_n (by omega)]
  have d0 : ∀ j : Nat, (j : Int) = 4 * nb 3 → nz pf1 j = x := fun j hj => by rw [h1, upz_n (by omega), upz_n (by omega), upz_n (by omega), upz_s (by omega)]
  have d1 : ∀ j : Nat, (j : Int) = 4 * nb 3 + 1 → nz pf1 j = f := fun j hj => by rw [h1, upz_n (by omega), upz_n (by omega), upz_s (by omega)]
  have d2 : ∀ j : Nat, (j : Int) = 4 * nb 3 + 2 → nz pf1 j = 0 := fun j hj => by rw [h1, upz_n (by omega), upz_s (by omega)]
  have d3 : ∀ j : Nat, (j : Int) = 4 * nb 3 + 3 → nz pf1 j = 0 := fun j hj => by rw [h1, upz_s (by omega)]
  have c0 := bn 0 (by decide)
  have c1 := bn 1 (by decide)
  have c2 := bn 2 (by decide)
  have c4 := bn 4 (by decide)
  have c5 := bn 5 (by decide)
  have hN2 : DN nb (upz ns (216 + nb 3) x) := ⟨n0, n1, n2, n3, n4, n5, DN_n hN (by omega)⟩
  refine ⟨⟨by omega, by omega, by omega, by omega, by omega, by omega, by omega⟩, ⟨by omega, by omega, by omega, by omega, by omega, by omega, DN_n hN2 (by omega)⟩, ?_, ?_, ?_, ?_, ?_⟩
  · intro x' y' hx hx1 hy hy1
    rw [c0] at hx1 ⊢
    rw [c1] at hy1
    rw [upz_n (by omega), upz_n (by omega)]
    exact hH x' y' hx hx1 hy hy1
  · intro k h0 h2
    rw [c2] at h2
    rw [bn _ (by omega), bn _ (by omega), bn _ (by omega), upz_n (by omega), upz_n (by omega)]
    exact hD k h0 h2
  · intro k h0 h2
    rw [b3] at h2
    by_cases q : k = nb 3
    · subst q
      rw [d0 _ (by omega), d1 _ (by omega), d2 _ (by omega), d3 _ (by omega), upz_n (by omega), upz_s (by omega), upz_s (by omega)]
      exact ⟨rfl, rfl, rfl, rfl⟩
    · rw [dn _ (by omega), dn _ (by omega), dn _ (by omega), dn _ (by omega), upz_n (by omega), upz_n (by omega), upz_n (by omega), upz_n (by omega)]
      exact hP k h0 (by omega)
  · intro k h0 h2
    rw [c4] at h2
    rw [bn _ (by omega), bn _ (by omega)]
    exact hS k h0 h2
  · intro k h0 h2
    rw [c5] at h2
    rw [bn _ (by omega), bn _ (by omega), bn _ (by omega), bn _ (by omega), bn _ (by omega)]
    exact hK k h0 h2
theorem DRL_shelter {nb ns : Nat → Int} {wi ro dr dt pe sh wo : Int} {hf df pf sf kf : Nat → Int32} {x y : Int} {sf1 : Nat → Int32} (h : DRL nb ns wi ro dr dt pe sh wo hf df pf sf kf) (h2 : sh < 2) (h1 : nz sf1 = upz (upz (nz sf) (2 * sh) x) (2 * sh + 1) y) {sh1 : Int} (e1 : sh1 = sh + 1) : DRL (upz (upz (upz nb (24 + 2 * nb 4) x) (25 + 2 * nb 4) y) 4 (nb 4 + 1)) ns wi ro dr dt pe sh1 wo hf df pf sf1 kf := by
  obtain ⟨⟨z0, z1, z2, z3, z4, z5, z6⟩, hN, hH, hD, hP, hS, hK⟩ := h
  obtain ⟨n0, n1, n2, n3, n4, n5, n6⟩ := id hN
  obtain ⟨B, hB⟩ : ∃ B, B = upz (upz (upz nb (24 + 2 * nb 4) x) (25 + 2 * nb 4) y) 4 (nb 4 + 1) := ⟨_, rfl⟩
  rw [← hB]
  have b4 : B 4 = nb 4 + 1 := by rw [hB]; exact upz_s (by decide)
  have bn : ∀ j : Nat, j ≠ 4 → ((j : Int) < 24 + 2 * nb 4 ∨ 25 + 2 * nb 4 < (j : Int)) → B j = nb j := fun j hj hk => by rw [hB, upz_n (by omega), upz_n (by omega), upz_n (by omega)]
  have bx : ∀ j : Nat, (j : Int) = 24 + 2 * nb 4 → B j = x := fun j hj => by rw [hB, upz_n (by omega), upz_n (by omega), upz_s (by omega)]
  have by_ : ∀ j : Nat, (j : Int) = 25 + 2 * nb 4 → B j = y := fun j hj => by rw [hB, upz_n (by omega), upz_s (by omega)]
  rw [z5] at h1 h2
  have dn : ∀ j : Nat, ((j : Int) < 2 * nb 4 ∨ 2 * nb 4 + 1 < (j : Int)) → nz sf1 j = nz sf j := fun j hj => by rw [h1, upz_n (by omega), upz_n (by omega)]
  have d0 : ∀ j : Nat, (j : Int) = 2 * nb 4 → nz sf1 j = x := fun j hj => by rw [h1, upz_n (by omega), upz_s (by omega)]
  have d1 : ∀ j : Nat, (j : Int) = 2 * nb 4 + 1 → nz sf1 j = y := fun j hj => by rw [h1, upz_s (by omega)]
  have c0 := bn 0 (by decide) (by omega)
  have c1 := bn 1 (by decide) (by omega)
  have c2 := bn 2 (by decide) (by omega)
  have c3 := bn 3 (by decide) (by omega)
  have c5 := bn 5 (by decide) (by omega)
  refine ⟨⟨by omega, by omega, by omega, by omega, by omega, by omega, by omega⟩, ⟨by omega, by omega, by omega, by omega, by omega, by omega, n6⟩, ?_, ?_, ?_, ?_, ?_⟩
  · intro x' y' hx hx1 hy hy1
    rw [c0] at hx1 ⊢
    rw [c1] at hy1
    exact hH x' y' hx hx1 hy hy1
  · intro k h0 h3
    rw [c2] at h3
    rw [bn _ (by omega) (by omega), bn _ (by omega) (by omega), bn _ (by omega) (by omega)]
    exact hD k h0 h3
  · intro k h0 h3
    rw [c3] at h3
    exact hP k h0 h3
  · intro k h0 h3
    rw [b4] at h3
    by_cases q : k = nb 4
    · subst q
      rw [d0 _ (by omega), d1 _ (by omega), bx _ (by omega), by_ _ (by omega)]
      exact ⟨rfl, rfl⟩
    · rw [dn _ (by omega), dn _ (by omega), bn _ (by omega) (by omega), bn _ (by omega) (by omega)]
      exact hS k h0 (by omega)
  · intro k h0 h3
    rw [c5] at h3
    rw [bn _ (by omega) (by omega), bn _ (by omega) (by omega), bn _ (by omega) (by omega), bn _ (by omega) (by omega), bn _ (by omega) (by omega)]
    exact hK k h0 h3
theorem DRL_work {nb ns : Nat → Int} {wi ro dr dt pe sh wo : Int} {hf df pf sf kf : Nat → Int32} {kd x y b c : Int} {kf1 : Nat → Int32} (h : DRL nb ns wi ro dr dt pe sh wo hf df pf sf kf) (h8 : wo < 8) (h1 : nz kf1 = upz (upz (upz (upz (upz (nz kf) (5 * wo) kd) (5 * wo + 1) c) (5 * wo + 2) x) (5 * wo + 3) y) (5 * wo + 4) b) {wo1 : Int} (e1 : wo1 = wo + 1) : DRL (wkB nb kd x y b c) ns wi ro dr dt pe sh wo1 hf df pf sf kf1 := by
  obtain ⟨⟨z0, z1, z2, z3, z4, z5, z6⟩, hN, hH, hD, hP, hS, hK⟩ := h
  obtain ⟨n0, n1, n2, n3, n4, n5, n6⟩ := id hN
  obtain ⟨B, hB⟩ : ∃ B, B = wkB nb kd x y b c := ⟨_, rfl⟩
  rw [← hB]
  unfold wkB at hB
  have b5 : B 5 = nb 5 + 1 := by rw [hB]; exact upz_s (by decide)
  have bn : ∀ j : Nat, j ≠ 5 → ((j : Int) < 28 + 5 * nb 5 ∨ 32 + 5 * nb 5 < (j : Int)) → B j = nb j := fun j hj hk => by rw [hB, upz_n (by omega), upz_n (by omega), upz_n (by omega), upz_n (by omega), upz_n (by omega), upz_n (by omega)]
  have bk : ∀ j : Nat, (j : Int) = 28 + 5 * nb 5 → B j = kd := fun j hj => by rw [hB, upz_n (by omega), upz_n (by omega), upz_n (by omega), upz_n (by omega), upz_n (by omega), upz_s (by omega)]
  have bx : ∀ j : Nat, (j : Int) = 29 + 5 * nb 5 → B j = x := fun j hj => by rw [hB, upz_n (by omega), upz_n (by omega), upz_n (by omega), upz_n (by omega), upz_s (by omega)]
  have by_ : ∀ j : Nat, (j : Int) = 30 + 5 * nb 5 → B j = y := fun j hj => by rw [hB, upz_n (by omega), upz_n (by omega), upz_n (by omega), upz_s (by omega)]
  have bb : ∀ j : Nat, (j : Int) = 31 + 5 * nb 5 → B j = b := fun j hj => by rw [hB, upz_n (by omega), upz_n (by omega), upz_s (by omega)]
  have bc : ∀ j : Nat, (j : Int) = 32 + 5 * nb 5 → B j = c := fun j hj => by rw [hB, upz_n (by omega), upz_s (by omega)]
  rw [z6] at h1 h8
  have dn : ∀ j : Nat, ((j : Int) < 5 * nb 5 ∨ 5 * nb 5 + 4 < (j : Int)) → nz kf1 j = nz kf j := fun j hj => by rw [h1, upz_n (by omega), upz_n (by omega), upz_n (by omega), upz_n (by omega), upz_n (by omega)]
  have d0 : ∀ j : Nat, (j : Int) = 5 * nb 5 → nz kf1 j = kd := fun j hj => by rw [h1, upz_n (by omega), upz_n (by omega), upz_n (by omega), upz_n (by omega), upz_s (by omega)]
  have d1 : ∀ j : Nat, (j : Int) = 5 * nb 5 + 1 → nz kf1 j = c := fun j hj => by rw [h1, upz_n (by omega), upz_n (by omega), upz_n (by omega), upz_s (by omega)]
  have d2 : ∀ j : Nat, (j : Int) = 5 * nb 5 + 2 → nz kf1 j = x := fun j hj => by rw [h1, upz_n (by omega), upz_n (by omega), upz_s (by omega)]
  have d3 : ∀ j : Nat, (j : Int) = 5 * nb 5 + 3 → nz kf1 j = y := fun j hj => by rw [h1, upz_n (by omega), upz_s (by omega)]
  have d4 : ∀ j : Nat, (j : Int) = 5 * nb 5 + 4 → nz kf1 j = b := fun j hj => by rw [h1, upz_s (by omega)]
  have c0 := bn 0 (by decide) (by omega)
  have c1 := bn 1 (by decide) (by omega)
  have c2 := bn 2 (by decide) (by omega)
  have c3 := bn 3 (by decide) (by omega)
  have c4 := bn 4 (by decide) (by omega)
  refine ⟨⟨by omega, by omega, by omega, by omega, by omega, by omega, by omega⟩, ⟨by omega, by omega, by omega, by omega, by omega, by omega, n6⟩, ?_, ?_, ?_, ?_, ?_⟩
  · intro x' y' hx hx1 hy hy1
    rw [c0] at hx1 ⊢
    rw [c1] at hy1
    exact hH x' y' hx hx1 hy hy1
  · intro k h0 h3
    rw [c2] at h3
    rw [bn _ (by omega) (by omega), bn _ (by omega) (by omega), bn _ (by omega) (by omega)]
    exact hD k h0 h3
  · intro k h0 h3
    rw [c3] at h3
    exact hP k h0 h3
  · intro k h0 h3
    rw [c4] at h3
    rw [bn _ (by omega) (by omega), bn _ (by omega) (by omega)]
    exact hS k h0 h3
  · intro k h0 h3
    rw [b5] at h3
    by_cases q : k = nb 5
    · subst q
      rw [d0 _ (by omega), d1 _ (by omega), d2 _ (by omega), d3 _ (by omega), d4 _ (by omega), bk _ (by omega), bc _ (by omega), bx _ (by omega), by_ _ (by omega), bb _ (by omega)]
      exact ⟨rfl, rfl, rfl, rfl, rfl⟩
    · rw [dn _ (by omega), dn _ (by omega), dn _ (by omega), dn _ (by omega), dn _ (by omega), bn _ (by omega) (by omega), bn _ (by omega) (by omega), bn _ (by omega) (by omega), bn _ (by omega) (by omega), bn _ (by omega) (by omega)]
      exact hK k h0 (by omega)
