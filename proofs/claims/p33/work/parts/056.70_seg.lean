/-- a step from height d to height q -/
def st_ok (w v : Int32) (d q : Nat) : Prop :=
  (w = iI 0 ∧ q = d + 1) ∨ (w = iI 1 ∧ (∃ z : Int, v = iI z ∧ 0 ≤ z ∧ z ≤ 6) ∧ q = d + 1) ∨ (w = iI 9 ∧ 1 ≤ d ∧ q = d) ∨ (w = iI 12 ∧ 3 ≤ d ∧ q + 2 = d) ∨ ((∃ z : Int, w = iI z ∧ 2 ≤ z ∧ z ≤ 11 ∧ z ≠ 9) ∧ 2 ≤ d ∧ q + 1 = d)
theorem st_up {w v : Int32} {d q : Nat} (h : st_ok w v d q) (x : Nat) : st_ok w v (d + x) (q + x) := by
  rcases h with ⟨h1, h2⟩ | ⟨h1, h2, h3⟩ | ⟨h1, h2, h3⟩ | ⟨h1, h2, h3⟩ | ⟨h1, h2, h3⟩
  · exact Or.inl ⟨h1, by omega⟩
  · exact Or.inr (Or.inl ⟨h1, h2, by omega⟩)
  · exact Or.inr (Or.inr (Or.inl ⟨h1, by omega, by omega⟩))
  · exact Or.inr (Or.inr (Or.inr (Or.inl ⟨h1, by omega, by omega⟩)))
  · exact Or.inr (Or.inr (Or.inr (Or.inr ⟨h1, by omega, by omega⟩)))
/-- what a step's number says of the heights -/
theorem st_case {w v : Int32} {d q : Nat} (h : st_ok w v d q) {z : Int} (hw : w = iI z) (hr : -2147483648 ≤ z ∧ z ≤ 2147483647) : (z = 0 ∧ q = d + 1) ∨ (z = 1 ∧ q = d + 1) ∨ (z = 9 ∧ 1 ≤ d ∧ q = d) ∨ (z = 12 ∧ 3 ≤ d ∧ q + 2 = d) ∨ (2 ≤ z ∧ z ≤ 11 ∧ z ≠ 9 ∧ 2 ≤ d ∧ q + 1 = d) := by
  rcases h with ⟨h1, h2⟩ | ⟨h1, h2, h3⟩ | ⟨h1, h2, h3⟩ | ⟨h1, h2, h3⟩ | ⟨⟨y, h1, h4, h5, h6⟩, h2, h3⟩
  · have := (iI_eq hr (by omega)).mp (hw.symm.trans h1); omega
  · have := (iI_eq hr (by omega)).mp (hw.symm.trans h1); omega
  · have := (iI_eq hr (by omega)).mp (hw.symm.trans h1); omega
  · have := (iI_eq hr (by omega)).mp (hw.symm.trans h1); omega
  · have := (iI_eq hr (by omega)).mp (hw.symm.trans h1); omega
theorem st_name {w v : Int32} {d q : Nat} (h : st_ok w v d q) (hw : w = iI 1) {z : Int} (hv : v = iI z) (hr : -2147483648 ≤ z ∧ z ≤ 2147483647) : 0 ≤ z ∧ z ≤ 6 := by
  rcases h with ⟨h1, h2⟩ | ⟨h1, ⟨y, h2, h4⟩, h3⟩ | ⟨h1, h2, h3⟩ | ⟨h1, h2, h3⟩ | ⟨⟨y, h1, h4, h5, h6⟩, h2, h3⟩
  · have := (iI_eq (by omega) (by omega)).mp (hw.symm.trans h1); omega
  · have := (iI_eq hr (by omega)).mp (hv.symm.trans h2); omega
  · have := (iI_eq (by omega) (by omega)).mp (hw.symm.trans h1); omega
  · have := (iI_eq (by omega) (by omega)).mp (hw.symm.trans h1); omega
  · have := (iI_eq (by omega) (by omega)).mp (hw.symm.trans h1); omega
/-- steps a to b lead from height x to height y -/
def Seg (f g : Nat → Int32) (a b x y : Nat) : Prop := a ≤ b ∧ ∃ dep : Nat → Nat, dep a = x ∧ dep b = y ∧ ∀ k : Nat, a ≤ k → k < b → st_ok (f k) (g k) (dep k) (dep (k + 1))
theorem Seg.nil (f g : Nat → Int32) (a x : Nat) : Seg f g a a x x := ⟨Nat.le_refl a, fun _ => x, rfl, rfl, fun k h1 h2 => absurd h1 (by omega)⟩
theorem Seg.cat {f g : Nat → Int32} {a b r x y z : Nat} (h1 : Seg f g a b x y) (h2 : Seg f g b r y z) : Seg f g a r x z := by
  obtain ⟨l1, d1, p1, p2, p3⟩ := h1
  obtain ⟨l2, d2, q1, q2, q3⟩ := h2
  refine ⟨Nat.le_trans l1 l2, fun k => if k ≤ b then d1 k else d2 k, ?_, ?_, fun k h3 h4 => ?_⟩
  · show (if a ≤ b then d1 a else d2 a) = x
    rw [if_pos l1]; exact p1
  · show (if r ≤ b then d1 r else d2 r) = z
    by_cases e : r ≤ b
    · have : r = b := Nat.le_antisymm e l2
      subst this
      rw [if_pos e, p2, ← q1, q2]
    · rw [if_neg e]; exact q2
  · show st_ok (f k) (g k) (if k ≤ b then d1 k else d2 k) (if k + 1 ≤ b then d1 (k + 1) else d2 (k + 1))
    by_cases e : k + 1 ≤ b
    · rw [if_pos (by omega), if_pos e]; exact p3 k h3 (by omega)
    · rw [if_neg e]
      by_cases e2 : k ≤ b
      · have : k = b := by omega
        subst this
        rw [if_pos e2, p2, ← q1]
        exact q3 k (Nat.le_refl k) h4
      · rw [if_neg e2]; exact q3 k (by omega) h4
theorem Seg.up {f g : Nat → Int32} {a b x y : Nat} (h : Seg f g a b x y) (n : Nat) : Seg f g a b (x + n) (y + n) := by
  obtain ⟨l, d, p1, p2, p3⟩ := h
  exact ⟨l, fun k => d k + n, by rw [← p1], by rw [← p2], fun k h1 h2 => st_up (p3 k h1 h2) n⟩
theorem Seg.one {f g : Nat → Int32} {a x y : Nat} (h : st_ok (f a) (g a) x y) : Seg f g a (a + 1) x y := by
  refine ⟨Nat.le_succ a, fun k => if k = a then x else y, if_pos rfl, if_neg (by omega), fun k h1 h2 => ?_⟩
  have : k = a := by omega
  subst this
  show st_ok (f k) (g k) (if k = k then x else y) (if k + 1 = k then x else y)
  rw [if_pos rfl, if_neg (by omega)]
  exact h
theorem Seg.ext {f g f1 g1 : Nat → Int32} {a b x y : Nat} (h : Seg f g a b x y) (hf : ∀ k : Nat, k < b → f1 k = f k ∧ g1 k = g k) : Seg f1 g1 a b x y := by
  obtain ⟨l, d, p1, p2, p3⟩ := h
  refine ⟨l, d, p1, p2, fun k h1 h2 => ?_⟩
  rw [(hf k h2).1, (hf k h2).2]
  exact p3 k h1 h2
/-- places below n are as they were -/
def Ag (f g f1 g1 : Nat → Int32) (n : Int) : Prop := ∀ k : Nat, (k : Int) < n → f1 k = f k ∧ g1 k = g k
theorem Ag.rf (f g : Nat → Int32) (n : Int) : Ag f g f g n := fun _ _ => ⟨rfl, rfl⟩
theorem Ag.tr {f g f1 g1 f2 g2 : Nat → Int32} {n n2 : Int} (h : Ag f g f1 g1 n) (h2 : Ag f1 g1 f2 g2 n2) (hn : n ≤ n2) : Ag f g f2 g2 n := fun k hk => by
  obtain ⟨a, b⟩ := h k hk
  obtain ⟨a2, b2⟩ := h2 k (by omega)
  exact ⟨a2.trans a, b2.trans b⟩
theorem Ag.wr {f g f1 g1 : Nat → Int32} {n e : Int} {x y : Int32} (h : Ag f g f1 g1 n) (he : n ≤ e ∧ 0 ≤ e) : Ag f g (upd f1 e.toNat x) (upd g1 e.toNat y) n := fun k hk => by
  rw [pk_un (by omega), pk_un (by omega)]
  exact h k hk
theorem Seg.ag {f g f1 g1 : Nat → Int32} {a b x y : Nat} {n : Int} (h : Seg f g a b x y) (hg : Ag f g f1 g1 n) (hb : (b : Int) ≤ n) : Seg f1 g1 a b x y := h.ext (fun k hk => hg k (by omega))
/-- what a push, and what an operation, does to a row of steps -/
theorem Seg.num {f g : Nat → Int32} {e : Int} {v : Int32} (he : 0 ≤ e) : Seg (upd f e.toNat (iI 0)) (upd g e.toNat v) e.toNat (e + 1).toNat 0 1 := by
  rw [show (e + 1).toNat = e.toNat + 1 by omega]
  exact Seg.one (by rw [pk_us, pk_us]; exact Or.inl ⟨rfl, rfl⟩)
theorem Seg.nam {f g : Nat → Int32} {e v : Int} (he : 0 ≤ e) (hv : 0 ≤ v ∧ v ≤ 6) : Seg (upd f e.toNat (iI 1)) (upd g e.toNat (iI v)) e.toNat (e + 1).toNat 0 1 := by
  rw [show (e + 1).toNat = e.toNat + 1 by omega]
  exact Seg.one (by rw [pk_us, pk_us]; exact Or.inr (Or.inl ⟨rfl, ⟨v, rfl, hv⟩, rfl⟩))
theorem Seg.op {f g : Nat → Int32} {a e w : Int} {v : Int32} (h : Seg f g a.toNat e.toNat 0 2) (he : 0 ≤ a ∧ a ≤ e) (hw : 2 ≤ w ∧ w ≤ 11 ∧ w ≠ 9) : Seg (upd f e.toNat (iI w)) (upd g e.toNat v) a.toNat (e + 1).toNat 0 1 := by
  rw [show (e + 1).toNat = e.toNat + 1 by omega]
  exact (h.ext (fun k hk => by rw [pk_un (by omega), pk_un (by omega)]; exact ⟨rfl, rfl⟩)).cat (Seg.one (by rw [pk_us, pk_us]; exact Or.inr (Or.inr (Or.inr (Or.inr ⟨⟨w, rfl, hw⟩, by decide, rfl⟩)))))
theorem Seg.neg {f g : Nat → Int32} {a e : Int} {v : Int32} (h : Seg f g a.toNat e.toNat 0 1) (he : 0 ≤ a ∧ a ≤ e) : Seg (upd f e.toNat (iI 9)) (upd g e.toNat v) a.toNat (e + 1).toNat 0 1 := by
  rw [show (e + 1).toNat = e.toNat + 1 by omega]
  exact (h.ext (fun k hk => by rw [pk_un (by omega), pk_un (by omega)]; exact ⟨rfl, rfl⟩)).cat (Seg.one (by rw [pk_us, pk_us]; exact Or.inr (Or.inr (Or.inl ⟨rfl, by decide, rfl⟩))))
theorem Seg.cho {f g : Nat → Int32} {a e : Int} {v : Int32} (h : Seg f g a.toNat e.toNat 0 3) (he : 0 ≤ a ∧ a ≤ e) : Seg (upd f e.toNat (iI 12)) (upd g e.toNat v) a.toNat (e + 1).toNat 0 1 := by
  rw [show (e + 1).toNat = e.toNat + 1 by omega]
  exact (h.ext (fun k hk => by rw [pk_un (by omega), pk_un (by omega)]; exact ⟨rfl, rfl⟩)).cat (Seg.one (by rw [pk_us, pk_us]; exact Or.inr (Or.inr (Or.inr (Or.inl ⟨rfl, by decide, rfl⟩)))))
/-- one more value behind those that stand -/
theorem Seg.two {f g f1 g1 : Nat → Int32} {a b r n : Int} {x : Nat} (h : Seg f g a.toNat b.toNat 0 x) (hg : Ag f g f1 g1 n) (hn : b ≤ n ∧ 0 ≤ b) (h2 : Seg f1 g1 b.toNat r.toNat 0 1) : Seg f1 g1 a.toNat r.toNat 0 (x + 1) := by
  have h3 := h2.up x
  rw [Nat.zero_add, Nat.add_comm 1 x] at h3
  exact (h.ag hg (by omega)).cat h3
/-- the laws that are told: their steps -/
def LI (nl : Int) (f g fr to : Nat → Int32) : Prop := ∀ i : Nat, (i : Int) < 5 * nl → (nz to i ≤ nz fr i) ∨ (0 ≤ nz fr i ∧ nz fr i ≤ nz to i ∧ nz to i ≤ 620 * nl ∧ nz to i - nz fr i ≤ 610 ∧ Seg f g (nz fr i).toNat (nz to i).toNat 0 1)
theorem LI.up {nl : Int} {f g fr to f1 g1 fr1 to1 : Nat → Int32} (h : LI nl f g fr to) (hg : Ag f g f1 g1 (620 * nl)) (hr : ∀ k : Nat, (k : Int) < 5 * nl → nz fr1 k = nz fr k ∧ nz to1 k = nz to k) : LI nl f1 g1 fr1 to1 := by
  intro i hi
  obtain ⟨e1, e2⟩ := hr i hi
  rw [e1, e2]
  rcases h i hi with h1 | ⟨h1, h2, h3, h4, h5⟩
  · exact Or.inl h1
  · exact Or.inr ⟨h1, h2, h3, h4, h5.ag hg (by omega)⟩
theorem LI.more {nl : Int} {f g fr to : Nat → Int32} (h : LI nl f g fr to) (h5 : ∀ k : Nat, 5 * nl ≤ (k : Int) → (k : Int) < 5 * nl + 5 → (nz to k ≤ nz fr k) ∨ (0 ≤ nz fr k ∧ nz fr k ≤ nz to k ∧ nz to k ≤ 620 * nl + 620 ∧ nz to k - nz fr k ≤ 610 ∧ Seg f g (nz fr k).toNat (nz to k).toNat 0 1)) : LI (nl + 1) f g fr to := by
  intro i hi
  by_cases q : (i : Int) < 5 * nl
  · rcases h i q with h1 | ⟨h1, h2, h3, h4, h5⟩
    · exact Or.inl h1
    · exact Or.inr ⟨h1, h2, by omega, h4, h5⟩
  · rcases h5 i (by omega) (by omega) with h1 | ⟨h1, h2, h3, h4, h5⟩
    · exact Or.inl h1
    · exact Or.inr ⟨h1, h2, by omega, h4, h5⟩
/-- the law that is read now -/
def CUR (nl qs : Int) (f g fr to : Nat → Int32) : Prop := ∀ k : Nat, 5 * nl ≤ (k : Int) → (k : Int) < 5 * nl + 5 → (nz to k ≤ nz fr k) ∨ (620 * nl ≤ nz fr k ∧ nz fr k ≤ nz to k ∧ nz to k ≤ 620 * nl + qs ∧ Seg f g (nz fr k).toNat (nz to k).toNat 0 1)
theorem CUR.zero {nl qs : Int} {f g fr to : Nat → Int32} (h : ∀ k : Nat, 5 * nl ≤ (k : Int) → (k : Int) < 5 * nl + 5 → nz to k = 0 ∧ nz fr k = 0) : CUR nl qs f g fr to := fun k h1 h2 => Or.inl (by have := h k h1 h2; omega)
theorem CUR.step {nl qs q2 e x y : Int} {f g fr to f1 g1 fr1 to1 : Nat → Int32} (h : CUR nl qs f g fr to) (ha : Ag f g f1 g1 (620 * nl + qs)) (hs : Seg f1 g1 (620 * nl + qs).toNat (620 * nl + q2).toNat 0 1) (hn : 0 ≤ nl ∧ nl ≤ 3) (hq : 0 ≤ qs ∧ qs ≤ q2 ∧ q2 ≤ 610) (he : 5 * nl ≤ e ∧ e < 5 * nl + 5) (d1 : fr1 = upd fr (iI e).toNatClampNeg (iI x)) (hx : x = 620 * nl + qs) (d2 : to1 = upd to (iI e).toNatClampNeg (iI y)) (hy : y = 620 * nl + q2) : CUR nl q2 f1 g1 fr1 to1 := by
  intro k h1 h2
  by_cases q : (k : Int) = e
  · rw [nz_us d1 (by omega) (by omega) q, nz_us d2 (by omega) (by omega) q, hx, hy]
    exact Or.inr ⟨by omega, by omega, by omega, hs⟩
  · rw [nz_un d1 (by omega) q, nz_un d2 (by omega) q]
    rcases h k h1 h2 with h3 | ⟨h3, h4, h5, h6⟩
    · exact Or.inl h3
    · exact Or.inr ⟨h3, h4, by omega, h6.ag ha (by omega)⟩
theorem LI.set {nl e x y : Int} {f g fr to fr1 to1 : Nat → Int32} (h : LI nl f g fr to) (he : 5 * nl ≤ e ∧ 0 ≤ e ∧ e ≤ 100) (d1 : fr1 = upd fr (iI e).toNatClampNeg (iI x)) (d2 : to1 = upd to (iI e).toNatClampNeg (iI y)) : LI nl f g fr1 to1 :=
  h.up (Ag.rf f g _) (fun k hk => ⟨nz_un d1 (by omega) (by omega), nz_un d2 (by omega) (by omega)⟩)
theorem zz_st {nl q e1 e2 q1 : Int} {fr to fr1 to1 : Nat → Int32} (h : ∀ k : Nat, 5 * nl ≤ (k : Int) → (k : Int) < 5 * nl + q → nz to k = 0 ∧ nz fr k = 0) (hn : 0 ≤ nl ∧ nl ≤ 3) (hq : 0 ≤ q ∧ q < 5) (d1 : fr1 = upd fr (iI e1).toNatClampNeg (iI 0)) (h1 : e1 = 5 * nl + q) (d2 : to1 = upd to (iI e2).toNatClampNeg (iI 0)) (h2 : e2 = 5 * nl + q) (h3 : q1 = q + 1) : ∀ k : Nat, 5 * nl ≤ (k : Int) → (k : Int) < 5 * nl + q1 → nz to1 k = 0 ∧ nz fr1 k = 0 := by
  intro k a b
  by_cases w : (k : Int) = 5 * nl + q
  · exact ⟨nz_us d2 (by omega) (by omega) (by omega), nz_us d1 (by omega) (by omega) (by omega)⟩
  · rw [nz_un d2 (by omega) (by omega), nz_un d1 (by omega) (by omega)]
    exact h k a (by omega)
theorem LI.set2 {nl e1 e2 x y : Int} {f g fr to fr1 to1 : Nat → Int32} (h : LI nl f g fr to) (he : 5 * nl ≤ e1 ∧ 0 ≤ e1 ∧ e1 ≤ 100) (he2 : e2 = e1) (d1 : fr1 = upd fr (iI e1).toNatClampNeg (iI x)) (d2 : to1 = upd to (iI e2).toNatClampNeg (iI y)) : LI nl f g fr1 to1 := by
  subst he2
  exact h.set he d1 d2
theorem LI.agr {nl qs : Int} {f g f1 g1 fr to : Nat → Int32} (h : LI nl f g fr to) (ha : Ag f g f1 g1 (620 * nl + qs)) (hq : 0 ≤ qs) : LI nl f1 g1 fr to := h.up (fun k hk => ha k (by omega)) (fun _ _ => ⟨rfl, rfl⟩)
theorem LI.cur {nl qs : Int} {f g fr to : Nat → Int32} (h : LI nl f g fr to) (hc : CUR nl qs f g fr to) (hn : 0 ≤ nl) (hq : 0 ≤ qs ∧ qs ≤ 610) : LI (nl + 1) f g fr to :=
  h.more (fun k h1 h2 => by
    rcases hc k h1 h2 with h3 | ⟨h3, h4, h5, h6⟩
    · exact Or.inl h3
    · exact Or.inr ⟨by omega, h4, by omega, by omega, h6⟩)
