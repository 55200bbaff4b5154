
/-- the days of a set, of the first n dips -/
def dyS (D : Nat → Int) (m : Int) : Nat → Int
  | 0 => 0
  | k + 1 => dyS D m k + (if bt m k = iI 1 then D (3 * k + 1) else 0)
/-- what dip k weighs behind the set m, but for what comes behind it -/
def Yc (D : Nat → Int) (n : Nat) (m k : Int) : Int := if 0 ≤ k ∧ k < n then D (3 * k.toNat) * dyS D (so m k).toInt n + (if D (3 * k.toNat + 2) < dyS D (so m k).toInt n then 1000000 else 0) else 0
def Wt (Y : Int → Int → Int) (B : Nat → Int) (m k : Int) : Int := Y m k + B (so m k).toInt.toNat
/-- the first lightest of the first n dips that are not in m, and its weight (-1: none) -/
def bnN (Y : Int → Int → Int) (B : Nat → Int) (m : Int) : Nat → Int × Int
  | 0 => (-1, -1)
  | k + 1 => if bt m k = iI 1 then bnN Y B m k else if (bnN Y B m k).1 = -1 ∨ Wt Y B m k < (bnN Y B m k).2 then ((k : Int), Wt Y B m k) else bnN Y B m k
/-- the table behind i steps down from all -/
def tb (Y : Int → Int → Int) (n : Nat) : Nat → Nat → Int
  | 0 => fun _ => 0
  | i + 1 => fun j => if j + i + 2 = 2 ^ n then (bnN Y (tb Y n i) (j : Int) n).2 else tb Y n i j
def TB (Y : Int → Int → Int) (n : Nat) : Nat → Int := tb Y n (2 ^ n - 1)
/-- set and order behind i turns -/
def ptN (Y : Int → Int → Int) (n : Nat) : Nat → Int × Int
  | 0 => (0, 0)
  | i + 1 => ((so (ptN Y n i).1 (bnN Y (TB Y n) (ptN Y n i).1 n).1).toInt, 10 * (ptN Y n i).2 + (bnN Y (TB Y n) (ptN Y n i).1 n).1)
/-- the dips' numbers are in range -/
def DPR (D : Nat → Int) (n : Nat) : Prop := ∀ k : Nat, k < n → (0 ≤ D (3 * k) ∧ D (3 * k) ≤ 99) ∧ (0 ≤ D (3 * k + 1) ∧ D (3 * k + 1) ≤ 30) ∧ 0 ≤ D (3 * k + 2) ∧ D (3 * k + 2) ≤ 99
theorem dyS_cg {D D1 : Nat → Int} {m : Int} : ∀ n : Nat, (∀ j : Nat, j < 3 * n → D1 j = D j) → dyS D1 m n = dyS D m n
  | 0, _ => rfl
  | n + 1, h => by
    show dyS D1 m n + (if bt m n = iI 1 then D1 (3 * n + 1) else 0) = dyS D m n + (if bt m n = iI 1 then D (3 * n + 1) else 0)
    rw [dyS_cg n (fun j hj => h j (by omega)), h (3 * n + 1) (by omega)]
theorem Yc_cg {D D1 : Nat → Int} {n : Nat} (h : ∀ j : Nat, j < 3 * n → D1 j = D j) : Yc D1 n = Yc D n := by
  funext m k
  unfold Yc
  by_cases c : 0 ≤ k ∧ k < n
  · rw [if_pos c, if_pos c, dyS_cg n h, h _ (by omega), h _ (by omega)]
  · rw [if_neg c, if_neg c]
theorem dyS_r {D : Nat → Int} {m : Int} : ∀ n : Nat, DPR D n → 0 ≤ dyS D m n ∧ dyS D m n ≤ 30 * (n : Int)
  | 0, _ => by show (0 : Int) ≤ 0 ∧ (0 : Int) ≤ 30 * ((0 : Nat) : Int); omega
  | n + 1, h => by
    have a := dyS_r (m := m) n (fun k hk => h k (by omega))
    have b := (h n (by omega)).2.1
    show 0 ≤ dyS D m n + (if bt m n = iI 1 then D (3 * n + 1) else 0) ∧ dyS D m n + (if bt m n = iI 1 then D (3 * n + 1) else 0) ≤ 30 * ((n + 1 : Nat) : Int)
    split <;> omega
theorem Yc_r {D : Nat → Int} {n : Nat} {m k : Int} (h : DPR D n) (hn : n ≤ 9) : 0 ≤ Yc D n m k ∧ Yc D n m k ≤ 1026730 := by
  unfold Yc
  by_cases c : 0 ≤ k ∧ k < n
  · rw [if_pos c]
    have a := dyS_r (m := (so m k).toInt) n h
    have b := (h k.toNat (by omega)).1
    have q1 : 0 ≤ D (3 * k.toNat) * dyS D (so m k).toInt n := Int.mul_nonneg b.1 a.1
    have q2 : D (3 * k.toNat) * dyS D (so m k).toInt n ≤ 99 * 270 := Int.mul_le_mul b.2 (by omega) a.1 (by decide)
    split <;> omega
  · rw [if_neg c]; omega
/-- how many of nine are not in m -/
def zb9 (m : Nat) : Nat := ((List.range 9).filter (fun k : Nat => !(bt (m : Int) (k : Int) == iI 1))).length
theorem zb_so : ∀ k : Fin 9, ∀ a : Fin 512, ¬ bt (a.1 : Int) (k.1 : Int) = iI 1 → zb9 (so (a.1 : Int) (k.1 : Int)).toInt.toNat + 1 = zb9 a.1 := by decide +kernel
theorem zb_all : ∀ n : Fin 10, ∀ a : Fin 512, a.1 < 2 ^ n.1 → (zb9 a.1 + n.1 = 9 ↔ a.1 + 1 = 2 ^ n.1) ∧ 9 ≤ zb9 a.1 + n.1 := by decide +kernel
theorem zb_i {a k : Int} (ha : 0 ≤ a ∧ a ≤ 511) (hk : 0 ≤ k ∧ k ≤ 8) (hb : ¬ bt a k = iI 1) : zb9 (so a k).toInt.toNat + 1 = zb9 a.toNat := by
  obtain ⟨n, rfl⟩ := Int.eq_ofNat_of_zero_le ha.1
  obtain ⟨q, rfl⟩ := Int.eq_ofNat_of_zero_le hk.1
  exact zb_so ⟨q, by omega⟩ ⟨n, by omega⟩ hb
/-- what the first lightest is -/
theorem bnN_s {Y : Int → Int → Int} {B : Nat → Int} {m : Int} : ∀ n : Nat, ((bnN Y B m n).1 = -1 ∧ ∀ k : Nat, k < n → bt m k = iI 1) ∨ (0 ≤ (bnN Y B m n).1 ∧ (bnN Y B m n).1 < n ∧ ¬ bt m (bnN Y B m n).1 = iI 1 ∧ (bnN Y B m n).2 = Wt Y B m (bnN Y B m n).1 ∧ (∀ k : Nat, (k : Int) < (bnN Y B m n).1 → ¬ bt m k = iI 1 → (bnN Y B m n).2 < Wt Y B m k) ∧ ∀ k : Nat, k < n → ¬ bt m k = iI 1 → (bnN Y B m n).2 ≤ Wt Y B m k)
  | 0 => Or.inl ⟨rfl, fun k hk => absurd hk (Nat.not_lt_zero k)⟩
  | n + 1 => by
    have ih := bnN_s (Y := Y) (B := B) (m := m) n
    have e : bnN Y B m (n + 1) = if bt m n = iI 1 then bnN Y B m n else if (bnN Y B m n).1 = -1 ∨ Wt Y B m n < (bnN Y B m n).2 then ((n : Int), Wt Y B m n) else bnN Y B m n := rfl
    by_cases c : bt m n = iI 1
    · rw [e, if_pos c]
      rcases ih with ⟨a1, a2⟩ | ⟨a1, a2, a3, a4, a5, a6⟩
      · refine Or.inl ⟨a1, fun k hk => ?_⟩
        by_cases q : k = n
        · rw [q]; exact c
        · exact a2 k (by omega)
      · refine Or.inr ⟨a1, by omega, a3, a4, a5, fun k hk hb => ?_⟩
        by_cases q : k = n
        · rw [q] at hb; exact absurd c hb
        · exact a6 k (by omega) hb
    · rw [e, if_neg c]
      by_cases w : (bnN Y B m n).1 = -1 ∨ Wt Y B m n < (bnN Y B m n).2
      · rw [if_pos w]
        refine Or.inr ⟨by show (0 : Int) ≤ (n : Int); omega, by show (n : Int) < ((n + 1 : Nat) : Int); omega, c, rfl, fun k hk hb => ?_, fun k hk hb => ?_⟩
        · have hk' : (k : Int) < (n : Int) := hk
          show Wt Y B m n < Wt Y B m k
          rcases ih with ⟨a1, a2⟩ | ⟨a1, a2, a3, a4, a5, a6⟩
          · exact absurd (a2 k (by omega)) hb
          · have := a6 k (by omega) hb
            rcases w with w | w
            · omega
            · omega
        · show Wt Y B m n ≤ Wt Y B m k
          by_cases q : k = n
          · rw [q]; exact Int.le_refl _
          · rcases ih with ⟨a1, a2⟩ | ⟨a1, a2, a3, a4, a5, a6⟩
            · exact absurd (a2 k (by omega)) hb
            · have := a6 k (by omega) hb
              rcases w with w | w
              · omega
              · omega
      · rw [if_neg w]
        rcases ih with ⟨a1, a2⟩ | ⟨a1, a2, a3, a4, a5, a6⟩
        · exact absurd (Or.inl a1) w
        · refine Or.inr ⟨a1, by omega, a3, a4, a5, fun k hk hb => ?_⟩
          by_cases q : k = n
          · rw [q]
            by_cases w1 : Wt Y B m n < (bnN Y B m n).2
            · exact absurd (Or.inr w1) w
            · omega
          · exact a6 k (by omega) hb
/-- the table's numbers: none is below 0, none too large -/
theorem tb_r {D : Nat → Int} {n : Nat} (h : DPR D n) (hn : n ≤ 9) : ∀ i : Nat, i < 2 ^ n → ∀ j : Nat, 2 ^ n ≤ j + i + 1 → j < 2 ^ n → 0 ≤ tb (Yc D n) n i j ∧ tb (Yc D n) n i j ≤ 1026730 * (zb9 j : Int)
  | 0, _, j, _, _ => by show (0 : Int) ≤ 0 ∧ (0 : Int) ≤ 1026730 * (zb9 j : Int); omega
  | i + 1, hi, j, h1, h2 => by
    have ih := tb_r h hn i (by omega)
    have p9 : 2 ^ n ≤ 2 ^ 9 := Nat.pow_le_pow_right (by decide) hn
    have p9' : (2 ^ 9 : Nat) = 512 := by decide
    show 0 ≤ (if j + i + 2 = 2 ^ n then (bnN (Yc D n) (tb (Yc D n) n i) (j : Int) n).2 else tb (Yc D n) n i j) ∧ (if j + i + 2 = 2 ^ n then (bnN (Yc D n) (tb (Yc D n) n i) (j : Int) n).2 else tb (Yc D n) n i j) ≤ 1026730 * (zb9 j : Int)
    by_cases c : j + i + 2 = 2 ^ n
    · rw [if_pos c]
      obtain ⟨k, k1, k2⟩ := so_2 ⟨n, by omega⟩ ⟨j, by omega⟩ (by show j + 1 < 2 ^ n; omega)
      rcases bnN_s (Y := Yc D n) (B := tb (Yc D n) n i) (m := (j : Int)) n with ⟨a1, a2⟩ | ⟨a1, a2, a3, a4, a5, a6⟩
      · exact absurd (a2 k.1 k1) k2
      · rw [a4]
        generalize hx : (bnN (Yc D n) (tb (Yc D n) n i) (j : Int) n).1 = x at a1 a2 a3
        obtain ⟨x, rfl⟩ := Int.eq_ofNat_of_zero_le a1
        have s1 := so_1 ⟨x, by omega⟩ ⟨j, by omega⟩ a3
        have s2 : (so (j : Int) (x : Int)).toInt < ((2 ^ n : Nat) : Int) := s1.2 ⟨n, by omega⟩ (by show x < n; omega) (by show j < 2 ^ n; omega)
        have s3 : (j : Int) < (so (j : Int) (x : Int)).toInt := s1.1
        have s4 := zb_i (a := (j : Int)) (k := (x : Int)) (by omega) (by omega) a3
        have y := Yc_r (m := (j : Int)) (k := (x : Int)) h hn
        have z := ih (so (j : Int) (x : Int)).toInt.toNat (by omega) (by omega)
        rw [show ((j : Int)).toNat = j by omega] at s4
        unfold Wt
        omega
    · rw [if_neg c]
      exact ih j (by omega) h2
/-- steps further down leave what stands above as it was -/
theorem tb_st {Y : Int → Int → Int} {n : Nat} : ∀ e i j : Nat, 2 ^ n ≤ j + i + 1 → tb Y n (i + e) j = tb Y n i j
  | 0, _, _, _ => rfl
  | e + 1, i, j, h => by
    show (if j + (i + e) + 2 = 2 ^ n then _ else tb Y n (i + e) j) = _
    rw [if_neg (by omega)]
    exact tb_st e i j h
theorem so_b {a k : Int} {n : Nat} (ha : 0 ≤ a) (hn : n ≤ 9) (h : a < ((2 ^ n : Nat) : Int)) (hk : 0 ≤ k ∧ k < n) (hb : ¬ bt a k = iI 1) : a < (so a k).toInt ∧ (so a k).toInt < ((2 ^ n : Nat) : Int) := by
  have p9 : 2 ^ n ≤ 2 ^ 9 := Nat.pow_le_pow_right (by decide) hn
  have p9' : (2 ^ 9 : Nat) = 512 := by decide
  obtain ⟨q, rfl⟩ := Int.eq_ofNat_of_zero_le hk.1
  obtain ⟨a, rfl⟩ := Int.eq_ofNat_of_zero_le ha
  have s1 := so_1 ⟨q, by omega⟩ ⟨a, by omega⟩ hb
  exact ⟨s1.1, s1.2 ⟨n, by omega⟩ (by show q < n; omega) (by show a < 2 ^ n; omega)⟩
theorem dyS_1 {D : Nat → Int} {m q q1 x x1 y z4 z5 T : Int} (h : x = dyS D m q.toNat) (hq : 0 ≤ q) (e4 : iI m >>> (iI q &&& 31) = iI z4) (e5 : iI z4 &&& iI 1 = iI z5) (h5 : z5 = 1) (ey : y = D T.toNat) (hT : T = 3 * q + 1) (hx : x1 = x + y) (h1 : q1 = q + 1) : x1 = dyS D m q1.toNat := by
  rw [show q1.toNat = q.toNat + 1 by omega]
  show x1 = dyS D m q.toNat + (if bt m (q.toNat : Nat) = iI 1 then D (3 * q.toNat + 1) else 0)
  rw [show ((q.toNat : Nat) : Int) = q by omega, bt_e e4 e5, h5, if_pos rfl, ← h, hx, ey, show T.toNat = 3 * q.toNat + 1 by omega]
theorem dyS_0 {D : Nat → Int} {m q q1 x z4 z5 : Int} (h : x = dyS D m q.toNat) (hq : 0 ≤ q) (e4 : iI m >>> (iI q &&& 31) = iI z4) (e5 : iI z4 &&& iI 1 = iI z5) (h5 : z5 = 0) (h1 : q1 = q + 1) : x = dyS D m q1.toNat := by
  rw [show q1.toNat = q.toNat + 1 by omega]
  show x = dyS D m q.toNat + (if bt m (q.toNat : Nat) = iI 1 then D (3 * q.toNat + 1) else 0)
  rw [show ((q.toNat : Nat) : Int) = q by omega, bt_e e4 e5, h5, if_neg (by decide), ← h]
  omega
/-- what a dip weighs, as it is worked out -/
theorem wg_e {D B : Nat → Int} {n : Nat} {m k z dd w dl y v p T1 T2 T3 : Int} (hk : 0 ≤ k ∧ k < n) (hz : z = (so m k).toInt) (hdd : dd = dyS D z n) (ew : w = D T1.toNat) (h1 : T1 = 3 * k) (el : dl = D T2.toNat) (h2 : T2 = 3 * k + 2) (ey : y = B T3.toNat) (h3 : T3 = z) (hp : p = w * dd) (hv : (dl < dd ∧ v = p + y + 1000000) ∨ (dd ≤ dl ∧ v = p + y)) : v = Wt (Yc D n) B m k := by
  unfold Wt Yc
  rw [if_pos hk, ← hz, ← hdd, show 3 * k.toNat = T1.toNat by omega, ← ew]
  rw [show D (T1.toNat + 2) = dl by rw [el]; congr 1; omega, ← h3, ← ey, ← hp]
  rcases hv with ⟨c, e⟩ | ⟨c, e⟩
  · rw [if_pos c]; omega
  · rw [if_neg (by omega)]; omega
/-- while the lightest is looked for: a, b: the class's dip and weight -/
def BNs (Y : Int → Int → Int) (B : Nat → Int) (m q a b : Int) : Prop := a = (bnN Y B m q.toNat).1 ∧ (a = -1 → b = 2147483647) ∧ (a ≠ -1 → b = (bnN Y B m q.toNat).2)
theorem bnN_su {Y : Int → Int → Int} {B : Nat → Int} {m q q1 : Int} (hq : 0 ≤ q) (h1 : q1 = q + 1) : bnN Y B m q1.toNat = if bt m q = iI 1 then bnN Y B m q.toNat else if (bnN Y B m q.toNat).1 = -1 ∨ Wt Y B m q < (bnN Y B m q.toNat).2 then (q, Wt Y B m q) else bnN Y B m q.toNat := by
  rw [show q1.toNat = q.toNat + 1 by omega]
  show (if bt m (q.toNat : Nat) = iI 1 then _ else if (bnN Y B m q.toNat).1 = -1 ∨ Wt Y B m (q.toNat : Nat) < (bnN Y B m q.toNat).2 then (((q.toNat : Nat) : Int), Wt Y B m (q.toNat : Nat)) else _) = _
  rw [show ((q.toNat : Nat) : Int) = q by omega]
theorem BNs_0 {Y : Int → Int → Int} {B : Nat → Int} {m : Int} : BNs Y B m 0 (-1) 2147483647 := ⟨rfl, fun _ => rfl, fun h => absurd rfl h⟩
theorem BNs_s {Y : Int → Int → Int} {B : Nat → Int} {m q q1 a b : Int} (h : BNs Y B m q a b) (hq : 0 ≤ q) (h1 : q1 = q + 1) (hb : bt m q = iI 1) : BNs Y B m q1 a b := by
  unfold BNs
  rw [bnN_su hq h1, if_pos hb]; exact h
theorem BNs_l {Y : Int → Int → Int} {B : Nat → Int} {m q q1 a b w : Int} (h : BNs Y B m q a b) (hq : 0 ≤ q) (h1 : q1 = q + 1) (hb : ¬ bt m q = iI 1) (hw : w = Wt Y B m q) (hl : w < b) : BNs Y B m q1 q w := by
  obtain ⟨e1, e2, e3⟩ := h
  unfold BNs
  rw [bnN_su hq h1, if_neg hb, if_pos (by by_cases c : a = -1; (exact Or.inl (e1.symm.trans c)); (have := e3 c; exact Or.inr (by omega)))]
  exact ⟨rfl, fun c => by omega, fun _ => hw⟩
theorem BNs_n {Y : Int → Int → Int} {B : Nat → Int} {m q q1 a b w : Int} (h : BNs Y B m q a b) (hq : 0 ≤ q) (h1 : q1 = q + 1) (hb : ¬ bt m q = iI 1) (hw : w = Wt Y B m q) (hl : ¬ w < b) (hm : w < 2147483647) : BNs Y B m q1 a b := by
  obtain ⟨e1, e2, e3⟩ := h
  have c : a ≠ -1 := fun c => by have := e2 c; omega
  have e4 := e3 c
  unfold BNs
  rw [bnN_su hq h1, if_neg hb, if_neg (by intro w1; rcases w1 with w1 | w1; (exact c (e1.trans w1)); omega)]
  exact ⟨e1, e2, e3⟩
theorem rm_e {x z : Int} (hx : 0 ≤ x ∧ x ≤ 2147483647) (hz : -2147483648 ≤ z ∧ z ≤ 2147483647) (e : iI x - iI x / iI 1000000 * iI 1000000 = iI z) : z = x % 1000000 := by
  rw [dv_eq hx (by decide)] at e
  have e1 : iI (x - x / 1000000 * 1000000) = iI z := ((Int32.ofInt_sub _ _).trans (congrArg (fun q => iI x - q) (Int32.ofInt_mul _ _))).trans e
  have e2 := (iI_eq (a := x - x / 1000000 * 1000000) (b := z) (by omega) (by omega)).mp e1
  omega
/-- tables that are the same behind m weigh the same -/
theorem bnN_cg {Y : Int → Int → Int} {B B1 : Nat → Int} {m : Int} : ∀ n : Nat, (∀ k : Nat, k < n → ¬ bt m (k : Int) = iI 1 → B1 (so m (k : Int)).toInt.toNat = B (so m (k : Int)).toInt.toNat) → bnN Y B1 m n = bnN Y B m n
  | 0, _ => rfl
  | n + 1, h => by
    have ih := bnN_cg (Y := Y) (B := B) (B1 := B1) (m := m) n (fun k hk hb => h k (by omega) hb)
    show (if bt m n = iI 1 then bnN Y B1 m n else if (bnN Y B1 m n).1 = -1 ∨ Wt Y B1 m n < (bnN Y B1 m n).2 then ((n : Int), Wt Y B1 m n) else bnN Y B1 m n) = (if bt m n = iI 1 then bnN Y B m n else if (bnN Y B m n).1 = -1 ∨ Wt Y B m n < (bnN Y B m n).2 then ((n : Int), Wt Y B m n) else bnN Y B m n)
    by_cases c : bt m n = iI 1
    · rw [if_pos c, if_pos c]; exact ih
    · have e : Wt Y B1 m n = Wt Y B m n := by unfold Wt; rw [h n (by omega) c]
      rw [if_neg c, if_neg c, ih, e]
/-- the table f stands from q on -/
def TBS (Y : Int → Int → Int) (n : Nat) (q : Int) (f : Nat → Int32) : Prop := ∀ j : Nat, q < (j : Int) → j < 2 ^ n → nz f j = tb Y n (((2 ^ n : Nat) : Int) - 2 - q).toNat j
theorem TBS_0 {Y : Int → Int → Int} {n : Nat} {q a : Int} {f f1 : Nat → Int32} (hd : f1 = upd f (iI a).toNatClampNeg (iI 0)) (ha : 0 ≤ a ∧ a ≤ 2147483647) (e : a = ((2 ^ n : Nat) : Int) - 1) (hq : q = a - 1) : TBS Y n q f1 := by
  intro j h1 h2
  rw [show (((2 ^ n : Nat) : Int) - 2 - q).toNat = 0 by omega]
  exact nz_us hd ha (by decide) (by omega)
theorem TBS.cg {Y : Int → Int → Int} {n : Nat} {q m : Int} {f : Nat → Int32} {B : Nat → Int} (h : ∀ j : Nat, m < (j : Int) → j < 2 ^ n → nz f j = B j) (hn : n ≤ 9) (hm : 0 ≤ m ∧ m < ((2 ^ n : Nat) : Int)) : bnN Y (nz f) m n = bnN Y B m n := by
  refine bnN_cg n (fun k hk hb => ?_)
  have s := so_b (a := m) (k := (k : Int)) (n := n) hm.1 hn hm.2 ⟨by omega, by omega⟩ hb
  exact h _ (by omega) (by omega)
theorem TBS.bn {Y : Int → Int → Int} {n : Nat} {q : Int} {f : Nat → Int32} (h : TBS Y n q f) (hn : n ≤ 9) (hq : 0 ≤ q ∧ q < ((2 ^ n : Nat) : Int)) : bnN Y (nz f) q n = bnN Y (tb Y n (((2 ^ n : Nat) : Int) - 2 - q).toNat) q n := TBS.cg (q := q) h hn hq
theorem TBS.b {D : Nat → Int} {n : Nat} {q m : Int} {f : Nat → Int32} (h : TBS (Yc D n) n q f) (hd : DPR D n) (hn : n ≤ 9) (hq : -1 ≤ q) (hm : q ≤ m) : ∀ j : Nat, m < (j : Int) → (j : Int) < ((2 ^ n : Nat) : Int) → 0 ≤ nz f j ∧ nz f j ≤ 9240570 := by
  intro j h1 h2
  rw [h j (by omega) (by omega)]
  have p1 : 0 < 2 ^ n := Nat.pow_pos (by decide)
  have a := tb_r hd hn (((2 ^ n : Nat) : Int) - 2 - q).toNat (by omega) j (by omega) (by omega)
  have z : zb9 j ≤ 9 := by
    have := List.length_filter_le (fun k : Nat => !(bt (j : Int) (k : Int) == iI 1)) (List.range 9)
    rw [List.length_range] at this
    exact this
  omega
/-- the first lightest that is not in m is there, unless m holds all -/
theorem bn_in {Y : Int → Int → Int} {B : Nat → Int} {m : Int} {n : Nat} (hn : n ≤ 9) (hm : 0 ≤ m) (h : m + 1 < ((2 ^ n : Nat) : Int)) : 0 ≤ (bnN Y B m n).1 ∧ (bnN Y B m n).1 < n ∧ ¬ bt m (bnN Y B m n).1 = iI 1 ∧ (bnN Y B m n).2 = Wt Y B m (bnN Y B m n).1 := by
  obtain ⟨a, rfl⟩ := Int.eq_ofNat_of_zero_le hm
  have p9 : 2 ^ n ≤ 2 ^ 9 := Nat.pow_le_pow_right (by decide) hn
  have p9' : (2 ^ 9 : Nat) = 512 := by decide
  obtain ⟨k, k1, k2⟩ := so_2 ⟨n, by omega⟩ ⟨a, by omega⟩ (by show a + 1 < 2 ^ n; omega)
  rcases bnN_s (Y := Y) (B := B) (m := (a : Int)) n with ⟨a1, a2⟩ | ⟨a1, a2, a3, a4, a5, a6⟩
  · exact absurd (a2 k.1 k1) k2
  · exact ⟨a1, a2, a3, a4⟩
theorem TBS_s {Y : Int → Int → Int} {n : Nat} {q q1 v nx : Int} {f f1 : Nat → Int32} (h : TBS Y n q f) (hn : n ≤ 9) (hq : 0 ≤ q ∧ q + 2 ≤ ((2 ^ n : Nat) : Int)) (hd : f1 = upd f (iI q).toNatClampNeg (iI v)) (hq2 : q ≤ 2147483647) (hv : -2147483648 ≤ v ∧ v ≤ 2147483647) (ev : v = Wt Y (nz f) q nx) (en : nx = (bnN Y (nz f) q n).1) (h1 : q1 = q - 1) : TBS Y n q1 f1 := by
  have e0 := (bn_in (Y := Y) (B := nz f) hn hq.1 (by omega)).2.2.2
  rw [← en, ← ev] at e0
  have e1 := h.bn hn ⟨hq.1, by omega⟩
  intro j a b
  rw [show (((2 ^ n : Nat) : Int) - 2 - q1).toNat = (((2 ^ n : Nat) : Int) - 2 - q).toNat + 1 by omega]
  show nz f1 j = if j + (((2 ^ n : Nat) : Int) - 2 - q).toNat + 2 = 2 ^ n then (bnN Y (tb Y n (((2 ^ n : Nat) : Int) - 2 - q).toNat) (j : Int) n).2 else tb Y n (((2 ^ n : Nat) : Int) - 2 - q).toNat j
  by_cases c : (j : Int) = q
  · rw [if_pos (by omega), nz_us hd ⟨hq.1, hq2⟩ hv c, c, ← e1, e0]
  · rw [if_neg (by omega), nz_un hd ⟨hq.1, hq2⟩ c]
    exact h j (by omega) b
theorem TBS.all {Y : Int → Int → Int} {n : Nat} {f : Nat → Int32} (h : TBS Y n (-1) f) {j : Nat} (hj : j < 2 ^ n) : nz f j = TB Y n j := by
  have a := h j (by omega) hj
  rw [show (((2 ^ n : Nat) : Int) - 2 - -1).toNat = 2 ^ n - 1 by omega] at a
  exact a
theorem TBS.nx {Y : Int → Int → Int} {n : Nat} {f : Nat → Int32} {m : Int} (h : TBS Y n (-1) f) (hn : n ≤ 9) (hm : 0 ≤ m ∧ m < ((2 ^ n : Nat) : Int)) : bnN Y (nz f) m n = bnN Y (TB Y n) m n := TBS.cg (q := m) (fun _ _ b => h.all b) hn hm
/-- what the table says is what its first lightest weighs -/
theorem TB_bn {Y : Int → Int → Int} {n : Nat} (hn : n ≤ 9) {m : Int} (hm : 0 ≤ m) (h : m + 1 < ((2 ^ n : Nat) : Int)) : TB Y n m.toNat = (bnN Y (TB Y n) m n).2 := by
  obtain ⟨a, rfl⟩ := Int.eq_ofNat_of_zero_le hm
  have e1 : TB Y n a = tb Y n (2 ^ n - 2 - a + 1) a := by
    unfold TB
    rw [show 2 ^ n - 1 = (2 ^ n - 2 - a + 1) + a by omega]
    exact tb_st a _ a (by omega)
  have e2 : tb Y n (2 ^ n - 2 - a + 1) a = (bnN Y (tb Y n (2 ^ n - 2 - a)) (a : Int) n).2 := if_pos (by omega)
  rw [show ((a : Int)).toNat = a by omega, e1, e2]
  congr 1
  refine (bnN_cg n (fun k hk hb => ?_)).symm
  have s := so_b (a := (a : Int)) (k := (k : Int)) (n := n) (by omega) hn (by omega) ⟨by omega, by omega⟩ hb
  unfold TB
  rw [show 2 ^ n - 1 = (2 ^ n - 2 - a) + (a + 1) by omega]
  exact tb_st (a + 1) _ _ (by omega)
/-- the set behind i turns holds i dips -/
theorem ptN_r {Y : Int → Int → Int} {n : Nat} (hn : n ≤ 9) : ∀ i : Nat, i ≤ n → 0 ≤ (ptN Y n i).1 ∧ (ptN Y n i).1 < ((2 ^ n : Nat) : Int) ∧ zb9 (ptN Y n i).1.toNat + i = 9 ∧ 0 ≤ (ptN Y n i).2 ∧ (ptN Y n i).2 < ((10 ^ i : Nat) : Int)
  | 0, _ => by
    have p1 : 0 < 2 ^ n := Nat.pow_pos (by decide)
    exact ⟨Int.le_refl _, by show (0 : Int) < ((2 ^ n : Nat) : Int); omega, by show zb9 ((0 : Int).toNat) + 0 = 9; decide +kernel, Int.le_refl _, by show (0 : Int) < ((10 ^ 0 : Nat) : Int); decide⟩
  | i + 1, hi => by
    obtain ⟨a1, a2, a3, a4, a5⟩ := ptN_r (Y := Y) hn i (by omega)
    have p9 : 2 ^ n ≤ 2 ^ 9 := Nat.pow_le_pow_right (by decide) hn
    have p9' : (2 ^ 9 : Nat) = 512 := by decide
    show 0 ≤ (so (ptN Y n i).1 (bnN Y (TB Y n) (ptN Y n i).1 n).1).toInt ∧ (so (ptN Y n i).1 (bnN Y (TB Y n) (ptN Y n i).1 n).1).toInt < ((2 ^ n : Nat) : Int) ∧ zb9 (so (ptN Y n i).1 (bnN Y (TB Y n) (ptN Y n i).1 n).1).toInt.toNat + (i + 1) = 9 ∧ 0 ≤ 10 * (ptN Y n i).2 + (bnN Y (TB Y n) (ptN Y n i).1 n).1 ∧ 10 * (ptN Y n i).2 + (bnN Y (TB Y n) (ptN Y n i).1 n).1 < ((10 ^ (i + 1) : Nat) : Int)
    generalize (ptN Y n i).1 = m at a1 a2 a3 ⊢
    generalize (ptN Y n i).2 = d at a4 a5 ⊢
    obtain ⟨x, rfl⟩ := Int.eq_ofNat_of_zero_le a1
    have z1 := zb_all ⟨n, by omega⟩ ⟨x, by omega⟩ (by show x < 2 ^ n; omega)
    have z2 : zb9 x + i = 9 := a3
    have z3 : zb9 x + n = 9 ↔ x + 1 = 2 ^ n := z1.1
    have hx : x + 1 < 2 ^ n := by
      have : x + 1 ≠ 2 ^ n := fun c => by have := z3.mpr c; omega
      omega
    obtain ⟨b1, b2, b3, _⟩ := bn_in (Y := Y) (B := TB Y n) (m := (x : Int)) hn (by omega) (by omega)
    generalize (bnN Y (TB Y n) (x : Int) n).1 = k at b1 b2 b3 ⊢
    have s1 := so_b (a := (x : Int)) (k := k) (n := n) (by omega) hn a2 ⟨b1, b2⟩ b3
    have s2 := zb_i (a := (x : Int)) (k := k) (by omega) (by omega) b3
    have s3 : zb9 (x : Int).toNat = zb9 x := rfl
    have e : ((10 ^ (i + 1) : Nat) : Int) = 10 * ((10 ^ i : Nat) : Int) := by rw [Nat.pow_succ]; omega
    rw [e]
    exact ⟨by omega, s1.2, by omega, by omega, by omega⟩
theorem ptN_b {Y : Int → Int → Int} {n : Nat} {r a d : Int} (hn : n ≤ 9) (hr : 0 ≤ r ∧ r < n) (ha : a = (ptN Y n r.toNat).1) (hd : d = (ptN Y n r.toNat).2) : (0 ≤ a ∧ a + 1 < ((2 ^ n : Nat) : Int)) ∧ 0 ≤ d ∧ d ≤ 99999999 := by
  obtain ⟨a1, a2, a3, a4, a5⟩ := ptN_r (Y := Y) hn r.toNat (by omega)
  rw [← ha] at a1 a2 a3
  rw [← hd] at a4 a5
  have p9 : 2 ^ n ≤ 2 ^ 9 := Nat.pow_le_pow_right (by decide) hn
  have p9' : (2 ^ 9 : Nat) = 512 := by decide
  have p10 : 10 ^ r.toNat ≤ 10 ^ 8 := Nat.pow_le_pow_right (by decide) (by omega)
  have p10' : (10 ^ 8 : Nat) = 100000000 := by decide
  obtain ⟨x, rfl⟩ := Int.eq_ofNat_of_zero_le a1
  have z1 := zb_all ⟨n, by omega⟩ ⟨x, by omega⟩ (by show x < 2 ^ n; omega)
  have z2 : zb9 x + r.toNat = 9 := a3
  have z3 : zb9 x + n = 9 ↔ x + 1 = 2 ^ n := z1.1
  have : x + 1 ≠ 2 ^ n := fun c => by have := z3.mpr c; omega
  omega
theorem ptN_s {Y : Int → Int → Int} {n : Nat} {f : Nat → Int32} {r r1 a d x s t : Int} (h : TBS Y n (-1) f) (hn : n ≤ 9) (hr : 0 ≤ r ∧ r < n) (ha : a = (ptN Y n r.toNat).1) (hd : d = (ptN Y n r.toNat).2) (hx : x = (bnN Y (nz f) a n).1) (hs : s = (so a x).toInt) (ht : t = 10 * d + x) (h1 : r1 = r + 1) : s = (ptN Y n r1.toNat).1 ∧ t = (ptN Y n r1.toNat).2 := by
  have b := ptN_b hn hr ha hd
  rw [h.nx hn ⟨b.1.1, by omega⟩] at hx
  rw [show r1.toNat = r.toNat + 1 by omega]
  show s = (so (ptN Y n r.toNat).1 (bnN Y (TB Y n) (ptN Y n r.toNat).1 n).1).toInt ∧ t = 10 * (ptN Y n r.toNat).2 + (bnN Y (TB Y n) (ptN Y n r.toNat).1 n).1
  rw [← ha, ← hd, ← hx]
  exact ⟨hs, ht⟩
/-- what town answers: k of the n dips D -/
def TWV (D : Nat → Int) (n k : Int) : Int := if n = 0 then -1 else if k = 0 then TB (Yc D n.toNat) n.toNat 0 / 1000000 else if k = 1 then TB (Yc D n.toNat) n.toNat 0 % 1000000 else (ptN (Yc D n.toNat) n.toNat n.toNat).2
theorem TWV_0 {D : Nat → Int} {n k x : Int} (h : n = 0) (e : x = -1) : x = TWV D n k := by unfold TWV; rw [if_pos h]; exact e
theorem TWV_1 {D : Nat → Int} {n k x : Int} (h : n ≠ 0) (hk : k = 0) (e : x = TB (Yc D n.toNat) n.toNat 0 / 1000000) : x = TWV D n k := by unfold TWV; rw [if_neg h, if_pos hk]; exact e
theorem TWV_2 {D : Nat → Int} {n k x : Int} (h : n ≠ 0) (hk : k = 1) (e : x = TB (Yc D n.toNat) n.toNat 0 % 1000000) : x = TWV D n k := by unfold TWV; rw [if_neg h, if_neg (by omega), if_pos hk]; exact e
theorem TWV_3 {D : Nat → Int} {n k x : Int} (h : n ≠ 0) (hk : k = 2) (e : x = (ptN (Yc D n.toNat) n.toNat n.toNat).2) : x = TWV D n k := by unfold TWV; rw [if_neg h, if_neg (by omega), if_neg (by omega)]; exact e
/-- the reference's dips -/
def DQ (f : Nat → Int32) : Nat → Int := fun j => nz f (358 + j)
theorem DQ_e {f : Nat → Int32} {x T S : Int} (h : x = nz f T.toNat) (e : T = 358 + S) (h0 : 0 ≤ S) : x = DQ f S.toNat := by
  rw [h]; unfold DQ; congr 1; omega
theorem TBS.put {Y : Int → Int → Int} {n : Nat} {q v : Int} {f f1 : Nat → Int32} (h : TBS Y n q f) (hd : f1 = upd f (iI q).toNatClampNeg (iI v)) (hq : 0 ≤ q ∧ q ≤ 2147483647) : TBS Y n q f1 := by
  intro j a b
  rw [nz_un hd hq (by omega)]
  exact h j a b
theorem TBS.rd {Y : Int → Int → Int} {n : Nat} {q q1 : Int} {f : Nat → Int32} (h : TBS Y n q f) (hn : n ≤ 9) (hq : 0 ≤ q ∧ q + 2 ≤ ((2 ^ n : Nat) : Int)) (e : nz f q.toNat = (bnN Y (nz f) q n).2) (h1 : q1 = q - 1) : TBS Y n q1 f := by
  have e1 := h.bn hn ⟨hq.1, by omega⟩
  intro j a b
  rw [show (((2 ^ n : Nat) : Int) - 2 - q1).toNat = (((2 ^ n : Nat) : Int) - 2 - q).toNat + 1 by omega]
  show nz f j = if j + (((2 ^ n : Nat) : Int) - 2 - q).toNat + 2 = 2 ^ n then (bnN Y (tb Y n (((2 ^ n : Nat) : Int) - 2 - q).toNat) (j : Int) n).2 else tb Y n (((2 ^ n : Nat) : Int) - 2 - q).toNat j
  by_cases c : (j : Int) = q
  · rw [if_pos (by omega), c, ← e1, ← e, show q.toNat = j by omega]
  · rw [if_neg (by omega)]
    exact h j (by omega) b
/-- while the reference's least is looked for: r holds at q what the first k weigh at least -/
def INs (Y : Int → Int → Int) (r : Nat → Int32) (q k : Int) : Prop := nz r q.toNat = (bnN Y (nz r) q k.toNat).2
theorem IN_0 {Y : Int → Int → Int} {r r1 : Nat → Int32} {q : Int} (hd : r1 = upd r (iI q).toNatClampNeg (iI (-1))) (hq : 0 ≤ q ∧ q ≤ 2147483647) : INs Y r1 q 0 := nz_us hd hq (by decide) (by omega)
theorem IN_sk {Y : Int → Int → Int} {r : Nat → Int32} {q k k1 : Int} (h : INs Y r q k) (hk : 0 ≤ k) (h1 : k1 = k + 1) (hb : bt q k = iI 1) : INs Y r q k1 := by
  unfold INs
  rw [bnN_su hk h1, if_pos hb]; exact h
theorem bnN_m {Y : Int → Int → Int} {B : Nat → Int} {m : Int} : ∀ n : Nat, (bnN Y B m n).1 = -1 → (bnN Y B m n).2 = -1
  | 0, _ => rfl
  | n + 1, h => by
    have e : bnN Y B m (n + 1) = if bt m n = iI 1 then bnN Y B m n else if (bnN Y B m n).1 = -1 ∨ Wt Y B m n < (bnN Y B m n).2 then ((n : Int), Wt Y B m n) else bnN Y B m n := rfl
    rw [e] at h ⊢
    by_cases c : bt m n = iI 1
    · rw [if_pos c] at h ⊢; exact bnN_m n h
    · rw [if_neg c] at h ⊢
      by_cases w : (bnN Y B m n).1 = -1 ∨ Wt Y B m n < (bnN Y B m n).2
      · rw [if_pos w] at h
        have h' : (n : Int) = -1 := h
        omega
      · rw [if_neg w] at h ⊢; exact bnN_m n h
theorem Wt_p {D : Nat → Int} {n : Nat} {q : Int} {f : Nat → Int32} (h : TBS (Yc D n) n q f) (hd : DPR D n) (hn : n ≤ 9) (hq : 0 ≤ q ∧ q < ((2 ^ n : Nat) : Int)) (x : Nat) (hx : x < n) (hb : ¬ bt q (x : Int) = iI 1) : 0 ≤ Wt (Yc D n) (nz f) q x := by
  have s := so_b (a := q) (k := (x : Int)) (n := n) hq.1 hn hq.2 ⟨by omega, by omega⟩ hb
  have a := h.b hd hn (by omega) (Int.le_refl q) (so q (x : Int)).toInt.toNat (by omega) (by omega)
  have y := Yc_r (m := q) (k := (x : Int)) hd hn
  unfold Wt
  omega
theorem IN_pt {D : Nat → Int} {n : Nat} {r r1 : Nat → Int32} {q k k1 v : Int} (h : INs (Yc D n) r q k) (hT : TBS (Yc D n) n q r) (hdp : DPR D n) (hn : n ≤ 9) (hq : 0 ≤ q ∧ q < ((2 ^ n : Nat) : Int)) (hq2 : q ≤ 2147483647) (hk : 0 ≤ k ∧ k < n) (h1 : k1 = k + 1) (hb : ¬ bt q k = iI 1) (hd : r1 = upd r (iI q).toNatClampNeg (iI v)) (hv : -2147483648 ≤ v ∧ v ≤ 2147483647) (ev : v = Wt (Yc D n) (nz r) q k) (c : nz r q.toNat = -1 ∨ v < nz r q.toNat) : INs (Yc D n) r1 q k1 := by
  have cg : ∀ x : Nat, x < n → ¬ bt q (x : Int) = iI 1 → nz r1 (so q (x : Int)).toInt.toNat = nz r (so q (x : Int)).toInt.toNat := fun x hx hbx => by
    have s := so_b (a := q) (k := (x : Int)) (n := n) hq.1 hn hq.2 ⟨by omega, by omega⟩ hbx
    exact nz_un hd ⟨hq.1, hq2⟩ (by omega)
  have e1 : bnN (Yc D n) (nz r1) q k.toNat = bnN (Yc D n) (nz r) q k.toNat := bnN_cg _ (fun x hx hbx => cg x (by omega) hbx)
  have e2 : Wt (Yc D n) (nz r1) q k = Wt (Yc D n) (nz r) q k := by
    have := cg k.toNat (by omega) (by rw [show ((k.toNat : Nat) : Int) = k by omega]; exact hb)
    rw [show ((k.toNat : Nat) : Int) = k by omega] at this
    unfold Wt; rw [this]
  unfold INs at h ⊢
  rw [bnN_su hk.1 h1, if_neg hb, e1, e2, ← ev, if_pos]
  · exact nz_us hd ⟨hq.1, hq2⟩ hv (by omega)
  · rw [← h]
    rcases c with c | c
    · refine Or.inl ?_
      rw [c] at h
      rcases bnN_s (Y := Yc D n) (B := nz r) (m := q) k.toNat with ⟨a1, _⟩ | ⟨a1, a2, a3, a4, _, _⟩
      · exact a1
      · generalize (bnN (Yc D n) (nz r) q k.toNat).1 = x at a1 a2 a3 a4
        obtain ⟨x, rfl⟩ := Int.eq_ofNat_of_zero_le a1
        have := Wt_p hT hdp hn hq x (by omega) a3
        omega
    · exact Or.inr c
theorem IN_kp {Y : Int → Int → Int} {r : Nat → Int32} {q k k1 v : Int} (h : INs Y r q k) (hk : 0 ≤ k) (h1 : k1 = k + 1) (hb : ¬ bt q k = iI 1) (ev : v = Wt Y (nz r) q k) (c : ¬ nz r q.toNat = -1 ∧ ¬ v < nz r q.toNat) : INs Y r q k1 := by
  unfold INs at h ⊢
  rw [bnN_su hk h1, if_neg hb, ← ev, ← h, if_neg]
  · exact h
  · rintro (w | w)
    · exact c.1 (h.trans (bnN_m _ w))
    · exact c.2 w
theorem bn_first {Y : Int → Int → Int} {B : Nat → Int} {m x k : Int} {n : Nat} (h : x = (bnN Y B m n).1) (hx : 0 ≤ x) (hk : 0 ≤ k ∧ k ≤ x) (hb : ¬ bt m k = iI 1) (e : Wt Y B m k = (bnN Y B m n).2) : k = x := by
  rcases bnN_s (Y := Y) (B := B) (m := m) n with ⟨a1, _⟩ | ⟨a1, a2, a3, a4, a5, a6⟩
  · omega
  · obtain ⟨k, rfl⟩ := Int.eq_ofNat_of_zero_le hk.1
    by_cases c : (k : Int) < (bnN Y B m n).1
    · have := a5 k c hb
      omega
    · omega
/-- set and digits, as the reference's turns leave them -/
def PTs (Y : Int → Int → Int) (n : Nat) (a d : Int) : Prop := ∃ i : Nat, i ≤ n ∧ a = (ptN Y n i).1 ∧ d = (ptN Y n i).2
theorem PTs_0 {Y : Int → Int → Int} {n : Nat} : PTs Y n 0 0 := ⟨0, Nat.zero_le _, rfl, rfl⟩
theorem PTs.lt {Y : Int → Int → Int} {n : Nat} {a d : Int} (h : PTs Y n a d) (hn : n ≤ 9) (ha : a + 1 < ((2 ^ n : Nat) : Int)) : ∃ i : Nat, i < n ∧ a = (ptN Y n i).1 ∧ d = (ptN Y n i).2 := by
  obtain ⟨i, h1, h2, h3⟩ := h
  refine ⟨i, ?_, h2, h3⟩
  obtain ⟨a1, a2, a3, _⟩ := ptN_r (Y := Y) hn i h1
  rw [← h2] at a1 a2 a3
  have p9 : 2 ^ n ≤ 2 ^ 9 := Nat.pow_le_pow_right (by decide) hn
  have p9' : (2 ^ 9 : Nat) = 512 := by decide
  obtain ⟨x, rfl⟩ := Int.eq_ofNat_of_zero_le a1
  have z1 := zb_all ⟨n, by omega⟩ ⟨x, by omega⟩ (by show x < 2 ^ n; omega)
  have z2 : zb9 x + i = 9 := a3
  have z3 : zb9 x + n = 9 ↔ x + 1 = 2 ^ n := z1.1
  have : i ≠ n := fun c => by have := z3.mp (by omega); omega
  omega
theorem PTs.b {Y : Int → Int → Int} {n : Nat} {a d : Int} (h : PTs Y n a d) (hn : n ≤ 9) (ha : a + 1 < ((2 ^ n : Nat) : Int)) : 0 ≤ d ∧ d ≤ 99999999 := by
  obtain ⟨i, h1, h2, h3⟩ := h.lt hn ha
  exact (ptN_b (r := (i : Int)) hn ⟨by omega, by omega⟩ h2 h3).2
theorem PTs.s {Y : Int → Int → Int} {n : Nat} {f : Nat → Int32} {a d x s t : Int} (h : PTs Y n a d) (hT : TBS Y n (-1) f) (hn : n ≤ 9) (ha : a + 1 < ((2 ^ n : Nat) : Int)) (hx : x = (bnN Y (nz f) a n).1) (hs : s = (so a x).toInt) (ht : t = 10 * d + x) : PTs Y n s t := by
  obtain ⟨i, h1, h2, h3⟩ := h.lt hn ha
  obtain ⟨e1, e2⟩ := ptN_s (r := (i : Int)) (r1 := (i : Int) + 1) hT hn ⟨by omega, by omega⟩ h2 h3 hx hs ht rfl
  exact ⟨i + 1, h1, e1, e2⟩
theorem PTs.all {Y : Int → Int → Int} {n : Nat} {a d : Int} (h : PTs Y n a d) (hn : n ≤ 9) (ha : a + 1 = ((2 ^ n : Nat) : Int)) : d = (ptN Y n n).2 := by
  obtain ⟨i, h1, h2, h3⟩ := h
  obtain ⟨a1, a2, a3, _⟩ := ptN_r (Y := Y) hn i h1
  rw [← h2] at a1 a2 a3
  have p9 : 2 ^ n ≤ 2 ^ 9 := Nat.pow_le_pow_right (by decide) hn
  have p9' : (2 ^ 9 : Nat) = 512 := by decide
  obtain ⟨x, rfl⟩ := Int.eq_ofNat_of_zero_le a1
  have z1 := zb_all ⟨n, by omega⟩ ⟨x, by omega⟩ (by show x < 2 ^ n; omega)
  have z2 : zb9 x + i = 9 := a3
  have z3 : zb9 x + n = 9 ↔ x + 1 = 2 ^ n := z1.1
  have z4 := z3.mpr (by omega)
  rw [h3, show i = n by omega]
theorem TBS.w {Y : Int → Int → Int} {n : Nat} {f : Nat → Int32} {m : Int} (h : TBS Y n (-1) f) (hn : n ≤ 9) (hm : 0 ≤ m) (ha : m + 1 < ((2 ^ n : Nat) : Int)) : nz f m.toNat = (bnN Y (nz f) m n).2 := by
  rw [h.nx hn ⟨hm, by omega⟩, h.all (by omega)]
  exact TB_bn hn hm ha
/-- both sides' dips are the same -/
theorem DPR.m {cars dips : Int} {tf df sh f : Nat → Int32} (h : DPR (nz df) dips.toNat) (hp : RPl cars dips tf df sh (nz f)) : DPR (DQ f) (nz f 357).toNat := by
  obtain ⟨_, hd, _, h4, _, _, h7⟩ := hp
  rw [h4]
  intro k hk
  have a := h k hk
  unfold DQ
  rw [← h7 (3 * k) (by omega), ← h7 (3 * k + 1) (by omega), ← h7 (3 * k + 2) (by omega)]
  exact a
theorem TWV_pl {cars dips k : Int} {tf df sh f : Nat → Int32} (hp : RPl cars dips tf df sh (nz f)) : TWV (DQ f) (nz f 357) k = TWV (nz df) dips k := by
  obtain ⟨_, hd, _, h4, _, _, h7⟩ := hp
  rw [h4]
  unfold TWV
  rw [Yc_cg (D := nz df) (D1 := DQ f) (n := dips.toNat) (fun j hj => (h7 j (by omega)).symm)]
theorem dp_dip {dips d1 p0 p1 p2 : Int} {C : Prop} {df df1 : Nat → Int32} (h : DPR (nz df) dips.toNat) (hd : 0 ≤ dips ∧ dips ≤ 9) (hC : C → 1 ≤ p0 ∧ p0 ≤ 99 ∧ 1 ≤ p1 ∧ p1 ≤ 30 ∧ 1 ≤ p2 ∧ p2 ≤ 99) (tv : C → dips < 9 → d1 = dips + 1) (t1 : ¬ (C ∧ dips < 9) → d1 = dips) (tc : C → dips < 9 → nz df1 = dipT (nz df) dips p0 p1 p2) (ts : ¬ (C ∧ dips < 9) → df1 = df) : DPR (nz df1) d1.toNat := by
  by_cases c : C ∧ dips < 9
  · have e := tv c.1 c.2
    have hp := hC c.1
    intro k hk
    rw [tc c.1 c.2]
    unfold dipT
    by_cases q : (k : Int) = dips
    · rw [upz_n (by omega), upz_n (by omega), upz_s (by omega), upz_n (by omega), upz_s (by omega), upz_s (by omega)]
      omega
    · rw [upz_n (by omega), upz_n (by omega), upz_n (by omega), upz_n (by omega), upz_n (by omega), upz_n (by omega), upz_n (by omega), upz_n (by omega), upz_n (by omega)]
      exact h k (by omega)
  · rw [t1 c, ts c]; exact h
theorem dp_str {C D : Prop} {dips d : Int} {df : Nat → Int32} (h : DPR (nz df) dips.toNat) (c1 : C → D → d = 0) (c0 : ¬ (C ∧ D) → d = dips) : DPR (nz df) d.toNat := by
  by_cases c : C ∧ D
  · rw [c1 c.1 c.2]; intro k hk; exact absurd hk (Nat.not_lt_zero k)
  · rw [c0 c]; exact h
theorem DPR.cp {dips d : Int} {df d1 : Nat → Int32} (h : DPR (nz df) dips.toNat) (hd : dips ≤ 9) (e : d = dips) (c : ∀ j : Nat, j < 27 → d1 j = df j) : DPR (nz d1) d.toNat := by
  rw [e]
  intro k hk
  have n : ∀ j : Nat, j < 27 → nz d1 j = nz df j := fun j hj => congrArg Int32.toInt (c j hj)
  rw [n _ (by omega), n _ (by omega), n _ (by omega)]
  exact h k hk
def GDi (k im dips : Int) (df : Nat → Int32) : Prop := k < im → DPR (nz df) dips.toNat
theorem GDi.le {k im im1 dips : Int} {df : Nat → Int32} (h : GDi k im dips df) (e : k < im1 → k < im) : GDi k im1 dips df := fun q => h (e q)
theorem gd_str {C D : Prop} {k im im1 dips : Int} {df : Nat → Int32} (h : GDi k im dips df) (hk : 0 ≤ k) (c1 : C → D → im1 = 0) (c0 : ¬ (C ∧ D) → im1 = im) : GDi k im1 dips df := by
  intro q
  by_cases c : C ∧ D
  · have := c1 c.1 c.2; omega
  · exact h (by rw [← c0 c]; exact q)
