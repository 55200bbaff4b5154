
theorem nx_lin {v c : Int} (hv : 0 ≤ v ∧ v ≤ 33554431) (hc : 97 ≤ c ∧ c ≤ 122) : nx v c = 32 * v + (c - 96) := by
  unfold nx
  rw [sl_eq 5 (by decide) ⟨hv.1, by omega⟩]
  obtain ⟨n, rfl⟩ := Int.eq_ofNat_of_zero_le hv.1
  obtain ⟨d, hd⟩ := Int.eq_ofNat_of_zero_le (show 0 ≤ c - 96 by omega)
  have e1 : (n : Int) * 2 ^ 5 = ((32 * n : Nat) : Int) := by
    have : (2 : Int) ^ 5 = 32 := by decide
    rw [this]; omega
  have e2 : 32 * n ||| d = 32 * n + d := (Nat.two_pow_add_eq_or_of_lt (i := 5) (show d < 2 ^ 5 by omega) n).symm
  rw [hd, e1, ← iI_nI, ← iI_nI, or_nI, e2, iI_nI, iI_to (by omega) (by omega)]
  omega
theorem wvG_stp {f : Nat → Int32} {sz k v n k' v' n' : Int} (hk : k < 602) (h : k < sz ∧ 97 ≤ nz f k.toNat ∧ nz f k.toNat ≤ 122) (hn : n < 6) (e1 : k' = k + 1) (e2 : v' = nx v (nz f k.toNat)) (e3 : n' = n + 1) : wvG f sz (602 - k).toNat k v n = wvG f sz (602 - k').toNat k' v' n' := by
  subst e1 e2 e3
  rw [show (602 - k).toNat = (602 - (k + 1)).toNat + 1 by omega, wvG, if_pos h, if_pos hn]
theorem wvG_stq {f : Nat → Int32} {sz k v n : Int} (hk : k < 602) (h : k < sz ∧ 97 ≤ nz f k.toNat ∧ nz f k.toNat ≤ 122) : wvG f sz (602 - k).toNat k v n = wvG f sz (602 - (k + 1)).toNat (k + 1) (if n < 6 then nx v (nz f k.toNat) else 0) (n + 1) := by
  rw [show (602 - k).toNat = (602 - (k + 1)).toNat + 1 by omega, wvG, if_pos h]
theorem wvG_ge (f : Nat → Int32) (sz : Int) : ∀ (fu : Nat) (k v n : Int), n ≤ (wvG f sz fu k v n).2
  | 0, k, v, n => Int.le_refl n
  | fu + 1, k, v, n => by
    rw [wvG]
    by_cases h : k < sz ∧ 97 ≤ nz f k.toNat ∧ nz f k.toNat ≤ 122
    · rw [if_pos h]
      have := wvG_ge f sz fu (k + 1) (if n < 6 then nx v (nz f k.toNat) else 0) (n + 1)
      omega
    · rw [if_neg h]; exact Int.le_refl n
theorem wv_rain {f : Nat → Int32} {sz a : Int} (h0 : 0 ≤ a) (hs : sz ≤ 600) : wv f sz a = 591150 ↔ isR (nz f) sz a := by
  rw [isR_iff]
  unfold isRp wv
  have z1 : nz f (a + 1).toNat = nz f (a.toNat + 1) := by rw [show (a + 1).toNat = a.toNat + 1 by omega]
  have z2 : nz f (a + 2).toNat = nz f (a.toNat + 2) := by rw [show (a + 2).toNat = a.toNat + 2 by omega]
  have z3 : nz f (a + 3).toNat = nz f (a.toNat + 3) := by rw [show (a + 3).toNat = a.toNat + 3 by omega]
  have z4 : nz f (a + 4).toNat = nz f (a.toNat + 4) := by rw [show (a + 4).toNat = a.toNat + 4 by omega]
  have w0 : wvG f sz (602 - a).toNat a 0 0 = wvG f sz (602 - a).toNat a 0 0 := rfl
  by_cases l0 : a < sz ∧ 97 ≤ nz f a.toNat ∧ nz f a.toNat ≤ 122
  case neg =>
    have e := w0.trans (wvG_end _ l0)
    rw [e, if_neg (show ¬ (6 : Int) < 0 by decide)]
    show (0 : Int) = 591150 ↔ _
    first | omega | (constructor <;> intro q <;> omega)
  case pos =>
    obtain ⟨v1, hv1⟩ : ∃ v, v = nx 0 (nz f a.toNat) := ⟨_, rfl⟩
    have hw1 : v1 = 32 * 0 + (nz f a.toNat - 96) := by rw [hv1]; exact nx_lin (by omega) ⟨l0.2.1, l0.2.2⟩
    replace w0 := w0.trans (wvG_stp (k' := a + 1) (n' := 1) (by omega) l0 (by decide) (by omega) hv1 (by decide))
    clear hv1
    by_cases l1 : (a + 1) < sz ∧ 97 ≤ nz f (a + 1).toNat ∧ nz f (a + 1).toNat ≤ 122
    case neg =>
      have e := w0.trans (wvG_end _ l1)
      rw [e, if_neg (show ¬ (6 : Int) < 1 by decide)]
      show v1 = 591150 ↔ _
      first | omega | (constructor <;> intro q <;> omega)
    case pos =>
      obtain ⟨v2, hv2⟩ : ∃ v, v = nx v1 (nz f (a + 1).toNat) := ⟨_, rfl⟩
      have hw2 : v2 = 32 * v1 + (nz f (a + 1).toNat - 96) := by rw [hv2]; exact nx_lin (by omega) ⟨l1.2.1, l1.2.2⟩
      replace w0 := w0.trans (wvG_stp (k' := a + 2) (n' := 2) (by omega) l1 (by decide) (by omega) hv2 (by decide))
      clear hv2
      by_cases l2 : (a + 2) < sz ∧ 97 ≤ nz f (a + 2).toNat ∧ nz f (a + 2).toNat ≤ 122
      case neg =>
        have e := w0.trans (wvG_end _ l2)
        rw [e, if_neg (show ¬ (6 : Int) < 2 by decide)]
        show v2 = 591150 ↔ _
        first | omega | (constructor <;> intro q <;> omega)
      case pos =>
        obtain ⟨v3, hv3⟩ : ∃ v, v = nx v2 (nz f (a + 2).toNat) := ⟨_, rfl⟩
        have hw3 : v3 = 32 * v2 + (nz f (a + 2).toNat - 96) := by rw [hv3]; exact nx_lin (by omega) ⟨l2.2.1, l2.2.2⟩
        replace w0 := w0.trans (wvG_stp (k' := a + 3) (n' := 3) (by omega) l2 (by decide) (by omega) hv3 (by decide))
        clear hv3
        by_cases l3 : (a + 3) < sz ∧ 97 ≤ nz f (a + 3).toNat ∧ nz f (a + 3).toNat ≤ 122
        case neg =>
          have e := w0.trans (wvG_end _ l3)
          rw [e, if_neg (show ¬ (6 : Int) < 3 by decide)]
          show v3 = 591150 ↔ _
          first | omega | (constructor <;> intro q <;> omega)
        case pos =>
          obtain ⟨v4, hv4⟩ : ∃ v, v = nx v3 (nz f (a + 3).toNat) := ⟨_, rfl⟩
          have hw4 : v4 = 32 * v3 + (nz f (a + 3).toNat - 96) := by rw [hv4]; exact nx_lin (by omega) ⟨l3.2.1, l3.2.2⟩
          replace w0 := w0.trans (wvG_stp (k' := a + 4) (n' := 4) (by omega) l3 (by decide) (by omega) hv4 (by decide))
          clear hv4
          by_cases l4 : (a + 4) < sz ∧ 97 ≤ nz f (a + 4).toNat ∧ nz f (a + 4).toNat ≤ 122
          case neg =>
            have e := w0.trans (wvG_end _ l4)
            rw [e, if_neg (show ¬ (6 : Int) < 4 by decide)]
            show v4 = 591150 ↔ _
            first | omega | (constructor <;> intro q <;> omega)
          case pos =>
            obtain ⟨v5, hv5⟩ : ∃ v, v = nx v4 (nz f (a + 4).toNat) := ⟨_, rfl⟩
            have hw5 : v5 = 32 * v4 + (nz f (a + 4).toNat - 96) := by rw [hv5]; exact nx_lin (by omega) ⟨l4.2.1, l4.2.2⟩
            replace w0 := w0.trans (wvG_stp (k' := a + 5) (n' := 5) (by omega) l4 (by decide) (by omega) hv5 (by decide))
            clear hv5
            by_cases l5 : (a + 5) < sz ∧ 97 ≤ nz f (a + 5).toNat ∧ nz f (a + 5).toNat ≤ 122
            case neg =>
              have e := w0.trans (wvG_end _ l5)
              rw [e, if_neg (show ¬ (6 : Int) < 5 by decide)]
              show v5 = 591150 ↔ _
              first | omega | (constructor <;> intro q <;> omega)
            case pos =>
              obtain ⟨v6, hv6⟩ : ∃ v, v = nx v5 (nz f (a + 5).toNat) := ⟨_, rfl⟩
              have hw6 : v6 = 32 * v5 + (nz f (a + 5).toNat - 96) := by rw [hv6]; exact nx_lin (by omega) ⟨l5.2.1, l5.2.2⟩
              replace w0 := w0.trans (wvG_stp (k' := a + 6) (n' := 6) (by omega) l5 (by decide) (by omega) hv6 (by decide))
              clear hv6
              by_cases l6 : (a + 6) < sz ∧ 97 ≤ nz f (a + 6).toNat ∧ nz f (a + 6).toNat ≤ 122
              case pos =>
                have e := w0.trans (wvG_stq (by omega) l6)
                have g := wvG_ge f sz (602 - (a + 6 + 1)).toNat (a + 6 + 1) (if (6 : Int) < 6 then nx v6 (nz f (a + 6).toNat) else 0) (6 + 1)
                rw [e, if_pos (by omega)]
                first | omega | (constructor <;> intro q <;> omega)
              case neg =>
                have e := w0.trans (wvG_end _ l6)
                rw [e, if_neg (show ¬ (6 : Int) < 6 by decide)]
                show v6 = 591150 ↔ _
                first | omega | (constructor <;> intro q <;> omega)
/-- the reference's fault, as the class counts it -/
def fr_ (b k : Int) : Int := if b = -1 then 0 else k
theorem fr_g {b k : Int} (h : b = -1) : fr_ b k = 0 := if_pos h
theorem fr_b {b k : Int} (h : b ≠ -1) : fr_ b k = k := if_neg h
def HeS (g : Nat → Int) (n a r a' : Int) : Prop := a' = rnI pSp g n a ∧ (a' < n → r = g a'.toNat) ∧ (¬ a' < n → r = 0)
theorem HeS_1 {g : Nat → Int} {n a x : Int} (hl : rnI pSp g n x = rnI pSp g n a) (h0 : 0 ≤ x) (hx : ¬ x < n) : HeS g n a 0 x :=
  ⟨by rw [← hl, rn_sp h0 (fun q => hx q.1)], fun q => absurd q hx, fun _ => rfl⟩
theorem HeS_2 {g : Nat → Int} {n a x r : Int} (hl : rnI pSp g n x = rnI pSp g n a) (h0 : 0 ≤ x) (hx : x < n) (hg : g x.toNat ≠ 32) (hr : r = g x.toNat) : HeS g n a r x :=
  ⟨by rw [← hl, rn_sp h0 (fun q => hg q.2)], fun _ => hr, fun q => absurd hx q⟩
theorem HeS_S {g : Nat → Int} {n a r b : Int} (h : HeS g n a r b) : ∃ r' : Int, SiS g n a 0 r' b ∧ (r' = r ∨ (r' = -1 ∧ r = 0)) := by
  obtain ⟨h1, h2, h3⟩ := h
  by_cases hb : b < n
  · exact ⟨r, ⟨fun q => absurd rfl q, fun _ => ⟨h1, h2, fun q => absurd hb q⟩⟩, Or.inl rfl⟩
  · exact ⟨-1, ⟨fun q => absurd rfl q, fun _ => ⟨h1, fun q => absurd q hb, fun _ => rfl⟩⟩, Or.inr ⟨rfl, h3 hb⟩⟩
theorem NuR_0 {g : Nat → Int} {n lo hi a bad bk a' : Int} (h : bad ≠ -1) (hk : 1 ≤ bk) : NuS g n lo hi a (fr_ bad bk) a' (fr_ bad bk) := by
  rw [fr_b h]
  exact ⟨fun _ => rfl, fun q => by omega⟩
theorem NuR_1 {g : Nat → Int} {n lo hi a bad bk a' bad' bk' r b : Int} (h : bad = -1) (hh : HeS g n a r b) (hr : ¬ (48 ≤ r ∧ r ≤ 57)) (h1 : bad' ≠ -1) (h2 : bk' = 1) : NuS g n lo hi a (fr_ bad bk) a' (fr_ bad' bk') := by
  rw [fr_g h, fr_b h1]
  obtain ⟨r', hS, he⟩ := HeS_S hh
  exact NuS_1 hS (by omega) (fun q => absurd rfl q) (fun _ => h2)
theorem NuR_2 {g : Nat → Int} {n lo hi a bad bk a' bad' bk' r b x w : Int} (h : bad = -1) (hh : HeS g n a r b) (hr : 48 ≤ r ∧ r ≤ 57) (hl : rnI pDg g n x = rnI pDg g n b) (hv : vlI g n x w = vlI g n b 0) (hx : 0 ≤ x) (hs : ¬ (x < n ∧ 48 ≤ g x.toNat ∧ g x.toNat ≤ 57)) (h1 : (lo ≤ w ∧ w ≤ hi ∧ bad' = -1 ∧ a' = x) ∨ (¬ (lo ≤ w ∧ w ≤ hi) ∧ bad' ≠ -1 ∧ bk' = 2)) : NuS g n lo hi a (fr_ bad bk) a' (fr_ bad' bk') := by
  rw [fr_g h]
  obtain ⟨r', hS, he⟩ := HeS_S hh
  refine NuS_2 hS (by omega) hl hv hx hs ?_
  rcases h1 with ⟨q1, q2, q3, q4⟩ | ⟨q1, q2, q3⟩
  · rw [fr_g q3]; exact Or.inl ⟨q1, q2, rfl, q4⟩
  · rw [fr_b q2]; exact Or.inr ⟨q1, fun _ => q3⟩
theorem SgR_0 {g : Nat → Int} {n c a bad bk a' : Int} (h : bad ≠ -1) (hk : 1 ≤ bk) : SgS g n c a (fr_ bad bk) a' (fr_ bad bk) := by
  rw [fr_b h]
  exact ⟨fun _ => rfl, fun q => by omega⟩
theorem SgR_1 {g : Nat → Int} {n c a bad bk a' bad' bk' r b : Int} (h : bad = -1) (hh : HeS g n a r b) (hc : 1 ≤ c) (hr : r = c) (h1 : bad' = -1) (ha : a' = b + 1) : SgS g n c a (fr_ bad bk) a' (fr_ bad' bk') := by
  rw [fr_g h, fr_g h1]
  obtain ⟨r', hS, he⟩ := HeS_S hh
  exact SgS_1 hS (by omega) (by omega) rfl ha
theorem SgR_2 {g : Nat → Int} {n c a bad bk a' bad' bk' r b : Int} (h : bad = -1) (hh : HeS g n a r b) (hc : 1 ≤ c) (hr : r ≠ c) (h1 : bad' ≠ -1) (h2 : bk' = 1) : SgS g n c a (fr_ bad bk) a' (fr_ bad' bk') := by
  rw [fr_g h, fr_b h1]
  obtain ⟨r', hS, he⟩ := HeS_S hh
  exact SgS_2 hS (by omega) (fun q => absurd rfl q) (fun _ => h2)
def MoS (g : Nat → Int) (n a r a' : Int) : Prop := a' = rnI pSp g n a ∧ (r = 1 → a' < n) ∧ (r = 0 → ¬ a' < n)
theorem MoS_H {g : Nat → Int} {n a r b : Int} (h : MoS g n a r b) : HmS g n a 0 r b := ⟨fun q => absurd rfl q, fun _ => h⟩
/-- the word rain is passed over -/
theorem WwR {g : Nat → Int} {n a b a2 : Int} (h0 : 0 ≤ a) (hb : b = rnI pSp g n a) (hR : isR g n b) (ha : a2 = rnI pSm g n b) : WwS g n a 0 a2 0 := by
  have h1 : 0 ≤ b := by rw [hb]; exact Int.le_trans h0 (rnI_le pSp g h0).1
  have h2 := isR_e h1 hR
  refine ⟨fun q => absurd rfl q, fun _ => ⟨fun _ => ⟨rfl, by rw [← hb, ha, h2]⟩, fun q => absurd (by rw [← hb]; exact hR) q⟩⟩
theorem RvL_bad {g : Nat → Int} {n V m a f b f1 : Int} (h : RvL g n V m a f) (hm : 0 ≤ m ∧ m ≤ 8) (h0 : 0 ≤ a) (hf : f = 0) (hb : b = rnI pSp g n a) (hn : b < n) (h1 : (isR g n (rnI pSp g n b) ∧ m = 8 ∧ f1 = 3) ∨ (¬ isR g n (rnI pSp g n b) ∧ f1 = 1)) : V = f1 := by
  subst hb
  rw [rnI_id pSp g h0] at h1
  have q := rvI_go (g := g) (n := n) (m := m) (a := a) hm.2 hn
  rw [h.2 hf]
  rcases h1 with ⟨w1, w2, w3⟩ | ⟨w1, w2⟩
  · have e : pF g n m a = 3 := by unfold pF; rw [if_pos w1, if_pos w2]
    rw [q.2 (by omega), e, w3]
  · have e : pF g n m a = 1 := by unfold pF; rw [if_neg w1]
    rw [q.2 (by omega), e, w2]
