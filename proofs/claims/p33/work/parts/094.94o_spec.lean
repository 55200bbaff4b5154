
theorem upz_eq {a b : Nat → Int} {m : Nat} {e e' v v' : Int} (h : ∀ j : Nat, j < m → a j = b j) (ee : e = e') (ev : v = v') : ∀ j : Nat, j < m → upz a e v j = upz b e' v' j := by
  subst ee ev
  intro j hj
  by_cases q : (j : Int) = e
  · rw [upz_s q, upz_s q]
  · rw [upz_n q, upz_n q]; exact h j hj
section EQN
variable {a b s t : Nat → Int} {g : Nat → Int} {n m q k : Int}
theorem clL_eq (h : ∀ j : Nat, j < 68 → a j = b j) : clL a k g n q = clL b k g n q := by
  unfold clL
  rw [h 0 (by decide), h 1 (by decide), h 2 (by decide)]
theorem isFb_eq (h : ∀ j : Nat, j < 68 → a j = b j) : isFb a k = isFb b k := by
  unfold isFb
  rw [h 2 (by decide), h 3 (by decide), h 4 (by decide), h 5 (by decide)]
theorem cF_eq (h : ∀ j : Nat, j < 68 → a j = b j) : cF g n m q a = cF g n m q b ∧ cP g n m q a = cP g n m q b ∧ cA g n q a = cA g n q b := by
  unfold cF cP cA kF kP kA
  rw [clL_eq h, isFb_eq h]
  exact ⟨rfl, rfl, rfl⟩
theorem wkB_eq (h : ∀ j : Nat, j < 68 → a j = b j) {x y c e f : Int} : ∀ j : Nat, j < 68 → wkB a x y c e f j = wkB b x y c e f j := by
  unfold wkB
  have h5 := h 5 (by decide)
  exact upz_eq (upz_eq (upz_eq (upz_eq (upz_eq (upz_eq h (by rw [h5]) rfl) (by rw [h5]) rfl) (by rw [h5]) rfl) (by rw [h5]) rfl) (by rw [h5]) rfl) rfl (by rw [h5])
theorem clB_eq (h : ∀ j : Nat, j < 68 → a j = b j) : ∀ j : Nat, j < 68 → clB a k g n q j = clB b k g n q j := by
  have h2 := h 2 (by decide)
  have h3 := h 3 (by decide)
  have h4 := h 4 (by decide)
  unfold clB
  by_cases k1 : k = 1
  · rw [if_pos k1, if_pos k1]; exact upz_eq (upz_eq h rfl rfl) rfl rfl
  rw [if_neg k1, if_neg k1]
  by_cases k2 : k = 2
  · rw [if_pos k2, if_pos k2]; exact h
  rw [if_neg k2, if_neg k2]
  by_cases k3 : k = 3
  · rw [if_pos k3, if_pos k3]; exact upz_eq (upz_eq (upz_eq (upz_eq h (by rw [h2]) rfl) (by rw [h2]) rfl) (by rw [h2]) rfl) rfl (by rw [h2])
  rw [if_neg k3, if_neg k3]
  by_cases k4 : k = 4
  · rw [if_pos k4, if_pos k4]; exact upz_eq h rfl (by rw [h3])
  rw [if_neg k4, if_neg k4]
  by_cases k5 : k = 5
  · rw [if_pos k5, if_pos k5]; exact upz_eq (upz_eq (upz_eq h (by rw [h4]) rfl) (by rw [h4]) rfl) rfl (by rw [h4])
  rw [if_neg k5, if_neg k5]
  by_cases k6 : k = 6
  · rw [if_pos k6, if_pos k6]; exact wkB_eq h
  rw [if_neg k6, if_neg k6]
  exact wkB_eq h
theorem clT_eq (h : ∀ j : Nat, j < 68 → a j = b j) (h1 : ∀ j : Nat, j < 389 → s j = t j) : ∀ j : Nat, j < 389 → clT a s k g n q j = clT b t k g n q j := by
  have h2 := h 2 (by decide)
  have h3 := h 3 (by decide)
  unfold clT
  by_cases k2 : k = 2
  · rw [if_pos k2, if_pos k2]; exact upz_eq h1 rfl rfl
  rw [if_neg k2, if_neg k2]
  by_cases k3 : k = 3
  · rw [if_pos k3, if_pos k3]; exact upz_eq h1 (by rw [h2]) rfl
  rw [if_neg k3, if_neg k3]
  by_cases k4 : k = 4
  · rw [if_pos k4, if_pos k4]; exact upz_eq (upz_eq h1 (by rw [h3]) rfl) (by rw [h3]) rfl
  rw [if_neg k4, if_neg k4]
  exact h1
end EQN
section MPI
variable {g : Nat → Int} {n m a bad bk a1 a2 bad2 bk2 r b : Int} {B S B2 S2 : Nat → Int}
def MpI (g : Nat → Int) (n m a bad bk : Int) (B S : Nat → Int) : Prop := ∃ nb ns : Nat → Int, StL g n m a (fr_ bad bk) bad nb ns (STV g n) ∧ (bad = -1 → (∀ j : Nat, j < 68 → B j = nb j) ∧ ∀ j : Nat, j < 389 → S j = ns j)
theorem MpI_0 (hb : ∀ j : Nat, j < 68 → B j = nb0 j) (hs : ∀ j : Nat, j < 389 → S j = ns0 j) : MpI g n 0 0 (-1) bk B S := ⟨nb0, ns0, by rw [fr_g rfl]; exact StL_0, fun _ => ⟨hb, hs⟩⟩
theorem MpI_go (h : MpI g n m a bad bk B S) (hm : 0 ≤ m ∧ m ≤ 60) (h0 : 0 ≤ a) (hb : bad = -1) (ha : a1 = rnI pSp g n a) (hn : a1 < n) (hr : RdS (cF g n m a1 B) (cP g n m a1 B) (cA g n a1 B) (fr_ bad bk) bad a2 (fr_ bad2 bk2) bad2) (hv : bad2 = -1 → B2 = cB g n a1 B ∧ S2 = cT g n a1 B S) {m1 : Int} (e : m1 = m + 1) : MpI g n m1 a2 bad2 bk2 B2 S2 := by
  obtain ⟨nb, ns, h1, h2⟩ := h
  obtain ⟨hB, hS⟩ := h2 hb
  obtain ⟨e1, e2, e3⟩ := cF_eq (g := g) (n := n) (m := m) (q := a1) hB
  rw [e1, e2, e3] at hr
  refine ⟨cB g n a1 nb, cT g n a1 nb ns, StL_go h1 hm h0 (fr_g hb) ha hn hr e, fun q => ?_⟩
  obtain ⟨v1, v2⟩ := hv q
  rw [v1, v2]
  exact ⟨clB_eq hB, clT_eq hB hS⟩
def MpE (g : Nat → Int) (n bad bk : Int) (B S : Nat → Int) : Prop := (bad ≠ -1 → (STV g n).1 = (bk, bad)) ∧ (bad = -1 → (STV g n).1 = (0, -1) ∧ (∀ j : Nat, j < 68 → B j = (STV g n).2.1 j) ∧ ∀ j : Nat, j < 389 → S j = (STV g n).2.2 j)
theorem MpE_a (h : MpI g n m a bad bk B S) (hb : bad ≠ -1) (hk : 1 ≤ bk) : MpE g n bad bk B2 S2 := by
  obtain ⟨nb, ns, h1, h2⟩ := h
  refine ⟨fun _ => ?_, fun q => absurd q hb⟩
  have := h1.1 (fr_n hb hk)
  rw [fr_b hb] at this
  exact this
theorem MpE_b (h : MpI g n m a bad bk B S) (hb : bad = -1) (hm : MoS g n a r b) (hr : r = 0) : MpE g n bad bk B S := by
  obtain ⟨nb, ns, h1, h2⟩ := h
  refine ⟨fun q => absurd hb q, fun _ => ?_⟩
  have h3 := (StL_end h1 (Or.inr (by rw [← hm.1]; exact hm.2.2 hr))).2 (fr_g hb)
  rw [h3]
  exact ⟨rfl, h2 hb⟩
end MPI
theorem ns_st {f f1 : Nat → Int32} {q v q1 : Int} (h : ∀ j : Nat, (j : Int) < q → nz f j = ns0 j) (hd : f1 = upd f (iI q).toNatClampNeg (iI v)) (hq : 0 ≤ q ∧ q ≤ 2147483647) (hv : (q < 96 ∧ v = 50) ∨ (96 ≤ q ∧ (q < 353 ∨ 357 ≤ q) ∧ v = 0) ∨ (353 ≤ q ∧ q < 357 ∧ v = 1)) (e : q1 = q + 1) : ∀ j : Nat, (j : Int) < q1 → nz f1 j = ns0 j := by
  intro j hj
  by_cases w : (j : Int) = q
  · rw [nz_us hd hq (by omega) w]
    unfold ns0
    rcases hv with ⟨a, b⟩ | ⟨a, b, c⟩ | ⟨a, b, c⟩
    · rw [if_pos (by omega)]; exact b
    · rw [if_neg (by omega), if_neg (by omega)]; exact c
    · rw [if_neg (by omega), if_pos (by omega)]; exact c
  · rw [nz_un hd hq w]; exact h j (by omega)
theorem nb_st {f f1 f2 : Nat → Int32} (h : ∀ j : Nat, j < 68 → f j = iI 0) (hd : f1 = upd f (iI 0).toNatClampNeg (iI 8)) (hd2 : f2 = upd f1 (iI 1).toNatClampNeg (iI 3)) : ∀ j : Nat, j < 68 → nz f2 j = nb0 j := by
  intro j hj
  unfold nb0
  by_cases w1 : (j : Int) = 1
  · rw [nz_us hd2 (by decide) (by decide) w1, if_neg (by omega), if_pos (by omega)]
  · rw [nz_un hd2 (by decide) w1]
    by_cases w0 : (j : Int) = 0
    · rw [nz_us hd (by decide) (by decide) w0, if_pos (by omega)]
    · rw [nz_un hd (by decide) w0, if_neg (by omega), if_neg (by omega)]
      unfold nz
      rw [h j hj]
      rfl
