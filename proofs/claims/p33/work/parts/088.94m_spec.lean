
theorem nx_lin {v c : Int} (hv : 0 ≤ v ∧ v ≤ 33554431) (hc : 97 ≤ c ∧ c ≤ 122) : nx v c = 32 * v + (c - 96) := by
  unfold nx
  rw [sl_eq 5 (by decide) ⟨hv.1, by omega⟩]
  obtain ⟨n, rfl⟩ := Int.eq_ofNat_of_zero_le hv.1
  obtain ⟨d, hd⟩ := Int.eq_ofNat_of_zero_le (show 0 ≤ c - 96 by omega)
  have e1 : (n : Int) * 2 ^ 5 = ((32 * n : Nat) : Int) := by
    have : (2 : Int) ^ 5 = 32 := by decide
    rw [this]; omega
  have e2 : 32 * n ||| d = 32 * n + d := (Nat.two_pow_add_eq_or_of_lt (i := 5) (show d < 2 ^ 5 by omega) n).symm
  rw [hd, e1, ← iI_nI, ← iI_nI, or_nI, e2, iI_nI, iI_to (by omega) (by omega)]
  omega
theorem wvG_stp {f : Nat → Int32} {sz k v n k' v' n' : Int} (hk : k < 602) (h : k < sz ∧ 97 ≤ nz f k.toNat ∧ nz f k.toNat ≤ 122) (hn : n < 6) (e1 : k' = k + 1) (e2 : v' = nx v (nz f k.toNat)) (e3 : n' = n + 1) : wvG f sz (602 - k).toNat k v n = wvG f sz (602 - k').toNat k' v' n' := by
  subst e1 e2 e3
  rw [show (602 - k).toNat = (602 - (k + 1)).toNat + 1 by omega, wvG, if_pos h, if_pos hn]
theorem wvG_stq {f : Nat → Int32} {sz k v n : Int} (hk : k < 602) (h : k < sz ∧ 97 ≤ nz f k.toNat ∧ nz f k.toNat ≤ 122) : wvG f sz (602 - k).toNat k v n = wvG f sz (602 - (k + 1)).toNat (k + 1) (if n < 6 then nx v (nz f k.toNat) else 0) (n + 1) := by
  rw [show (602 - k).toNat = (602 - (k + 1)).toNat + 1 by omega, wvG, if_pos h]
theorem wvG_ge (f : Nat → Int32) (sz : Int) : ∀ (fu : Nat) (k v n : Int), n ≤ (wvG f sz fu k v n).2
  | 0, k, v, n => Int.le_refl n
  | fu + 1, k, v, n => by
    rw [wvG]
    by_cases h : k < sz ∧ 97 ≤ nz f k.toNat ∧ nz f k.toNat ≤ 122
    · rw [if_pos h]
      have := wvG_ge f sz fu (k + 1) (if n < 6 then nx v (nz f k.toNat) else 0) (n + 1)
      omega
    · rw [if_neg h]; exact Int.le_refl n
theorem rn_run {g : Nat → Int} {n p : Int} (h0 : 0 ≤ p) : ∀ L : Nat, (∀ t : Nat, t < L → p + (t : Int) < n ∧ 97 ≤ g (p + (t : Int)).toNat ∧ g (p + (t : Int)).toNat ≤ 122) → rnI pSm g n (p + (L : Int)) = rnI pSm g n p
  | 0, _ => by rw [show p + ((0 : Nat) : Int) = p by omega]
  | L + 1, h => by
    have ih := rn_run (g := g) (n := n) h0 L (fun t ht => h t (by omega))
    have q := h L (by omega)
    have e := rnI_go (p := pSm) (g := g) (n := n) (a := p + (L : Int)) (b := p + ((L + 1 : Nat) : Int)) (by omega) q.1 (pSm_t q.2) (by omega)
    rw [e, ih]
theorem isW_x {g : Nat → Int} {n p k : Int} (h0 : 0 ≤ p) (hk : 1 ≤ k ∧ k ≤ 27) : isW g n p k ↔ p + slen k ≤ n ∧ (∀ t : Int, 0 ≤ t → t < slen k → g (p + t).toNat = sch k t) ∧ ¬ (p + slen k < n ∧ 97 ≤ g (p + slen k).toNat ∧ g (p + slen k).toNat ≤ 122) := by
  have s1 := sl_pos k.toNat (by omega) (by omega)
  rw [show ((k.toNat : Nat) : Int) = k by omega] at s1
  constructor
  · intro h
    have q1 := rnI_le pSm g (n := n) h0
    have q2 := rnI_end pSm g (n := n) h0
    rw [h.1] at q1 q2
    exact ⟨by omega, h.2, fun w => q2 ⟨w.1, pSm_t w.2⟩⟩
  · rintro ⟨h1, h2, h3⟩
    refine ⟨?_, h2⟩
    have r := rn_run (g := g) (n := n) h0 (slen k).toNat (fun t ht => by
      have a := h2 (t : Int) (by omega) (by omega)
      have b := sch_lo k.toNat (by omega) t (by unfold slen at ht; omega)
      have c : sch k (t : Int) = (wdT.getD k.toNat []).getD t 0 := rfl
      omega)
    rw [show p + (((slen k).toNat : Nat) : Int) = p + slen k by omega] at r
    rw [← r]
    exact rn_sm (by omega) h3
/-- letters as digits -/
def VL (d : Nat → Int) : Nat → Int
  | 0 => 0
  | j + 1 => 32 * VL d j + d j
theorem VL_nn {d : Nat → Int} : ∀ L : Nat, (∀ t : Nat, t < L → 1 ≤ d t ∧ d t ≤ 26) → 0 ≤ VL d L
  | 0, _ => Int.le_refl 0
  | L + 1, h => by
    have a := h L (by omega)
    have b := VL_nn L (fun t ht => h t (by omega))
    have c : VL d (L + 1) = 32 * VL d L + d L := rfl
    omega
theorem VL_inj {d e : Nat → Int} : ∀ L M : Nat, (∀ t : Nat, t < L → 1 ≤ d t ∧ d t ≤ 26) → (∀ t : Nat, t < M → 1 ≤ e t ∧ e t ≤ 26) → VL d L = VL e M → L = M ∧ ∀ t : Nat, t < L → d t = e t
  | 0, 0, _, _, _ => ⟨rfl, fun t ht => absurd ht (by omega)⟩
  | 0, M + 1, _, he, h => by
    have a := he M (by omega)
    have b : 0 ≤ VL e M := VL_nn M (fun t ht => he t (by omega))
    have c : VL d 0 = 0 := rfl
    have c2 : VL e (M + 1) = 32 * VL e M + e M := rfl
    omega
  | L + 1, 0, hd, _, h => by
    have a := hd L (by omega)
    have b : 0 ≤ VL d L := VL_nn L (fun t ht => hd t (by omega))
    have c : VL e 0 = 0 := rfl
    have c2 : VL d (L + 1) = 32 * VL d L + d L := rfl
    omega
  | L + 1, M + 1, hd, he, h => by
    have a := hd L (by omega)
    have b := he M (by omega)
    have c1 : VL d (L + 1) = 32 * VL d L + d L := rfl
    have c2 : VL e (M + 1) = 32 * VL e M + e M := rfl
    have ih := VL_inj L M (fun t ht => hd t (by omega)) (fun t ht => he t (by omega)) (by omega)
    refine ⟨by omega, fun t ht => ?_⟩
    by_cases q : t = L
    · subst q
      rw [show e t = e M by rw [ih.1]]
      omega
    · exact ih.2 t (by omega)
theorem VL_hi {d : Nat → Int} (h : ∀ t : Nat, t < 5 → d t ≤ 26) : VL d 0 ≤ 33554431 ∧ VL d 1 ≤ 33554431 ∧ VL d 2 ≤ 33554431 ∧ VL d 3 ≤ 33554431 ∧ VL d 4 ≤ 33554431 ∧ VL d 5 ≤ 33554431 := by
  have a0 := h 0 (by decide)
  have a1 := h 1 (by decide)
  have a2 := h 2 (by decide)
  have a3 := h 3 (by decide)
  have a4 := h 4 (by decide)
  have e0 : VL d 0 = 0 := rfl
  have e1 : VL d 1 = 32 * VL d 0 + d 0 := rfl
  have e2 : VL d 2 = 32 * VL d 1 + d 1 := rfl
  have e3 : VL d 3 = 32 * VL d 2 + d 2 := rfl
  have e4 : VL d 4 = 32 * VL d 3 + d 3 := rfl
  have e5 : VL d 5 = 32 * VL d 4 + d 4 := rfl
  omega
theorem VL_le {d : Nat → Int} : ∀ L : Nat, L ≤ 5 → (∀ t : Nat, t < L → 1 ≤ d t ∧ d t ≤ 26) → VL d L ≤ 33554431 := by
  intro L hL h
  have q := VL_hi (d := fun t => if t < L then d t else 0) (fun t _ => by
    by_cases w : t < L
    · rw [if_pos w]; exact (h t w).2
    · rw [if_neg w]; decide)
  have e : ∀ M : Nat, M ≤ L → VL (fun t => if t < L then d t else 0) M = VL d M := by
    intro M
    induction M with
    | zero => intro _; rfl
    | succ M ih =>
      intro hM
      show 32 * VL (fun t => if t < L then d t else 0) M + (if M < L then d M else 0) = 32 * VL d M + d M
      rw [ih (by omega), if_pos (by omega)]
  have e2 := e L (Nat.le_refl L)
  rcases (show L = 0 ∨ L = 1 ∨ L = 2 ∨ L = 3 ∨ L = 4 ∨ L = 5 by omega) with r | r | r | r | r | r <;> subst r <;> omega
theorem wv_steps {f : Nat → Int32} {sz a : Int} (h0 : 0 ≤ a) (hs : sz ≤ 600) {L : Nat} (hL : ∀ t : Nat, t < L → a + (t : Int) < sz ∧ 97 ≤ nz f (a + (t : Int)).toNat ∧ nz f (a + (t : Int)).toNat ≤ 122) : ∀ j : Nat, j ≤ L → j ≤ 6 → wvG f sz (602 - a).toNat a 0 0 = wvG f sz (602 - (a + (j : Int))).toNat (a + (j : Int)) (VL (fun t => nz f (a + (t : Int)).toNat - 96) j) (j : Int)
  | 0, _, _ => by
    rw [show a + ((0 : Nat) : Int) = a by omega]
    rfl
  | j + 1, h1, h2 => by
    rw [wv_steps h0 hs hL j (by omega) (by omega)]
    have q := hL j (by omega)
    have hd : ∀ t : Nat, t < j → 1 ≤ nz f (a + (t : Int)).toNat - 96 ∧ nz f (a + (t : Int)).toNat - 96 ≤ 26 := fun t ht => by
      have := hL t (by omega)
      omega
    have hv : 0 ≤ VL (fun t => nz f (a + (t : Int)).toNat - 96) j := VL_nn j hd
    have hv2 : VL (fun t => nz f (a + (t : Int)).toNat - 96) j ≤ 33554431 := VL_le j (by omega) hd
    refine wvG_stp (by omega) q (by omega) (by omega) ?_ (by omega)
    rw [nx_lin ⟨hv, hv2⟩ q.2]
    rfl
theorem wv_val {f : Nat → Int32} {sz a : Int} (h0 : 0 ≤ a) (hs : sz ≤ 600) {L : Nat} (hr : rnI pSm (nz f) sz a = a + (L : Int)) : (L ≤ 6 → wv f sz a = VL (fun t => nz f (a + (t : Int)).toNat - 96) L) ∧ (¬ L ≤ 6 → wv f sz a = 0) := by
  have hL : ∀ t : Nat, t < L → a + (t : Int) < sz ∧ 97 ≤ nz f (a + (t : Int)).toNat ∧ nz f (a + (t : Int)).toNat ≤ 122 := by
    intro t
    induction t using Nat.strongRecOn with
    | _ t ih =>
      intro ht
      by_cases q : a + (t : Int) < sz ∧ 97 ≤ nz f (a + (t : Int)).toNat ∧ nz f (a + (t : Int)).toNat ≤ 122
      · exact q
      · have r := rn_run (g := nz f) (n := sz) h0 t (fun s hs => ih s hs (by omega))
        rw [rn_sm (by omega) q, hr] at r
        omega
  have hst : ¬ (a + (L : Int) < sz ∧ 97 ≤ nz f (a + (L : Int)).toNat ∧ nz f (a + (L : Int)).toNat ≤ 122) := by
    intro q
    have e := rnI_end pSm (nz f) (n := sz) h0
    rw [hr] at e
    exact e ⟨q.1, pSm_t q.2⟩
  constructor
  · intro h6
    unfold wv
    rw [wv_steps h0 hs hL L (Nat.le_refl L) h6, wvG_end _ hst, if_neg (show ¬ (6 : Int) < (L : Int) by omega)]
  · intro h6
    unfold wv
    have q := hL 6 (by omega)
    have e := wv_steps h0 hs hL 6 (by omega) (Nat.le_refl 6)
    rw [wvG_stq (by omega) q] at e
    have g := wvG_ge f sz (602 - (a + ((6 : Nat) : Int) + 1)).toNat (a + ((6 : Nat) : Int) + 1) (if ((6 : Nat) : Int) < 6 then nx (VL (fun t => nz f (a + (t : Int)).toNat - 96) 6) (nz f (a + ((6 : Nat) : Int)).toNat) else 0) (((6 : Nat) : Int) + 1)
    rw [e, if_pos (by omega)]
/-- a word of the table as a number -/
def cod (k : Int) : Int := VL (fun t => sch k (t : Int) - 96) (slen k).toNat
theorem wv_iff {f : Nat → Int32} {sz a k : Int} (h0 : 0 ≤ a) (hs : sz ≤ 600) (hk : 1 ≤ k ∧ k ≤ 27) (h6 : slen k ≤ 6) : wv f sz a = cod k ↔ isW (nz f) sz a k := by
  have s1 := sl_pos k.toNat (by omega) (by omega)
  rw [show ((k.toNat : Nat) : Int) = k by omega] at s1
  have hc : ∀ t : Nat, t < (slen k).toNat → 1 ≤ sch k (t : Int) - 96 ∧ sch k (t : Int) - 96 ≤ 26 := fun t ht => by
    have b := sch_lo k.toNat (by omega) t (by unfold slen at ht; omega)
    have c : sch k (t : Int) = (wdT.getD k.toNat []).getD t 0 := rfl
    omega
  obtain ⟨L, hL⟩ : ∃ L : Nat, rnI pSm (nz f) sz a = a + (L : Int) := ⟨(rnI pSm (nz f) sz a - a).toNat, by have := (rnI_le pSm (nz f) (n := sz) h0).1; omega⟩
  have hl : ∀ t : Nat, t < L → 97 ≤ nz f (a + (t : Int)).toNat ∧ nz f (a + (t : Int)).toNat ≤ 122 := by
    intro t
    induction t using Nat.strongRecOn with
    | _ t ih =>
      intro ht
      by_cases q : a + (t : Int) < sz ∧ 97 ≤ nz f (a + (t : Int)).toNat ∧ nz f (a + (t : Int)).toNat ≤ 122
      · exact q.2
      · have q2 := (rnI_le pSm (nz f) (n := sz) h0).2
        have r := rn_run (g := nz f) (n := sz) h0 t (fun s hs => ⟨by omega, ih s hs (by omega)⟩)
        rw [rn_sm (by omega) q, hL] at r
        omega
  obtain ⟨v1, v2⟩ := wv_val h0 hs hL
  constructor
  · intro h
    by_cases q : L ≤ 6
    · rw [v1 q] at h
      have e := VL_inj L (slen k).toNat (fun t ht => by have := hl t ht; omega) hc h
      refine ⟨by omega, fun t t0 t1 => ?_⟩
      have := e.2 t.toNat (by omega)
      rw [show ((t.toNat : Nat) : Int) = t by omega] at this
      omega
    · rw [v2 q] at h
      have p := VL_nn (slen k).toNat hc
      have p2 : cod k ≠ 0 := by
        unfold cod
        obtain ⟨j, hj⟩ : ∃ j, (slen k).toNat = j + 1 := ⟨(slen k).toNat - 1, by omega⟩
        rw [hj]
        have a1 := hc j (by omega)
        have a2 := VL_nn (d := fun t => sch k (t : Int) - 96) j (fun t ht => hc t (by omega))
        have a3 : VL (fun t => sch k (t : Int) - 96) (j + 1) = 32 * VL (fun t => sch k (t : Int) - 96) j + (sch k (j : Int) - 96) := rfl
        omega
      exact absurd h.symm p2
  · intro h
    have e : L = (slen k).toNat := by have := h.1; omega
    rw [v1 (by omega), e]
    unfold cod
    have : ∀ M : Nat, M ≤ (slen k).toNat → VL (fun t => nz f (a + (t : Int)).toNat - 96) M = VL (fun t => sch k (t : Int) - 96) M := by
      intro M
      induction M with
      | zero => intro _; rfl
      | succ M ih =>
        intro hM
        show 32 * VL (fun t => nz f (a + (t : Int)).toNat - 96) M + (nz f (a + (M : Int)).toNat - 96) = 32 * VL (fun t => sch k (t : Int) - 96) M + (sch k (M : Int) - 96)
        rw [ih (by omega), h.2 (M : Int) (by omega) (by omega)]
    exact this _ (Nat.le_refl _)
theorem wv_7 {f : Nat → Int32} {sz a k : Int} (h0 : 0 ≤ a) (hs : sz ≤ 600) (h7 : slen k = 7) (h : isW (nz f) sz a k) : wv f sz a = 0 := by
  have e : rnI pSm (nz f) sz a = a + ((7 : Nat) : Int) := by rw [h.1, h7]; rfl
  exact (wv_val h0 hs e).2 (by decide)
theorem cod_1 : cod 1 = 632645 ∧ slen 1 ≤ 6 := by decide
theorem cod_2 : cod 2 = 271592 ∧ slen 2 ≤ 6 := by decide
theorem cod_3 : cod 3 = 4785454 ∧ slen 3 ≤ 6 := by decide
theorem cod_4 : cod 4 = 542723566 ∧ slen 4 ≤ 6 := by decide
theorem cod_6 : cod 6 = 3544114 ∧ slen 6 ≤ 6 := by decide
theorem cod_7 : cod 7 = 18916965 ∧ slen 7 ≤ 6 := by decide
theorem cod_8 : cod 8 = 13098162 ∧ slen 8 ≤ 6 := by decide
theorem cod_9 : cod 9 = 81477 ∧ slen 9 ≤ 6 := by decide
theorem wk_cases {f : Nat → Int32} {sz a : Int} (h0 : 0 ≤ a) (hs : sz ≤ 600) : (wk (nz f) sz a = 1 ∧ wv f sz a = 632645) ∨ (wk (nz f) sz a = 2 ∧ wv f sz a = 271592) ∨ (wk (nz f) sz a = 3 ∧ wv f sz a = 4785454) ∨ (wk (nz f) sz a = 4 ∧ wv f sz a = 542723566) ∨ (wk (nz f) sz a = 5 ∧ wv f sz a = 0) ∨ (wk (nz f) sz a = 6 ∧ wv f sz a = 3544114) ∨ (wk (nz f) sz a = 7 ∧ wv f sz a = 18916965) ∨ (wk (nz f) sz a = 8 ∧ wv f sz a = 13098162) ∨ (wk (nz f) sz a = 9 ∧ wv f sz a = 81477) ∨ (¬ (1 ≤ wk (nz f) sz a ∧ wk (nz f) sz a ≤ 9) ∧ wv f sz a ≠ 632645 ∧ wv f sz a ≠ 271592 ∧ wv f sz a ≠ 4785454 ∧ wv f sz a ≠ 542723566 ∧ wv f sz a ≠ 3544114 ∧ wv f sz a ≠ 18916965 ∧ wv f sz a ≠ 13098162 ∧ wv f sz a ≠ 81477) := by
  have e1 : wv f sz a = 632645 ↔ wk (nz f) sz a = 1 := by rw [← cod_1.1, wv_iff h0 hs (by decide) cod_1.2]; exact (wk_iff (by decide)).symm
  have e2 : wv f sz a = 271592 ↔ wk (nz f) sz a = 2 := by rw [← cod_2.1, wv_iff h0 hs (by decide) cod_2.2]; exact (wk_iff (by decide)).symm
  have e3 : wv f sz a = 4785454 ↔ wk (nz f) sz a = 3 := by rw [← cod_3.1, wv_iff h0 hs (by decide) cod_3.2]; exact (wk_iff (by decide)).symm
  have e4 : wv f sz a = 542723566 ↔ wk (nz f) sz a = 4 := by rw [← cod_4.1, wv_iff h0 hs (by decide) cod_4.2]; exact (wk_iff (by decide)).symm
  have e6 : wv f sz a = 3544114 ↔ wk (nz f) sz a = 6 := by rw [← cod_6.1, wv_iff h0 hs (by decide) cod_6.2]; exact (wk_iff (by decide)).symm
  have e7 : wv f sz a = 18916965 ↔ wk (nz f) sz a = 7 := by rw [← cod_7.1, wv_iff h0 hs (by decide) cod_7.2]; exact (wk_iff (by decide)).symm
  have e8 : wv f sz a = 13098162 ↔ wk (nz f) sz a = 8 := by rw [← cod_8.1, wv_iff h0 hs (by decide) cod_8.2]; exact (wk_iff (by decide)).symm
  have e9 : wv f sz a = 81477 ↔ wk (nz f) sz a = 9 := by rw [← cod_9.1, wv_iff h0 hs (by decide) cod_9.2]; exact (wk_iff (by decide)).symm
  by_cases q : 1 ≤ wk (nz f) sz a ∧ wk (nz f) sz a ≤ 9
  · rcases (show wk (nz f) sz a = 1 ∨ wk (nz f) sz a = 2 ∨ wk (nz f) sz a = 3 ∨ wk (nz f) sz a = 4 ∨ wk (nz f) sz a = 5 ∨ wk (nz f) sz a = 6 ∨ wk (nz f) sz a = 7 ∨ wk (nz f) sz a = 8 ∨ wk (nz f) sz a = 9 by omega) with r | r | r | r | r | r | r | r | r
    · exact Or.inl ⟨r, e1.mpr r⟩
    · exact Or.inr (Or.inl ⟨r, e2.mpr r⟩)
    · exact Or.inr (Or.inr (Or.inl ⟨r, e3.mpr r⟩))
    · exact Or.inr (Or.inr (Or.inr (Or.inl ⟨r, e4.mpr r⟩)))
    · exact Or.inr (Or.inr (Or.inr (Or.inr (Or.inl ⟨r, wv_7 h0 hs (by decide) ((wk_iff (by decide)).mp r)⟩))))
    · exact Or.inr (Or.inr (Or.inr (Or.inr (Or.inr (Or.inl ⟨r, e6.mpr r⟩)))))
    · exact Or.inr (Or.inr (Or.inr (Or.inr (Or.inr (Or.inr (Or.inl ⟨r, e7.mpr r⟩))))))
    · exact Or.inr (Or.inr (Or.inr (Or.inr (Or.inr (Or.inr (Or.inr (Or.inl ⟨r, e8.mpr r⟩)))))))
    · exact Or.inr (Or.inr (Or.inr (Or.inr (Or.inr (Or.inr (Or.inr (Or.inr (Or.inl ⟨r, e9.mpr r⟩))))))))
  · exact Or.inr (Or.inr (Or.inr (Or.inr (Or.inr (Or.inr (Or.inr (Or.inr (Or.inr (⟨q, fun r => q (by have := e1.mp r; omega), fun r => q (by have := e2.mp r; omega), fun r => q (by have := e3.mp r; omega), fun r => q (by have := e4.mp r; omega), fun r => q (by have := e6.mp r; omega), fun r => q (by have := e7.mp r; omega), fun r => q (by have := e8.mp r; omega), fun r => q (by have := e9.mp r; omega)⟩)))))))))
/-- the reference's fault, as the class counts it -/
def fr_ (b k : Int) : Int := if b = -1 then 0 else k
theorem fr_g {b k : Int} (h : b = -1) : fr_ b k = 0 := if_pos h
theorem fr_b {b k : Int} (h : b ≠ -1) : fr_ b k = k := if_neg h
theorem fr_n {b k : Int} (h : b ≠ -1) (hk : 1 ≤ k) : fr_ b k ≠ 0 := by rw [fr_b h]; omega
theorem fr_i {b k : Int} (h : fr_ b k = 0) (hk : b ≠ -1 → 1 ≤ k) : b = -1 := by
  by_cases q : b = -1
  · exact q
  · exact absurd h (fr_n q (hk q))
def HeS (g : Nat → Int) (n a r a' : Int) : Prop := a' = rnI pSp g n a ∧ (a' < n → r = g a'.toNat) ∧ (¬ a' < n → r = 0)
theorem HeS_1 {g : Nat → Int} {n a x : Int} (hl : rnI pSp g n x = rnI pSp g n a) (h0 : 0 ≤ x) (hx : ¬ x < n) : HeS g n a 0 x :=
  ⟨by rw [← hl, rn_sp h0 (fun q => hx q.1)], fun q => absurd q hx, fun _ => rfl⟩
theorem HeS_2 {g : Nat → Int} {n a x r : Int} (hl : rnI pSp g n x = rnI pSp g n a) (h0 : 0 ≤ x) (hx : x < n) (hg : g x.toNat ≠ 32) (hr : r = g x.toNat) : HeS g n a r x :=
  ⟨by rw [← hl, rn_sp h0 (fun q => hg q.2)], fun _ => hr, fun q => absurd hx q⟩
theorem HeS_S {g : Nat → Int} {n a r b : Int} (h : HeS g n a r b) : ∃ r' : Int, SiS g n a 0 r' b ∧ (r' = r ∨ (r' = -1 ∧ r = 0)) := by
  obtain ⟨h1, h2, h3⟩ := h
  by_cases hb : b < n
  · exact ⟨r, ⟨fun q => absurd rfl q, fun _ => ⟨h1, h2, fun q => absurd hb q⟩⟩, Or.inl rfl⟩
  · exact ⟨-1, ⟨fun q => absurd rfl q, fun _ => ⟨h1, fun q => absurd q hb, fun _ => rfl⟩⟩, Or.inr ⟨rfl, h3 hb⟩⟩
section MOD
variable {g : Nat → Int} {n lo hi a bad bk v a' bad' bk' r b x w c : Int}
theorem NuR_0 (h : bad ≠ -1) (hk : 1 ≤ bk) : NuP g n lo hi a (fr_ bad bk) bad v a' (fr_ bad bk) bad :=
  ⟨⟨fun _ => ⟨rfl, rfl⟩, fun q => absurd q (fr_n h hk)⟩, fun q => absurd q (fr_n h hk)⟩
theorem NuR_1 (h : bad = -1) (hh : HeS g n a r b) (hr : ¬ (48 ≤ r ∧ r ≤ 57)) (h1 : bad' = b ∧ bad' ≠ -1) (h2 : bk' = 1) : NuP g n lo hi a (fr_ bad bk) bad v a' (fr_ bad' bk') bad' := by
  rw [fr_g h, fr_b h1.2]
  obtain ⟨r', hS, he⟩ := HeS_S hh
  exact NuP_1 hS (by omega) (fun q => absurd rfl q) (fun _ => ⟨h2, h1.1⟩)
theorem NuR_2 (h : bad = -1) (hh : HeS g n a r b) (hr : 48 ≤ r ∧ r ≤ 57) (hl : rnI pDg g n x = rnI pDg g n b) (hv : vlI g n x w = vlI g n b 0) (hx : 0 ≤ x) (hs : ¬ (x < n ∧ 48 ≤ g x.toNat ∧ g x.toNat ≤ 57)) (h1 : (lo ≤ w ∧ w ≤ hi ∧ bad' = -1 ∧ a' = x ∧ v = w) ∨ (¬ (lo ≤ w ∧ w ≤ hi) ∧ bad' = b ∧ bad' ≠ -1 ∧ bk' = 2)) : NuP g n lo hi a (fr_ bad bk) bad v a' (fr_ bad' bk') bad' := by
  rw [fr_g h]
  obtain ⟨r', hS, he⟩ := HeS_S hh
  rcases h1 with ⟨q1, q2, q3, q4, q5⟩ | ⟨q1, q2, q3, q4⟩
  · rw [fr_g q3]
    subst q5
    exact NuP_2 hS (by omega) hl hv hx hs (Or.inl ⟨q1, q2, rfl, q4⟩)
  · rw [fr_b q3]
    have t := NuP_2 (v := w) (a' := a') (f' := bk') (p := bad) (p' := bad') hS (by omega) hl hv hx hs (Or.inr ⟨q1, fun _ => ⟨q4, q2⟩⟩)
    exact ⟨t.1, fun q => by omega⟩
theorem SgR_0 (h : bad ≠ -1) (hk : 1 ≤ bk) : SgP g n c a (fr_ bad bk) bad a' (fr_ bad bk) bad := ⟨fun _ => ⟨rfl, rfl⟩, fun q => absurd q (fr_n h hk)⟩
theorem SgR_1 (h : bad = -1) (hh : HeS g n a r b) (hc : 1 ≤ c) (hr : r = c) (h1 : bad' = -1) (ha : a' = b + 1) : SgP g n c a (fr_ bad bk) bad a' (fr_ bad' bk') bad' := by
  rw [fr_g h, fr_g h1]
  obtain ⟨r', hS, he⟩ := HeS_S hh
  exact SgP_1 hS (by omega) (by omega) rfl ha
theorem SgR_2 (h : bad = -1) (hh : HeS g n a r b) (hc : 1 ≤ c) (hr : r ≠ c) (h1 : bad' = b ∧ bad' ≠ -1) (h2 : bk' = 1) : SgP g n c a (fr_ bad bk) bad a' (fr_ bad' bk') bad' := by
  rw [fr_g h, fr_b h1.2]
  obtain ⟨r', hS, he⟩ := HeS_S hh
  exact SgP_2 hS (by omega) (fun q => absurd rfl q) (fun _ => ⟨h2, h1.1⟩)
def MoS (g : Nat → Int) (n a r a' : Int) : Prop := a' = rnI pSp g n a ∧ (r = 1 → a' < n) ∧ (r = 0 → ¬ a' < n)
theorem NuP.m {p p' : Int} (h : NuP g n lo hi a (fr_ bad bk) p v a' (fr_ bad' bk') p') (q : bad' = -1) : v = nV g n a ∧ a' = nA g n a := ⟨(NuP.v h (fr_g q)).1, (NuP.v h (fr_g q)).2.1⟩
end MOD
