
theorem SQ.fw {q : Nat → Int} {f f1 : Nat → Int32} {e v : Int} (h : ∀ j : Nat, FRq j → nz f j = q j) (hd : f1 = upd f (iI e).toNatClampNeg (iI v)) (he : 0 ≤ e ∧ e ≤ 2147483647) (hv : -2147483648 ≤ v ∧ v ≤ 2147483647) : ∀ j : Nat, FRq j → nz f1 j = upz q e v j := by
  intro j hj
  by_cases c : (j : Int) = e
  · rw [upz_s c]; exact nz_us hd he hv c
  · rw [upz_n c, nz_un hd he c]; exact h j hj
/-- what is planned: the class's numbers, and the reference's places -/
def RPl (cars dips : Int) (tf df sh : Nat → Int32) (S : Nat → Int) : Prop := (0 ≤ cars ∧ cars ≤ 20) ∧ (0 ≤ dips ∧ dips ≤ 9) ∧ S 252 = cars ∧ S 357 = dips ∧ (∀ k : Nat, k < 4 → nz sh k = S (353 + k)) ∧ (∀ j : Nat, (j : Int) < 5 * cars → nz tf j = S (253 + j)) ∧ ∀ j : Nat, (j : Int) < 3 * dips → nz df j = S (358 + j)
theorem RPl.fr {cars dips : Int} {tf df sh : Nat → Int32} {S S1 : Nat → Int} (h : RPl cars dips tf df sh S) (e : ∀ j : Nat, FRq j → S1 j = S j) : RPl cars dips tf df sh S1 := by
  obtain ⟨h1, h2, h3, h4, h5, h6, h7⟩ := h
  refine ⟨h1, h2, ?_, ?_, fun k hk => ?_, fun j hj => ?_, fun j hj => ?_⟩
  · rw [e 252 (by unfold FRq; omega)]; exact h3
  · rw [e 357 (by unfold FRq; omega)]; exact h4
  · rw [e (353 + k) (by unfold FRq; omega)]; exact h5 k hk
  · rw [e (253 + j) (by unfold FRq; omega)]; exact h6 j hj
  · rw [e (358 + j) (by unfold FRq; omega)]; exact h7 j hj
/-- what a street is told once for all -/
def RSt (wi ro dt pe sh wo : Int) (sf kf : Nat → Int32) (nb : Nat → Int) : Prop := wi = nb 0 ∧ ro = nb 1 ∧ dt = nb 2 ∧ pe = nb 3 ∧ sh = nb 4 ∧ wo = nb 5 ∧ DS nb sf ∧ DK nb kf
theorem RSt.ext {wi ro dt pe sh wo : Int} {sf kf sf1 kf1 : Nat → Int32} {nb : Nat → Int} (h : RSt wi ro dt pe sh wo sf kf nb) (h4 : sh ≤ 2) (h5 : wo ≤ 8) (e1 : ∀ j : Nat, j < 4 → sf1 j = sf j) (e2 : ∀ j : Nat, j < 40 → kf1 j = kf j) : RSt wi ro dt pe sh wo sf1 kf1 nb := by
  obtain ⟨a0, a1, a2, a3, a4, a5, a6, a7⟩ := h
  refine ⟨a0, a1, a2, a3, a4, a5, fun k h0 h1 => ?_, fun k h0 h1 => ?_⟩
  · have := a6 k h0 h1
    rw [nz_ext (e1 _ (by omega)), nz_ext (e1 _ (by omega))]; exact this
  · have := a7 k h0 h1
    rw [nz_ext (e2 _ (by omega)), nz_ext (e2 _ (by omega)), nz_ext (e2 _ (by omega)), nz_ext (e2 _ (by omega)), nz_ext (e2 _ (by omega))]; exact this
theorem RPl.ext {cars dips : Int} {tf df sh tf1 df1 sh1 : Nat → Int32} {S S1 : Nat → Int} (h : RPl cars dips tf df sh S) (e1 : ∀ j : Nat, j < 100 → tf1 j = tf j) (e2 : ∀ j : Nat, j < 27 → df1 j = df j) (e3 : ∀ j : Nat, j < 4 → sh1 j = sh j) (e : ∀ j : Nat, FRq j → S1 j = S j) : RPl cars dips tf1 df1 sh1 S1 := by
  have h := h.fr e
  obtain ⟨h1, h2, h3, h4, h5, h6, h7⟩ := h
  refine ⟨h1, h2, h3, h4, fun k hk => ?_, fun j hj => ?_, fun j hj => ?_⟩
  · rw [nz_ext (e3 k hk)]; exact h5 k hk
  · rw [nz_ext (e1 j (by omega))]; exact h6 j hj
  · rw [nz_ext (e2 j (by omega))]; exact h7 j hj
theorem cpe_ {f g : Nat → Int32} {n : Nat} {N : Int32} (hn : N.toNatClampNeg = n) : ∀ j : Nat, j < n → va_cpy f g (iI 0).toNatClampNeg (iI 0).toNatClampNeg N.toNatClampNeg j = f j := by
  intro j hj
  have z : (iI 0).toNatClampNeg = 0 := by decide
  unfold va_cpy
  rw [hn, z, if_pos ⟨Nat.zero_le _, by omega⟩]
  congr 1
  omega
/-- an image of the reference -/
def imz (f : Nat → Int32) (k : Nat) : Nat → Int := fun j => nz f (389 * k + j)
/-- whether a car may be told -/
def TrR (p0 p1 p2 p3 p4 ro : Int) : Int := if 0 ≤ p0 ∧ p0 ≤ 99 ∧ 0 ≤ p1 ∧ p1 ≤ ro - 1 ∧ 1 ≤ p2 ∧ p2 ≤ 60 ∧ 1 ≤ p3 ∧ p3 ≤ 9 ∧ 0 ≤ p4 ∧ p4 ≤ 3 then 0 else 1
theorem TrR_0 {p0 p1 p2 p3 p4 ro : Int} (h : 0 ≤ p0 ∧ p0 ≤ 99 ∧ 0 ≤ p1 ∧ p1 ≤ ro - 1 ∧ 1 ≤ p2 ∧ p2 ≤ 60 ∧ 1 ≤ p3 ∧ p3 ≤ 9 ∧ 0 ≤ p4 ∧ p4 ≤ 3) : TrR p0 p1 p2 p3 p4 ro = 0 := if_pos h
theorem TrR_1 {p0 p1 p2 p3 p4 ro : Int} (h : ¬ (0 ≤ p0 ∧ p0 ≤ 99 ∧ 0 ≤ p1 ∧ p1 ≤ ro - 1 ∧ 1 ≤ p2 ∧ p2 ≤ 60 ∧ 1 ≤ p3 ∧ p3 ≤ 9 ∧ 0 ≤ p4 ∧ p4 ≤ 3)) : TrR p0 p1 p2 p3 p4 ro = 1 := if_neg h
theorem TrR_r (p0 p1 p2 p3 p4 ro : Int) : TrR p0 p1 p2 p3 p4 ro = 0 ∨ TrR p0 p1 p2 p3 p4 ro = 1 := by unfold TrR; split <;> simp
/-- a car more: the places -/
def carZ (S : Nat → Int) (c p0 p1 p2 p3 p4 : Int) : Nat → Int := upz (upz (upz (upz (upz (upz S (253 + 5 * c) p0) (254 + 5 * c) p1) (255 + 5 * c) p2) (256 + 5 * c) p3) (257 + 5 * c) p4) 252 (c + 1)
def carT (f : Nat → Int) (c p0 p1 p2 p3 p4 : Int) : Nat → Int := upz (upz (upz (upz (upz f (5 * c) p0) (5 * c + 1) p1) (5 * c + 2) p2) (5 * c + 3) p3) (5 * c + 4) p4
theorem RPl.car {cars dips p0 p1 p2 p3 p4 : Int} {tf df sh tf1 : Nat → Int32} {S S1 : Nat → Int} (h : RPl cars dips tf df sh S) (hc : cars < 20) (e1 : nz tf1 = carT (nz tf) cars p0 p1 p2 p3 p4) (e : ∀ j : Nat, FRq j → S1 j = carZ S cars p0 p1 p2 p3 p4 j) : RPl (cars + 1) dips tf1 df sh S1 := by
  obtain ⟨h1, h2, h3, h4, h5, h6, h7⟩ := h
  have far : ∀ j : Nat, FRq j → 353 ≤ j → S1 j = S j := fun j hj h9 => by
    rw [e j hj]; unfold carZ
    rw [upz_n (by omega), upz_n (by omega), upz_n (by omega), upz_n (by omega), upz_n (by omega), upz_n (by omega)]
  refine ⟨by omega, h2, ?_, ?_, fun k hk => ?_, fun j hj => ?_, fun j hj => ?_⟩
  · rw [e 252 (by unfold FRq; omega)]; unfold carZ; exact upz_s rfl
  · rw [far 357 (by unfold FRq; omega) (by omega)]; exact h4
  · rw [far (353 + k) (by unfold FRq; omega) (by omega)]; exact h5 k hk
  · rw [e (253 + j) (by unfold FRq; omega), e1]
    unfold carZ carT
    rw [upz_n (show ((253 + j : Nat) : Int) ≠ 252 by omega)]
    by_cases c4 : (j : Int) = 5 * cars + 4
    · rw [upz_s c4, upz_s (show ((253 + j : Nat) : Int) = 257 + 5 * cars by omega)]
    · rw [upz_n c4, upz_n (show ((253 + j : Nat) : Int) ≠ 257 + 5 * cars by omega)]
      by_cases c3 : (j : Int) = 5 * cars + 3
      · rw [upz_s c3, upz_s (show ((253 + j : Nat) : Int) = 256 + 5 * cars by omega)]
      · rw [upz_n c3, upz_n (show ((253 + j : Nat) : Int) ≠ 256 + 5 * cars by omega)]
        by_cases c2 : (j : Int) = 5 * cars + 2
        · rw [upz_s c2, upz_s (show ((253 + j : Nat) : Int) = 255 + 5 * cars by omega)]
        · rw [upz_n c2, upz_n (show ((253 + j : Nat) : Int) ≠ 255 + 5 * cars by omega)]
          by_cases c1 : (j : Int) = 5 * cars + 1
          · rw [upz_s c1, upz_s (show ((253 + j : Nat) : Int) = 254 + 5 * cars by omega)]
          · rw [upz_n c1, upz_n (show ((253 + j : Nat) : Int) ≠ 254 + 5 * cars by omega)]
            by_cases c0 : (j : Int) = 5 * cars
            · rw [upz_s c0, upz_s (show ((253 + j : Nat) : Int) = 253 + 5 * cars by omega)]
            · rw [upz_n c0, upz_n (show ((253 + j : Nat) : Int) ≠ 253 + 5 * cars by omega)]
              exact h6 j (by omega)
  · rw [far (358 + j) (by unfold FRq; omega) (by omega)]; exact h7 j hj
theorem RPl.clear {cars dips : Int} {tf df sh : Nat → Int32} {S S1 : Nat → Int} (h : RPl cars dips tf df sh S) (e : ∀ j : Nat, FRq j → S1 j = upz S 252 0 j) : RPl 0 dips tf df sh S1 := by
  obtain ⟨h1, h2, h3, h4, h5, h6, h7⟩ := h
  have far : ∀ j : Nat, FRq j → 353 ≤ j → S1 j = S j := fun j hj h9 => by
    rw [e j hj, upz_n (by omega)]
  refine ⟨by omega, h2, ?_, ?_, fun k hk => ?_, fun j hj => by omega, fun j hj => ?_⟩
  · rw [e 252 (by unfold FRq; omega)]; exact upz_s rfl
  · rw [far 357 (by unfold FRq; omega) (by omega)]; exact h4
  · rw [far (353 + k) (by unfold FRq; omega) (by omega)]; exact h5 k hk
  · rw [far (358 + j) (by unfold FRq; omega) (by omega)]; exact h7 j hj
def dipZ (S : Nat → Int) (c p0 p1 p2 : Int) : Nat → Int := upz (upz (upz (upz S (358 + 3 * c) p0) (359 + 3 * c) p1) (360 + 3 * c) p2) 357 (c + 1)
def dipT (f : Nat → Int) (c p0 p1 p2 : Int) : Nat → Int := upz (upz (upz f (3 * c) p0) (3 * c + 1) p1) (3 * c + 2) p2
theorem RPl.dip {cars dips p0 p1 p2 : Int} {tf df sh df1 : Nat → Int32} {S S1 : Nat → Int} (h : RPl cars dips tf df sh S) (hc : dips < 9) (e1 : nz df1 = dipT (nz df) dips p0 p1 p2) (e : ∀ j : Nat, FRq j → S1 j = dipZ S dips p0 p1 p2 j) : RPl cars (dips + 1) tf df1 sh S1 := by
  obtain ⟨h1, h2, h3, h4, h5, h6, h7⟩ := h
  have far : ∀ j : Nat, FRq j → j < 357 → S1 j = S j := fun j hj h9 => by
    rw [e j hj]; unfold dipZ
    rw [upz_n (by omega), upz_n (by omega), upz_n (by omega), upz_n (by omega)]
  refine ⟨h1, by omega, ?_, ?_, fun k hk => ?_, fun j hj => ?_, fun j hj => ?_⟩
  · rw [far 252 (by unfold FRq; omega) (by omega)]; exact h3
  · rw [e 357 (by unfold FRq; omega)]; unfold dipZ; exact upz_s rfl
  · rw [far (353 + k) (by unfold FRq; omega) (by omega)]; exact h5 k hk
  · rw [far (253 + j) (by unfold FRq; omega) (by omega)]; exact h6 j hj
  · rw [e (358 + j) (by unfold FRq; omega), e1]
    unfold dipZ dipT
    rw [upz_n (show ((358 + j : Nat) : Int) ≠ 357 by omega)]
    by_cases c2 : (j : Int) = 3 * dips + 2
    · rw [upz_s c2, upz_s (show ((358 + j : Nat) : Int) = 360 + 3 * dips by omega)]
    · rw [upz_n c2, upz_n (show ((358 + j : Nat) : Int) ≠ 360 + 3 * dips by omega)]
      by_cases c1 : (j : Int) = 3 * dips + 1
      · rw [upz_s c1, upz_s (show ((358 + j : Nat) : Int) = 359 + 3 * dips by omega)]
      · rw [upz_n c1, upz_n (show ((358 + j : Nat) : Int) ≠ 359 + 3 * dips by omega)]
        by_cases c0 : (j : Int) = 3 * dips
        · rw [upz_s c0, upz_s (show ((358 + j : Nat) : Int) = 358 + 3 * dips by omega)]
        · rw [upz_n c0, upz_n (show ((358 + j : Nat) : Int) ≠ 358 + 3 * dips by omega)]
          exact h7 j (by omega)
theorem RPl.share {cars dips k v : Int} {tf df sh sh1 : Nat → Int32} {S S1 : Nat → Int} (h : RPl cars dips tf df sh S) (hk : 0 ≤ k ∧ k ≤ 3) (e1 : nz sh1 = upz (nz sh) k v) (e : ∀ j : Nat, FRq j → S1 j = upz S (353 + k) v j) : RPl cars dips tf df sh1 S1 := by
  obtain ⟨h1, h2, h3, h4, h5, h6, h7⟩ := h
  have far : ∀ j : Nat, FRq j → (j < 353 ∨ 357 ≤ j) → S1 j = S j := fun j hj h9 => by
    rw [e j hj, upz_n (by omega)]
  refine ⟨h1, h2, ?_, ?_, fun i hi => ?_, fun j hj => ?_, fun j hj => ?_⟩
  · rw [far 252 (by unfold FRq; omega) (by omega)]; exact h3
  · rw [far 357 (by unfold FRq; omega) (by omega)]; exact h4
  · rw [e (353 + i) (by unfold FRq; omega), e1]
    by_cases c : (i : Int) = k
    · rw [upz_s c, upz_s (show ((353 + i : Nat) : Int) = 353 + k by omega)]
    · rw [upz_n c, upz_n (show ((353 + i : Nat) : Int) ≠ 353 + k by omega)]; exact h5 i hi
  · rw [far (253 + j) (by unfold FRq; omega) (by omega)]; exact h6 j hj
  · rw [far (358 + j) (by unfold FRq; omega) (by omega)]; exact h7 j hj
/-- a text of a street that stands: the plan behind it -/
theorem RPl.new {tf df sh : Nat → Int32} {nb ns S : Nat → Int} {v : Int} (hn : DN nb ns) (h1 : ∀ j : Nat, j < 4 → nz sh j = 1) (e : ∀ j : Nat, j < 389 → S j = upz ns 215 v j) : RPl 0 0 tf df sh S := by
  have z : ∀ j : Nat, 234 ≤ j → j < 389 → S j = ns0 j := fun j a b => by
    rw [e j b, upz_n (by omega), hn.2.2.2.2.2.2 j (by omega)]
  refine ⟨by omega, by omega, ?_, ?_, fun k hk => ?_, fun j hj => by omega, fun j hj => by omega⟩
  · rw [z 252 (by omega) (by omega)]; rfl
  · rw [z 357 (by omega) (by omega)]; rfl
  · rw [z (353 + k) (by omega) (by omega), h1 k hk]
    unfold ns0
    rw [if_neg (by omega), if_pos (by omega)]
theorem RSt.new {nb ns b : Nat → Int} {wi ro dr dt pe sh wo : Int} {hf df pf sf kf : Nat → Int32} (h : DRL nb ns wi ro dr dt pe sh wo hf df pf sf kf) (e : ∀ j : Nat, j < 68 → b j = nb j) : RSt wi ro dt pe sh wo sf kf b := by
  obtain ⟨⟨a0, a1, a2, a3, a4, a5, a6⟩, hn, -, -, -, hs, hk⟩ := h
  obtain ⟨n0, n1, n2, n3, n4, n5, -⟩ := hn
  refine ⟨by rw [e 0 (by decide)]; exact a0, by rw [e 1 (by decide)]; exact a1, by rw [e 2 (by decide)]; exact a3, by rw [e 3 (by decide)]; exact a4, by rw [e 4 (by decide)]; exact a5, by rw [e 5 (by decide)]; exact a6, fun k h0 h1 => ?_, fun k h0 h1 => ?_⟩
  · rw [e 4 (by decide)] at h1
    rw [e _ (by omega), e _ (by omega)]; exact hs k h0 h1
  · rw [e 5 (by decide)] at h1
    rw [e _ (by omega), e _ (by omega), e _ (by omega), e _ (by omega), e _ (by omega)]; exact hk k h0 h1
theorem RSt.b {wi ro dt pe sh wo : Int} {sf kf : Nat → Int32} {nb : Nat → Int} (h : RSt wi ro dt pe sh wo sf kf nb) : wi = nb 0 ∧ ro = nb 1 ∧ dt = nb 2 ∧ pe = nb 3 ∧ sh = nb 4 ∧ wo = nb 5 := ⟨h.1, h.2.1, h.2.2.1, h.2.2.2.1, h.2.2.2.2.1, h.2.2.2.2.2.1⟩
theorem RPl.n {cars dips : Int} {tf df sh : Nat → Int32} {S : Nat → Int} (h : RPl cars dips tf df sh S) : S 252 = cars ∧ S 357 = dips := ⟨h.2.2.1, h.2.2.2.1⟩
theorem upz_cg {F G : Nat → Int} {e e' v v' : Int} (h : F = G) (he : e = e') (hv : v = v') : upz F e v = upz G e' v' := by rw [h, he, hv]
theorem st_img {swi sro sdt spe ssh swo a0 a1 a3 a4 a6 a7 : Int} {ssf skf b4 b5 : Nat → Int32} {nb : Nat → Int} (h : RSt swi sro sdt spe ssh swo ssf skf nb) (r4 : 0 ≤ ssh ∧ ssh ≤ 2) (r5 : 0 ≤ swo ∧ swo ≤ 8) (e0 : a0 = swi) (e1 : a1 = sro) (e3 : a3 = sdt) (e4 : a4 = spe) (e6 : a6 = ssh) (e7 : a7 = swo) (c4 : ∀ j : Nat, j < 4 → b4 j = ssf j) (c5 : ∀ j : Nat, j < 40 → b5 j = skf j) : RSt a0 a1 a3 a4 a6 a7 b4 b5 nb := by
  subst e0 e1 e3 e4 e6 e7
  exact h.ext r4.2 r5.2 c4 c5
theorem pl_img {cars dips c d : Int} {tf df sh t1 d1 s1 : Nat → Int32} {S S1 : Nat → Int} (h : RPl cars dips tf df sh S) (e0 : c = cars) (e1 : d = dips) (ct : ∀ j : Nat, j < 100 → t1 j = tf j) (cd : ∀ j : Nat, j < 27 → d1 j = df j) (cs : ∀ j : Nat, j < 4 → s1 j = sh j) (e : ∀ j : Nat, FRq j → S1 j = S j) : RPl c d t1 d1 s1 S1 := by
  subst e0 e1
  exact h.ext ct cd cs e
theorem pl_trf {cars dips c1 ro nb1 R V p0 p1 p2 p3 p4 : Int} {tf df sh tf1 f12 f2 : Nat → Int32} (h : RPl cars dips tf df sh (nz f12)) (hro : ro = nb1) (hR : R = TrR p0 p1 p2 p3 p4 ro) (tv : R = 0 → (cars < 20 → c1 = cars + 1 ∧ V = cars + 1) ∧ (cars = 20 → c1 = cars ∧ V = -1)) (t1 : R = 1 → c1 = cars) (tc : R = 0 → cars < 20 → nz tf1 = carT (nz tf) cars p0 p1 p2 p3 p4) (ts : R = 1 ∨ cars = 20 → tf1 = tf) (tq : TrR p0 p1 p2 p3 p4 nb1 = 0 → nz f12 252 < 20 → ∀ j : Nat, FRq j → nz f2 j = carZ (nz f12) (nz f12 252) p0 p1 p2 p3 p4 j) (tn : TrR p0 p1 p2 p3 p4 nb1 = 1 ∨ nz f12 252 = 20 → f2 = f12) : RPl c1 dips tf1 df sh (nz f2) := by
  subst hro
  have hc := h.n.1
  have h20 := h.1
  rcases TrR_r p0 p1 p2 p3 p4 ro with q | q
  · by_cases w : cars = 20
    · rw [ts (Or.inr w), tn (Or.inr (by omega)), ((tv (by omega)).2 w).1]; exact h
    · have e := tq q (by omega)
      rw [hc] at e
      rw [((tv (by omega)).1 (by omega)).1]
      exact h.car (by omega) (tc (by omega) (by omega)) e
  · rw [ts (Or.inl (by omega)), tn (Or.inl q), t1 (by omega)]; exact h
theorem pl_dip {cars dips d1 p0 p1 p2 : Int} {C : Prop} {tf df sh df1 f12 f2 : Nat → Int32} (h : RPl cars dips tf df sh (nz f12)) (tv : C → dips < 9 → d1 = dips + 1) (t1 : ¬ (C ∧ dips < 9) → d1 = dips) (tc : C → dips < 9 → nz df1 = dipT (nz df) dips p0 p1 p2) (ts : ¬ (C ∧ dips < 9) → df1 = df) (tq : C → nz f12 357 < 9 → ∀ j : Nat, FRq j → nz f2 j = dipZ (nz f12) (nz f12 357) p0 p1 p2 j) (tn : ¬ (C ∧ nz f12 357 < 9) → f2 = f12) : RPl cars d1 tf df1 sh (nz f2) := by
  have hc := h.n.2
  by_cases w : C ∧ dips < 9
  · have e := tq w.1 (by omega)
    rw [hc] at e
    rw [tv w.1 w.2]
    exact h.dip w.2 (tc w.1 w.2) e
  · rw [ts w, tn (fun q => w ⟨q.1, by omega⟩), t1 w]; exact h
theorem pl_shr {cars dips n k : Int} {C : Prop} {tf df sh sh1 f12 f2 : Nat → Int32} (h : RPl cars dips tf df sh (nz f12)) (hn : C → 0 ≤ n ∧ n ≤ 3) (c1 : C → nz sh1 = upz (nz sh) n k) (c0 : ¬ C → sh1 = sh) (m1 : C → ∀ j : Nat, FRq j → nz f2 j = upz (nz f12) (353 + n) k j) (m0 : ¬ C → f2 = f12) : RPl cars dips tf df sh1 (nz f2) := by
  by_cases w : C
  · exact h.share (hn w) (c1 w) (m1 w)
  · rw [c0 w, m0 w]; exact h
theorem DRL.dn {nb ns : Nat → Int} {wi ro dr dt pe sh wo : Int} {hf df pf sf kf : Nat → Int32} (h : DRL nb ns wi ro dr dt pe sh wo hf df pf sf kf) : DN nb ns := h.2.1
/-- a text of a street: what is told behind it -/
theorem st_str {C D : Prop} {nb ns : Nat → Int} {swi sro sdt spe ssh swo a0 a1 a2 a3 a4 a6 a7 : Int} {ssf skf b0 b2 b3 b4 b5 f10 f1 : Nat → Int32} (h : RSt swi sro sdt spe ssh swo ssf skf (nz f10)) (c1 : C → D → DRL nb ns a0 a1 a2 a3 a4 a6 a7 b0 b2 b3 b4 b5) (c0 : ¬ (C ∧ D) → a0 = swi ∧ a1 = sro ∧ a3 = sdt ∧ a4 = spe ∧ a6 = ssh ∧ a7 = swo ∧ b4 = ssf ∧ b5 = skf) (m1 : C → D → ∀ j : Nat, j < 68 → nz f1 j = nb j) (m0 : ¬ (C ∧ D) → f1 = f10) : RSt a0 a1 a3 a4 a6 a7 b4 b5 (nz f1) := by
  by_cases w : C ∧ D
  · exact RSt.new (c1 w.1 w.2) (m1 w.1 w.2)
  · obtain ⟨e0, e1, e3, e4, e6, e7, e8, e9⟩ := c0 w
    rw [e0, e1, e3, e4, e6, e7, e8, e9, m0 w]; exact h
theorem pl_str {C D : Prop} {nb ns : Nat → Int} {v cars dips c d : Int} {tf df sh s1 f12 f2 : Nat → Int32} (h : RPl cars dips tf df sh (nz f12)) (c1 : C → D → DN nb ns ∧ c = 0 ∧ d = 0 ∧ ∀ j : Nat, j < 4 → nz s1 j = 1) (c0 : ¬ (C ∧ D) → c = cars ∧ d = dips ∧ s1 = sh) (m1 : C → D → ∀ j : Nat, j < 389 → nz f2 j = upz ns 215 v j) (m0 : ¬ (C ∧ D) → f2 = f12) : RPl c d tf df s1 (nz f2) := by
  by_cases w : C ∧ D
  · obtain ⟨e1, e2, e3, e4⟩ := c1 w.1 w.2
    rw [e2, e3]; exact RPl.new e1 e4 (m1 w.1 w.2)
  · obtain ⟨e1, e2, e3⟩ := c0 w
    rw [e1, e2, e3, m0 w]; exact h
theorem ie_str {C D : Prop} {im mi im1 mi1 : Int} (h : im = mi) (c1 : C → D → im1 = 0) (c0 : ¬ (C ∧ D) → im1 = im) (m1 : C → D → mi1 = 0) (m0 : ¬ (C ∧ D) → mi1 = mi) : im1 = mi1 := by
  by_cases w : C ∧ D
  · rw [c1 w.1 w.2, m1 w.1 w.2]
  · rw [c0 w, m0 w, h]
/-- an image that stands -/
def GIm (k im iwi iro idt ipe ish iwo jcars jdips : Int) (isf ikf jtf jdf jsh : Nat → Int32) (nb S : Nat → Int) : Prop := k < im → RSt iwi iro idt ipe ish iwo isf ikf nb ∧ RPl jcars jdips jtf jdf jsh S
theorem g_str {C D : Prop} {k im im1 iwi iro idt ipe ish iwo jcars jdips : Int} {isf ikf jtf jdf jsh f10 f1 : Nat → Int32} {S : Nat → Int} (h : GIm k im iwi iro idt ipe ish iwo jcars jdips isf ikf jtf jdf jsh (nz f10) S) (hk : 0 ≤ k) (c1 : C → D → im1 = 0) (c0 : ¬ (C ∧ D) → im1 = im) (m0 : ¬ (C ∧ D) → f1 = f10) : GIm k im1 iwi iro idt ipe ish iwo jcars jdips isf ikf jtf jdf jsh (nz f1) S := by
  intro q
  by_cases w : C ∧ D
  · have := c1 w.1 w.2; omega
  · rw [m0 w]; exact h (by have := c0 w; omega)
theorem GIm.le {k im im1 iwi iro idt ipe ish iwo jcars jdips : Int} {isf ikf jtf jdf jsh : Nat → Int32} {nb S : Nat → Int} (h : GIm k im iwi iro idt ipe ish iwo jcars jdips isf ikf jtf jdf jsh nb S) (e : k < im1 → k < im) : GIm k im1 iwi iro idt ipe ish iwo jcars jdips isf ikf jtf jdf jsh nb S := fun q => h (e q)
theorem GIm.fr {k im im1 iwi iro idt ipe ish iwo jcars jdips : Int} {isf ikf jtf jdf jsh : Nat → Int32} {nb S S1 : Nat → Int} (h : GIm k im iwi iro idt ipe ish iwo jcars jdips isf ikf jtf jdf jsh nb S) (e : k < im1 → k < im) (e1 : ∀ j : Nat, FRq j → S1 j = S j) : GIm k im1 iwi iro idt ipe ish iwo jcars jdips isf ikf jtf jdf jsh nb S1 := fun q => ⟨(h (e q)).1, (h (e q)).2.fr e1⟩
theorem RSt.wk {wi ro dt pe sh wo n k : Int} {sf kf : Nat → Int32} {nb : Nat → Int} (h : RSt wi ro dt pe sh wo sf kf nb) : (0 ≤ n ∧ n < wo) ∧ 0 ≤ k ∧ k ≤ 1 → nz kf (5 * n + k).toNat = nb (28 + 5 * n + 4 * k).toNat := by
  intro q
  obtain ⟨a0, a1, a2, a3, a4, a5, a6, a7⟩ := h
  have := a7 n q.1.1 (by omega)
  rcases (show k = 0 ∨ k = 1 by omega) with e | e
  · subst e; rw [show 5 * n + 0 = 5 * n by omega, show 28 + 5 * n + 4 * 0 = 28 + 5 * n by omega]; exact this.1
  · subst e; rw [show 28 + 5 * n + 4 * 1 = 32 + 5 * n by omega]; exact this.2.1
