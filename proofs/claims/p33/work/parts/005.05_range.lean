
theorem iI_to {a : Int} (h : -2147483648 ≤ a) (h' : a ≤ 2147483647) : (iI a).toInt = a := Int32.toInt_ofInt_of_le (by omega) (by omega)
theorem iI_ex (x : Int32) : ∃ z : Int, x = iI z ∧ -2147483648 ≤ z ∧ z ≤ 2147483647 := by
  refine ⟨x.toInt, (Int32.ofInt_toInt x).symm, ?_, ?_⟩
  · have := x.le_toInt; omega
  · have := x.toInt_lt; omega
theorem iI_lt {a b : Int} (ha : -2147483648 ≤ a ∧ a ≤ 2147483647) (hb : -2147483648 ≤ b ∧ b ≤ 2147483647) : iI a < iI b ↔ a < b := by
  rw [Int32.lt_iff_toInt_lt, iI_to ha.1 ha.2, iI_to hb.1 hb.2]
theorem iI_le {a b : Int} (ha : -2147483648 ≤ a ∧ a ≤ 2147483647) (hb : -2147483648 ≤ b ∧ b ≤ 2147483647) : iI a ≤ iI b ↔ a ≤ b := by
  rw [Int32.le_iff_toInt_le, iI_to ha.1 ha.2, iI_to hb.1 hb.2]
theorem iI_eq {a b : Int} (ha : -2147483648 ≤ a ∧ a ≤ 2147483647) (hb : -2147483648 ≤ b ∧ b ≤ 2147483647) : iI a = iI b ↔ a = b := by
  rw [← Int32.toInt_inj, iI_to ha.1 ha.2, iI_to hb.1 hb.2]
theorem iI_cl {e : Int} (h0 : 0 ≤ e) (h1 : e ≤ 2147483647) : (iI e).toNatClampNeg = e.toNat := by
  show (iI e).toInt.toNat = e.toNat
  rw [iI_to (by omega) h1]
theorem rgw {x lo hi a b : Int} (h : lo ≤ x ∧ x ≤ hi) (h1 : a ≤ lo) (h2 : hi ≤ b) : a ≤ x ∧ x ≤ b := ⟨Int.le_trans h1 h.1, Int.le_trans h.2 h2⟩
theorem iI_in {e : Int} {n : Nat} (h : 0 ≤ e ∧ e < n) (hn : n ≤ 2147483647) : vp_in (iI e) n := by
  intro hc
  rcases hc with hc | hc
  · have := (iI_lt (a := e) (b := 0) (by omega) (by omega)).mp hc
    omega
  · rw [iI_cl h.1 (by omega)] at hc
    omega
/-- what an array's places hold -/
def inv_ (n : Nat) (lo hi : Int) (f : Nat → Int32) : Prop := ∀ j : Nat, j < n → ∃ z : Int, f j = iI z ∧ -2147483648 ≤ z ∧ z ≤ 2147483647 ∧ lo ≤ z ∧ z ≤ hi
theorem inv_rd {n : Nat} {lo hi : Int} {f : Nat → Int32} (hf : inv_ n lo hi f) {e : Int} (h : 0 ≤ e ∧ e < n) (hn : n ≤ 2147483647) : ∃ z : Int, f (iI e).toNatClampNeg = iI z ∧ (-2147483648 ≤ z ∧ z ≤ 2147483647) ∧ lo ≤ z ∧ z ≤ hi := by
  rw [iI_cl h.1 (by omega)]
  obtain ⟨z, h1, h2, h3, h4, h5⟩ := hf e.toNat (by omega)
  exact ⟨z, h1, ⟨h2, h3⟩, h4, h5⟩
theorem inv_wr {n : Nat} {lo hi : Int} {f : Nat → Int32} (hf : inv_ n lo hi f) {k : Nat} {v : Int} (h : (-2147483648 ≤ v ∧ v ≤ 2147483647) ∧ lo ≤ v ∧ v ≤ hi) : inv_ n lo hi (upd f k (iI v)) := by
  intro j hj
  unfold upd
  by_cases e : j = k
  · rw [if_pos e]; exact ⟨v, rfl, h.1.1, h.1.2, h.2.1, h.2.2⟩
  · rw [if_neg e]; exact hf j hj
/-- rows of st numbers: of the first cnt rows each column lies in its range -/
def tab_ (st : Nat) (cnt : Int) (lo hi : List Int) (f : Nat → Int32) : Prop := ∀ k c : Nat, (k : Int) < cnt → c < st → ∃ z : Int, f (st * k + c) = iI z ∧ (-2147483648 ≤ z ∧ z ≤ 2147483647) ∧ lo.getD c 0 ≤ z ∧ z ≤ hi.getD c 0
theorem tab_ix {st : Nat} {e k : Int} {c : Nat} (he : e = st * k + c) (hk : 0 ≤ k) : e.toNat = st * k.toNat + c := by
  obtain ⟨n, rfl⟩ := Int.eq_ofNat_of_zero_le hk
  subst he
  have : ((st * n + c : Nat) : Int) = (st : Int) * (n : Int) + (c : Int) := by simp
  rw [← this, Int.toNat_natCast, Int.toNat_natCast]
theorem tab_rd {st : Nat} {cnt : Int} {lo hi : List Int} {f : Nat → Int32} (hf : tab_ st cnt lo hi f) {e k : Int} {c : Nat} {a b : Int} (he : e = st * k + c) (hk : 0 ≤ k ∧ k < cnt) (hc : c < st) (hN : 0 ≤ e ∧ e ≤ 2147483647) (ha : lo.getD c 0 = a) (hb : hi.getD c 0 = b) : ∃ z : Int, f (iI e).toNatClampNeg = iI z ∧ (-2147483648 ≤ z ∧ z ≤ 2147483647) ∧ a ≤ z ∧ z ≤ b := by
  rw [iI_cl hN.1 hN.2, tab_ix he hk.1, ← ha, ← hb]
  exact hf k.toNat c (by omega) hc
theorem tab_wr {st : Nat} {cnt : Int} {lo hi : List Int} {f : Nat → Int32} (hf : tab_ st cnt lo hi f) {e k v : Int} {c : Nat} {a b : Int} (he : e = st * k + c) (hk : 0 ≤ k) (hc : c < st) (hN : 0 ≤ e ∧ e ≤ 2147483647) (ha : lo.getD c 0 = a) (hb : hi.getD c 0 = b) (hv : (-2147483648 ≤ v ∧ v ≤ 2147483647) ∧ a ≤ v ∧ v ≤ b) : tab_ st cnt lo hi (upd f (iI e).toNatClampNeg (iI v)) := by
  intro k9 c9 h1 h2
  rw [iI_cl hN.1 hN.2, tab_ix he hk]
  unfold upd
  by_cases q : st * k9 + c9 = st * k.toNat + c
  · rw [if_pos q]
    have hcc : c9 = c := by
      have h3 := congrArg (· % st) q
      simpa [Nat.mul_add_mod, Nat.mod_eq_of_lt h2, Nat.mod_eq_of_lt hc] using h3
    subst hcc
    exact ⟨v, rfl, hv.1, by rw [ha]; exact hv.2.1, by rw [hb]; exact hv.2.2⟩
  · rw [if_neg q]
    exact hf k9 c9 h1 h2
theorem ia_ex (x : Int32) {mk : Int32} (k : Nat) (hm : mk.toBitVec.toNat = 2 ^ k - 1) (hk : k ≤ 30) : ∃ z : Int, x &&& mk = iI z ∧ 0 ≤ z ∧ z < 2 ^ k := by
  obtain ⟨j, h1, h2⟩ := pk_andE x k hm
  refine ⟨(j : Int), ?_, by omega, ?_⟩
  · rw [h2]; rfl
  · have : ((2 ^ k : Nat) : Int) = 2 ^ k := by simp
    omega
theorem iI_nI (n : Nat) : nI n = iI (n : Int) := rfl
theorem sr_eq {a : Int} {y : Int32} (k : Nat) (hs : (y.toBitVec.smod 32).toNat = k) (h : 0 ≤ a ∧ a ≤ 2147483647) : iI a >>> y = iI (a / 2 ^ k) := by
  obtain ⟨n, rfl⟩ := Int.eq_ofNat_of_zero_le h.1
  rw [← iI_nI, pk_shrN (by omega) y k hs, iI_nI]
  simp
theorem sl_eq {a : Int} {y : Int32} (k : Nat) (hs : (y.toBitVec.smod 32).toNat = k) (h : 0 ≤ a ∧ a * 2 ^ k ≤ 2147483647) : iI a <<< y = iI (a * 2 ^ k) := by
  obtain ⟨n, rfl⟩ := Int.eq_ofNat_of_zero_le h.1
  have h2 : ((n * 2 ^ k : Nat) : Int) = (n : Int) * 2 ^ k := by simp
  rw [← iI_nI, pk_shlN y k hs (by omega), iI_nI, h2]
theorem mul_bd {a b x y M : Int} (ha : 0 ≤ a ∧ a ≤ x) (hb : 0 ≤ b ∧ b ≤ y) (hM : x * y = M) : 0 ≤ a * b ∧ a * b ≤ M :=
  ⟨Int.mul_nonneg ha.1 hb.1, hM ▸ Int.mul_le_mul ha.2 hb.2 hb.1 (Int.le_trans ha.1 ha.2)⟩
abbrev SV : Type := (Nat → Nat) × (Nat → Int) × (Nat → Nat → Int32)
section RG
variable {p : Program} {l : Launch} {e : Env} {R : Room} {s : State} {m : MethodId} {args : Array Value} {below : List Frame} {meth : Method} {c : Code} {H : Heap} {locs : List Loc} {cells slots : Nat} {Q : State → Prop} {pc : Nat} {ls : Array Slot} {rest : List Value} {cc : ByteArray}
/-- a number gets a name, with its range -/
theorem lt_z {x : Int32} (k : ∀ z : Int, x = iI z → -2147483648 ≤ z → z ≤ 2147483647 → W p l e R s m args below meth c H locs cells slots Q (F0 m pc ls (.int (iI z) :: rest))) : W p l e R s m args below meth c H locs cells slots Q (F0 m pc ls (.int x :: rest)) := by
  obtain ⟨z, h1, h2, h3⟩ := iI_ex x
  rw [h1]
  exact k z h1 h2 h3
theorem lt_mn {a b : Int} (ha : -2147483648 ≤ a ∧ a ≤ 2147483647) (hb : -2147483648 ≤ b ∧ b ≤ 2147483647) (kk : ∀ z : Int, z ≤ a ∧ z ≤ b ∧ (z = a ∨ z = b) → W p l e R s m args below meth c H locs cells slots Q (F0 m pc ls (.int (iI z) :: rest))) : W p l e R s m args below meth c H locs cells slots Q (F0 m pc ls (.int (if iI b < iI a then iI b else iI a) :: rest)) := by
  by_cases h : iI b < iI a
  · rw [if_pos h]
    have := (iI_lt hb ha).mp h
    exact kk b (by omega)
  · rw [if_neg h]
    have : ¬ b < a := fun q => h ((iI_lt hb ha).mpr q)
    exact kk a (by omega)
theorem lt_mx {a b : Int} (ha : -2147483648 ≤ a ∧ a ≤ 2147483647) (hb : -2147483648 ≤ b ∧ b ≤ 2147483647) (kk : ∀ z : Int, a ≤ z ∧ b ≤ z ∧ (z = a ∨ z = b) → W p l e R s m args below meth c H locs cells slots Q (F0 m pc ls (.int (iI z) :: rest))) : W p l e R s m args below meth c H locs cells slots Q (F0 m pc ls (.int (if iI a < iI b then iI b else iI a) :: rest)) := by
  by_cases h : iI a < iI b
  · rw [if_pos h]
    have := (iI_lt ha hb).mp h
    exact kk b (by omega)
  · rw [if_neg h]
    have : ¬ a < b := fun q => h ((iI_lt ha hb).mpr q)
    exact kk a (by omega)
theorem lt_ab {a : Int} (ha : -2147483647 ≤ a ∧ a ≤ 2147483647) (kk : ∀ z : Int, 0 ≤ z ∧ (z = a ∨ z = - a) → W p l e R s m args below meth c H locs cells slots Q (F0 m pc ls (.int (iI z) :: rest))) : W p l e R s m args below meth c H locs cells slots Q (F0 m pc ls (.int (if 0 ≤ iI a then iI a else 0 - iI a) :: rest)) := by
  by_cases h : (0 : Int32) ≤ iI a
  · rw [if_pos h]
    have := (iI_le (a := 0) (by omega) (by omega)).mp h
    exact kk a (by omega)
  · rw [if_neg h]
    have h2 : ¬ (0 : Int) ≤ a := fun q => h ((iI_le (a := 0) (by omega) (by omega)).mpr q)
    have h3 : (0 : Int32) - iI a = iI (0 - a) := (Int32.ofInt_sub 0 a).symm
    rw [h3]
    exact kk (0 - a) (by omega)
/-- ways that meet: what follows is shown once -/
theorem jn {g : JFrame} {α : Type} (T : α → Heap → List Loc → JFrame → Prop) (k1 : ∀ a H1 locs1 g1, T a H1 locs1 g1 → W p l e R s m args below meth c H1 locs1 cells slots Q g1) (k2 : (∀ a H1 locs1 g1, T a H1 locs1 g1 → W p l e R s m args below meth c H1 locs1 cells slots Q g1) → W p l e R s m args below meth c H locs cells slots Q g) : W p l e R s m args below meth c H locs cells slots Q g := k2 k1
/-- a sum, difference, product that has a name -/
theorem lt_e {x : Int32} {e0 : Int} (he : x = iI e0) (k : ∀ z : Int, z = e0 → W p l e R s m args below meth c H locs cells slots Q (F0 m pc ls (.int (iI z) :: rest))) : W p l e R s m args below meth c H locs cells slots Q (F0 m pc ls (.int x :: rest)) := by
  rw [he]
  exact k e0 rfl
theorem ir_lt (hexec : p.tables.exec = Jvm.exec) (hb : c.code = cc) {a b : Int} {off : Int} {tgt : Nat} (hdg : decode cc pc = .ok (.if_icmp .lt off, 3)) (ht : (pc : Int) + off = (tgt : Int)) (ha9 : -2147483648 ≤ a ∧ a ≤ 2147483647) (hb9 : -2147483648 ≤ b ∧ b ≤ 2147483647)
    (kt : a < b → W p l e R s m args below meth c H locs cells slots Q (F0 m tgt ls rest)) (kf : ¬ a < b → W p l e R s m args below meth c H locs cells slots Q (F0 m (pc + 3) ls rest)) : W p l e R s m args below meth c H locs cells slots Q (F0 m pc ls (.int (iI b) :: .int (iI a) :: rest)) :=
  lv_icmp_lt hexec hb hdg ht (fun c => kt ((iI_lt ha9 hb9).mp c)) (fun c => kf (fun q => c ((iI_lt ha9 hb9).mpr q)))
theorem iz_lt (hexec : p.tables.exec = Jvm.exec) (hb : c.code = cc) {a : Int} {off : Int} {tgt : Nat} (hdg : decode cc pc = .ok (.ifCond .lt off, 3)) (ht : (pc : Int) + off = (tgt : Int)) (ha9 : -2147483648 ≤ a ∧ a ≤ 2147483647)
    (kt : a < 0 → W p l e R s m args below meth c H locs cells slots Q (F0 m tgt ls rest)) (kf : ¬ a < 0 → W p l e R s m args below meth c H locs cells slots Q (F0 m (pc + 3) ls rest)) : W p l e R s m args below meth c H locs cells slots Q (F0 m pc ls (.int (iI a) :: rest)) := by
  have hz9 : -2147483648 ≤ (0 : Int) ∧ (0 : Int) ≤ 2147483647 := by omega
  exact lv_if_lt hexec hb hdg ht (fun c => kt ((iI_lt (b := 0) ha9 hz9).mp c)) (fun c => kf (fun q => c ((iI_lt (b := 0) ha9 hz9).mpr q)))
theorem ir_ge (hexec : p.tables.exec = Jvm.exec) (hb : c.code = cc) {a b : Int} {off : Int} {tgt : Nat} (hdg : decode cc pc = .ok (.if_icmp .ge off, 3)) (ht : (pc : Int) + off = (tgt : Int)) (ha9 : -2147483648 ≤ a ∧ a ≤ 2147483647) (hb9 : -2147483648 ≤ b ∧ b ≤ 2147483647)
    (kt : b ≤ a → W p l e R s m args below meth c H locs cells slots Q (F0 m tgt ls rest)) (kf : ¬ b ≤ a → W p l e R s m args below meth c H locs cells slots Q (F0 m (pc + 3) ls rest)) : W p l e R s m args below meth c H locs cells slots Q (F0 m pc ls (.int (iI b) :: .int (iI a) :: rest)) :=
  lv_icmp_ge hexec hb hdg ht (fun c => kt ((iI_le hb9 ha9).mp c)) (fun c => kf (fun q => c ((iI_le hb9 ha9).mpr q)))
theorem iz_ge (hexec : p.tables.exec = Jvm.exec) (hb : c.code = cc) {a : Int} {off : Int} {tgt : Nat} (hdg : decode cc pc = .ok (.ifCond .ge off, 3)) (ht : (pc : Int) + off = (tgt : Int)) (ha9 : -2147483648 ≤ a ∧ a ≤ 2147483647)
    (kt : 0 ≤ a → W p l e R s m args below meth c H locs cells slots Q (F0 m tgt ls rest)) (kf : ¬ 0 ≤ a → W p l e R s m args below meth c H locs cells slots Q (F0 m (pc + 3) ls rest)) : W p l e R s m args below meth c H locs cells slots Q (F0 m pc ls (.int (iI a) :: rest)) := by
  have hz9 : -2147483648 ≤ (0 : Int) ∧ (0 : Int) ≤ 2147483647 := by omega
  exact lv_if_ge hexec hb hdg ht (fun c => kt ((iI_le (a := 0) hz9 ha9).mp c)) (fun c => kf (fun q => c ((iI_le (a := 0) hz9 ha9).mpr q)))
theorem ir_gt (hexec : p.tables.exec = Jvm.exec) (hb : c.code = cc) {a b : Int} {off : Int} {tgt : Nat} (hdg : decode cc pc = .ok (.if_icmp .gt off, 3)) (ht : (pc : Int) + off = (tgt : Int)) (ha9 : -2147483648 ≤ a ∧ a ≤ 2147483647) (hb9 : -2147483648 ≤ b ∧ b ≤ 2147483647)
    (kt : b < a → W p l e R s m args below meth c H locs cells slots Q (F0 m tgt ls rest)) (kf : ¬ b < a → W p l e R s m args below meth c H locs cells slots Q (F0 m (pc + 3) ls rest)) : W p l e R s m args below meth c H locs cells slots Q (F0 m pc ls (.int (iI b) :: .int (iI a) :: rest)) :=
  lv_icmp_gt hexec hb hdg ht (fun c => kt ((iI_lt hb9 ha9).mp c)) (fun c => kf (fun q => c ((iI_lt hb9 ha9).mpr q)))
theorem ir_le (hexec : p.tables.exec = Jvm.exec) (hb : c.code = cc) {a b : Int} {off : Int} {tgt : Nat} (hdg : decode cc pc = .ok (.if_icmp .le off, 3)) (ht : (pc : Int) + off = (tgt : Int)) (ha9 : -2147483648 ≤ a ∧ a ≤ 2147483647) (hb9 : -2147483648 ≤ b ∧ b ≤ 2147483647)
    (kt : a ≤ b → W p l e R s m args below meth c H locs cells slots Q (F0 m tgt ls rest)) (kf : ¬ a ≤ b → W p l e R s m args below meth c H locs cells slots Q (F0 m (pc + 3) ls rest)) : W p l e R s m args below meth c H locs cells slots Q (F0 m pc ls (.int (iI b) :: .int (iI a) :: rest)) :=
  lv_icmp_le hexec hb hdg ht (fun c => kt ((iI_le ha9 hb9).mp c)) (fun c => kf (fun q => c ((iI_le ha9 hb9).mpr q)))
theorem iz_le (hexec : p.tables.exec = Jvm.exec) (hb : c.code = cc) {a : Int} {off : Int} {tgt : Nat} (hdg : decode cc pc = .ok (.ifCond .le off, 3)) (ht : (pc : Int) + off = (tgt : Int)) (ha9 : -2147483648 ≤ a ∧ a ≤ 2147483647)
    (kt : a ≤ 0 → W p l e R s m args below meth c H locs cells slots Q (F0 m tgt ls rest)) (kf : ¬ a ≤ 0 → W p l e R s m args below meth c H locs cells slots Q (F0 m (pc + 3) ls rest)) : W p l e R s m args below meth c H locs cells slots Q (F0 m pc ls (.int (iI a) :: rest)) := by
  have hz9 : -2147483648 ≤ (0 : Int) ∧ (0 : Int) ≤ 2147483647 := by omega
  exact lv_if_le hexec hb hdg ht (fun c => kt ((iI_le (b := 0) ha9 hz9).mp c)) (fun c => kf (fun q => c ((iI_le (b := 0) ha9 hz9).mpr q)))
theorem ir_eq (hexec : p.tables.exec = Jvm.exec) (hb : c.code = cc) {a b : Int} {off : Int} {tgt : Nat} (hdg : decode cc pc = .ok (.if_icmp .eq off, 3)) (ht : (pc : Int) + off = (tgt : Int)) (ha9 : -2147483648 ≤ a ∧ a ≤ 2147483647) (hb9 : -2147483648 ≤ b ∧ b ≤ 2147483647)
    (kt : a = b → W p l e R s m args below meth c H locs cells slots Q (F0 m tgt ls rest)) (kf : ¬ a = b → W p l e R s m args below meth c H locs cells slots Q (F0 m (pc + 3) ls rest)) : W p l e R s m args below meth c H locs cells slots Q (F0 m pc ls (.int (iI b) :: .int (iI a) :: rest)) :=
  lv_icmp_eq hexec hb hdg ht (fun c => kt ((iI_eq ha9 hb9).mp c)) (fun c => kf (fun q => c ((iI_eq ha9 hb9).mpr q)))
theorem iz_eq (hexec : p.tables.exec = Jvm.exec) (hb : c.code = cc) {a : Int} {off : Int} {tgt : Nat} (hdg : decode cc pc = .ok (.ifCond .eq off, 3)) (ht : (pc : Int) + off = (tgt : Int)) (ha9 : -2147483648 ≤ a ∧ a ≤ 2147483647)
    (kt : a = 0 → W p l e R s m args below meth c H locs cells slots Q (F0 m tgt ls rest)) (kf : ¬ a = 0 → W p l e R s m args below meth c H locs cells slots Q (F0 m (pc + 3) ls rest)) : W p l e R s m args below meth c H locs cells slots Q (F0 m pc ls (.int (iI a) :: rest)) := by
  have hz9 : -2147483648 ≤ (0 : Int) ∧ (0 : Int) ≤ 2147483647 := by omega
  exact lv_if_eq hexec hb hdg ht (fun c => kt ((iI_eq (b := 0) ha9 hz9).mp c)) (fun c => kf (fun q => c ((iI_eq (b := 0) ha9 hz9).mpr q)))
theorem ir_ne (hexec : p.tables.exec = Jvm.exec) (hb : c.code = cc) {a b : Int} {off : Int} {tgt : Nat} (hdg : decode cc pc = .ok (.if_icmp .ne off, 3)) (ht : (pc : Int) + off = (tgt : Int)) (ha9 : -2147483648 ≤ a ∧ a ≤ 2147483647) (hb9 : -2147483648 ≤ b ∧ b ≤ 2147483647)
    (kt : ¬ a = b → W p l e R s m args below meth c H locs cells slots Q (F0 m tgt ls rest)) (kf : a = b → W p l e R s m args below meth c H locs cells slots Q (F0 m (pc + 3) ls rest)) : W p l e R s m args below meth c H locs cells slots Q (F0 m pc ls (.int (iI b) :: .int (iI a) :: rest)) :=
  lv_icmp_ne hexec hb hdg ht (fun c => kt (fun q => c ((iI_eq ha9 hb9).mpr q))) (fun c => kf ((iI_eq ha9 hb9).mp c))
theorem iz_ne (hexec : p.tables.exec = Jvm.exec) (hb : c.code = cc) {a : Int} {off : Int} {tgt : Nat} (hdg : decode cc pc = .ok (.ifCond .ne off, 3)) (ht : (pc : Int) + off = (tgt : Int)) (ha9 : -2147483648 ≤ a ∧ a ≤ 2147483647)
    (kt : ¬ a = 0 → W p l e R s m args below meth c H locs cells slots Q (F0 m tgt ls rest)) (kf : a = 0 → W p l e R s m args below meth c H locs cells slots Q (F0 m (pc + 3) ls rest)) : W p l e R s m args below meth c H locs cells slots Q (F0 m pc ls (.int (iI a) :: rest)) := by
  have hz9 : -2147483648 ≤ (0 : Int) ∧ (0 : Int) ≤ 2147483647 := by omega
  exact lv_if_ne hexec hb hdg ht (fun c => kt (fun q => c ((iI_eq (b := 0) ha9 hz9).mpr q))) (fun c => kf ((iI_eq (b := 0) ha9 hz9).mp c))
end RG
