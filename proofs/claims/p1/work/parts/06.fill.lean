theorem dJ7_fill_53178_0 : decode cJ7_fill_53178 0 = .ok (.iconst 0, 1) := by decide +kernel
theorem dJ7_fill_53178_1 : decode cJ7_fill_53178 1 = .ok (.istore_n 2, 1) := by decide +kernel
theorem dJ7_fill_53178_10 : decode cJ7_fill_53178 10 = .ok (.aload_n 0, 1) := by decide +kernel
theorem dJ7_fill_53178_11 : decode cJ7_fill_53178 11 = .ok (.iload_n 2, 1) := by decide +kernel
theorem dJ7_fill_53178_12 : decode cJ7_fill_53178 12 = .ok (.iload_n 1, 1) := by decide +kernel
theorem dJ7_fill_53178_13 : decode cJ7_fill_53178 13 = .ok (.iastore, 1) := by decide +kernel
theorem dJ7_fill_53178_14 : decode cJ7_fill_53178 14 = .ok (.iinc 2 1, 3) := by decide +kernel
theorem dJ7_fill_53178_17 : decode cJ7_fill_53178 17 = .ok (.goto (-12), 3) := by decide +kernel
theorem dJ7_fill_53178_2 : decode cJ7_fill_53178 2 = .ok (.aload_n 0, 1) := by decide +kernel
theorem dJ7_fill_53178_20 : decode cJ7_fill_53178 20 = .ok (.return_, 1) := by decide +kernel
theorem dJ7_fill_53178_3 : decode cJ7_fill_53178 3 = .ok (.arraylength, 1) := by decide +kernel
theorem dJ7_fill_53178_4 : decode cJ7_fill_53178 4 = .ok (.istore_n 3, 1) := by decide +kernel
theorem dJ7_fill_53178_5 : decode cJ7_fill_53178 5 = .ok (.iload_n 2, 1) := by decide +kernel
theorem dJ7_fill_53178_6 : decode cJ7_fill_53178 6 = .ok (.iload_n 3, 1) := by decide +kernel
theorem dJ7_fill_53178_7 : decode cJ7_fill_53178 7 = .ok (.if_icmp .ge 13, 3) := by decide +kernel
set_option maxHeartbeats 1000000 in
theorem fill_loop {p : Program} {l : Launch} {e : Env} {R : Room} {s : State} {m : MethodId} {args : Array Value} {below : List Frame} {meth : Method} {c : Code} {Q : State → Prop} {cells slots : Nat} {D : va_G} {cy : Nat → ClassId} {A : Nat → Prop} {h0 : Nat} {v : Int32} (n : Nat) (hn : n < 2 ^ 31) (hx : p.tables.exec = Jvm.exec) (hb : c.code = cJ7_fill_53178) (hK : va_K D vwCl (tyW cy) s)
    (kk : ∀ (f : Nat → Int32) (H : Heap) (locs : List Loc) (ls : Array Slot), va_P D vwCl [(h0, .inl (cy 0, n, .inl f))] H → va_D A [(h0, .inl (cy 0, n, .inl f))] → va_S A s.heap H locs → lv_has ls 4 [(2, .int (nI n)), (3, .int (nI n)), (0, .ref h0), (1, .int v)] → W p l e R s m args below meth c H locs cells slots Q (F0 m 20 ls [])) :
    ∀ (k i : Nat) (f : Nat → Int32) (H : Heap) (locs : List Loc) (ls : Array Slot), i + k = n → va_P D vwCl [(h0, .inl (cy 0, n, .inl f))] H → va_D A [(h0, .inl (cy 0, n, .inl f))] → va_S A s.heap H locs → lv_has ls 4 [(2, .int (nI i)), (3, .int (nI n)), (0, .ref h0), (1, .int v)] → W p l e R s m args below meth c H locs cells slots Q (F0 m 5 ls []) := by
  intro k
  induction k with
  | zero =>
    intro i f H locs ls hi hP hD hS hlv
    obtain rfl : i = n := by omega
    refine lv_iload_n hx hb dJ7_fill_53178_5 rfl (lv_at hlv 0 rfl) ?_
    refine lv_iload_n hx hb dJ7_fill_53178_6 rfl (lv_at hlv 1 rfl) ?_
    refine lv_icmp_ge (tgt := 20) hx hb dJ7_fill_53178_7 (by decide) (fun _ => ?_) (fun c => absurd (nI_le (Nat.le_refl _) hn) c)
    exact kk f H locs ls hP hD hS hlv
  | succ k ih =>
    intro i f H locs ls hi hP hD hS hlv
    have hin : i < n := by omega
    refine lv_iload_n hx hb dJ7_fill_53178_5 rfl (lv_at hlv 0 rfl) ?_
    refine lv_iload_n hx hb dJ7_fill_53178_6 rfl (lv_at hlv 1 rfl) ?_
    refine lv_icmp_ge (tgt := 20) hx hb dJ7_fill_53178_7 (by decide) (fun c => absurd c (nI_ge hin hn)) (fun _ => ?_)
    refine lv_aload_n hx hb dJ7_fill_53178_10 rfl (lv_at hlv 2 rfl) ?_
    refine lv_iload_n hx hb dJ7_fill_53178_11 rfl (lv_at hlv 0 rfl) ?_
    refine lv_iload_n hx hb dJ7_fill_53178_12 rfl (lv_at hlv 3 rfl) ?_
    refine va_iast hx hb hK hP hD hS 0 0 rfl rfl (vp_in_nI hin hn) dJ7_fill_53178_13 (fun H locs hP hD hS => ?_)
    refine lv_iinc (v := nI (i + 1)) (lv' := [(2, .int (nI (i + 1))), (3, .int (nI n)), (0, .ref h0), (1, .int v)]) hx hb dJ7_fill_53178_14 hlv (k := 0) rfl (nI_1 i) (by decide) rfl (fun ls hlv => ?_)
    refine lv_goto (tgt := 5) hx hb dJ7_fill_53178_17 (by decide) ?_
    exact ih (i + 1) _ H locs ls (by omega) hP hD hS hlv
set_option maxHeartbeats 4000000 in
set_option maxRecDepth 100000 in
theorem c_fill_96 (l : Launch) (hl : l.stackTraces = false) (D : va_G) (cy : Nat → ClassId) (sa : Nat → Nat) (h0 : Nat) (v : Int32) (f0 : Nat → Int32) (sz : Nat) : Met l yJ7_fill_53178 wsJ7_fill_53178 ({ frames := 0, cells := 0, slots := 0, locals := 0 }) (va_Pc [.ref h0, .int v] (pcW D cy sa sz [(h0, .inl (cy 0, 96, .inl f0))])) (va_Qv (fun u : SU => (True)) (fun u t => atW D (va_A [(h0, .inl (cy 0, 96, .inl f0))] sz) [(h0, .inl (cy 0, 96, .inl (u.2.2 0)))] t) (va_A [(h0, .inl (cy 0, 96, .inl f0))] sz)) 0 0 (va_A [(h0, .inl (cy 0, 96, .inl f0))] sz) := by
  refine Met.ofW (cc := cJ7_fill_53178) (maxL := 4) (ret := none) (by decide) rfl ?_
  intro p e s m args below meth c s₁ B hml hv
  obtain ⟨rfl, hsz, hP, hG, hD0, hT⟩ := hv
  have hx := B.exec
  have hb := B.bytes
  have hr := B.returns
  have hts := atoms_spec (ws := wsJ7_fill_53178) B.pre
  have hown : s.vm.findClass RJ7 = some m.cls := findClass_of_methodNamed B.named
  have hlocks := B.notSynchronized
  subst hsz
  have hD := hD0.self (sz := s.heap.size)
  generalize hAe : va_A [(h0, .inl (cy 0, 96, .inl f0))] s.heap.size = A at hD hT ⊢
  have hA : ∀ q : Nat, s.heap.size ≤ q → A q := fun q h => by rw [← hAe]; exact Or.inr h
  have hS : va_S A s.heap s.heap [] := va_S.rf
  have hl0 := lv_entry ([.ref h0, .int v]) (n := 4) (Nat.le_of_ble_eq_true rfl)
  rw [lg_entry_eq]
  generalize (lg_sl ([.ref h0, .int v]) ++ List.replicate (4 - (lg_sl ([.ref h0, .int v])).length) Slot.unset).toArray = ls at hl0 ⊢
  have hlv : lv_has ls 4 [(0, .ref h0), (1, .int v)] := hl0
  refine lv_iconst (v := 0) hx hb dJ7_fill_53178_0 (by decide) ?_
  refine lv_istore_n (lv' := [(2, .int 0), (0, .ref h0), (1, .int v)]) hx hb dJ7_fill_53178_1 rfl hlv (by decide) rfl (fun ls hlv => ?_)
  refine lv_aload_n hx hb dJ7_fill_53178_2 rfl (lv_at hlv 1 rfl) ?_
  refine va_alen (v := 96) hx hb hG.1 hP 0 0 rfl rfl rfl dJ7_fill_53178_3 ?_
  refine lv_istore_n (lv' := [(3, .int 96), (2, .int 0), (0, .ref h0), (1, .int v)]) hx hb dJ7_fill_53178_4 rfl hlv (by decide) rfl (fun ls hlv => ?_)
  refine fill_loop 96 (by decide) hx hb hG.1 (fun f H locs ls hP hD hS hlv => ?_) 96 0 _ _ _ _ rfl hP hD hS (lv_sub hlv [1, 0, 2, 3] rfl)
  refine W.widen (k := 0) (n := 0) (Nat.le_of_ble_eq_true rfl) (Nat.le_of_ble_eq_true rfl) ?_
  exact W.vret hx hb hr (fun t ht hW => ⟨⟨((fun k => ([] : List Nat).getD k 0), (fun k => ([] : List Int32).getD k 0), (fun k => ([f] : List (Nat → Int32)).getD k (fun _ => 0))), rfl, (by first | (trivial)), by rw [ht]; exact hP.sub [0] rfl, hD.sub [0] (by decide) rfl⟩, hS.F ht⟩) hS.2.2 dJ7_fill_53178_20
set_option maxHeartbeats 4000000 in
set_option maxRecDepth 100000 in
theorem c_fill_5 (l : Launch) (hl : l.stackTraces = false) (D : va_G) (cy : Nat → ClassId) (sa : Nat → Nat) (h0 : Nat) (v : Int32) (f0 : Nat → Int32) (sz : Nat) : Met l yJ7_fill_53178 wsJ7_fill_53178 ({ frames := 0, cells := 0, slots := 0, locals := 0 }) (va_Pc [.ref h0, .int v] (pcW D cy sa sz [(h0, .inl (cy 0, 5, .inl f0))])) (va_Qv (fun u : SU => (True)) (fun u t => atW D (va_A [(h0, .inl (cy 0, 5, .inl f0))] sz) [(h0, .inl (cy 0, 5, .inl (u.2.2 0)))] t) (va_A [(h0, .inl (cy 0, 5, .inl f0))] sz)) 0 0 (va_A [(h0, .inl (cy 0, 5, .inl f0))] sz) := by
  refine Met.ofW (cc := cJ7_fill_53178) (maxL := 4) (ret := none) (by decide) rfl ?_
  intro p e s m args below meth c s₁ B hml hv
  obtain ⟨rfl, hsz, hP, hG, hD0, hT⟩ := hv
  have hx := B.exec
  have hb := B.bytes
  have hr := B.returns
  have hts := atoms_spec (ws := wsJ7_fill_53178) B.pre
  have hown : s.vm.findClass RJ7 = some m.cls := findClass_of_methodNamed B.named
  have hlocks := B.notSynchronized
  subst hsz
  have hD := hD0.self (sz := s.heap.size)
  generalize hAe : va_A [(h0, .inl (cy 0, 5, .inl f0))] s.heap.size = A at hD hT ⊢
  have hA : ∀ q : Nat, s.heap.size ≤ q → A q := fun q h => by rw [← hAe]; exact Or.inr h
  have hS : va_S A s.heap s.heap [] := va_S.rf
  have hl0 := lv_entry ([.ref h0, .int v]) (n := 4) (Nat.le_of_ble_eq_true rfl)
  rw [lg_entry_eq]
  generalize (lg_sl ([.ref h0, .int v]) ++ List.replicate (4 - (lg_sl ([.ref h0, .int v])).length) Slot.unset).toArray = ls at hl0 ⊢
  have hlv : lv_has ls 4 [(0, .ref h0), (1, .int v)] := hl0
  refine lv_iconst (v := 0) hx hb dJ7_fill_53178_0 (by decide) ?_
  refine lv_istore_n (lv' := [(2, .int 0), (0, .ref h0), (1, .int v)]) hx hb dJ7_fill_53178_1 rfl hlv (by decide) rfl (fun ls hlv => ?_)
  refine lv_aload_n hx hb dJ7_fill_53178_2 rfl (lv_at hlv 1 rfl) ?_
  refine va_alen (v := 5) hx hb hG.1 hP 0 0 rfl rfl rfl dJ7_fill_53178_3 ?_
  refine lv_istore_n (lv' := [(3, .int 5), (2, .int 0), (0, .ref h0), (1, .int v)]) hx hb dJ7_fill_53178_4 rfl hlv (by decide) rfl (fun ls hlv => ?_)
  refine fill_loop 5 (by decide) hx hb hG.1 (fun f H locs ls hP hD hS hlv => ?_) 5 0 _ _ _ _ rfl hP hD hS (lv_sub hlv [1, 0, 2, 3] rfl)
  refine W.widen (k := 0) (n := 0) (Nat.le_of_ble_eq_true rfl) (Nat.le_of_ble_eq_true rfl) ?_
  exact W.vret hx hb hr (fun t ht hW => ⟨⟨((fun k => ([] : List Nat).getD k 0), (fun k => ([] : List Int32).getD k 0), (fun k => ([f] : List (Nat → Int32)).getD k (fun _ => 0))), rfl, (by first | (trivial)), by rw [ht]; exact hP.sub [0] rfl, hD.sub [0] (by decide) rfl⟩, hS.F ht⟩) hS.2.2 dJ7_fill_53178_20
set_option maxHeartbeats 4000000 in
set_option maxRecDepth 100000 in
theorem c_fill_4 (l : Launch) (hl : l.stackTraces = false) (D : va_G) (cy : Nat → ClassId) (sa : Nat → Nat) (h0 : Nat) (v : Int32) (f0 : Nat → Int32) (sz : Nat) : Met l yJ7_fill_53178 wsJ7_fill_53178 ({ frames := 0, cells := 0, slots := 0, locals := 0 }) (va_Pc [.ref h0, .int v] (pcW D cy sa sz [(h0, .inl (cy 0, 4, .inl f0))])) (va_Qv (fun u : SU => (True)) (fun u t => atW D (va_A [(h0, .inl (cy 0, 4, .inl f0))] sz) [(h0, .inl (cy 0, 4, .inl (u.2.2 0)))] t) (va_A [(h0, .inl (cy 0, 4, .inl f0))] sz)) 0 0 (va_A [(h0, .inl (cy 0, 4, .inl f0))] sz) := by
  refine Met.ofW (cc := cJ7_fill_53178) (maxL := 4) (ret := none) (by decide) rfl ?_
  intro p e s m args below meth c s₁ B hml hv
  obtain ⟨rfl, hsz, hP, hG, hD0, hT⟩ := hv
  have hx := B.exec
  have hb := B.bytes
  have hr := B.returns
  have hts := atoms_spec (ws := wsJ7_fill_53178) B.pre
  have hown : s.vm.findClass RJ7 = some m.cls := findClass_of_methodNamed B.named
  have hlocks := B.notSynchronized
  subst hsz
  have hD := hD0.self (sz := s.heap.size)
  generalize hAe : va_A [(h0, .inl (cy 0, 4, .inl f0))] s.heap.size = A at hD hT ⊢
  have hA : ∀ q : Nat, s.heap.size ≤ q → A q := fun q h => by rw [← hAe]; exact Or.inr h
  have hS : va_S A s.heap s.heap [] := va_S.rf
  have hl0 := lv_entry ([.ref h0, .int v]) (n := 4) (Nat.le_of_ble_eq_true rfl)
  rw [lg_entry_eq]
  generalize (lg_sl ([.ref h0, .int v]) ++ List.replicate (4 - (lg_sl ([.ref h0, .int v])).length) Slot.unset).toArray = ls at hl0 ⊢
  have hlv : lv_has ls 4 [(0, .ref h0), (1, .int v)] := hl0
  refine lv_iconst (v := 0) hx hb dJ7_fill_53178_0 (by decide) ?_
  refine lv_istore_n (lv' := [(2, .int 0), (0, .ref h0), (1, .int v)]) hx hb dJ7_fill_53178_1 rfl hlv (by decide) rfl (fun ls hlv => ?_)
  refine lv_aload_n hx hb dJ7_fill_53178_2 rfl (lv_at hlv 1 rfl) ?_
  refine va_alen (v := 4) hx hb hG.1 hP 0 0 rfl rfl rfl dJ7_fill_53178_3 ?_
  refine lv_istore_n (lv' := [(3, .int 4), (2, .int 0), (0, .ref h0), (1, .int v)]) hx hb dJ7_fill_53178_4 rfl hlv (by decide) rfl (fun ls hlv => ?_)
  refine fill_loop 4 (by decide) hx hb hG.1 (fun f H locs ls hP hD hS hlv => ?_) 4 0 _ _ _ _ rfl hP hD hS (lv_sub hlv [1, 0, 2, 3] rfl)
  refine W.widen (k := 0) (n := 0) (Nat.le_of_ble_eq_true rfl) (Nat.le_of_ble_eq_true rfl) ?_
  exact W.vret hx hb hr (fun t ht hW => ⟨⟨((fun k => ([] : List Nat).getD k 0), (fun k => ([] : List Int32).getD k 0), (fun k => ([f] : List (Nat → Int32)).getD k (fun _ => 0))), rfl, (by first | (trivial)), by rw [ht]; exact hP.sub [0] rfl, hD.sub [0] (by decide) rfl⟩, hS.F ht⟩) hS.2.2 dJ7_fill_53178_20
