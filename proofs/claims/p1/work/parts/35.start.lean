
theorem ac_known {ty : FieldType} {args : Array Value} {s : State} (h : (Cond.arrayClass ty).before args s = true) (hp : ∀ C, ty ≠ .object C) : ∃ cA : ClassId, ArrOfT s cA ty ∧ va_RA s cA ty := by
  obtain ⟨c, k, comp, h1, h2, h3⟩ := Cond.arrayClass_spec h
  refine ⟨c, fun n z => ⟨(fun k h => by cases h), k, h2, comp, h3⟩, ?_⟩
  cases ty with
  | object C => exact absurd rfl (hp C)
  | _ => exact h1
theorem ao_known {C : String} {args : Array Value} {s : State} (h : (Cond.arrayOver (.object C)).before args s = true) : ∃ cA : ClassId, ArrOfT s cA (.object C) ∧ va_RA s cA (.object C) := by
  obtain ⟨comp, c, k, h1, h2, h3, h4, h5⟩ := Cond.arrayOver_spec h
  exact ⟨c, fun n z => ⟨(fun k h => by cases h), k, h3, comp, h4⟩, k, comp, h3, h4, h1, h5⟩
theorem st_known {own tx cl : String} {k : Nat} {args : Array Value} {s : State} (h1 : (Cond.stringRef own k tx).before args s = true) (h2 : (Cond.exactly (.string own k) cl).before args s = true) : ∃ a : Nat, vk_R own k tx a s := by
  obtain ⟨a, ha⟩ : ∃ a : Nat, (Term.string own k).eval args s none [] s = some (.ref a) := by
    obtain ⟨a, c, cell, k, ha, -⟩ := Cond.exactly_spec h2
    exact ⟨a, ha⟩
  exact ⟨a, vk_R.of h1 ha⟩
theorem nsF_in : ∀ q ∈ nsF, Cond.fieldLinkNest q.1 q.2.1 q.2.2.1 q.2.2.2.1 q.2.2.2.2.1 q.2.2.2.2.2 ∈ lw_tbl := by decide +kernel
theorem nsM_in : ∀ q ∈ nsM, Cond.methodLinkNest q.1 q.2.1 q.2.2.1 q.2.2.2 ∈ lw_tbl := by decide +kernel
theorem cs_in : ∀ e ∈ exn, Cond.castable e e ∈ lw_tbl := by decide +kernel
theorem nc_in : ∀ e ∈ exn, ∀ f ∈ exn, e ≠ f → Cond.not (.castable e f) ∈ flatC (Jvm.Cond.and given_1 narrow_1) := by decide +kernel
theorem dc_in : ∀ y ∈ dcl, Cond.declares y ∈ lw_tbl := by decide +kernel
theorem sr_in : ∀ q ∈ stX, Cond.stringRef RX11 q.1 q.2 ∈ lw_tbl := by decide +kernel
theorem se_in : ∀ q ∈ stX, Cond.exactly (.string RX11 q.1) "java/lang/String" ∈ flatC (Jvm.Cond.and given_1 narrow_1) := by decide +kernel
set_option maxHeartbeats 4000000 in
set_option maxRecDepth 100000 in
theorem gc_start {s : State} {b : Nat} (hts : ∀ w ∈ lw_tbl, w.before #[Value.ref b] s = true) (hgv : (Jvm.Cond.and given_1 narrow_1).before #[Value.ref b] s = true) : ∃ (D : va_G) (cy : Nat → ClassId) (sa : Nat → Nat), GC D cy sa s := by
  have hs := flat_of_before _ hgv
  obtain ⟨k0, i0, hK0⟩ := u_known (C := RX0) (T := TX0) (N := 7) (n := 7) hts inX0 (hts (.instantiable RX0 7) (by decide +kernel))
  obtain ⟨k1, i1, hK1⟩ := u_known (C := RX1) (T := TX1) (N := 4) (n := 4) hts inX1 (hts (.instantiable RX1 4) (by decide +kernel))
  obtain ⟨k2, i2, hK2⟩ := u_known (C := RX2) (T := TX2) (N := 3) (n := 3) hts inX2 (hts (.instantiable RX2 3) (by decide +kernel))
  obtain ⟨k3, i3, hK3⟩ := u_known (C := RX3) (T := TX3) (N := 4) (n := 4) hts inX3 (hts (.instantiable RX3 4) (by decide +kernel))
  obtain ⟨k4, i4, hK4⟩ := u_known (C := RX4) (T := TX4) (N := 5) (n := 5) hts inX4 (hts (.instantiable RX4 5) (by decide +kernel))
  obtain ⟨k5, i5, hK5⟩ := u_known (C := RX5) (T := TX5) (N := 2) (n := 2) hts inX5 (hts (.instantiable RX5 2) (by decide +kernel))
  obtain ⟨k6, i6, hK6⟩ := u_known (C := RX6) (T := TX6) (N := 19) (n := 19) hts inX6 (hts (.instantiable RX6 19) (by decide +kernel))
  obtain ⟨k7, i7, hK7⟩ := u_known (C := RX7) (T := TX7) (N := 2) (n := 2) hts inX7 (hts (.instantiable RX7 2) (by decide +kernel))
  obtain ⟨k8, i8, hK8⟩ := u_known (C := RX8) (T := TX8) (N := 7) (n := 7) hts inX8 (hts (.instantiable RX8 7) (by decide +kernel))
  obtain ⟨k9, i9, hK9⟩ := u_known (C := RX9) (T := TX9) (N := 5) (n := 5) hts inX9 (hts (.instantiable RX9 5) (by decide +kernel))
  obtain ⟨k10, i10, hK10⟩ := u_known (C := RX10) (T := TX10) (N := 0) (n := 7) hts inX10 (hts (.instantiable RX10 7) (by decide +kernel))
  obtain ⟨k11, i11, hK11⟩ := u_known (C := RX11) (T := TX11) (N := 14) (n := 14) hts inX11 (hts (.instantiable RX11 14) (by decide +kernel))
  obtain ⟨k12, i12, hK12⟩ := u_known (C := RX12) (T := TX12) (N := 38) (n := 38) hts inX12 (hts (.instantiable RX12 38) (by decide +kernel))
  let kl : List ClassId := [k0, k1, k2, k3, k4, k5, k6, k7, k8, k9, k10, k11, k12]
  let il : List (Nat → Nat) := [i0, i1, i2, i3, i4, i5, i6, i7, i8, i9, i10, i11, i12]
  have hKc : ∀ (k : Nat) (q : vw_C), vwCl[k]? = some q → u_Kn s q.1 q.2.1 q.2.2 (kl.getD k k0) (il.getD k i0) := by
    intro k q hq
    match k, hq with
    | 0, hq => cases hq; exact hK0
    | 1, hq => cases hq; exact hK1
    | 2, hq => cases hq; exact hK2
    | 3, hq => cases hq; exact hK3
    | 4, hq => cases hq; exact hK4
    | 5, hq => cases hq; exact hK5
    | 6, hq => cases hq; exact hK6
    | 7, hq => cases hq; exact hK7
    | 8, hq => cases hq; exact hK8
    | 9, hq => cases hq; exact hK9
    | 10, hq => cases hq; exact hK10
    | 11, hq => cases hq; exact hK11
    | 12, hq => cases hq; exact hK12
    | k + 13, hq => simp [vwCl] at hq
  obtain ⟨a0, hA0⟩ := ac_known (hts (.arrayClass .int) (by decide +kernel)) (fun C h => nomatch h)
  obtain ⟨a1, hA1⟩ := ac_known (hts (.arrayClass .byte) (by decide +kernel)) (fun C h => nomatch h)
  obtain ⟨a2, hA2⟩ := ac_known (hts (.arrayClass .long) (by decide +kernel)) (fun C h => nomatch h)
  have ho3 := hts (.arrayOver (.object RX6)) (by decide +kernel)
  obtain ⟨a3, hA3⟩ := ao_known ho3
  have ho4 := hts (.arrayOver (.object RX5)) (by decide +kernel)
  obtain ⟨a4, hA4⟩ := ao_known ho4
  have ho5 := hts (.arrayOver (.object RX1)) (by decide +kernel)
  obtain ⟨a5, hA5⟩ := ao_known ho5
  have ho6 := hts (.arrayOver (.object RX4)) (by decide +kernel)
  obtain ⟨a6, hA6⟩ := ao_known ho6
  let al : List ClassId := [a0, a1, a2, a3, a4, a5, a6]
  obtain ⟨t0, hS0⟩ := st_known (hts _ (sr_in _ (List.mem_of_getElem? (i := 0) rfl))) (hs _ (se_in _ (List.mem_of_getElem? (i := 0) rfl)))
  obtain ⟨t1, hS1⟩ := st_known (hts _ (sr_in _ (List.mem_of_getElem? (i := 1) rfl))) (hs _ (se_in _ (List.mem_of_getElem? (i := 1) rfl)))
  obtain ⟨t2, hS2⟩ := st_known (hts _ (sr_in _ (List.mem_of_getElem? (i := 2) rfl))) (hs _ (se_in _ (List.mem_of_getElem? (i := 2) rfl)))
  obtain ⟨t3, hS3⟩ := st_known (hts _ (sr_in _ (List.mem_of_getElem? (i := 3) rfl))) (hs _ (se_in _ (List.mem_of_getElem? (i := 3) rfl)))
  let tl : List Nat := [t0, t1, t2, t3]
  refine ⟨(fun k => kl.getD k k0, fun k => il.getD k i0), (fun k => al.getD k a0), (fun k => tl.getD k 0), ⟨hKc, ?_⟩, ⟨fun q hq => va_Nw.of rfl (hts _ (nsF_in q hq)), fun q hq => va_Nw.of rfl (hts _ (nsM_in q hq))⟩, ?_, fun e he => va_Nw.of rfl (hts _ (cs_in e he)), fun e he f hf hn => va_Nc.of (hs _ (nc_in e he f hf hn)), ⟨va_AO.of ho4, va_AO.of ho5, va_AO.of ho3, va_AO.of ho6⟩, fun y hy => va_Nw.of rfl (hts _ (dc_in y hy))⟩
  · intro k q hq
    match k, hq with
    | 0, hq => cases hq; exact hA0
    | 1, hq => cases hq; exact hA1
    | 2, hq => cases hq; exact hA2
    | 3, hq => cases hq; exact hA3
    | 4, hq => cases hq; exact hA4
    | 5, hq => cases hq; exact hA5
    | 6, hq => cases hq; exact hA6
    | k + 7, hq => simp [tyW] at hq
  · intro k q hq
    match k, hq with
    | 0, hq => cases hq; exact hS0
    | 1, hq => cases hq; exact hS1
    | 2, hq => cases hq; exact hS2
    | 3, hq => cases hq; exact hS3
    | k + 4, hq => simp [stX] at hq
theorem th_start {s : State} {b : Nat} {A : Nat → Prop} (hAe : A = fun q => s.heap.size ≤ q) (hts : ∀ w ∈ lw_tbl, w.before #[Value.ref b] s = true) (hgv : (Jvm.Cond.and given_1 narrow_1).before #[Value.ref b] s = true) : TH A s s.heap := by
  have hs := flat_of_before _ hgv
  have hA : ∀ a : Nat, a < s.heap.size → ¬ A a := fun a h => by rw [hAe]; exact Nat.not_le.mpr h
  exact ⟨vx_Zqof (hts (.laysStatic Bundle.tN "UNASSIGNED_STACK" Bundle.steD) (by decide +kernel)) (hts (.initialized Bundle.tN) (by decide +kernel)) (hs (.isRef (.static Bundle.tN "UNASSIGNED_STACK" Bundle.steD)) (by decide +kernel)) hA, vx_Zqof (hts (.laysStatic Bundle.tN "SUPPRESSED_SENTINEL" Bundle.listD) (by decide +kernel)) (hts (.initialized Bundle.tN) (by decide +kernel)) (hs (.isRef (.static Bundle.tN "SUPPRESSED_SENTINEL" Bundle.listD)) (by decide +kernel)) hA⟩
