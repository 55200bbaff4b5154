section
theorem ww_wide : True := by
  have _ := @Stand.thenCaughtThrough
  trivial
/-! ===== BEGIN words of one list among another's, by their places ===== -/
theorem goodIn_r {big : List Cond} (ws : List Cond) (ps : List Nat) (hp : ws = ps.filterMap (fun i => big[i]?)) (h : ws.all goodWord = true) : GoodIn big ws := by
  intro w hw
  have h1 := List.all_eq_true.mp h w hw
  rw [hp] at hw
  obtain ⟨i, -, hi⟩ := List.mem_filterMap.mp hw
  have hm : w ∈ big := by first | exact List.mem_of_getElem? hi | exact List.getElem?_mem hi
  exact ⟨hm, good_of_word h1⟩
theorem goodIn_app {big a b : List Cond} (ha : GoodIn big a) (hb : GoodIn big b) : GoodIn big (a ++ b) := fun w h => (List.mem_append.mp h).elim (ha w) (hb w)
theorem goodIn_sub {big ws : List Cond} (hm : ∀ w ∈ ws, w ∈ big) (h : ws.all goodWord = true) : GoodIn big ws := fun w hw => ⟨hm w hw, good_of_word (List.all_eq_true.mp h w hw)⟩
/-! ===== END ===== -/

/-! ===== BEGIN exceptions that leave a method, and their catching by the caller (launches without stack traces) ===== -/
section VXA
/-! The laws vx_back, vx_callV, vx_callS, vx_callSW, vx_throw0, vx_throwS follow proofs of the library, with one case more: JvmDerived/Free/Laws.lean (Back.of_free), Shelf42/LK1.lean (callV, callS), Shelf/KitTraced.lean (throwNew0V, throwNewS). -/
/-- where a method has thrown q: the class by its name, the cell, what was written, the world -/
def vx_T (XC : String → State → State → Prop) (st : State) (q : Addr) (t : State) (mc ms : Nat) (free : Addr → Prop) : Prop :=
  ∃ (E : String) (ce : Cell) (L : List Loc), XC E st t ∧ t.heap[q]? = some ce ∧ ce.vm = .none ∧ st.vm.findClass E = some ce.cls ∧ st.WarmedH t.vm ∧ st.sameButNew ({ t with vm := st.vm } : State) L mc ms ∧ ∀ z ∈ L, free z.base
def vx_Q (Qc : Array Value → State → Outcome → State → Prop) (XC : String → State → State → Prop) (mc ms : Nat) (free : Addr → Prop) : Array Value → State → Outcome → State → Prop := fun a st o t =>
  (Qc a st o t ∧ ∃ L, FrameEnd st o t L mc ms ∧ ∀ q ∈ L, free q.base) ∨ ∃ q, o = .threw q ∧ vx_T XC st q t mc ms free
/-- a callee that returns or throws -/
def vx_Met (l : Launch) (y : MethodName) (ws : List Cond) (rm : Room) (Pc : Array Value → State → Prop) (Qc : Array Value → State → Outcome → State → Prop) (XC : String → State → State → Prop) (mc ms : Nat) (free : Addr → Prop) : Prop :=
  MetFree l y (headSpec ws rm) Pc (fun _ _ _ _ _ => True) (vx_Q Qc XC mc ms free)
def vx_Post (XC : String → State → State → Prop) (mc ms : Nat) (free : Addr → Prop) : Pt → Array Value → Addr → Pt → Prop := fun A a q B =>
  ∃ (g : JFrame) (mk : MethodId) (t : State) (L : List Loc) (E : String) (ce : Cell), B.U.heap = t.heap ∧ B.U.vm = t.vm ∧ XC E (A.U.calling g mk a) t ∧ t.heap[q]? = some ce ∧ ce.vm = .none ∧ A.U.vm.findClass E = some ce.cls ∧ B.locs = A.locs ++ L ∧ (∀ z ∈ L, free z.base) ∧ B.cells = A.cells + mc ∧ B.slots = A.slots + ms
def vx_Back (l : Launch) (R : Room) (p : Program) (e : Env) (below : List Frame) (s : State) (sargs : Array Value) (y : MethodName) (len W9 : Nat)
    (Pre : Pt → Array Value → Prop) (Post : Pt → Array Value → Option Value → Pt → Prop) (PostX : Pt → Array Value → Addr → Pt → Prop) : Prop :=
  ∀ (m : MethodId) (meth : Method) (c : Code) (A : Pt) (g : JFrame) (ig : Instr) (mk : MethodId) (a : Array Value),
    Stand p l e R s m sargs below meth c A.U A.locs A.cells A.slots → g.method = m → g.locals.size = c.maxLocals → decode c.code g.pc = .ok (ig, len) →
    2 * g.monitorRoom + (g.stack.map fun v => v.category).sum ≤ W9 → A.U.methodNamed? y = some mk → Pre A a →
    (∃ (v : Option Value) (B : Pt), Stand p l e R s m sargs below meth c B.U B.locs B.cells B.slots ∧ Post A a v B ∧
      Steps p.tables e below (doInvoke e (A.U.setTop g) [] mk a).1 (B.U.setTop { g with pc := g.pc + len, stack := v.toList ++ g.stack })) ∨
    (∃ (q : Addr) (B : Pt), Stand p l e R s m sargs below meth c B.U B.locs B.cells B.slots ∧ PostX A a q B ∧
      Steps p.tables e below (doInvoke e (A.U.setTop g) [] mk a).1 ((B.U.setTop g).pushFrame (.throwing q)))
section Payer
variable {l : Launch} {R : Room} {p : Program} {e : Env} {below : List Frame} {s : State} {sargs : Array Value} {y : MethodName} {len W9 : Nat}
theorem vx_back {ws : List Cond} {rm : Room} {Pc : Array Value → State → Prop} {Qc : Array Value → State → Outcome → State → Prop} {XC : String → State → State → Prop} {mc ms : Nat} {free : Addr → Prop} {bytes : ByteArray} {maxL : Nat} {ret : Option FieldType}
    (hM : vx_Met l y ws rm Pc Qc XC mc ms free) (hblind : FrameBlind Pc) (hrc : rm.cells = mc) (hrs : rm.slots = ms)
    (hframes : rm.frames + 1 ≤ R.frames) (hlocals : W9 + (maxL + 11) + rm.locals ≤ R.locals)
    (hws : ∀ w ∈ ws, ∀ a' U, s.WarmedH U.vm → w.before a' U = true) (hcode : Cond.code y bytes maxL ret ∈ ws) (hinit : ∀ a' U, s.WarmedH U.vm → (Cond.initialized y.cls).before a' U = true) :
    vx_Back l R p e below s sargs y len W9 (PreOf R mc ms Pc) (PostOf Qc mc ms free) (vx_Post XC mc ms free) := by
  intro m meth c A g ig mk a X hg hsize hdg hW hn hp
  have h1 : (headSpec ws rm).pre.before a A.U = true := atoms_intro fun w hw => hws w hw _ _ X.warmed
  have h2 : (Cond.code y bytes maxL ret).before a A.U = true := hws _ hcode _ _ X.warmed
  have h3 : (Cond.initialized y.cls).before a A.U = true := hinit _ _ X.warmed
  have h4 : A.cells + (headSpec ws rm).room.cells ≤ R.cells := by rw [show (headSpec ws rm).room.cells = mc from hrc]; exact hp.1
  have h5 : A.slots + (headSpec ws rm).room.slots ≤ R.slots := by rw [show (headSpec ws rm).room.slots = ms from hrs]; exact hp.2.1
  have hPc : Pc a (A.U.calling g mk a) := hblind _ _ _ _ hp.2.2
  obtain ⟨U, Ls, c0, s0⟩ := A
  dsimp only [Pt.U, Pt.locs, Pt.cells, Pt.slots] at h1 h2 h3 h4 h5 X hn hPc ⊢
  obtain ⟨methY, cY, hmY, hcY, -, hlY, -, -, -, -⟩ := Cond.code_spec hn h2
  obtain ⟨kY, hkY, -⟩ := className_of_methodNamed hn
  have hinitY : kY.init = .initialized := Cond.initialized_spec (findClass_of_methodNamed hn) hkY h3
  have h : At U g.method c below := by rw [hg]; exact X.here
  have hlocals9 : W9 + (maxL + 11) + (headSpec ws rm).room.locals ≤ R.locals := hlocals
  have happ : (headSpec ws rm).appliesLoose y e.platform (U.calling g mk a) = true :=
    Spec.appliesLoose_calling (g := g) h hdg hn hkY hinitY
      (X.room_calling (g := g) (R' := (headSpec ws rm).room) hsize hmY hcY hframes (by rw [hlY]; omega) h4 h5) h1
  obtain ⟨mid, hmid⟩ := h.above
  have hfr : (U.setTop g).frames = (.java g :: mid) ++ below := by rw [State.frames_setTop' g h.top, hmid]; rfl
  obtain ⟨o, s₂, hsteps, -, hend, hq⟩ := Steps.callFree hM p X.admits X.cas X.clock (acts := []) hfr happ hPc trivial
  have hq' : vx_Q Qc XC mc ms free a (U.calling g mk a) o s₂ := hq
  rw [State.frames_setTop' g h.top] at hend
  obtain ⟨g₀, hg0⟩ := Option.isSome_iff_exists.mp h.top
  obtain ⟨r, hr⟩ := State.topJava?_eq_some.mp hg0
  have hr' : (({ U with heap := s₂.heap, slotsUsed := s₂.slotsUsed } : State).setVm s₂.vm).frames = .java g₀ :: r := hr
  rcases hq' with ⟨hqc, L, hfe, hL⟩ | ⟨q, rfl, E, ce, L, hx, hce, hcv, hcl, hW₂, hsm, hL⟩
  · obtain ⟨⟨v, rfl⟩, hW₂, e2, q2, q3, q4, q5, q6⟩ := id hfe
    have e3 : s₂ = ({ (U.calling g mk a).setFrames s₂.frames with heap := s₂.heap, slotsUsed := s₂.slotsUsed } : State).setVm s₂.vm := by
      have : s₂ = ({ s₂ with vm := (U.calling g mk a).vm } : State).setVm s₂.vm := rfl
      rw [e2] at this
      exact this
    obtain ⟨c₂, i₂, len₂, hc₂, hd₂, hf₂⟩ := hend
    have hW' : U.WarmedH s₂.vm := hW₂
    have hcc : c₂ = c := by
      have h1 : s₂.code? g.method = U.code? g.method := by
        rw [State.code?_eq, State.code?_eq, hW'.alike.method?]
      exact Option.some.inj (hc₂.symm.trans (h1.trans h.code))
    subst hcc
    have hlen : len₂ = len := by rw [hdg] at hd₂; cases hd₂; rfl
    subst hlen
    have hs₂ : s₂ = (({ U with heap := s₂.heap, slotsUsed := s₂.slotsUsed } : State).setVm s₂.vm).setTop { g with pc := g.pc + len₂, stack := v.toList ++ g.stack } := by
      refine e3.trans ?_
      rw [hf₂, State.calling_eq h.top, State.setFrames_setFrames, State.setTop_of_frames _ hr', hr]
      rfl
    have hsame : U.sameButNew ({ U with heap := s₂.heap, slotsUsed := s₂.slotsUsed } : State) L mc ms := by
      refine ⟨?_, q2, q3, q4, q5, q6⟩
      obtain ⟨t, ht, -⟩ := State.frames_cons hr
      show ({ U with heap := s₂.heap, slotsUsed := s₂.slotsUsed } : State) = { U.setFrames U.frames with heap := s₂.heap, slotsUsed := s₂.slotsUsed }
      rw [State.setFrames_self ht]
    subst hg
    refine Or.inl ⟨v, ⟨(({ U with heap := s₂.heap, slotsUsed := s₂.slotsUsed } : State).setVm s₂.vm), Ls ++ L, c0 + mc, s0 + ms⟩,
      ⟨X.admits, X.cas, X.clock, X.frames, X.room, X.hears, X.method, X.code, (X.here.setHeapUsed s₂.heap s₂.slotsUsed).setVm hW'.alike, X.tail, State.WarmedH.trans X.warmed hW', X.limits, X.bytes, X.same.trans (hsame.setVm s.vm)⟩,
      ⟨g, mk, s₂, L, rfl, rfl, hqc, rfl, hL, rfl, rfl⟩, ?_⟩
    show Steps p.tables e below _ ((({ U with heap := s₂.heap, slotsUsed := s₂.slotsUsed } : State).setVm s₂.vm).setTop { g with pc := g.pc + len₂, stack := v.toList ++ g.stack })
    rw [← hs₂]
    exact hsteps
  · obtain ⟨e2, q2, q3, q4, q5, q6⟩ := id hsm
    have e3 : s₂ = ({ (U.calling g mk a).setFrames s₂.frames with heap := s₂.heap, slotsUsed := s₂.slotsUsed } : State).setVm s₂.vm := by
      have : s₂ = ({ s₂ with vm := (U.calling g mk a).vm } : State).setVm s₂.vm := rfl
      rw [e2] at this
      exact this
    have hf₂ : s₂.frames = .throwing q :: .java g :: U.frames.tail := hend
    have hW' : U.WarmedH s₂.vm := hW₂
    have hs₂ : s₂ = ((({ U with heap := s₂.heap, slotsUsed := s₂.slotsUsed } : State).setVm s₂.vm).setTop g).pushFrame (.throwing q) := by
      refine e3.trans ?_
      rw [hf₂, State.calling_eq h.top, State.setFrames_setFrames, State.pushFrame, State.frames_setTop _ hr', State.setTop_of_frames _ hr', State.setFrames_setFrames, hr]
      rfl
    have hsame : U.sameButNew ({ U with heap := s₂.heap, slotsUsed := s₂.slotsUsed } : State) L mc ms := by
      refine ⟨?_, q2, q3, q4, q5, q6⟩
      obtain ⟨t, ht, -⟩ := State.frames_cons hr
      show ({ U with heap := s₂.heap, slotsUsed := s₂.slotsUsed } : State) = { U.setFrames U.frames with heap := s₂.heap, slotsUsed := s₂.slotsUsed }
      rw [State.setFrames_self ht]
    subst hg
    refine Or.inr ⟨q, ⟨(({ U with heap := s₂.heap, slotsUsed := s₂.slotsUsed } : State).setVm s₂.vm), Ls ++ L, c0 + mc, s0 + ms⟩,
      ⟨X.admits, X.cas, X.clock, X.frames, X.room, X.hears, X.method, X.code, (X.here.setHeapUsed s₂.heap s₂.slotsUsed).setVm hW'.alike, X.tail, State.WarmedH.trans X.warmed hW', X.limits, X.bytes, X.same.trans (hsame.setVm s.vm)⟩,
      ⟨g, mk, s₂, L, E, ce, rfl, rfl, hx, hce, hcv, hcl, rfl, hL, rfl, rfl⟩, ?_⟩
    show Steps p.tables e below _ (((({ U with heap := s₂.heap, slotsUsed := s₂.slotsUsed } : State).setVm s₂.vm).setTop g).pushFrame (.throwing q))
    rw [← hs₂]
    exact hsteps
end Payer
section Calls
variable {p : Program} {l : Launch} {e : Env} {R : Room} {s : State} {m : MethodId} {args : Array Value} {below : List Frame} {meth : Method} {c : Code} {T : State} {locs : List Loc} {cells slots : Nat}
theorem vx_callV (X : Stand p l e R s m args below meth c T locs cells slots) (hexec : p.tables.exec = Jvm.exec) {own C : String} {index : Nat} {y : MethodName} {bytes : ByteArray} {maxL : Nat} {ret : Option FieldType}
    (hown : s.vm.findClass own = some m.cls) (hlink : (Cond.methodLink own index y).before args s = true) (hinst : (Cond.instanceMethod y).before args s = true) (hsel : (Cond.selects C y y).before args s = true)
    (hcode : (Cond.code y bytes maxL ret).before args s = true) (hy : y.cls ≠ "java/lang/invoke/MethodHandle" ∧ y.cls ≠ "java/lang/invoke/VarHandle")
    {W9 : Nat} {Pre : Pt → Array Value → Prop} {Post : Pt → Array Value → Option Value → Pt → Prop} {PostX : Pt → Array Value → Addr → Pt → Prop} (hK : vx_Back l R p e below s args y 3 W9 Pre Post PostX)
    {b : Addr} {cellB : Cell} (hcell : T.heap[b]? = some cellB) (hobj : cellB.vm.isStatics = false) (hcls : s.vm.findClass C = some cellB.cls)
    {g : JFrame} (hg : g.method = m) (hsize : g.locals.size = c.maxLocals) {argsL rest : List Value} (hlen : ∀ sig, parseMethodDescriptor y.desc = some sig → argsL.length = sig.parameters.length)
    (hstack : g.stack = argsL.reverse ++ .ref b :: rest) (hW : 2 * g.monitorRoom + (rest.map fun v => v.category).sum ≤ W9) (hdg : decode c.code g.pc = .ok (.invokevirtual index, 3))
    (hpre : ∀ vm₁, s.WarmedH vm₁ → Pre ⟨T.setVm vm₁, locs, cells, slots⟩ (Value.ref b :: argsL).toArray) :
    (∃ (v : Option Value) (vm₁ : Vm) (B : Pt), s.WarmedH vm₁ ∧ Stand p l e R s m args below meth c B.U B.locs B.cells B.slots ∧ Post ⟨T.setVm vm₁, locs, cells, slots⟩ (Value.ref b :: argsL).toArray v B ∧
      ∀ target, Steps p.tables e below (B.U.setTop { g with pc := g.pc + 3, stack := v.toList ++ rest }) target → Steps p.tables e below (T.setTop g) target) ∨
    (∃ (q : Addr) (vm₁ : Vm) (B : Pt), s.WarmedH vm₁ ∧ Stand p l e R s m args below meth c B.U B.locs B.cells B.slots ∧ PostX ⟨T.setVm vm₁, locs, cells, slots⟩ (Value.ref b :: argsL).toArray q B ∧
      Steps p.tables e below (T.setTop g) ((B.U.setTop { g with stack := rest }).pushFrame (.throwing q))) := by
  obtain ⟨mk, methM, hnamed, hmethM, hstM, habM⟩ := Cond.instanceMethod_spec hinst
  obtain ⟨methM', cM, hmethM', -, -, -, -, -, -, hsigM⟩ := Cond.code_spec hnamed hcode
  cases hmethM.symm.trans hmethM'
  obtain ⟨c2, r2, m2, q1, q2, q3, q4, kP, hkP, hkPi⟩ := Cond.selects_spec hsel
  cases hcls.symm.trans q1
  cases (State.methodFound?_of_named hnamed hy).symm.trans q2
  cases hnamed.symm.trans q3
  have hselP : selectMethod e.platform s.vm cellB.cls mk = .method mk := by rw [Launch.admits_selectMethod X.admits]; exact q4
  obtain ⟨vm₁, X₁, hstep₁⟩ := X.invokevirtual hexec hown hlink hnamed hmethM hstM hkP hkPi hy (a := b) (cell := cellB) hcell
    (fun z h => by rw [h] at hobj; cases hobj) hselP hmethM habM hkP hkPi (g := g) hg (argsL := argsL) (rest := rest) (hlen _ hsigM) hstack hdg
  rcases hK m meth c ⟨T.setVm vm₁, locs, cells, slots⟩ { g with stack := rest } (.invokevirtual index) mk (Value.ref b :: argsL).toArray X₁ hg hsize hdg hW (X₁.named hnamed) (hpre vm₁ X₁.warmed) with ⟨v, B, X', hpost, hsteps⟩ | ⟨q, B, X', hpost, hsteps⟩
  · exact Or.inl ⟨v, vm₁, B, X₁.warmed, X', hpost, fun target h => hstep₁ _ fun acts => by rw [doInvoke_state]; exact hsteps.trans h⟩
  · exact Or.inr ⟨q, vm₁, B, X₁.warmed, X', hpost, hstep₁ _ fun acts => by rw [doInvoke_state]; exact hsteps⟩
theorem vx_callS (X : Stand p l e R s m args below meth c T locs cells slots) (hexec : p.tables.exec = Jvm.exec) {own : String} {index : Nat} {y : MethodName} {bytes : ByteArray} {maxL : Nat} {ret : Option FieldType}
    (hown : s.vm.findClass own = some m.cls) (hlink : (Cond.methodLink own index y).before args s = true) (hstat : (Cond.static y).before args s = true) (hinit : (Cond.initialized y.cls).before args s = true)
    (hcode : (Cond.code y bytes maxL ret).before args s = true) (hy : y.cls ≠ "java/lang/invoke/MethodHandle" ∧ y.cls ≠ "java/lang/invoke/VarHandle")
    {W9 : Nat} {Pre : Pt → Array Value → Prop} {Post : Pt → Array Value → Option Value → Pt → Prop} {PostX : Pt → Array Value → Addr → Pt → Prop} (hK : vx_Back l R p e below s args y 3 W9 Pre Post PostX)
    {g : JFrame} (hg : g.method = m) (hsize : g.locals.size = c.maxLocals) {argsL rest : List Value} (hlen : ∀ sig, parseMethodDescriptor y.desc = some sig → argsL.length = sig.parameters.length)
    (hstack : g.stack = argsL.reverse ++ rest) (hW : 2 * g.monitorRoom + (rest.map fun v => v.category).sum ≤ W9) (hdg : decode c.code g.pc = .ok (.invokestatic index, 3))
    (hpre : ∀ vm₁, s.WarmedH vm₁ → Pre ⟨T.setVm vm₁, locs, cells, slots⟩ argsL.toArray) :
    (∃ (v : Option Value) (vm₁ : Vm) (B : Pt), s.WarmedH vm₁ ∧ Stand p l e R s m args below meth c B.U B.locs B.cells B.slots ∧ Post ⟨T.setVm vm₁, locs, cells, slots⟩ argsL.toArray v B ∧
      ∀ target, Steps p.tables e below (B.U.setTop { g with pc := g.pc + 3, stack := v.toList ++ rest }) target → Steps p.tables e below (T.setTop g) target) ∨
    (∃ (q : Addr) (vm₁ : Vm) (B : Pt), s.WarmedH vm₁ ∧ Stand p l e R s m args below meth c B.U B.locs B.cells B.slots ∧ PostX ⟨T.setVm vm₁, locs, cells, slots⟩ argsL.toArray q B ∧
      Steps p.tables e below (T.setTop g) ((B.U.setTop { g with stack := rest }).pushFrame (.throwing q))) := by
  obtain ⟨mk, hnamed⟩ := Cond.code_named hcode
  obtain ⟨methM, cM, hmethM, -, -, -, -, -, -, hsigM⟩ := Cond.code_spec hnamed hcode
  have hstatic : methM.isStatic = true := Cond.static_spec hnamed hmethM hstat
  obtain ⟨kP, hkP, -⟩ := className_of_methodNamed hnamed
  have hinitP : kP.init = .initialized := Cond.initialized_spec (findClass_of_methodNamed hnamed) hkP hinit
  obtain ⟨vm₁, X₁, hstep₁⟩ := X.invokestatic hexec hown hlink hnamed hmethM hstatic hkP hinitP hy (g := g) hg (argsL := argsL) (rest := rest) (hlen _ hsigM) hstack hdg
  rcases hK m meth c ⟨T.setVm vm₁, locs, cells, slots⟩ { g with stack := rest } (.invokestatic index) mk argsL.toArray X₁ hg hsize hdg hW (X₁.named hnamed) (hpre vm₁ X₁.warmed) with ⟨v, B, X', hpost, hsteps⟩ | ⟨q, B, X', hpost, hsteps⟩
  · exact Or.inl ⟨v, vm₁, B, X₁.warmed, X', hpost, fun target h => hstep₁ _ fun acts => by rw [doInvoke_state]; exact hsteps.trans h⟩
  · exact Or.inr ⟨q, vm₁, B, X₁.warmed, X', hpost, hstep₁ _ fun acts => by rw [doInvoke_state]; exact hsteps⟩
end Calls
theorem vx_cls {s : State} {T : State} {vm₁ : Vm} {E : String} {k : ClassId} (hW : s.WarmedH vm₁) (h : (T.setVm vm₁).vm.findClass E = some k) : s.vm.findClass E = some k := by
  have h1 : vm₁.findClass E = some k := h
  rw [hW.alike.findClass] at h1
  exact h1
/-- the method's frame g, with q thrown over it -/
def vx_W (p : Program) (l : Launch) (e : Env) (R : Room) (s : State) (m : MethodId) (args : Array Value) (below : List Frame) (meth : Method) (c : Code) (H : Heap) (locs : List Loc) (cells slots : Nat) (Q : State → Prop) (g : JFrame) (q : Addr) : Prop :=
  ∀ T : State, T.heap = H → Stand p l e R s m args below meth c T locs cells slots → ∃ t, Steps p.tables e below ((T.setTop g).pushFrame (.throwing q)) t ∧ Q t
def vx_Run (p : Program) (l : Launch) (e : Env) (R : Room) (s : State) (m : MethodId) (args : Array Value) (below : List Frame) (meth : Method) (c : Code) (H : Heap) (locs : List Loc) (cells slots mc ms : Nat) (g : JFrame) (rest : List Value) (Qa : State → Outcome → State → Prop) (XC : String → State → State → Prop) (free : Addr → Prop) : Prop :=
  ∀ T : State, T.heap = H → Stand p l e R s m args below meth c T locs cells slots →
    (∃ (v : Option Value) (st₀ t T' : State) (L : List Loc), st₀.heap = H ∧ Stand p l e R s m args below meth c T' (locs ++ L) (cells + mc) (slots + ms) ∧ (∀ q ∈ L, free q.base) ∧ T'.heap = t.heap ∧ T'.vm = t.vm ∧ Qa st₀ (.returned v) t ∧
      Goes p e below T g T' { g with pc := g.pc + 3, stack := v.toList ++ rest }) ∨
    (∃ (q : Addr) (st₀ t T' : State) (L : List Loc) (E : String) (ce : Cell), st₀.heap = H ∧ Stand p l e R s m args below meth c T' (locs ++ L) (cells + mc) (slots + ms) ∧ (∀ z ∈ L, free z.base) ∧ T'.heap = t.heap ∧ T'.vm = t.vm ∧ XC E st₀ t ∧ t.heap[q]? = some ce ∧ ce.vm = .none ∧ s.vm.findClass E = some ce.cls ∧
      Steps p.tables e below (T.setTop g) ((T'.setTop { g with stack := rest }).pushFrame (.throwing q)))
def vx_X {S : Type} (px : S → Prop) (B : String → S → State → Prop) (A : Nat → Prop) : String → State → State → Prop := fun E st t => ∃ u : S, px u ∧ B E u t ∧ va_F A st t
section Runs
variable {p : Program} {l : Launch} {e : Env} {R : Room} {s : State} {m : MethodId} {args : Array Value} {below : List Frame} {meth : Method} {c : Code} {H : Heap} {locs : List Loc} {cells slots : Nat}
variable {y : MethodName} {bytes cc : ByteArray} {maxL nL mc ms n index : Nat} {ret : Option FieldType} {ws : List Cond} {rm : Room} {Pc : Array Value → State → Prop} {Qc : Array Value → State → Outcome → State → Prop} {XC : String → State → State → Prop} {free : Addr → Prop} {Ts : List Cond} {own C : String} {b : Addr} {As rest : List Value} {g : JFrame}
theorem vx_callBack (cb : CallB R s args own index y bytes maxL ret ws rm mc ms n) (hM : vx_Met l y ws rm Pc Qc XC mc ms free) (hbl : FrameBlind Pc) : vx_Back l R p e below s args y 3 8 (PreOf R mc ms Pc) (PostOf Qc mc ms free) (vx_Post XC mc ms free) := by
  obtain ⟨hrc, hrs, hfr, hlo, hws, hcw, -, hini, -⟩ := cb
  exact vx_back (bytes := bytes) (maxL := maxL) (ret := ret) hM hbl hrc hrs hfr hlo hws hcw (fun a' U hW => word_at hW (Or.inl (by first | rfl | simp [Cond.onTables, Cond.keeps, Cond.steady])) hini)
theorem vx_runV (S : CallFix p m c cc nL s args Ts own) (hM : vx_Met l y ws rm Pc Qc XC mc ms free) (cw : CallW R s args own C index y bytes maxL ret ws rm mc ms n) (hp : PreV s H C b Pc As)
    (hg : g.method = m) (hn : As.length = n) (hsize : g.locals.size = nL) (hstack : g.stack = As.reverse ++ .ref b :: rest) (hW : 2 * g.monitorRoom + (rest.map fun v => v.category).sum ≤ 8) (hdg : decode cc g.pc = .ok (.invokevirtual index, 3)) (hf : cells + mc ≤ R.cells ∧ slots + ms ≤ R.slots) :
    vx_Run p l e R s m args below meth c H locs cells slots mc ms g rest (Qc (Value.ref b :: As).toArray) XC free := by
  have hK : vx_Back l R p e below s args y 3 8 (PreOf R mc ms Pc) (PostOf Qc mc ms free) (vx_Post XC mc ms free) := vx_callBack cw.1 hM hp.1
  obtain ⟨⟨-, -, -, -, -, -, hcode, -, hy, hlen, hl⟩, hin, hse⟩ := cw
  obtain ⟨hx, hb, hml, ho, -⟩ := S
  obtain ⟨-, ⟨cellB, hcB, hoB, hclB⟩, hPc⟩ := hp
  intro T hT X
  rcases vx_callV X hx (C := C) (bytes := bytes) (maxL := maxL) (ret := ret) ho hl hin hse hcode hy hK (by rw [hT]; exact hcB) hoB hclB hg (hsize.trans hml.symm) (argsL := As) (rest := rest) (fun sig h => hn.trans (hlen sig h)) hstack hW (by rw [hb]; exact hdg)
    (fun vm₁ hW₁ => ⟨hf.1, hf.2, hPc (T.setVm vm₁) hT hW₁⟩) with ⟨v, vm₁, ⟨U', l2, c2, s2⟩, hW₁, X', ⟨g', mk, t, L, e1, e2, hq, h1, hL, h2, h3⟩, st⟩ | ⟨q, vm₁, ⟨U', l2, c2, s2⟩, hW₁, X', ⟨g', mk, t, L, E, ce, e1, e2, hq, hce, hcv, hcl, h1, hL, h2, h3⟩, st⟩
  · dsimp only [Pt.U, Pt.locs, Pt.cells, Pt.slots] at X' e1 e2 h1 h2 h3 st
    subst h1; subst h2; subst h3
    exact Or.inl ⟨v, (T.setVm vm₁).calling g' mk (Value.ref b :: As).toArray, t, U', L, hT, X', hL, e1, e2, hq, st⟩
  · dsimp only [Pt.U, Pt.locs, Pt.cells, Pt.slots] at X' e1 e2 h1 h2 h3 st hcl
    subst h1; subst h2; subst h3
    exact Or.inr ⟨q, (T.setVm vm₁).calling g' mk (Value.ref b :: As).toArray, t, U', L, E, ce, hT, X', hL, e1, e2, hq, hce, hcv, vx_cls hW₁ hcl, st⟩
end Runs
section Rows
variable {p : Program} {l : Launch} {e : Env} {R : Room} {s : State} {m : MethodId} {args : Array Value} {below : List Frame} {meth : Method} {c : Code} {H : Heap} {locs : List Loc} {cells slots : Nat} {Q : State → Prop}
variable {mc ms : Nat} {free : Addr → Prop} {A0 A1 : Nat → Prop} {H0 : Heap} {a : Array Value} {pc : Nat} {ls : Array Slot} {st0 rest : List Value}
theorem vx_keep {st₀ t T' : State} {L : List Loc} (h0 : st₀.heap = H) (e1 : T'.heap = t.heap) (hS : va_S A0 H0 H locs) (hA : ∀ q, q < H.size → A1 q → A0 q) (hf : ∀ q, free q → A0 q) (hL : ∀ q ∈ L, free q.base) (hF : va_F A1 st₀ t) :
    H.size ≤ T'.heap.size ∧ (∀ q : Nat, q < H.size → ¬ A1 q → T'.heap[q]? = H[q]?) ∧ va_S A0 H0 T'.heap (locs ++ L) := by
  obtain ⟨hz, hk⟩ := hF
  rw [h0] at hz hk
  exact ⟨by rw [e1]; exact hz, fun q h1 h2 => by rw [e1]; exact hk q h1 h2,
    ⟨Nat.le_trans hS.1 (by rw [e1]; exact hz), fun q h1 h2 => by rw [e1, hk q (Nat.lt_of_lt_of_le h1 hS.1) (fun z => h2 (hA q (Nat.lt_of_lt_of_le h1 hS.1) z))]; exact hS.2.1 q h1 h2, fun q hq => by
      rcases List.mem_append.mp hq with h | h
      · exact hS.2.2 q h
      · exact hf _ (hL q h)⟩⟩
theorem vx_calli {S SX : Type} {post : Int32 → S → Prop} {px : SX → Prop} {B : S → State → Prop} {BX : String → SX → State → Prop} {AX : Nat → Prop} (hr : vx_Run p l e R s m args below meth c H locs cells slots mc ms (F0 m pc ls st0) rest (va_Qi post B A1 a) (vx_X px BX AX) free) (hS : va_S A0 H0 H locs) (hA : ∀ q, q < H.size → A1 q → A0 q) (hf : ∀ q, free q → A0 q) (hAX : ∀ q, q < H.size → AX q → A0 q)
    (kx : ∀ (E : String) (ce : Cell) (q9 : Addr) (u : SX) (t : State) (H1 : Heap) (locs1 : List Loc), t.heap = H1 → s.vm.Alike t.vm → px u → BX E u t → H.size ≤ H1.size → (∀ q : Nat, q < H.size → ¬ AX q → H1[q]? = H[q]?) → va_S A0 H0 H1 locs1 → H1[q9]? = some ce → ce.vm = .none → s.vm.findClass E = some ce.cls → vx_W p l e R s m args below meth c H1 locs1 (cells + mc) (slots + ms) Q (F0 m pc ls rest) q9)
    (kk : ∀ (r : Int32) (u : S) (t : State) (H1 : Heap) (locs1 : List Loc), t.heap = H1 → s.vm.Alike t.vm → post r u → B u t → H.size ≤ H1.size → (∀ q : Nat, q < H.size → ¬ A1 q → H1[q]? = H[q]?) → va_S A0 H0 H1 locs1 → W p l e R s m args below meth c H1 locs1 (cells + mc) (slots + ms) Q (F0 m (pc + 3) ls (.int r :: rest))) : W p l e R s m args below meth c H locs cells slots Q (F0 m pc ls st0) := by
  intro T hT X
  rcases hr T hT X with ⟨v, st₀, t, T', L, h0, X', hL, e1, e2, ⟨⟨r, u, hv, hp, hb⟩, hF⟩, st⟩ | ⟨q, st₀, t, T', L, E, ce, h0, X', hL, e1, e2, ⟨u, hp, hb, hF⟩, hce, hcv, hcl, st⟩
  · cases hv
    obtain ⟨k1, k2, k3⟩ := vx_keep h0 e1 hS hA hf hL hF
    obtain ⟨t2, a1, b1⟩ := kk r u t T'.heap (locs ++ L) e1.symm (by rw [← e2]; exact X'.warmed.alike) hp hb k1 k2 k3 T' rfl X'
    exact ⟨t2, st t2 a1, b1⟩
  · obtain ⟨k1, k2, k3⟩ := vx_keep h0 e1 hS hAX hf hL hF
    obtain ⟨t2, a1, b1⟩ := kx E ce q u t T'.heap (locs ++ L) e1.symm (by rw [← e2]; exact X'.warmed.alike) hp hb k1 k2 k3 (by rw [e1]; exact hce) hcv hcl T' rfl X'
    exact ⟨t2, st.trans a1, b1⟩
theorem vx_callv {S SX : Type} {post : S → Prop} {px : SX → Prop} {B : S → State → Prop} {BX : String → SX → State → Prop} {AX : Nat → Prop} (hr : vx_Run p l e R s m args below meth c H locs cells slots mc ms (F0 m pc ls st0) rest (va_Qv post B A1 a) (vx_X px BX AX) free) (hS : va_S A0 H0 H locs) (hA : ∀ q, q < H.size → A1 q → A0 q) (hf : ∀ q, free q → A0 q) (hAX : ∀ q, q < H.size → AX q → A0 q)
    (kx : ∀ (E : String) (ce : Cell) (q9 : Addr) (u : SX) (t : State) (H1 : Heap) (locs1 : List Loc), t.heap = H1 → s.vm.Alike t.vm → px u → BX E u t → H.size ≤ H1.size → (∀ q : Nat, q < H.size → ¬ AX q → H1[q]? = H[q]?) → va_S A0 H0 H1 locs1 → H1[q9]? = some ce → ce.vm = .none → s.vm.findClass E = some ce.cls → vx_W p l e R s m args below meth c H1 locs1 (cells + mc) (slots + ms) Q (F0 m pc ls rest) q9)
    (kk : ∀ (u : S) (t : State) (H1 : Heap) (locs1 : List Loc), t.heap = H1 → s.vm.Alike t.vm → post u → B u t → H.size ≤ H1.size → (∀ q : Nat, q < H.size → ¬ A1 q → H1[q]? = H[q]?) → va_S A0 H0 H1 locs1 → W p l e R s m args below meth c H1 locs1 (cells + mc) (slots + ms) Q (F0 m (pc + 3) ls (rest))) : W p l e R s m args below meth c H locs cells slots Q (F0 m pc ls st0) := by
  intro T hT X
  rcases hr T hT X with ⟨v, st₀, t, T', L, h0, X', hL, e1, e2, ⟨⟨u, hv, hp, hb⟩, hF⟩, st⟩ | ⟨q, st₀, t, T', L, E, ce, h0, X', hL, e1, e2, ⟨u, hp, hb, hF⟩, hce, hcv, hcl, st⟩
  · cases hv
    obtain ⟨k1, k2, k3⟩ := vx_keep h0 e1 hS hA hf hL hF
    obtain ⟨t2, a1, b1⟩ := kk u t T'.heap (locs ++ L) e1.symm (by rw [← e2]; exact X'.warmed.alike) hp hb k1 k2 k3 T' rfl X'
    exact ⟨t2, st t2 a1, b1⟩
  · obtain ⟨k1, k2, k3⟩ := vx_keep h0 e1 hS hAX hf hL hF
    obtain ⟨t2, a1, b1⟩ := kx E ce q u t T'.heap (locs ++ L) e1.symm (by rw [← e2]; exact X'.warmed.alike) hp hb k1 k2 k3 (by rw [e1]; exact hce) hcv hcl T' rfl X'
    exact ⟨t2, st.trans a1, b1⟩
/-- caught by the row x of this method's table; the rows ahead don't take it -/
theorem vx_catch {own name : String} {E : String} {ce : Cell} {q : Addr} (hown : s.vm.findClass own = some m.cls) (pre : List ExceptionTableEntry) (x : ExceptionTableEntry) (suf : List ExceptionTableEntry) (hsplit : c.exceptionTable.toList = pre ++ x :: suf)
    (hpass : ∀ z ∈ pre, covers z pc = false ∨ (z.catchType ≠ 0 ∧ ∃ nm : String, (Cond.classLink own z.catchType nm).before args s = true ∧ va_Nc E nm s)) (hx : covers x pc = true) (h0 : x.catchType ≠ 0)
    (hlink : (Cond.classLink own x.catchType name).before args s = true) (hcast : (Cond.castable E name).before args s = true) (hcell : H[q]? = some ce) (hv : ce.vm = .none) (hcl : s.vm.findClass E = some ce.cls)
    (kk : W p l e R s m args below meth c H locs cells slots Q (F0 m x.handlerPc ls [.ref q])) : vx_W p l e R s m args below meth c H locs cells slots Q (F0 m pc ls rest) q := by
  intro T hT X
  have hpl : e.platform.magicAccessors = ({} : Platform).magicAccessors := by rw [X.admits.platform]
  obtain ⟨c3, c4, hc3, hc4, hasg⟩ := Cond.castable_spec hcast
  cases Option.some.inj (hc3.symm.trans hcl)
  obtain ⟨c5, hc5, hcl5⟩ := Cond.classLink_spec hown hlink e.platform hpl
  cases Option.some.inj (hc4.symm.trans hc5)
  obtain ⟨vm', X', st⟩ := X.thenCaughtThrough q (g := F0 m pc ls rest) rfl (Steps.refl _) (by rw [hT]; exact hcell) (by rw [hv]; rfl) (by obtain ⟨k9, h9, -⟩ := Vm.findClass_spec hcl; exact ⟨k9, h9⟩) pre x suf hsplit
    (fun z hz => by
      rcases hpass z hz with h | ⟨hz0, nm, hl1, hn1⟩
      · exact Or.inl h
      · obtain ⟨c6, hc6, hcl6⟩ := Cond.classLink_spec hown hl1 e.platform hpl
        obtain ⟨a8, b8, h1, h2, h3⟩ := hn1
        cases Option.some.inj (h1.symm.trans hcl)
        cases Option.some.inj (h2.symm.trans hc6)
        exact Or.inr ⟨hz0, _, hcl6, h3⟩) hx (Or.inr ⟨h0, c4, hcl5, hasg⟩)
  obtain ⟨t, a1, b1⟩ := kk (T.setVm vm') hT X'
  exact ⟨t, st.trans a1, b1⟩
end Rows
section Ends
variable {p : Program} {l : Launch} {e : Env} {R : Room} {s : State} {m : MethodId} {args : Array Value} {below : List Frame} {meth : Method} {c : Code} {H : Heap} {locs : List Loc} {cells slots : Nat} {Q : State → Prop}
variable {mc ms : Nat} {free : Addr → Prop} {A0 A1 : Nat → Prop} {H0 : Heap} {a : Array Value} {ls : Array Slot} {st0 rest : List Value}
variable {Qc : Array Value → State → Outcome → State → Prop} {XC : String → State → State → Prop}
/-- what a body that may throw owes at its end -/
def vx_MQ (below : List Frame) (Qc : Array Value → State → Outcome → State → Prop) (XC : String → State → State → Prop) (a : Array Value) (s : State) (mc ms : Nat) (free : Addr → Prop) : State → Prop := fun t =>
  ∃ o, t.status = .running ∧ Ended t below o ∧ vx_Q Qc XC mc ms free a s o t
theorem vx_ret {g : JFrame} {mc ms : Nat} (k : W p l e R s m args below meth c H locs cells slots (MQ below Qc args s mc ms free) g) : W p l e R s m args below meth c H locs cells slots (vx_MQ below Qc XC args s mc ms free) g := by
  intro T hT X
  obtain ⟨t, a1, o, b1, b2, b3, b4⟩ := k T hT X
  exact ⟨t, a1, o, b1, b2, Or.inl ⟨b3, b4⟩⟩
theorem vx_out {pc : Nat} {E : String} {ce : Cell} {q : Addr} {mc ms : Nat} (hout : ∀ x ∈ c.exceptionTable.toList, covers x pc = false) (hlocks : meth.locks = false) (hcell : H[q]? = some ce) (hv : ce.vm = .none) (hcl : s.vm.findClass E = some ce.cls)
    (hx : ∀ t : State, t.heap = H → s.vm.Alike t.vm → XC E s t) (hf : ∀ z ∈ locs, free z.base) (hc : cells ≤ mc) (hs : slots ≤ ms) :
    vx_W p l e R s m args below meth c H locs cells slots (vx_MQ below Qc XC args s mc ms free) (F0 m pc ls rest) q := by
  intro T hT X
  obtain ⟨st1, hrun, hend, hW, hsm⟩ := X.leaveThrown q (g := F0 m pc ls rest) rfl rfl rfl hout hlocks
  have hcell9 : (T.setFrames (.throwing q :: below)).heap[q]? = some ce := by
    show T.heap[q]? = some ce
    rw [hT]; exact hcell
  exact ⟨_, st1, .threw q, hrun, hend, Or.inr ⟨q, rfl, E, ce, locs, hx _ hT hW.alike, hcell9, hv, hcl, hW, hsm.mono hc hs, hf⟩⟩
theorem vx_frame {U : State} {k n : Nat} (h : s.sameButNew ({ U with vm := s.vm } : State) locs k n) : s.heap.size ≤ U.heap.size ∧ ∀ q : Nat, q < s.heap.size → (∀ z ∈ locs, z.base ≠ q) → U.heap[q]? = s.heap[q]? := by
  obtain ⟨-, h2, -, -, -, h6⟩ := h
  refine ⟨h2, fun q hq hz => ?_⟩
  obtain ⟨c9, e1, e2, e3, e4⟩ := h6 q _ (Array.getElem?_eq_getElem hq)
  have hs : c9.slots = (s.heap[q]).slots := Array.ext_getElem? fun i => e4 i fun hm => hz _ hm rfl
  have h9 : c9 = s.heap[q] := by
    rw [hs] at e2
    exact e2
  have e5 : U.heap[q]? = some c9 := e1
  rw [e5, h9, Array.getElem?_eq_getElem hq]
/-- the words of a throw but the four that speak of the heap -/
def vx_no (w : Cond) : Bool := decide (w ≠ .isRef (.static Bundle.tN "UNASSIGNED_STACK" Bundle.steD)) && decide (w ≠ .isRef (.static Bundle.tN "SUPPRESSED_SENTINEL" Bundle.listD)) && decide (w ≠ .laysStatic Bundle.tN "UNASSIGNED_STACK" Bundle.steD) && decide (w ≠ .laysStatic Bundle.tN "SUPPRESSED_SENTINEL" Bundle.listD)
def vx_at0 (own : String) (ic : Nat) (X : String) (names : List String) : List Cond := (Bundle.ownAtoms0 own ic X names).filter vx_no
def vx_atS (own : String) (ic : Nat) (X : String) (names : List String) : List Cond := (Bundle.ownAtoms own ic X names).filter vx_no
/-- a word that the tables alone decide, or a good one -/
def vx_ot (w : Cond) : Bool := w.onTables || goodWord w
theorem vx_ot_at {args a' : Array Value} {s U : State} {w : Cond} (hW : s.WarmedH U.vm) (hvm : s.vm = U.vm) (hg : vx_ot w = true) (h : w.before args s = true) : w.before a' U = true := by
  simp only [vx_ot, Bool.or_eq_true] at hg
  rcases hg with hg | hg
  · exact va_tabs hg hvm h
  · exact word_at hW (good_of_word hg) h
/-- a list's words: the good ones out of the method's own list, the others by premises of their own -/
theorem vx_hat {args : Array Value} {s : State} {L B : List Cond} (h1 : ∀ w ∈ L.filter goodWord, w.before args s = true) (h2 : ∀ w ∈ L.filter (fun w => !goodWord w), w ∈ B) (h3 : ∀ w ∈ B, w.before args s = true) : ∀ w ∈ L, w.before args s = true := by
  intro w hw
  by_cases g : goodWord w = true
  · exact h1 w (List.mem_filter.mpr ⟨hw, g⟩)
  · refine h3 w (h2 w (List.mem_filter.mpr ⟨hw, ?_⟩))
    show (!goodWord w) = true
    cases hgw : goodWord w
    · rfl
    · exact absurd hgw g
theorem vx_c {args : Array Value} {s : State} {w : Cond} {B : List Cond} (h : w.before args s = true) (t : ∀ w ∈ B, w.before args s = true) : ∀ w' ∈ w :: B, w'.before args s = true := fun w' h' => (List.mem_cons.mp h').elim (fun e => by rw [e]; exact h) (t w')
theorem vx_n {args : Array Value} {s : State} : ∀ w ∈ ([] : List Cond), w.before args s = true := fun _ h => nomatch h
theorem vx_own {args : Array Value} {s : State} {L : List Cond} (h1 : ∀ w ∈ L.filter vx_no, w.before args s = true)
    (hU : (Cond.isRef (.static Bundle.tN "UNASSIGNED_STACK" Bundle.steD)).before args s = true) (hN : (Cond.isRef (.static Bundle.tN "SUPPRESSED_SENTINEL" Bundle.listD)).before args s = true)
    (lU : (Cond.laysStatic Bundle.tN "UNASSIGNED_STACK" Bundle.steD).before args s = true) (lN : (Cond.laysStatic Bundle.tN "SUPPRESSED_SENTINEL" Bundle.listD).before args s = true) : ∀ w ∈ L, w.before args s = true := by
  intro w hw
  by_cases e1 : w = .isRef (.static Bundle.tN "UNASSIGNED_STACK" Bundle.steD)
  · rw [e1]; exact hU
  · by_cases e2 : w = .isRef (.static Bundle.tN "SUPPRESSED_SENTINEL" Bundle.listD)
    · rw [e2]; exact hN
    · by_cases e3 : w = .laysStatic Bundle.tN "UNASSIGNED_STACK" Bundle.steD
      · rw [e3]; exact lU
      · by_cases e4 : w = .laysStatic Bundle.tN "SUPPRESSED_SENTINEL" Bundle.listD
        · rw [e4]; exact lN
        · exact h1 w (List.mem_filter.mpr ⟨hw, by unfold vx_no; rw [decide_eq_true e1, decide_eq_true e2, decide_eq_true e3, decide_eq_true e4]; rfl⟩)
/-- where a static field lies, its class's statics cell in H -/
def vx_L (C n d : String) (A : Nat → Prop) (U : State) (H : Heap) : Prop := ∃ (c : ClassId) (k : Class) (i : Nat) (f : Field) (a : Nat) (cell : Cell), U.vm.findClass C = some c ∧ U.fieldFound? C n d = some (c, k, i, f) ∧ f.isStatic = true ∧ k.statics = some a ∧ H[a]? = some cell ∧ cell.vm.isStatics = true ∧ cell.cls = c ∧ f.slot < cell.slots.size ∧ k.staticTypes[f.slot]? = some f.type ∧ ¬ A a
theorem vx_L.moved {C n d : String} {A : Nat → Prop} {u U : State} {H : Heap} (hvm : u.vm.Alike U.vm) (h : vx_L C n d A u H) : vx_L C n d A U H := by
  obtain ⟨c, k, i, f, a, cell, h1, h2, h3, h4, h5, h6, h7, h8, h9, h10⟩ := h
  obtain ⟨k', hi', he⟩ := State.fieldFound?_setVm hvm h2
  exact ⟨c, k', i, f, a, cell, by rw [hvm.findClass]; exact h1, hi', h3, by rw [he]; exact h4, h5, h6, h7, h8, by rw [he]; exact h9, h10⟩
theorem vx_L.kept {C n d : String} {A : Nat → Prop} {U : State} {H H1 : Heap} (h : vx_L C n d A U H) (hq : ∀ a : Nat, a < H.size → ¬ A a → H1[a]? = H[a]?) : vx_L C n d A U H1 := by
  obtain ⟨c, k, i, f, a, cell, h1, h2, h3, h4, h5, h6, h7, h8, h9, h10⟩ := h
  exact ⟨c, k, i, f, a, cell, h1, h2, h3, h4, by rw [hq a (Array.getElem?_eq_some_iff.mp h5).1 h10]; exact h5, h6, h7, h8, h9, h10⟩
theorem vx_L.narrow {C n d : String} {A B : Nat → Prop} {U : State} {H : Heap} (h : vx_L C n d A U H) (hAB : ∀ q, B q → A q) : vx_L C n d B U H := by
  obtain ⟨c, k, i, f, a, cell, h1, h2, h3, h4, h5, h6, h7, h8, h9, h10⟩ := h
  exact ⟨c, k, i, f, a, cell, h1, h2, h3, h4, h5, h6, h7, h8, h9, fun z => h10 (hAB _ z)⟩
theorem vx_L.word {C n d : String} {A : Nat → Prop} {s : State} {args : Array Value} (h : vx_L C n d A s s.heap) : (Cond.laysStatic C n d).before args s = true := by
  obtain ⟨c, k, i, f, a, cell, h1, h2, h3, h4, h5, h6, h7, h8, h9, -⟩ := h
  show (Cond.laysStatic C n d).holds args s none s [] = true
  exact Cond.laysStatic_of h1 h2 h3 h4 h5 h6 h7 h8 h9
/-- .. and what it holds: null or some reference -/
def vx_Zq (C n d : String) (A : Nat → Prop) (U : State) (H : Heap) : Prop := va_Zq C n d A U H ∧ vx_L C n d A U H
theorem vx_Zq.moved {C n d : String} {A : Nat → Prop} {u U : State} {H : Heap} (hvm : u.vm.Alike U.vm) (h : vx_Zq C n d A u H) : vx_Zq C n d A U H := ⟨va_Zq.moved hvm h.1, vx_L.moved hvm h.2⟩
theorem vx_Zq.kept {C n d : String} {A : Nat → Prop} {U : State} {H H1 : Heap} (h : vx_Zq C n d A U H) (hq : ∀ a : Nat, a < H.size → ¬ A a → H1[a]? = H[a]?) : vx_Zq C n d A U H1 := ⟨va_Zq.kept h.1 hq, vx_L.kept h.2 hq⟩
theorem vx_Zq.narrow {C n d : String} {A B : Nat → Prop} {U : State} {H : Heap} (h : vx_Zq C n d A U H) (hAB : ∀ q, B q → A q) : vx_Zq C n d B U H := ⟨va_Zq.narrow h.1 hAB, vx_L.narrow h.2 hAB⟩
theorem vx_Zqof {args : Array Value} {s : State} {C n d : String} {A : Nat → Prop} (hl : (Cond.laysStatic C n d).before args s = true) (hini : (Cond.initialized C).before args s = true) (h : (Cond.isRef (.static C n d)).before args s = true) (hA : ∀ a : Nat, a < s.heap.size → ¬ A a) : vx_Zq C n d A s s.heap := by
  refine ⟨va_Zqof hl hini h hA, ?_⟩
  obtain ⟨c, k, i, f, a, cell, h1, h2, h3, h4, h5, h6, h7, h8, h9⟩ := Cond.laysStatic_spec hl
  exact ⟨c, k, i, f, a, cell, h1, h2, h3, h4, h5, h6, h7, h8, h9, hA a (Array.getElem?_eq_some_iff.mp h5).1⟩
theorem vx_isRef {C n d : String} {v : Value} {A : Nat → Prop} {s : State} {args : Array Value} (h : va_Z C n d v A s s.heap) (hv : v.isRef = true) : (Cond.isRef (.static C n d)).before args s = true := by
  obtain ⟨cf, kf, fi, f, a, cell, h1, h2, h3, h4, h5, h6, h7, -⟩ := h
  have he : (Term.static C n d).eval args s none [] s = some v := by
    simp [Term.eval, State.fieldNamed?, h1, h2, h4, h5, h6, h7]
  simp only [Cond.before, Cond.holds, Cond.value, he]
  cases v <;> simp_all [Value.isRef]
theorem vx_isRefq {C n d : String} {A : Nat → Prop} {s : State} {args : Array Value} (h : va_Zq C n d A s s.heap) : (Cond.isRef (.static C n d)).before args s = true := by
  rcases h with h | ⟨t, h⟩
  · exact vx_isRef h rfl
  · exact vx_isRef h rfl
/-- the same frame, seen from here: as if the method were called anew in this heap -/
theorem vx_rebase {T : State} (X : Stand p l e R s m args below meth c T locs cells slots) {R' : Room} (hf : R'.frames ≤ R.frames) (hl : R'.locals ≤ R.locals) (hc : cells + R'.cells ≤ R.cells) (hs : slots + R'.slots ≤ R.slots) :
    Stand p l e R' ((T.setVm s.vm).setFrames (.invoking m args :: below)) m args below meth c T [] 0 0 := by
  have htop : (T.setVm s.vm).topJava?.isSome := X.here.top
  have hF : ((T.setVm s.vm).setFrames (.invoking m args :: below)).frames = .invoking m args :: below := State.frames_setFrames _ (State.cur_lt_of_top htop)
  obtain ⟨g₀, hg0⟩ := Option.isSome_iff_exists.mp htop
  obtain ⟨r, hr⟩ := State.topJava?_eq_some.mp hg0
  have hl9 : e.platform.stackLimits (T.setVm s.vm).me = e.platform.stackLimits s.me := X.limits
  have hb9 : (T.setVm s.vm).me.stackBytes = s.me.stackBytes := X.bytes
  refine ⟨X.admits, X.cas, X.clock, hF, ?_, X.hears, X.method, X.code, X.here, X.tail, X.warmed, ?_, ?_, ?_⟩
  · have h := X.room
    have hU : ((T.setVm s.vm).setFrames (.invoking m args :: below)).localsInUse = s.localsInUse := by
      rw [State.localsInUse_invoking hF (meth := meth) (c := c) X.method X.code, State.localsInUse_invoking X.frames X.method X.code]
    simp only [State.hasRoom, Bool.and_eq_true, decide_eq_true_eq] at h ⊢
    obtain ⟨⟨⟨⟨h1, h2, h3, h4, h5, h6⟩, h7⟩, h8⟩, h9⟩ := h
    rw [X.frames, List.length_cons] at h2 h3
    have q1 := X.heapSize
    have q2 := X.used
    simp only [hF, hU, List.length_cons, State.stackLimits_setFrames, State.stackBytes_setFrames, hl9, hb9]
    refine ⟨⟨⟨⟨by omega, by omega, by omega, by omega, by omega, h6⟩, ?_⟩, ?_⟩, X.book⟩
    · show T.heap.size + R'.cells ≤ e.platform.maxCells
      omega
    · show T.slotsUsed + R'.slots ≤ e.platform.maxSlots
      omega
  · rw [State.stackLimits_setFrames]; rfl
  · rw [State.stackBytes_setFrames]; rfl
  · refine ⟨?_, Nat.le_refl _, Nat.le_refl _, ?_, ?_, fun a c9 h9 => ⟨c9, h9, rfl, rfl, fun _ _ => rfl⟩⟩
    · obtain ⟨t, ht, -⟩ := State.frames_cons hr
      show T.setVm s.vm = { ((T.setVm s.vm).setFrames (.invoking m args :: below)).setFrames (T.setVm s.vm).frames with heap := T.heap, slotsUsed := T.slotsUsed }
      rw [State.setFrames_setFrames, State.setFrames_self ht]
      rfl
    · show T.slotsUsed = T.slotsUsed + ((T.heap.toList.drop T.heap.size).map (·.slots.size)).sum
      rw [List.drop_eq_nil_of_le (Nat.le_of_eq Array.length_toList)]
      rfl
    · show ((T.heap.toList.drop T.heap.size).map (·.slots.size)).sum ≤ 0
      rw [List.drop_eq_nil_of_le (Nat.le_of_eq Array.length_toList)]
      exact Nat.le_refl _
/-- 'throw new E()': new; dup; invokespecial; athrow -/
theorem vx_throw0 {cc : ByteArray} {pc : Nat} (hexec : p.tables.exec = Jvm.exec) (hb : c.code = cc) (hl : l.stackTraces = false) {own cls : String} {names : List String} {ik ic mc ms : Nat} {A : Nat → Prop}
    (hown : s.vm.findClass own = some m.cls) (hcls : Bundle.fit cls = true) (hnames : ∀ n ∈ names, Bundle.fit n = true)
    (hk : (Cond.classLink own ik cls).before args s = true) (hini : (Cond.initialized cls).before args s = true) (hat : ∀ w ∈ vx_at0 own ic cls names, w.before args s = true)
    (hgood : ∀ w ∈ Cond.classLink own ik cls :: Cond.initialized cls :: vx_at0 own ic cls names, vx_ot w = true)
    (hU : vx_Zq Bundle.tN "UNASSIGNED_STACK" Bundle.steD A s s.heap) (hN : vx_Zq Bundle.tN "SUPPRESSED_SENTINEL" Bundle.listD A s s.heap) (hS : va_S A s.heap H locs) (hsize : ls.size = c.maxLocals)
    (d0 : decode cc pc = .ok (.new ik, 3)) (d3 : decode cc (pc + 3) = .ok (.dup, 1)) (d4 : decode cc (pc + 4) = .ok (.invokespecial ic, 3)) (d7 : decode cc (pc + 7) = .ok (.athrow, 1))
    (hout : ∀ x ∈ c.exceptionTable.toList, covers x (pc + 7) = false)
    (hRframes : names.length + 3 < R.frames) (hRlocals : (rest.map fun v => v.category).sum + (13 * (names.length + 1) + 42) ≤ R.locals) (hRcells : cells + 1 ≤ R.cells) (hRslots : slots + 6 ≤ R.slots) (hlocks : meth.locks = false)
    (hx : ∀ t : State, s.vm.Alike t.vm → H.size ≤ t.heap.size → (∀ q : Nat, q < H.size → t.heap[q]? = H[q]?) → XC cls s t)
    (hf : ∀ z ∈ locs, free z.base) (hc : cells + 1 ≤ mc) (hs : slots + 6 ≤ ms) :
    W p l e R s m args below meth c H locs cells slots (vx_MQ below Qc XC args s mc ms free) (F0 m pc ls rest) := by
  intro T hT X
  have htr : e.platform.stackTraces = false := (show e.platform.stackTraces = l.stackTraces by rw [X.admits.platform]).trans hl
  have Y := vx_rebase X (R' := { frames := R.frames, locals := R.locals, cells := 1, slots := 6 }) (Nat.le_refl _) (Nat.le_refl _) hRcells hRslots
  obtain ⟨s', hA⟩ : ∃ z, z = (T.setVm s.vm).setFrames (.invoking m args :: below) := ⟨_, rfl⟩
  rw [← hA] at Y
  have hvm : s'.vm = s.vm := by rw [hA]; rfl
  have hhp : s'.heap = H := by rw [hA]; exact hT
  have hW0 : s.WarmedH s'.vm := by rw [hvm]; exact State.WarmedH.refl s
  have hat' : ∀ w ∈ vx_at0 own ic cls names, w.before args s' = true := fun w hw => vx_ot_at hW0 hvm.symm (hgood w (List.mem_cons_of_mem _ (List.mem_cons_of_mem _ hw))) (hat w hw)
  have hk' : (Cond.classLink own ik cls).before args s' = true := vx_ot_at hW0 hvm.symm (hgood _ List.mem_cons_self) hk
  have hini' : (Cond.initialized cls).before args s' = true := vx_ot_at hW0 hvm.symm (hgood _ (List.mem_cons_of_mem _ List.mem_cons_self)) hini
  have hU' : vx_Zq Bundle.tN "UNASSIGNED_STACK" Bundle.steD A s' s'.heap := by rw [hhp]; exact vx_Zq.moved hW0.alike (hU.kept hS.2.1)
  have hN' : vx_Zq Bundle.tN "SUPPRESSED_SENTINEL" Bundle.listD A s' s'.heap := by rw [hhp]; exact vx_Zq.moved hW0.alike (hN.kept hS.2.1)
  have h : ∀ w ∈ Bundle.ownAtoms0 own ic cls names, w.before args s' = true := vx_own hat' (vx_isRefq hU'.1) (vx_isRefq hN'.1) hU'.2.word hN'.2.word
  have hown' : s'.vm.findClass own = some m.cls := by rw [hvm]; exact hown
  have hins : (Cond.instantiable cls 6).before args s' = true := h _ (by simp [Bundle.ownAtoms0])
  obtain ⟨vm₁, cX, kX, hfX, hkX, -, -, X₁, st1⟩ := Y.newCold hexec (own := own) (C := cls) (index := ik) (n := 6) hown' hk' hins hini'
    (g := F0 m pc ls rest) rfl (by rw [hb]; exact d0) (Nat.le_refl _) (Nat.le_refl _)
  generalize hT1 : (T.setVm vm₁).pushCell { cls := cX, slots := kX.instanceTypes.map defaultValue, vm := .none } = T1 at X₁ st1
  have hcat : (Value.ref T.heap.size).category = 1 := rfl
  have hcellA : T1.heap[T.heap.size]? = some (freshCell cX kX) := by rw [← hT1]; exact State.heap_pushCell_size _ _
  have d3' : decode c.code (pc + 3) = .ok (.dup, 1) := by rw [hb]; exact d3
  obtain ⟨U, hsteps, hrun, hend, hW, hsame, ce, hce, hO⟩ := X₁.ctorThrow0 hexec htr (own := own) (cls := cls) (names := names) (ic := ic) hown' hcls hnames h (fun x hx => nomatch hx) hfX hkX hcellA (by rw [hhp, hT]; exact Nat.le_refl _)
    (g := { method := m, pc := pc + 4, locals := ls, stack := .ref T.heap.size :: .ref T.heap.size :: rest, locked := none }) rfl hsize rfl rfl (rest := rest) rfl
    (by rw [hb]; exact d4) (by rw [hb]; exact d7) hout hRframes (by simp only [List.map_cons, List.sum_cons, hcat]; omega) hlocks
  obtain ⟨f1, f2⟩ := vx_frame hsame
  rw [hhp] at f1 f2
  have hWs : s.WarmedH U.vm := State.WarmedH.trans hW0 hW
  have hcl : s.vm.findClass cls = some ce.cls := by
    have h9 := hO.cls
    rw [hvm] at h9
    exact h9
  have hall : s.sameButNew ({ U with vm := s.vm } : State) locs mc ms := by
    subst hA
    obtain ⟨e1, e2⟩ := hsame
    rw [State.setFrames_setFrames] at e1
    have h2 : (T.setVm s.vm).sameButNew ({ U with vm := s.vm } : State) [] (0 + 1) (0 + 6) := ⟨e1, e2⟩
    have h3 := X.same.trans h2
    rw [List.append_nil] at h3
    exact h3.mono hc hs
  refine ⟨U, ?_, .threw T.heap.size, hrun, hend, Or.inr ⟨T.heap.size, rfl, cls, ce, locs, hx U hWs.alike f1 (fun q hq => f2 q hq (fun z hz => nomatch hz)), hce, hO.vm, hcl, hWs, hall, hf⟩⟩
  refine st1 _ ?_
  show Steps p.tables e below (T1.setTop { method := m, pc := pc + 3, locals := ls, stack := .ref T.heap.size :: rest, locked := none }) _
  jvm_step X₁.here [X₁.here.top, hexec, d3', Value.category]
  exact hsteps
/-- 'throw new E("text")': new; dup; ldc; invokespecial; athrow -/
theorem vx_throwS {cc : ByteArray} {pc : Nat} (hexec : p.tables.exec = Jvm.exec) (hb : c.code = cc) (hl : l.stackTraces = false) {own cls text : String} {names : List String} {ik is ic mc ms sa : Nat} {A : Nat → Prop}
    (hown : s.vm.findClass own = some m.cls) (hcls : Bundle.fit cls = true) (hnames : ∀ n ∈ names, Bundle.fit n = true)
    (hk : (Cond.classLink own ik cls).before args s = true) (hini : (Cond.initialized cls).before args s = true) (hstr : vk_R own is text sa s) (hat : ∀ w ∈ vx_atS own ic cls names, w.before args s = true)
    (hgood : ∀ w ∈ Cond.classLink own ik cls :: Cond.initialized cls :: vx_atS own ic cls names, vx_ot w = true)
    (hU : vx_Zq Bundle.tN "UNASSIGNED_STACK" Bundle.steD A s s.heap) (hN : vx_Zq Bundle.tN "SUPPRESSED_SENTINEL" Bundle.listD A s s.heap) (hS : va_S A s.heap H locs) (hsize : ls.size = c.maxLocals)
    (d0 : decode cc pc = .ok (.new ik, 3)) (d3 : decode cc (pc + 3) = .ok (.dup, 1)) (d4 : decode cc (pc + 4) = .ok (.ldc is, 2)) (d6 : decode cc (pc + 6) = .ok (.invokespecial ic, 3)) (d9 : decode cc (pc + 9) = .ok (.athrow, 1))
    (hout : ∀ x ∈ c.exceptionTable.toList, covers x (pc + 9) = false)
    (hRframes : names.length + 3 < R.frames) (hRlocals : (rest.map fun v => v.category).sum + (13 * (names.length + 1) + 43) ≤ R.locals) (hRcells : cells + 1 ≤ R.cells) (hRslots : slots + 6 ≤ R.slots) (hlocks : meth.locks = false)
    (hx : ∀ t : State, s.vm.Alike t.vm → H.size ≤ t.heap.size → (∀ q : Nat, q < H.size → t.heap[q]? = H[q]?) → XC cls s t)
    (hf : ∀ z ∈ locs, free z.base) (hc : cells + 1 ≤ mc) (hs : slots + 6 ≤ ms) :
    W p l e R s m args below meth c H locs cells slots (vx_MQ below Qc XC args s mc ms free) (F0 m pc ls rest) := by
  intro T hT X
  have htr : e.platform.stackTraces = false := (show e.platform.stackTraces = l.stackTraces by rw [X.admits.platform]).trans hl
  have Y := vx_rebase X (R' := { frames := R.frames, locals := R.locals, cells := 1, slots := 6 }) (Nat.le_refl _) (Nat.le_refl _) hRcells hRslots
  obtain ⟨s', hA⟩ : ∃ z, z = (T.setVm s.vm).setFrames (.invoking m args :: below) := ⟨_, rfl⟩
  rw [← hA] at Y
  have hvm : s'.vm = s.vm := by rw [hA]; rfl
  have hhp : s'.heap = H := by rw [hA]; exact hT
  have hW0 : s.WarmedH s'.vm := by rw [hvm]; exact State.WarmedH.refl s
  have hat' : ∀ w ∈ vx_atS own ic cls names, w.before args s' = true := fun w hw => vx_ot_at hW0 hvm.symm (hgood w (List.mem_cons_of_mem _ (List.mem_cons_of_mem _ hw))) (hat w hw)
  have hk' : (Cond.classLink own ik cls).before args s' = true := vx_ot_at hW0 hvm.symm (hgood _ List.mem_cons_self) hk
  have hini' : (Cond.initialized cls).before args s' = true := vx_ot_at hW0 hvm.symm (hgood _ (List.mem_cons_of_mem _ List.mem_cons_self)) hini
  have hU' : vx_Zq Bundle.tN "UNASSIGNED_STACK" Bundle.steD A s' s'.heap := by rw [hhp]; exact vx_Zq.moved hW0.alike (hU.kept hS.2.1)
  have hN' : vx_Zq Bundle.tN "SUPPRESSED_SENTINEL" Bundle.listD A s' s'.heap := by rw [hhp]; exact vx_Zq.moved hW0.alike (hN.kept hS.2.1)
  have h : ∀ w ∈ Bundle.ownAtoms own ic cls names, w.before args s' = true := vx_own hat' (vx_isRefq hU'.1) (vx_isRefq hN'.1) hU'.2.word hN'.2.word
  have hown' : s'.vm.findClass own = some m.cls := by rw [hvm]; exact hown
  have hins : (Cond.instantiable cls 6).before args s' = true := h _ (by simp [Bundle.ownAtoms])
  obtain ⟨vm₁, cX, kX, hfX, hkX, -, -, X₁, st1⟩ := Y.newCold hexec (own := own) (C := cls) (index := ik) (n := 6) hown' hk' hins hini'
    (g := F0 m pc ls rest) rfl (by rw [hb]; exact d0) (Nat.le_refl _) (Nat.le_refl _)
  generalize hT1 : (T.setVm vm₁).pushCell { cls := cX, slots := kX.instanceTypes.map defaultValue, vm := .none } = T1 at X₁ st1
  have hcat : (Value.ref T.heap.size).category = 1 := rfl
  have hcellA : T1.heap[T.heap.size]? = some (freshCell cX kX) := by rw [← hT1]; exact State.heap_pushCell_size _ _
  have d3' : decode c.code (pc + 3) = .ok (.dup, 1) := by rw [hb]; exact d3
  have d4' : decode c.code (pc + 4) = .ok (.ldc is, 2) := by rw [hb]; exact d4
  have hstr' : vk_R own is text sa s' := vk_R.warm hW0 hstr
  obtain ⟨U, hsteps, hrun, hend, hW, hsame, ce, hce, hO⟩ := X₁.ctorThrowS hexec htr (own := own) (cls := cls) (names := names) (ic := ic) hown' hcls hnames h (fun x hx => nomatch hx) hfX hkX hcellA (by rw [hhp, hT]; exact Nat.le_refl _) (msg := .ref sa) rfl
    (g := { method := m, pc := pc + 6, locals := ls, stack := .ref sa :: .ref T.heap.size :: .ref T.heap.size :: rest, locked := none }) rfl hsize rfl rfl (rest := rest) rfl
    (by rw [hb]; exact d6) (by rw [hb]; exact d9) hout hRframes (by simp only [List.map_cons, List.sum_cons, hcat]; omega) hlocks
  obtain ⟨f1, f2⟩ := vx_frame hsame
  rw [hhp] at f1 f2
  have hWs : s.WarmedH U.vm := State.WarmedH.trans hW0 hW
  have hcl : s.vm.findClass cls = some ce.cls := by
    have h9 := hO.cls
    rw [hvm] at h9
    exact h9
  have hall : s.sameButNew ({ U with vm := s.vm } : State) locs mc ms := by
    subst hA
    obtain ⟨e1, e2⟩ := hsame
    rw [State.setFrames_setFrames] at e1
    have h2 : (T.setVm s.vm).sameButNew ({ U with vm := s.vm } : State) [] (0 + 1) (0 + 6) := ⟨e1, e2⟩
    have h3 := X.same.trans h2
    rw [List.append_nil] at h3
    exact h3.mono hc hs
  refine ⟨U, ?_, .threw T.heap.size, hrun, hend, Or.inr ⟨T.heap.size, rfl, cls, ce, locs, hx U hWs.alike f1 (fun q hq => f2 q hq (fun z hz => nomatch hz)), hce, hO.vm, hcl, hWs, hall, hf⟩⟩
  refine st1 _ ?_
  show Steps p.tables e below (T1.setTop { method := m, pc := pc + 3, locals := ls, stack := .ref T.heap.size :: rest, locked := none }) _
  jvm_step X₁.here [X₁.here.top, hexec, d3', Value.category]
  exact X₁.ldcString hexec (own := own) (text := text) (index := is) (a := sa) hown' hstr'.1 hstr'.2
    (g := { method := m, pc := pc + 4, locals := ls, stack := .ref T.heap.size :: .ref T.heap.size :: rest, locked := none }) rfl d4' _ hsteps
/-- 'throw new E("text")', the text by a wide index -/
theorem vx_throwSW {cc : ByteArray} {pc : Nat} (hexec : p.tables.exec = Jvm.exec) (hb : c.code = cc) (hl : l.stackTraces = false) {own cls text : String} {names : List String} {ik is ic mc ms sa : Nat} {A : Nat → Prop}
    (hown : s.vm.findClass own = some m.cls) (hcls : Bundle.fit cls = true) (hnames : ∀ n ∈ names, Bundle.fit n = true)
    (hk : (Cond.classLink own ik cls).before args s = true) (hini : (Cond.initialized cls).before args s = true) (hstr : vk_R own is text sa s) (hat : ∀ w ∈ vx_atS own ic cls names, w.before args s = true)
    (hgood : ∀ w ∈ Cond.classLink own ik cls :: Cond.initialized cls :: vx_atS own ic cls names, vx_ot w = true)
    (hU : vx_Zq Bundle.tN "UNASSIGNED_STACK" Bundle.steD A s s.heap) (hN : vx_Zq Bundle.tN "SUPPRESSED_SENTINEL" Bundle.listD A s s.heap) (hS : va_S A s.heap H locs) (hsize : ls.size = c.maxLocals)
    (d0 : decode cc pc = .ok (.new ik, 3)) (d3 : decode cc (pc + 3) = .ok (.dup, 1)) (d4 : decode cc (pc + 4) = .ok (.ldc_w is, 3)) (d7 : decode cc (pc + 7) = .ok (.invokespecial ic, 3)) (d10 : decode cc (pc + 10) = .ok (.athrow, 1))
    (hout : ∀ x ∈ c.exceptionTable.toList, covers x (pc + 10) = false)
    (hRframes : names.length + 3 < R.frames) (hRlocals : (rest.map fun v => v.category).sum + (13 * (names.length + 1) + 43) ≤ R.locals) (hRcells : cells + 1 ≤ R.cells) (hRslots : slots + 6 ≤ R.slots) (hlocks : meth.locks = false)
    (hx : ∀ t : State, s.vm.Alike t.vm → H.size ≤ t.heap.size → (∀ q : Nat, q < H.size → t.heap[q]? = H[q]?) → XC cls s t)
    (hf : ∀ z ∈ locs, free z.base) (hc : cells + 1 ≤ mc) (hs : slots + 6 ≤ ms) :
    W p l e R s m args below meth c H locs cells slots (vx_MQ below Qc XC args s mc ms free) (F0 m pc ls rest) := by
  intro T hT X
  have htr : e.platform.stackTraces = false := (show e.platform.stackTraces = l.stackTraces by rw [X.admits.platform]).trans hl
  have Y := vx_rebase X (R' := { frames := R.frames, locals := R.locals, cells := 1, slots := 6 }) (Nat.le_refl _) (Nat.le_refl _) hRcells hRslots
  obtain ⟨s', hA⟩ : ∃ z, z = (T.setVm s.vm).setFrames (.invoking m args :: below) := ⟨_, rfl⟩
  rw [← hA] at Y
  have hvm : s'.vm = s.vm := by rw [hA]; rfl
  have hhp : s'.heap = H := by rw [hA]; exact hT
  have hW0 : s.WarmedH s'.vm := by rw [hvm]; exact State.WarmedH.refl s
  have hat' : ∀ w ∈ vx_atS own ic cls names, w.before args s' = true := fun w hw => vx_ot_at hW0 hvm.symm (hgood w (List.mem_cons_of_mem _ (List.mem_cons_of_mem _ hw))) (hat w hw)
  have hk' : (Cond.classLink own ik cls).before args s' = true := vx_ot_at hW0 hvm.symm (hgood _ List.mem_cons_self) hk
  have hini' : (Cond.initialized cls).before args s' = true := vx_ot_at hW0 hvm.symm (hgood _ (List.mem_cons_of_mem _ List.mem_cons_self)) hini
  have hU' : vx_Zq Bundle.tN "UNASSIGNED_STACK" Bundle.steD A s' s'.heap := by rw [hhp]; exact vx_Zq.moved hW0.alike (hU.kept hS.2.1)
  have hN' : vx_Zq Bundle.tN "SUPPRESSED_SENTINEL" Bundle.listD A s' s'.heap := by rw [hhp]; exact vx_Zq.moved hW0.alike (hN.kept hS.2.1)
  have h : ∀ w ∈ Bundle.ownAtoms own ic cls names, w.before args s' = true := vx_own hat' (vx_isRefq hU'.1) (vx_isRefq hN'.1) hU'.2.word hN'.2.word
  have hown' : s'.vm.findClass own = some m.cls := by rw [hvm]; exact hown
  have hins : (Cond.instantiable cls 6).before args s' = true := h _ (by simp [Bundle.ownAtoms])
  obtain ⟨vm₁, cX, kX, hfX, hkX, -, -, X₁, st1⟩ := Y.newCold hexec (own := own) (C := cls) (index := ik) (n := 6) hown' hk' hins hini'
    (g := F0 m pc ls rest) rfl (by rw [hb]; exact d0) (Nat.le_refl _) (Nat.le_refl _)
  generalize hT1 : (T.setVm vm₁).pushCell { cls := cX, slots := kX.instanceTypes.map defaultValue, vm := .none } = T1 at X₁ st1
  have hcat : (Value.ref T.heap.size).category = 1 := rfl
  have hcellA : T1.heap[T.heap.size]? = some (freshCell cX kX) := by rw [← hT1]; exact State.heap_pushCell_size _ _
  have d3' : decode c.code (pc + 3) = .ok (.dup, 1) := by rw [hb]; exact d3
  have d4' : decode c.code (pc + 4) = .ok (.ldc_w is, 3) := by rw [hb]; exact d4
  have hstr' : vk_R own is text sa s' := vk_R.warm hW0 hstr
  obtain ⟨U, hsteps, hrun, hend, hW, hsame, ce, hce, hO⟩ := X₁.ctorThrowS hexec htr (own := own) (cls := cls) (names := names) (ic := ic) hown' hcls hnames h (fun x hx => nomatch hx) hfX hkX hcellA (by rw [hhp, hT]; exact Nat.le_refl _) (msg := .ref sa) rfl
    (g := { method := m, pc := pc + 7, locals := ls, stack := .ref sa :: .ref T.heap.size :: .ref T.heap.size :: rest, locked := none }) rfl hsize rfl rfl (rest := rest) rfl
    (by rw [hb]; exact d7) (by rw [hb]; exact d10) hout hRframes (by simp only [List.map_cons, List.sum_cons, hcat]; omega) hlocks
  obtain ⟨f1, f2⟩ := vx_frame hsame
  rw [hhp] at f1 f2
  have hWs : s.WarmedH U.vm := State.WarmedH.trans hW0 hW
  have hcl : s.vm.findClass cls = some ce.cls := by
    have h9 := hO.cls
    rw [hvm] at h9
    exact h9
  have hall : s.sameButNew ({ U with vm := s.vm } : State) locs mc ms := by
    subst hA
    obtain ⟨e1, e2⟩ := hsame
    rw [State.setFrames_setFrames] at e1
    have h2 : (T.setVm s.vm).sameButNew ({ U with vm := s.vm } : State) [] (0 + 1) (0 + 6) := ⟨e1, e2⟩
    have h3 := X.same.trans h2
    rw [List.append_nil] at h3
    exact h3.mono hc hs
  refine ⟨U, ?_, .threw T.heap.size, hrun, hend, Or.inr ⟨T.heap.size, rfl, cls, ce, locs, hx U hWs.alike f1 (fun q hq => f2 q hq (fun z hz => nomatch hz)), hce, hO.vm, hcl, hWs, hall, hf⟩⟩
  refine st1 _ ?_
  show Steps p.tables e below (T1.setTop { method := m, pc := pc + 3, locals := ls, stack := .ref T.heap.size :: rest, locked := none }) _
  jvm_step X₁.here [X₁.here.top, hexec, d3', Value.category]
  exact X₁.ldcStringW hexec (own := own) (text := text) (index := is) (a := sa) hown' hstr'.1 hstr'.2
    (g := { method := m, pc := pc + 4, locals := ls, stack := .ref T.heap.size :: .ref T.heap.size :: rest, locked := none }) rfl d4' _ hsteps
end Ends
section Bodies
variable {l : Launch}
theorem vx_ofW {y : MethodName} {ws ws' : List Cond} {rm : Room} {Pc : Array Value → State → Prop} {Qc : Array Value → State → Outcome → State → Prop} {XC : String → State → State → Prop} {mc ms : Nat} {free : Addr → Prop} {cc : ByteArray} {maxL : Nat} {ret : Option FieldType}
    (hy : plainName y.cls = true) (hw : ws = Cond.code y cc maxL ret :: ws')
    (body : ∀ p e s m args below meth c s₁, BodyLoose p l y (headSpec ws rm) cc maxL ret e s m args below meth c s₁ → c.maxLocals = maxL → (∀ x ∈ c.exceptionTable.toList, False) → Pc args s →
      W p l e (headSpec ws rm).room s m args below meth c s.heap [] 0 0 (vx_MQ below Qc XC args s mc ms free) (entryFrame m args maxL)) : vx_Met l y ws rm Pc Qc XC mc ms free := by
  refine MetFree.of_bodyS (code := cc) (maxLocals := maxL) (ret := ret) hy ?_ ?_
  · intro args s m h hn
    obtain ⟨meth, c, h1, h2, h3, h4, h5, h6, -, -⟩ := Cond.code_spec hn (atoms_spec (ws := ws) h _ (by rw [hw]; exact List.mem_cons_self))
    exact ⟨meth, c, h1, h2, h3, h4, h5, h6⟩
  · intro p e s m args below meth c s₁ B hml hP _
    have hh0 : s₁.heap = s.heap := by rw [B.state]; rfl
    have ht : ∀ x ∈ c.exceptionTable.toList, False := by
      obtain ⟨meth9, c9, h1, h2, -, -, -, -, h7, -⟩ := Cond.code_spec B.named (atoms_spec (ws := ws) B.pre _ (by rw [hw]; exact List.mem_cons_self))
      cases Option.some.inj (h1.symm.trans B.method)
      cases Option.some.inj (h2.symm.trans (Stand.of_body B).code)
      intro x hx
      rw [Array.isEmpty_iff.mp h7] at hx
      cases hx
    obtain ⟨t, a1, o, b1, b2, b3⟩ := body p e s m args below meth c s₁ B hml ht hP s₁ hh0 (Stand.of_body B)
    exact ⟨t, o, a1, b1, b2, b3⟩
/-- the table of a body with handlers -/
theorem vx_table {p : Program} {x y : MethodName} {S : Spec} {cc bytes : ByteArray} {maxL maxL' : Nat} {ret ret' : Option FieldType} {e : Env} {s s₁ : State} {m : MethodId} {args : Array Value} {below : List Frame} {meth : Method} {c : Code} {hh : List (Nat × Nat × Nat × Nat)}
    (B : BodyLoose p l y S cc maxL ret e s m args below meth c s₁) (h : (Cond.codeWith y bytes maxL' ret' hh).before args s = true) : c.exceptionTable.toList = tableOf hh := by
  obtain ⟨m9, meth9, c9, hn9, h1, h2, -, -, h6, -⟩ := Cond.codeWith_spec h
  cases Option.some.inj (hn9.symm.trans B.named)
  cases Option.some.inj (h1.symm.trans B.method)
  cases Option.some.inj (h2.symm.trans (Stand.of_body B).code)
  rw [← h6, table_eq]
end Bodies
end VXA
/-! ===== END ===== -/
/-! ===== BEGIN a static call of a method with an exception table ===== -/
section VXS
variable {p : Program} {l : Launch} {e : Env} {R : Room} {s : State} {m : MethodId} {args : Array Value} {below : List Frame} {meth : Method} {c : Code} {T : State} {H : Heap} {locs : List Loc} {cells slots : Nat}
abbrev vx_CSW (R : Room) (s : State) (args : Array Value) (own : String) (index : Nat) (y : MethodName) (bytes : ByteArray) (maxL : Nat) (ret : Option FieldType) (hh : List (Nat × Nat × Nat × Nat)) (ws : List Cond) (rm : Room) (mc ms n : Nat) : Prop :=
  (rm.cells = mc ∧ rm.slots = ms ∧ rm.frames + 1 ≤ R.frames ∧ 8 + (maxL + 11) + rm.locals ≤ R.locals ∧ (∀ w ∈ ws, ∀ (a' : Array Value) (U : State), s.WarmedH U.vm → w.before a' U = true) ∧ Cond.codeWith y bytes maxL ret hh ∈ ws) ∧
  (Cond.codeWith y bytes maxL ret hh).before args s = true ∧ (Cond.initialized y.cls).before args s = true ∧ (y.cls ≠ "java/lang/invoke/MethodHandle" ∧ y.cls ≠ "java/lang/invoke/VarHandle") ∧
  (∀ sig, parseMethodDescriptor y.desc = some sig → n = sig.parameters.length) ∧ (Cond.methodLink own index y).before args s = true ∧ (Cond.static y).before args s = true
theorem vx_cwSW {own : String} {index maxL mc ms : Nat} {y : MethodName} {bytes : ByteArray} {ret : Option FieldType} {hh : List (Nat × Nat × Nat × Nat)} {Ts ws ws' : List Cond} {rm : Room} (n : Nat) (ht : ∀ w ∈ Ts, w.before args s = true) (hT : GoodIn Ts (va_wsS own index y ws)) (hw : ws = Cond.codeWith y bytes maxL ret hh :: ws') (hrc : rm.cells = mc) (hrs : rm.slots = ms)
    (hd : y.cls ≠ "java/lang/invoke/MethodHandle" ∧ y.cls ≠ "java/lang/invoke/VarHandle" ∧ (parseMethodDescriptor y.desc).map (fun d => d.parameters.length) = some n) (hR : rm.frames + 1 ≤ R.frames ∧ 8 + (maxL + 11) + rm.locals ≤ R.locals) :
    vx_CSW R s args own index y bytes maxL ret hh ws rm mc ms n := by
  have ok : ∀ w ∈ va_wsS own index y ws, w.before args s = true := fun w h => ht w (hT w h).1
  have hG : GoodIn Ts ws := fun w h => hT w (by unfold va_wsS; exact List.mem_append_right _ h)
  have hc : Cond.codeWith y bytes maxL ret hh ∈ ws := by rw [hw]; exact List.mem_cons_self
  refine ⟨⟨hrc, hrs, hR.1, hR.2, pay_in ht hG, hc⟩, ht _ (hG _ hc).1, ok _ (by simp [va_wsS]), ⟨hd.1, hd.2.1⟩, fun sig h => ?_, ok _ (by simp [va_wsS]), ok _ (by simp [va_wsS])⟩
  have h2 := hd.2.2
  rw [h] at h2
  exact (Option.some.inj h2).symm
theorem vx_callSW (X : Stand p l e R s m args below meth c T locs cells slots) (hexec : p.tables.exec = Jvm.exec) {own : String} {index : Nat} {y : MethodName} {bytes : ByteArray} {maxL : Nat} {ret : Option FieldType} {hh : List (Nat × Nat × Nat × Nat)}
    (hown : s.vm.findClass own = some m.cls) (hlink : (Cond.methodLink own index y).before args s = true) (hstat : (Cond.static y).before args s = true) (hinit : (Cond.initialized y.cls).before args s = true)
    (hcode : (Cond.codeWith y bytes maxL ret hh).before args s = true) (hy : y.cls ≠ "java/lang/invoke/MethodHandle" ∧ y.cls ≠ "java/lang/invoke/VarHandle")
    {W9 : Nat} {Pre : Pt → Array Value → Prop} {Post : Pt → Array Value → Option Value → Pt → Prop} (hK : Back l R p e below s args y 3 W9 Pre Post)
    {g : JFrame} (hg : g.method = m) (hsize : g.locals.size = c.maxLocals) {argsL rest : List Value} (hlen : ∀ sig, parseMethodDescriptor y.desc = some sig → argsL.length = sig.parameters.length)
    (hstack : g.stack = argsL.reverse ++ rest) (hW : 2 * g.monitorRoom + (rest.map fun v => v.category).sum ≤ W9) (hdg : decode c.code g.pc = .ok (.invokestatic index, 3))
    (hpre : ∀ vm₁, s.WarmedH vm₁ → Pre ⟨T.setVm vm₁, locs, cells, slots⟩ argsL.toArray) :
    ∃ (v : Option Value) (vm₁ : Vm) (B : Pt), s.WarmedH vm₁ ∧ Stand p l e R s m args below meth c B.U B.locs B.cells B.slots ∧ Post ⟨T.setVm vm₁, locs, cells, slots⟩ argsL.toArray v B ∧
      ∀ target, Steps p.tables e below (B.U.setTop { g with pc := g.pc + 3, stack := v.toList ++ rest }) target → Steps p.tables e below (T.setTop g) target := by
  obtain ⟨mk, methM, cM, hnamed, hmethM, -, -, -, -, -, -, hsigM⟩ := Cond.codeWith_spec hcode
  have hstatic : methM.isStatic = true := Cond.static_spec hnamed hmethM hstat
  obtain ⟨kP, hkP, -⟩ := className_of_methodNamed hnamed
  have hinitP : kP.init = .initialized := Cond.initialized_spec (findClass_of_methodNamed hnamed) hkP hinit
  obtain ⟨vm₁, X₁, hstep₁⟩ := X.invokestatic hexec hown hlink hnamed hmethM hstatic hkP hinitP hy (g := g) hg (argsL := argsL) (rest := rest) (hlen _ hsigM) hstack hdg
  obtain ⟨v, B, X', hpost, hsteps⟩ := hK m meth c ⟨T.setVm vm₁, locs, cells, slots⟩ { g with stack := rest } (.invokestatic index) mk argsL.toArray X₁ hg hsize hdg hW (X₁.named hnamed) (hpre vm₁ X₁.warmed)
  exact ⟨v, vm₁, B, X₁.warmed, X', hpost, fun target h => hstep₁ _ fun acts => by rw [doInvoke_state]; exact hsteps.trans h⟩
theorem vx_runSW {y : MethodName} {bytes cc : ByteArray} {maxL nL mc ms n index : Nat} {ret : Option FieldType} {hh : List (Nat × Nat × Nat × Nat)} {ws : List Cond} {rm : Room} {Pc : Array Value → State → Prop} {Qc : Array Value → State → Outcome → State → Prop} {free : Addr → Prop} {Ts : List Cond} {own : String} {As rest : List Value} {g : JFrame}
    (S : CallFix p m c cc nL s args Ts own) (hM : Met l y ws rm Pc Qc mc ms free) (cw : vx_CSW R s args own index y bytes maxL ret hh ws rm mc ms n) (hp : PreS s H Pc As)
    (hg : g.method = m) (hn : As.length = n) (hsize : g.locals.size = nL) (hstack : g.stack = As.reverse ++ rest) (hW : 2 * g.monitorRoom + (rest.map fun v => v.category).sum ≤ 8) (hdg : decode cc g.pc = .ok (.invokestatic index, 3)) (hf : cells + mc ≤ R.cells ∧ slots + ms ≤ R.slots) :
    va_Run p l e R s m args below meth c H locs cells slots mc ms g rest (Qc As.toArray) (free) := by
  obtain ⟨⟨hrc, hrs, hfr, hlo, hws, hcw⟩, hcode, hini, hy, hlen, hl, hstt⟩ := cw
  have hK : Back l R p e below s args y 3 8 (PreOf R mc ms Pc) (PostOf Qc mc ms free) := va_backW (hh := hh) (bytes := bytes) (maxL := maxL) (ret := ret) hM hp.1 hrc hrs hfr hlo hws hcw (fun a' U hW => word_at hW (Or.inl (by first | rfl | simp [Cond.onTables, Cond.keeps, Cond.steady])) hini)
  obtain ⟨hx, hb, hml, ho, -⟩ := S
  intro T hT X
  obtain ⟨v, vm₁, ⟨U', l2, c2, s2⟩, hW₁, X', ⟨g', mk, t, L, e1, e2, hq, h1, hL, h2, h3⟩, st⟩ := vx_callSW X hx (hh := hh) (bytes := bytes) (maxL := maxL) (ret := ret) ho hl hstt hini hcode hy hK hg (hsize.trans hml.symm) (argsL := As) (rest := rest) (fun sig h => hn.trans (hlen sig h)) hstack hW (by rw [hb]; exact hdg)
    (fun vm₁ hW₁ => ⟨hf.1, hf.2, hp.2 (T.setVm vm₁) hT hW₁⟩)
  dsimp only [Pt.U, Pt.locs, Pt.cells, Pt.slots] at X' e1 e2 h1 h2 h3 st
  subst h1; subst h2; subst h3
  exact ⟨v, (T.setVm vm₁).calling g' mk As.toArray, t, U', L, hT, X', hL, e1, e2, hq, st⟩
/-- not caught here, past rows that name other classes: it goes on to the caller -/
theorem vx_outP {p : Program} {l : Launch} {e : Env} {R : Room} {s : State} {m : MethodId} {args : Array Value} {below : List Frame} {meth : Method} {c : Code} {H : Heap} {locs : List Loc} {cells slots : Nat} {free : Addr → Prop} {ls : Array Slot} {rest : List Value} {Qc : Array Value → State → Outcome → State → Prop} {XC : String → State → State → Prop}
    {pc : Nat} {own E : String} {ce : Cell} {q : Addr} {mc ms : Nat} (hown : s.vm.findClass own = some m.cls) (hlocks : meth.locks = false)
    (hpass : ∀ z ∈ c.exceptionTable.toList, covers z pc = false ∨ (z.catchType ≠ 0 ∧ ∃ nm : String, (Cond.classLink own z.catchType nm).before args s = true ∧ va_Nc E nm s)) (hcell : H[q]? = some ce) (hv : ce.vm = .none) (hcl : s.vm.findClass E = some ce.cls)
    (hx : ∀ t : State, t.heap = H → s.vm.Alike t.vm → XC E s t) (hf : ∀ z ∈ locs, free z.base) (hc : cells ≤ mc) (hs : slots ≤ ms) :
    vx_W p l e R s m args below meth c H locs cells slots (vx_MQ below Qc XC args s mc ms free) (F0 m pc ls rest) q := by
  intro T hT X
  have hpl : e.platform.magicAccessors = ({} : Platform).magicAccessors := by rw [X.admits.platform]
  obtain ⟨vm', hW', X', st⟩ := X.outThrough hlocks q (g := F0 m pc ls rest) rfl rfl rfl (cell := ce) (by rw [hT]; exact hcell) (by rw [hv]; rfl)
    (by obtain ⟨k9, h9, -⟩ := Vm.findClass_spec hcl; exact ⟨k9, h9⟩) (fun z hz => by
      rcases hpass z hz with h | ⟨hz0, nm, hl1, hn1⟩
      · exact Or.inl h
      · obtain ⟨c6, hc6, hcl6⟩ := Cond.classLink_spec hown hl1 e.platform hpl
        obtain ⟨a8, b8, h1, h2, h3⟩ := hn1
        cases Option.some.inj (h1.symm.trans hcl)
        cases Option.some.inj (h2.symm.trans hc6)
        exact Or.inr ⟨hz0, _, hcl6, h3⟩)
  obtain ⟨g₀, hfr⟩ := X'.frames_eq
  have hcell9 : ((T.setVm vm').setFrames (.throwing q :: below)).heap[q]? = some ce := by
    show T.heap[q]? = some ce
    rw [hT]; exact hcell
  have hend : Ended ((T.setVm vm').setFrames (.throwing q :: below)) below (.threw q) := State.frames_setFrames _ (State.cur_lt_of_frames hfr)
  refine ⟨(T.setVm vm').setFrames (.throwing q :: below), ?_, .threw q, X'.here.running, hend, Or.inr ⟨q, rfl, E, ce, locs, hx _ hT (X'.ends _).1.alike, hcell9, hv, hcl, (X'.ends _).1, (X'.ends _).2.mono hc hs, hf⟩⟩
  rw [X.pushThrowing_eq]
  exact st
end VXS
/-! ===== END ===== -/
/-! ===== BEGIN methods with a table of their own: called by a name, returning or throwing ===== -/
section VXH
/-! vx_backW, vx_callVX, vx_callSX, vx_callVW, vx_runVW, vx_runVX, vx_runSX, vx_ofWH follow the same proofs as their sisters above (Free/Laws.lean, Shelf42/LK1.lean); vx_outP calls Shelf42/NT130.lean (outThrough). -/
section
variable {l : Launch} {R : Room} {p : Program} {e : Env} {below : List Frame} {s : State} {sargs : Array Value} {y : MethodName} {len W9 : Nat}
theorem vx_backW {ws : List Cond} {rm : Room} {Pc : Array Value → State → Prop} {Qc : Array Value → State → Outcome → State → Prop} {XC : String → State → State → Prop} {mc ms : Nat} {free : Addr → Prop} {bytes : ByteArray} {maxL : Nat} {ret : Option FieldType} {hh : List (Nat × Nat × Nat × Nat)}
    (hM : vx_Met l y ws rm Pc Qc XC mc ms free) (hblind : FrameBlind Pc) (hrc : rm.cells = mc) (hrs : rm.slots = ms)
    (hframes : rm.frames + 1 ≤ R.frames) (hlocals : W9 + (maxL + 11) + rm.locals ≤ R.locals)
    (hws : ∀ w ∈ ws, ∀ a' U, s.WarmedH U.vm → w.before a' U = true) (hcode : Cond.codeWith y bytes maxL ret hh ∈ ws) (hinit : ∀ a' U, s.WarmedH U.vm → (Cond.initialized y.cls).before a' U = true) :
    vx_Back l R p e below s sargs y len W9 (PreOf R mc ms Pc) (PostOf Qc mc ms free) (vx_Post XC mc ms free) := by
  intro m meth c A g ig mk a X hg hsize hdg hW hn hp
  have h1 : (headSpec ws rm).pre.before a A.U = true := atoms_intro fun w hw => hws w hw _ _ X.warmed
  have h2 : (Cond.codeWith y bytes maxL ret hh).before a A.U = true := hws _ hcode _ _ X.warmed
  have h3 : (Cond.initialized y.cls).before a A.U = true := hinit _ _ X.warmed
  have h4 : A.cells + (headSpec ws rm).room.cells ≤ R.cells := by rw [show (headSpec ws rm).room.cells = mc from hrc]; exact hp.1
  have h5 : A.slots + (headSpec ws rm).room.slots ≤ R.slots := by rw [show (headSpec ws rm).room.slots = ms from hrs]; exact hp.2.1
  have hPc : Pc a (A.U.calling g mk a) := hblind _ _ _ _ hp.2.2
  obtain ⟨U, Ls, c0, s0⟩ := A
  dsimp only [Pt.U, Pt.locs, Pt.cells, Pt.slots] at h1 h2 h3 h4 h5 X hn hPc ⊢
  obtain ⟨m9, methY, cY, hn9, hmY, hcY, -, hlY, -⟩ := Cond.codeWith_spec h2
  cases Option.some.inj (hn9.symm.trans hn)
  obtain ⟨kY, hkY, -⟩ := className_of_methodNamed hn
  have hinitY : kY.init = .initialized := Cond.initialized_spec (findClass_of_methodNamed hn) hkY h3
  have h : At U g.method c below := by rw [hg]; exact X.here
  have hlocals9 : W9 + (maxL + 11) + (headSpec ws rm).room.locals ≤ R.locals := hlocals
  have happ : (headSpec ws rm).appliesLoose y e.platform (U.calling g mk a) = true :=
    Spec.appliesLoose_calling (g := g) h hdg hn hkY hinitY
      (X.room_calling (g := g) (R' := (headSpec ws rm).room) hsize hmY hcY hframes (by rw [hlY]; omega) h4 h5) h1
  obtain ⟨mid, hmid⟩ := h.above
  have hfr : (U.setTop g).frames = (.java g :: mid) ++ below := by rw [State.frames_setTop' g h.top, hmid]; rfl
  obtain ⟨o, s₂, hsteps, -, hend, hq⟩ := Steps.callFree hM p X.admits X.cas X.clock (acts := []) hfr happ hPc trivial
  have hq' : vx_Q Qc XC mc ms free a (U.calling g mk a) o s₂ := hq
  rw [State.frames_setTop' g h.top] at hend
  obtain ⟨g₀, hg0⟩ := Option.isSome_iff_exists.mp h.top
  obtain ⟨r, hr⟩ := State.topJava?_eq_some.mp hg0
  have hr' : (({ U with heap := s₂.heap, slotsUsed := s₂.slotsUsed } : State).setVm s₂.vm).frames = .java g₀ :: r := hr
  rcases hq' with ⟨hqc, L, hfe, hL⟩ | ⟨q, rfl, E, ce, L, hx, hce, hcv, hcl, hW₂, hsm, hL⟩
  · obtain ⟨⟨v, rfl⟩, hW₂, e2, q2, q3, q4, q5, q6⟩ := id hfe
    have e3 : s₂ = ({ (U.calling g mk a).setFrames s₂.frames with heap := s₂.heap, slotsUsed := s₂.slotsUsed } : State).setVm s₂.vm := by
      have : s₂ = ({ s₂ with vm := (U.calling g mk a).vm } : State).setVm s₂.vm := rfl
      rw [e2] at this
      exact this
    obtain ⟨c₂, i₂, len₂, hc₂, hd₂, hf₂⟩ := hend
    have hW' : U.WarmedH s₂.vm := hW₂
    have hcc : c₂ = c := by
      have h1 : s₂.code? g.method = U.code? g.method := by
        rw [State.code?_eq, State.code?_eq, hW'.alike.method?]
      exact Option.some.inj (hc₂.symm.trans (h1.trans h.code))
    subst hcc
    have hlen : len₂ = len := by rw [hdg] at hd₂; cases hd₂; rfl
    subst hlen
    have hs₂ : s₂ = (({ U with heap := s₂.heap, slotsUsed := s₂.slotsUsed } : State).setVm s₂.vm).setTop { g with pc := g.pc + len₂, stack := v.toList ++ g.stack } := by
      refine e3.trans ?_
      rw [hf₂, State.calling_eq h.top, State.setFrames_setFrames, State.setTop_of_frames _ hr', hr]
      rfl
    have hsame : U.sameButNew ({ U with heap := s₂.heap, slotsUsed := s₂.slotsUsed } : State) L mc ms := by
      refine ⟨?_, q2, q3, q4, q5, q6⟩
      obtain ⟨t, ht, -⟩ := State.frames_cons hr
      show ({ U with heap := s₂.heap, slotsUsed := s₂.slotsUsed } : State) = { U.setFrames U.frames with heap := s₂.heap, slotsUsed := s₂.slotsUsed }
      rw [State.setFrames_self ht]
    subst hg
    refine Or.inl ⟨v, ⟨(({ U with heap := s₂.heap, slotsUsed := s₂.slotsUsed } : State).setVm s₂.vm), Ls ++ L, c0 + mc, s0 + ms⟩,
      ⟨X.admits, X.cas, X.clock, X.frames, X.room, X.hears, X.method, X.code, (X.here.setHeapUsed s₂.heap s₂.slotsUsed).setVm hW'.alike, X.tail, State.WarmedH.trans X.warmed hW', X.limits, X.bytes, X.same.trans (hsame.setVm s.vm)⟩,
      ⟨g, mk, s₂, L, rfl, rfl, hqc, rfl, hL, rfl, rfl⟩, ?_⟩
    show Steps p.tables e below _ ((({ U with heap := s₂.heap, slotsUsed := s₂.slotsUsed } : State).setVm s₂.vm).setTop { g with pc := g.pc + len₂, stack := v.toList ++ g.stack })
    rw [← hs₂]
    exact hsteps
  · obtain ⟨e2, q2, q3, q4, q5, q6⟩ := id hsm
    have e3 : s₂ = ({ (U.calling g mk a).setFrames s₂.frames with heap := s₂.heap, slotsUsed := s₂.slotsUsed } : State).setVm s₂.vm := by
      have : s₂ = ({ s₂ with vm := (U.calling g mk a).vm } : State).setVm s₂.vm := rfl
      rw [e2] at this
      exact this
    have hf₂ : s₂.frames = .throwing q :: .java g :: U.frames.tail := hend
    have hW' : U.WarmedH s₂.vm := hW₂
    have hs₂ : s₂ = ((({ U with heap := s₂.heap, slotsUsed := s₂.slotsUsed } : State).setVm s₂.vm).setTop g).pushFrame (.throwing q) := by
      refine e3.trans ?_
      rw [hf₂, State.calling_eq h.top, State.setFrames_setFrames, State.pushFrame, State.frames_setTop _ hr', State.setTop_of_frames _ hr', State.setFrames_setFrames, hr]
      rfl
    have hsame : U.sameButNew ({ U with heap := s₂.heap, slotsUsed := s₂.slotsUsed } : State) L mc ms := by
      refine ⟨?_, q2, q3, q4, q5, q6⟩
      obtain ⟨t, ht, -⟩ := State.frames_cons hr
      show ({ U with heap := s₂.heap, slotsUsed := s₂.slotsUsed } : State) = { U.setFrames U.frames with heap := s₂.heap, slotsUsed := s₂.slotsUsed }
      rw [State.setFrames_self ht]
    subst hg
    refine Or.inr ⟨q, ⟨(({ U with heap := s₂.heap, slotsUsed := s₂.slotsUsed } : State).setVm s₂.vm), Ls ++ L, c0 + mc, s0 + ms⟩,
      ⟨X.admits, X.cas, X.clock, X.frames, X.room, X.hears, X.method, X.code, (X.here.setHeapUsed s₂.heap s₂.slotsUsed).setVm hW'.alike, X.tail, State.WarmedH.trans X.warmed hW', X.limits, X.bytes, X.same.trans (hsame.setVm s.vm)⟩,
      ⟨g, mk, s₂, L, E, ce, rfl, rfl, hx, hce, hcv, hcl, rfl, hL, rfl, rfl⟩, ?_⟩
    show Steps p.tables e below _ (((({ U with heap := s₂.heap, slotsUsed := s₂.slotsUsed } : State).setVm s₂.vm).setTop g).pushFrame (.throwing q))
    rw [← hs₂]
    exact hsteps
end
variable {p : Program} {l : Launch} {e : Env} {R : Room} {s : State} {m : MethodId} {args : Array Value} {below : List Frame} {meth : Method} {c : Code} {T : State} {H : Heap} {locs : List Loc} {cells slots : Nat}
theorem vx_callVX (X : Stand p l e R s m args below meth c T locs cells slots) (hexec : p.tables.exec = Jvm.exec) {own C : String} {index : Nat} {y : MethodName} {bytes : ByteArray} {maxL : Nat} {ret : Option FieldType} {hh : List (Nat × Nat × Nat × Nat)}
    (hown : s.vm.findClass own = some m.cls) (hlink : (Cond.methodLink own index y).before args s = true) (hinst : (Cond.instanceMethod y).before args s = true) (hsel : (Cond.selects C y y).before args s = true)
    (hcode : (Cond.codeWith y bytes maxL ret hh).before args s = true) (hy : y.cls ≠ "java/lang/invoke/MethodHandle" ∧ y.cls ≠ "java/lang/invoke/VarHandle")
    {W9 : Nat} {Pre : Pt → Array Value → Prop} {Post : Pt → Array Value → Option Value → Pt → Prop} {PostX : Pt → Array Value → Addr → Pt → Prop} (hK : vx_Back l R p e below s args y 3 W9 Pre Post PostX)
    {b : Addr} {cellB : Cell} (hcell : T.heap[b]? = some cellB) (hobj : cellB.vm.isStatics = false) (hcls : s.vm.findClass C = some cellB.cls)
    {g : JFrame} (hg : g.method = m) (hsize : g.locals.size = c.maxLocals) {argsL rest : List Value} (hlen : ∀ sig, parseMethodDescriptor y.desc = some sig → argsL.length = sig.parameters.length)
    (hstack : g.stack = argsL.reverse ++ .ref b :: rest) (hW : 2 * g.monitorRoom + (rest.map fun v => v.category).sum ≤ W9) (hdg : decode c.code g.pc = .ok (.invokevirtual index, 3))
    (hpre : ∀ vm₁, s.WarmedH vm₁ → Pre ⟨T.setVm vm₁, locs, cells, slots⟩ (Value.ref b :: argsL).toArray) :
    (∃ (v : Option Value) (vm₁ : Vm) (B : Pt), s.WarmedH vm₁ ∧ Stand p l e R s m args below meth c B.U B.locs B.cells B.slots ∧ Post ⟨T.setVm vm₁, locs, cells, slots⟩ (Value.ref b :: argsL).toArray v B ∧
      ∀ target, Steps p.tables e below (B.U.setTop { g with pc := g.pc + 3, stack := v.toList ++ rest }) target → Steps p.tables e below (T.setTop g) target) ∨
    (∃ (q : Addr) (vm₁ : Vm) (B : Pt), s.WarmedH vm₁ ∧ Stand p l e R s m args below meth c B.U B.locs B.cells B.slots ∧ PostX ⟨T.setVm vm₁, locs, cells, slots⟩ (Value.ref b :: argsL).toArray q B ∧
      Steps p.tables e below (T.setTop g) ((B.U.setTop { g with stack := rest }).pushFrame (.throwing q))) := by
  obtain ⟨mk, methM, hnamed, hmethM, hstM, habM⟩ := Cond.instanceMethod_spec hinst
  obtain ⟨m8, methM', cM, hn8, hmethM', -, -, -, -, -, -, hsigM⟩ := Cond.codeWith_spec hcode
  cases Option.some.inj (hn8.symm.trans hnamed)
  cases hmethM.symm.trans hmethM'
  obtain ⟨c2, r2, m2, q1, q2, q3, q4, kP, hkP, hkPi⟩ := Cond.selects_spec hsel
  cases hcls.symm.trans q1
  cases (State.methodFound?_of_named hnamed hy).symm.trans q2
  cases hnamed.symm.trans q3
  have hselP : selectMethod e.platform s.vm cellB.cls mk = .method mk := by rw [Launch.admits_selectMethod X.admits]; exact q4
  obtain ⟨vm₁, X₁, hstep₁⟩ := X.invokevirtual hexec hown hlink hnamed hmethM hstM hkP hkPi hy (a := b) (cell := cellB) hcell
    (fun z h => by rw [h] at hobj; cases hobj) hselP hmethM habM hkP hkPi (g := g) hg (argsL := argsL) (rest := rest) (hlen _ hsigM) hstack hdg
  rcases hK m meth c ⟨T.setVm vm₁, locs, cells, slots⟩ { g with stack := rest } (.invokevirtual index) mk (Value.ref b :: argsL).toArray X₁ hg hsize hdg hW (X₁.named hnamed) (hpre vm₁ X₁.warmed) with ⟨v, B, X', hpost, hsteps⟩ | ⟨q, B, X', hpost, hsteps⟩
  · exact Or.inl ⟨v, vm₁, B, X₁.warmed, X', hpost, fun target h => hstep₁ _ fun acts => by rw [doInvoke_state]; exact hsteps.trans h⟩
  · exact Or.inr ⟨q, vm₁, B, X₁.warmed, X', hpost, hstep₁ _ fun acts => by rw [doInvoke_state]; exact hsteps⟩
theorem vx_callSX (X : Stand p l e R s m args below meth c T locs cells slots) (hexec : p.tables.exec = Jvm.exec) {own : String} {index : Nat} {y : MethodName} {bytes : ByteArray} {maxL : Nat} {ret : Option FieldType} {hh : List (Nat × Nat × Nat × Nat)}
    (hown : s.vm.findClass own = some m.cls) (hlink : (Cond.methodLink own index y).before args s = true) (hstat : (Cond.static y).before args s = true) (hinit : (Cond.initialized y.cls).before args s = true)
    (hcode : (Cond.codeWith y bytes maxL ret hh).before args s = true) (hy : y.cls ≠ "java/lang/invoke/MethodHandle" ∧ y.cls ≠ "java/lang/invoke/VarHandle")
    {W9 : Nat} {Pre : Pt → Array Value → Prop} {Post : Pt → Array Value → Option Value → Pt → Prop} {PostX : Pt → Array Value → Addr → Pt → Prop} (hK : vx_Back l R p e below s args y 3 W9 Pre Post PostX)
    {g : JFrame} (hg : g.method = m) (hsize : g.locals.size = c.maxLocals) {argsL rest : List Value} (hlen : ∀ sig, parseMethodDescriptor y.desc = some sig → argsL.length = sig.parameters.length)
    (hstack : g.stack = argsL.reverse ++ rest) (hW : 2 * g.monitorRoom + (rest.map fun v => v.category).sum ≤ W9) (hdg : decode c.code g.pc = .ok (.invokestatic index, 3))
    (hpre : ∀ vm₁, s.WarmedH vm₁ → Pre ⟨T.setVm vm₁, locs, cells, slots⟩ argsL.toArray) :
    (∃ (v : Option Value) (vm₁ : Vm) (B : Pt), s.WarmedH vm₁ ∧ Stand p l e R s m args below meth c B.U B.locs B.cells B.slots ∧ Post ⟨T.setVm vm₁, locs, cells, slots⟩ argsL.toArray v B ∧
      ∀ target, Steps p.tables e below (B.U.setTop { g with pc := g.pc + 3, stack := v.toList ++ rest }) target → Steps p.tables e below (T.setTop g) target) ∨
    (∃ (q : Addr) (vm₁ : Vm) (B : Pt), s.WarmedH vm₁ ∧ Stand p l e R s m args below meth c B.U B.locs B.cells B.slots ∧ PostX ⟨T.setVm vm₁, locs, cells, slots⟩ argsL.toArray q B ∧
      Steps p.tables e below (T.setTop g) ((B.U.setTop { g with stack := rest }).pushFrame (.throwing q))) := by
  obtain ⟨mk, methM, cM, hnamed, hmethM, -, -, -, -, -, -, hsigM⟩ := Cond.codeWith_spec hcode
  have hstatic : methM.isStatic = true := Cond.static_spec hnamed hmethM hstat
  obtain ⟨kP, hkP, -⟩ := className_of_methodNamed hnamed
  have hinitP : kP.init = .initialized := Cond.initialized_spec (findClass_of_methodNamed hnamed) hkP hinit
  obtain ⟨vm₁, X₁, hstep₁⟩ := X.invokestatic hexec hown hlink hnamed hmethM hstatic hkP hinitP hy (g := g) hg (argsL := argsL) (rest := rest) (hlen _ hsigM) hstack hdg
  rcases hK m meth c ⟨T.setVm vm₁, locs, cells, slots⟩ { g with stack := rest } (.invokestatic index) mk argsL.toArray X₁ hg hsize hdg hW (X₁.named hnamed) (hpre vm₁ X₁.warmed) with ⟨v, B, X', hpost, hsteps⟩ | ⟨q, B, X', hpost, hsteps⟩
  · exact Or.inl ⟨v, vm₁, B, X₁.warmed, X', hpost, fun target h => hstep₁ _ fun acts => by rw [doInvoke_state]; exact hsteps.trans h⟩
  · exact Or.inr ⟨q, vm₁, B, X₁.warmed, X', hpost, hstep₁ _ fun acts => by rw [doInvoke_state]; exact hsteps⟩
theorem vx_callVW (X : Stand p l e R s m args below meth c T locs cells slots) (hexec : p.tables.exec = Jvm.exec) {own C : String} {index : Nat} {y : MethodName} {bytes : ByteArray} {maxL : Nat} {ret : Option FieldType} {hh : List (Nat × Nat × Nat × Nat)}
    (hown : s.vm.findClass own = some m.cls) (hlink : (Cond.methodLink own index y).before args s = true) (hinst : (Cond.instanceMethod y).before args s = true) (hsel : (Cond.selects C y y).before args s = true)
    (hcode : (Cond.codeWith y bytes maxL ret hh).before args s = true) (hy : y.cls ≠ "java/lang/invoke/MethodHandle" ∧ y.cls ≠ "java/lang/invoke/VarHandle")
    {W9 : Nat} {Pre : Pt → Array Value → Prop} {Post : Pt → Array Value → Option Value → Pt → Prop} (hK : Back l R p e below s args y 3 W9 Pre Post)
    {b : Addr} {cellB : Cell} (hcell : T.heap[b]? = some cellB) (hobj : cellB.vm.isStatics = false) (hcls : s.vm.findClass C = some cellB.cls)
    {g : JFrame} (hg : g.method = m) (hsize : g.locals.size = c.maxLocals) {argsL rest : List Value} (hlen : ∀ sig, parseMethodDescriptor y.desc = some sig → argsL.length = sig.parameters.length)
    (hstack : g.stack = argsL.reverse ++ .ref b :: rest) (hW : 2 * g.monitorRoom + (rest.map fun v => v.category).sum ≤ W9) (hdg : decode c.code g.pc = .ok (.invokevirtual index, 3))
    (hpre : ∀ vm₁, s.WarmedH vm₁ → Pre ⟨T.setVm vm₁, locs, cells, slots⟩ (Value.ref b :: argsL).toArray) :
    ∃ (v : Option Value) (vm₁ : Vm) (B : Pt), s.WarmedH vm₁ ∧ Stand p l e R s m args below meth c B.U B.locs B.cells B.slots ∧ Post ⟨T.setVm vm₁, locs, cells, slots⟩ (Value.ref b :: argsL).toArray v B ∧
      ∀ target, Steps p.tables e below (B.U.setTop { g with pc := g.pc + 3, stack := v.toList ++ rest }) target → Steps p.tables e below (T.setTop g) target := by
  obtain ⟨mk, methM, hnamed, hmethM, hstM, habM⟩ := Cond.instanceMethod_spec hinst
  obtain ⟨m8, methM', cM, hn8, hmethM', -, -, -, -, -, -, hsigM⟩ := Cond.codeWith_spec hcode
  cases Option.some.inj (hn8.symm.trans hnamed)
  cases hmethM.symm.trans hmethM'
  obtain ⟨c2, r2, m2, q1, q2, q3, q4, kP, hkP, hkPi⟩ := Cond.selects_spec hsel
  cases hcls.symm.trans q1
  cases (State.methodFound?_of_named hnamed hy).symm.trans q2
  cases hnamed.symm.trans q3
  have hselP : selectMethod e.platform s.vm cellB.cls mk = .method mk := by rw [Launch.admits_selectMethod X.admits]; exact q4
  obtain ⟨vm₁, X₁, hstep₁⟩ := X.invokevirtual hexec hown hlink hnamed hmethM hstM hkP hkPi hy (a := b) (cell := cellB) hcell
    (fun z h => by rw [h] at hobj; cases hobj) hselP hmethM habM hkP hkPi (g := g) hg (argsL := argsL) (rest := rest) (hlen _ hsigM) hstack hdg
  obtain ⟨v, B, X', hpost, hsteps⟩ := hK m meth c ⟨T.setVm vm₁, locs, cells, slots⟩ { g with stack := rest } (.invokevirtual index) mk (Value.ref b :: argsL).toArray X₁ hg hsize hdg hW (X₁.named hnamed) (hpre vm₁ X₁.warmed)
  exact ⟨v, vm₁, B, X₁.warmed, X', hpost, fun target h => hstep₁ _ fun acts => by rw [doInvoke_state]; exact hsteps.trans h⟩
abbrev vx_CVW (R : Room) (s : State) (args : Array Value) (own C : String) (index : Nat) (y : MethodName) (bytes : ByteArray) (maxL : Nat) (ret : Option FieldType) (hh : List (Nat × Nat × Nat × Nat)) (ws : List Cond) (rm : Room) (mc ms n : Nat) : Prop :=
  (rm.cells = mc ∧ rm.slots = ms ∧ rm.frames + 1 ≤ R.frames ∧ 8 + (maxL + 11) + rm.locals ≤ R.locals ∧ (∀ w ∈ ws, ∀ (a' : Array Value) (U : State), s.WarmedH U.vm → w.before a' U = true) ∧ Cond.codeWith y bytes maxL ret hh ∈ ws) ∧
  (Cond.codeWith y bytes maxL ret hh).before args s = true ∧ (Cond.initialized y.cls).before args s = true ∧ (y.cls ≠ "java/lang/invoke/MethodHandle" ∧ y.cls ≠ "java/lang/invoke/VarHandle") ∧
  (∀ sig, parseMethodDescriptor y.desc = some sig → n = sig.parameters.length) ∧ (Cond.methodLink own index y).before args s = true ∧ (Cond.instanceMethod y).before args s = true ∧ (Cond.selects C y y).before args s = true
theorem vx_runVW {y : MethodName} {bytes cc : ByteArray} {maxL nL mc ms n index : Nat} {ret : Option FieldType} {hh : List (Nat × Nat × Nat × Nat)} {ws : List Cond} {rm : Room} {Pc : Array Value → State → Prop} {Qc : Array Value → State → Outcome → State → Prop} {free : Addr → Prop} {Ts : List Cond} {own C : String} {b : Addr} {As rest : List Value} {g : JFrame}
    (S : CallFix p m c cc nL s args Ts own) (hM : Met l y ws rm Pc Qc mc ms free) (cw : vx_CVW R s args own C index y bytes maxL ret hh ws rm mc ms n) (hp : PreV s H C b Pc As)
    (hg : g.method = m) (hn : As.length = n) (hsize : g.locals.size = nL) (hstack : g.stack = As.reverse ++ .ref b :: rest) (hW : 2 * g.monitorRoom + (rest.map fun v => v.category).sum ≤ 8) (hdg : decode cc g.pc = .ok (.invokevirtual index, 3)) (hf : cells + mc ≤ R.cells ∧ slots + ms ≤ R.slots) :
    va_Run p l e R s m args below meth c H locs cells slots mc ms g rest (Qc (Value.ref b :: As).toArray) free := by
  obtain ⟨⟨hrc, hrs, hfr, hlo, hws, hcw⟩, hcode, hini, hy, hlen, hl, hin, hse⟩ := cw
  have hK : Back l R p e below s args y 3 8 (PreOf R mc ms Pc) (PostOf Qc mc ms free) := va_backW (hh := hh) (bytes := bytes) (maxL := maxL) (ret := ret) hM hp.1 hrc hrs hfr hlo hws hcw (fun a' U hW => word_at hW (Or.inl (by first | rfl | simp [Cond.onTables, Cond.keeps, Cond.steady])) hini)
  obtain ⟨hx, hb, hml, ho, -⟩ := S
  obtain ⟨-, ⟨cellB, hcB, hoB, hclB⟩, hPc⟩ := hp
  intro T hT X
  obtain ⟨v, vm₁, ⟨U', l2, c2, s2⟩, hW₁, X', ⟨g', mk, t, L, e1, e2, hq, h1, hL, h2, h3⟩, st⟩ := vx_callVW X hx (C := C) (hh := hh) (bytes := bytes) (maxL := maxL) (ret := ret) ho hl hin hse hcode hy hK (by rw [hT]; exact hcB) hoB hclB hg (hsize.trans hml.symm) (argsL := As) (rest := rest) (fun sig h => hn.trans (hlen sig h)) hstack hW (by rw [hb]; exact hdg)
    (fun vm₁ hW₁ => ⟨hf.1, hf.2, hPc (T.setVm vm₁) hT hW₁⟩)
  dsimp only [Pt.U, Pt.locs, Pt.cells, Pt.slots] at X' e1 e2 h1 h2 h3 st
  subst h1; subst h2; subst h3
  exact ⟨v, (T.setVm vm₁).calling g' mk (Value.ref b :: As).toArray, t, U', L, hT, X', hL, e1, e2, hq, st⟩
section
variable {y : MethodName} {bytes cc : ByteArray} {maxL nL mc ms n index : Nat} {ret : Option FieldType} {ws : List Cond} {rm : Room} {Pc : Array Value → State → Prop} {Qc : Array Value → State → Outcome → State → Prop} {XC : String → State → State → Prop} {free : Addr → Prop} {Ts : List Cond} {own C : String} {b : Addr} {As rest : List Value} {g : JFrame}
theorem vx_runVX {hh : List (Nat × Nat × Nat × Nat)} (S : CallFix p m c cc nL s args Ts own) (hM : vx_Met l y ws rm Pc Qc XC mc ms free) (cw : vx_CVW R s args own C index y bytes maxL ret hh ws rm mc ms n) (hp : PreV s H C b Pc As)
    (hg : g.method = m) (hn : As.length = n) (hsize : g.locals.size = nL) (hstack : g.stack = As.reverse ++ .ref b :: rest) (hW : 2 * g.monitorRoom + (rest.map fun v => v.category).sum ≤ 8) (hdg : decode cc g.pc = .ok (.invokevirtual index, 3)) (hf : cells + mc ≤ R.cells ∧ slots + ms ≤ R.slots) :
    vx_Run p l e R s m args below meth c H locs cells slots mc ms g rest (Qc (Value.ref b :: As).toArray) XC free := by
  obtain ⟨⟨hrc, hrs, hfr, hlo, hws, hcw⟩, hcode, hini, hy, hlen, hl, hin, hse⟩ := cw
  have hK : vx_Back l R p e below s args y 3 8 (PreOf R mc ms Pc) (PostOf Qc mc ms free) (vx_Post XC mc ms free) := vx_backW (hh := hh) (bytes := bytes) (maxL := maxL) (ret := ret) hM hp.1 hrc hrs hfr hlo hws hcw (fun a' U hW => word_at hW (Or.inl (by first | rfl | simp [Cond.onTables, Cond.keeps, Cond.steady])) hini)
  obtain ⟨hx, hb, hml, ho, -⟩ := S
  obtain ⟨-, ⟨cellB, hcB, hoB, hclB⟩, hPc⟩ := hp
  intro T hT X
  rcases vx_callVX X hx (C := C) (hh := hh) (bytes := bytes) (maxL := maxL) (ret := ret) ho hl hin hse hcode hy hK (by rw [hT]; exact hcB) hoB hclB hg (hsize.trans hml.symm) (argsL := As) (rest := rest) (fun sig h => hn.trans (hlen sig h)) hstack hW (by rw [hb]; exact hdg)
    (fun vm₁ hW₁ => ⟨hf.1, hf.2, hPc (T.setVm vm₁) hT hW₁⟩) with ⟨v, vm₁, ⟨U', l2, c2, s2⟩, hW₁, X', ⟨g', mk, t, L, e1, e2, hq, h1, hL, h2, h3⟩, st⟩ | ⟨q, vm₁, ⟨U', l2, c2, s2⟩, hW₁, X', ⟨g', mk, t, L, E, ce, e1, e2, hq, hce, hcv, hcl, h1, hL, h2, h3⟩, st⟩
  · dsimp only [Pt.U, Pt.locs, Pt.cells, Pt.slots] at X' e1 e2 h1 h2 h3 st
    subst h1; subst h2; subst h3
    exact Or.inl ⟨v, (T.setVm vm₁).calling g' mk (Value.ref b :: As).toArray, t, U', L, hT, X', hL, e1, e2, hq, st⟩
  · dsimp only [Pt.U, Pt.locs, Pt.cells, Pt.slots] at X' e1 e2 h1 h2 h3 st hcl
    subst h1; subst h2; subst h3
    exact Or.inr ⟨q, (T.setVm vm₁).calling g' mk (Value.ref b :: As).toArray, t, U', L, E, ce, hT, X', hL, e1, e2, hq, hce, hcv, vx_cls hW₁ hcl, st⟩
theorem vx_runSX {hh : List (Nat × Nat × Nat × Nat)} (S : CallFix p m c cc nL s args Ts own) (hM : vx_Met l y ws rm Pc Qc XC mc ms free) (cw : vx_CSW R s args own index y bytes maxL ret hh ws rm mc ms n) (hp : PreS s H Pc As)
    (hg : g.method = m) (hn : As.length = n) (hsize : g.locals.size = nL) (hstack : g.stack = As.reverse ++ rest) (hW : 2 * g.monitorRoom + (rest.map fun v => v.category).sum ≤ 8) (hdg : decode cc g.pc = .ok (.invokestatic index, 3)) (hf : cells + mc ≤ R.cells ∧ slots + ms ≤ R.slots) :
    vx_Run p l e R s m args below meth c H locs cells slots mc ms g rest (Qc As.toArray) XC free := by
  obtain ⟨⟨hrc, hrs, hfr, hlo, hws, hcw⟩, hcode, hini, hy, hlen, hl, hstt⟩ := cw
  have hK : vx_Back l R p e below s args y 3 8 (PreOf R mc ms Pc) (PostOf Qc mc ms free) (vx_Post XC mc ms free) := vx_backW (hh := hh) (bytes := bytes) (maxL := maxL) (ret := ret) hM hp.1 hrc hrs hfr hlo hws hcw (fun a' U hW => word_at hW (Or.inl (by first | rfl | simp [Cond.onTables, Cond.keeps, Cond.steady])) hini)
  obtain ⟨hx, hb, hml, ho, -⟩ := S
  intro T hT X
  rcases vx_callSX X hx (hh := hh) (bytes := bytes) (maxL := maxL) (ret := ret) ho hl hstt hini hcode hy hK hg (hsize.trans hml.symm) (argsL := As) (rest := rest) (fun sig h => hn.trans (hlen sig h)) hstack hW (by rw [hb]; exact hdg)
    (fun vm₁ hW₁ => ⟨hf.1, hf.2, hp.2 (T.setVm vm₁) hT hW₁⟩) with ⟨v, vm₁, ⟨U', l2, c2, s2⟩, hW₁, X', ⟨g', mk, t, L, e1, e2, hq, h1, hL, h2, h3⟩, st⟩ | ⟨q, vm₁, ⟨U', l2, c2, s2⟩, hW₁, X', ⟨g', mk, t, L, E, ce, e1, e2, hq, hce, hcv, hcl, h1, hL, h2, h3⟩, st⟩
  · dsimp only [Pt.U, Pt.locs, Pt.cells, Pt.slots] at X' e1 e2 h1 h2 h3 st
    subst h1; subst h2; subst h3
    exact Or.inl ⟨v, (T.setVm vm₁).calling g' mk As.toArray, t, U', L, hT, X', hL, e1, e2, hq, st⟩
  · dsimp only [Pt.U, Pt.locs, Pt.cells, Pt.slots] at X' e1 e2 h1 h2 h3 st hcl
    subst h1; subst h2; subst h3
    exact Or.inr ⟨q, (T.setVm vm₁).calling g' mk As.toArray, t, U', L, E, ce, hT, X', hL, e1, e2, hq, hce, hcv, vx_cls hW₁ hcl, st⟩
end
end VXH
theorem vx_ofWH {l : Launch} {y : MethodName} {ws ws' : List Cond} {rm : Room} {Pc : Array Value → State → Prop} {Qc : Array Value → State → Outcome → State → Prop} {XC : String → State → State → Prop} {mc ms : Nat} {free : Addr → Prop} {cc : ByteArray} {maxL : Nat} {ret : Option FieldType} {hh : List (Nat × Nat × Nat × Nat)}
    (hy : plainName y.cls = true) (hw : ws = Cond.codeWith y cc maxL ret hh :: ws')
    (body : ∀ p e s m args below meth c s₁, BodyLoose p l y (headSpec ws rm) cc maxL ret e s m args below meth c s₁ → c.maxLocals = maxL → Pc args s →
      W p l e (headSpec ws rm).room s m args below meth c s.heap [] 0 0 (vx_MQ below Qc XC args s mc ms free) (entryFrame m args maxL)) : vx_Met l y ws rm Pc Qc XC mc ms free := by
  refine MetFree.of_bodyS (code := cc) (maxLocals := maxL) (ret := ret) hy ?_ ?_
  · intro args s m h hn
    obtain ⟨m9, meth, c, hn9, h1, h2, h3, h4, -, h5, h6, -⟩ := Cond.codeWith_spec (atoms_spec (ws := ws) h _ (by rw [hw]; exact List.mem_cons_self))
    cases hn.symm.trans hn9
    exact ⟨meth, c, h1, h2, h3, h4, h5, h6⟩
  · intro p e s m args below meth c s₁ B hml hP _
    have hh0 : s₁.heap = s.heap := by rw [B.state]; rfl
    obtain ⟨t, a1, o, b1, b2, b3⟩ := body p e s m args below meth c s₁ B hml hP s₁ hh0 (Stand.of_body B)
    exact ⟨t, o, a1, b1, b2, b3⟩
/-! ===== END ===== -/
end
section
/-! ===== BEGIN printed: names, fields, word lists, decode rows ===== -/
def RX0 : String := "KerbSplash$Car"
def TX0 : u_T := fun k => match k with
  | 0 => ("KerbSplash$Car", "names", "[I", true)
  | 1 => ("KerbSplash$Car", "row", "I", false)
  | 2 => ("KerbSplash$Car", "pace", "I", false)
  | 3 => ("KerbSplash$Car", "tyre", "I", false)
  | 4 => ("KerbSplash$Car", "kind", "I", false)
  | 5 => ("KerbSplash$Car", "rowThere", "I", false)
  | _ => ("KerbSplash$Car", "paceThere", "I", false)
def tyX0 : Nat → FieldType := fun k => match k with
  | 0 => .array .int
  | 1 => .int
  | 2 => .int
  | 3 => .int
  | 4 => .int
  | 5 => .int
  | _ => .int
abbrev wsX00 : List Cond := u_ws RX0 TX0 7
theorem nmX0 : ∀ a, a < 7 → ∀ b, b < 7 → a ≠ b → (TX0 a).2.1 ≠ (TX0 b).2.1 := by decide +kernel
theorem tyX0_ok : ∀ k, k < 7 → parseFieldDescriptor (TX0 k).2.2.1 = some (tyX0 k) := by decide +kernel
abbrev cX0_init : ByteArray := prog_2_method_1_code
def yX0_init : MethodName := ⟨RX0, "<init>", "()V"⟩
abbrev cX0_become : ByteArray := prog_2_method_2_code
def yX0_become : MethodName := ⟨RX0, "become", "(IIII)V"⟩
abbrev cX0_drive : ByteArray := prog_2_method_3_code
def yX0_drive : MethodName := ⟨RX0, "drive", "(LKerbSplash$Street;LKerbSplash$Law;)I"⟩
abbrev cX0_come : ByteArray := prog_2_method_4_code
def yX0_come : MethodName := ⟨RX0, "come", "(LKerbSplash$Street;LKerbSplash$Law;I)V"⟩
abbrev cX0_see : ByteArray := prog_2_method_5_code
def yX0_see : MethodName := ⟨RX0, "see", "(LKerbSplash$Street;II)V"⟩
abbrev cX0_hit : ByteArray := prog_2_method_6_code
def yX0_hit : MethodName := ⟨RX0, "hit", "(LKerbSplash$Street;LKerbSplash$Law;I)I"⟩
def RX1 : String := "KerbSplash$Law"
def TX1 : u_T := fun k => match k with
  | 0 => ("KerbSplash$Law", "steps", "[I", true)
  | 1 => ("KerbSplash$Law", "size", "I", false)
  | 2 => ("KerbSplash$Law", "starts", "[I", true)
  | _ => ("KerbSplash$Law", "values", "[I", true)
def tyX1 : Nat → FieldType := fun k => match k with
  | 0 => .array .int
  | 1 => .int
  | 2 => .array .int
  | _ => .array .int
abbrev wsX10 : List Cond := u_ws RX1 TX1 4
theorem nmX1 : ∀ a, a < 4 → ∀ b, b < 4 → a ≠ b → (TX1 a).2.1 ≠ (TX1 b).2.1 := by decide +kernel
theorem tyX1_ok : ∀ k, k < 4 → parseFieldDescriptor (TX1 k).2.2.1 = some (tyX1 k) := by decide +kernel
abbrev cX1_init : ByteArray := prog_3_method_1_code
def yX1_init : MethodName := ⟨RX1, "<init>", "()V"⟩
abbrev cX1_reset : ByteArray := prog_3_method_2_code
def yX1_reset : MethodName := ⟨RX1, "reset", "()V"⟩
abbrev cX1_add : ByteArray := prog_3_method_3_code
def yX1_add : MethodName := ⟨RX1, "add", "(II)I"⟩
abbrev cX1_aim : ByteArray := prog_3_method_4_code
def yX1_aim : MethodName := ⟨RX1, "aim", "(I)V"⟩
abbrev cX1_value : ByteArray := prog_3_method_5_code
def yX1_value : MethodName := ⟨RX1, "value", "(I[I)I"⟩
abbrev cX1_joined : ByteArray := prog_3_method_6_code
def yX1_joined : MethodName := ⟨RX1, "joined", "(III)I"⟩
def RX2 : String := "KerbSplash$LawReader"
def TX2 : u_T := fun k => match k with
  | 0 => ("KerbSplash$LawReader", "tape", "LKerbSplash$Tape;", true)
  | 1 => ("KerbSplash$LawReader", "law", "LKerbSplash$Law;", true)
  | _ => ("KerbSplash$LawReader", "opened", "I", false)
def tyX2 : Nat → FieldType := fun k => match k with
  | 0 => .object "KerbSplash$Tape"
  | 1 => .object "KerbSplash$Law"
  | _ => .int
abbrev wsX20 : List Cond := u_ws RX2 TX2 3
theorem nmX2 : ∀ a, a < 3 → ∀ b, b < 3 → a ≠ b → (TX2 a).2.1 ≠ (TX2 b).2.1 := by decide +kernel
theorem tyX2_ok : ∀ k, k < 3 → parseFieldDescriptor (TX2 k).2.2.1 = some (tyX2 k) := by decide +kernel
abbrev cX2_init : ByteArray := prog_4_method_1_code
def yX2_init : MethodName := ⟨RX2, "<init>", "(LKerbSplash$Tape;LKerbSplash$Law;)V"⟩
abbrev cX2_read : ByteArray := prog_4_method_2_code
def yX2_read : MethodName := ⟨RX2, "read", "()V"⟩
abbrev cX2_readSaying : ByteArray := prog_4_method_3_code
def yX2_readSaying : MethodName := ⟨RX2, "readSaying", "()V"⟩
abbrev cX2_readValue : ByteArray := prog_4_method_4_code
def yX2_readValue : MethodName := ⟨RX2, "readValue", "()V"⟩
abbrev cX2_readChoice : ByteArray := prog_4_method_5_code
def yX2_readChoice : MethodName := ⟨RX2, "readChoice", "()V"⟩
abbrev cX2_readProduct : ByteArray := prog_4_method_6_code
def yX2_readProduct : MethodName := ⟨RX2, "readProduct", "()V"⟩
abbrev cX2_readUnit : ByteArray := prog_4_method_7_code
def yX2_readUnit : MethodName := ⟨RX2, "readUnit", "()V"⟩
abbrev cX2_readCondition : ByteArray := prog_4_method_8_code
def yX2_readCondition : MethodName := ⟨RX2, "readCondition", "()V"⟩
abbrev cX2_readAlternative : ByteArray := prog_4_method_9_code
def yX2_readAlternative : MethodName := ⟨RX2, "readAlternative", "()V"⟩
abbrev cX2_readTest : ByteArray := prog_4_method_10_code
def yX2_readTest : MethodName := ⟨RX2, "readTest", "()V"⟩
abbrev cX2_readComparison : ByteArray := prog_4_method_11_code
def yX2_readComparison : MethodName := ⟨RX2, "readComparison", "()V"⟩
abbrev cX2_open : ByteArray := prog_4_method_12_code
def yX2_open : MethodName := ⟨RX2, "open", "()Z"⟩
def RX3 : String := "KerbSplash$Orders"
def TX3 : u_T := fun k => match k with
  | 0 => ("KerbSplash$Orders", "late", "I", false)
  | 1 => ("KerbSplash$Orders", "least", "I", false)
  | 2 => ("KerbSplash$Orders", "order", "I", false)
  | _ => ("KerbSplash$Orders", "best", "[I", true)
def tyX3 : Nat → FieldType := fun k => match k with
  | 0 => .int
  | 1 => .int
  | 2 => .int
  | _ => .array .int
abbrev wsX30 : List Cond := u_ws RX3 TX3 4
theorem nmX3 : ∀ a, a < 4 → ∀ b, b < 4 → a ≠ b → (TX3 a).2.1 ≠ (TX3 b).2.1 := by decide +kernel
theorem tyX3_ok : ∀ k, k < 4 → parseFieldDescriptor (TX3 k).2.2.1 = some (tyX3 k) := by decide +kernel
abbrev cX3_init : ByteArray := prog_5_method_1_code
def yX3_init : MethodName := ⟨RX3, "<init>", "()V"⟩
abbrev cX3_findFirst : ByteArray := prog_5_method_2_code
def yX3_findFirst : MethodName := ⟨RX3, "findFirst", "(LKerbSplash$Plan;)V"⟩
abbrev cX3_bestNext : ByteArray := prog_5_method_3_code
def yX3_bestNext : MethodName := ⟨RX3, "bestNext", "(LKerbSplash$Plan;I)I"⟩
abbrev cX3_weigh : ByteArray := prog_5_method_4_code
def yX3_weigh : MethodName := ⟨RX3, "weigh", "(LKerbSplash$Plan;II)I"⟩
abbrev cX3_findSweeping : ByteArray := prog_5_method_5_code
def yX3_findSweeping : MethodName := ⟨RX3, "findSweeping", "(LKerbSplash$Street;)V"⟩
abbrev cX3_goOn : ByteArray := prog_5_method_6_code
def yX3_goOn : MethodName := ⟨RX3, "goOn", "(LKerbSplash$Street;IIII)V"⟩
abbrev cX3_steps : ByteArray := prog_5_method_7_code
def yX3_steps : MethodName := ⟨RX3, "steps", "(LKerbSplash$Street;II)I"⟩
abbrev cX3_of : ByteArray := prog_5_method_8_code
def yX3_of : MethodName := ⟨RX3, "of", "(LKerbSplash$Street;II)I"⟩
def RX4 : String := "KerbSplash$Plan"
def TX4 : u_T := fun k => match k with
  | 0 => ("KerbSplash$Plan", "cars", "I", false)
  | 1 => ("KerbSplash$Plan", "traffic", "[I", true)
  | 2 => ("KerbSplash$Plan", "dips", "I", false)
  | 3 => ("KerbSplash$Plan", "dip", "[I", true)
  | _ => ("KerbSplash$Plan", "shares", "[I", true)
def tyX4 : Nat → FieldType := fun k => match k with
  | 0 => .int
  | 1 => .array .int
  | 2 => .int
  | 3 => .array .int
  | _ => .array .int
abbrev wsX40 : List Cond := u_ws RX4 TX4 5
theorem nmX4 : ∀ a, a < 5 → ∀ b, b < 5 → a ≠ b → (TX4 a).2.1 ≠ (TX4 b).2.1 := by decide +kernel
theorem tyX4_ok : ∀ k, k < 5 → parseFieldDescriptor (TX4 k).2.2.1 = some (tyX4 k) := by decide +kernel
abbrev cX4_init : ByteArray := prog_6_method_1_code
def yX4_init : MethodName := ⟨RX4, "<init>", "()V"⟩
abbrev cX4_reset : ByteArray := prog_6_method_2_code
def yX4_reset : MethodName := ⟨RX4, "reset", "()V"⟩
abbrev cX4_become : ByteArray := prog_6_method_3_code
def yX4_become : MethodName := ⟨RX4, "become", "(LKerbSplash$Plan;)V"⟩
abbrev cX4_addCar : ByteArray := prog_6_method_4_code
def yX4_addCar : MethodName := ⟨RX4, "addCar", "(IIIII)I"⟩
abbrev cX4_addDip : ByteArray := prog_6_method_5_code
def yX4_addDip : MethodName := ⟨RX4, "addDip", "(III)I"⟩
def RX5 : String := "KerbSplash$Rain"
def TX5 : u_T := fun k => match k with
  | 0 => ("KerbSplash$Rain", "falls", "[I", true)
  | _ => ("KerbSplash$Rain", "minutes", "I", false)
def tyX5 : Nat → FieldType := fun k => match k with
  | 0 => .array .int
  | _ => .int
abbrev wsX50 : List Cond := u_ws RX5 TX5 2
theorem nmX5 : ∀ a, a < 2 → ∀ b, b < 2 → a ≠ b → (TX5 a).2.1 ≠ (TX5 b).2.1 := by decide +kernel
theorem tyX5_ok : ∀ k, k < 2 → parseFieldDescriptor (TX5 k).2.2.1 = some (tyX5 k) := by decide +kernel
abbrev cX5_init : ByteArray := prog_7_method_1_code
def yX5_init : MethodName := ⟨RX5, "<init>", "()V"⟩
abbrev cX5_read : ByteArray := prog_7_method_2_code
def yX5_read : MethodName := ⟨RX5, "read", "(LKerbSplash$Tape;)V"⟩
abbrev cX5_readPiece : ByteArray := prog_7_method_3_code
def yX5_readPiece : MethodName := ⟨RX5, "readPiece", "(LKerbSplash$Tape;I)V"⟩
abbrev cX5_add : ByteArray := prog_7_method_4_code
def yX5_add : MethodName := ⟨RX5, "add", "(II)V"⟩
def RX6 : String := "KerbSplash$Street"
def TX6 : u_T := fun k => match k with
  | 0 => ("KerbSplash$Street", "wide", "I", false)
  | 1 => ("KerbSplash$Street", "rows", "I", false)
  | 2 => ("KerbSplash$Street", "height", "[I", true)
  | 3 => ("KerbSplash$Street", "water", "[I", true)
  | 4 => ("KerbSplash$Street", "drains", "I", false)
  | 5 => ("KerbSplash$Street", "drainsTold", "I", false)
  | 6 => ("KerbSplash$Street", "drain", "[I", true)
  | 7 => ("KerbSplash$Street", "persons", "I", false)
  | 8 => ("KerbSplash$Street", "person", "[I", true)
  | 9 => ("KerbSplash$Street", "guesses", "I", false)
  | 10 => ("KerbSplash$Street", "shelters", "I", false)
  | 11 => ("KerbSplash$Street", "shelter", "[I", true)
  | 12 => ("KerbSplash$Street", "works", "I", false)
  | 13 => ("KerbSplash$Street", "work", "[I", true)
  | 14 => ("KerbSplash$Street", "done", "I", false)
  | 15 => ("KerbSplash$Street", "minutes", "I", false)
  | 16 => ("KerbSplash$Street", "fallen", "I", false)
  | 17 => ("KerbSplash$Street", "taken", "I", false)
  | _ => ("KerbSplash$Street", "gone", "I", false)
def tyX6 : Nat → FieldType := fun k => match k with
  | 0 => .int
  | 1 => .int
  | 2 => .array .int
  | 3 => .array .int
  | 4 => .int
  | 5 => .int
  | 6 => .array .int
  | 7 => .int
  | 8 => .array .int
  | 9 => .int
  | 10 => .int
  | 11 => .array .int
  | 12 => .int
  | 13 => .array .int
  | 14 => .int
  | 15 => .int
  | 16 => .int
  | 17 => .int
  | _ => .int
abbrev wsX60 : List Cond := u_ws RX6 TX6 19
theorem nmX6 : ∀ a, a < 19 → ∀ b, b < 19 → a ≠ b → (TX6 a).2.1 ≠ (TX6 b).2.1 := by decide +kernel
theorem tyX6_ok : ∀ k, k < 19 → parseFieldDescriptor (TX6 k).2.2.1 = some (tyX6 k) := by decide +kernel
abbrev cX6_init : ByteArray := prog_8_method_1_code
def yX6_init : MethodName := ⟨RX6, "<init>", "()V"⟩
abbrev cX6_reset : ByteArray := prog_8_method_2_code
def yX6_reset : MethodName := ⟨RX6, "reset", "()V"⟩
abbrev cX6_become : ByteArray := prog_8_method_3_code
def yX6_become : MethodName := ⟨RX6, "become", "(LKerbSplash$Street;)V"⟩
abbrev cX6_isTold : ByteArray := prog_8_method_4_code
def yX6_isTold : MethodName := ⟨RX6, "isTold", "()Z"⟩
abbrev cX6_hasTime : ByteArray := prog_8_method_5_code
def yX6_hasTime : MethodName := ⟨RX6, "hasTime", "()Z"⟩
abbrev cX6_cells : ByteArray := prog_8_method_6_code
def yX6_cells : MethodName := ⟨RX6, "cells", "()I"⟩
abbrev cX6_has : ByteArray := prog_8_method_7_code
def yX6_has : MethodName := ⟨RX6, "has", "(II)Z"⟩
abbrev cX6_index : ByteArray := prog_8_method_8_code
def yX6_index : MethodName := ⟨RX6, "index", "(II)I"⟩
abbrev cX6_surface : ByteArray := prog_8_method_9_code
def yX6_surface : MethodName := ⟨RX6, "surface", "(I)I"⟩
abbrev cX6_standing : ByteArray := prog_8_method_10_code
def yX6_standing : MethodName := ⟨RX6, "standing", "()I"⟩
abbrev cX6_addDrain : ByteArray := prog_8_method_11_code
def yX6_addDrain : MethodName := ⟨RX6, "addDrain", "(IIII)V"⟩
abbrev cX6_addPerson : ByteArray := prog_8_method_12_code
def yX6_addPerson : MethodName := ⟨RX6, "addPerson", "(II)V"⟩
abbrev cX6_putPerson : ByteArray := prog_8_method_13_code
def yX6_putPerson : MethodName := ⟨RX6, "putPerson", "(III)V"⟩
abbrev cX6_guessPerson : ByteArray := prog_8_method_14_code
def yX6_guessPerson : MethodName := ⟨RX6, "guessPerson", "(II)V"⟩
abbrev cX6_addShelter : ByteArray := prog_8_method_15_code
def yX6_addShelter : MethodName := ⟨RX6, "addShelter", "(II)V"⟩
abbrev cX6_addWork : ByteArray := prog_8_method_16_code
def yX6_addWork : MethodName := ⟨RX6, "addWork", "(IIIII)V"⟩
abbrev cX6_coinOf : ByteArray := prog_8_method_17_code
def yX6_coinOf : MethodName := ⟨RX6, "coinOf", "(I)I"⟩
abbrev cX6_doWork : ByteArray := prog_8_method_18_code
def yX6_doWork : MethodName := ⟨RX6, "doWork", "(I)Z"⟩
abbrev cX6_changeHeight : ByteArray := prog_8_method_19_code
def yX6_changeHeight : MethodName := ⟨RX6, "changeHeight", "(II)V"⟩
abbrev cX6_doWorks : ByteArray := prog_8_method_20_code
def yX6_doWorks : MethodName := ⟨RX6, "doWorks", "(I)V"⟩
abbrev cX6_passMinutes : ByteArray := prog_8_method_21_code
def yX6_passMinutes : MethodName := ⟨RX6, "passMinutes", "(II)I"⟩
abbrev cX6_passRain : ByteArray := prog_8_method_22_code
def yX6_passRain : MethodName := ⟨RX6, "passRain", "(LKerbSplash$Rain;)I"⟩
abbrev cX6_passMinute : ByteArray := prog_8_method_23_code
def yX6_passMinute : MethodName := ⟨RX6, "passMinute", "(I)V"⟩
abbrev cX6_takeByDrain : ByteArray := prog_8_method_24_code
def yX6_takeByDrain : MethodName := ⟨RX6, "takeByDrain", "(I)V"⟩
abbrev cX6_runRounds : ByteArray := prog_8_method_25_code
def yX6_runRounds : MethodName := ⟨RX6, "runRounds", "(I)V"⟩
abbrev cX6_runRound : ByteArray := prog_8_method_26_code
def yX6_runRound : MethodName := ⟨RX6, "runRound", "()Z"⟩
abbrev cX6_runFrom : ByteArray := prog_8_method_27_code
def yX6_runFrom : MethodName := ⟨RX6, "runFrom", "(III)Z"⟩
abbrev cX6_throwFrom : ByteArray := prog_8_method_28_code
def yX6_throwFrom : MethodName := ⟨RX6, "throwFrom", "(III)V"⟩
abbrev cX6_peopleAt : ByteArray := prog_8_method_29_code
def yX6_peopleAt : MethodName := ⟨RX6, "peopleAt", "(I)I"⟩
abbrev cX6_isSheltered : ByteArray := prog_8_method_30_code
def yX6_isSheltered : MethodName := ⟨RX6, "isSheltered", "(I)Z"⟩
abbrev cX6_canStep : ByteArray := prog_8_method_31_code
def yX6_canStep : MethodName := ⟨RX6, "canStep", "(I)Z"⟩
abbrev cX6_stepAll : ByteArray := prog_8_method_32_code
def yX6_stepAll : MethodName := ⟨RX6, "stepAll", "(I)V"⟩
abbrev cX6_iceCells : ByteArray := prog_8_method_33_code
def yX6_iceCells : MethodName := ⟨RX6, "iceCells", "(I)I"⟩
abbrev cX6_longestIce : ByteArray := prog_8_method_34_code
def yX6_longestIce : MethodName := ⟨RX6, "longestIce", "(I)I"⟩
abbrev cX6_personsOnIce : ByteArray := prog_8_method_35_code
def yX6_personsOnIce : MethodName := ⟨RX6, "personsOnIce", "(I)I"⟩
def RX7 : String := "KerbSplash$StreetReader"
def TX7 : u_T := fun k => match k with
  | 0 => ("KerbSplash$StreetReader", "tape", "LKerbSplash$Tape;", true)
  | _ => ("KerbSplash$StreetReader", "street", "LKerbSplash$Street;", true)
def tyX7 : Nat → FieldType := fun k => match k with
  | 0 => .object "KerbSplash$Tape"
  | _ => .object "KerbSplash$Street"
abbrev wsX70 : List Cond := u_ws RX7 TX7 2
theorem nmX7 : ∀ a, a < 2 → ∀ b, b < 2 → a ≠ b → (TX7 a).2.1 ≠ (TX7 b).2.1 := by decide +kernel
theorem tyX7_ok : ∀ k, k < 2 → parseFieldDescriptor (TX7 k).2.2.1 = some (tyX7 k) := by decide +kernel
abbrev cX7_init : ByteArray := prog_9_method_1_code
def yX7_init : MethodName := ⟨RX7, "<init>", "(LKerbSplash$Tape;LKerbSplash$Street;)V"⟩
abbrev cX7_read : ByteArray := prog_9_method_2_code
def yX7_read : MethodName := ⟨RX7, "read", "()V"⟩
abbrev cX7_readClause : ByteArray := prog_9_method_3_code
def yX7_readClause : MethodName := ⟨RX7, "readClause", "(I)V"⟩
abbrev cX7_isFull : ByteArray := prog_9_method_4_code
def yX7_isFull : MethodName := ⟨RX7, "isFull", "(LKerbSplash$Word;)Z"⟩
abbrev cX7_readNumbers : ByteArray := prog_9_method_5_code
def yX7_readNumbers : MethodName := ⟨RX7, "readNumbers", "(LKerbSplash$Word;)V"⟩
abbrev cX7_readSize : ByteArray := prog_9_method_6_code
def yX7_readSize : MethodName := ⟨RX7, "readSize", "()V"⟩
abbrev cX7_readPerson : ByteArray := prog_9_method_7_code
def yX7_readPerson : MethodName := ⟨RX7, "readPerson", "()V"⟩
abbrev cX7_readShelter : ByteArray := prog_9_method_8_code
def yX7_readShelter : MethodName := ⟨RX7, "readShelter", "()V"⟩
abbrev cX7_readOfCell : ByteArray := prog_9_method_9_code
def yX7_readOfCell : MethodName := ⟨RX7, "readOfCell", "(LKerbSplash$Word;)V"⟩
abbrev cX7_readWork : ByteArray := prog_9_method_10_code
def yX7_readWork : MethodName := ⟨RX7, "readWork", "(I)V"⟩
def RX8 : String := "KerbSplash$Tape"
def TX8 : u_T := fun k => match k with
  | 0 => ("KerbSplash$Tape", "bytes", "[B", true)
  | 1 => ("KerbSplash$Tape", "fed", "I", false)
  | 2 => ("KerbSplash$Tape", "length", "I", false)
  | 3 => ("KerbSplash$Tape", "at", "I", false)
  | 4 => ("KerbSplash$Tape", "wordEnd", "I", false)
  | 5 => ("KerbSplash$Tape", "fault", "I", false)
  | _ => ("KerbSplash$Tape", "faultAt", "I", false)
def tyX8 : Nat → FieldType := fun k => match k with
  | 0 => .array .byte
  | 1 => .int
  | 2 => .int
  | 3 => .int
  | 4 => .int
  | 5 => .int
  | _ => .int
abbrev wsX80 : List Cond := u_ws RX8 TX8 7
theorem nmX8 : ∀ a, a < 7 → ∀ b, b < 7 → a ≠ b → (TX8 a).2.1 ≠ (TX8 b).2.1 := by decide +kernel
theorem tyX8_ok : ∀ k, k < 7 → parseFieldDescriptor (TX8 k).2.2.1 = some (tyX8 k) := by decide +kernel
abbrev cX8_init : ByteArray := prog_10_method_1_code
def yX8_init : MethodName := ⟨RX8, "<init>", "()V"⟩
abbrev cX8_hasRoom : ByteArray := prog_10_method_2_code
def yX8_hasRoom : MethodName := ⟨RX8, "hasRoom", "()Z"⟩
abbrev cX8_add : ByteArray := prog_10_method_3_code
def yX8_add : MethodName := ⟨RX8, "add", "(I)V"⟩
abbrev cX8_begin : ByteArray := prog_10_method_4_code
def yX8_begin : MethodName := ⟨RX8, "begin", "(I)V"⟩
abbrev cX8_good : ByteArray := prog_10_method_5_code
def yX8_good : MethodName := ⟨RX8, "good", "()Z"⟩
abbrev cX8_refuse : ByteArray := prog_10_method_6_code
def yX8_refuse : MethodName := ⟨RX8, "refuse", "(I)V"⟩
abbrev cX8_sign : ByteArray := prog_10_method_7_code
def yX8_sign : MethodName := ⟨RX8, "sign", "()I"⟩
abbrev cX8_hasMore : ByteArray := prog_10_method_8_code
def yX8_hasMore : MethodName := ⟨RX8, "hasMore", "()Z"⟩
abbrev cX8_take : ByteArray := prog_10_method_9_code
def yX8_take : MethodName := ⟨RX8, "take", "(C)Z"⟩
abbrev cX8_want : ByteArray := prog_10_method_10_code
def yX8_want : MethodName := ⟨RX8, "want", "(C)V"⟩
abbrev cX8_word : ByteArray := prog_10_method_11_code
def yX8_word : MethodName := ⟨RX8, "word", "()LKerbSplash$Word;"⟩
abbrev cX8_takeWord : ByteArray := prog_10_method_12_code
def yX8_takeWord : MethodName := ⟨RX8, "takeWord", "(LKerbSplash$Word;)Z"⟩
abbrev cX8_wantWord : ByteArray := prog_10_method_13_code
def yX8_wantWord : MethodName := ⟨RX8, "wantWord", "(LKerbSplash$Word;)V"⟩
abbrev cX8_number : ByteArray := prog_10_method_14_code
def yX8_number : MethodName := ⟨RX8, "number", "(II)I"⟩
abbrev cX8_isDigit : ByteArray := prog_10_method_15_code
def yX8_isDigit : MethodName := ⟨RX8, "isDigit", "(I)Z"⟩
def RX9 : String := "KerbSplash$WhatIf"
def TX9 : u_T := fun k => match k with
  | 0 => ("KerbSplash$WhatIf", "trial", "LKerbSplash$Street;", true)
  | 1 => ("KerbSplash$WhatIf", "car", "LKerbSplash$Car;", true)
  | 2 => ("KerbSplash$WhatIf", "seen", "[I", true)
  | 3 => ("KerbSplash$WhatIf", "found", "I", false)
  | _ => ("KerbSplash$WhatIf", "worth", "I", false)
def tyX9 : Nat → FieldType := fun k => match k with
  | 0 => .object "KerbSplash$Street"
  | 1 => .object "KerbSplash$Car"
  | 2 => .array .int
  | 3 => .int
  | _ => .int
abbrev wsX90 : List Cond := u_ws RX9 TX9 5
theorem nmX9 : ∀ a, a < 5 → ∀ b, b < 5 → a ≠ b → (TX9 a).2.1 ≠ (TX9 b).2.1 := by decide +kernel
theorem tyX9_ok : ∀ k, k < 5 → parseFieldDescriptor (TX9 k).2.2.1 = some (tyX9 k) := by decide +kernel
abbrev cX9_init : ByteArray := prog_11_method_1_code
def yX9_init : MethodName := ⟨RX9, "<init>", "()V"⟩
abbrev cX9_answer : ByteArray := prog_11_method_2_code
def yX9_answer : MethodName := ⟨RX9, "answer", "(I)I"⟩
abbrev cX9_depthBehind : ByteArray := prog_11_method_3_code
def yX9_depthBehind : MethodName := ⟨RX9, "depthBehind", "(LKerbSplash$Street;LKerbSplash$Rain;I)I"⟩
abbrev cX9_minuteOf : ByteArray := prog_11_method_4_code
def yX9_minuteOf : MethodName := ⟨RX9, "minuteOf", "(LKerbSplash$Street;LKerbSplash$Rain;II)I"⟩
abbrev cX9_findBlame : ByteArray := prog_11_method_5_code
def yX9_findBlame : MethodName := ⟨RX9, "findBlame", "(LKerbSplash$Street;LKerbSplash$Rain;I)V"⟩
abbrev cX9_findLook : ByteArray := prog_11_method_6_code
def yX9_findLook : MethodName := ⟨RX9, "findLook", "(LKerbSplash$Street;LKerbSplash$Rain;)V"⟩
abbrev cX9_kindsAt : ByteArray := prog_11_method_7_code
def yX9_kindsAt : MethodName := ⟨RX9, "kindsAt", "(III)I"⟩
abbrev cX9_passTraffic : ByteArray := prog_11_method_8_code
def yX9_passTraffic : MethodName := ⟨RX9, "passTraffic", "(LKerbSplash$Street;LKerbSplash$Plan;LKerbSplash$Law;)I"⟩
abbrev cX9_findStand : ByteArray := prog_11_method_9_code
def yX9_findStand : MethodName := ⟨RX9, "findStand", "(LKerbSplash$Street;LKerbSplash$Plan;LKerbSplash$Law;I)V"⟩
abbrev cX9_greatestPace : ByteArray := prog_11_method_10_code
def yX9_greatestPace : MethodName := ⟨RX9, "greatestPace", "(LKerbSplash$Street;LKerbSplash$Law;III)I"⟩
abbrev cX9_findStep : ByteArray := prog_11_method_11_code
def yX9_findStep : MethodName := ⟨RX9, "findStep", "(LKerbSplash$Street;LKerbSplash$Plan;LKerbSplash$Law;)V"⟩
abbrev cX9_findMend : ByteArray := prog_11_method_12_code
def yX9_findMend : MethodName := ⟨RX9, "findMend", "(LKerbSplash$Street;LKerbSplash$Rain;II)V"⟩
abbrev cX9_nextRank : ByteArray := prog_11_method_13_code
def yX9_nextRank : MethodName := ⟨RX9, "nextRank", "(LKerbSplash$Street;I)I"⟩
abbrev cX9_shareMeant : ByteArray := prog_11_method_14_code
def yX9_shareMeant : MethodName := ⟨RX9, "shareMeant", "(LKerbSplash$Street;LKerbSplash$Plan;LKerbSplash$Law;III)I"⟩
def RX10 : String := "KerbSplash$Word"
def TX10 : u_T := fun k => match k with
  | _ => ("", "", "", false)
abbrev wsX100 : List Cond := u_ws RX10 TX10 0
abbrev cX10_of : ByteArray := prog_12_method_4_code
def yX10_of : MethodName := ⟨RX10, "of", "([BII)LKerbSplash$Word;"⟩
abbrev cX10_beginsClause : ByteArray := prog_12_method_5_code
def yX10_beginsClause : MethodName := ⟨RX10, "beginsClause", "()Z"⟩
def RX11 : String := "KerbSplash"
def TX11 : u_T := fun k => match k with
  | 0 => ("KerbSplash", "tape", "LKerbSplash$Tape;", true)
  | 1 => ("KerbSplash", "rains", "[LKerbSplash$Rain;", true)
  | 2 => ("KerbSplash", "laws", "[LKerbSplash$Law;", true)
  | 3 => ("KerbSplash", "rainsTold", "I", false)
  | 4 => ("KerbSplash", "lawsTold", "I", false)
  | 5 => ("KerbSplash", "now", "LKerbSplash$Street;", false)
  | 6 => ("KerbSplash", "draft", "LKerbSplash$Street;", false)
  | 7 => ("KerbSplash", "plan", "LKerbSplash$Plan;", true)
  | 8 => ("KerbSplash", "streetImages", "[LKerbSplash$Street;", true)
  | 9 => ("KerbSplash", "planImages", "[LKerbSplash$Plan;", true)
  | 10 => ("KerbSplash", "images", "I", false)
  | 11 => ("KerbSplash", "whatIf", "LKerbSplash$WhatIf;", true)
  | 12 => ("KerbSplash", "orders", "LKerbSplash$Orders;", true)
  | _ => ("KerbSplash", "refused", "[I", true)
def tyX11 : Nat → FieldType := fun k => match k with
  | 0 => .object "KerbSplash$Tape"
  | 1 => .array (.object "KerbSplash$Rain")
  | 2 => .array (.object "KerbSplash$Law")
  | 3 => .int
  | 4 => .int
  | 5 => .object "KerbSplash$Street"
  | 6 => .object "KerbSplash$Street"
  | 7 => .object "KerbSplash$Plan"
  | 8 => .array (.object "KerbSplash$Street")
  | 9 => .array (.object "KerbSplash$Plan")
  | 10 => .int
  | 11 => .object "KerbSplash$WhatIf"
  | 12 => .object "KerbSplash$Orders"
  | _ => .array .int
abbrev wsX110 : List Cond := u_ws RX11 TX11 14
theorem nmX11 : ∀ a, a < 14 → ∀ b, b < 14 → a ≠ b → (TX11 a).2.1 ≠ (TX11 b).2.1 := by decide +kernel
theorem tyX11_ok : ∀ k, k < 14 → parseFieldDescriptor (TX11 k).2.2.1 = some (tyX11 k) := by decide +kernel
abbrev cX11_init : ByteArray := prog_1_method_1_code
def yX11_init : MethodName := ⟨RX11, "<init>", "()V"⟩
abbrev cX11_feed : ByteArray := prog_1_method_2_code
def yX11_feed : MethodName := ⟨RX11, "feed", "(IIIII)I"⟩
abbrev cX11_street : ByteArray := prog_1_method_3_code
def yX11_street : MethodName := ⟨RX11, "street", "(I)I"⟩
abbrev cX11_rain : ByteArray := prog_1_method_4_code
def yX11_rain : MethodName := ⟨RX11, "rain", "(I)I"⟩
abbrev cX11_law : ByteArray := prog_1_method_5_code
def yX11_law : MethodName := ⟨RX11, "law", "(I)I"⟩
abbrev cX11_fault : ByteArray := prog_1_method_6_code
def yX11_fault : MethodName := ⟨RX11, "fault", "()I"⟩
abbrev cX11_told : ByteArray := prog_1_method_7_code
def yX11_told : MethodName := ⟨RX11, "told", "(I)I"⟩
abbrev cX11_cell : ByteArray := prog_1_method_8_code
def yX11_cell : MethodName := ⟨RX11, "cell", "(III)I"⟩
abbrev cX11_drain : ByteArray := prog_1_method_9_code
def yX11_drain : MethodName := ⟨RX11, "drain", "(II)I"⟩
abbrev cX11_leaves : ByteArray := prog_1_method_10_code
def yX11_leaves : MethodName := ⟨RX11, "leaves", "(II)I"⟩
abbrev cX11_person : ByteArray := prog_1_method_11_code
def yX11_person : MethodName := ⟨RX11, "person", "(II)I"⟩
abbrev cX11_work : ByteArray := prog_1_method_12_code
def yX11_work : MethodName := ⟨RX11, "work", "(II)I"⟩
abbrev cX11_does : ByteArray := prog_1_method_13_code
def yX11_does : MethodName := ⟨RX11, "does", "(I)I"⟩
abbrev cX11_minutes : ByteArray := prog_1_method_14_code
def yX11_minutes : MethodName := ⟨RX11, "minutes", "(II)I"⟩
abbrev cX11_shower : ByteArray := prog_1_method_15_code
def yX11_shower : MethodName := ⟨RX11, "shower", "(I)I"⟩
abbrev cX11_sums : ByteArray := prog_1_method_16_code
def yX11_sums : MethodName := ⟨RX11, "sums", "(I)I"⟩
abbrev cX11_says : ByteArray := prog_1_method_17_code
def yX11_says : MethodName := ⟨RX11, "says", "(IIIIIIIII)I"⟩
abbrev cX11_car : ByteArray := prog_1_method_18_code
def yX11_car : MethodName := ⟨RX11, "car", "(IIIII)I"⟩
abbrev cX11_traffic : ByteArray := prog_1_method_19_code
def yX11_traffic : MethodName := ⟨RX11, "traffic", "(IIIII)I"⟩
abbrev cX11_pass : ByteArray := prog_1_method_20_code
def yX11_pass : MethodName := ⟨RX11, "pass", "(I)I"⟩
abbrev cX11_clear : ByteArray := prog_1_method_21_code
def yX11_clear : MethodName := ⟨RX11, "clear", "()I"⟩
abbrev cX11_deep : ByteArray := prog_1_method_22_code
def yX11_deep : MethodName := ⟨RX11, "deep", "(III)I"⟩
abbrev cX11_when : ByteArray := prog_1_method_23_code
def yX11_when : MethodName := ⟨RX11, "when", "(IIII)I"⟩
abbrev cX11_blame : ByteArray := prog_1_method_24_code
def yX11_blame : MethodName := ⟨RX11, "blame", "(IIII)I"⟩
abbrev cX11_look : ByteArray := prog_1_method_25_code
def yX11_look : MethodName := ⟨RX11, "look", "(II)I"⟩
abbrev cX11_stand : ByteArray := prog_1_method_26_code
def yX11_stand : MethodName := ⟨RX11, "stand", "(III)I"⟩
abbrev cX11_pace : ByteArray := prog_1_method_27_code
def yX11_pace : MethodName := ⟨RX11, "pace", "(IIII)I"⟩
abbrev cX11_moved : ByteArray := prog_1_method_28_code
def yX11_moved : MethodName := ⟨RX11, "moved", "(II)I"⟩
abbrev cX11_mend : ByteArray := prog_1_method_29_code
def yX11_mend : MethodName := ⟨RX11, "mend", "(IIIII)I"⟩
abbrev cX11_share : ByteArray := prog_1_method_30_code
def yX11_share : MethodName := ⟨RX11, "share", "(II)I"⟩
abbrev cX11_meant : ByteArray := prog_1_method_31_code
def yX11_meant : MethodName := ⟨RX11, "meant", "(IIIIIII)I"⟩
abbrev cX11_dip : ByteArray := prog_1_method_32_code
def yX11_dip : MethodName := ⟨RX11, "dip", "(III)I"⟩
abbrev cX11_town : ByteArray := prog_1_method_33_code
def yX11_town : MethodName := ⟨RX11, "town", "(I)I"⟩
abbrev cX11_sweep : ByteArray := prog_1_method_34_code
def yX11_sweep : MethodName := ⟨RX11, "sweep", "(I)I"⟩
abbrev cX11_ice : ByteArray := prog_1_method_35_code
def yX11_ice : MethodName := ⟨RX11, "ice", "(II)I"⟩
abbrev cX11_image : ByteArray := prog_1_method_36_code
def yX11_image : MethodName := ⟨RX11, "image", "()I"⟩
abbrev cX11_restore : ByteArray := prog_1_method_37_code
def yX11_restore : MethodName := ⟨RX11, "restore", "()I"⟩
abbrev cX11_status : ByteArray := prog_1_method_38_code
def yX11_status : MethodName := ⟨RX11, "status", "(I)I"⟩
abbrev cX11_count : ByteArray := prog_1_method_39_code
def yX11_count : MethodName := ⟨RX11, "count", "(I)I"⟩
abbrev cX11_beginText : ByteArray := prog_1_method_40_code
def yX11_beginText : MethodName := ⟨RX11, "beginText", "(I)V"⟩
abbrev cX11_needCell : ByteArray := prog_1_method_41_code
def yX11_needCell : MethodName := ⟨RX11, "needCell", "(II)V"⟩
abbrev cX11_needRain : ByteArray := prog_1_method_42_code
def yX11_needRain : MethodName := ⟨RX11, "needRain", "(I)V"⟩
abbrev cX11_needLaw : ByteArray := prog_1_method_43_code
def yX11_needLaw : MethodName := ⟨RX11, "needLaw", "(I)V"⟩
abbrev cX11_needElement : ByteArray := prog_1_method_44_code
def yX11_needElement : MethodName := ⟨RX11, "needElement", "(Z)V"⟩
abbrev cX11_needArgument : ByteArray := prog_1_method_45_code
def yX11_needArgument : MethodName := ⟨RX11, "needArgument", "(Z)V"⟩
abbrev cX11_needState : ByteArray := prog_1_method_46_code
def yX11_needState : MethodName := ⟨RX11, "needState", "(Z)V"⟩
abbrev cX11_isCar : ByteArray := prog_1_method_47_code
def yX11_isCar : MethodName := ⟨RX11, "isCar", "(IIII)Z"⟩
abbrev cX11_isWithin : ByteArray := prog_1_method_48_code
def yX11_isWithin : MethodName := ⟨RX11, "isWithin", "(III)Z"⟩
abbrev cX11_held : ByteArray := prog_1_method_49_code
def yX11_held : MethodName := ⟨RX11, "held", "(JII)I"⟩
def RX12 : String := "KerbSplashModel"
def TX12 : u_T := fun k => match k with
  | 0 => ("KerbSplashModel", "thrown", "I", false)
  | 1 => ("KerbSplashModel", "refused", "[I", true)
  | 2 => ("KerbSplashModel", "taped", "I", false)
  | 3 => ("KerbSplashModel", "size", "I", false)
  | 4 => ("KerbSplashModel", "at", "I", false)
  | 5 => ("KerbSplashModel", "bad", "I", false)
  | 6 => ("KerbSplashModel", "badKind", "I", false)
  | 7 => ("KerbSplashModel", "opens", "I", false)
  | 8 => ("KerbSplashModel", "faultAt", "I", false)
  | 9 => ("KerbSplashModel", "tape", "[I", true)
  | 10 => ("KerbSplashModel", "b", "[I", true)
  | 11 => ("KerbSplashModel", "newStreet", "[I", true)
  | 12 => ("KerbSplashModel", "s", "[I", true)
  | 13 => ("KerbSplashModel", "newState", "[I", true)
  | 14 => ("KerbSplashModel", "kept", "[I", true)
  | 15 => ("KerbSplashModel", "image", "[I", true)
  | 16 => ("KerbSplashModel", "images", "I", false)
  | 17 => ("KerbSplashModel", "rains", "I", false)
  | 18 => ("KerbSplashModel", "laws", "I", false)
  | 19 => ("KerbSplashModel", "falls", "[I", true)
  | 20 => ("KerbSplashModel", "rainMany", "[I", true)
  | 21 => ("KerbSplashModel", "rainTimes", "[I", true)
  | 22 => ("KerbSplashModel", "steps", "I", false)
  | 23 => ("KerbSplashModel", "step", "[I", true)
  | 24 => ("KerbSplashModel", "stepValue", "[I", true)
  | 25 => ("KerbSplashModel", "lawFrom", "[I", true)
  | 26 => ("KerbSplashModel", "lawTo", "[I", true)
  | 27 => ("KerbSplashModel", "stack", "[I", true)
  | 28 => ("KerbSplashModel", "names", "[I", true)
  | 29 => ("KerbSplashModel", "watch", "I", false)
  | 30 => ("KerbSplashModel", "watchCell", "I", false)
  | 31 => ("KerbSplashModel", "itsRow", "I", false)
  | 32 => ("KerbSplashModel", "itsPace", "I", false)
  | 33 => ("KerbSplashModel", "cases", "[I", true)
  | 34 => ("KerbSplashModel", "shut", "I", false)
  | 35 => ("KerbSplashModel", "rest", "[I", true)
  | 36 => ("KerbSplashModel", "sweepFar", "I", false)
  | _ => ("KerbSplashModel", "sweepRow", "I", false)
def tyX12 : Nat → FieldType := fun k => match k with
  | 0 => .int
  | 1 => .array .int
  | 2 => .int
  | 3 => .int
  | 4 => .int
  | 5 => .int
  | 6 => .int
  | 7 => .int
  | 8 => .int
  | 9 => .array .int
  | 10 => .array .int
  | 11 => .array .int
  | 12 => .array .int
  | 13 => .array .int
  | 14 => .array .int
  | 15 => .array .int
  | 16 => .int
  | 17 => .int
  | 18 => .int
  | 19 => .array .int
  | 20 => .array .int
  | 21 => .array .int
  | 22 => .int
  | 23 => .array .int
  | 24 => .array .int
  | 25 => .array .int
  | 26 => .array .int
  | 27 => .array .int
  | 28 => .array .int
  | 29 => .int
  | 30 => .int
  | 31 => .int
  | 32 => .int
  | 33 => .array .int
  | 34 => .int
  | 35 => .array .int
  | 36 => .int
  | _ => .int
abbrev wsX120 : List Cond := u_ws RX12 TX12 38
theorem nmX12 : ∀ a, a < 38 → ∀ b, b < 38 → a ≠ b → (TX12 a).2.1 ≠ (TX12 b).2.1 := by decide +kernel
theorem tyX12_ok : ∀ k, k < 38 → parseFieldDescriptor (TX12 k).2.2.1 = some (tyX12 k) := by decide +kernel
abbrev cX12_may : ByteArray := prog_14_method_2_code
def yX12_may : MethodName := ⟨RX12, "may", "(ZII)Z"⟩
abbrev cX12_within : ByteArray := prog_14_method_3_code
def yX12_within : MethodName := ⟨RX12, "within", "(III)Z"⟩
abbrev cX12_init : ByteArray := prog_14_method_4_code
def yX12_init : MethodName := ⟨RX12, "<init>", "()V"⟩
abbrev cX12_feed : ByteArray := prog_14_method_5_code
def yX12_feed : MethodName := ⟨RX12, "feed", "(IIIII)I"⟩
abbrev cX12_fine : ByteArray := prog_14_method_6_code
def yX12_fine : MethodName := ⟨RX12, "fine", "()Z"⟩
abbrev cX12_wrong : ByteArray := prog_14_method_7_code
def yX12_wrong : MethodName := ⟨RX12, "wrong", "(II)V"⟩
abbrev cX12_here : ByteArray := prog_14_method_8_code
def yX12_here : MethodName := ⟨RX12, "here", "()I"⟩
abbrev cX12_isSmall : ByteArray := prog_14_method_9_code
def yX12_isSmall : MethodName := ⟨RX12, "isSmall", "(I)Z"⟩
abbrev cX12_isDigit : ByteArray := prog_14_method_10_code
def yX12_isDigit : MethodName := ⟨RX12, "isDigit", "(I)Z"⟩
abbrev cX12_word : ByteArray := prog_14_method_11_code
def yX12_word : MethodName := ⟨RX12, "word", "()I"⟩
abbrev cX12_of : ByteArray := prog_14_method_12_code
def yX12_of : MethodName := ⟨RX12, "of", "(Ljava/lang/String;)I"⟩
abbrev cX12_pass : ByteArray := prog_14_method_13_code
def yX12_pass : MethodName := ⟨RX12, "pass", "()V"⟩
abbrev cX12_readNumber : ByteArray := prog_14_method_14_code
def yX12_readNumber : MethodName := ⟨RX12, "readNumber", "(II)I"⟩
abbrev cX12_sign : ByteArray := prog_14_method_15_code
def yX12_sign : MethodName := ⟨RX12, "sign", "(I)V"⟩
abbrev cX12_isMore : ByteArray := prog_14_method_16_code
def yX12_isMore : MethodName := ⟨RX12, "isMore", "()Z"⟩
abbrev cX12_begins : ByteArray := prog_14_method_17_code
def yX12_begins : MethodName := ⟨RX12, "begins", "(I)V"⟩
abbrev cX12_result : ByteArray := prog_14_method_18_code
def yX12_result : MethodName := ⟨RX12, "result", "(I)I"⟩
abbrev cX12_fault : ByteArray := prog_14_method_19_code
def yX12_fault : MethodName := ⟨RX12, "fault", "()I"⟩
abbrev cX12_readX : ByteArray := prog_14_method_20_code
def yX12_readX : MethodName := ⟨RX12, "readX", "()I"⟩
abbrev cX12_readY : ByteArray := prog_14_method_21_code
def yX12_readY : MethodName := ⟨RX12, "readY", "()I"⟩
abbrev cX12_readDrain : ByteArray := prog_14_method_22_code
def yX12_readDrain : MethodName := ⟨RX12, "readDrain", "()V"⟩
abbrev cX12_readPerson : ByteArray := prog_14_method_23_code
def yX12_readPerson : MethodName := ⟨RX12, "readPerson", "()V"⟩
abbrev cX12_readShelter : ByteArray := prog_14_method_24_code
def yX12_readShelter : MethodName := ⟨RX12, "readShelter", "()V"⟩
abbrev cX12_readWork : ByteArray := prog_14_method_25_code
def yX12_readWork : MethodName := ⟨RX12, "readWork", "(I)V"⟩
abbrev cX12_workOf : ByteArray := prog_14_method_26_code
def yX12_workOf : MethodName := ⟨RX12, "workOf", "(I)I"⟩
abbrev cX12_isWord : ByteArray := prog_14_method_27_code
def yX12_isWord : MethodName := ⟨RX12, "isWord", "(Ljava/lang/String;)Z"⟩
abbrev cX12_readClause : ByteArray := prog_14_method_28_code
def yX12_readClause : MethodName := ⟨RX12, "readClause", "(Z)V"⟩
abbrev cX12_street : ByteArray := prog_14_method_29_code
def yX12_street : MethodName := ⟨RX12, "street", "(I)I"⟩
abbrev cX12_rain : ByteArray := prog_14_method_30_code
def yX12_rain : MethodName := ⟨RX12, "rain", "(I)I"⟩
abbrev cX12_emit : ByteArray := prog_14_method_31_code
def yX12_emit : MethodName := ⟨RX12, "emit", "(II)V"⟩
abbrev cX12_opensOne : ByteArray := prog_14_method_32_code
def yX12_opensOne : MethodName := ⟨RX12, "opensOne", "(I)V"⟩
abbrev cX12_nameHere : ByteArray := prog_14_method_33_code
def yX12_nameHere : MethodName := ⟨RX12, "nameHere", "()I"⟩
abbrev cX12_unit : ByteArray := prog_14_method_34_code
def yX12_unit : MethodName := ⟨RX12, "unit", "()V"⟩
abbrev cX12_product : ByteArray := prog_14_method_35_code
def yX12_product : MethodName := ⟨RX12, "product", "()V"⟩
abbrev cX12_keyword : ByteArray := prog_14_method_36_code
def yX12_keyword : MethodName := ⟨RX12, "keyword", "(I)V"⟩
abbrev cX12_whole : ByteArray := prog_14_method_37_code
def yX12_whole : MethodName := ⟨RX12, "whole", "()V"⟩
abbrev cX12_oneOf : ByteArray := prog_14_method_38_code
def yX12_oneOf : MethodName := ⟨RX12, "oneOf", "()V"⟩
abbrev cX12_allOf : ByteArray := prog_14_method_39_code
def yX12_allOf : MethodName := ⟨RX12, "allOf", "()V"⟩
abbrev cX12_anyOf : ByteArray := prog_14_method_40_code
def yX12_anyOf : MethodName := ⟨RX12, "anyOf", "()V"⟩
abbrev cX12_law : ByteArray := prog_14_method_41_code
def yX12_law : MethodName := ⟨RX12, "law", "(I)I"⟩
abbrev cX12_worked : ByteArray := prog_14_method_42_code
def yX12_worked : MethodName := ⟨RX12, "worked", "(I)I"⟩
abbrev cX12_isLaw : ByteArray := prog_14_method_43_code
def yX12_isLaw : MethodName := ⟨RX12, "isLaw", "(II)Z"⟩
abbrev cX12_isRain : ByteArray := prog_14_method_44_code
def yX12_isRain : MethodName := ⟨RX12, "isRain", "(II)Z"⟩
abbrev cX12_isCell : ByteArray := prog_14_method_45_code
def yX12_isCell : MethodName := ⟨RX12, "isCell", "(III)Z"⟩
abbrev cX12_isStreet : ByteArray := prog_14_method_46_code
def yX12_isStreet : MethodName := ⟨RX12, "isStreet", "(I)Z"⟩
abbrev cX12_isNow : ByteArray := prog_14_method_47_code
def yX12_isNow : MethodName := ⟨RX12, "isNow", "(I)Z"⟩
abbrev cX12_drains : ByteArray := prog_14_method_48_code
def yX12_drains : MethodName := ⟨RX12, "drains", "()I"⟩
abbrev cX12_drainTold : ByteArray := prog_14_method_49_code
def yX12_drainTold : MethodName := ⟨RX12, "drainTold", "(II)I"⟩
abbrev cX12_leavesOf : ByteArray := prog_14_method_50_code
def yX12_leavesOf : MethodName := ⟨RX12, "leavesOf", "(I)I"⟩
abbrev cX12_at : ByteArray := prog_14_method_51_code
def yX12_at : MethodName := ⟨RX12, "at", "(II)I"⟩
abbrev cX12_told : ByteArray := prog_14_method_52_code
def yX12_told : MethodName := ⟨RX12, "told", "(I)I"⟩
abbrev cX12_surface : ByteArray := prog_14_method_53_code
def yX12_surface : MethodName := ⟨RX12, "surface", "(I)I"⟩
abbrev cX12_cell : ByteArray := prog_14_method_54_code
def yX12_cell : MethodName := ⟨RX12, "cell", "(III)I"⟩
abbrev cX12_drain : ByteArray := prog_14_method_55_code
def yX12_drain : MethodName := ⟨RX12, "drain", "(II)I"⟩
abbrev cX12_leaves : ByteArray := prog_14_method_56_code
def yX12_leaves : MethodName := ⟨RX12, "leaves", "(II)I"⟩
abbrev cX12_person : ByteArray := prog_14_method_57_code
def yX12_person : MethodName := ⟨RX12, "person", "(II)I"⟩
abbrev cX12_isWork : ByteArray := prog_14_method_58_code
def yX12_isWork : MethodName := ⟨RX12, "isWork", "(I)Z"⟩
abbrev cX12_work : ByteArray := prog_14_method_59_code
def yX12_work : MethodName := ⟨RX12, "work", "(II)I"⟩
abbrev cX12_works : ByteArray := prog_14_method_60_code
def yX12_works : MethodName := ⟨RX12, "works", "(I)V"⟩
abbrev cX12_does : ByteArray := prog_14_method_61_code
def yX12_does : MethodName := ⟨RX12, "does", "(I)I"⟩
abbrev cX12_runsTo : ByteArray := prog_14_method_62_code
def yX12_runsTo : MethodName := ⟨RX12, "runsTo", "(II)V"⟩
abbrev cX12_round : ByteArray := prog_14_method_63_code
def yX12_round : MethodName := ⟨RX12, "round", "()V"⟩
abbrev cX12_minute : ByteArray := prog_14_method_64_code
def yX12_minute : MethodName := ⟨RX12, "minute", "(I)V"⟩
abbrev cX12_minutes : ByteArray := prog_14_method_65_code
def yX12_minutes : MethodName := ⟨RX12, "minutes", "(II)I"⟩
abbrev cX12_showers : ByteArray := prog_14_method_66_code
def yX12_showers : MethodName := ⟨RX12, "showers", "(I)I"⟩
abbrev cX12_shower : ByteArray := prog_14_method_67_code
def yX12_shower : MethodName := ⟨RX12, "shower", "(I)I"⟩
abbrev cX12_standing : ByteArray := prog_14_method_68_code
def yX12_standing : MethodName := ⟨RX12, "standing", "()I"⟩
abbrev cX12_sums : ByteArray := prog_14_method_69_code
def yX12_sums : MethodName := ⟨RX12, "sums", "(I)I"⟩
abbrev cX12_says : ByteArray := prog_14_method_70_code
def yX12_says : MethodName := ⟨RX12, "says", "(IIIIIIIII)I"⟩
abbrev cX12_name : ByteArray := prog_14_method_71_code
def yX12_name : MethodName := ⟨RX12, "name", "(IIIII)V"⟩
abbrev cX12_held : ByteArray := prog_14_method_72_code
def yX12_held : MethodName := ⟨RX12, "held", "(III)I"⟩
abbrev cX12_peopleAt : ByteArray := prog_14_method_73_code
def yX12_peopleAt : MethodName := ⟨RX12, "peopleAt", "(I)I"⟩
abbrev cX12_isSheltered : ByteArray := prog_14_method_74_code
def yX12_isSheltered : MethodName := ⟨RX12, "isSheltered", "(I)Z"⟩
abbrev cX12_drives : ByteArray := prog_14_method_75_code
def yX12_drives : MethodName := ⟨RX12, "drives", "(IIIIII)V"⟩
abbrev cX12_heldSum : ByteArray := prog_14_method_76_code
def yX12_heldSum : MethodName := ⟨RX12, "heldSum", "(II)I"⟩
abbrev cX12_passes : ByteArray := prog_14_method_77_code
def yX12_passes : MethodName := ⟨RX12, "passes", "(IIIII)I"⟩
abbrev cX12_isCar : ByteArray := prog_14_method_78_code
def yX12_isCar : MethodName := ⟨RX12, "isCar", "(IIII)Z"⟩
abbrev cX12_car : ByteArray := prog_14_method_79_code
def yX12_car : MethodName := ⟨RX12, "car", "(IIIII)I"⟩
abbrev cX12_traffic : ByteArray := prog_14_method_80_code
def yX12_traffic : MethodName := ⟨RX12, "traffic", "(IIIII)I"⟩
abbrev cX12_allPass : ByteArray := prog_14_method_81_code
def yX12_allPass : MethodName := ⟨RX12, "allPass", "(I)I"⟩
abbrev cX12_pass_ : ByteArray := prog_14_method_82_code
def yX12_pass_ : MethodName := ⟨RX12, "pass", "(I)I"⟩
abbrev cX12_clear : ByteArray := prog_14_method_83_code
def yX12_clear : MethodName := ⟨RX12, "clear", "()I"⟩
abbrev cX12_keeps : ByteArray := prog_14_method_84_code
def yX12_keeps : MethodName := ⟨RX12, "keeps", "()V"⟩
abbrev cX12_comesBack : ByteArray := prog_14_method_85_code
def yX12_comesBack : MethodName := ⟨RX12, "comesBack", "()V"⟩
abbrev cX12_deepBehind : ByteArray := prog_14_method_86_code
def yX12_deepBehind : MethodName := ⟨RX12, "deepBehind", "(II)I"⟩
abbrev cX12_deep : ByteArray := prog_14_method_87_code
def yX12_deep : MethodName := ⟨RX12, "deep", "(III)I"⟩
abbrev cX12_when : ByteArray := prog_14_method_88_code
def yX12_when : MethodName := ⟨RX12, "when", "(IIII)I"⟩
abbrev cX12_blame : ByteArray := prog_14_method_89_code
def yX12_blame : MethodName := ⟨RX12, "blame", "(IIII)I"⟩
abbrev cX12_kindsOf : ByteArray := prog_14_method_90_code
def yX12_kindsOf : MethodName := ⟨RX12, "kindsOf", "(I)I"⟩
abbrev cX12_look : ByteArray := prog_14_method_91_code
def yX12_look : MethodName := ⟨RX12, "look", "(II)I"⟩
abbrev cX12_stand : ByteArray := prog_14_method_92_code
def yX12_stand : MethodName := ⟨RX12, "stand", "(III)I"⟩
abbrev cX12_pace : ByteArray := prog_14_method_93_code
def yX12_pace : MethodName := ⟨RX12, "pace", "(IIII)I"⟩
abbrev cX12_mayStep : ByteArray := prog_14_method_94_code
def yX12_mayStep : MethodName := ⟨RX12, "mayStep", "(I)Z"⟩
abbrev cX12_moved : ByteArray := prog_14_method_95_code
def yX12_moved : MethodName := ⟨RX12, "moved", "(II)I"⟩
abbrev cX12_mend : ByteArray := prog_14_method_96_code
def yX12_mend : MethodName := ⟨RX12, "mend", "(IIIII)I"⟩
abbrev cX12_share : ByteArray := prog_14_method_97_code
def yX12_share : MethodName := ⟨RX12, "share", "(II)I"⟩
abbrev cX12_meant : ByteArray := prog_14_method_98_code
def yX12_meant : MethodName := ⟨RX12, "meant", "(IIIIIII)I"⟩
abbrev cX12_dip : ByteArray := prog_14_method_99_code
def yX12_dip : MethodName := ⟨RX12, "dip", "(III)I"⟩
abbrev cX12_daysOf : ByteArray := prog_14_method_100_code
def yX12_daysOf : MethodName := ⟨RX12, "daysOf", "(I)I"⟩
abbrev cX12_doing : ByteArray := prog_14_method_101_code
def yX12_doing : MethodName := ⟨RX12, "doing", "(II)I"⟩
abbrev cX12_town : ByteArray := prog_14_method_102_code
def yX12_town : MethodName := ⟨RX12, "town", "(I)I"⟩
abbrev cX12_off : ByteArray := prog_14_method_103_code
def yX12_off : MethodName := ⟨RX12, "off", "(I)I"⟩
abbrev cX12_sweeps : ByteArray := prog_14_method_104_code
def yX12_sweeps : MethodName := ⟨RX12, "sweeps", "(IIIII)V"⟩
abbrev cX12_sweep : ByteArray := prog_14_method_105_code
def yX12_sweep : MethodName := ⟨RX12, "sweep", "(I)I"⟩
abbrev cX12_ice : ByteArray := prog_14_method_106_code
def yX12_ice : MethodName := ⟨RX12, "ice", "(II)I"⟩
abbrev cX12_image : ByteArray := prog_14_method_107_code
def yX12_image : MethodName := ⟨RX12, "image", "()I"⟩
abbrev cX12_restore : ByteArray := prog_14_method_108_code
def yX12_restore : MethodName := ⟨RX12, "restore", "()I"⟩
abbrev cX12_status : ByteArray := prog_14_method_109_code
def yX12_status : MethodName := ⟨RX12, "status", "(I)I"⟩
abbrev cX12_count : ByteArray := prog_14_method_110_code
def yX12_count : MethodName := ⟨RX12, "count", "(I)I"⟩
def RJ0 : String := "java/lang/String"
abbrev cJ0_length_8abf5 : ByteArray := prog_25_method_54_code
def yJ0_length_8abf5 : MethodName := ⟨RJ0, "length", "()I"⟩
abbrev cJ0_charAt_5068e : ByteArray := prog_25_method_56_code
def yJ0_charAt_5068e : MethodName := ⟨RJ0, "charAt", "(I)C"⟩
abbrev cJ0_coder_7d493 : ByteArray := prog_25_method_152_code
def yJ0_coder_7d493 : MethodName := ⟨RJ0, "coder", "()B"⟩
abbrev cJ0_isLatin1_aae02 : ByteArray := prog_25_method_154_code
def yJ0_isLatin1_aae02 : MethodName := ⟨RJ0, "isLatin1", "()Z"⟩
abbrev cJ0_checkIndex_df160 : ByteArray := prog_25_method_155_code
def yJ0_checkIndex_df160 : MethodName := ⟨RJ0, "checkIndex", "(II)V"⟩
def RJ1 : String := "java/lang/StringLatin1"
abbrev cJ1_charAt_3b067 : ByteArray := prog_26_method_2_code
def yJ1_charAt_3b067 : MethodName := ⟨RJ1, "charAt", "([BI)C"⟩
def RJ7 : String := "java/util/Arrays"
abbrev cJ7_fill_53178 : ByteArray := prog_32_method_103_code
def yJ7_fill_53178 : MethodName := ⟨RJ7, "fill", "([II)V"⟩
def RJ3 : String := "jdk/internal/util/Preconditions"
abbrev cJ3_checkIndex_8e157 : ByteArray := prog_34_method_11_code
def yJ3_checkIndex_8e157 : MethodName := ⟨RJ3, "checkIndex", "(IILjava/util/function/BiFunction;)I"⟩
def RL : String := "KerbSplashLaw"
abbrev cL_street : ByteArray := method_3_code
def yL_street : MethodName := ⟨RL, "street", "(LKerbSplash;I[J)I"⟩
abbrev cL_rain : ByteArray := method_4_code
def yL_rain : MethodName := ⟨RL, "rain", "(LKerbSplash;I[J)I"⟩
abbrev cL_law : ByteArray := method_5_code
def yL_law : MethodName := ⟨RL, "law", "(LKerbSplash;I[J)I"⟩
abbrev cL_told : ByteArray := method_6_code
def yL_told : MethodName := ⟨RL, "told", "(LKerbSplash;I[J)I"⟩
abbrev cL_cell : ByteArray := method_7_code
def yL_cell : MethodName := ⟨RL, "cell", "(LKerbSplash;III[J)I"⟩
abbrev cL_drain : ByteArray := method_8_code
def yL_drain : MethodName := ⟨RL, "drain", "(LKerbSplash;II[J)I"⟩
abbrev cL_leaves : ByteArray := method_9_code
def yL_leaves : MethodName := ⟨RL, "leaves", "(LKerbSplash;II[J)I"⟩
abbrev cL_person : ByteArray := method_10_code
def yL_person : MethodName := ⟨RL, "person", "(LKerbSplash;II[J)I"⟩
abbrev cL_work : ByteArray := method_11_code
def yL_work : MethodName := ⟨RL, "work", "(LKerbSplash;II[J)I"⟩
abbrev cL_does : ByteArray := method_12_code
def yL_does : MethodName := ⟨RL, "does", "(LKerbSplash;I[J)I"⟩
abbrev cL_minutes : ByteArray := method_13_code
def yL_minutes : MethodName := ⟨RL, "minutes", "(LKerbSplash;II[J)I"⟩
abbrev cL_shower : ByteArray := method_14_code
def yL_shower : MethodName := ⟨RL, "shower", "(LKerbSplash;I[J)I"⟩
abbrev cL_sums : ByteArray := method_15_code
def yL_sums : MethodName := ⟨RL, "sums", "(LKerbSplash;I[J)I"⟩
abbrev cL_says : ByteArray := method_16_code
def yL_says : MethodName := ⟨RL, "says", "(LKerbSplash;IIIIIIIII[J)I"⟩
abbrev cL_car : ByteArray := method_17_code
def yL_car : MethodName := ⟨RL, "car", "(LKerbSplash;IIIII[J)I"⟩
abbrev cL_traffic : ByteArray := method_18_code
def yL_traffic : MethodName := ⟨RL, "traffic", "(LKerbSplash;IIIII[J)I"⟩
abbrev cL_pass : ByteArray := method_19_code
def yL_pass : MethodName := ⟨RL, "pass", "(LKerbSplash;I[J)I"⟩
abbrev cL_deep : ByteArray := method_20_code
def yL_deep : MethodName := ⟨RL, "deep", "(LKerbSplash;III[J)I"⟩
abbrev cL_when : ByteArray := method_21_code
def yL_when : MethodName := ⟨RL, "when", "(LKerbSplash;IIII[J)I"⟩
abbrev cL_blame : ByteArray := method_22_code
def yL_blame : MethodName := ⟨RL, "blame", "(LKerbSplash;IIII[J)I"⟩
abbrev cL_look : ByteArray := method_23_code
def yL_look : MethodName := ⟨RL, "look", "(LKerbSplash;II[J)I"⟩
abbrev cL_stand : ByteArray := method_24_code
def yL_stand : MethodName := ⟨RL, "stand", "(LKerbSplash;III[J)I"⟩
abbrev cL_pace : ByteArray := method_25_code
def yL_pace : MethodName := ⟨RL, "pace", "(LKerbSplash;IIII[J)I"⟩
abbrev cL_moved : ByteArray := method_26_code
def yL_moved : MethodName := ⟨RL, "moved", "(LKerbSplash;II[J)I"⟩
abbrev cL_mend : ByteArray := method_27_code
def yL_mend : MethodName := ⟨RL, "mend", "(LKerbSplash;IIIII[J)I"⟩
abbrev cL_share : ByteArray := method_28_code
def yL_share : MethodName := ⟨RL, "share", "(LKerbSplash;II[J)I"⟩
abbrev cL_meant : ByteArray := method_29_code
def yL_meant : MethodName := ⟨RL, "meant", "(LKerbSplash;IIIIIII[J)I"⟩
abbrev cL_dip : ByteArray := method_30_code
def yL_dip : MethodName := ⟨RL, "dip", "(LKerbSplash;III[J)I"⟩
abbrev cL_town : ByteArray := method_31_code
def yL_town : MethodName := ⟨RL, "town", "(LKerbSplash;I[J)I"⟩
abbrev cL_sweep : ByteArray := method_32_code
def yL_sweep : MethodName := ⟨RL, "sweep", "(LKerbSplash;I[J)I"⟩
abbrev cL_ice : ByteArray := method_33_code
def yL_ice : MethodName := ⟨RL, "ice", "(LKerbSplash;II[J)I"⟩
abbrev cL_law_ : ByteArray := code
def wsX0_init : List Cond := .code yX0_init cX0_init 1 none :: ([.methodLink RX0 1 objectInit, .instanceMethod objectInit, .code objectInit ⟨#[0xb1]⟩ 1 none, .arrayClass .int, .fieldLink RX0 9 "KerbSplash$Car" "names" "[I"] ++ wsX00)
def wsX1_init : List Cond := .code yX1_init cX1_init 1 none :: ([.methodLink RX1 3 objectInit, .instanceMethod objectInit, .code objectInit ⟨#[0xb1]⟩ 1 none, .arrayClass .int, .fieldLink RX1 11 "KerbSplash$Law" "steps" "[I", .fieldLink RX1 17 "KerbSplash$Law" "starts" "[I", .fieldLink RX1 20 "KerbSplash$Law" "values" "[I"] ++ wsX10)
def wsX3_init : List Cond := .code yX3_init cX3_init 1 none :: ([.methodLink RX3 3 objectInit, .instanceMethod objectInit, .code objectInit ⟨#[0xb1]⟩ 1 none, .arrayClass .int, .fieldLink RX3 11 "KerbSplash$Orders" "best" "[I"] ++ wsX30)
def wsX4_init : List Cond := .code yX4_init cX4_init 1 none :: ([.methodLink RX4 3 objectInit, .instanceMethod objectInit, .code objectInit ⟨#[0xb1]⟩ 1 none, .arrayClass .int, .fieldLink RX4 11 "KerbSplash$Plan" "traffic" "[I", .fieldLink RX4 15 "KerbSplash$Plan" "dip" "[I", .fieldLink RX4 18 "KerbSplash$Plan" "shares" "[I"] ++ wsX40)
def wsX5_init : List Cond := .code yX5_init cX5_init 1 none :: ([.methodLink RX5 1 objectInit, .instanceMethod objectInit, .code objectInit ⟨#[0xb1]⟩ 1 none, .arrayClass .int, .fieldLink RX5 9 "KerbSplash$Rain" "falls" "[I"] ++ wsX50)
def wsX6_init : List Cond := .code yX6_init cX6_init 1 none :: ([.methodLink RX6 1 objectInit, .instanceMethod objectInit, .code objectInit ⟨#[0xb1]⟩ 1 none, .arrayClass .int, .fieldLink RX6 9 "KerbSplash$Street" "height" "[I", .fieldLink RX6 13 "KerbSplash$Street" "water" "[I", .fieldLink RX6 16 "KerbSplash$Street" "drain" "[I", .fieldLink RX6 19 "KerbSplash$Street" "person" "[I", .fieldLink RX6 22 "KerbSplash$Street" "shelter" "[I", .fieldLink RX6 25 "KerbSplash$Street" "work" "[I"] ++ wsX60)
def wsX8_init : List Cond := .code yX8_init cX8_init 1 none :: ([.methodLink RX8 3 objectInit, .instanceMethod objectInit, .code objectInit ⟨#[0xb1]⟩ 1 none, .arrayClass .byte, .fieldLink RX8 11 "KerbSplash$Tape" "bytes" "[B", .fieldLink RX8 15 "KerbSplash$Tape" "faultAt" "I"] ++ wsX80)
def wsX9_init_r1 : List Cond := [Cond.methodLink RX9 5 objectInit, Cond.instanceMethod objectInit, Cond.code objectInit ⟨#[0xb1]⟩ 1 none, Cond.classLink RX9 1 RX6, Cond.instantiable RX6 19, Cond.initialized RX6, Cond.fieldLink RX9 12 "KerbSplash$WhatIf" "trial" "LKerbSplash$Street;", Cond.classLink RX9 18 RX0, Cond.instantiable RX0 7, Cond.initialized RX0, Cond.fieldLink RX9 21 "KerbSplash$WhatIf" "car" "LKerbSplash$Car;", Cond.arrayClass .int, Cond.fieldLink RX9 25 "KerbSplash$WhatIf" "seen" "[I", Cond.instanceMethod yX6_init, Cond.code yX6_init cX6_init 1 none, Cond.methodLink RX6 1 objectInit, Cond.fieldLink RX6 9 "KerbSplash$Street" "height" "[I", Cond.fieldLink RX6 13 "KerbSplash$Street" "water" "[I", Cond.fieldLink RX6 16 "KerbSplash$Street" "drain" "[I", Cond.fieldLink RX6 19 "KerbSplash$Street" "person" "[I", Cond.fieldLink RX6 22 "KerbSplash$Street" "shelter" "[I", Cond.fieldLink RX6 25 "KerbSplash$Street" "work" "[I", Cond.instanceMethod yX0_init, Cond.code yX0_init cX0_init 1 none]
def wsX9_init_r2 : List Cond := [Cond.methodLink RX0 1 objectInit, Cond.fieldLink RX0 9 "KerbSplash$Car" "names" "[I"]
def wsX9_init : List Cond := .code yX9_init cX9_init 1 none :: ((wsX9_init_r1 ++ wsX9_init_r2) ++ wsX60 ++ wsX90 ++ wsX00)
def wsX11_init_r1 : List Cond := [Cond.methodLink RX11 1 objectInit, Cond.instanceMethod objectInit, Cond.code objectInit ⟨#[0xb1]⟩ 1 none, Cond.classLink RX11 7 RX8, Cond.instantiable RX8 7, Cond.initialized RX8, Cond.fieldLink RX11 10 "KerbSplash" "tape" "LKerbSplash$Tape;", Cond.classLink RX11 16 RX5, Cond.fieldLink RX11 18 "KerbSplash" "rains" "[LKerbSplash$Rain;", Cond.classLink RX11 22 RX1, Cond.fieldLink RX11 24 "KerbSplash" "laws" "[LKerbSplash$Law;", Cond.classLink RX11 28 RX6, Cond.instantiable RX6 19, Cond.initialized RX6, Cond.fieldLink RX11 31 "KerbSplash" "now" "LKerbSplash$Street;", Cond.fieldLink RX11 35 "KerbSplash" "draft" "LKerbSplash$Street;", Cond.classLink RX11 38 RX4, Cond.instantiable RX4 5, Cond.initialized RX4, Cond.fieldLink RX11 41 "KerbSplash" "plan" "LKerbSplash$Plan;", Cond.fieldLink RX11 45 "KerbSplash" "streetImages" "[LKerbSplash$Street;", Cond.fieldLink RX11 49 "KerbSplash" "planImages" "[LKerbSplash$Plan;", Cond.classLink RX11 53 RX9, Cond.instantiable RX9 5]
def wsX11_init_r2 : List Cond := [Cond.initialized RX9, Cond.fieldLink RX11 56 "KerbSplash" "whatIf" "LKerbSplash$WhatIf;", Cond.classLink RX11 60 RX3, Cond.instantiable RX3 4, Cond.initialized RX3, Cond.fieldLink RX11 63 "KerbSplash" "orders" "LKerbSplash$Orders;", Cond.arrayClass .int, Cond.fieldLink RX11 67 "KerbSplash" "refused" "[I", Cond.instantiable RX5 2, Cond.initialized RX5, Cond.instantiable RX1 4, Cond.initialized RX1, Cond.instanceMethod yX8_init, Cond.code yX8_init cX8_init 1 none, Cond.methodLink RX8 3 objectInit, Cond.arrayClass .byte, Cond.fieldLink RX8 11 "KerbSplash$Tape" "bytes" "[B", Cond.fieldLink RX8 15 "KerbSplash$Tape" "faultAt" "I", Cond.instanceMethod yX6_init, Cond.code yX6_init cX6_init 1 none, Cond.methodLink RX6 1 objectInit, Cond.fieldLink RX6 9 "KerbSplash$Street" "height" "[I", Cond.fieldLink RX6 13 "KerbSplash$Street" "water" "[I", Cond.fieldLink RX6 16 "KerbSplash$Street" "drain" "[I"]
def wsX11_init_r3 : List Cond := [Cond.fieldLink RX6 19 "KerbSplash$Street" "person" "[I", Cond.fieldLink RX6 22 "KerbSplash$Street" "shelter" "[I", Cond.fieldLink RX6 25 "KerbSplash$Street" "work" "[I", Cond.instanceMethod yX4_init, Cond.code yX4_init cX4_init 1 none, Cond.methodLink RX4 3 objectInit, Cond.fieldLink RX4 11 "KerbSplash$Plan" "traffic" "[I", Cond.fieldLink RX4 15 "KerbSplash$Plan" "dip" "[I", Cond.fieldLink RX4 18 "KerbSplash$Plan" "shares" "[I", Cond.instanceMethod yX9_init, Cond.code yX9_init cX9_init 1 none, Cond.methodLink RX9 5 objectInit, Cond.classLink RX9 1 RX6, Cond.fieldLink RX9 12 "KerbSplash$WhatIf" "trial" "LKerbSplash$Street;", Cond.classLink RX9 18 RX0, Cond.instantiable RX0 7, Cond.initialized RX0, Cond.fieldLink RX9 21 "KerbSplash$WhatIf" "car" "LKerbSplash$Car;", Cond.fieldLink RX9 25 "KerbSplash$WhatIf" "seen" "[I", Cond.instanceMethod yX0_init, Cond.code yX0_init cX0_init 1 none, Cond.methodLink RX0 1 objectInit, Cond.fieldLink RX0 9 "KerbSplash$Car" "names" "[I", Cond.instanceMethod yX3_init]
def wsX11_init_r4 : List Cond := [Cond.code yX3_init cX3_init 1 none, Cond.methodLink RX3 3 objectInit, Cond.fieldLink RX3 11 "KerbSplash$Orders" "best" "[I", Cond.instanceMethod yX5_init, Cond.code yX5_init cX5_init 1 none, Cond.methodLink RX5 1 objectInit, Cond.fieldLink RX5 9 "KerbSplash$Rain" "falls" "[I", Cond.instanceMethod yX1_init, Cond.code yX1_init cX1_init 1 none, Cond.methodLink RX1 3 objectInit, Cond.fieldLink RX1 11 "KerbSplash$Law" "steps" "[I", Cond.fieldLink RX1 17 "KerbSplash$Law" "starts" "[I", Cond.fieldLink RX1 20 "KerbSplash$Law" "values" "[I"]
def wsX11_init : List Cond := .code yX11_init cX11_init 2 none :: ((wsX11_init_r1 ++ (wsX11_init_r2 ++ (wsX11_init_r3 ++ wsX11_init_r4))) ++ wsX80 ++ wsX110 ++ wsX60 ++ wsX40 ++ wsX90 ++ wsX30 ++ wsX50 ++ wsX10 ++ wsX00)
def wsX12_init_r1 : List Cond := [Cond.methodLink RX12 11 objectInit, Cond.instanceMethod objectInit, Cond.code objectInit ⟨#[0xb1]⟩ 1 none, Cond.arrayClass .int, Cond.fieldLink RX12 7 "KerbSplashModel" "refused" "[I", Cond.fieldLink RX12 17 "KerbSplashModel" "faultAt" "I", Cond.fieldLink RX12 20 "KerbSplashModel" "tape" "[I", Cond.fieldLink RX12 23 "KerbSplashModel" "b" "[I", Cond.fieldLink RX12 26 "KerbSplashModel" "newStreet" "[I", Cond.fieldLink RX12 29 "KerbSplashModel" "s" "[I", Cond.fieldLink RX12 32 "KerbSplashModel" "newState" "[I", Cond.fieldLink RX12 35 "KerbSplashModel" "kept" "[I", Cond.fieldLink RX12 38 "KerbSplashModel" "image" "[I", Cond.fieldLink RX12 41 "KerbSplashModel" "falls" "[I", Cond.fieldLink RX12 44 "KerbSplashModel" "rainMany" "[I", Cond.fieldLink RX12 47 "KerbSplashModel" "rainTimes" "[I", Cond.fieldLink RX12 50 "KerbSplashModel" "step" "[I", Cond.fieldLink RX12 53 "KerbSplashModel" "stepValue" "[I", Cond.fieldLink RX12 56 "KerbSplashModel" "lawFrom" "[I", Cond.fieldLink RX12 59 "KerbSplashModel" "lawTo" "[I", Cond.fieldLink RX12 62 "KerbSplashModel" "stack" "[I", Cond.fieldLink RX12 65 "KerbSplashModel" "names" "[I", Cond.fieldLink RX12 68 "KerbSplashModel" "cases" "[I", Cond.fieldLink RX12 71 "KerbSplashModel" "shut" "I"]
def wsX12_init_r2 : List Cond := [Cond.fieldLink RX12 74 "KerbSplashModel" "rest" "[I"]
def wsX12_init : List Cond := .code yX12_init cX12_init 2 none :: ((wsX12_init_r1 ++ wsX12_init_r2) ++ wsX120)
abbrev vwCl : List vw_C := [(RX0, TX0, 7), (RX1, TX1, 4), (RX2, TX2, 3), (RX3, TX3, 4), (RX4, TX4, 5), (RX5, TX5, 2), (RX6, TX6, 19), (RX7, TX7, 2), (RX8, TX8, 7), (RX9, TX9, 5), (RX10, TX10, 0), (RX11, TX11, 14), (RX12, TX12, 38)]
end
section
abbrev iI (z : Int) : Int32 := Int32.ofInt z
def wdN : List String := ["NO", "SIZE", "HIGH", "DRAIN", "PERSON", "SHELTER", "CLEAR", "RAISE", "LOWER", "BORE", "RAIN", "THROW", "REACH", "WET", "SLOW", "OUT", "IF", "THEN", "ELSE", "OR", "AND", "NOT", "DEPTH", "PACE", "TYRE", "ROW", "FAR", "PEOPLE"]
def wdT : List (List Int) := [[], [115, 105, 122, 101], [104, 105, 103, 104], [100, 114, 97, 105, 110], [112, 101, 114, 115, 111, 110], [115, 104, 101, 108, 116, 101, 114], [99, 108, 101, 97, 114], [114, 97, 105, 115, 101], [108, 111, 119, 101, 114], [98, 111, 114, 101], [114, 97, 105, 110], [116, 104, 114, 111, 119], [114, 101, 97, 99, 104], [119, 101, 116], [115, 108, 111, 119], [111, 117, 116], [105, 102], [116, 104, 101, 110], [101, 108, 115, 101], [111, 114], [97, 110, 100], [110, 111, 116], [100, 101, 112, 116, 104], [112, 97, 99, 101], [116, 121, 114, 101], [114, 111, 119], [102, 97, 114], [112, 101, 111, 112, 108, 101], [], [115, 105, 122, 101], [104, 105, 103, 104], [100, 114, 97, 105, 110], [112, 101, 114, 115, 111, 110], [115, 104, 101, 108, 116, 101, 114], [99, 108, 101, 97, 114], [114, 97, 105, 115, 101], [108, 111, 119, 101, 114], [98, 111, 114, 101], [114, 97, 105, 110], [116, 104, 114, 111, 119], [114, 101, 97, 99, 104], [119, 101, 116], [115, 108, 111, 119], [111, 117, 116], [105, 102], [116, 104, 101, 110], [101, 108, 115, 101], [111, 114], [97, 110, 100], [110, 111, 116], [100, 101, 112, 116, 104], [112, 97, 99, 101], [116, 121, 114, 101], [114, 111, 119], [102, 97, 114], [112, 101, 111, 112, 108, 101]]
def wdW : List Int := [-1, -1, -1, -1, -1, -1, 0, 1, 2, 3, -1, -1, -1, -1, -1, -1, -1, -1, -1, -1, -1, -1, -1, -1, -1, -1, -1, -1]
def wdS : List Int := [-1, -1, -1, -1, -1, -1, -1, -1, -1, -1, -1, 0, 1, 2, 3, 4, -1, -1, -1, -1, -1, -1, -1, -1, -1, -1, -1, -1]
def wdM : List Int := [-1, -1, -1, -1, -1, 6, -1, -1, -1, -1, -1, -1, -1, -1, -1, -1, -1, -1, -1, -1, -1, -1, 0, 1, 2, 3, 4, 5]
abbrev RWd : String := "KerbSplash$Word"
/-- the address of the k-th word, of its text, of the text's bytes -/
abbrev wd (sa : Nat → Nat) (k : Int) : Nat := sa (100 + k.toNat)
abbrev sn (sa : Nat → Nat) (k : Int) : Nat := sa (200 + k.toNat)
abbrev sw (sa : Nat → Nat) (k : Int) : Nat := sa (300 + k.toNat)
def slen (k : Int) : Int := ((wdT.getD k.toNat []).length : Int)
def sch (k i : Int) : Int := (wdT.getD k.toNat []).getD i.toNat 0
def fW (k : Int) : Int := wdW.getD k.toNat 0
def fS (k : Int) : Int := wdS.getD k.toNat 0
def fM (k : Int) : Int := wdM.getD k.toNat 0
def WD1 (sa : Nat → Nat) (k : Nat) (A : Nat → Prop) (U : State) (H : Heap) : Prop :=
  va_Z RWd (wdN.getD k "") "LKerbSplash$Word;" (.ref (sa (100 + k))) A U H ∧ va_O RWd (sa (100 + k)) A U H ∧ va_OF RWd "work" "I" (.int (iI (wdW.getD k 0))) (sa (100 + k)) A U H ∧ va_OF RWd "saying" "I" (.int (iI (wdS.getD k 0))) (sa (100 + k)) A U H ∧ va_OF RWd "name" "I" (.int (iI (wdM.getD k 0))) (sa (100 + k)) A U H ∧ va_OF RWd "letters" "Ljava/lang/String;" (.ref (sa (200 + k))) (sa (100 + k)) A U H
def WD2 (sa : Nat → Nat) (k : Nat) (A : Nat → Prop) (U : State) (H : Heap) : Prop :=
  va_O "java/lang/String" (sa (200 + k)) A U H ∧ va_OF "java/lang/String" "coder" "B" (.int (iI 0)) (sa (200 + k)) A U H ∧ va_OF "java/lang/String" "value" "[B" (.ref (sa (300 + k))) (sa (200 + k)) A U H ∧ va_T .byte (sa (300 + k)) (wdT.getD k []).length (fun j => .int (iI ((wdT.getD k []).getD j 0))) A U H
/-- the constants: words, their row, their texts -/
def WD (sa : Nat → Nat) (A : Nat → Prop) (U : State) (H : Heap) : Prop :=
  (∀ k : Nat, k < 28 → WD1 sa k A U H ∧ WD2 sa k A U H) ∧ (∀ i j : Nat, i < 28 → j < 28 → sa (100 + i) = sa (100 + j) → i = j) ∧ va_Z RWd "ALL" "[LKerbSplash$Word;" (.ref (sa 99)) A U H ∧ va_T (.object RWd) (sa 99) 28 (fun j => .ref (sa (100 + j))) A U H ∧ va_Z "java/lang/String" "COMPACT_STRINGS" "Z" (.int (iI 1)) A U H ∧ va_Zq "jdk/internal/util/Preconditions" "SIOOBE_FORMATTER" "Ljava/util/function/BiFunction;" A U H ∧ (∀ k : Nat, k < 56 → WD2 sa k A U H)
theorem WD.tx {sa : Nat → Nat} {A : Nat → Prop} {U : State} {H : Heap} (h : WD sa A U H) (k : Nat) (hk : k < 56) : WD2 sa k A U H := h.2.2.2.2.2.2 k hk
theorem WD.moved {sa : Nat → Nat} {A : Nat → Prop} {u U : State} {H : Heap} (hvm : u.vm.Alike U.vm) (h : WD sa A u H) : WD sa A U H :=
  ⟨fun k hk => ⟨⟨(h.1 k hk).1.1.moved hvm, (h.1 k hk).1.2.1.moved hvm, (h.1 k hk).1.2.2.1.moved hvm, (h.1 k hk).1.2.2.2.1.moved hvm, (h.1 k hk).1.2.2.2.2.1.moved hvm, (h.1 k hk).1.2.2.2.2.2.moved hvm⟩, (h.1 k hk).2.1.moved hvm, (h.1 k hk).2.2.1.moved hvm, (h.1 k hk).2.2.2.1.moved hvm, (h.1 k hk).2.2.2.2.moved hvm⟩, h.2.1, h.2.2.1.moved hvm, h.2.2.2.1.moved hvm, h.2.2.2.2.1.moved hvm, h.2.2.2.2.2.1.moved hvm, fun k hk => ⟨(h.2.2.2.2.2.2 k hk).1.moved hvm, (h.2.2.2.2.2.2 k hk).2.1.moved hvm, (h.2.2.2.2.2.2 k hk).2.2.1.moved hvm, (h.2.2.2.2.2.2 k hk).2.2.2.moved hvm⟩⟩
theorem WD.kept {sa : Nat → Nat} {A : Nat → Prop} {U : State} {H H1 : Heap} (h : WD sa A U H) (hq : ∀ a : Nat, a < H.size → ¬ A a → H1[a]? = H[a]?) : WD sa A U H1 :=
  ⟨fun k hk => ⟨⟨(h.1 k hk).1.1.kept hq, (h.1 k hk).1.2.1.kept hq, (h.1 k hk).1.2.2.1.kept hq, (h.1 k hk).1.2.2.2.1.kept hq, (h.1 k hk).1.2.2.2.2.1.kept hq, (h.1 k hk).1.2.2.2.2.2.kept hq⟩, (h.1 k hk).2.1.kept hq, (h.1 k hk).2.2.1.kept hq, (h.1 k hk).2.2.2.1.kept hq, (h.1 k hk).2.2.2.2.kept hq⟩, h.2.1, h.2.2.1.kept hq, h.2.2.2.1.kept hq, h.2.2.2.2.1.kept hq, h.2.2.2.2.2.1.kept hq, fun k hk => ⟨(h.2.2.2.2.2.2 k hk).1.kept hq, (h.2.2.2.2.2.2 k hk).2.1.kept hq, (h.2.2.2.2.2.2 k hk).2.2.1.kept hq, (h.2.2.2.2.2.2 k hk).2.2.2.kept hq⟩⟩
theorem WD.narrow {sa : Nat → Nat} {A B : Nat → Prop} {U : State} {H : Heap} (h : WD sa A U H) (hq : ∀ q, B q → A q) : WD sa B U H :=
  ⟨fun k hk => ⟨⟨(h.1 k hk).1.1.narrow hq, (h.1 k hk).1.2.1.narrow hq, (h.1 k hk).1.2.2.1.narrow hq, (h.1 k hk).1.2.2.2.1.narrow hq, (h.1 k hk).1.2.2.2.2.1.narrow hq, (h.1 k hk).1.2.2.2.2.2.narrow hq⟩, (h.1 k hk).2.1.narrow hq, (h.1 k hk).2.2.1.narrow hq, (h.1 k hk).2.2.2.1.narrow hq, (h.1 k hk).2.2.2.2.narrow hq⟩, h.2.1, h.2.2.1.narrow hq, h.2.2.2.1.narrow hq, h.2.2.2.2.1.narrow hq, h.2.2.2.2.2.1.narrow hq, fun k hk => ⟨(h.2.2.2.2.2.2 k hk).1.narrow hq, (h.2.2.2.2.2.2 k hk).2.1.narrow hq, (h.2.2.2.2.2.2 k hk).2.2.1.narrow hq, (h.2.2.2.2.2.2 k hk).2.2.2.narrow hq⟩⟩
theorem fW_r : ∀ k : Nat, k < 28 → -1 ≤ wdW.getD k 0 ∧ wdW.getD k 0 ≤ 3 ∧ (wdW.getD k 0 = -1 ↔ k < 6 ∨ 9 < k) := by decide
theorem fS_r : ∀ k : Nat, k < 28 → -1 ≤ wdS.getD k 0 ∧ wdS.getD k 0 ≤ 4 := by decide
theorem fM_r : ∀ k : Nat, k < 28 → -1 ≤ wdM.getD k 0 ∧ wdM.getD k 0 ≤ 6 := by decide
theorem slen_r : ∀ k : Nat, k < 56 → (wdT.getD k []).length ≤ 7 := by decide
theorem sch_r : ∀ k : Nat, k < 56 → ∀ i : Nat, i < (wdT.getD k []).length → 97 ≤ (wdT.getD k []).getD i 0 ∧ (wdT.getD k []).getD i 0 ≤ 122 := by decide
end
