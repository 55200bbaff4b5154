
theorem NuP.v {g : Nat → Int} {n lo hi a f p v a' f' p' : Int} (h : NuP g n lo hi a f p v a' f' p') (q : f' = 0) : v = nV g n a ∧ a' = nA g n a ∧ f = 0 := ⟨h.2 q, (h.1.ok q).2.2, (h.1.ok q).1⟩
/-- a work's numbers -/
def wkL (k wi ro dr : Int) : List (Int × Int) := if k = 0 then [(0, dr - 1), (1, 99)] else if k = 3 then [(0, wi - 1), (0, ro - 1), (1, 99), (1, 99)] else [(0, wi - 1), (0, ro - 1), (1, 50), (1, 99)]
theorem wkL_0 {k wi ro dr : Int} (h : k = 0) : wkL k wi ro dr = [(0, dr - 1), (1, 99)] := if_pos h
theorem wkL_3 {k wi ro dr : Int} (h : k = 3) : wkL k wi ro dr = [(0, wi - 1), (0, ro - 1), (1, 99), (1, 99)] := by unfold wkL; rw [if_neg (by omega), if_pos h]
theorem wkL_1 {k wi ro dr : Int} (h : k ≠ 0 ∧ k ≠ 3) : wkL k wi ro dr = [(0, wi - 1), (0, ro - 1), (1, 50), (1, 99)] := by unfold wkL; rw [if_neg h.1, if_neg h.2]
def yw (k : Int) (g : Nat → Int) (n a : Int) : Int := if k = 0 then 0 else v2 g n a
def bw (k : Int) (g : Nat → Int) (n a : Int) : Int := if k = 0 then 0 else v3 g n a
def cw (k : Int) (g : Nat → Int) (n a : Int) : Int := if k = 0 then v2 g n a else v4 g n a
def wkU (K : Nat → Int) (wo k : Int) (g : Nat → Int) (n a : Int) : Nat → Int := upz (upz (upz (upz (upz K (5 * wo) k) (5 * wo + 1) (cw k g n a)) (5 * wo + 2) (v1 g n a)) (5 * wo + 3) (yw k g n a)) (5 * wo + 4) (bw k g n a)
theorem wkU_0 {K : Nat → Int} {wo k : Int} {g : Nat → Int} {n a : Int} (h : k = 0) : wkU K wo k g n a = upz (upz (upz (upz (upz K (5 * wo) k) (5 * wo + 1) (nV g n (nA g n a))) (5 * wo + 2) (nV g n a)) (5 * wo + 3) 0) (5 * wo + 4) 0 := by
  unfold wkU cw yw bw
  rw [if_pos h, if_pos h, if_pos h]
theorem wkU_1 {K : Nat → Int} {wo k : Int} {g : Nat → Int} {n a : Int} (h : k ≠ 0) : wkU K wo k g n a = upz (upz (upz (upz (upz K (5 * wo) k) (5 * wo + 1) (nV g n (nA g n (nA g n (nA g n a))))) (5 * wo + 2) (nV g n a)) (5 * wo + 3) (nV g n (nA g n a))) (5 * wo + 4) (nV g n (nA g n (nA g n a))) := by
  unfold wkU cw yw bw
  rw [if_neg h, if_neg h, if_neg h]
/-- a cell's, a drain's numbers -/
def ceL (k wi ro : Int) : List (Int × Int) := if k = 2 then [(0, wi - 1), (0, ro - 1), (0, 99)] else [(0, wi - 1), (0, ro - 1), (1, 99), (0, 16)]
theorem ceL_2 {k wi ro : Int} (h : k = 2) : ceL k wi ro = [(0, wi - 1), (0, ro - 1), (0, 99)] := if_pos h
theorem ceL_3 {k wi ro : Int} (h : k ≠ 2) : ceL k wi ro = [(0, wi - 1), (0, ro - 1), (1, 99), (0, 16)] := if_neg h
theorem fW_k {k : Int} (h : 6 ≤ k ∧ k ≤ 9) : fW k = k - 6 := by
  rcases (show k = 6 ∨ k = 7 ∨ k = 8 ∨ k = 9 by omega) with rfl | rfl | rfl | rfl <;> decide
theorem clL_w {nb : Nat → Int} {k : Int} {g : Nat → Int} {n a : Int} (h : 6 ≤ k ∧ k ≤ 9) : clL nb k g n a = wkL (k - 6) (nb 0) (nb 1) (nb 2) := by
  rcases (show k = 6 ∨ k = 7 ∨ k = 8 ∨ k = 9 by omega) with rfl | rfl | rfl | rfl <;> rfl
theorem clL_c {nb : Nat → Int} {k : Int} {g : Nat → Int} {n a : Int} (h : 2 ≤ k ∧ k ≤ 3) : clL nb k g n a = ceL k (nb 0) (nb 1) := by
  rcases (show k = 2 ∨ k = 3 by omega) with rfl | rfl <;> rfl
theorem clB_w {nb : Nat → Int} {k : Int} {g : Nat → Int} {n a : Int} (h : 6 ≤ k ∧ k ≤ 9) : clB nb k g n a = wkB nb (k - 6) (v1 g n a) (yw (k - 6) g n a) (bw (k - 6) g n a) (cw (k - 6) g n a) := by
  rcases (show k = 6 ∨ k = 7 ∨ k = 8 ∨ k = 9 by omega) with rfl | rfl | rfl | rfl <;> rfl
theorem clT_w {nb ns : Nat → Int} {k : Int} {g : Nat → Int} {n a : Int} (h : k ≠ 2 ∧ k ≠ 3 ∧ k ≠ 4) : clT nb ns k g n a = ns := by
  unfold clT
  rw [if_neg h.1, if_neg h.2.1, if_neg h.2.2]
section CLS
variable {nb ns : Nat → Int} {wi ro dr dt pe sh wo : Int} {hf df pf sf kf : Nat → Int32} {g : Nat → Int} {n a f p a' f' p' : Int}
theorem rd_w {k wk : Int} (hd : DRL nb ns wi ro dr dt pe sh wo hf df pf sf kf) (hk : 6 ≤ k ∧ k ≤ 9) (hw : wk = fW k) (h : RdS (chF g n (wkL wk wi ro dr) a) (chP g n (wkL wk wi ro dr) a) (chA g n (wkL wk wi ro dr) a) f p a' f' p') : RdS (chF g n (clL nb k g n a) a) (chP g n (clL nb k g n a) a) (chA g n (clL nb k g n a) a) f p a' f' p' := by
  obtain ⟨⟨z0, z1, z2, z3, z4, z5, z6⟩, -⟩ := hd
  rw [clL_w hk, ← z0, ← z1, ← z2, ← fW_k hk, ← hw]
  exact h
theorem dl_w {k wk wo1 : Int} {kf1 : Nat → Int32} (hd : DRL nb ns wi ro dr dt pe sh wo hf df pf sf kf) (hk : 6 ≤ k ∧ k ≤ 9) (hw : wk = fW k) (h8 : wo < 8) (h : wo1 = wo + 1 ∧ nz kf1 = wkU (nz kf) wo wk g n a) : DRL (clB nb k g n a) (clT nb ns k g n a) wi ro dr dt pe sh wo1 hf df pf sf kf1 := by
  rw [clB_w hk, clT_w (by omega)]
  rw [fW_k hk] at hw
  subst hw
  exact DRL_work hd h8 h.2 h.1
theorem rd_c {k : Int} (hd : DRL nb ns wi ro dr dt pe sh wo hf df pf sf kf) (hk : 2 ≤ k ∧ k ≤ 3) (h : RdS (chF g n (ceL k wi ro) a) (chP g n (ceL k wi ro) a) (chA g n (ceL k wi ro) a) f p a' f' p') : RdS (chF g n (clL nb k g n a) a) (chP g n (clL nb k g n a) a) (chA g n (clL nb k g n a) a) f p a' f' p' := by
  obtain ⟨⟨z0, z1, z2, z3, z4, z5, z6⟩, -⟩ := hd
  rw [clL_c hk, ← z0, ← z1]
  exact h
theorem rd_1 {k : Int} (hk : k = 1) (h : RdS (chF g n [(2, 16), (1, 6)] a) (chP g n [(2, 16), (1, 6)] a) (chA g n [(2, 16), (1, 6)] a) f p a' f' p') : RdS (chF g n (clL nb k g n a) a) (chP g n (clL nb k g n a) a) (chA g n (clL nb k g n a) a) f p a' f' p' := by
  subst hk
  exact h
theorem rd_4 {k : Int} (hd : DRL nb ns wi ro dr dt pe sh wo hf df pf sf kf) (hk : k = 4) (h : RdS (chF g n [(0, wi - 1), (0, 19)] a) (chP g n [(0, wi - 1), (0, 19)] a) (chA g n [(0, wi - 1), (0, 19)] a) f p a' f' p') : RdS (chF g n (clL nb k g n a) a) (chP g n (clL nb k g n a) a) (chA g n (clL nb k g n a) a) f p a' f' p' := by
  obtain ⟨⟨z0, z1, z2, z3, z4, z5, z6⟩, -⟩ := hd
  subst hk
  rw [z0] at h
  exact h
theorem rd_5 {k : Int} (hd : DRL nb ns wi ro dr dt pe sh wo hf df pf sf kf) (hk : k = 5) (h : RdS (chF g n [(0, wi - 1), (nV g n a, wi - 1)] a) (chP g n [(0, wi - 1), (nV g n a, wi - 1)] a) (chA g n [(0, wi - 1), (nV g n a, wi - 1)] a) f p a' f' p') : RdS (chF g n (clL nb k g n a) a) (chP g n (clL nb k g n a) a) (chA g n (clL nb k g n a) a) f p a' f' p' := by
  obtain ⟨⟨z0, z1, z2, z3, z4, z5, z6⟩, -⟩ := hd
  subst hk
  rw [z0] at h
  exact h
theorem dl_1 {k w d : Int} (hd : DRL nb ns wi ro dr dt pe sh wo hf df pf sf kf) (hF : DF ns hf) (hk : k = 1) (hw : 2 ≤ w ∧ w ≤ 16) (hd1 : 1 ≤ d ∧ d ≤ 6) (h : w = v1 g n a ∧ d = v2 g n a) : DRL (clB nb k g n a) (clT nb ns k g n a) w d dr dt pe sh wo hf df pf sf kf := by
  subst hk
  rw [clT_w (by decide)]
  show DRL (upz (upz nb 0 (v1 g n a)) 1 (v2 g n a)) ns w d dr dt pe sh wo hf df pf sf kf
  rw [← h.1, ← h.2]
  exact DRL_size hd hF hw hd1
theorem dl_2 {k : Int} {hf1 : Nat → Int32} (hd : DRL nb ns wi ro dr dt pe sh wo hf df pf sf kf) (hk : k = 2) (ha : 0 ≤ v1 g n a ∧ v1 g n a ≤ wi - 1) (hb : 0 ≤ v2 g n a ∧ v2 g n a ≤ ro - 1) (h : ∃ i : Int, i = v2 g n a * wi + v1 g n a ∧ nz hf1 = upz (nz hf) i (v3 g n a)) : DRL (clB nb k g n a) (clT nb ns k g n a) wi ro dr dt pe sh wo hf1 df pf sf kf := by
  obtain ⟨i, hi, h1⟩ := h
  subst hk
  have z0 := hd.1.1
  have z1 := hd.1.2.1
  show DRL nb (clT nb ns 2 g n a) wi ro dr dt pe sh wo hf1 df pf sf kf
  exact DRL_high hd (by omega) (by omega) hi h1
theorem dl_3 {k dr1 dt1 : Int} {df1 : Nat → Int32} (hd : DRL nb ns wi ro dr dt pe sh wo hf df pf sf kf) (hk : k = 3) (h6 : dr < 6) (h : dr1 = dr + 1 ∧ dt1 = dr + 1 ∧ nz df1 = upz (upz (upz (upz (nz df) (4 * dr) (v1 g n a)) (4 * dr + 1) (v2 g n a)) (4 * dr + 2) (v3 g n a)) (4 * dr + 3) (v4 g n a)) : DRL (clB nb k g n a) (clT nb ns k g n a) wi ro dr1 dt1 pe sh wo hf df1 pf sf kf := by
  subst hk
  exact DRL_drain hd h6 h.2.2 h.1 h.2.1
theorem dl_4 {k pe1 : Int} {pf1 : Nat → Int32} (hd : DRL nb ns wi ro dr dt pe sh wo hf df pf sf kf) (hk : k = 4) (h8 : pe < 8) (h : pe1 = pe + 1 ∧ nz pf1 = upz (upz (upz (upz (nz pf) (4 * pe) (v1 g n a)) (4 * pe + 1) (v2 g n a)) (4 * pe + 2) 0) (4 * pe + 3) 0) : DRL (clB nb k g n a) (clT nb ns k g n a) wi ro dr dt pe1 sh wo hf df pf1 sf kf := by
  subst hk
  exact DRL_person hd h8 h.2 h.1
theorem dl_5 {k sh1 : Int} {sf1 : Nat → Int32} (hd : DRL nb ns wi ro dr dt pe sh wo hf df pf sf kf) (hk : k = 5) (h2 : sh < 2) (h : sh1 = sh + 1 ∧ nz sf1 = upz (upz (nz sf) (2 * sh) (v1 g n a)) (2 * sh + 1) (v2 g n a)) : DRL (clB nb k g n a) (clT nb ns k g n a) wi ro dr dt pe sh1 wo hf df pf sf1 kf := by
  subst hk
  rw [clT_w (by decide)]
  exact DRL_shelter hd h2 h.2 h.1
theorem cl_1 {m k : Int} (hk : k = wk g n (rnI pSp g n a)) (h : ¬ (1 ≤ k ∧ k ≤ 9)) (hf : f = 0) (e1 : f' = 1) (e2 : p' = rnI pSp g n a) : RdS (cF g n m a nb) (cP g n m a nb) (cA g n a nb) f p a' f' p' := by
  have eF : cF g n m a nb = 1 := by unfold cF kF; rw [← hk, if_pos h]
  have eP : cP g n m a nb = rnI pSp g n a := by unfold cP kP; rw [← hk, if_pos h]
  rw [eF, eP]
  exact ⟨fun w => absurd hf w, fun _ => ⟨e1, fun w => absurd w (by decide), fun _ => e2⟩⟩
theorem isFb_iff {k : Int} : isFb nb k = true ↔ isFl nb k := by
  unfold isFb isFl
  exact decide_eq_true_iff
theorem isFl_c {k : Int} (hd : DRL nb ns wi ro dr dt pe sh wo hf df pf sf kf) : isFl nb k ↔ (k = 3 ∧ dr = 6) ∨ (k = 4 ∧ pe = 8) ∨ (k = 5 ∧ sh = 2) ∨ (6 ≤ k ∧ k ≤ 9 ∧ wo = 8) := by
  obtain ⟨⟨z0, z1, z2, z3, z4, z5, z6⟩, -⟩ := hd
  unfold isFl
  rw [z2, z4, z5, z6]
theorem cl_3 {m k : Int} (hk : k = wk g n (rnI pSp g n a)) (h : 1 ≤ k ∧ k ≤ 9) (hm : m = 60 ∨ isFl nb k) (hf : f = 0) (e1 : f' = 3) (e2 : p' = rnI pSp g n a) : RdS (cF g n m a nb) (cP g n m a nb) (cA g n a nb) f p a' f' p' := by
  have hm2 : m = 60 ∨ isFb nb k = true := hm.imp id isFb_iff.mpr
  have eF : cF g n m a nb = 3 := by unfold cF kF; rw [← hk, if_neg (fun w => w h), if_pos hm2]
  have eP : cP g n m a nb = rnI pSp g n a := by unfold cP kP; rw [← hk, if_neg (fun w => w h), if_pos hm2]
  rw [eF, eP]
  exact ⟨fun w => absurd hf w, fun _ => ⟨e1, fun w => absurd w (by decide), fun _ => e2⟩⟩
theorem cl_4 {m k : Int} (hk : k = wk g n (rnI pSp g n a)) (h1 : k = 1) (hm : m ≠ 60) (h0 : 0 < m) (hf : f = 0) (e1 : f' = 4) (e2 : p' = rnI pSp g n a) : RdS (cF g n m a nb) (cP g n m a nb) (cA g n a nb) f p a' f' p' := by
  have h : 1 ≤ k ∧ k ≤ 9 := by omega
  have hm2 : ¬ (m = 60 ∨ isFb nb k = true) := by
    intro w
    rcases w with w | w
    · exact hm w
    · have := isFb_iff.mp w
      unfold isFl at this
      omega
  have eF : cF g n m a nb = 4 := by unfold cF kF; rw [← hk, if_neg (fun w => w h), if_neg hm2, if_pos ⟨h1, h0⟩]
  have eP : cP g n m a nb = rnI pSp g n a := by unfold cP kP; rw [← hk, if_neg (fun w => w h), if_neg hm2, if_pos ⟨h1, h0⟩]
  rw [eF, eP]
  exact ⟨fun w => absurd hf w, fun _ => ⟨e1, fun w => absurd w (by decide), fun _ => e2⟩⟩
theorem cl_ok {m k a1 a2 f2 p2 : Int} (hk : k = wk g n (rnI pSp g n a)) (h : 1 ≤ k ∧ k ≤ 9) (hm : m ≠ 60) (hn : ¬ isFl nb k) (h1 : ¬ (k = 1 ∧ 0 < m)) (ha : a1 = rnI pSm g n (rnI pSp g n a)) (hr : RdS (chF g n (clL nb k g n a1) a1) (chP g n (clL nb k g n a1) a1) (chA g n (clL nb k g n a1) a1) f p a2 f2 p2) (hs : SgP g n 59 a2 f2 p2 a' f' p') : RdS (cF g n m a nb) (cP g n m a nb) (cA g n a nb) f p a' f' p' := by
  have hm2 : ¬ (m = 60 ∨ isFb nb k = true) := fun w => w.elim hm (fun q => hn (isFb_iff.mp q))
  subst ha
  have q := RdS.seq (sgF g n 59) (rnI pSp g n) (fun x => rnI pSp g n x + 1) hr hs
  have eF : cF g n m a nb = thF (chF g n (clL nb k g n (rnI pSm g n (rnI pSp g n a))) (rnI pSm g n (rnI pSp g n a))) (sgF g n 59 (chA g n (clL nb k g n (rnI pSm g n (rnI pSp g n a))) (rnI pSm g n (rnI pSp g n a)))) := by unfold cF kF; rw [← hk, if_neg (fun w => w h), if_neg hm2, if_neg h1]
  have eP : cP g n m a nb = thP (chF g n (clL nb k g n (rnI pSm g n (rnI pSp g n a))) (rnI pSm g n (rnI pSp g n a))) (chP g n (clL nb k g n (rnI pSm g n (rnI pSp g n a))) (rnI pSm g n (rnI pSp g n a))) (rnI pSp g n (chA g n (clL nb k g n (rnI pSm g n (rnI pSp g n a))) (rnI pSm g n (rnI pSp g n a)))) := by unfold cP kP; rw [← hk, if_neg (fun w => w h), if_neg hm2, if_neg h1]
  have eA : cA g n a nb = rnI pSp g n (chA g n (clL nb k g n (rnI pSm g n (rnI pSp g n a))) (rnI pSm g n (rnI pSp g n a))) + 1 := by unfold cA kA; rw [← hk]
  rw [eF, eP, eA]
  exact q
theorem dl_ok {k a1 a2 f2 p2 wi1 ro1 dr1 dt1 pe1 sh1 wo1 : Int} {hf1 df1 pf1 sf1 kf1 : Nat → Int32} (hk : k = wk g n (rnI pSp g n a)) (ha : a1 = rnI pSm g n (rnI pSp g n a)) (h : f2 = 0 → DRL (clB nb k g n a1) (clT nb ns k g n a1) wi1 ro1 dr1 dt1 pe1 sh1 wo1 hf1 df1 pf1 sf1 kf1) (hs : SgP g n 59 a2 f2 p2 a' f' p') (q : f' = 0) : DRL (cB g n a nb) (cT g n a nb ns) wi1 ro1 dr1 dt1 pe1 sh1 wo1 hf1 df1 pf1 sf1 kf1 := by
  have h2 := h (hs.ok q).1
  rw [hk, ha] at h2
  exact h2
/-- ahead of clause q -/
def LpI (g : Nat → Int) (n q a f p wi ro dr dt pe sh wo : Int) (hf df pf sf kf : Nat → Int32) : Prop := ∃ nb ns : Nat → Int, StL g n q a f p nb ns (STV g n) ∧ (f = 0 → DRL nb ns wi ro dr dt pe sh wo hf df pf sf kf) ∧ (q = 0 → DF ns hf)
theorem LpI_0 (h : ∀ j : Nat, j < 96 → nz hf j = 50) : LpI g n 0 0 0 (-1) 8 3 0 0 0 0 0 hf df pf sf kf := ⟨nb0, ns0, StL_0, fun _ => (DRL_0 h).1, fun _ => (DRL_0 (hf := hf) (df := df) (pf := pf) (sf := sf) (kf := kf) h).2⟩
def SvP (g : Nat → Int) (n f p wi ro dr dt pe sh wo : Int) (hf df pf sf kf : Nat → Int32) : Prop := (f ≠ 0 → (STV g n).1 = (f, p)) ∧ (f = 0 → (STV g n).1 = (0, -1) ∧ DRL (STV g n).2.1 (STV g n).2.2 wi ro dr dt pe sh wo hf df pf sf kf)
theorem SvP_of {q r b : Int} (h : LpI g n q a f p wi ro dr dt pe sh wo hf df pf sf kf) (hm : HmS g n a f r b) (hr : r = 0) : SvP g n f p wi ro dr dt pe sh wo hf df pf sf kf := by
  obtain ⟨nb, ns, h1, h2, h3⟩ := h
  have h4 := StL_end h1 (by
    by_cases w : f = 0
    · obtain ⟨e1, e2, e3⟩ := hm.2 w
      rw [← e1]
      exact Or.inr (e3 hr)
    · exact Or.inl w)
  refine ⟨h4.1, fun w => ?_⟩
  rw [h4.2 w]
  exact ⟨rfl, h2 w⟩
theorem SvP_b {q : Int} (h : LpI g n q a f p wi ro dr dt pe sh wo hf df pf sf kf) (hf0 : f ≠ 0) : SvP g n f p wi ro dr dt pe sh wo hf df pf sf kf := by
  obtain ⟨nb, ns, h1, h2, h3⟩ := h
  exact ⟨h1.1, fun w => absurd w hf0⟩
end CLS
theorem rd_sh {g : Nat → Int} {n wi lo hi hi2 a f p v a1 f1 p1 w a' f' p' : Int} (h : NuP g n 0 hi a f p v a1 f1 p1) (k : NuP g n lo hi2 a1 f1 p1 w a' f' p') (e1 : hi = wi - 1 ∧ hi2 = wi - 1) (e2 : f1 = 0 → lo = v) : RdS (chF g n [(0, wi - 1), (nV g n a, wi - 1)] a) (chP g n [(0, wi - 1), (nV g n a, wi - 1)] a) (chA g n [(0, wi - 1), (nV g n a, wi - 1)] a) f p a' f' p' := by
  obtain ⟨e1, e3⟩ := e1
  subst e1 e3
  by_cases q : f1 = 0
  · have hv := (NuP.v h q).1
    rw [← hv, ← e2 q]
    exact ch_c h (ch_c k ch_n)
  · have h1 := h.1
    have k1 := k.1.1 q
    refine ⟨fun w => ?_, fun w => ?_⟩
    · have h2 := h1.1 w
      exact ⟨by omega, by omega⟩
    · obtain ⟨e4, e5, e6⟩ := h1.2 w
      have hF : nF g n a 0 (wi - 1) ≠ 0 := by omega
      have eF : chF g n [(0, wi - 1), (nV g n a, wi - 1)] a = nF g n a 0 (wi - 1) := if_neg hF
      have eP : chP g n [(0, wi - 1), (nV g n a, wi - 1)] a = rnI pSp g n a := if_neg hF
      rw [eF, eP]
      have h3 := e6 hF
      exact ⟨by omega, fun w => absurd w hF, fun _ => by omega⟩
