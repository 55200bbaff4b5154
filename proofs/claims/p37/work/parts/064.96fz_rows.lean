def txC : List (String × Nat) := [(RWd, 137), (RWd, 143), (RWd, 146), (RWd, 149), (RWd, 152), (RWd, 155), (RWd, 160), (RWd, 165), (RWd, 168), (RWd, 171), (RWd, 174), (RWd, 177), (RWd, 180), (RWd, 183), (RWd, 186), (RWd, 189), (RWd, 192), (RWd, 195), (RWd, 198), (RWd, 201), (RWd, 204), (RWd, 207), (RWd, 210), (RWd, 213), (RWd, 216), (RWd, 219), (RWd, 222), (RWd, 225), (RWd, 137), (RX12, 154), (RX12, 155), (RX12, 157), (RX12, 162), (RX12, 185), (RX12, 133), (RX12, 139), (RX12, 141), (RX12, 143), (RX12, 207), (RX12, 269), (RX12, 271), (RX12, 273), (RX12, 275), (RX12, 277), (RX12, 242), (RX12, 247), (RX12, 252), (RX12, 267), (RX12, 262), (RX12, 257), (RX12, 215), (RX12, 217), (RX12, 219), (RX12, 221), (RX12, 223), (RX12, 225)]
def txT (k : Nat) : Term := .string (txC.getD k ("", 0)).1 (txC.getD k ("", 0)).2
/-- the same atoms, told from the front -/
def flD : Cond → List Cond → List Cond
  | .and a b, l => flD a (flD b l)
  | c, l => c :: l
theorem flD_e (c : Cond) : ∀ l : List Cond, flatC c ++ l = flD c l := by
  induction c with
  | and a b iha ihb =>
    intro l
    show (flatC a ++ flatC b) ++ l = flD a (flD b l)
    rw [List.append_assoc, ihb, iha]
  | _ => intro l; rfl
theorem gv_mem {w : Cond} (h : w ∈ flD (Jvm.Cond.and given_1 narrow_1) []) : w ∈ flatC (Jvm.Cond.and given_1 narrow_1) := by
  rw [← flD_e, List.append_nil] at h
  exact h
def atP : List Bool → Cond → Cond
  | [], c => c
  | false :: p, .and a _ => atP p a
  | true :: p, .and _ b => atP p b
  | _ :: p, c => atP p c
theorem atP_mem : ∀ (p : List Bool) (c w : Cond), w ∈ flatC (atP p c) → w ∈ flatC c
  | [], _, _, h => h
  | q :: p, c, w, h => by
    cases c with
    | and a b =>
      cases q with
      | false => exact List.mem_append_left _ (atP_mem p a w h)
      | true => exact List.mem_append_right _ (atP_mem p b w h)
    | _ => cases q <;> exact atP_mem p _ w h
theorem gv_p {w : Cond} (p : List Bool) (h : flatC (atP p (Jvm.Cond.and given_1 narrow_1)) = [w]) : w ∈ flatC (Jvm.Cond.and given_1 narrow_1) := atP_mem p _ w (by rw [h]; exact List.mem_singleton.mpr rfl)
set_option maxRecDepth 1000000 in
theorem wo_ex_0 : Cond.exactly (.static RWd (wdN.getD 0 "") "LKerbSplash$Word;") RWd ∈ flatC (Jvm.Cond.and given_1 narrow_1) := gv_p [true, false, false, false, false, false, false, false, true, false, true] rfl
set_option maxRecDepth 1000000 in
theorem wo_fi3_0 : Cond.eq (.field (.static RWd (wdN.getD 0 "") "LKerbSplash$Word;") "java/lang/Enum" "ordinal" "I") (.int (Int32.ofNat 0)) ∈ flatC (Jvm.Cond.and given_1 narrow_1) := gv_p [true, false, false, false, false, false, false, false, true, true, false] rfl
set_option maxRecDepth 1000000 in
theorem wo_le_0 : Cond.eq (.field (.static RWd (wdN.getD 0 "") "LKerbSplash$Word;") RWd "letters" "Ljava/lang/String;") (txT 0) ∈ flatC (Jvm.Cond.and given_1 narrow_1) := gv_p [true, false, false, false, false, false, false, false, true, true, true] rfl
set_option maxRecDepth 1000000 in
theorem wo_fi0_0 : Cond.eq (.field (.static RWd (wdN.getD 0 "") "LKerbSplash$Word;") "KerbSplash$Word" "work" "I") (.int (iI (wdW.getD 0 0))) ∈ flatC (Jvm.Cond.and given_1 narrow_1) := gv_p [true, false, false, false, false, false, false, true, false, false] rfl
set_option maxRecDepth 1000000 in
theorem wo_fi1_0 : Cond.eq (.field (.static RWd (wdN.getD 0 "") "LKerbSplash$Word;") "KerbSplash$Word" "saying" "I") (.int (iI (wdS.getD 0 0))) ∈ flatC (Jvm.Cond.and given_1 narrow_1) := gv_p [true, false, false, false, false, false, false, true, false, true, false] rfl
set_option maxRecDepth 1000000 in
theorem wo_fi2_0 : Cond.eq (.field (.static RWd (wdN.getD 0 "") "LKerbSplash$Word;") "KerbSplash$Word" "name" "I") (.int (iI (wdM.getD 0 0))) ∈ flatC (Jvm.Cond.and given_1 narrow_1) := gv_p [true, false, false, false, false, false, false, true, false, true, true] rfl
set_option maxRecDepth 1000000 in
theorem wo_al_0 : Cond.eq (.elem (.static RWd "ALL" "[LKerbSplash$Word;") (.int (Int32.ofNat 0))) (.static RWd (wdN.getD 0 "") "LKerbSplash$Word;") ∈ flatC (Jvm.Cond.and given_1 narrow_1) := gv_p [true, false, false, false, false, false, true, false, false, true, false] rfl
set_option maxRecDepth 1000000 in
theorem wo_al_1 : Cond.eq (.elem (.static RWd "ALL" "[LKerbSplash$Word;") (.int (Int32.ofNat 1))) (.static RWd (wdN.getD 1 "") "LKerbSplash$Word;") ∈ flatC (Jvm.Cond.and given_1 narrow_1) := gv_p [true, false, false, false, false, false, true, false, false, true, true] rfl
set_option maxRecDepth 1000000 in
theorem wo_al_2 : Cond.eq (.elem (.static RWd "ALL" "[LKerbSplash$Word;") (.int (Int32.ofNat 2))) (.static RWd (wdN.getD 2 "") "LKerbSplash$Word;") ∈ flatC (Jvm.Cond.and given_1 narrow_1) := gv_p [true, false, false, false, false, false, true, false, true, false, false] rfl
set_option maxRecDepth 1000000 in
theorem wo_al_3 : Cond.eq (.elem (.static RWd "ALL" "[LKerbSplash$Word;") (.int (Int32.ofNat 3))) (.static RWd (wdN.getD 3 "") "LKerbSplash$Word;") ∈ flatC (Jvm.Cond.and given_1 narrow_1) := gv_p [true, false, false, false, false, false, true, false, true, false, true] rfl
set_option maxRecDepth 1000000 in
theorem wo_al_4 : Cond.eq (.elem (.static RWd "ALL" "[LKerbSplash$Word;") (.int (Int32.ofNat 4))) (.static RWd (wdN.getD 4 "") "LKerbSplash$Word;") ∈ flatC (Jvm.Cond.and given_1 narrow_1) := gv_p [true, false, false, false, false, false, true, false, true, true, false] rfl
set_option maxRecDepth 1000000 in
theorem wo_al_5 : Cond.eq (.elem (.static RWd "ALL" "[LKerbSplash$Word;") (.int (Int32.ofNat 5))) (.static RWd (wdN.getD 5 "") "LKerbSplash$Word;") ∈ flatC (Jvm.Cond.and given_1 narrow_1) := gv_p [true, false, false, false, false, false, true, false, true, true, true] rfl
set_option maxRecDepth 1000000 in
theorem wo_al_6 : Cond.eq (.elem (.static RWd "ALL" "[LKerbSplash$Word;") (.int (Int32.ofNat 6))) (.static RWd (wdN.getD 6 "") "LKerbSplash$Word;") ∈ flatC (Jvm.Cond.and given_1 narrow_1) := gv_p [true, false, false, false, false, false, true, true, false, false, false] rfl
set_option maxRecDepth 1000000 in
theorem wo_al_7 : Cond.eq (.elem (.static RWd "ALL" "[LKerbSplash$Word;") (.int (Int32.ofNat 7))) (.static RWd (wdN.getD 7 "") "LKerbSplash$Word;") ∈ flatC (Jvm.Cond.and given_1 narrow_1) := gv_p [true, false, false, false, false, false, true, true, false, false, true] rfl
set_option maxRecDepth 1000000 in
theorem wo_al_8 : Cond.eq (.elem (.static RWd "ALL" "[LKerbSplash$Word;") (.int (Int32.ofNat 8))) (.static RWd (wdN.getD 8 "") "LKerbSplash$Word;") ∈ flatC (Jvm.Cond.and given_1 narrow_1) := gv_p [true, false, false, false, false, false, true, true, false, true, false] rfl
set_option maxRecDepth 1000000 in
theorem wo_al_9 : Cond.eq (.elem (.static RWd "ALL" "[LKerbSplash$Word;") (.int (Int32.ofNat 9))) (.static RWd (wdN.getD 9 "") "LKerbSplash$Word;") ∈ flatC (Jvm.Cond.and given_1 narrow_1) := gv_p [true, false, false, false, false, false, true, true, false, true, true] rfl
set_option maxRecDepth 1000000 in
theorem wo_al_10 : Cond.eq (.elem (.static RWd "ALL" "[LKerbSplash$Word;") (.int (Int32.ofNat 10))) (.static RWd (wdN.getD 10 "") "LKerbSplash$Word;") ∈ flatC (Jvm.Cond.and given_1 narrow_1) := gv_p [true, false, false, false, false, false, true, true, true, false, false] rfl
set_option maxRecDepth 1000000 in
theorem wo_al_11 : Cond.eq (.elem (.static RWd "ALL" "[LKerbSplash$Word;") (.int (Int32.ofNat 11))) (.static RWd (wdN.getD 11 "") "LKerbSplash$Word;") ∈ flatC (Jvm.Cond.and given_1 narrow_1) := gv_p [true, false, false, false, false, false, true, true, true, false, true] rfl
set_option maxRecDepth 1000000 in
theorem wo_al_12 : Cond.eq (.elem (.static RWd "ALL" "[LKerbSplash$Word;") (.int (Int32.ofNat 12))) (.static RWd (wdN.getD 12 "") "LKerbSplash$Word;") ∈ flatC (Jvm.Cond.and given_1 narrow_1) := gv_p [true, false, false, false, false, false, true, true, true, true, false] rfl
set_option maxRecDepth 1000000 in
theorem wo_al_13 : Cond.eq (.elem (.static RWd "ALL" "[LKerbSplash$Word;") (.int (Int32.ofNat 13))) (.static RWd (wdN.getD 13 "") "LKerbSplash$Word;") ∈ flatC (Jvm.Cond.and given_1 narrow_1) := gv_p [true, false, false, false, false, false, true, true, true, true, true] rfl
set_option maxRecDepth 1000000 in
theorem wo_al_14 : Cond.eq (.elem (.static RWd "ALL" "[LKerbSplash$Word;") (.int (Int32.ofNat 14))) (.static RWd (wdN.getD 14 "") "LKerbSplash$Word;") ∈ flatC (Jvm.Cond.and given_1 narrow_1) := gv_p [true, false, false, false, false, true, false, false, false, false] rfl
set_option maxRecDepth 1000000 in
theorem wo_al_15 : Cond.eq (.elem (.static RWd "ALL" "[LKerbSplash$Word;") (.int (Int32.ofNat 15))) (.static RWd (wdN.getD 15 "") "LKerbSplash$Word;") ∈ flatC (Jvm.Cond.and given_1 narrow_1) := gv_p [true, false, false, false, false, true, false, false, false, true, false] rfl
set_option maxRecDepth 1000000 in
theorem wo_al_16 : Cond.eq (.elem (.static RWd "ALL" "[LKerbSplash$Word;") (.int (Int32.ofNat 16))) (.static RWd (wdN.getD 16 "") "LKerbSplash$Word;") ∈ flatC (Jvm.Cond.and given_1 narrow_1) := gv_p [true, false, false, false, false, true, false, false, false, true, true] rfl
set_option maxRecDepth 1000000 in
theorem wo_al_17 : Cond.eq (.elem (.static RWd "ALL" "[LKerbSplash$Word;") (.int (Int32.ofNat 17))) (.static RWd (wdN.getD 17 "") "LKerbSplash$Word;") ∈ flatC (Jvm.Cond.and given_1 narrow_1) := gv_p [true, false, false, false, false, true, false, false, true, false, false] rfl
set_option maxRecDepth 1000000 in
theorem wo_al_18 : Cond.eq (.elem (.static RWd "ALL" "[LKerbSplash$Word;") (.int (Int32.ofNat 18))) (.static RWd (wdN.getD 18 "") "LKerbSplash$Word;") ∈ flatC (Jvm.Cond.and given_1 narrow_1) := gv_p [true, false, false, false, false, true, false, false, true, false, true] rfl
set_option maxRecDepth 1000000 in
theorem wo_al_19 : Cond.eq (.elem (.static RWd "ALL" "[LKerbSplash$Word;") (.int (Int32.ofNat 19))) (.static RWd (wdN.getD 19 "") "LKerbSplash$Word;") ∈ flatC (Jvm.Cond.and given_1 narrow_1) := gv_p [true, false, false, false, false, true, false, false, true, true, false] rfl
set_option maxRecDepth 1000000 in
theorem wo_al_20 : Cond.eq (.elem (.static RWd "ALL" "[LKerbSplash$Word;") (.int (Int32.ofNat 20))) (.static RWd (wdN.getD 20 "") "LKerbSplash$Word;") ∈ flatC (Jvm.Cond.and given_1 narrow_1) := gv_p [true, false, false, false, false, true, false, false, true, true, true] rfl
set_option maxRecDepth 1000000 in
theorem wo_al_21 : Cond.eq (.elem (.static RWd "ALL" "[LKerbSplash$Word;") (.int (Int32.ofNat 21))) (.static RWd (wdN.getD 21 "") "LKerbSplash$Word;") ∈ flatC (Jvm.Cond.and given_1 narrow_1) := gv_p [true, false, false, false, false, true, false, true, false, false] rfl
set_option maxRecDepth 1000000 in
theorem wo_al_22 : Cond.eq (.elem (.static RWd "ALL" "[LKerbSplash$Word;") (.int (Int32.ofNat 22))) (.static RWd (wdN.getD 22 "") "LKerbSplash$Word;") ∈ flatC (Jvm.Cond.and given_1 narrow_1) := gv_p [true, false, false, false, false, true, false, true, false, true, false] rfl
set_option maxRecDepth 1000000 in
theorem wo_al_23 : Cond.eq (.elem (.static RWd "ALL" "[LKerbSplash$Word;") (.int (Int32.ofNat 23))) (.static RWd (wdN.getD 23 "") "LKerbSplash$Word;") ∈ flatC (Jvm.Cond.and given_1 narrow_1) := gv_p [true, false, false, false, false, true, false, true, false, true, true] rfl
set_option maxRecDepth 1000000 in
theorem wo_al_24 : Cond.eq (.elem (.static RWd "ALL" "[LKerbSplash$Word;") (.int (Int32.ofNat 24))) (.static RWd (wdN.getD 24 "") "LKerbSplash$Word;") ∈ flatC (Jvm.Cond.and given_1 narrow_1) := gv_p [true, false, false, false, false, true, false, true, true, false, false] rfl
set_option maxRecDepth 1000000 in
theorem wo_al_25 : Cond.eq (.elem (.static RWd "ALL" "[LKerbSplash$Word;") (.int (Int32.ofNat 25))) (.static RWd (wdN.getD 25 "") "LKerbSplash$Word;") ∈ flatC (Jvm.Cond.and given_1 narrow_1) := gv_p [true, false, false, false, false, true, false, true, true, false, true] rfl
set_option maxRecDepth 1000000 in
theorem wo_al_26 : Cond.eq (.elem (.static RWd "ALL" "[LKerbSplash$Word;") (.int (Int32.ofNat 26))) (.static RWd (wdN.getD 26 "") "LKerbSplash$Word;") ∈ flatC (Jvm.Cond.and given_1 narrow_1) := gv_p [true, false, false, false, false, true, false, true, true, true, false] rfl
set_option maxRecDepth 1000000 in
theorem wo_al_27 : Cond.eq (.elem (.static RWd "ALL" "[LKerbSplash$Word;") (.int (Int32.ofNat 27))) (.static RWd (wdN.getD 27 "") "LKerbSplash$Word;") ∈ flatC (Jvm.Cond.and given_1 narrow_1) := gv_p [true, false, false, false, false, true, false, true, true, true, true] rfl
set_option maxRecDepth 1000000 in
theorem wo_ex_1 : Cond.exactly (.static RWd (wdN.getD 1 "") "LKerbSplash$Word;") RWd ∈ flatC (Jvm.Cond.and given_1 narrow_1) := gv_p [true, false, false, false, false, true, true, false, true, true, false] rfl
set_option maxRecDepth 1000000 in
theorem wo_fi3_1 : Cond.eq (.field (.static RWd (wdN.getD 1 "") "LKerbSplash$Word;") "java/lang/Enum" "ordinal" "I") (.int (Int32.ofNat 1)) ∈ flatC (Jvm.Cond.and given_1 narrow_1) := gv_p [true, false, false, false, false, true, true, false, true, true, true] rfl
set_option maxRecDepth 1000000 in
theorem wo_le_1 : Cond.eq (.field (.static RWd (wdN.getD 1 "") "LKerbSplash$Word;") RWd "letters" "Ljava/lang/String;") (txT 1) ∈ flatC (Jvm.Cond.and given_1 narrow_1) := gv_p [true, false, false, false, false, true, true, true, false, false, false] rfl
set_option maxRecDepth 1000000 in
theorem wo_fi0_1 : Cond.eq (.field (.static RWd (wdN.getD 1 "") "LKerbSplash$Word;") "KerbSplash$Word" "work" "I") (.int (iI (wdW.getD 1 0))) ∈ flatC (Jvm.Cond.and given_1 narrow_1) := gv_p [true, false, false, false, false, true, true, true, false, false, true] rfl
set_option maxRecDepth 1000000 in
theorem wo_fi1_1 : Cond.eq (.field (.static RWd (wdN.getD 1 "") "LKerbSplash$Word;") "KerbSplash$Word" "saying" "I") (.int (iI (wdS.getD 1 0))) ∈ flatC (Jvm.Cond.and given_1 narrow_1) := gv_p [true, false, false, false, false, true, true, true, false, true, false] rfl
set_option maxRecDepth 1000000 in
theorem wo_fi2_1 : Cond.eq (.field (.static RWd (wdN.getD 1 "") "LKerbSplash$Word;") "KerbSplash$Word" "name" "I") (.int (iI (wdM.getD 1 0))) ∈ flatC (Jvm.Cond.and given_1 narrow_1) := gv_p [true, false, false, false, false, true, true, true, false, true, true] rfl
set_option maxRecDepth 1000000 in
theorem wo_ex_2 : Cond.exactly (.static RWd (wdN.getD 2 "") "LKerbSplash$Word;") RWd ∈ flatC (Jvm.Cond.and given_1 narrow_1) := gv_p [true, false, false, false, false, true, true, true, true, false, false] rfl
set_option maxRecDepth 1000000 in
theorem wo_fi3_2 : Cond.eq (.field (.static RWd (wdN.getD 2 "") "LKerbSplash$Word;") "java/lang/Enum" "ordinal" "I") (.int (Int32.ofNat 2)) ∈ flatC (Jvm.Cond.and given_1 narrow_1) := gv_p [true, false, false, false, false, true, true, true, true, false, true] rfl
set_option maxRecDepth 1000000 in
theorem wo_le_2 : Cond.eq (.field (.static RWd (wdN.getD 2 "") "LKerbSplash$Word;") RWd "letters" "Ljava/lang/String;") (txT 2) ∈ flatC (Jvm.Cond.and given_1 narrow_1) := gv_p [true, false, false, false, false, true, true, true, true, true, false] rfl
set_option maxRecDepth 1000000 in
theorem wo_fi0_2 : Cond.eq (.field (.static RWd (wdN.getD 2 "") "LKerbSplash$Word;") "KerbSplash$Word" "work" "I") (.int (iI (wdW.getD 2 0))) ∈ flatC (Jvm.Cond.and given_1 narrow_1) := gv_p [true, false, false, false, false, true, true, true, true, true, true] rfl
set_option maxRecDepth 1000000 in
theorem wo_fi1_2 : Cond.eq (.field (.static RWd (wdN.getD 2 "") "LKerbSplash$Word;") "KerbSplash$Word" "saying" "I") (.int (iI (wdS.getD 2 0))) ∈ flatC (Jvm.Cond.and given_1 narrow_1) := gv_p [true, false, false, false, true, false, false, false, false, false] rfl
set_option maxRecDepth 1000000 in
theorem wo_fi2_2 : Cond.eq (.field (.static RWd (wdN.getD 2 "") "LKerbSplash$Word;") "KerbSplash$Word" "name" "I") (.int (iI (wdM.getD 2 0))) ∈ flatC (Jvm.Cond.and given_1 narrow_1) := gv_p [true, false, false, false, true, false, false, false, false, true, false] rfl
set_option maxRecDepth 1000000 in
theorem wo_ex_3 : Cond.exactly (.static RWd (wdN.getD 3 "") "LKerbSplash$Word;") RWd ∈ flatC (Jvm.Cond.and given_1 narrow_1) := gv_p [true, false, false, false, true, false, false, false, false, true, true] rfl
set_option maxRecDepth 1000000 in
theorem wo_fi3_3 : Cond.eq (.field (.static RWd (wdN.getD 3 "") "LKerbSplash$Word;") "java/lang/Enum" "ordinal" "I") (.int (Int32.ofNat 3)) ∈ flatC (Jvm.Cond.and given_1 narrow_1) := gv_p [true, false, false, false, true, false, false, false, true, false, false] rfl
set_option maxRecDepth 1000000 in
theorem wo_le_3 : Cond.eq (.field (.static RWd (wdN.getD 3 "") "LKerbSplash$Word;") RWd "letters" "Ljava/lang/String;") (txT 3) ∈ flatC (Jvm.Cond.and given_1 narrow_1) := gv_p [true, false, false, false, true, false, false, false, true, false, true] rfl
set_option maxRecDepth 1000000 in
theorem wo_fi0_3 : Cond.eq (.field (.static RWd (wdN.getD 3 "") "LKerbSplash$Word;") "KerbSplash$Word" "work" "I") (.int (iI (wdW.getD 3 0))) ∈ flatC (Jvm.Cond.and given_1 narrow_1) := gv_p [true, false, false, false, true, false, false, false, true, true, false] rfl
set_option maxRecDepth 1000000 in
theorem wo_fi1_3 : Cond.eq (.field (.static RWd (wdN.getD 3 "") "LKerbSplash$Word;") "KerbSplash$Word" "saying" "I") (.int (iI (wdS.getD 3 0))) ∈ flatC (Jvm.Cond.and given_1 narrow_1) := gv_p [true, false, false, false, true, false, false, false, true, true, true] rfl
set_option maxRecDepth 1000000 in
theorem wo_fi2_3 : Cond.eq (.field (.static RWd (wdN.getD 3 "") "LKerbSplash$Word;") "KerbSplash$Word" "name" "I") (.int (iI (wdM.getD 3 0))) ∈ flatC (Jvm.Cond.and given_1 narrow_1) := gv_p [true, false, false, false, true, false, false, true, false, false] rfl
set_option maxRecDepth 1000000 in
theorem wo_ex_4 : Cond.exactly (.static RWd (wdN.getD 4 "") "LKerbSplash$Word;") RWd ∈ flatC (Jvm.Cond.and given_1 narrow_1) := gv_p [true, false, false, false, true, false, false, true, false, true, false] rfl
set_option maxRecDepth 1000000 in
theorem wo_fi3_4 : Cond.eq (.field (.static RWd (wdN.getD 4 "") "LKerbSplash$Word;") "java/lang/Enum" "ordinal" "I") (.int (Int32.ofNat 4)) ∈ flatC (Jvm.Cond.and given_1 narrow_1) := gv_p [true, false, false, false, true, false, false, true, false, true, true] rfl
set_option maxRecDepth 1000000 in
theorem wo_le_4 : Cond.eq (.field (.static RWd (wdN.getD 4 "") "LKerbSplash$Word;") RWd "letters" "Ljava/lang/String;") (txT 4) ∈ flatC (Jvm.Cond.and given_1 narrow_1) := gv_p [true, false, false, false, true, false, false, true, true, false, false] rfl
set_option maxRecDepth 1000000 in
theorem wo_fi0_4 : Cond.eq (.field (.static RWd (wdN.getD 4 "") "LKerbSplash$Word;") "KerbSplash$Word" "work" "I") (.int (iI (wdW.getD 4 0))) ∈ flatC (Jvm.Cond.and given_1 narrow_1) := gv_p [true, false, false, false, true, false, false, true, true, false, true] rfl
set_option maxRecDepth 1000000 in
theorem wo_fi1_4 : Cond.eq (.field (.static RWd (wdN.getD 4 "") "LKerbSplash$Word;") "KerbSplash$Word" "saying" "I") (.int (iI (wdS.getD 4 0))) ∈ flatC (Jvm.Cond.and given_1 narrow_1) := gv_p [true, false, false, false, true, false, false, true, true, true, false] rfl
set_option maxRecDepth 1000000 in
theorem wo_fi2_4 : Cond.eq (.field (.static RWd (wdN.getD 4 "") "LKerbSplash$Word;") "KerbSplash$Word" "name" "I") (.int (iI (wdM.getD 4 0))) ∈ flatC (Jvm.Cond.and given_1 narrow_1) := gv_p [true, false, false, false, true, false, false, true, true, true, true] rfl
set_option maxRecDepth 1000000 in
theorem wo_ex_5 : Cond.exactly (.static RWd (wdN.getD 5 "") "LKerbSplash$Word;") RWd ∈ flatC (Jvm.Cond.and given_1 narrow_1) := gv_p [true, false, false, false, true, false, true, false, false, false] rfl
set_option maxRecDepth 1000000 in
theorem wo_fi3_5 : Cond.eq (.field (.static RWd (wdN.getD 5 "") "LKerbSplash$Word;") "java/lang/Enum" "ordinal" "I") (.int (Int32.ofNat 5)) ∈ flatC (Jvm.Cond.and given_1 narrow_1) := gv_p [true, false, false, false, true, false, true, false, false, true, false] rfl
set_option maxRecDepth 1000000 in
theorem wo_le_5 : Cond.eq (.field (.static RWd (wdN.getD 5 "") "LKerbSplash$Word;") RWd "letters" "Ljava/lang/String;") (txT 5) ∈ flatC (Jvm.Cond.and given_1 narrow_1) := gv_p [true, false, false, false, true, false, true, false, false, true, true] rfl
set_option maxRecDepth 1000000 in
theorem wo_fi0_5 : Cond.eq (.field (.static RWd (wdN.getD 5 "") "LKerbSplash$Word;") "KerbSplash$Word" "work" "I") (.int (iI (wdW.getD 5 0))) ∈ flatC (Jvm.Cond.and given_1 narrow_1) := gv_p [true, false, false, false, true, false, true, false, true, false, false] rfl
set_option maxRecDepth 1000000 in
theorem wo_fi1_5 : Cond.eq (.field (.static RWd (wdN.getD 5 "") "LKerbSplash$Word;") "KerbSplash$Word" "saying" "I") (.int (iI (wdS.getD 5 0))) ∈ flatC (Jvm.Cond.and given_1 narrow_1) := gv_p [true, false, false, false, true, false, true, false, true, false, true] rfl
set_option maxRecDepth 1000000 in
theorem wo_fi2_5 : Cond.eq (.field (.static RWd (wdN.getD 5 "") "LKerbSplash$Word;") "KerbSplash$Word" "name" "I") (.int (iI (wdM.getD 5 0))) ∈ flatC (Jvm.Cond.and given_1 narrow_1) := gv_p [true, false, false, false, true, false, true, false, true, true, false] rfl
set_option maxRecDepth 1000000 in
theorem wo_ex_10 : Cond.exactly (.static RWd (wdN.getD 10 "") "LKerbSplash$Word;") RWd ∈ flatC (Jvm.Cond.and given_1 narrow_1) := gv_p [true, false, false, false, true, false, true, false, true, true, true] rfl
set_option maxRecDepth 1000000 in
theorem wo_fi3_10 : Cond.eq (.field (.static RWd (wdN.getD 10 "") "LKerbSplash$Word;") "java/lang/Enum" "ordinal" "I") (.int (Int32.ofNat 10)) ∈ flatC (Jvm.Cond.and given_1 narrow_1) := gv_p [true, false, false, false, true, false, true, true, false, false, false] rfl
set_option maxRecDepth 1000000 in
theorem wo_le_10 : Cond.eq (.field (.static RWd (wdN.getD 10 "") "LKerbSplash$Word;") RWd "letters" "Ljava/lang/String;") (txT 10) ∈ flatC (Jvm.Cond.and given_1 narrow_1) := gv_p [true, false, false, false, true, false, true, true, false, false, true] rfl
set_option maxRecDepth 1000000 in
theorem wo_fi0_10 : Cond.eq (.field (.static RWd (wdN.getD 10 "") "LKerbSplash$Word;") "KerbSplash$Word" "work" "I") (.int (iI (wdW.getD 10 0))) ∈ flatC (Jvm.Cond.and given_1 narrow_1) := gv_p [true, false, false, false, true, false, true, true, false, true, false] rfl
set_option maxRecDepth 1000000 in
theorem wo_fi1_10 : Cond.eq (.field (.static RWd (wdN.getD 10 "") "LKerbSplash$Word;") "KerbSplash$Word" "saying" "I") (.int (iI (wdS.getD 10 0))) ∈ flatC (Jvm.Cond.and given_1 narrow_1) := gv_p [true, false, false, false, true, false, true, true, false, true, true] rfl
set_option maxRecDepth 1000000 in
theorem wo_fi2_10 : Cond.eq (.field (.static RWd (wdN.getD 10 "") "LKerbSplash$Word;") "KerbSplash$Word" "name" "I") (.int (iI (wdM.getD 10 0))) ∈ flatC (Jvm.Cond.and given_1 narrow_1) := gv_p [true, false, false, false, true, false, true, true, true, false, false] rfl
set_option maxRecDepth 1000000 in
theorem wo_ex_16 : Cond.exactly (.static RWd (wdN.getD 16 "") "LKerbSplash$Word;") RWd ∈ flatC (Jvm.Cond.and given_1 narrow_1) := gv_p [true, false, false, false, true, false, true, true, true, false, true] rfl
set_option maxRecDepth 1000000 in
theorem wo_fi3_16 : Cond.eq (.field (.static RWd (wdN.getD 16 "") "LKerbSplash$Word;") "java/lang/Enum" "ordinal" "I") (.int (Int32.ofNat 16)) ∈ flatC (Jvm.Cond.and given_1 narrow_1) := gv_p [true, false, false, false, true, false, true, true, true, true, false] rfl
set_option maxRecDepth 1000000 in
theorem wo_le_16 : Cond.eq (.field (.static RWd (wdN.getD 16 "") "LKerbSplash$Word;") RWd "letters" "Ljava/lang/String;") (txT 16) ∈ flatC (Jvm.Cond.and given_1 narrow_1) := gv_p [true, false, false, false, true, false, true, true, true, true, true] rfl
set_option maxRecDepth 1000000 in
theorem wo_fi0_16 : Cond.eq (.field (.static RWd (wdN.getD 16 "") "LKerbSplash$Word;") "KerbSplash$Word" "work" "I") (.int (iI (wdW.getD 16 0))) ∈ flatC (Jvm.Cond.and given_1 narrow_1) := gv_p [true, false, false, false, true, true, false, false, false, false] rfl
set_option maxRecDepth 1000000 in
theorem wo_fi1_16 : Cond.eq (.field (.static RWd (wdN.getD 16 "") "LKerbSplash$Word;") "KerbSplash$Word" "saying" "I") (.int (iI (wdS.getD 16 0))) ∈ flatC (Jvm.Cond.and given_1 narrow_1) := gv_p [true, false, false, false, true, true, false, false, false, true, false] rfl
set_option maxRecDepth 1000000 in
theorem wo_fi2_16 : Cond.eq (.field (.static RWd (wdN.getD 16 "") "LKerbSplash$Word;") "KerbSplash$Word" "name" "I") (.int (iI (wdM.getD 16 0))) ∈ flatC (Jvm.Cond.and given_1 narrow_1) := gv_p [true, false, false, false, true, true, false, false, false, true, true] rfl
set_option maxRecDepth 1000000 in
theorem wo_ex_21 : Cond.exactly (.static RWd (wdN.getD 21 "") "LKerbSplash$Word;") RWd ∈ flatC (Jvm.Cond.and given_1 narrow_1) := gv_p [true, false, false, false, true, true, false, false, true, false, false] rfl
set_option maxRecDepth 1000000 in
theorem wo_fi3_21 : Cond.eq (.field (.static RWd (wdN.getD 21 "") "LKerbSplash$Word;") "java/lang/Enum" "ordinal" "I") (.int (Int32.ofNat 21)) ∈ flatC (Jvm.Cond.and given_1 narrow_1) := gv_p [true, false, false, false, true, true, false, false, true, false, true] rfl
set_option maxRecDepth 1000000 in
theorem wo_le_21 : Cond.eq (.field (.static RWd (wdN.getD 21 "") "LKerbSplash$Word;") RWd "letters" "Ljava/lang/String;") (txT 21) ∈ flatC (Jvm.Cond.and given_1 narrow_1) := gv_p [true, false, false, false, true, true, false, false, true, true, false] rfl
set_option maxRecDepth 1000000 in
theorem wo_fi0_21 : Cond.eq (.field (.static RWd (wdN.getD 21 "") "LKerbSplash$Word;") "KerbSplash$Word" "work" "I") (.int (iI (wdW.getD 21 0))) ∈ flatC (Jvm.Cond.and given_1 narrow_1) := gv_p [true, false, false, false, true, true, false, false, true, true, true] rfl
set_option maxRecDepth 1000000 in
theorem wo_fi1_21 : Cond.eq (.field (.static RWd (wdN.getD 21 "") "LKerbSplash$Word;") "KerbSplash$Word" "saying" "I") (.int (iI (wdS.getD 21 0))) ∈ flatC (Jvm.Cond.and given_1 narrow_1) := gv_p [true, false, false, false, true, true, false, true, false, false] rfl
set_option maxRecDepth 1000000 in
theorem wo_fi2_21 : Cond.eq (.field (.static RWd (wdN.getD 21 "") "LKerbSplash$Word;") "KerbSplash$Word" "name" "I") (.int (iI (wdM.getD 21 0))) ∈ flatC (Jvm.Cond.and given_1 narrow_1) := gv_p [true, false, false, false, true, true, false, true, false, true, false] rfl
set_option maxRecDepth 1000000 in
theorem wo_ex_20 : Cond.exactly (.static RWd (wdN.getD 20 "") "LKerbSplash$Word;") RWd ∈ flatC (Jvm.Cond.and given_1 narrow_1) := gv_p [true, false, false, false, true, true, false, true, false, true, true] rfl
set_option maxRecDepth 1000000 in
theorem wo_fi3_20 : Cond.eq (.field (.static RWd (wdN.getD 20 "") "LKerbSplash$Word;") "java/lang/Enum" "ordinal" "I") (.int (Int32.ofNat 20)) ∈ flatC (Jvm.Cond.and given_1 narrow_1) := gv_p [true, false, false, false, true, true, false, true, true, false, false] rfl
set_option maxRecDepth 1000000 in
theorem wo_le_20 : Cond.eq (.field (.static RWd (wdN.getD 20 "") "LKerbSplash$Word;") RWd "letters" "Ljava/lang/String;") (txT 20) ∈ flatC (Jvm.Cond.and given_1 narrow_1) := gv_p [true, false, false, false, true, true, false, true, true, false, true] rfl
set_option maxRecDepth 1000000 in
theorem wo_fi0_20 : Cond.eq (.field (.static RWd (wdN.getD 20 "") "LKerbSplash$Word;") "KerbSplash$Word" "work" "I") (.int (iI (wdW.getD 20 0))) ∈ flatC (Jvm.Cond.and given_1 narrow_1) := gv_p [true, false, false, false, true, true, false, true, true, true, false] rfl
set_option maxRecDepth 1000000 in
theorem wo_fi1_20 : Cond.eq (.field (.static RWd (wdN.getD 20 "") "LKerbSplash$Word;") "KerbSplash$Word" "saying" "I") (.int (iI (wdS.getD 20 0))) ∈ flatC (Jvm.Cond.and given_1 narrow_1) := gv_p [true, false, false, false, true, true, false, true, true, true, true] rfl
set_option maxRecDepth 1000000 in
theorem wo_fi2_20 : Cond.eq (.field (.static RWd (wdN.getD 20 "") "LKerbSplash$Word;") "KerbSplash$Word" "name" "I") (.int (iI (wdM.getD 20 0))) ∈ flatC (Jvm.Cond.and given_1 narrow_1) := gv_p [true, false, false, false, true, true, true, false, false, false] rfl
set_option maxRecDepth 1000000 in
theorem wo_ex_19 : Cond.exactly (.static RWd (wdN.getD 19 "") "LKerbSplash$Word;") RWd ∈ flatC (Jvm.Cond.and given_1 narrow_1) := gv_p [true, false, false, false, true, true, true, false, false, true, false] rfl
set_option maxRecDepth 1000000 in
theorem wo_fi3_19 : Cond.eq (.field (.static RWd (wdN.getD 19 "") "LKerbSplash$Word;") "java/lang/Enum" "ordinal" "I") (.int (Int32.ofNat 19)) ∈ flatC (Jvm.Cond.and given_1 narrow_1) := gv_p [true, false, false, false, true, true, true, false, false, true, true] rfl
set_option maxRecDepth 1000000 in
theorem wo_le_19 : Cond.eq (.field (.static RWd (wdN.getD 19 "") "LKerbSplash$Word;") RWd "letters" "Ljava/lang/String;") (txT 19) ∈ flatC (Jvm.Cond.and given_1 narrow_1) := gv_p [true, false, false, false, true, true, true, false, true, false, false] rfl
set_option maxRecDepth 1000000 in
theorem wo_fi0_19 : Cond.eq (.field (.static RWd (wdN.getD 19 "") "LKerbSplash$Word;") "KerbSplash$Word" "work" "I") (.int (iI (wdW.getD 19 0))) ∈ flatC (Jvm.Cond.and given_1 narrow_1) := gv_p [true, false, false, false, true, true, true, false, true, false, true] rfl
set_option maxRecDepth 1000000 in
theorem wo_fi1_19 : Cond.eq (.field (.static RWd (wdN.getD 19 "") "LKerbSplash$Word;") "KerbSplash$Word" "saying" "I") (.int (iI (wdS.getD 19 0))) ∈ flatC (Jvm.Cond.and given_1 narrow_1) := gv_p [true, false, false, false, true, true, true, false, true, true, false] rfl
set_option maxRecDepth 1000000 in
theorem wo_fi2_19 : Cond.eq (.field (.static RWd (wdN.getD 19 "") "LKerbSplash$Word;") "KerbSplash$Word" "name" "I") (.int (iI (wdM.getD 19 0))) ∈ flatC (Jvm.Cond.and given_1 narrow_1) := gv_p [true, false, false, false, true, true, true, false, true, true, true] rfl
set_option maxRecDepth 1000000 in
theorem wo_ex_17 : Cond.exactly (.static RWd (wdN.getD 17 "") "LKerbSplash$Word;") RWd ∈ flatC (Jvm.Cond.and given_1 narrow_1) := gv_p [true, false, false, false, true, true, true, true, false, false, false] rfl
set_option maxRecDepth 1000000 in
theorem wo_fi3_17 : Cond.eq (.field (.static RWd (wdN.getD 17 "") "LKerbSplash$Word;") "java/lang/Enum" "ordinal" "I") (.int (Int32.ofNat 17)) ∈ flatC (Jvm.Cond.and given_1 narrow_1) := gv_p [true, false, false, false, true, true, true, true, false, false, true] rfl
set_option maxRecDepth 1000000 in
theorem wo_le_17 : Cond.eq (.field (.static RWd (wdN.getD 17 "") "LKerbSplash$Word;") RWd "letters" "Ljava/lang/String;") (txT 17) ∈ flatC (Jvm.Cond.and given_1 narrow_1) := gv_p [true, false, false, false, true, true, true, true, false, true, false] rfl
set_option maxRecDepth 1000000 in
theorem wo_fi0_17 : Cond.eq (.field (.static RWd (wdN.getD 17 "") "LKerbSplash$Word;") "KerbSplash$Word" "work" "I") (.int (iI (wdW.getD 17 0))) ∈ flatC (Jvm.Cond.and given_1 narrow_1) := gv_p [true, false, false, false, true, true, true, true, false, true, true] rfl
set_option maxRecDepth 1000000 in
theorem wo_fi1_17 : Cond.eq (.field (.static RWd (wdN.getD 17 "") "LKerbSplash$Word;") "KerbSplash$Word" "saying" "I") (.int (iI (wdS.getD 17 0))) ∈ flatC (Jvm.Cond.and given_1 narrow_1) := gv_p [true, false, false, false, true, true, true, true, true, false, false] rfl
set_option maxRecDepth 1000000 in
theorem wo_fi2_17 : Cond.eq (.field (.static RWd (wdN.getD 17 "") "LKerbSplash$Word;") "KerbSplash$Word" "name" "I") (.int (iI (wdM.getD 17 0))) ∈ flatC (Jvm.Cond.and given_1 narrow_1) := gv_p [true, false, false, false, true, true, true, true, true, false, true] rfl
set_option maxRecDepth 1000000 in
theorem wo_ex_18 : Cond.exactly (.static RWd (wdN.getD 18 "") "LKerbSplash$Word;") RWd ∈ flatC (Jvm.Cond.and given_1 narrow_1) := gv_p [true, false, false, false, true, true, true, true, true, true, false] rfl
set_option maxRecDepth 1000000 in
theorem wo_fi3_18 : Cond.eq (.field (.static RWd (wdN.getD 18 "") "LKerbSplash$Word;") "java/lang/Enum" "ordinal" "I") (.int (Int32.ofNat 18)) ∈ flatC (Jvm.Cond.and given_1 narrow_1) := gv_p [true, false, false, false, true, true, true, true, true, true, true] rfl
set_option maxRecDepth 1000000 in
theorem wo_le_18 : Cond.eq (.field (.static RWd (wdN.getD 18 "") "LKerbSplash$Word;") RWd "letters" "Ljava/lang/String;") (txT 18) ∈ flatC (Jvm.Cond.and given_1 narrow_1) := gv_p [true, false, false, true, false, false, false, false, false, false] rfl
set_option maxRecDepth 1000000 in
theorem wo_fi0_18 : Cond.eq (.field (.static RWd (wdN.getD 18 "") "LKerbSplash$Word;") "KerbSplash$Word" "work" "I") (.int (iI (wdW.getD 18 0))) ∈ flatC (Jvm.Cond.and given_1 narrow_1) := gv_p [true, false, false, true, false, false, false, false, false, true, false] rfl
set_option maxRecDepth 1000000 in
theorem wo_fi1_18 : Cond.eq (.field (.static RWd (wdN.getD 18 "") "LKerbSplash$Word;") "KerbSplash$Word" "saying" "I") (.int (iI (wdS.getD 18 0))) ∈ flatC (Jvm.Cond.and given_1 narrow_1) := gv_p [true, false, false, true, false, false, false, false, false, true, true] rfl
set_option maxRecDepth 1000000 in
theorem wo_fi2_18 : Cond.eq (.field (.static RWd (wdN.getD 18 "") "LKerbSplash$Word;") "KerbSplash$Word" "name" "I") (.int (iI (wdM.getD 18 0))) ∈ flatC (Jvm.Cond.and given_1 narrow_1) := gv_p [true, false, false, true, false, false, false, false, true, false, false] rfl
set_option maxRecDepth 1000000 in
theorem wo_ex_6 : Cond.exactly (.static RWd (wdN.getD 6 "") "LKerbSplash$Word;") RWd ∈ flatC (Jvm.Cond.and given_1 narrow_1) := gv_p [true, false, false, true, false, false, false, false, true, false, true] rfl
set_option maxRecDepth 1000000 in
theorem wo_fi3_6 : Cond.eq (.field (.static RWd (wdN.getD 6 "") "LKerbSplash$Word;") "java/lang/Enum" "ordinal" "I") (.int (Int32.ofNat 6)) ∈ flatC (Jvm.Cond.and given_1 narrow_1) := gv_p [true, false, false, true, false, false, false, false, true, true, false] rfl
set_option maxRecDepth 1000000 in
theorem wo_le_6 : Cond.eq (.field (.static RWd (wdN.getD 6 "") "LKerbSplash$Word;") RWd "letters" "Ljava/lang/String;") (txT 6) ∈ flatC (Jvm.Cond.and given_1 narrow_1) := gv_p [true, false, false, true, false, false, false, false, true, true, true] rfl
set_option maxRecDepth 1000000 in
theorem wo_fi0_6 : Cond.eq (.field (.static RWd (wdN.getD 6 "") "LKerbSplash$Word;") "KerbSplash$Word" "work" "I") (.int (iI (wdW.getD 6 0))) ∈ flatC (Jvm.Cond.and given_1 narrow_1) := gv_p [true, false, false, true, false, false, false, true, false, false] rfl
set_option maxRecDepth 1000000 in
theorem wo_fi1_6 : Cond.eq (.field (.static RWd (wdN.getD 6 "") "LKerbSplash$Word;") "KerbSplash$Word" "saying" "I") (.int (iI (wdS.getD 6 0))) ∈ flatC (Jvm.Cond.and given_1 narrow_1) := gv_p [true, false, false, true, false, false, false, true, false, true, false] rfl
set_option maxRecDepth 1000000 in
theorem wo_fi2_6 : Cond.eq (.field (.static RWd (wdN.getD 6 "") "LKerbSplash$Word;") "KerbSplash$Word" "name" "I") (.int (iI (wdM.getD 6 0))) ∈ flatC (Jvm.Cond.and given_1 narrow_1) := gv_p [true, false, false, true, false, false, false, true, false, true, true] rfl
set_option maxRecDepth 1000000 in
theorem wo_ex_7 : Cond.exactly (.static RWd (wdN.getD 7 "") "LKerbSplash$Word;") RWd ∈ flatC (Jvm.Cond.and given_1 narrow_1) := gv_p [true, false, false, true, false, false, false, true, true, false, false] rfl
set_option maxRecDepth 1000000 in
theorem wo_fi3_7 : Cond.eq (.field (.static RWd (wdN.getD 7 "") "LKerbSplash$Word;") "java/lang/Enum" "ordinal" "I") (.int (Int32.ofNat 7)) ∈ flatC (Jvm.Cond.and given_1 narrow_1) := gv_p [true, false, false, true, false, false, false, true, true, false, true] rfl
set_option maxRecDepth 1000000 in
theorem wo_le_7 : Cond.eq (.field (.static RWd (wdN.getD 7 "") "LKerbSplash$Word;") RWd "letters" "Ljava/lang/String;") (txT 7) ∈ flatC (Jvm.Cond.and given_1 narrow_1) := gv_p [true, false, false, true, false, false, false, true, true, true, false] rfl
set_option maxRecDepth 1000000 in
theorem wo_fi0_7 : Cond.eq (.field (.static RWd (wdN.getD 7 "") "LKerbSplash$Word;") "KerbSplash$Word" "work" "I") (.int (iI (wdW.getD 7 0))) ∈ flatC (Jvm.Cond.and given_1 narrow_1) := gv_p [true, false, false, true, false, false, false, true, true, true, true] rfl
set_option maxRecDepth 1000000 in
theorem wo_fi1_7 : Cond.eq (.field (.static RWd (wdN.getD 7 "") "LKerbSplash$Word;") "KerbSplash$Word" "saying" "I") (.int (iI (wdS.getD 7 0))) ∈ flatC (Jvm.Cond.and given_1 narrow_1) := gv_p [true, false, false, true, false, false, true, false, false, false] rfl
set_option maxRecDepth 1000000 in
theorem wo_fi2_7 : Cond.eq (.field (.static RWd (wdN.getD 7 "") "LKerbSplash$Word;") "KerbSplash$Word" "name" "I") (.int (iI (wdM.getD 7 0))) ∈ flatC (Jvm.Cond.and given_1 narrow_1) := gv_p [true, false, false, true, false, false, true, false, false, true, false] rfl
set_option maxRecDepth 1000000 in
theorem wo_ex_8 : Cond.exactly (.static RWd (wdN.getD 8 "") "LKerbSplash$Word;") RWd ∈ flatC (Jvm.Cond.and given_1 narrow_1) := gv_p [true, false, false, true, false, false, true, false, false, true, true] rfl
set_option maxRecDepth 1000000 in
theorem wo_fi3_8 : Cond.eq (.field (.static RWd (wdN.getD 8 "") "LKerbSplash$Word;") "java/lang/Enum" "ordinal" "I") (.int (Int32.ofNat 8)) ∈ flatC (Jvm.Cond.and given_1 narrow_1) := gv_p [true, false, false, true, false, false, true, false, true, false, false] rfl
set_option maxRecDepth 1000000 in
theorem wo_le_8 : Cond.eq (.field (.static RWd (wdN.getD 8 "") "LKerbSplash$Word;") RWd "letters" "Ljava/lang/String;") (txT 8) ∈ flatC (Jvm.Cond.and given_1 narrow_1) := gv_p [true, false, false, true, false, false, true, false, true, false, true] rfl
set_option maxRecDepth 1000000 in
theorem wo_fi0_8 : Cond.eq (.field (.static RWd (wdN.getD 8 "") "LKerbSplash$Word;") "KerbSplash$Word" "work" "I") (.int (iI (wdW.getD 8 0))) ∈ flatC (Jvm.Cond.and given_1 narrow_1) := gv_p [true, false, false, true, false, false, true, false, true, true, false] rfl
set_option maxRecDepth 1000000 in
theorem wo_fi1_8 : Cond.eq (.field (.static RWd (wdN.getD 8 "") "LKerbSplash$Word;") "KerbSplash$Word" "saying" "I") (.int (iI (wdS.getD 8 0))) ∈ flatC (Jvm.Cond.and given_1 narrow_1) := gv_p [true, false, false, true, false, false, true, false, true, true, true] rfl
set_option maxRecDepth 1000000 in
theorem wo_fi2_8 : Cond.eq (.field (.static RWd (wdN.getD 8 "") "LKerbSplash$Word;") "KerbSplash$Word" "name" "I") (.int (iI (wdM.getD 8 0))) ∈ flatC (Jvm.Cond.and given_1 narrow_1) := gv_p [true, false, false, true, false, false, true, true, false, false, false] rfl
set_option maxRecDepth 1000000 in
theorem wo_ex_9 : Cond.exactly (.static RWd (wdN.getD 9 "") "LKerbSplash$Word;") RWd ∈ flatC (Jvm.Cond.and given_1 narrow_1) := gv_p [true, false, false, true, false, false, true, true, false, false, true] rfl
set_option maxRecDepth 1000000 in
theorem wo_fi3_9 : Cond.eq (.field (.static RWd (wdN.getD 9 "") "LKerbSplash$Word;") "java/lang/Enum" "ordinal" "I") (.int (Int32.ofNat 9)) ∈ flatC (Jvm.Cond.and given_1 narrow_1) := gv_p [true, false, false, true, false, false, true, true, false, true, false] rfl
set_option maxRecDepth 1000000 in
theorem wo_le_9 : Cond.eq (.field (.static RWd (wdN.getD 9 "") "LKerbSplash$Word;") RWd "letters" "Ljava/lang/String;") (txT 9) ∈ flatC (Jvm.Cond.and given_1 narrow_1) := gv_p [true, false, false, true, false, false, true, true, false, true, true] rfl
set_option maxRecDepth 1000000 in
theorem wo_fi0_9 : Cond.eq (.field (.static RWd (wdN.getD 9 "") "LKerbSplash$Word;") "KerbSplash$Word" "work" "I") (.int (iI (wdW.getD 9 0))) ∈ flatC (Jvm.Cond.and given_1 narrow_1) := gv_p [true, false, false, true, false, false, true, true, true, false, false] rfl
set_option maxRecDepth 1000000 in
theorem wo_fi1_9 : Cond.eq (.field (.static RWd (wdN.getD 9 "") "LKerbSplash$Word;") "KerbSplash$Word" "saying" "I") (.int (iI (wdS.getD 9 0))) ∈ flatC (Jvm.Cond.and given_1 narrow_1) := gv_p [true, false, false, true, false, false, true, true, true, false, true] rfl
set_option maxRecDepth 1000000 in
theorem wo_fi2_9 : Cond.eq (.field (.static RWd (wdN.getD 9 "") "LKerbSplash$Word;") "KerbSplash$Word" "name" "I") (.int (iI (wdM.getD 9 0))) ∈ flatC (Jvm.Cond.and given_1 narrow_1) := gv_p [true, false, false, true, false, false, true, true, true, true, false] rfl
set_option maxRecDepth 1000000 in
theorem wo_ex_11 : Cond.exactly (.static RWd (wdN.getD 11 "") "LKerbSplash$Word;") RWd ∈ flatC (Jvm.Cond.and given_1 narrow_1) := gv_p [true, false, false, true, false, false, true, true, true, true, true] rfl
set_option maxRecDepth 1000000 in
theorem wo_fi3_11 : Cond.eq (.field (.static RWd (wdN.getD 11 "") "LKerbSplash$Word;") "java/lang/Enum" "ordinal" "I") (.int (Int32.ofNat 11)) ∈ flatC (Jvm.Cond.and given_1 narrow_1) := gv_p [true, false, false, true, false, true, false, false, false, false] rfl
set_option maxRecDepth 1000000 in
theorem wo_le_11 : Cond.eq (.field (.static RWd (wdN.getD 11 "") "LKerbSplash$Word;") RWd "letters" "Ljava/lang/String;") (txT 11) ∈ flatC (Jvm.Cond.and given_1 narrow_1) := gv_p [true, false, false, true, false, true, false, false, false, true, false] rfl
set_option maxRecDepth 1000000 in
theorem wo_fi0_11 : Cond.eq (.field (.static RWd (wdN.getD 11 "") "LKerbSplash$Word;") "KerbSplash$Word" "work" "I") (.int (iI (wdW.getD 11 0))) ∈ flatC (Jvm.Cond.and given_1 narrow_1) := gv_p [true, false, false, true, false, true, false, false, false, true, true] rfl
set_option maxRecDepth 1000000 in
theorem wo_fi1_11 : Cond.eq (.field (.static RWd (wdN.getD 11 "") "LKerbSplash$Word;") "KerbSplash$Word" "saying" "I") (.int (iI (wdS.getD 11 0))) ∈ flatC (Jvm.Cond.and given_1 narrow_1) := gv_p [true, false, false, true, false, true, false, false, true, false, false] rfl
set_option maxRecDepth 1000000 in
theorem wo_fi2_11 : Cond.eq (.field (.static RWd (wdN.getD 11 "") "LKerbSplash$Word;") "KerbSplash$Word" "name" "I") (.int (iI (wdM.getD 11 0))) ∈ flatC (Jvm.Cond.and given_1 narrow_1) := gv_p [true, false, false, true, false, true, false, false, true, false, true] rfl
set_option maxRecDepth 1000000 in
theorem wo_ex_12 : Cond.exactly (.static RWd (wdN.getD 12 "") "LKerbSplash$Word;") RWd ∈ flatC (Jvm.Cond.and given_1 narrow_1) := gv_p [true, false, false, true, false, true, false, false, true, true, false] rfl
set_option maxRecDepth 1000000 in
theorem wo_fi3_12 : Cond.eq (.field (.static RWd (wdN.getD 12 "") "LKerbSplash$Word;") "java/lang/Enum" "ordinal" "I") (.int (Int32.ofNat 12)) ∈ flatC (Jvm.Cond.and given_1 narrow_1) := gv_p [true, false, false, true, false, true, false, false, true, true, true] rfl
set_option maxRecDepth 1000000 in
theorem wo_le_12 : Cond.eq (.field (.static RWd (wdN.getD 12 "") "LKerbSplash$Word;") RWd "letters" "Ljava/lang/String;") (txT 12) ∈ flatC (Jvm.Cond.and given_1 narrow_1) := gv_p [true, false, false, true, false, true, false, true, false, false] rfl
set_option maxRecDepth 1000000 in
theorem wo_fi0_12 : Cond.eq (.field (.static RWd (wdN.getD 12 "") "LKerbSplash$Word;") "KerbSplash$Word" "work" "I") (.int (iI (wdW.getD 12 0))) ∈ flatC (Jvm.Cond.and given_1 narrow_1) := gv_p [true, false, false, true, false, true, false, true, false, true, false] rfl
set_option maxRecDepth 1000000 in
theorem wo_fi1_12 : Cond.eq (.field (.static RWd (wdN.getD 12 "") "LKerbSplash$Word;") "KerbSplash$Word" "saying" "I") (.int (iI (wdS.getD 12 0))) ∈ flatC (Jvm.Cond.and given_1 narrow_1) := gv_p [true, false, false, true, false, true, false, true, false, true, true] rfl
set_option maxRecDepth 1000000 in
theorem wo_fi2_12 : Cond.eq (.field (.static RWd (wdN.getD 12 "") "LKerbSplash$Word;") "KerbSplash$Word" "name" "I") (.int (iI (wdM.getD 12 0))) ∈ flatC (Jvm.Cond.and given_1 narrow_1) := gv_p [true, false, false, true, false, true, false, true, true, false, false] rfl
set_option maxRecDepth 1000000 in
theorem wo_ex_13 : Cond.exactly (.static RWd (wdN.getD 13 "") "LKerbSplash$Word;") RWd ∈ flatC (Jvm.Cond.and given_1 narrow_1) := gv_p [true, false, false, true, false, true, false, true, true, false, true] rfl
set_option maxRecDepth 1000000 in
theorem wo_fi3_13 : Cond.eq (.field (.static RWd (wdN.getD 13 "") "LKerbSplash$Word;") "java/lang/Enum" "ordinal" "I") (.int (Int32.ofNat 13)) ∈ flatC (Jvm.Cond.and given_1 narrow_1) := gv_p [true, false, false, true, false, true, false, true, true, true, false] rfl
set_option maxRecDepth 1000000 in
theorem wo_le_13 : Cond.eq (.field (.static RWd (wdN.getD 13 "") "LKerbSplash$Word;") RWd "letters" "Ljava/lang/String;") (txT 13) ∈ flatC (Jvm.Cond.and given_1 narrow_1) := gv_p [true, false, false, true, false, true, false, true, true, true, true] rfl
set_option maxRecDepth 1000000 in
theorem wo_fi0_13 : Cond.eq (.field (.static RWd (wdN.getD 13 "") "LKerbSplash$Word;") "KerbSplash$Word" "work" "I") (.int (iI (wdW.getD 13 0))) ∈ flatC (Jvm.Cond.and given_1 narrow_1) := gv_p [true, false, false, true, false, true, true, false, false, false] rfl
set_option maxRecDepth 1000000 in
theorem wo_fi1_13 : Cond.eq (.field (.static RWd (wdN.getD 13 "") "LKerbSplash$Word;") "KerbSplash$Word" "saying" "I") (.int (iI (wdS.getD 13 0))) ∈ flatC (Jvm.Cond.and given_1 narrow_1) := gv_p [true, false, false, true, false, true, true, false, false, true, false] rfl
set_option maxRecDepth 1000000 in
theorem wo_fi2_13 : Cond.eq (.field (.static RWd (wdN.getD 13 "") "LKerbSplash$Word;") "KerbSplash$Word" "name" "I") (.int (iI (wdM.getD 13 0))) ∈ flatC (Jvm.Cond.and given_1 narrow_1) := gv_p [true, false, false, true, false, true, true, false, false, true, true] rfl
set_option maxRecDepth 1000000 in
theorem wo_ex_14 : Cond.exactly (.static RWd (wdN.getD 14 "") "LKerbSplash$Word;") RWd ∈ flatC (Jvm.Cond.and given_1 narrow_1) := gv_p [true, false, false, true, false, true, true, false, true, false, false] rfl
set_option maxRecDepth 1000000 in
theorem wo_fi3_14 : Cond.eq (.field (.static RWd (wdN.getD 14 "") "LKerbSplash$Word;") "java/lang/Enum" "ordinal" "I") (.int (Int32.ofNat 14)) ∈ flatC (Jvm.Cond.and given_1 narrow_1) := gv_p [true, false, false, true, false, true, true, false, true, false, true] rfl
set_option maxRecDepth 1000000 in
theorem wo_le_14 : Cond.eq (.field (.static RWd (wdN.getD 14 "") "LKerbSplash$Word;") RWd "letters" "Ljava/lang/String;") (txT 14) ∈ flatC (Jvm.Cond.and given_1 narrow_1) := gv_p [true, false, false, true, false, true, true, false, true, true, false] rfl
set_option maxRecDepth 1000000 in
theorem wo_fi0_14 : Cond.eq (.field (.static RWd (wdN.getD 14 "") "LKerbSplash$Word;") "KerbSplash$Word" "work" "I") (.int (iI (wdW.getD 14 0))) ∈ flatC (Jvm.Cond.and given_1 narrow_1) := gv_p [true, false, false, true, false, true, true, false, true, true, true] rfl
set_option maxRecDepth 1000000 in
theorem wo_fi1_14 : Cond.eq (.field (.static RWd (wdN.getD 14 "") "LKerbSplash$Word;") "KerbSplash$Word" "saying" "I") (.int (iI (wdS.getD 14 0))) ∈ flatC (Jvm.Cond.and given_1 narrow_1) := gv_p [true, false, false, true, false, true, true, true, false, false, false] rfl
set_option maxRecDepth 1000000 in
theorem wo_fi2_14 : Cond.eq (.field (.static RWd (wdN.getD 14 "") "LKerbSplash$Word;") "KerbSplash$Word" "name" "I") (.int (iI (wdM.getD 14 0))) ∈ flatC (Jvm.Cond.and given_1 narrow_1) := gv_p [true, false, false, true, false, true, true, true, false, false, true] rfl
set_option maxRecDepth 1000000 in
theorem wo_ex_15 : Cond.exactly (.static RWd (wdN.getD 15 "") "LKerbSplash$Word;") RWd ∈ flatC (Jvm.Cond.and given_1 narrow_1) := gv_p [true, false, false, true, false, true, true, true, false, true, false] rfl
set_option maxRecDepth 1000000 in
theorem wo_fi3_15 : Cond.eq (.field (.static RWd (wdN.getD 15 "") "LKerbSplash$Word;") "java/lang/Enum" "ordinal" "I") (.int (Int32.ofNat 15)) ∈ flatC (Jvm.Cond.and given_1 narrow_1) := gv_p [true, false, false, true, false, true, true, true, false, true, true] rfl
set_option maxRecDepth 1000000 in
theorem wo_le_15 : Cond.eq (.field (.static RWd (wdN.getD 15 "") "LKerbSplash$Word;") RWd "letters" "Ljava/lang/String;") (txT 15) ∈ flatC (Jvm.Cond.and given_1 narrow_1) := gv_p [true, false, false, true, false, true, true, true, true, false, false] rfl
set_option maxRecDepth 1000000 in
theorem wo_fi0_15 : Cond.eq (.field (.static RWd (wdN.getD 15 "") "LKerbSplash$Word;") "KerbSplash$Word" "work" "I") (.int (iI (wdW.getD 15 0))) ∈ flatC (Jvm.Cond.and given_1 narrow_1) := gv_p [true, false, false, true, false, true, true, true, true, false, true] rfl
set_option maxRecDepth 1000000 in
theorem wo_fi1_15 : Cond.eq (.field (.static RWd (wdN.getD 15 "") "LKerbSplash$Word;") "KerbSplash$Word" "saying" "I") (.int (iI (wdS.getD 15 0))) ∈ flatC (Jvm.Cond.and given_1 narrow_1) := gv_p [true, false, false, true, false, true, true, true, true, true, false] rfl
set_option maxRecDepth 1000000 in
theorem wo_fi2_15 : Cond.eq (.field (.static RWd (wdN.getD 15 "") "LKerbSplash$Word;") "KerbSplash$Word" "name" "I") (.int (iI (wdM.getD 15 0))) ∈ flatC (Jvm.Cond.and given_1 narrow_1) := gv_p [true, false, false, true, false, true, true, true, true, true, true] rfl
set_option maxRecDepth 1000000 in
theorem wo_ex_22 : Cond.exactly (.static RWd (wdN.getD 22 "") "LKerbSplash$Word;") RWd ∈ flatC (Jvm.Cond.and given_1 narrow_1) := gv_p [true, false, false, true, true, false, false, false, false, false] rfl
set_option maxRecDepth 1000000 in
theorem wo_fi3_22 : Cond.eq (.field (.static RWd (wdN.getD 22 "") "LKerbSplash$Word;") "java/lang/Enum" "ordinal" "I") (.int (Int32.ofNat 22)) ∈ flatC (Jvm.Cond.and given_1 narrow_1) := gv_p [true, false, false, true, true, false, false, false, false, true, false] rfl
set_option maxRecDepth 1000000 in
theorem wo_le_22 : Cond.eq (.field (.static RWd (wdN.getD 22 "") "LKerbSplash$Word;") RWd "letters" "Ljava/lang/String;") (txT 22) ∈ flatC (Jvm.Cond.and given_1 narrow_1) := gv_p [true, false, false, true, true, false, false, false, false, true, true] rfl
set_option maxRecDepth 1000000 in
theorem wo_fi0_22 : Cond.eq (.field (.static RWd (wdN.getD 22 "") "LKerbSplash$Word;") "KerbSplash$Word" "work" "I") (.int (iI (wdW.getD 22 0))) ∈ flatC (Jvm.Cond.and given_1 narrow_1) := gv_p [true, false, false, true, true, false, false, false, true, false, false] rfl
set_option maxRecDepth 1000000 in
theorem wo_fi1_22 : Cond.eq (.field (.static RWd (wdN.getD 22 "") "LKerbSplash$Word;") "KerbSplash$Word" "saying" "I") (.int (iI (wdS.getD 22 0))) ∈ flatC (Jvm.Cond.and given_1 narrow_1) := gv_p [true, false, false, true, true, false, false, false, true, false, true] rfl
set_option maxRecDepth 1000000 in
theorem wo_fi2_22 : Cond.eq (.field (.static RWd (wdN.getD 22 "") "LKerbSplash$Word;") "KerbSplash$Word" "name" "I") (.int (iI (wdM.getD 22 0))) ∈ flatC (Jvm.Cond.and given_1 narrow_1) := gv_p [true, false, false, true, true, false, false, false, true, true, false] rfl
set_option maxRecDepth 1000000 in
theorem wo_ex_23 : Cond.exactly (.static RWd (wdN.getD 23 "") "LKerbSplash$Word;") RWd ∈ flatC (Jvm.Cond.and given_1 narrow_1) := gv_p [true, false, false, true, true, false, false, false, true, true, true] rfl
set_option maxRecDepth 1000000 in
theorem wo_fi3_23 : Cond.eq (.field (.static RWd (wdN.getD 23 "") "LKerbSplash$Word;") "java/lang/Enum" "ordinal" "I") (.int (Int32.ofNat 23)) ∈ flatC (Jvm.Cond.and given_1 narrow_1) := gv_p [true, false, false, true, true, false, false, true, false, false] rfl
set_option maxRecDepth 1000000 in
theorem wo_le_23 : Cond.eq (.field (.static RWd (wdN.getD 23 "") "LKerbSplash$Word;") RWd "letters" "Ljava/lang/String;") (txT 23) ∈ flatC (Jvm.Cond.and given_1 narrow_1) := gv_p [true, false, false, true, true, false, false, true, false, true, false] rfl
set_option maxRecDepth 1000000 in
theorem wo_fi0_23 : Cond.eq (.field (.static RWd (wdN.getD 23 "") "LKerbSplash$Word;") "KerbSplash$Word" "work" "I") (.int (iI (wdW.getD 23 0))) ∈ flatC (Jvm.Cond.and given_1 narrow_1) := gv_p [true, false, false, true, true, false, false, true, false, true, true] rfl
set_option maxRecDepth 1000000 in
theorem wo_fi1_23 : Cond.eq (.field (.static RWd (wdN.getD 23 "") "LKerbSplash$Word;") "KerbSplash$Word" "saying" "I") (.int (iI (wdS.getD 23 0))) ∈ flatC (Jvm.Cond.and given_1 narrow_1) := gv_p [true, false, false, true, true, false, false, true, true, false, false] rfl
set_option maxRecDepth 1000000 in
theorem wo_fi2_23 : Cond.eq (.field (.static RWd (wdN.getD 23 "") "LKerbSplash$Word;") "KerbSplash$Word" "name" "I") (.int (iI (wdM.getD 23 0))) ∈ flatC (Jvm.Cond.and given_1 narrow_1) := gv_p [true, false, false, true, true, false, false, true, true, false, true] rfl
set_option maxRecDepth 1000000 in
theorem wo_ex_24 : Cond.exactly (.static RWd (wdN.getD 24 "") "LKerbSplash$Word;") RWd ∈ flatC (Jvm.Cond.and given_1 narrow_1) := gv_p [true, false, false, true, true, false, false, true, true, true, false] rfl
set_option maxRecDepth 1000000 in
theorem wo_fi3_24 : Cond.eq (.field (.static RWd (wdN.getD 24 "") "LKerbSplash$Word;") "java/lang/Enum" "ordinal" "I") (.int (Int32.ofNat 24)) ∈ flatC (Jvm.Cond.and given_1 narrow_1) := gv_p [true, false, false, true, true, false, false, true, true, true, true] rfl
set_option maxRecDepth 1000000 in
theorem wo_le_24 : Cond.eq (.field (.static RWd (wdN.getD 24 "") "LKerbSplash$Word;") RWd "letters" "Ljava/lang/String;") (txT 24) ∈ flatC (Jvm.Cond.and given_1 narrow_1) := gv_p [true, false, false, true, true, false, true, false, false, false] rfl
set_option maxRecDepth 1000000 in
theorem wo_fi0_24 : Cond.eq (.field (.static RWd (wdN.getD 24 "") "LKerbSplash$Word;") "KerbSplash$Word" "work" "I") (.int (iI (wdW.getD 24 0))) ∈ flatC (Jvm.Cond.and given_1 narrow_1) := gv_p [true, false, false, true, true, false, true, false, false, true, false] rfl
set_option maxRecDepth 1000000 in
theorem wo_fi1_24 : Cond.eq (.field (.static RWd (wdN.getD 24 "") "LKerbSplash$Word;") "KerbSplash$Word" "saying" "I") (.int (iI (wdS.getD 24 0))) ∈ flatC (Jvm.Cond.and given_1 narrow_1) := gv_p [true, false, false, true, true, false, true, false, false, true, true] rfl
set_option maxRecDepth 1000000 in
theorem wo_fi2_24 : Cond.eq (.field (.static RWd (wdN.getD 24 "") "LKerbSplash$Word;") "KerbSplash$Word" "name" "I") (.int (iI (wdM.getD 24 0))) ∈ flatC (Jvm.Cond.and given_1 narrow_1) := gv_p [true, false, false, true, true, false, true, false, true, false, false] rfl
set_option maxRecDepth 1000000 in
theorem wo_ex_25 : Cond.exactly (.static RWd (wdN.getD 25 "") "LKerbSplash$Word;") RWd ∈ flatC (Jvm.Cond.and given_1 narrow_1) := gv_p [true, false, false, true, true, false, true, false, true, false, true] rfl
set_option maxRecDepth 1000000 in
theorem wo_fi3_25 : Cond.eq (.field (.static RWd (wdN.getD 25 "") "LKerbSplash$Word;") "java/lang/Enum" "ordinal" "I") (.int (Int32.ofNat 25)) ∈ flatC (Jvm.Cond.and given_1 narrow_1) := gv_p [true, false, false, true, true, false, true, false, true, true, false] rfl
set_option maxRecDepth 1000000 in
theorem wo_le_25 : Cond.eq (.field (.static RWd (wdN.getD 25 "") "LKerbSplash$Word;") RWd "letters" "Ljava/lang/String;") (txT 25) ∈ flatC (Jvm.Cond.and given_1 narrow_1) := gv_p [true, false, false, true, true, false, true, false, true, true, true] rfl
set_option maxRecDepth 1000000 in
theorem wo_fi0_25 : Cond.eq (.field (.static RWd (wdN.getD 25 "") "LKerbSplash$Word;") "KerbSplash$Word" "work" "I") (.int (iI (wdW.getD 25 0))) ∈ flatC (Jvm.Cond.and given_1 narrow_1) := gv_p [true, false, false, true, true, false, true, true, false, false, false] rfl
set_option maxRecDepth 1000000 in
theorem wo_fi1_25 : Cond.eq (.field (.static RWd (wdN.getD 25 "") "LKerbSplash$Word;") "KerbSplash$Word" "saying" "I") (.int (iI (wdS.getD 25 0))) ∈ flatC (Jvm.Cond.and given_1 narrow_1) := gv_p [true, false, false, true, true, false, true, true, false, false, true] rfl
set_option maxRecDepth 1000000 in
theorem wo_fi2_25 : Cond.eq (.field (.static RWd (wdN.getD 25 "") "LKerbSplash$Word;") "KerbSplash$Word" "name" "I") (.int (iI (wdM.getD 25 0))) ∈ flatC (Jvm.Cond.and given_1 narrow_1) := gv_p [true, false, false, true, true, false, true, true, false, true, false] rfl
set_option maxRecDepth 1000000 in
theorem wo_ex_26 : Cond.exactly (.static RWd (wdN.getD 26 "") "LKerbSplash$Word;") RWd ∈ flatC (Jvm.Cond.and given_1 narrow_1) := gv_p [true, false, false, true, true, false, true, true, false, true, true] rfl
set_option maxRecDepth 1000000 in
theorem wo_fi3_26 : Cond.eq (.field (.static RWd (wdN.getD 26 "") "LKerbSplash$Word;") "java/lang/Enum" "ordinal" "I") (.int (Int32.ofNat 26)) ∈ flatC (Jvm.Cond.and given_1 narrow_1) := gv_p [true, false, false, true, true, false, true, true, true, false, false] rfl
set_option maxRecDepth 1000000 in
theorem wo_le_26 : Cond.eq (.field (.static RWd (wdN.getD 26 "") "LKerbSplash$Word;") RWd "letters" "Ljava/lang/String;") (txT 26) ∈ flatC (Jvm.Cond.and given_1 narrow_1) := gv_p [true, false, false, true, true, false, true, true, true, false, true] rfl
set_option maxRecDepth 1000000 in
theorem wo_fi0_26 : Cond.eq (.field (.static RWd (wdN.getD 26 "") "LKerbSplash$Word;") "KerbSplash$Word" "work" "I") (.int (iI (wdW.getD 26 0))) ∈ flatC (Jvm.Cond.and given_1 narrow_1) := gv_p [true, false, false, true, true, false, true, true, true, true, false] rfl
set_option maxRecDepth 1000000 in
theorem wo_fi1_26 : Cond.eq (.field (.static RWd (wdN.getD 26 "") "LKerbSplash$Word;") "KerbSplash$Word" "saying" "I") (.int (iI (wdS.getD 26 0))) ∈ flatC (Jvm.Cond.and given_1 narrow_1) := gv_p [true, false, false, true, true, false, true, true, true, true, true] rfl
set_option maxRecDepth 1000000 in
theorem wo_fi2_26 : Cond.eq (.field (.static RWd (wdN.getD 26 "") "LKerbSplash$Word;") "KerbSplash$Word" "name" "I") (.int (iI (wdM.getD 26 0))) ∈ flatC (Jvm.Cond.and given_1 narrow_1) := gv_p [true, false, false, true, true, true, false, false, false, false] rfl
set_option maxRecDepth 1000000 in
theorem wo_ex_27 : Cond.exactly (.static RWd (wdN.getD 27 "") "LKerbSplash$Word;") RWd ∈ flatC (Jvm.Cond.and given_1 narrow_1) := gv_p [true, false, false, true, true, true, false, false, false, true, false] rfl
set_option maxRecDepth 1000000 in
theorem wo_fi3_27 : Cond.eq (.field (.static RWd (wdN.getD 27 "") "LKerbSplash$Word;") "java/lang/Enum" "ordinal" "I") (.int (Int32.ofNat 27)) ∈ flatC (Jvm.Cond.and given_1 narrow_1) := gv_p [true, false, false, true, true, true, false, false, false, true, true] rfl
set_option maxRecDepth 1000000 in
theorem wo_le_27 : Cond.eq (.field (.static RWd (wdN.getD 27 "") "LKerbSplash$Word;") RWd "letters" "Ljava/lang/String;") (txT 27) ∈ flatC (Jvm.Cond.and given_1 narrow_1) := gv_p [true, false, false, true, true, true, false, false, true, false, false] rfl
set_option maxRecDepth 1000000 in
theorem wo_fi0_27 : Cond.eq (.field (.static RWd (wdN.getD 27 "") "LKerbSplash$Word;") "KerbSplash$Word" "work" "I") (.int (iI (wdW.getD 27 0))) ∈ flatC (Jvm.Cond.and given_1 narrow_1) := gv_p [true, false, false, true, true, true, false, false, true, false, true] rfl
set_option maxRecDepth 1000000 in
theorem wo_fi1_27 : Cond.eq (.field (.static RWd (wdN.getD 27 "") "LKerbSplash$Word;") "KerbSplash$Word" "saying" "I") (.int (iI (wdS.getD 27 0))) ∈ flatC (Jvm.Cond.and given_1 narrow_1) := gv_p [true, false, false, true, true, true, false, false, true, true, false] rfl
set_option maxRecDepth 1000000 in
theorem wo_fi2_27 : Cond.eq (.field (.static RWd (wdN.getD 27 "") "LKerbSplash$Word;") "KerbSplash$Word" "name" "I") (.int (iI (wdM.getD 27 0))) ∈ flatC (Jvm.Cond.and given_1 narrow_1) := gv_p [true, false, false, true, true, true, false, false, true, true, true] rfl
set_option maxRecDepth 1000000 in
theorem tx_ex_33 : Cond.exactly (txT 33) "java/lang/String" ∈ flatC (Jvm.Cond.and given_1 narrow_1) := gv_p [true, false, true, true, true, true, true, true, true, false, false] rfl
set_option maxRecDepth 1000000 in
theorem tx_co_33 : Cond.eq (.field (txT 33) "java/lang/String" "coder" "B") (.int 0) ∈ flatC (Jvm.Cond.and given_1 narrow_1) := gv_p [true, false, true, true, true, true, true, true, true, false, true] rfl
set_option maxRecDepth 1000000 in
theorem tx_ar_33 : Cond.arrayOf (.field (txT 33) "java/lang/String" "value" "[B") .byte ∈ flatC (Jvm.Cond.and given_1 narrow_1) := gv_p [true, false, true, true, true, true, true, true, true, true, false] rfl
set_option maxRecDepth 1000000 in
theorem tx_le_33 : Cond.eq (.length (.field (txT 33) "java/lang/String" "value" "[B")) (.int (Int32.ofNat (wdT.getD 33 []).length)) ∈ flatC (Jvm.Cond.and given_1 narrow_1) := gv_p [true, false, true, true, true, true, true, true, true, true, true] rfl
set_option maxRecDepth 1000000 in
theorem tx_el_33_0 : Cond.eq (.elem (.field (txT 33) "java/lang/String" "value" "[B") (.int (Int32.ofNat 0))) (.int (iI ((wdT.getD 33 []).getD 0 0))) ∈ flatC (Jvm.Cond.and given_1 narrow_1) := gv_p [true, true, false, false, false, false, false, false, false, false] rfl
set_option maxRecDepth 1000000 in
theorem tx_el_33_1 : Cond.eq (.elem (.field (txT 33) "java/lang/String" "value" "[B") (.int (Int32.ofNat 1))) (.int (iI ((wdT.getD 33 []).getD 1 0))) ∈ flatC (Jvm.Cond.and given_1 narrow_1) := gv_p [true, true, false, false, false, false, false, false, false, true, false] rfl
set_option maxRecDepth 1000000 in
theorem tx_el_33_2 : Cond.eq (.elem (.field (txT 33) "java/lang/String" "value" "[B") (.int (Int32.ofNat 2))) (.int (iI ((wdT.getD 33 []).getD 2 0))) ∈ flatC (Jvm.Cond.and given_1 narrow_1) := gv_p [true, true, false, false, false, false, false, false, false, true, true] rfl
set_option maxRecDepth 1000000 in
theorem tx_el_33_3 : Cond.eq (.elem (.field (txT 33) "java/lang/String" "value" "[B") (.int (Int32.ofNat 3))) (.int (iI ((wdT.getD 33 []).getD 3 0))) ∈ flatC (Jvm.Cond.and given_1 narrow_1) := gv_p [true, true, false, false, false, false, false, false, true, false, false] rfl
set_option maxRecDepth 1000000 in
theorem tx_el_33_4 : Cond.eq (.elem (.field (txT 33) "java/lang/String" "value" "[B") (.int (Int32.ofNat 4))) (.int (iI ((wdT.getD 33 []).getD 4 0))) ∈ flatC (Jvm.Cond.and given_1 narrow_1) := gv_p [true, true, false, false, false, false, false, false, true, false, true] rfl
set_option maxRecDepth 1000000 in
theorem tx_el_33_5 : Cond.eq (.elem (.field (txT 33) "java/lang/String" "value" "[B") (.int (Int32.ofNat 5))) (.int (iI ((wdT.getD 33 []).getD 5 0))) ∈ flatC (Jvm.Cond.and given_1 narrow_1) := gv_p [true, true, false, false, false, false, false, false, true, true, false] rfl
set_option maxRecDepth 1000000 in
theorem tx_el_33_6 : Cond.eq (.elem (.field (txT 33) "java/lang/String" "value" "[B") (.int (Int32.ofNat 6))) (.int (iI ((wdT.getD 33 []).getD 6 0))) ∈ flatC (Jvm.Cond.and given_1 narrow_1) := gv_p [true, true, false, false, false, false, false, false, true, true, true] rfl
set_option maxRecDepth 1000000 in
theorem tx_ex_29 : Cond.exactly (txT 29) "java/lang/String" ∈ flatC (Jvm.Cond.and given_1 narrow_1) := gv_p [true, true, false, false, false, false, false, true, false, false] rfl
set_option maxRecDepth 1000000 in
theorem tx_co_29 : Cond.eq (.field (txT 29) "java/lang/String" "coder" "B") (.int 0) ∈ flatC (Jvm.Cond.and given_1 narrow_1) := gv_p [true, true, false, false, false, false, false, true, false, true, false] rfl
set_option maxRecDepth 1000000 in
theorem tx_ar_29 : Cond.arrayOf (.field (txT 29) "java/lang/String" "value" "[B") .byte ∈ flatC (Jvm.Cond.and given_1 narrow_1) := gv_p [true, true, false, false, false, false, false, true, false, true, true] rfl
set_option maxRecDepth 1000000 in
theorem tx_le_29 : Cond.eq (.length (.field (txT 29) "java/lang/String" "value" "[B")) (.int (Int32.ofNat (wdT.getD 29 []).length)) ∈ flatC (Jvm.Cond.and given_1 narrow_1) := gv_p [true, true, false, false, false, false, false, true, true, false, false] rfl
set_option maxRecDepth 1000000 in
theorem tx_el_29_0 : Cond.eq (.elem (.field (txT 29) "java/lang/String" "value" "[B") (.int (Int32.ofNat 0))) (.int (iI ((wdT.getD 29 []).getD 0 0))) ∈ flatC (Jvm.Cond.and given_1 narrow_1) := gv_p [true, true, false, false, false, false, false, true, true, false, true] rfl
set_option maxRecDepth 1000000 in
theorem tx_el_29_1 : Cond.eq (.elem (.field (txT 29) "java/lang/String" "value" "[B") (.int (Int32.ofNat 1))) (.int (iI ((wdT.getD 29 []).getD 1 0))) ∈ flatC (Jvm.Cond.and given_1 narrow_1) := gv_p [true, true, false, false, false, false, false, true, true, true, false] rfl
set_option maxRecDepth 1000000 in
theorem tx_el_29_2 : Cond.eq (.elem (.field (txT 29) "java/lang/String" "value" "[B") (.int (Int32.ofNat 2))) (.int (iI ((wdT.getD 29 []).getD 2 0))) ∈ flatC (Jvm.Cond.and given_1 narrow_1) := gv_p [true, true, false, false, false, false, false, true, true, true, true] rfl
set_option maxRecDepth 1000000 in
theorem tx_el_29_3 : Cond.eq (.elem (.field (txT 29) "java/lang/String" "value" "[B") (.int (Int32.ofNat 3))) (.int (iI ((wdT.getD 29 []).getD 3 0))) ∈ flatC (Jvm.Cond.and given_1 narrow_1) := gv_p [true, true, false, false, false, false, true, false, false, false] rfl
set_option maxRecDepth 1000000 in
theorem tx_ex_30 : Cond.exactly (txT 30) "java/lang/String" ∈ flatC (Jvm.Cond.and given_1 narrow_1) := gv_p [true, true, false, false, false, false, true, false, false, true, false] rfl
set_option maxRecDepth 1000000 in
theorem tx_co_30 : Cond.eq (.field (txT 30) "java/lang/String" "coder" "B") (.int 0) ∈ flatC (Jvm.Cond.and given_1 narrow_1) := gv_p [true, true, false, false, false, false, true, false, false, true, true] rfl
set_option maxRecDepth 1000000 in
theorem tx_ar_30 : Cond.arrayOf (.field (txT 30) "java/lang/String" "value" "[B") .byte ∈ flatC (Jvm.Cond.and given_1 narrow_1) := gv_p [true, true, false, false, false, false, true, false, true, false, false] rfl
set_option maxRecDepth 1000000 in
theorem tx_le_30 : Cond.eq (.length (.field (txT 30) "java/lang/String" "value" "[B")) (.int (Int32.ofNat (wdT.getD 30 []).length)) ∈ flatC (Jvm.Cond.and given_1 narrow_1) := gv_p [true, true, false, false, false, false, true, false, true, false, true] rfl
set_option maxRecDepth 1000000 in
theorem tx_el_30_0 : Cond.eq (.elem (.field (txT 30) "java/lang/String" "value" "[B") (.int (Int32.ofNat 0))) (.int (iI ((wdT.getD 30 []).getD 0 0))) ∈ flatC (Jvm.Cond.and given_1 narrow_1) := gv_p [true, true, false, false, false, false, true, false, true, true, false] rfl
set_option maxRecDepth 1000000 in
theorem tx_el_30_1 : Cond.eq (.elem (.field (txT 30) "java/lang/String" "value" "[B") (.int (Int32.ofNat 1))) (.int (iI ((wdT.getD 30 []).getD 1 0))) ∈ flatC (Jvm.Cond.and given_1 narrow_1) := gv_p [true, true, false, false, false, false, true, false, true, true, true] rfl
set_option maxRecDepth 1000000 in
theorem tx_el_30_2 : Cond.eq (.elem (.field (txT 30) "java/lang/String" "value" "[B") (.int (Int32.ofNat 2))) (.int (iI ((wdT.getD 30 []).getD 2 0))) ∈ flatC (Jvm.Cond.and given_1 narrow_1) := gv_p [true, true, false, false, false, false, true, true, false, false, false] rfl
set_option maxRecDepth 1000000 in
theorem tx_el_30_3 : Cond.eq (.elem (.field (txT 30) "java/lang/String" "value" "[B") (.int (Int32.ofNat 3))) (.int (iI ((wdT.getD 30 []).getD 3 0))) ∈ flatC (Jvm.Cond.and given_1 narrow_1) := gv_p [true, true, false, false, false, false, true, true, false, false, true] rfl
set_option maxRecDepth 1000000 in
theorem tx_ex_31 : Cond.exactly (txT 31) "java/lang/String" ∈ flatC (Jvm.Cond.and given_1 narrow_1) := gv_p [true, true, false, false, false, false, true, true, false, true, false] rfl
set_option maxRecDepth 1000000 in
theorem tx_co_31 : Cond.eq (.field (txT 31) "java/lang/String" "coder" "B") (.int 0) ∈ flatC (Jvm.Cond.and given_1 narrow_1) := gv_p [true, true, false, false, false, false, true, true, false, true, true] rfl
set_option maxRecDepth 1000000 in
theorem tx_ar_31 : Cond.arrayOf (.field (txT 31) "java/lang/String" "value" "[B") .byte ∈ flatC (Jvm.Cond.and given_1 narrow_1) := gv_p [true, true, false, false, false, false, true, true, true, false, false] rfl
set_option maxRecDepth 1000000 in
theorem tx_le_31 : Cond.eq (.length (.field (txT 31) "java/lang/String" "value" "[B")) (.int (Int32.ofNat (wdT.getD 31 []).length)) ∈ flatC (Jvm.Cond.and given_1 narrow_1) := gv_p [true, true, false, false, false, false, true, true, true, false, true] rfl
set_option maxRecDepth 1000000 in
theorem tx_el_31_0 : Cond.eq (.elem (.field (txT 31) "java/lang/String" "value" "[B") (.int (Int32.ofNat 0))) (.int (iI ((wdT.getD 31 []).getD 0 0))) ∈ flatC (Jvm.Cond.and given_1 narrow_1) := gv_p [true, true, false, false, false, false, true, true, true, true, false] rfl
set_option maxRecDepth 1000000 in
theorem tx_el_31_1 : Cond.eq (.elem (.field (txT 31) "java/lang/String" "value" "[B") (.int (Int32.ofNat 1))) (.int (iI ((wdT.getD 31 []).getD 1 0))) ∈ flatC (Jvm.Cond.and given_1 narrow_1) := gv_p [true, true, false, false, false, false, true, true, true, true, true] rfl
set_option maxRecDepth 1000000 in
theorem tx_el_31_2 : Cond.eq (.elem (.field (txT 31) "java/lang/String" "value" "[B") (.int (Int32.ofNat 2))) (.int (iI ((wdT.getD 31 []).getD 2 0))) ∈ flatC (Jvm.Cond.and given_1 narrow_1) := gv_p [true, true, false, false, false, true, false, false, false, false] rfl
set_option maxRecDepth 1000000 in
theorem tx_el_31_3 : Cond.eq (.elem (.field (txT 31) "java/lang/String" "value" "[B") (.int (Int32.ofNat 3))) (.int (iI ((wdT.getD 31 []).getD 3 0))) ∈ flatC (Jvm.Cond.and given_1 narrow_1) := gv_p [true, true, false, false, false, true, false, false, false, true, false] rfl
set_option maxRecDepth 1000000 in
theorem tx_el_31_4 : Cond.eq (.elem (.field (txT 31) "java/lang/String" "value" "[B") (.int (Int32.ofNat 4))) (.int (iI ((wdT.getD 31 []).getD 4 0))) ∈ flatC (Jvm.Cond.and given_1 narrow_1) := gv_p [true, true, false, false, false, true, false, false, false, true, true] rfl
set_option maxRecDepth 1000000 in
theorem tx_ex_32 : Cond.exactly (txT 32) "java/lang/String" ∈ flatC (Jvm.Cond.and given_1 narrow_1) := gv_p [true, true, false, false, false, true, false, false, true, false, false] rfl
set_option maxRecDepth 1000000 in
theorem tx_co_32 : Cond.eq (.field (txT 32) "java/lang/String" "coder" "B") (.int 0) ∈ flatC (Jvm.Cond.and given_1 narrow_1) := gv_p [true, true, false, false, false, true, false, false, true, false, true] rfl
set_option maxRecDepth 1000000 in
theorem tx_ar_32 : Cond.arrayOf (.field (txT 32) "java/lang/String" "value" "[B") .byte ∈ flatC (Jvm.Cond.and given_1 narrow_1) := gv_p [true, true, false, false, false, true, false, false, true, true, false] rfl
set_option maxRecDepth 1000000 in
theorem tx_le_32 : Cond.eq (.length (.field (txT 32) "java/lang/String" "value" "[B")) (.int (Int32.ofNat (wdT.getD 32 []).length)) ∈ flatC (Jvm.Cond.and given_1 narrow_1) := gv_p [true, true, false, false, false, true, false, false, true, true, true] rfl
set_option maxRecDepth 1000000 in
theorem tx_el_32_0 : Cond.eq (.elem (.field (txT 32) "java/lang/String" "value" "[B") (.int (Int32.ofNat 0))) (.int (iI ((wdT.getD 32 []).getD 0 0))) ∈ flatC (Jvm.Cond.and given_1 narrow_1) := gv_p [true, true, false, false, false, true, false, true, false, false] rfl
set_option maxRecDepth 1000000 in
theorem tx_el_32_1 : Cond.eq (.elem (.field (txT 32) "java/lang/String" "value" "[B") (.int (Int32.ofNat 1))) (.int (iI ((wdT.getD 32 []).getD 1 0))) ∈ flatC (Jvm.Cond.and given_1 narrow_1) := gv_p [true, true, false, false, false, true, false, true, false, true, false] rfl
set_option maxRecDepth 1000000 in
theorem tx_el_32_2 : Cond.eq (.elem (.field (txT 32) "java/lang/String" "value" "[B") (.int (Int32.ofNat 2))) (.int (iI ((wdT.getD 32 []).getD 2 0))) ∈ flatC (Jvm.Cond.and given_1 narrow_1) := gv_p [true, true, false, false, false, true, false, true, false, true, true] rfl
set_option maxRecDepth 1000000 in
theorem tx_el_32_3 : Cond.eq (.elem (.field (txT 32) "java/lang/String" "value" "[B") (.int (Int32.ofNat 3))) (.int (iI ((wdT.getD 32 []).getD 3 0))) ∈ flatC (Jvm.Cond.and given_1 narrow_1) := gv_p [true, true, false, false, false, true, false, true, true, false, false] rfl
set_option maxRecDepth 1000000 in
theorem tx_el_32_4 : Cond.eq (.elem (.field (txT 32) "java/lang/String" "value" "[B") (.int (Int32.ofNat 4))) (.int (iI ((wdT.getD 32 []).getD 4 0))) ∈ flatC (Jvm.Cond.and given_1 narrow_1) := gv_p [true, true, false, false, false, true, false, true, true, false, true] rfl
set_option maxRecDepth 1000000 in
theorem tx_el_32_5 : Cond.eq (.elem (.field (txT 32) "java/lang/String" "value" "[B") (.int (Int32.ofNat 5))) (.int (iI ((wdT.getD 32 []).getD 5 0))) ∈ flatC (Jvm.Cond.and given_1 narrow_1) := gv_p [true, true, false, false, false, true, false, true, true, true, false] rfl
set_option maxRecDepth 1000000 in
theorem tx_ex_34 : Cond.exactly (txT 34) "java/lang/String" ∈ flatC (Jvm.Cond.and given_1 narrow_1) := gv_p [true, true, false, false, false, true, false, true, true, true, true] rfl
set_option maxRecDepth 1000000 in
theorem tx_co_34 : Cond.eq (.field (txT 34) "java/lang/String" "coder" "B") (.int 0) ∈ flatC (Jvm.Cond.and given_1 narrow_1) := gv_p [true, true, false, false, false, true, true, false, false, false] rfl
set_option maxRecDepth 1000000 in
theorem tx_ar_34 : Cond.arrayOf (.field (txT 34) "java/lang/String" "value" "[B") .byte ∈ flatC (Jvm.Cond.and given_1 narrow_1) := gv_p [true, true, false, false, false, true, true, false, false, true, false] rfl
set_option maxRecDepth 1000000 in
theorem tx_le_34 : Cond.eq (.length (.field (txT 34) "java/lang/String" "value" "[B")) (.int (Int32.ofNat (wdT.getD 34 []).length)) ∈ flatC (Jvm.Cond.and given_1 narrow_1) := gv_p [true, true, false, false, false, true, true, false, false, true, true] rfl
set_option maxRecDepth 1000000 in
theorem tx_el_34_0 : Cond.eq (.elem (.field (txT 34) "java/lang/String" "value" "[B") (.int (Int32.ofNat 0))) (.int (iI ((wdT.getD 34 []).getD 0 0))) ∈ flatC (Jvm.Cond.and given_1 narrow_1) := gv_p [true, true, false, false, false, true, true, false, true, false, false] rfl
set_option maxRecDepth 1000000 in
theorem tx_el_34_1 : Cond.eq (.elem (.field (txT 34) "java/lang/String" "value" "[B") (.int (Int32.ofNat 1))) (.int (iI ((wdT.getD 34 []).getD 1 0))) ∈ flatC (Jvm.Cond.and given_1 narrow_1) := gv_p [true, true, false, false, false, true, true, false, true, false, true] rfl
set_option maxRecDepth 1000000 in
theorem tx_el_34_2 : Cond.eq (.elem (.field (txT 34) "java/lang/String" "value" "[B") (.int (Int32.ofNat 2))) (.int (iI ((wdT.getD 34 []).getD 2 0))) ∈ flatC (Jvm.Cond.and given_1 narrow_1) := gv_p [true, true, false, false, false, true, true, false, true, true, false] rfl
set_option maxRecDepth 1000000 in
theorem tx_el_34_3 : Cond.eq (.elem (.field (txT 34) "java/lang/String" "value" "[B") (.int (Int32.ofNat 3))) (.int (iI ((wdT.getD 34 []).getD 3 0))) ∈ flatC (Jvm.Cond.and given_1 narrow_1) := gv_p [true, true, false, false, false, true, true, false, true, true, true] rfl
set_option maxRecDepth 1000000 in
theorem tx_el_34_4 : Cond.eq (.elem (.field (txT 34) "java/lang/String" "value" "[B") (.int (Int32.ofNat 4))) (.int (iI ((wdT.getD 34 []).getD 4 0))) ∈ flatC (Jvm.Cond.and given_1 narrow_1) := gv_p [true, true, false, false, false, true, true, true, false, false, false] rfl
set_option maxRecDepth 1000000 in
theorem tx_ex_35 : Cond.exactly (txT 35) "java/lang/String" ∈ flatC (Jvm.Cond.and given_1 narrow_1) := gv_p [true, true, false, false, false, true, true, true, false, false, true] rfl
set_option maxRecDepth 1000000 in
theorem tx_co_35 : Cond.eq (.field (txT 35) "java/lang/String" "coder" "B") (.int 0) ∈ flatC (Jvm.Cond.and given_1 narrow_1) := gv_p [true, true, false, false, false, true, true, true, false, true, false] rfl
set_option maxRecDepth 1000000 in
theorem tx_ar_35 : Cond.arrayOf (.field (txT 35) "java/lang/String" "value" "[B") .byte ∈ flatC (Jvm.Cond.and given_1 narrow_1) := gv_p [true, true, false, false, false, true, true, true, false, true, true] rfl
set_option maxRecDepth 1000000 in
theorem tx_le_35 : Cond.eq (.length (.field (txT 35) "java/lang/String" "value" "[B")) (.int (Int32.ofNat (wdT.getD 35 []).length)) ∈ flatC (Jvm.Cond.and given_1 narrow_1) := gv_p [true, true, false, false, false, true, true, true, true, false, false] rfl
set_option maxRecDepth 1000000 in
theorem tx_el_35_0 : Cond.eq (.elem (.field (txT 35) "java/lang/String" "value" "[B") (.int (Int32.ofNat 0))) (.int (iI ((wdT.getD 35 []).getD 0 0))) ∈ flatC (Jvm.Cond.and given_1 narrow_1) := gv_p [true, true, false, false, false, true, true, true, true, false, true] rfl
set_option maxRecDepth 1000000 in
theorem tx_el_35_1 : Cond.eq (.elem (.field (txT 35) "java/lang/String" "value" "[B") (.int (Int32.ofNat 1))) (.int (iI ((wdT.getD 35 []).getD 1 0))) ∈ flatC (Jvm.Cond.and given_1 narrow_1) := gv_p [true, true, false, false, false, true, true, true, true, true, false] rfl
set_option maxRecDepth 1000000 in
theorem tx_el_35_2 : Cond.eq (.elem (.field (txT 35) "java/lang/String" "value" "[B") (.int (Int32.ofNat 2))) (.int (iI ((wdT.getD 35 []).getD 2 0))) ∈ flatC (Jvm.Cond.and given_1 narrow_1) := gv_p [true, true, false, false, false, true, true, true, true, true, true] rfl
set_option maxRecDepth 1000000 in
theorem tx_el_35_3 : Cond.eq (.elem (.field (txT 35) "java/lang/String" "value" "[B") (.int (Int32.ofNat 3))) (.int (iI ((wdT.getD 35 []).getD 3 0))) ∈ flatC (Jvm.Cond.and given_1 narrow_1) := gv_p [true, true, false, false, true, false, false, false, false, false] rfl
set_option maxRecDepth 1000000 in
theorem tx_el_35_4 : Cond.eq (.elem (.field (txT 35) "java/lang/String" "value" "[B") (.int (Int32.ofNat 4))) (.int (iI ((wdT.getD 35 []).getD 4 0))) ∈ flatC (Jvm.Cond.and given_1 narrow_1) := gv_p [true, true, false, false, true, false, false, false, false, true, false] rfl
set_option maxRecDepth 1000000 in
theorem tx_ex_36 : Cond.exactly (txT 36) "java/lang/String" ∈ flatC (Jvm.Cond.and given_1 narrow_1) := gv_p [true, true, false, false, true, false, false, false, false, true, true] rfl
set_option maxRecDepth 1000000 in
theorem tx_co_36 : Cond.eq (.field (txT 36) "java/lang/String" "coder" "B") (.int 0) ∈ flatC (Jvm.Cond.and given_1 narrow_1) := gv_p [true, true, false, false, true, false, false, false, true, false, false] rfl
set_option maxRecDepth 1000000 in
theorem tx_ar_36 : Cond.arrayOf (.field (txT 36) "java/lang/String" "value" "[B") .byte ∈ flatC (Jvm.Cond.and given_1 narrow_1) := gv_p [true, true, false, false, true, false, false, false, true, false, true] rfl
set_option maxRecDepth 1000000 in
theorem tx_le_36 : Cond.eq (.length (.field (txT 36) "java/lang/String" "value" "[B")) (.int (Int32.ofNat (wdT.getD 36 []).length)) ∈ flatC (Jvm.Cond.and given_1 narrow_1) := gv_p [true, true, false, false, true, false, false, false, true, true, false] rfl
set_option maxRecDepth 1000000 in
theorem tx_el_36_0 : Cond.eq (.elem (.field (txT 36) "java/lang/String" "value" "[B") (.int (Int32.ofNat 0))) (.int (iI ((wdT.getD 36 []).getD 0 0))) ∈ flatC (Jvm.Cond.and given_1 narrow_1) := gv_p [true, true, false, false, true, false, false, false, true, true, true] rfl
set_option maxRecDepth 1000000 in
theorem tx_el_36_1 : Cond.eq (.elem (.field (txT 36) "java/lang/String" "value" "[B") (.int (Int32.ofNat 1))) (.int (iI ((wdT.getD 36 []).getD 1 0))) ∈ flatC (Jvm.Cond.and given_1 narrow_1) := gv_p [true, true, false, false, true, false, false, true, false, false] rfl
set_option maxRecDepth 1000000 in
theorem tx_el_36_2 : Cond.eq (.elem (.field (txT 36) "java/lang/String" "value" "[B") (.int (Int32.ofNat 2))) (.int (iI ((wdT.getD 36 []).getD 2 0))) ∈ flatC (Jvm.Cond.and given_1 narrow_1) := gv_p [true, true, false, false, true, false, false, true, false, true, false] rfl
set_option maxRecDepth 1000000 in
theorem tx_el_36_3 : Cond.eq (.elem (.field (txT 36) "java/lang/String" "value" "[B") (.int (Int32.ofNat 3))) (.int (iI ((wdT.getD 36 []).getD 3 0))) ∈ flatC (Jvm.Cond.and given_1 narrow_1) := gv_p [true, true, false, false, true, false, false, true, false, true, true] rfl
set_option maxRecDepth 1000000 in
theorem tx_el_36_4 : Cond.eq (.elem (.field (txT 36) "java/lang/String" "value" "[B") (.int (Int32.ofNat 4))) (.int (iI ((wdT.getD 36 []).getD 4 0))) ∈ flatC (Jvm.Cond.and given_1 narrow_1) := gv_p [true, true, false, false, true, false, false, true, true, false, false] rfl
set_option maxRecDepth 1000000 in
theorem tx_ex_37 : Cond.exactly (txT 37) "java/lang/String" ∈ flatC (Jvm.Cond.and given_1 narrow_1) := gv_p [true, true, false, false, true, false, false, true, true, false, true] rfl
set_option maxRecDepth 1000000 in
theorem tx_co_37 : Cond.eq (.field (txT 37) "java/lang/String" "coder" "B") (.int 0) ∈ flatC (Jvm.Cond.and given_1 narrow_1) := gv_p [true, true, false, false, true, false, false, true, true, true, false] rfl
set_option maxRecDepth 1000000 in
theorem tx_ar_37 : Cond.arrayOf (.field (txT 37) "java/lang/String" "value" "[B") .byte ∈ flatC (Jvm.Cond.and given_1 narrow_1) := gv_p [true, true, false, false, true, false, false, true, true, true, true] rfl
set_option maxRecDepth 1000000 in
theorem tx_le_37 : Cond.eq (.length (.field (txT 37) "java/lang/String" "value" "[B")) (.int (Int32.ofNat (wdT.getD 37 []).length)) ∈ flatC (Jvm.Cond.and given_1 narrow_1) := gv_p [true, true, false, false, true, false, true, false, false, false] rfl
set_option maxRecDepth 1000000 in
theorem tx_el_37_0 : Cond.eq (.elem (.field (txT 37) "java/lang/String" "value" "[B") (.int (Int32.ofNat 0))) (.int (iI ((wdT.getD 37 []).getD 0 0))) ∈ flatC (Jvm.Cond.and given_1 narrow_1) := gv_p [true, true, false, false, true, false, true, false, false, true, false] rfl
set_option maxRecDepth 1000000 in
theorem tx_el_37_1 : Cond.eq (.elem (.field (txT 37) "java/lang/String" "value" "[B") (.int (Int32.ofNat 1))) (.int (iI ((wdT.getD 37 []).getD 1 0))) ∈ flatC (Jvm.Cond.and given_1 narrow_1) := gv_p [true, true, false, false, true, false, true, false, false, true, true] rfl
set_option maxRecDepth 1000000 in
theorem tx_el_37_2 : Cond.eq (.elem (.field (txT 37) "java/lang/String" "value" "[B") (.int (Int32.ofNat 2))) (.int (iI ((wdT.getD 37 []).getD 2 0))) ∈ flatC (Jvm.Cond.and given_1 narrow_1) := gv_p [true, true, false, false, true, false, true, false, true, false, false] rfl
set_option maxRecDepth 1000000 in
theorem tx_el_37_3 : Cond.eq (.elem (.field (txT 37) "java/lang/String" "value" "[B") (.int (Int32.ofNat 3))) (.int (iI ((wdT.getD 37 []).getD 3 0))) ∈ flatC (Jvm.Cond.and given_1 narrow_1) := gv_p [true, true, false, false, true, false, true, false, true, false, true] rfl
set_option maxRecDepth 1000000 in
theorem tx_ex_38 : Cond.exactly (txT 38) "java/lang/String" ∈ flatC (Jvm.Cond.and given_1 narrow_1) := gv_p [true, true, false, false, true, false, true, false, true, true, false] rfl
set_option maxRecDepth 1000000 in
theorem tx_co_38 : Cond.eq (.field (txT 38) "java/lang/String" "coder" "B") (.int 0) ∈ flatC (Jvm.Cond.and given_1 narrow_1) := gv_p [true, true, false, false, true, false, true, false, true, true, true] rfl
set_option maxRecDepth 1000000 in
theorem tx_ar_38 : Cond.arrayOf (.field (txT 38) "java/lang/String" "value" "[B") .byte ∈ flatC (Jvm.Cond.and given_1 narrow_1) := gv_p [true, true, false, false, true, false, true, true, false, false, false] rfl
set_option maxRecDepth 1000000 in
theorem tx_le_38 : Cond.eq (.length (.field (txT 38) "java/lang/String" "value" "[B")) (.int (Int32.ofNat (wdT.getD 38 []).length)) ∈ flatC (Jvm.Cond.and given_1 narrow_1) := gv_p [true, true, false, false, true, false, true, true, false, false, true] rfl
set_option maxRecDepth 1000000 in
theorem tx_el_38_0 : Cond.eq (.elem (.field (txT 38) "java/lang/String" "value" "[B") (.int (Int32.ofNat 0))) (.int (iI ((wdT.getD 38 []).getD 0 0))) ∈ flatC (Jvm.Cond.and given_1 narrow_1) := gv_p [true, true, false, false, true, false, true, true, false, true, false] rfl
set_option maxRecDepth 1000000 in
theorem tx_el_38_1 : Cond.eq (.elem (.field (txT 38) "java/lang/String" "value" "[B") (.int (Int32.ofNat 1))) (.int (iI ((wdT.getD 38 []).getD 1 0))) ∈ flatC (Jvm.Cond.and given_1 narrow_1) := gv_p [true, true, false, false, true, false, true, true, false, true, true] rfl
set_option maxRecDepth 1000000 in
theorem tx_el_38_2 : Cond.eq (.elem (.field (txT 38) "java/lang/String" "value" "[B") (.int (Int32.ofNat 2))) (.int (iI ((wdT.getD 38 []).getD 2 0))) ∈ flatC (Jvm.Cond.and given_1 narrow_1) := gv_p [true, true, false, false, true, false, true, true, true, false, false] rfl
set_option maxRecDepth 1000000 in
theorem tx_el_38_3 : Cond.eq (.elem (.field (txT 38) "java/lang/String" "value" "[B") (.int (Int32.ofNat 3))) (.int (iI ((wdT.getD 38 []).getD 3 0))) ∈ flatC (Jvm.Cond.and given_1 narrow_1) := gv_p [true, true, false, false, true, false, true, true, true, false, true] rfl
set_option maxRecDepth 1000000 in
theorem tx_ex_39 : Cond.exactly (txT 39) "java/lang/String" ∈ flatC (Jvm.Cond.and given_1 narrow_1) := gv_p [true, true, false, false, true, false, true, true, true, true, false] rfl
set_option maxRecDepth 1000000 in
theorem tx_co_39 : Cond.eq (.field (txT 39) "java/lang/String" "coder" "B") (.int 0) ∈ flatC (Jvm.Cond.and given_1 narrow_1) := gv_p [true, true, false, false, true, false, true, true, true, true, true] rfl
set_option maxRecDepth 1000000 in
theorem tx_ar_39 : Cond.arrayOf (.field (txT 39) "java/lang/String" "value" "[B") .byte ∈ flatC (Jvm.Cond.and given_1 narrow_1) := gv_p [true, true, false, false, true, true, false, false, false, false] rfl
set_option maxRecDepth 1000000 in
theorem tx_le_39 : Cond.eq (.length (.field (txT 39) "java/lang/String" "value" "[B")) (.int (Int32.ofNat (wdT.getD 39 []).length)) ∈ flatC (Jvm.Cond.and given_1 narrow_1) := gv_p [true, true, false, false, true, true, false, false, false, true, false] rfl
set_option maxRecDepth 1000000 in
theorem tx_el_39_0 : Cond.eq (.elem (.field (txT 39) "java/lang/String" "value" "[B") (.int (Int32.ofNat 0))) (.int (iI ((wdT.getD 39 []).getD 0 0))) ∈ flatC (Jvm.Cond.and given_1 narrow_1) := gv_p [true, true, false, false, true, true, false, false, false, true, true] rfl
set_option maxRecDepth 1000000 in
theorem tx_el_39_1 : Cond.eq (.elem (.field (txT 39) "java/lang/String" "value" "[B") (.int (Int32.ofNat 1))) (.int (iI ((wdT.getD 39 []).getD 1 0))) ∈ flatC (Jvm.Cond.and given_1 narrow_1) := gv_p [true, true, false, false, true, true, false, false, true, false, false] rfl
set_option maxRecDepth 1000000 in
theorem tx_el_39_2 : Cond.eq (.elem (.field (txT 39) "java/lang/String" "value" "[B") (.int (Int32.ofNat 2))) (.int (iI ((wdT.getD 39 []).getD 2 0))) ∈ flatC (Jvm.Cond.and given_1 narrow_1) := gv_p [true, true, false, false, true, true, false, false, true, false, true] rfl
set_option maxRecDepth 1000000 in
theorem tx_el_39_3 : Cond.eq (.elem (.field (txT 39) "java/lang/String" "value" "[B") (.int (Int32.ofNat 3))) (.int (iI ((wdT.getD 39 []).getD 3 0))) ∈ flatC (Jvm.Cond.and given_1 narrow_1) := gv_p [true, true, false, false, true, true, false, false, true, true, false] rfl
set_option maxRecDepth 1000000 in
theorem tx_el_39_4 : Cond.eq (.elem (.field (txT 39) "java/lang/String" "value" "[B") (.int (Int32.ofNat 4))) (.int (iI ((wdT.getD 39 []).getD 4 0))) ∈ flatC (Jvm.Cond.and given_1 narrow_1) := gv_p [true, true, false, false, true, true, false, false, true, true, true] rfl
set_option maxRecDepth 1000000 in
theorem tx_ex_40 : Cond.exactly (txT 40) "java/lang/String" ∈ flatC (Jvm.Cond.and given_1 narrow_1) := gv_p [true, true, false, false, true, true, false, true, false, false] rfl
set_option maxRecDepth 1000000 in
theorem tx_co_40 : Cond.eq (.field (txT 40) "java/lang/String" "coder" "B") (.int 0) ∈ flatC (Jvm.Cond.and given_1 narrow_1) := gv_p [true, true, false, false, true, true, false, true, false, true, false] rfl
set_option maxRecDepth 1000000 in
theorem tx_ar_40 : Cond.arrayOf (.field (txT 40) "java/lang/String" "value" "[B") .byte ∈ flatC (Jvm.Cond.and given_1 narrow_1) := gv_p [true, true, false, false, true, true, false, true, false, true, true] rfl
set_option maxRecDepth 1000000 in
theorem tx_le_40 : Cond.eq (.length (.field (txT 40) "java/lang/String" "value" "[B")) (.int (Int32.ofNat (wdT.getD 40 []).length)) ∈ flatC (Jvm.Cond.and given_1 narrow_1) := gv_p [true, true, false, false, true, true, false, true, true, false, false] rfl
set_option maxRecDepth 1000000 in
theorem tx_el_40_0 : Cond.eq (.elem (.field (txT 40) "java/lang/String" "value" "[B") (.int (Int32.ofNat 0))) (.int (iI ((wdT.getD 40 []).getD 0 0))) ∈ flatC (Jvm.Cond.and given_1 narrow_1) := gv_p [true, true, false, false, true, true, false, true, true, false, true] rfl
set_option maxRecDepth 1000000 in
theorem tx_el_40_1 : Cond.eq (.elem (.field (txT 40) "java/lang/String" "value" "[B") (.int (Int32.ofNat 1))) (.int (iI ((wdT.getD 40 []).getD 1 0))) ∈ flatC (Jvm.Cond.and given_1 narrow_1) := gv_p [true, true, false, false, true, true, false, true, true, true, false] rfl
set_option maxRecDepth 1000000 in
theorem tx_el_40_2 : Cond.eq (.elem (.field (txT 40) "java/lang/String" "value" "[B") (.int (Int32.ofNat 2))) (.int (iI ((wdT.getD 40 []).getD 2 0))) ∈ flatC (Jvm.Cond.and given_1 narrow_1) := gv_p [true, true, false, false, true, true, false, true, true, true, true] rfl
set_option maxRecDepth 1000000 in
theorem tx_el_40_3 : Cond.eq (.elem (.field (txT 40) "java/lang/String" "value" "[B") (.int (Int32.ofNat 3))) (.int (iI ((wdT.getD 40 []).getD 3 0))) ∈ flatC (Jvm.Cond.and given_1 narrow_1) := gv_p [true, true, false, false, true, true, true, false, false, false] rfl
set_option maxRecDepth 1000000 in
theorem tx_el_40_4 : Cond.eq (.elem (.field (txT 40) "java/lang/String" "value" "[B") (.int (Int32.ofNat 4))) (.int (iI ((wdT.getD 40 []).getD 4 0))) ∈ flatC (Jvm.Cond.and given_1 narrow_1) := gv_p [true, true, false, false, true, true, true, false, false, true, false] rfl
set_option maxRecDepth 1000000 in
theorem tx_ex_41 : Cond.exactly (txT 41) "java/lang/String" ∈ flatC (Jvm.Cond.and given_1 narrow_1) := gv_p [true, true, false, false, true, true, true, false, false, true, true] rfl
set_option maxRecDepth 1000000 in
theorem tx_co_41 : Cond.eq (.field (txT 41) "java/lang/String" "coder" "B") (.int 0) ∈ flatC (Jvm.Cond.and given_1 narrow_1) := gv_p [true, true, false, false, true, true, true, false, true, false, false] rfl
set_option maxRecDepth 1000000 in
theorem tx_ar_41 : Cond.arrayOf (.field (txT 41) "java/lang/String" "value" "[B") .byte ∈ flatC (Jvm.Cond.and given_1 narrow_1) := gv_p [true, true, false, false, true, true, true, false, true, false, true] rfl
set_option maxRecDepth 1000000 in
theorem tx_le_41 : Cond.eq (.length (.field (txT 41) "java/lang/String" "value" "[B")) (.int (Int32.ofNat (wdT.getD 41 []).length)) ∈ flatC (Jvm.Cond.and given_1 narrow_1) := gv_p [true, true, false, false, true, true, true, false, true, true, false] rfl
set_option maxRecDepth 1000000 in
theorem tx_el_41_0 : Cond.eq (.elem (.field (txT 41) "java/lang/String" "value" "[B") (.int (Int32.ofNat 0))) (.int (iI ((wdT.getD 41 []).getD 0 0))) ∈ flatC (Jvm.Cond.and given_1 narrow_1) := gv_p [true, true, false, false, true, true, true, false, true, true, true] rfl
set_option maxRecDepth 1000000 in
theorem tx_el_41_1 : Cond.eq (.elem (.field (txT 41) "java/lang/String" "value" "[B") (.int (Int32.ofNat 1))) (.int (iI ((wdT.getD 41 []).getD 1 0))) ∈ flatC (Jvm.Cond.and given_1 narrow_1) := gv_p [true, true, false, false, true, true, true, true, false, false, false] rfl
set_option maxRecDepth 1000000 in
theorem tx_el_41_2 : Cond.eq (.elem (.field (txT 41) "java/lang/String" "value" "[B") (.int (Int32.ofNat 2))) (.int (iI ((wdT.getD 41 []).getD 2 0))) ∈ flatC (Jvm.Cond.and given_1 narrow_1) := gv_p [true, true, false, false, true, true, true, true, false, false, true] rfl
set_option maxRecDepth 1000000 in
theorem tx_ex_42 : Cond.exactly (txT 42) "java/lang/String" ∈ flatC (Jvm.Cond.and given_1 narrow_1) := gv_p [true, true, false, false, true, true, true, true, false, true, false] rfl
set_option maxRecDepth 1000000 in
theorem tx_co_42 : Cond.eq (.field (txT 42) "java/lang/String" "coder" "B") (.int 0) ∈ flatC (Jvm.Cond.and given_1 narrow_1) := gv_p [true, true, false, false, true, true, true, true, false, true, true] rfl
set_option maxRecDepth 1000000 in
theorem tx_ar_42 : Cond.arrayOf (.field (txT 42) "java/lang/String" "value" "[B") .byte ∈ flatC (Jvm.Cond.and given_1 narrow_1) := gv_p [true, true, false, false, true, true, true, true, true, false, false] rfl
set_option maxRecDepth 1000000 in
theorem tx_le_42 : Cond.eq (.length (.field (txT 42) "java/lang/String" "value" "[B")) (.int (Int32.ofNat (wdT.getD 42 []).length)) ∈ flatC (Jvm.Cond.and given_1 narrow_1) := gv_p [true, true, false, false, true, true, true, true, true, false, true] rfl
set_option maxRecDepth 1000000 in
theorem tx_el_42_0 : Cond.eq (.elem (.field (txT 42) "java/lang/String" "value" "[B") (.int (Int32.ofNat 0))) (.int (iI ((wdT.getD 42 []).getD 0 0))) ∈ flatC (Jvm.Cond.and given_1 narrow_1) := gv_p [true, true, false, false, true, true, true, true, true, true, false] rfl
set_option maxRecDepth 1000000 in
theorem tx_el_42_1 : Cond.eq (.elem (.field (txT 42) "java/lang/String" "value" "[B") (.int (Int32.ofNat 1))) (.int (iI ((wdT.getD 42 []).getD 1 0))) ∈ flatC (Jvm.Cond.and given_1 narrow_1) := gv_p [true, true, false, false, true, true, true, true, true, true, true] rfl
set_option maxRecDepth 1000000 in
theorem tx_el_42_2 : Cond.eq (.elem (.field (txT 42) "java/lang/String" "value" "[B") (.int (Int32.ofNat 2))) (.int (iI ((wdT.getD 42 []).getD 2 0))) ∈ flatC (Jvm.Cond.and given_1 narrow_1) := gv_p [true, true, false, true, false, false, false, false, false, false] rfl
set_option maxRecDepth 1000000 in
theorem tx_el_42_3 : Cond.eq (.elem (.field (txT 42) "java/lang/String" "value" "[B") (.int (Int32.ofNat 3))) (.int (iI ((wdT.getD 42 []).getD 3 0))) ∈ flatC (Jvm.Cond.and given_1 narrow_1) := gv_p [true, true, false, true, false, false, false, false, false, true, false] rfl
set_option maxRecDepth 1000000 in
theorem tx_ex_43 : Cond.exactly (txT 43) "java/lang/String" ∈ flatC (Jvm.Cond.and given_1 narrow_1) := gv_p [true, true, false, true, false, false, false, false, false, true, true] rfl
set_option maxRecDepth 1000000 in
theorem tx_co_43 : Cond.eq (.field (txT 43) "java/lang/String" "coder" "B") (.int 0) ∈ flatC (Jvm.Cond.and given_1 narrow_1) := gv_p [true, true, false, true, false, false, false, false, true, false, false] rfl
set_option maxRecDepth 1000000 in
theorem tx_ar_43 : Cond.arrayOf (.field (txT 43) "java/lang/String" "value" "[B") .byte ∈ flatC (Jvm.Cond.and given_1 narrow_1) := gv_p [true, true, false, true, false, false, false, false, true, false, true] rfl
set_option maxRecDepth 1000000 in
theorem tx_le_43 : Cond.eq (.length (.field (txT 43) "java/lang/String" "value" "[B")) (.int (Int32.ofNat (wdT.getD 43 []).length)) ∈ flatC (Jvm.Cond.and given_1 narrow_1) := gv_p [true, true, false, true, false, false, false, false, true, true, false] rfl
set_option maxRecDepth 1000000 in
theorem tx_el_43_0 : Cond.eq (.elem (.field (txT 43) "java/lang/String" "value" "[B") (.int (Int32.ofNat 0))) (.int (iI ((wdT.getD 43 []).getD 0 0))) ∈ flatC (Jvm.Cond.and given_1 narrow_1) := gv_p [true, true, false, true, false, false, false, false, true, true, true] rfl
set_option maxRecDepth 1000000 in
theorem tx_el_43_1 : Cond.eq (.elem (.field (txT 43) "java/lang/String" "value" "[B") (.int (Int32.ofNat 1))) (.int (iI ((wdT.getD 43 []).getD 1 0))) ∈ flatC (Jvm.Cond.and given_1 narrow_1) := gv_p [true, true, false, true, false, false, false, true, false, false] rfl
set_option maxRecDepth 1000000 in
theorem tx_el_43_2 : Cond.eq (.elem (.field (txT 43) "java/lang/String" "value" "[B") (.int (Int32.ofNat 2))) (.int (iI ((wdT.getD 43 []).getD 2 0))) ∈ flatC (Jvm.Cond.and given_1 narrow_1) := gv_p [true, true, false, true, false, false, false, true, false, true, false] rfl
set_option maxRecDepth 1000000 in
theorem tx_ex_44 : Cond.exactly (txT 44) "java/lang/String" ∈ flatC (Jvm.Cond.and given_1 narrow_1) := gv_p [true, true, false, true, false, false, false, true, false, true, true] rfl
set_option maxRecDepth 1000000 in
theorem tx_co_44 : Cond.eq (.field (txT 44) "java/lang/String" "coder" "B") (.int 0) ∈ flatC (Jvm.Cond.and given_1 narrow_1) := gv_p [true, true, false, true, false, false, false, true, true, false, false] rfl
set_option maxRecDepth 1000000 in
theorem tx_ar_44 : Cond.arrayOf (.field (txT 44) "java/lang/String" "value" "[B") .byte ∈ flatC (Jvm.Cond.and given_1 narrow_1) := gv_p [true, true, false, true, false, false, false, true, true, false, true] rfl
set_option maxRecDepth 1000000 in
theorem tx_le_44 : Cond.eq (.length (.field (txT 44) "java/lang/String" "value" "[B")) (.int (Int32.ofNat (wdT.getD 44 []).length)) ∈ flatC (Jvm.Cond.and given_1 narrow_1) := gv_p [true, true, false, true, false, false, false, true, true, true, false] rfl
set_option maxRecDepth 1000000 in
theorem tx_el_44_0 : Cond.eq (.elem (.field (txT 44) "java/lang/String" "value" "[B") (.int (Int32.ofNat 0))) (.int (iI ((wdT.getD 44 []).getD 0 0))) ∈ flatC (Jvm.Cond.and given_1 narrow_1) := gv_p [true, true, false, true, false, false, false, true, true, true, true] rfl
set_option maxRecDepth 1000000 in
theorem tx_el_44_1 : Cond.eq (.elem (.field (txT 44) "java/lang/String" "value" "[B") (.int (Int32.ofNat 1))) (.int (iI ((wdT.getD 44 []).getD 1 0))) ∈ flatC (Jvm.Cond.and given_1 narrow_1) := gv_p [true, true, false, true, false, false, true, false, false, false] rfl
set_option maxRecDepth 1000000 in
theorem tx_ex_49 : Cond.exactly (txT 49) "java/lang/String" ∈ flatC (Jvm.Cond.and given_1 narrow_1) := gv_p [true, true, false, true, false, false, true, false, false, true, false] rfl
set_option maxRecDepth 1000000 in
theorem tx_co_49 : Cond.eq (.field (txT 49) "java/lang/String" "coder" "B") (.int 0) ∈ flatC (Jvm.Cond.and given_1 narrow_1) := gv_p [true, true, false, true, false, false, true, false, false, true, true] rfl
set_option maxRecDepth 1000000 in
theorem tx_ar_49 : Cond.arrayOf (.field (txT 49) "java/lang/String" "value" "[B") .byte ∈ flatC (Jvm.Cond.and given_1 narrow_1) := gv_p [true, true, false, true, false, false, true, false, true, false, false] rfl
set_option maxRecDepth 1000000 in
theorem tx_le_49 : Cond.eq (.length (.field (txT 49) "java/lang/String" "value" "[B")) (.int (Int32.ofNat (wdT.getD 49 []).length)) ∈ flatC (Jvm.Cond.and given_1 narrow_1) := gv_p [true, true, false, true, false, false, true, false, true, false, true] rfl
set_option maxRecDepth 1000000 in
theorem tx_el_49_0 : Cond.eq (.elem (.field (txT 49) "java/lang/String" "value" "[B") (.int (Int32.ofNat 0))) (.int (iI ((wdT.getD 49 []).getD 0 0))) ∈ flatC (Jvm.Cond.and given_1 narrow_1) := gv_p [true, true, false, true, false, false, true, false, true, true, false] rfl
set_option maxRecDepth 1000000 in
theorem tx_el_49_1 : Cond.eq (.elem (.field (txT 49) "java/lang/String" "value" "[B") (.int (Int32.ofNat 1))) (.int (iI ((wdT.getD 49 []).getD 1 0))) ∈ flatC (Jvm.Cond.and given_1 narrow_1) := gv_p [true, true, false, true, false, false, true, false, true, true, true] rfl
set_option maxRecDepth 1000000 in
theorem tx_el_49_2 : Cond.eq (.elem (.field (txT 49) "java/lang/String" "value" "[B") (.int (Int32.ofNat 2))) (.int (iI ((wdT.getD 49 []).getD 2 0))) ∈ flatC (Jvm.Cond.and given_1 narrow_1) := gv_p [true, true, false, true, false, false, true, true, false, false, false] rfl
set_option maxRecDepth 1000000 in
theorem tx_ex_48 : Cond.exactly (txT 48) "java/lang/String" ∈ flatC (Jvm.Cond.and given_1 narrow_1) := gv_p [true, true, false, true, false, false, true, true, false, false, true] rfl
set_option maxRecDepth 1000000 in
theorem tx_co_48 : Cond.eq (.field (txT 48) "java/lang/String" "coder" "B") (.int 0) ∈ flatC (Jvm.Cond.and given_1 narrow_1) := gv_p [true, true, false, true, false, false, true, true, false, true, false] rfl
set_option maxRecDepth 1000000 in
theorem tx_ar_48 : Cond.arrayOf (.field (txT 48) "java/lang/String" "value" "[B") .byte ∈ flatC (Jvm.Cond.and given_1 narrow_1) := gv_p [true, true, false, true, false, false, true, true, false, true, true] rfl
set_option maxRecDepth 1000000 in
theorem tx_le_48 : Cond.eq (.length (.field (txT 48) "java/lang/String" "value" "[B")) (.int (Int32.ofNat (wdT.getD 48 []).length)) ∈ flatC (Jvm.Cond.and given_1 narrow_1) := gv_p [true, true, false, true, false, false, true, true, true, false, false] rfl
set_option maxRecDepth 1000000 in
theorem tx_el_48_0 : Cond.eq (.elem (.field (txT 48) "java/lang/String" "value" "[B") (.int (Int32.ofNat 0))) (.int (iI ((wdT.getD 48 []).getD 0 0))) ∈ flatC (Jvm.Cond.and given_1 narrow_1) := gv_p [true, true, false, true, false, false, true, true, true, false, true] rfl
set_option maxRecDepth 1000000 in
theorem tx_el_48_1 : Cond.eq (.elem (.field (txT 48) "java/lang/String" "value" "[B") (.int (Int32.ofNat 1))) (.int (iI ((wdT.getD 48 []).getD 1 0))) ∈ flatC (Jvm.Cond.and given_1 narrow_1) := gv_p [true, true, false, true, false, false, true, true, true, true, false] rfl
set_option maxRecDepth 1000000 in
theorem tx_el_48_2 : Cond.eq (.elem (.field (txT 48) "java/lang/String" "value" "[B") (.int (Int32.ofNat 2))) (.int (iI ((wdT.getD 48 []).getD 2 0))) ∈ flatC (Jvm.Cond.and given_1 narrow_1) := gv_p [true, true, false, true, false, false, true, true, true, true, true] rfl
set_option maxRecDepth 1000000 in
theorem tx_ex_47 : Cond.exactly (txT 47) "java/lang/String" ∈ flatC (Jvm.Cond.and given_1 narrow_1) := gv_p [true, true, false, true, false, true, false, false, false, false] rfl
set_option maxRecDepth 1000000 in
theorem tx_co_47 : Cond.eq (.field (txT 47) "java/lang/String" "coder" "B") (.int 0) ∈ flatC (Jvm.Cond.and given_1 narrow_1) := gv_p [true, true, false, true, false, true, false, false, false, true, false] rfl
set_option maxRecDepth 1000000 in
theorem tx_ar_47 : Cond.arrayOf (.field (txT 47) "java/lang/String" "value" "[B") .byte ∈ flatC (Jvm.Cond.and given_1 narrow_1) := gv_p [true, true, false, true, false, true, false, false, false, true, true] rfl
set_option maxRecDepth 1000000 in
theorem tx_le_47 : Cond.eq (.length (.field (txT 47) "java/lang/String" "value" "[B")) (.int (Int32.ofNat (wdT.getD 47 []).length)) ∈ flatC (Jvm.Cond.and given_1 narrow_1) := gv_p [true, true, false, true, false, true, false, false, true, false, false] rfl
set_option maxRecDepth 1000000 in
theorem tx_el_47_0 : Cond.eq (.elem (.field (txT 47) "java/lang/String" "value" "[B") (.int (Int32.ofNat 0))) (.int (iI ((wdT.getD 47 []).getD 0 0))) ∈ flatC (Jvm.Cond.and given_1 narrow_1) := gv_p [true, true, false, true, false, true, false, false, true, false, true] rfl
set_option maxRecDepth 1000000 in
theorem tx_el_47_1 : Cond.eq (.elem (.field (txT 47) "java/lang/String" "value" "[B") (.int (Int32.ofNat 1))) (.int (iI ((wdT.getD 47 []).getD 1 0))) ∈ flatC (Jvm.Cond.and given_1 narrow_1) := gv_p [true, true, false, true, false, true, false, false, true, true, false] rfl
set_option maxRecDepth 1000000 in
theorem tx_ex_45 : Cond.exactly (txT 45) "java/lang/String" ∈ flatC (Jvm.Cond.and given_1 narrow_1) := gv_p [true, true, false, true, false, true, false, false, true, true, true] rfl
set_option maxRecDepth 1000000 in
theorem tx_co_45 : Cond.eq (.field (txT 45) "java/lang/String" "coder" "B") (.int 0) ∈ flatC (Jvm.Cond.and given_1 narrow_1) := gv_p [true, true, false, true, false, true, false, true, false, false] rfl
set_option maxRecDepth 1000000 in
theorem tx_ar_45 : Cond.arrayOf (.field (txT 45) "java/lang/String" "value" "[B") .byte ∈ flatC (Jvm.Cond.and given_1 narrow_1) := gv_p [true, true, false, true, false, true, false, true, false, true, false] rfl
set_option maxRecDepth 1000000 in
theorem tx_le_45 : Cond.eq (.length (.field (txT 45) "java/lang/String" "value" "[B")) (.int (Int32.ofNat (wdT.getD 45 []).length)) ∈ flatC (Jvm.Cond.and given_1 narrow_1) := gv_p [true, true, false, true, false, true, false, true, false, true, true] rfl
set_option maxRecDepth 1000000 in
theorem tx_el_45_0 : Cond.eq (.elem (.field (txT 45) "java/lang/String" "value" "[B") (.int (Int32.ofNat 0))) (.int (iI ((wdT.getD 45 []).getD 0 0))) ∈ flatC (Jvm.Cond.and given_1 narrow_1) := gv_p [true, true, false, true, false, true, false, true, true, false, false] rfl
set_option maxRecDepth 1000000 in
theorem tx_el_45_1 : Cond.eq (.elem (.field (txT 45) "java/lang/String" "value" "[B") (.int (Int32.ofNat 1))) (.int (iI ((wdT.getD 45 []).getD 1 0))) ∈ flatC (Jvm.Cond.and given_1 narrow_1) := gv_p [true, true, false, true, false, true, false, true, true, false, true] rfl
set_option maxRecDepth 1000000 in
theorem tx_el_45_2 : Cond.eq (.elem (.field (txT 45) "java/lang/String" "value" "[B") (.int (Int32.ofNat 2))) (.int (iI ((wdT.getD 45 []).getD 2 0))) ∈ flatC (Jvm.Cond.and given_1 narrow_1) := gv_p [true, true, false, true, false, true, false, true, true, true, false] rfl
set_option maxRecDepth 1000000 in
theorem tx_el_45_3 : Cond.eq (.elem (.field (txT 45) "java/lang/String" "value" "[B") (.int (Int32.ofNat 3))) (.int (iI ((wdT.getD 45 []).getD 3 0))) ∈ flatC (Jvm.Cond.and given_1 narrow_1) := gv_p [true, true, false, true, false, true, false, true, true, true, true] rfl
set_option maxRecDepth 1000000 in
theorem tx_ex_46 : Cond.exactly (txT 46) "java/lang/String" ∈ flatC (Jvm.Cond.and given_1 narrow_1) := gv_p [true, true, false, true, false, true, true, false, false, false] rfl
set_option maxRecDepth 1000000 in
theorem tx_co_46 : Cond.eq (.field (txT 46) "java/lang/String" "coder" "B") (.int 0) ∈ flatC (Jvm.Cond.and given_1 narrow_1) := gv_p [true, true, false, true, false, true, true, false, false, true, false] rfl
set_option maxRecDepth 1000000 in
theorem tx_ar_46 : Cond.arrayOf (.field (txT 46) "java/lang/String" "value" "[B") .byte ∈ flatC (Jvm.Cond.and given_1 narrow_1) := gv_p [true, true, false, true, false, true, true, false, false, true, true] rfl
set_option maxRecDepth 1000000 in
theorem tx_le_46 : Cond.eq (.length (.field (txT 46) "java/lang/String" "value" "[B")) (.int (Int32.ofNat (wdT.getD 46 []).length)) ∈ flatC (Jvm.Cond.and given_1 narrow_1) := gv_p [true, true, false, true, false, true, true, false, true, false, false] rfl
set_option maxRecDepth 1000000 in
theorem tx_el_46_0 : Cond.eq (.elem (.field (txT 46) "java/lang/String" "value" "[B") (.int (Int32.ofNat 0))) (.int (iI ((wdT.getD 46 []).getD 0 0))) ∈ flatC (Jvm.Cond.and given_1 narrow_1) := gv_p [true, true, false, true, false, true, true, false, true, false, true] rfl
set_option maxRecDepth 1000000 in
theorem tx_el_46_1 : Cond.eq (.elem (.field (txT 46) "java/lang/String" "value" "[B") (.int (Int32.ofNat 1))) (.int (iI ((wdT.getD 46 []).getD 1 0))) ∈ flatC (Jvm.Cond.and given_1 narrow_1) := gv_p [true, true, false, true, false, true, true, false, true, true, false] rfl
set_option maxRecDepth 1000000 in
theorem tx_el_46_2 : Cond.eq (.elem (.field (txT 46) "java/lang/String" "value" "[B") (.int (Int32.ofNat 2))) (.int (iI ((wdT.getD 46 []).getD 2 0))) ∈ flatC (Jvm.Cond.and given_1 narrow_1) := gv_p [true, true, false, true, false, true, true, false, true, true, true] rfl
set_option maxRecDepth 1000000 in
theorem tx_el_46_3 : Cond.eq (.elem (.field (txT 46) "java/lang/String" "value" "[B") (.int (Int32.ofNat 3))) (.int (iI ((wdT.getD 46 []).getD 3 0))) ∈ flatC (Jvm.Cond.and given_1 narrow_1) := gv_p [true, true, false, true, false, true, true, true, false, false, false] rfl
set_option maxRecDepth 1000000 in
theorem tx_ex_50 : Cond.exactly (txT 50) "java/lang/String" ∈ flatC (Jvm.Cond.and given_1 narrow_1) := gv_p [true, true, false, true, false, true, true, true, false, false, true] rfl
set_option maxRecDepth 1000000 in
theorem tx_co_50 : Cond.eq (.field (txT 50) "java/lang/String" "coder" "B") (.int 0) ∈ flatC (Jvm.Cond.and given_1 narrow_1) := gv_p [true, true, false, true, false, true, true, true, false, true, false] rfl
set_option maxRecDepth 1000000 in
theorem tx_ar_50 : Cond.arrayOf (.field (txT 50) "java/lang/String" "value" "[B") .byte ∈ flatC (Jvm.Cond.and given_1 narrow_1) := gv_p [true, true, false, true, false, true, true, true, false, true, true] rfl
set_option maxRecDepth 1000000 in
theorem tx_le_50 : Cond.eq (.length (.field (txT 50) "java/lang/String" "value" "[B")) (.int (Int32.ofNat (wdT.getD 50 []).length)) ∈ flatC (Jvm.Cond.and given_1 narrow_1) := gv_p [true, true, false, true, false, true, true, true, true, false, false] rfl
set_option maxRecDepth 1000000 in
theorem tx_el_50_0 : Cond.eq (.elem (.field (txT 50) "java/lang/String" "value" "[B") (.int (Int32.ofNat 0))) (.int (iI ((wdT.getD 50 []).getD 0 0))) ∈ flatC (Jvm.Cond.and given_1 narrow_1) := gv_p [true, true, false, true, false, true, true, true, true, false, true] rfl
set_option maxRecDepth 1000000 in
theorem tx_el_50_1 : Cond.eq (.elem (.field (txT 50) "java/lang/String" "value" "[B") (.int (Int32.ofNat 1))) (.int (iI ((wdT.getD 50 []).getD 1 0))) ∈ flatC (Jvm.Cond.and given_1 narrow_1) := gv_p [true, true, false, true, false, true, true, true, true, true, false] rfl
set_option maxRecDepth 1000000 in
theorem tx_el_50_2 : Cond.eq (.elem (.field (txT 50) "java/lang/String" "value" "[B") (.int (Int32.ofNat 2))) (.int (iI ((wdT.getD 50 []).getD 2 0))) ∈ flatC (Jvm.Cond.and given_1 narrow_1) := gv_p [true, true, false, true, false, true, true, true, true, true, true] rfl
set_option maxRecDepth 1000000 in
theorem tx_el_50_3 : Cond.eq (.elem (.field (txT 50) "java/lang/String" "value" "[B") (.int (Int32.ofNat 3))) (.int (iI ((wdT.getD 50 []).getD 3 0))) ∈ flatC (Jvm.Cond.and given_1 narrow_1) := gv_p [true, true, false, true, true, false, false, false, false, false] rfl
set_option maxRecDepth 1000000 in
theorem tx_el_50_4 : Cond.eq (.elem (.field (txT 50) "java/lang/String" "value" "[B") (.int (Int32.ofNat 4))) (.int (iI ((wdT.getD 50 []).getD 4 0))) ∈ flatC (Jvm.Cond.and given_1 narrow_1) := gv_p [true, true, false, true, true, false, false, false, false, true, false] rfl
set_option maxRecDepth 1000000 in
theorem tx_ex_51 : Cond.exactly (txT 51) "java/lang/String" ∈ flatC (Jvm.Cond.and given_1 narrow_1) := gv_p [true, true, false, true, true, false, false, false, false, true, true] rfl
set_option maxRecDepth 1000000 in
theorem tx_co_51 : Cond.eq (.field (txT 51) "java/lang/String" "coder" "B") (.int 0) ∈ flatC (Jvm.Cond.and given_1 narrow_1) := gv_p [true, true, false, true, true, false, false, false, true, false, false] rfl
set_option maxRecDepth 1000000 in
theorem tx_ar_51 : Cond.arrayOf (.field (txT 51) "java/lang/String" "value" "[B") .byte ∈ flatC (Jvm.Cond.and given_1 narrow_1) := gv_p [true, true, false, true, true, false, false, false, true, false, true] rfl
set_option maxRecDepth 1000000 in
theorem tx_le_51 : Cond.eq (.length (.field (txT 51) "java/lang/String" "value" "[B")) (.int (Int32.ofNat (wdT.getD 51 []).length)) ∈ flatC (Jvm.Cond.and given_1 narrow_1) := gv_p [true, true, false, true, true, false, false, false, true, true, false] rfl
set_option maxRecDepth 1000000 in
theorem tx_el_51_0 : Cond.eq (.elem (.field (txT 51) "java/lang/String" "value" "[B") (.int (Int32.ofNat 0))) (.int (iI ((wdT.getD 51 []).getD 0 0))) ∈ flatC (Jvm.Cond.and given_1 narrow_1) := gv_p [true, true, false, true, true, false, false, false, true, true, true] rfl
set_option maxRecDepth 1000000 in
theorem tx_el_51_1 : Cond.eq (.elem (.field (txT 51) "java/lang/String" "value" "[B") (.int (Int32.ofNat 1))) (.int (iI ((wdT.getD 51 []).getD 1 0))) ∈ flatC (Jvm.Cond.and given_1 narrow_1) := gv_p [true, true, false, true, true, false, false, true, false, false] rfl
set_option maxRecDepth 1000000 in
theorem tx_el_51_2 : Cond.eq (.elem (.field (txT 51) "java/lang/String" "value" "[B") (.int (Int32.ofNat 2))) (.int (iI ((wdT.getD 51 []).getD 2 0))) ∈ flatC (Jvm.Cond.and given_1 narrow_1) := gv_p [true, true, false, true, true, false, false, true, false, true, false] rfl
set_option maxRecDepth 1000000 in
theorem tx_el_51_3 : Cond.eq (.elem (.field (txT 51) "java/lang/String" "value" "[B") (.int (Int32.ofNat 3))) (.int (iI ((wdT.getD 51 []).getD 3 0))) ∈ flatC (Jvm.Cond.and given_1 narrow_1) := gv_p [true, true, false, true, true, false, false, true, false, true, true] rfl
set_option maxRecDepth 1000000 in
theorem tx_ex_52 : Cond.exactly (txT 52) "java/lang/String" ∈ flatC (Jvm.Cond.and given_1 narrow_1) := gv_p [true, true, false, true, true, false, false, true, true, false, false] rfl
set_option maxRecDepth 1000000 in
theorem tx_co_52 : Cond.eq (.field (txT 52) "java/lang/String" "coder" "B") (.int 0) ∈ flatC (Jvm.Cond.and given_1 narrow_1) := gv_p [true, true, false, true, true, false, false, true, true, false, true] rfl
set_option maxRecDepth 1000000 in
theorem tx_ar_52 : Cond.arrayOf (.field (txT 52) "java/lang/String" "value" "[B") .byte ∈ flatC (Jvm.Cond.and given_1 narrow_1) := gv_p [true, true, false, true, true, false, false, true, true, true, false] rfl
set_option maxRecDepth 1000000 in
theorem tx_le_52 : Cond.eq (.length (.field (txT 52) "java/lang/String" "value" "[B")) (.int (Int32.ofNat (wdT.getD 52 []).length)) ∈ flatC (Jvm.Cond.and given_1 narrow_1) := gv_p [true, true, false, true, true, false, false, true, true, true, true] rfl
set_option maxRecDepth 1000000 in
theorem tx_el_52_0 : Cond.eq (.elem (.field (txT 52) "java/lang/String" "value" "[B") (.int (Int32.ofNat 0))) (.int (iI ((wdT.getD 52 []).getD 0 0))) ∈ flatC (Jvm.Cond.and given_1 narrow_1) := gv_p [true, true, false, true, true, false, true, false, false, false] rfl
set_option maxRecDepth 1000000 in
theorem tx_el_52_1 : Cond.eq (.elem (.field (txT 52) "java/lang/String" "value" "[B") (.int (Int32.ofNat 1))) (.int (iI ((wdT.getD 52 []).getD 1 0))) ∈ flatC (Jvm.Cond.and given_1 narrow_1) := gv_p [true, true, false, true, true, false, true, false, false, true, false] rfl
set_option maxRecDepth 1000000 in
theorem tx_el_52_2 : Cond.eq (.elem (.field (txT 52) "java/lang/String" "value" "[B") (.int (Int32.ofNat 2))) (.int (iI ((wdT.getD 52 []).getD 2 0))) ∈ flatC (Jvm.Cond.and given_1 narrow_1) := gv_p [true, true, false, true, true, false, true, false, false, true, true] rfl
set_option maxRecDepth 1000000 in
theorem tx_el_52_3 : Cond.eq (.elem (.field (txT 52) "java/lang/String" "value" "[B") (.int (Int32.ofNat 3))) (.int (iI ((wdT.getD 52 []).getD 3 0))) ∈ flatC (Jvm.Cond.and given_1 narrow_1) := gv_p [true, true, false, true, true, false, true, false, true, false, false] rfl
set_option maxRecDepth 1000000 in
theorem tx_ex_53 : Cond.exactly (txT 53) "java/lang/String" ∈ flatC (Jvm.Cond.and given_1 narrow_1) := gv_p [true, true, false, true, true, false, true, false, true, false, true] rfl
set_option maxRecDepth 1000000 in
theorem tx_co_53 : Cond.eq (.field (txT 53) "java/lang/String" "coder" "B") (.int 0) ∈ flatC (Jvm.Cond.and given_1 narrow_1) := gv_p [true, true, false, true, true, false, true, false, true, true, false] rfl
set_option maxRecDepth 1000000 in
theorem tx_ar_53 : Cond.arrayOf (.field (txT 53) "java/lang/String" "value" "[B") .byte ∈ flatC (Jvm.Cond.and given_1 narrow_1) := gv_p [true, true, false, true, true, false, true, false, true, true, true] rfl
set_option maxRecDepth 1000000 in
theorem tx_le_53 : Cond.eq (.length (.field (txT 53) "java/lang/String" "value" "[B")) (.int (Int32.ofNat (wdT.getD 53 []).length)) ∈ flatC (Jvm.Cond.and given_1 narrow_1) := gv_p [true, true, false, true, true, false, true, true, false, false, false] rfl
set_option maxRecDepth 1000000 in
theorem tx_el_53_0 : Cond.eq (.elem (.field (txT 53) "java/lang/String" "value" "[B") (.int (Int32.ofNat 0))) (.int (iI ((wdT.getD 53 []).getD 0 0))) ∈ flatC (Jvm.Cond.and given_1 narrow_1) := gv_p [true, true, false, true, true, false, true, true, false, false, true] rfl
set_option maxRecDepth 1000000 in
theorem tx_el_53_1 : Cond.eq (.elem (.field (txT 53) "java/lang/String" "value" "[B") (.int (Int32.ofNat 1))) (.int (iI ((wdT.getD 53 []).getD 1 0))) ∈ flatC (Jvm.Cond.and given_1 narrow_1) := gv_p [true, true, false, true, true, false, true, true, false, true, false] rfl
set_option maxRecDepth 1000000 in
theorem tx_el_53_2 : Cond.eq (.elem (.field (txT 53) "java/lang/String" "value" "[B") (.int (Int32.ofNat 2))) (.int (iI ((wdT.getD 53 []).getD 2 0))) ∈ flatC (Jvm.Cond.and given_1 narrow_1) := gv_p [true, true, false, true, true, false, true, true, false, true, true] rfl
set_option maxRecDepth 1000000 in
theorem tx_ex_54 : Cond.exactly (txT 54) "java/lang/String" ∈ flatC (Jvm.Cond.and given_1 narrow_1) := gv_p [true, true, false, true, true, false, true, true, true, false, false] rfl
set_option maxRecDepth 1000000 in
theorem tx_co_54 : Cond.eq (.field (txT 54) "java/lang/String" "coder" "B") (.int 0) ∈ flatC (Jvm.Cond.and given_1 narrow_1) := gv_p [true, true, false, true, true, false, true, true, true, false, true] rfl
set_option maxRecDepth 1000000 in
theorem tx_ar_54 : Cond.arrayOf (.field (txT 54) "java/lang/String" "value" "[B") .byte ∈ flatC (Jvm.Cond.and given_1 narrow_1) := gv_p [true, true, false, true, true, false, true, true, true, true, false] rfl
set_option maxRecDepth 1000000 in
theorem tx_le_54 : Cond.eq (.length (.field (txT 54) "java/lang/String" "value" "[B")) (.int (Int32.ofNat (wdT.getD 54 []).length)) ∈ flatC (Jvm.Cond.and given_1 narrow_1) := gv_p [true, true, false, true, true, false, true, true, true, true, true] rfl
set_option maxRecDepth 1000000 in
theorem tx_el_54_0 : Cond.eq (.elem (.field (txT 54) "java/lang/String" "value" "[B") (.int (Int32.ofNat 0))) (.int (iI ((wdT.getD 54 []).getD 0 0))) ∈ flatC (Jvm.Cond.and given_1 narrow_1) := gv_p [true, true, false, true, true, true, false, false, false, false] rfl
set_option maxRecDepth 1000000 in
theorem tx_el_54_1 : Cond.eq (.elem (.field (txT 54) "java/lang/String" "value" "[B") (.int (Int32.ofNat 1))) (.int (iI ((wdT.getD 54 []).getD 1 0))) ∈ flatC (Jvm.Cond.and given_1 narrow_1) := gv_p [true, true, false, true, true, true, false, false, false, true, false] rfl
set_option maxRecDepth 1000000 in
theorem tx_el_54_2 : Cond.eq (.elem (.field (txT 54) "java/lang/String" "value" "[B") (.int (Int32.ofNat 2))) (.int (iI ((wdT.getD 54 []).getD 2 0))) ∈ flatC (Jvm.Cond.and given_1 narrow_1) := gv_p [true, true, false, true, true, true, false, false, false, true, true] rfl
set_option maxRecDepth 1000000 in
theorem tx_ex_55 : Cond.exactly (txT 55) "java/lang/String" ∈ flatC (Jvm.Cond.and given_1 narrow_1) := gv_p [true, true, false, true, true, true, false, false, true, false, false] rfl
set_option maxRecDepth 1000000 in
theorem tx_co_55 : Cond.eq (.field (txT 55) "java/lang/String" "coder" "B") (.int 0) ∈ flatC (Jvm.Cond.and given_1 narrow_1) := gv_p [true, true, false, true, true, true, false, false, true, false, true] rfl
set_option maxRecDepth 1000000 in
theorem tx_ar_55 : Cond.arrayOf (.field (txT 55) "java/lang/String" "value" "[B") .byte ∈ flatC (Jvm.Cond.and given_1 narrow_1) := gv_p [true, true, false, true, true, true, false, false, true, true, false] rfl
set_option maxRecDepth 1000000 in
theorem tx_le_55 : Cond.eq (.length (.field (txT 55) "java/lang/String" "value" "[B")) (.int (Int32.ofNat (wdT.getD 55 []).length)) ∈ flatC (Jvm.Cond.and given_1 narrow_1) := gv_p [true, true, false, true, true, true, false, false, true, true, true] rfl
set_option maxRecDepth 1000000 in
theorem tx_el_55_0 : Cond.eq (.elem (.field (txT 55) "java/lang/String" "value" "[B") (.int (Int32.ofNat 0))) (.int (iI ((wdT.getD 55 []).getD 0 0))) ∈ flatC (Jvm.Cond.and given_1 narrow_1) := gv_p [true, true, false, true, true, true, false, true, false, false, false] rfl
set_option maxRecDepth 1000000 in
theorem tx_el_55_1 : Cond.eq (.elem (.field (txT 55) "java/lang/String" "value" "[B") (.int (Int32.ofNat 1))) (.int (iI ((wdT.getD 55 []).getD 1 0))) ∈ flatC (Jvm.Cond.and given_1 narrow_1) := gv_p [true, true, false, true, true, true, false, true, false, false, true] rfl
set_option maxRecDepth 1000000 in
theorem tx_el_55_2 : Cond.eq (.elem (.field (txT 55) "java/lang/String" "value" "[B") (.int (Int32.ofNat 2))) (.int (iI ((wdT.getD 55 []).getD 2 0))) ∈ flatC (Jvm.Cond.and given_1 narrow_1) := gv_p [true, true, false, true, true, true, false, true, false, true, false] rfl
set_option maxRecDepth 1000000 in
theorem tx_el_55_3 : Cond.eq (.elem (.field (txT 55) "java/lang/String" "value" "[B") (.int (Int32.ofNat 3))) (.int (iI ((wdT.getD 55 []).getD 3 0))) ∈ flatC (Jvm.Cond.and given_1 narrow_1) := gv_p [true, true, false, true, true, true, false, true, false, true, true] rfl
set_option maxRecDepth 1000000 in
theorem tx_el_55_4 : Cond.eq (.elem (.field (txT 55) "java/lang/String" "value" "[B") (.int (Int32.ofNat 4))) (.int (iI ((wdT.getD 55 []).getD 4 0))) ∈ flatC (Jvm.Cond.and given_1 narrow_1) := gv_p [true, true, false, true, true, true, false, true, true, false, false] rfl
set_option maxRecDepth 1000000 in
theorem tx_el_55_5 : Cond.eq (.elem (.field (txT 55) "java/lang/String" "value" "[B") (.int (Int32.ofNat 5))) (.int (iI ((wdT.getD 55 []).getD 5 0))) ∈ flatC (Jvm.Cond.and given_1 narrow_1) := gv_p [true, true, false, true, true, true, false, true, true, false, true] rfl
set_option maxRecDepth 1000000 in
theorem tx_ex_0 : Cond.exactly (txT 0) "java/lang/String" ∈ flatC (Jvm.Cond.and given_1 narrow_1) := gv_p [true, true, false, true, true, true, false, true, true, true, false] rfl
set_option maxRecDepth 1000000 in
theorem tx_co_0 : Cond.eq (.field (txT 0) "java/lang/String" "coder" "B") (.int 0) ∈ flatC (Jvm.Cond.and given_1 narrow_1) := gv_p [true, true, false, true, true, true, false, true, true, true, true] rfl
set_option maxRecDepth 1000000 in
theorem tx_ar_0 : Cond.arrayOf (.field (txT 0) "java/lang/String" "value" "[B") .byte ∈ flatC (Jvm.Cond.and given_1 narrow_1) := gv_p [true, true, false, true, true, true, true, false, false, false] rfl
set_option maxRecDepth 1000000 in
theorem tx_le_0 : Cond.eq (.length (.field (txT 0) "java/lang/String" "value" "[B")) (.int (Int32.ofNat (wdT.getD 0 []).length)) ∈ flatC (Jvm.Cond.and given_1 narrow_1) := gv_p [true, true, false, true, true, true, true, false, false, true, false] rfl
set_option maxRecDepth 1000000 in
theorem tx_ex_1 : Cond.exactly (txT 1) "java/lang/String" ∈ flatC (Jvm.Cond.and given_1 narrow_1) := gv_p [true, true, false, true, true, true, true, false, false, true, true] rfl
set_option maxRecDepth 1000000 in
theorem tx_co_1 : Cond.eq (.field (txT 1) "java/lang/String" "coder" "B") (.int 0) ∈ flatC (Jvm.Cond.and given_1 narrow_1) := gv_p [true, true, false, true, true, true, true, false, true, false, false] rfl
set_option maxRecDepth 1000000 in
theorem tx_ar_1 : Cond.arrayOf (.field (txT 1) "java/lang/String" "value" "[B") .byte ∈ flatC (Jvm.Cond.and given_1 narrow_1) := gv_p [true, true, false, true, true, true, true, false, true, false, true] rfl
set_option maxRecDepth 1000000 in
theorem tx_le_1 : Cond.eq (.length (.field (txT 1) "java/lang/String" "value" "[B")) (.int (Int32.ofNat (wdT.getD 1 []).length)) ∈ flatC (Jvm.Cond.and given_1 narrow_1) := gv_p [true, true, false, true, true, true, true, false, true, true, false] rfl
set_option maxRecDepth 1000000 in
theorem tx_el_1_0 : Cond.eq (.elem (.field (txT 1) "java/lang/String" "value" "[B") (.int (Int32.ofNat 0))) (.int (iI ((wdT.getD 1 []).getD 0 0))) ∈ flatC (Jvm.Cond.and given_1 narrow_1) := gv_p [true, true, false, true, true, true, true, false, true, true, true] rfl
set_option maxRecDepth 1000000 in
theorem tx_el_1_1 : Cond.eq (.elem (.field (txT 1) "java/lang/String" "value" "[B") (.int (Int32.ofNat 1))) (.int (iI ((wdT.getD 1 []).getD 1 0))) ∈ flatC (Jvm.Cond.and given_1 narrow_1) := gv_p [true, true, false, true, true, true, true, true, false, false, false] rfl
set_option maxRecDepth 1000000 in
theorem tx_el_1_2 : Cond.eq (.elem (.field (txT 1) "java/lang/String" "value" "[B") (.int (Int32.ofNat 2))) (.int (iI ((wdT.getD 1 []).getD 2 0))) ∈ flatC (Jvm.Cond.and given_1 narrow_1) := gv_p [true, true, false, true, true, true, true, true, false, false, true] rfl
set_option maxRecDepth 1000000 in
theorem tx_el_1_3 : Cond.eq (.elem (.field (txT 1) "java/lang/String" "value" "[B") (.int (Int32.ofNat 3))) (.int (iI ((wdT.getD 1 []).getD 3 0))) ∈ flatC (Jvm.Cond.and given_1 narrow_1) := gv_p [true, true, false, true, true, true, true, true, false, true, false] rfl
set_option maxRecDepth 1000000 in
theorem tx_ex_2 : Cond.exactly (txT 2) "java/lang/String" ∈ flatC (Jvm.Cond.and given_1 narrow_1) := gv_p [true, true, false, true, true, true, true, true, true, false, false] rfl
set_option maxRecDepth 1000000 in
theorem tx_co_2 : Cond.eq (.field (txT 2) "java/lang/String" "coder" "B") (.int 0) ∈ flatC (Jvm.Cond.and given_1 narrow_1) := gv_p [true, true, false, true, true, true, true, true, true, false, true] rfl
set_option maxRecDepth 1000000 in
theorem tx_ar_2 : Cond.arrayOf (.field (txT 2) "java/lang/String" "value" "[B") .byte ∈ flatC (Jvm.Cond.and given_1 narrow_1) := gv_p [true, true, false, true, true, true, true, true, true, true, false] rfl
set_option maxRecDepth 1000000 in
theorem tx_le_2 : Cond.eq (.length (.field (txT 2) "java/lang/String" "value" "[B")) (.int (Int32.ofNat (wdT.getD 2 []).length)) ∈ flatC (Jvm.Cond.and given_1 narrow_1) := gv_p [true, true, false, true, true, true, true, true, true, true, true] rfl
set_option maxRecDepth 1000000 in
theorem tx_el_2_0 : Cond.eq (.elem (.field (txT 2) "java/lang/String" "value" "[B") (.int (Int32.ofNat 0))) (.int (iI ((wdT.getD 2 []).getD 0 0))) ∈ flatC (Jvm.Cond.and given_1 narrow_1) := gv_p [true, true, true, false, false, false, false, false, false, false] rfl
set_option maxRecDepth 1000000 in
theorem tx_el_2_1 : Cond.eq (.elem (.field (txT 2) "java/lang/String" "value" "[B") (.int (Int32.ofNat 1))) (.int (iI ((wdT.getD 2 []).getD 1 0))) ∈ flatC (Jvm.Cond.and given_1 narrow_1) := gv_p [true, true, true, false, false, false, false, false, false, true, false] rfl
set_option maxRecDepth 1000000 in
theorem tx_el_2_2 : Cond.eq (.elem (.field (txT 2) "java/lang/String" "value" "[B") (.int (Int32.ofNat 2))) (.int (iI ((wdT.getD 2 []).getD 2 0))) ∈ flatC (Jvm.Cond.and given_1 narrow_1) := gv_p [true, true, true, false, false, false, false, false, false, true, true] rfl
set_option maxRecDepth 1000000 in
theorem tx_el_2_3 : Cond.eq (.elem (.field (txT 2) "java/lang/String" "value" "[B") (.int (Int32.ofNat 3))) (.int (iI ((wdT.getD 2 []).getD 3 0))) ∈ flatC (Jvm.Cond.and given_1 narrow_1) := gv_p [true, true, true, false, false, false, false, false, true, false, false] rfl
set_option maxRecDepth 1000000 in
theorem tx_ex_3 : Cond.exactly (txT 3) "java/lang/String" ∈ flatC (Jvm.Cond.and given_1 narrow_1) := gv_p [true, true, true, false, false, false, false, false, true, true, false] rfl
set_option maxRecDepth 1000000 in
theorem tx_co_3 : Cond.eq (.field (txT 3) "java/lang/String" "coder" "B") (.int 0) ∈ flatC (Jvm.Cond.and given_1 narrow_1) := gv_p [true, true, true, false, false, false, false, false, true, true, true] rfl
set_option maxRecDepth 1000000 in
theorem tx_ar_3 : Cond.arrayOf (.field (txT 3) "java/lang/String" "value" "[B") .byte ∈ flatC (Jvm.Cond.and given_1 narrow_1) := gv_p [true, true, true, false, false, false, false, true, false, false] rfl
set_option maxRecDepth 1000000 in
theorem tx_le_3 : Cond.eq (.length (.field (txT 3) "java/lang/String" "value" "[B")) (.int (Int32.ofNat (wdT.getD 3 []).length)) ∈ flatC (Jvm.Cond.and given_1 narrow_1) := gv_p [true, true, true, false, false, false, false, true, false, true, false] rfl
set_option maxRecDepth 1000000 in
theorem tx_el_3_0 : Cond.eq (.elem (.field (txT 3) "java/lang/String" "value" "[B") (.int (Int32.ofNat 0))) (.int (iI ((wdT.getD 3 []).getD 0 0))) ∈ flatC (Jvm.Cond.and given_1 narrow_1) := gv_p [true, true, true, false, false, false, false, true, false, true, true] rfl
set_option maxRecDepth 1000000 in
theorem tx_el_3_1 : Cond.eq (.elem (.field (txT 3) "java/lang/String" "value" "[B") (.int (Int32.ofNat 1))) (.int (iI ((wdT.getD 3 []).getD 1 0))) ∈ flatC (Jvm.Cond.and given_1 narrow_1) := gv_p [true, true, true, false, false, false, false, true, true, false, false] rfl
set_option maxRecDepth 1000000 in
theorem tx_el_3_2 : Cond.eq (.elem (.field (txT 3) "java/lang/String" "value" "[B") (.int (Int32.ofNat 2))) (.int (iI ((wdT.getD 3 []).getD 2 0))) ∈ flatC (Jvm.Cond.and given_1 narrow_1) := gv_p [true, true, true, false, false, false, false, true, true, false, true] rfl
set_option maxRecDepth 1000000 in
theorem tx_el_3_3 : Cond.eq (.elem (.field (txT 3) "java/lang/String" "value" "[B") (.int (Int32.ofNat 3))) (.int (iI ((wdT.getD 3 []).getD 3 0))) ∈ flatC (Jvm.Cond.and given_1 narrow_1) := gv_p [true, true, true, false, false, false, false, true, true, true, false] rfl
set_option maxRecDepth 1000000 in
theorem tx_el_3_4 : Cond.eq (.elem (.field (txT 3) "java/lang/String" "value" "[B") (.int (Int32.ofNat 4))) (.int (iI ((wdT.getD 3 []).getD 4 0))) ∈ flatC (Jvm.Cond.and given_1 narrow_1) := gv_p [true, true, true, false, false, false, false, true, true, true, true] rfl
set_option maxRecDepth 1000000 in
theorem tx_ex_4 : Cond.exactly (txT 4) "java/lang/String" ∈ flatC (Jvm.Cond.and given_1 narrow_1) := gv_p [true, true, true, false, false, false, true, false, false, true, false] rfl
set_option maxRecDepth 1000000 in
theorem tx_co_4 : Cond.eq (.field (txT 4) "java/lang/String" "coder" "B") (.int 0) ∈ flatC (Jvm.Cond.and given_1 narrow_1) := gv_p [true, true, true, false, false, false, true, false, false, true, true] rfl
set_option maxRecDepth 1000000 in
theorem tx_ar_4 : Cond.arrayOf (.field (txT 4) "java/lang/String" "value" "[B") .byte ∈ flatC (Jvm.Cond.and given_1 narrow_1) := gv_p [true, true, true, false, false, false, true, false, true, false, false] rfl
set_option maxRecDepth 1000000 in
theorem tx_le_4 : Cond.eq (.length (.field (txT 4) "java/lang/String" "value" "[B")) (.int (Int32.ofNat (wdT.getD 4 []).length)) ∈ flatC (Jvm.Cond.and given_1 narrow_1) := gv_p [true, true, true, false, false, false, true, false, true, false, true] rfl
set_option maxRecDepth 1000000 in
theorem tx_el_4_0 : Cond.eq (.elem (.field (txT 4) "java/lang/String" "value" "[B") (.int (Int32.ofNat 0))) (.int (iI ((wdT.getD 4 []).getD 0 0))) ∈ flatC (Jvm.Cond.and given_1 narrow_1) := gv_p [true, true, true, false, false, false, true, false, true, true, false] rfl
set_option maxRecDepth 1000000 in
theorem tx_el_4_1 : Cond.eq (.elem (.field (txT 4) "java/lang/String" "value" "[B") (.int (Int32.ofNat 1))) (.int (iI ((wdT.getD 4 []).getD 1 0))) ∈ flatC (Jvm.Cond.and given_1 narrow_1) := gv_p [true, true, true, false, false, false, true, false, true, true, true] rfl
set_option maxRecDepth 1000000 in
theorem tx_el_4_2 : Cond.eq (.elem (.field (txT 4) "java/lang/String" "value" "[B") (.int (Int32.ofNat 2))) (.int (iI ((wdT.getD 4 []).getD 2 0))) ∈ flatC (Jvm.Cond.and given_1 narrow_1) := gv_p [true, true, true, false, false, false, true, true, false, false, false] rfl
set_option maxRecDepth 1000000 in
theorem tx_el_4_3 : Cond.eq (.elem (.field (txT 4) "java/lang/String" "value" "[B") (.int (Int32.ofNat 3))) (.int (iI ((wdT.getD 4 []).getD 3 0))) ∈ flatC (Jvm.Cond.and given_1 narrow_1) := gv_p [true, true, true, false, false, false, true, true, false, false, true] rfl
set_option maxRecDepth 1000000 in
theorem tx_el_4_4 : Cond.eq (.elem (.field (txT 4) "java/lang/String" "value" "[B") (.int (Int32.ofNat 4))) (.int (iI ((wdT.getD 4 []).getD 4 0))) ∈ flatC (Jvm.Cond.and given_1 narrow_1) := gv_p [true, true, true, false, false, false, true, true, false, true, false] rfl
set_option maxRecDepth 1000000 in
theorem tx_el_4_5 : Cond.eq (.elem (.field (txT 4) "java/lang/String" "value" "[B") (.int (Int32.ofNat 5))) (.int (iI ((wdT.getD 4 []).getD 5 0))) ∈ flatC (Jvm.Cond.and given_1 narrow_1) := gv_p [true, true, true, false, false, false, true, true, false, true, true] rfl
set_option maxRecDepth 1000000 in
theorem tx_ex_5 : Cond.exactly (txT 5) "java/lang/String" ∈ flatC (Jvm.Cond.and given_1 narrow_1) := gv_p [true, true, true, false, false, false, true, true, true, false, true] rfl
set_option maxRecDepth 1000000 in
theorem tx_co_5 : Cond.eq (.field (txT 5) "java/lang/String" "coder" "B") (.int 0) ∈ flatC (Jvm.Cond.and given_1 narrow_1) := gv_p [true, true, true, false, false, false, true, true, true, true, false] rfl
set_option maxRecDepth 1000000 in
theorem tx_ar_5 : Cond.arrayOf (.field (txT 5) "java/lang/String" "value" "[B") .byte ∈ flatC (Jvm.Cond.and given_1 narrow_1) := gv_p [true, true, true, false, false, false, true, true, true, true, true] rfl
set_option maxRecDepth 1000000 in
theorem tx_le_5 : Cond.eq (.length (.field (txT 5) "java/lang/String" "value" "[B")) (.int (Int32.ofNat (wdT.getD 5 []).length)) ∈ flatC (Jvm.Cond.and given_1 narrow_1) := gv_p [true, true, true, false, false, true, false, false, false, false] rfl
set_option maxRecDepth 1000000 in
theorem tx_el_5_0 : Cond.eq (.elem (.field (txT 5) "java/lang/String" "value" "[B") (.int (Int32.ofNat 0))) (.int (iI ((wdT.getD 5 []).getD 0 0))) ∈ flatC (Jvm.Cond.and given_1 narrow_1) := gv_p [true, true, true, false, false, true, false, false, false, true, false] rfl
set_option maxRecDepth 1000000 in
theorem tx_el_5_1 : Cond.eq (.elem (.field (txT 5) "java/lang/String" "value" "[B") (.int (Int32.ofNat 1))) (.int (iI ((wdT.getD 5 []).getD 1 0))) ∈ flatC (Jvm.Cond.and given_1 narrow_1) := gv_p [true, true, true, false, false, true, false, false, false, true, true] rfl
set_option maxRecDepth 1000000 in
theorem tx_el_5_2 : Cond.eq (.elem (.field (txT 5) "java/lang/String" "value" "[B") (.int (Int32.ofNat 2))) (.int (iI ((wdT.getD 5 []).getD 2 0))) ∈ flatC (Jvm.Cond.and given_1 narrow_1) := gv_p [true, true, true, false, false, true, false, false, true, false, false] rfl
set_option maxRecDepth 1000000 in
theorem tx_el_5_3 : Cond.eq (.elem (.field (txT 5) "java/lang/String" "value" "[B") (.int (Int32.ofNat 3))) (.int (iI ((wdT.getD 5 []).getD 3 0))) ∈ flatC (Jvm.Cond.and given_1 narrow_1) := gv_p [true, true, true, false, false, true, false, false, true, false, true] rfl
set_option maxRecDepth 1000000 in
theorem tx_el_5_4 : Cond.eq (.elem (.field (txT 5) "java/lang/String" "value" "[B") (.int (Int32.ofNat 4))) (.int (iI ((wdT.getD 5 []).getD 4 0))) ∈ flatC (Jvm.Cond.and given_1 narrow_1) := gv_p [true, true, true, false, false, true, false, false, true, true, false] rfl
set_option maxRecDepth 1000000 in
theorem tx_el_5_5 : Cond.eq (.elem (.field (txT 5) "java/lang/String" "value" "[B") (.int (Int32.ofNat 5))) (.int (iI ((wdT.getD 5 []).getD 5 0))) ∈ flatC (Jvm.Cond.and given_1 narrow_1) := gv_p [true, true, true, false, false, true, false, false, true, true, true] rfl
set_option maxRecDepth 1000000 in
theorem tx_el_5_6 : Cond.eq (.elem (.field (txT 5) "java/lang/String" "value" "[B") (.int (Int32.ofNat 6))) (.int (iI ((wdT.getD 5 []).getD 6 0))) ∈ flatC (Jvm.Cond.and given_1 narrow_1) := gv_p [true, true, true, false, false, true, false, true, false, false] rfl
set_option maxRecDepth 1000000 in
theorem tx_ex_10 : Cond.exactly (txT 10) "java/lang/String" ∈ flatC (Jvm.Cond.and given_1 narrow_1) := gv_p [true, true, true, false, false, true, false, true, false, true, true] rfl
set_option maxRecDepth 1000000 in
theorem tx_co_10 : Cond.eq (.field (txT 10) "java/lang/String" "coder" "B") (.int 0) ∈ flatC (Jvm.Cond.and given_1 narrow_1) := gv_p [true, true, true, false, false, true, false, true, true, false, false] rfl
set_option maxRecDepth 1000000 in
theorem tx_ar_10 : Cond.arrayOf (.field (txT 10) "java/lang/String" "value" "[B") .byte ∈ flatC (Jvm.Cond.and given_1 narrow_1) := gv_p [true, true, true, false, false, true, false, true, true, false, true] rfl
set_option maxRecDepth 1000000 in
theorem tx_le_10 : Cond.eq (.length (.field (txT 10) "java/lang/String" "value" "[B")) (.int (Int32.ofNat (wdT.getD 10 []).length)) ∈ flatC (Jvm.Cond.and given_1 narrow_1) := gv_p [true, true, true, false, false, true, false, true, true, true, false] rfl
set_option maxRecDepth 1000000 in
theorem tx_el_10_0 : Cond.eq (.elem (.field (txT 10) "java/lang/String" "value" "[B") (.int (Int32.ofNat 0))) (.int (iI ((wdT.getD 10 []).getD 0 0))) ∈ flatC (Jvm.Cond.and given_1 narrow_1) := gv_p [true, true, true, false, false, true, false, true, true, true, true] rfl
set_option maxRecDepth 1000000 in
theorem tx_el_10_1 : Cond.eq (.elem (.field (txT 10) "java/lang/String" "value" "[B") (.int (Int32.ofNat 1))) (.int (iI ((wdT.getD 10 []).getD 1 0))) ∈ flatC (Jvm.Cond.and given_1 narrow_1) := gv_p [true, true, true, false, false, true, true, false, false, false] rfl
set_option maxRecDepth 1000000 in
theorem tx_el_10_2 : Cond.eq (.elem (.field (txT 10) "java/lang/String" "value" "[B") (.int (Int32.ofNat 2))) (.int (iI ((wdT.getD 10 []).getD 2 0))) ∈ flatC (Jvm.Cond.and given_1 narrow_1) := gv_p [true, true, true, false, false, true, true, false, false, true, false] rfl
set_option maxRecDepth 1000000 in
theorem tx_el_10_3 : Cond.eq (.elem (.field (txT 10) "java/lang/String" "value" "[B") (.int (Int32.ofNat 3))) (.int (iI ((wdT.getD 10 []).getD 3 0))) ∈ flatC (Jvm.Cond.and given_1 narrow_1) := gv_p [true, true, true, false, false, true, true, false, false, true, true] rfl
set_option maxRecDepth 1000000 in
theorem tx_ex_16 : Cond.exactly (txT 16) "java/lang/String" ∈ flatC (Jvm.Cond.and given_1 narrow_1) := gv_p [true, true, true, false, false, true, true, false, true, false, true] rfl
set_option maxRecDepth 1000000 in
theorem tx_co_16 : Cond.eq (.field (txT 16) "java/lang/String" "coder" "B") (.int 0) ∈ flatC (Jvm.Cond.and given_1 narrow_1) := gv_p [true, true, true, false, false, true, true, false, true, true, false] rfl
set_option maxRecDepth 1000000 in
theorem tx_ar_16 : Cond.arrayOf (.field (txT 16) "java/lang/String" "value" "[B") .byte ∈ flatC (Jvm.Cond.and given_1 narrow_1) := gv_p [true, true, true, false, false, true, true, false, true, true, true] rfl
set_option maxRecDepth 1000000 in
theorem tx_le_16 : Cond.eq (.length (.field (txT 16) "java/lang/String" "value" "[B")) (.int (Int32.ofNat (wdT.getD 16 []).length)) ∈ flatC (Jvm.Cond.and given_1 narrow_1) := gv_p [true, true, true, false, false, true, true, true, false, false, false] rfl
set_option maxRecDepth 1000000 in
theorem tx_el_16_0 : Cond.eq (.elem (.field (txT 16) "java/lang/String" "value" "[B") (.int (Int32.ofNat 0))) (.int (iI ((wdT.getD 16 []).getD 0 0))) ∈ flatC (Jvm.Cond.and given_1 narrow_1) := gv_p [true, true, true, false, false, true, true, true, false, false, true] rfl
set_option maxRecDepth 1000000 in
theorem tx_el_16_1 : Cond.eq (.elem (.field (txT 16) "java/lang/String" "value" "[B") (.int (Int32.ofNat 1))) (.int (iI ((wdT.getD 16 []).getD 1 0))) ∈ flatC (Jvm.Cond.and given_1 narrow_1) := gv_p [true, true, true, false, false, true, true, true, false, true, false] rfl
set_option maxRecDepth 1000000 in
theorem tx_ex_21 : Cond.exactly (txT 21) "java/lang/String" ∈ flatC (Jvm.Cond.and given_1 narrow_1) := gv_p [true, true, true, false, false, true, true, true, true, false, false] rfl
set_option maxRecDepth 1000000 in
theorem tx_co_21 : Cond.eq (.field (txT 21) "java/lang/String" "coder" "B") (.int 0) ∈ flatC (Jvm.Cond.and given_1 narrow_1) := gv_p [true, true, true, false, false, true, true, true, true, false, true] rfl
set_option maxRecDepth 1000000 in
theorem tx_ar_21 : Cond.arrayOf (.field (txT 21) "java/lang/String" "value" "[B") .byte ∈ flatC (Jvm.Cond.and given_1 narrow_1) := gv_p [true, true, true, false, false, true, true, true, true, true, false] rfl
set_option maxRecDepth 1000000 in
theorem tx_le_21 : Cond.eq (.length (.field (txT 21) "java/lang/String" "value" "[B")) (.int (Int32.ofNat (wdT.getD 21 []).length)) ∈ flatC (Jvm.Cond.and given_1 narrow_1) := gv_p [true, true, true, false, false, true, true, true, true, true, true] rfl
set_option maxRecDepth 1000000 in
theorem tx_el_21_0 : Cond.eq (.elem (.field (txT 21) "java/lang/String" "value" "[B") (.int (Int32.ofNat 0))) (.int (iI ((wdT.getD 21 []).getD 0 0))) ∈ flatC (Jvm.Cond.and given_1 narrow_1) := gv_p [true, true, true, false, true, false, false, false, false, false] rfl
set_option maxRecDepth 1000000 in
theorem tx_el_21_1 : Cond.eq (.elem (.field (txT 21) "java/lang/String" "value" "[B") (.int (Int32.ofNat 1))) (.int (iI ((wdT.getD 21 []).getD 1 0))) ∈ flatC (Jvm.Cond.and given_1 narrow_1) := gv_p [true, true, true, false, true, false, false, false, false, true, false] rfl
set_option maxRecDepth 1000000 in
theorem tx_el_21_2 : Cond.eq (.elem (.field (txT 21) "java/lang/String" "value" "[B") (.int (Int32.ofNat 2))) (.int (iI ((wdT.getD 21 []).getD 2 0))) ∈ flatC (Jvm.Cond.and given_1 narrow_1) := gv_p [true, true, true, false, true, false, false, false, false, true, true] rfl
set_option maxRecDepth 1000000 in
theorem tx_ex_20 : Cond.exactly (txT 20) "java/lang/String" ∈ flatC (Jvm.Cond.and given_1 narrow_1) := gv_p [true, true, true, false, true, false, false, false, true, false, true] rfl
set_option maxRecDepth 1000000 in
theorem tx_co_20 : Cond.eq (.field (txT 20) "java/lang/String" "coder" "B") (.int 0) ∈ flatC (Jvm.Cond.and given_1 narrow_1) := gv_p [true, true, true, false, true, false, false, false, true, true, false] rfl
set_option maxRecDepth 1000000 in
theorem tx_ar_20 : Cond.arrayOf (.field (txT 20) "java/lang/String" "value" "[B") .byte ∈ flatC (Jvm.Cond.and given_1 narrow_1) := gv_p [true, true, true, false, true, false, false, false, true, true, true] rfl
set_option maxRecDepth 1000000 in
theorem tx_le_20 : Cond.eq (.length (.field (txT 20) "java/lang/String" "value" "[B")) (.int (Int32.ofNat (wdT.getD 20 []).length)) ∈ flatC (Jvm.Cond.and given_1 narrow_1) := gv_p [true, true, true, false, true, false, false, true, false, false] rfl
set_option maxRecDepth 1000000 in
theorem tx_el_20_0 : Cond.eq (.elem (.field (txT 20) "java/lang/String" "value" "[B") (.int (Int32.ofNat 0))) (.int (iI ((wdT.getD 20 []).getD 0 0))) ∈ flatC (Jvm.Cond.and given_1 narrow_1) := gv_p [true, true, true, false, true, false, false, true, false, true, false] rfl
set_option maxRecDepth 1000000 in
theorem tx_el_20_1 : Cond.eq (.elem (.field (txT 20) "java/lang/String" "value" "[B") (.int (Int32.ofNat 1))) (.int (iI ((wdT.getD 20 []).getD 1 0))) ∈ flatC (Jvm.Cond.and given_1 narrow_1) := gv_p [true, true, true, false, true, false, false, true, false, true, true] rfl
set_option maxRecDepth 1000000 in
theorem tx_el_20_2 : Cond.eq (.elem (.field (txT 20) "java/lang/String" "value" "[B") (.int (Int32.ofNat 2))) (.int (iI ((wdT.getD 20 []).getD 2 0))) ∈ flatC (Jvm.Cond.and given_1 narrow_1) := gv_p [true, true, true, false, true, false, false, true, true, false, false] rfl
set_option maxRecDepth 1000000 in
theorem tx_ex_19 : Cond.exactly (txT 19) "java/lang/String" ∈ flatC (Jvm.Cond.and given_1 narrow_1) := gv_p [true, true, true, false, true, false, false, true, true, true, false] rfl
set_option maxRecDepth 1000000 in
theorem tx_co_19 : Cond.eq (.field (txT 19) "java/lang/String" "coder" "B") (.int 0) ∈ flatC (Jvm.Cond.and given_1 narrow_1) := gv_p [true, true, true, false, true, false, false, true, true, true, true] rfl
set_option maxRecDepth 1000000 in
theorem tx_ar_19 : Cond.arrayOf (.field (txT 19) "java/lang/String" "value" "[B") .byte ∈ flatC (Jvm.Cond.and given_1 narrow_1) := gv_p [true, true, true, false, true, false, true, false, false, false] rfl
set_option maxRecDepth 1000000 in
theorem tx_le_19 : Cond.eq (.length (.field (txT 19) "java/lang/String" "value" "[B")) (.int (Int32.ofNat (wdT.getD 19 []).length)) ∈ flatC (Jvm.Cond.and given_1 narrow_1) := gv_p [true, true, true, false, true, false, true, false, false, true, false] rfl
set_option maxRecDepth 1000000 in
theorem tx_el_19_0 : Cond.eq (.elem (.field (txT 19) "java/lang/String" "value" "[B") (.int (Int32.ofNat 0))) (.int (iI ((wdT.getD 19 []).getD 0 0))) ∈ flatC (Jvm.Cond.and given_1 narrow_1) := gv_p [true, true, true, false, true, false, true, false, false, true, true] rfl
set_option maxRecDepth 1000000 in
theorem tx_el_19_1 : Cond.eq (.elem (.field (txT 19) "java/lang/String" "value" "[B") (.int (Int32.ofNat 1))) (.int (iI ((wdT.getD 19 []).getD 1 0))) ∈ flatC (Jvm.Cond.and given_1 narrow_1) := gv_p [true, true, true, false, true, false, true, false, true, false, false] rfl
set_option maxRecDepth 1000000 in
theorem tx_ex_17 : Cond.exactly (txT 17) "java/lang/String" ∈ flatC (Jvm.Cond.and given_1 narrow_1) := gv_p [true, true, true, false, true, false, true, false, true, true, false] rfl
set_option maxRecDepth 1000000 in
theorem tx_co_17 : Cond.eq (.field (txT 17) "java/lang/String" "coder" "B") (.int 0) ∈ flatC (Jvm.Cond.and given_1 narrow_1) := gv_p [true, true, true, false, true, false, true, false, true, true, true] rfl
set_option maxRecDepth 1000000 in
theorem tx_ar_17 : Cond.arrayOf (.field (txT 17) "java/lang/String" "value" "[B") .byte ∈ flatC (Jvm.Cond.and given_1 narrow_1) := gv_p [true, true, true, false, true, false, true, true, false, false, false] rfl
set_option maxRecDepth 1000000 in
theorem tx_le_17 : Cond.eq (.length (.field (txT 17) "java/lang/String" "value" "[B")) (.int (Int32.ofNat (wdT.getD 17 []).length)) ∈ flatC (Jvm.Cond.and given_1 narrow_1) := gv_p [true, true, true, false, true, false, true, true, false, false, true] rfl
set_option maxRecDepth 1000000 in
theorem tx_el_17_0 : Cond.eq (.elem (.field (txT 17) "java/lang/String" "value" "[B") (.int (Int32.ofNat 0))) (.int (iI ((wdT.getD 17 []).getD 0 0))) ∈ flatC (Jvm.Cond.and given_1 narrow_1) := gv_p [true, true, true, false, true, false, true, true, false, true, false] rfl
set_option maxRecDepth 1000000 in
theorem tx_el_17_1 : Cond.eq (.elem (.field (txT 17) "java/lang/String" "value" "[B") (.int (Int32.ofNat 1))) (.int (iI ((wdT.getD 17 []).getD 1 0))) ∈ flatC (Jvm.Cond.and given_1 narrow_1) := gv_p [true, true, true, false, true, false, true, true, false, true, true] rfl
set_option maxRecDepth 1000000 in
theorem tx_el_17_2 : Cond.eq (.elem (.field (txT 17) "java/lang/String" "value" "[B") (.int (Int32.ofNat 2))) (.int (iI ((wdT.getD 17 []).getD 2 0))) ∈ flatC (Jvm.Cond.and given_1 narrow_1) := gv_p [true, true, true, false, true, false, true, true, true, false, false] rfl
set_option maxRecDepth 1000000 in
theorem tx_el_17_3 : Cond.eq (.elem (.field (txT 17) "java/lang/String" "value" "[B") (.int (Int32.ofNat 3))) (.int (iI ((wdT.getD 17 []).getD 3 0))) ∈ flatC (Jvm.Cond.and given_1 narrow_1) := gv_p [true, true, true, false, true, false, true, true, true, false, true] rfl
set_option maxRecDepth 1000000 in
theorem tx_ex_18 : Cond.exactly (txT 18) "java/lang/String" ∈ flatC (Jvm.Cond.and given_1 narrow_1) := gv_p [true, true, true, false, true, false, true, true, true, true, true] rfl
set_option maxRecDepth 1000000 in
theorem tx_co_18 : Cond.eq (.field (txT 18) "java/lang/String" "coder" "B") (.int 0) ∈ flatC (Jvm.Cond.and given_1 narrow_1) := gv_p [true, true, true, false, true, true, false, false, false, false] rfl
set_option maxRecDepth 1000000 in
theorem tx_ar_18 : Cond.arrayOf (.field (txT 18) "java/lang/String" "value" "[B") .byte ∈ flatC (Jvm.Cond.and given_1 narrow_1) := gv_p [true, true, true, false, true, true, false, false, false, true, false] rfl
set_option maxRecDepth 1000000 in
theorem tx_le_18 : Cond.eq (.length (.field (txT 18) "java/lang/String" "value" "[B")) (.int (Int32.ofNat (wdT.getD 18 []).length)) ∈ flatC (Jvm.Cond.and given_1 narrow_1) := gv_p [true, true, true, false, true, true, false, false, false, true, true] rfl
set_option maxRecDepth 1000000 in
theorem tx_el_18_0 : Cond.eq (.elem (.field (txT 18) "java/lang/String" "value" "[B") (.int (Int32.ofNat 0))) (.int (iI ((wdT.getD 18 []).getD 0 0))) ∈ flatC (Jvm.Cond.and given_1 narrow_1) := gv_p [true, true, true, false, true, true, false, false, true, false, false] rfl
set_option maxRecDepth 1000000 in
theorem tx_el_18_1 : Cond.eq (.elem (.field (txT 18) "java/lang/String" "value" "[B") (.int (Int32.ofNat 1))) (.int (iI ((wdT.getD 18 []).getD 1 0))) ∈ flatC (Jvm.Cond.and given_1 narrow_1) := gv_p [true, true, true, false, true, true, false, false, true, false, true] rfl
set_option maxRecDepth 1000000 in
theorem tx_el_18_2 : Cond.eq (.elem (.field (txT 18) "java/lang/String" "value" "[B") (.int (Int32.ofNat 2))) (.int (iI ((wdT.getD 18 []).getD 2 0))) ∈ flatC (Jvm.Cond.and given_1 narrow_1) := gv_p [true, true, true, false, true, true, false, false, true, true, false] rfl
set_option maxRecDepth 1000000 in
theorem tx_el_18_3 : Cond.eq (.elem (.field (txT 18) "java/lang/String" "value" "[B") (.int (Int32.ofNat 3))) (.int (iI ((wdT.getD 18 []).getD 3 0))) ∈ flatC (Jvm.Cond.and given_1 narrow_1) := gv_p [true, true, true, false, true, true, false, false, true, true, true] rfl
set_option maxRecDepth 1000000 in
theorem tx_ex_6 : Cond.exactly (txT 6) "java/lang/String" ∈ flatC (Jvm.Cond.and given_1 narrow_1) := gv_p [true, true, true, false, true, true, false, true, false, false, true] rfl
set_option maxRecDepth 1000000 in
theorem tx_co_6 : Cond.eq (.field (txT 6) "java/lang/String" "coder" "B") (.int 0) ∈ flatC (Jvm.Cond.and given_1 narrow_1) := gv_p [true, true, true, false, true, true, false, true, false, true, false] rfl
set_option maxRecDepth 1000000 in
theorem tx_ar_6 : Cond.arrayOf (.field (txT 6) "java/lang/String" "value" "[B") .byte ∈ flatC (Jvm.Cond.and given_1 narrow_1) := gv_p [true, true, true, false, true, true, false, true, false, true, true] rfl
set_option maxRecDepth 1000000 in
theorem tx_le_6 : Cond.eq (.length (.field (txT 6) "java/lang/String" "value" "[B")) (.int (Int32.ofNat (wdT.getD 6 []).length)) ∈ flatC (Jvm.Cond.and given_1 narrow_1) := gv_p [true, true, true, false, true, true, false, true, true, false, false] rfl
set_option maxRecDepth 1000000 in
theorem tx_el_6_0 : Cond.eq (.elem (.field (txT 6) "java/lang/String" "value" "[B") (.int (Int32.ofNat 0))) (.int (iI ((wdT.getD 6 []).getD 0 0))) ∈ flatC (Jvm.Cond.and given_1 narrow_1) := gv_p [true, true, true, false, true, true, false, true, true, false, true] rfl
set_option maxRecDepth 1000000 in
theorem tx_el_6_1 : Cond.eq (.elem (.field (txT 6) "java/lang/String" "value" "[B") (.int (Int32.ofNat 1))) (.int (iI ((wdT.getD 6 []).getD 1 0))) ∈ flatC (Jvm.Cond.and given_1 narrow_1) := gv_p [true, true, true, false, true, true, false, true, true, true, false] rfl
set_option maxRecDepth 1000000 in
theorem tx_el_6_2 : Cond.eq (.elem (.field (txT 6) "java/lang/String" "value" "[B") (.int (Int32.ofNat 2))) (.int (iI ((wdT.getD 6 []).getD 2 0))) ∈ flatC (Jvm.Cond.and given_1 narrow_1) := gv_p [true, true, true, false, true, true, false, true, true, true, true] rfl
set_option maxRecDepth 1000000 in
theorem tx_el_6_3 : Cond.eq (.elem (.field (txT 6) "java/lang/String" "value" "[B") (.int (Int32.ofNat 3))) (.int (iI ((wdT.getD 6 []).getD 3 0))) ∈ flatC (Jvm.Cond.and given_1 narrow_1) := gv_p [true, true, true, false, true, true, true, false, false, false] rfl
set_option maxRecDepth 1000000 in
theorem tx_el_6_4 : Cond.eq (.elem (.field (txT 6) "java/lang/String" "value" "[B") (.int (Int32.ofNat 4))) (.int (iI ((wdT.getD 6 []).getD 4 0))) ∈ flatC (Jvm.Cond.and given_1 narrow_1) := gv_p [true, true, true, false, true, true, true, false, false, true, false] rfl
set_option maxRecDepth 1000000 in
theorem tx_ex_7 : Cond.exactly (txT 7) "java/lang/String" ∈ flatC (Jvm.Cond.and given_1 narrow_1) := gv_p [true, true, true, false, true, true, true, false, true, false, false] rfl
set_option maxRecDepth 1000000 in
theorem tx_co_7 : Cond.eq (.field (txT 7) "java/lang/String" "coder" "B") (.int 0) ∈ flatC (Jvm.Cond.and given_1 narrow_1) := gv_p [true, true, true, false, true, true, true, false, true, false, true] rfl
set_option maxRecDepth 1000000 in
theorem tx_ar_7 : Cond.arrayOf (.field (txT 7) "java/lang/String" "value" "[B") .byte ∈ flatC (Jvm.Cond.and given_1 narrow_1) := gv_p [true, true, true, false, true, true, true, false, true, true, false] rfl
set_option maxRecDepth 1000000 in
theorem tx_le_7 : Cond.eq (.length (.field (txT 7) "java/lang/String" "value" "[B")) (.int (Int32.ofNat (wdT.getD 7 []).length)) ∈ flatC (Jvm.Cond.and given_1 narrow_1) := gv_p [true, true, true, false, true, true, true, false, true, true, true] rfl
set_option maxRecDepth 1000000 in
theorem tx_el_7_0 : Cond.eq (.elem (.field (txT 7) "java/lang/String" "value" "[B") (.int (Int32.ofNat 0))) (.int (iI ((wdT.getD 7 []).getD 0 0))) ∈ flatC (Jvm.Cond.and given_1 narrow_1) := gv_p [true, true, true, false, true, true, true, true, false, false, false] rfl
set_option maxRecDepth 1000000 in
theorem tx_el_7_1 : Cond.eq (.elem (.field (txT 7) "java/lang/String" "value" "[B") (.int (Int32.ofNat 1))) (.int (iI ((wdT.getD 7 []).getD 1 0))) ∈ flatC (Jvm.Cond.and given_1 narrow_1) := gv_p [true, true, true, false, true, true, true, true, false, false, true] rfl
set_option maxRecDepth 1000000 in
theorem tx_el_7_2 : Cond.eq (.elem (.field (txT 7) "java/lang/String" "value" "[B") (.int (Int32.ofNat 2))) (.int (iI ((wdT.getD 7 []).getD 2 0))) ∈ flatC (Jvm.Cond.and given_1 narrow_1) := gv_p [true, true, true, false, true, true, true, true, false, true, false] rfl
set_option maxRecDepth 1000000 in
theorem tx_el_7_3 : Cond.eq (.elem (.field (txT 7) "java/lang/String" "value" "[B") (.int (Int32.ofNat 3))) (.int (iI ((wdT.getD 7 []).getD 3 0))) ∈ flatC (Jvm.Cond.and given_1 narrow_1) := gv_p [true, true, true, false, true, true, true, true, false, true, true] rfl
set_option maxRecDepth 1000000 in
theorem tx_el_7_4 : Cond.eq (.elem (.field (txT 7) "java/lang/String" "value" "[B") (.int (Int32.ofNat 4))) (.int (iI ((wdT.getD 7 []).getD 4 0))) ∈ flatC (Jvm.Cond.and given_1 narrow_1) := gv_p [true, true, true, false, true, true, true, true, true, false, false] rfl
set_option maxRecDepth 1000000 in
theorem tx_ex_8 : Cond.exactly (txT 8) "java/lang/String" ∈ flatC (Jvm.Cond.and given_1 narrow_1) := gv_p [true, true, true, false, true, true, true, true, true, true, false] rfl
set_option maxRecDepth 1000000 in
theorem tx_co_8 : Cond.eq (.field (txT 8) "java/lang/String" "coder" "B") (.int 0) ∈ flatC (Jvm.Cond.and given_1 narrow_1) := gv_p [true, true, true, false, true, true, true, true, true, true, true] rfl
set_option maxRecDepth 1000000 in
theorem tx_ar_8 : Cond.arrayOf (.field (txT 8) "java/lang/String" "value" "[B") .byte ∈ flatC (Jvm.Cond.and given_1 narrow_1) := gv_p [true, true, true, true, false, false, false, false, false, false] rfl
set_option maxRecDepth 1000000 in
theorem tx_le_8 : Cond.eq (.length (.field (txT 8) "java/lang/String" "value" "[B")) (.int (Int32.ofNat (wdT.getD 8 []).length)) ∈ flatC (Jvm.Cond.and given_1 narrow_1) := gv_p [true, true, true, true, false, false, false, false, false, true, false] rfl
set_option maxRecDepth 1000000 in
theorem tx_el_8_0 : Cond.eq (.elem (.field (txT 8) "java/lang/String" "value" "[B") (.int (Int32.ofNat 0))) (.int (iI ((wdT.getD 8 []).getD 0 0))) ∈ flatC (Jvm.Cond.and given_1 narrow_1) := gv_p [true, true, true, true, false, false, false, false, false, true, true] rfl
set_option maxRecDepth 1000000 in
theorem tx_el_8_1 : Cond.eq (.elem (.field (txT 8) "java/lang/String" "value" "[B") (.int (Int32.ofNat 1))) (.int (iI ((wdT.getD 8 []).getD 1 0))) ∈ flatC (Jvm.Cond.and given_1 narrow_1) := gv_p [true, true, true, true, false, false, false, false, true, false, false] rfl
set_option maxRecDepth 1000000 in
theorem tx_el_8_2 : Cond.eq (.elem (.field (txT 8) "java/lang/String" "value" "[B") (.int (Int32.ofNat 2))) (.int (iI ((wdT.getD 8 []).getD 2 0))) ∈ flatC (Jvm.Cond.and given_1 narrow_1) := gv_p [true, true, true, true, false, false, false, false, true, false, true] rfl
set_option maxRecDepth 1000000 in
theorem tx_el_8_3 : Cond.eq (.elem (.field (txT 8) "java/lang/String" "value" "[B") (.int (Int32.ofNat 3))) (.int (iI ((wdT.getD 8 []).getD 3 0))) ∈ flatC (Jvm.Cond.and given_1 narrow_1) := gv_p [true, true, true, true, false, false, false, false, true, true, false] rfl
set_option maxRecDepth 1000000 in
theorem tx_el_8_4 : Cond.eq (.elem (.field (txT 8) "java/lang/String" "value" "[B") (.int (Int32.ofNat 4))) (.int (iI ((wdT.getD 8 []).getD 4 0))) ∈ flatC (Jvm.Cond.and given_1 narrow_1) := gv_p [true, true, true, true, false, false, false, false, true, true, true] rfl
set_option maxRecDepth 1000000 in
theorem tx_ex_9 : Cond.exactly (txT 9) "java/lang/String" ∈ flatC (Jvm.Cond.and given_1 narrow_1) := gv_p [true, true, true, true, false, false, false, true, false, true, false] rfl
set_option maxRecDepth 1000000 in
theorem tx_co_9 : Cond.eq (.field (txT 9) "java/lang/String" "coder" "B") (.int 0) ∈ flatC (Jvm.Cond.and given_1 narrow_1) := gv_p [true, true, true, true, false, false, false, true, false, true, true] rfl
set_option maxRecDepth 1000000 in
theorem tx_ar_9 : Cond.arrayOf (.field (txT 9) "java/lang/String" "value" "[B") .byte ∈ flatC (Jvm.Cond.and given_1 narrow_1) := gv_p [true, true, true, true, false, false, false, true, true, false, false] rfl
set_option maxRecDepth 1000000 in
theorem tx_le_9 : Cond.eq (.length (.field (txT 9) "java/lang/String" "value" "[B")) (.int (Int32.ofNat (wdT.getD 9 []).length)) ∈ flatC (Jvm.Cond.and given_1 narrow_1) := gv_p [true, true, true, true, false, false, false, true, true, false, true] rfl
set_option maxRecDepth 1000000 in
theorem tx_el_9_0 : Cond.eq (.elem (.field (txT 9) "java/lang/String" "value" "[B") (.int (Int32.ofNat 0))) (.int (iI ((wdT.getD 9 []).getD 0 0))) ∈ flatC (Jvm.Cond.and given_1 narrow_1) := gv_p [true, true, true, true, false, false, false, true, true, true, false] rfl
set_option maxRecDepth 1000000 in
theorem tx_el_9_1 : Cond.eq (.elem (.field (txT 9) "java/lang/String" "value" "[B") (.int (Int32.ofNat 1))) (.int (iI ((wdT.getD 9 []).getD 1 0))) ∈ flatC (Jvm.Cond.and given_1 narrow_1) := gv_p [true, true, true, true, false, false, false, true, true, true, true] rfl
set_option maxRecDepth 1000000 in
theorem tx_el_9_2 : Cond.eq (.elem (.field (txT 9) "java/lang/String" "value" "[B") (.int (Int32.ofNat 2))) (.int (iI ((wdT.getD 9 []).getD 2 0))) ∈ flatC (Jvm.Cond.and given_1 narrow_1) := gv_p [true, true, true, true, false, false, true, false, false, false] rfl
set_option maxRecDepth 1000000 in
theorem tx_el_9_3 : Cond.eq (.elem (.field (txT 9) "java/lang/String" "value" "[B") (.int (Int32.ofNat 3))) (.int (iI ((wdT.getD 9 []).getD 3 0))) ∈ flatC (Jvm.Cond.and given_1 narrow_1) := gv_p [true, true, true, true, false, false, true, false, false, true, false] rfl
set_option maxRecDepth 1000000 in
theorem tx_ex_11 : Cond.exactly (txT 11) "java/lang/String" ∈ flatC (Jvm.Cond.and given_1 narrow_1) := gv_p [true, true, true, true, false, false, true, false, true, false, false] rfl
set_option maxRecDepth 1000000 in
theorem tx_co_11 : Cond.eq (.field (txT 11) "java/lang/String" "coder" "B") (.int 0) ∈ flatC (Jvm.Cond.and given_1 narrow_1) := gv_p [true, true, true, true, false, false, true, false, true, false, true] rfl
set_option maxRecDepth 1000000 in
theorem tx_ar_11 : Cond.arrayOf (.field (txT 11) "java/lang/String" "value" "[B") .byte ∈ flatC (Jvm.Cond.and given_1 narrow_1) := gv_p [true, true, true, true, false, false, true, false, true, true, false] rfl
set_option maxRecDepth 1000000 in
theorem tx_le_11 : Cond.eq (.length (.field (txT 11) "java/lang/String" "value" "[B")) (.int (Int32.ofNat (wdT.getD 11 []).length)) ∈ flatC (Jvm.Cond.and given_1 narrow_1) := gv_p [true, true, true, true, false, false, true, false, true, true, true] rfl
set_option maxRecDepth 1000000 in
theorem tx_el_11_0 : Cond.eq (.elem (.field (txT 11) "java/lang/String" "value" "[B") (.int (Int32.ofNat 0))) (.int (iI ((wdT.getD 11 []).getD 0 0))) ∈ flatC (Jvm.Cond.and given_1 narrow_1) := gv_p [true, true, true, true, false, false, true, true, false, false, false] rfl
set_option maxRecDepth 1000000 in
theorem tx_el_11_1 : Cond.eq (.elem (.field (txT 11) "java/lang/String" "value" "[B") (.int (Int32.ofNat 1))) (.int (iI ((wdT.getD 11 []).getD 1 0))) ∈ flatC (Jvm.Cond.and given_1 narrow_1) := gv_p [true, true, true, true, false, false, true, true, false, false, true] rfl
set_option maxRecDepth 1000000 in
theorem tx_el_11_2 : Cond.eq (.elem (.field (txT 11) "java/lang/String" "value" "[B") (.int (Int32.ofNat 2))) (.int (iI ((wdT.getD 11 []).getD 2 0))) ∈ flatC (Jvm.Cond.and given_1 narrow_1) := gv_p [true, true, true, true, false, false, true, true, false, true, false] rfl
set_option maxRecDepth 1000000 in
theorem tx_el_11_3 : Cond.eq (.elem (.field (txT 11) "java/lang/String" "value" "[B") (.int (Int32.ofNat 3))) (.int (iI ((wdT.getD 11 []).getD 3 0))) ∈ flatC (Jvm.Cond.and given_1 narrow_1) := gv_p [true, true, true, true, false, false, true, true, false, true, true] rfl
set_option maxRecDepth 1000000 in
theorem tx_el_11_4 : Cond.eq (.elem (.field (txT 11) "java/lang/String" "value" "[B") (.int (Int32.ofNat 4))) (.int (iI ((wdT.getD 11 []).getD 4 0))) ∈ flatC (Jvm.Cond.and given_1 narrow_1) := gv_p [true, true, true, true, false, false, true, true, true, false, false] rfl
set_option maxRecDepth 1000000 in
theorem tx_ex_12 : Cond.exactly (txT 12) "java/lang/String" ∈ flatC (Jvm.Cond.and given_1 narrow_1) := gv_p [true, true, true, true, false, false, true, true, true, true, false] rfl
set_option maxRecDepth 1000000 in
theorem tx_co_12 : Cond.eq (.field (txT 12) "java/lang/String" "coder" "B") (.int 0) ∈ flatC (Jvm.Cond.and given_1 narrow_1) := gv_p [true, true, true, true, false, false, true, true, true, true, true] rfl
set_option maxRecDepth 1000000 in
theorem tx_ar_12 : Cond.arrayOf (.field (txT 12) "java/lang/String" "value" "[B") .byte ∈ flatC (Jvm.Cond.and given_1 narrow_1) := gv_p [true, true, true, true, false, true, false, false, false, false] rfl
set_option maxRecDepth 1000000 in
theorem tx_le_12 : Cond.eq (.length (.field (txT 12) "java/lang/String" "value" "[B")) (.int (Int32.ofNat (wdT.getD 12 []).length)) ∈ flatC (Jvm.Cond.and given_1 narrow_1) := gv_p [true, true, true, true, false, true, false, false, false, true, false] rfl
set_option maxRecDepth 1000000 in
theorem tx_el_12_0 : Cond.eq (.elem (.field (txT 12) "java/lang/String" "value" "[B") (.int (Int32.ofNat 0))) (.int (iI ((wdT.getD 12 []).getD 0 0))) ∈ flatC (Jvm.Cond.and given_1 narrow_1) := gv_p [true, true, true, true, false, true, false, false, false, true, true] rfl
set_option maxRecDepth 1000000 in
theorem tx_el_12_1 : Cond.eq (.elem (.field (txT 12) "java/lang/String" "value" "[B") (.int (Int32.ofNat 1))) (.int (iI ((wdT.getD 12 []).getD 1 0))) ∈ flatC (Jvm.Cond.and given_1 narrow_1) := gv_p [true, true, true, true, false, true, false, false, true, false, false] rfl
set_option maxRecDepth 1000000 in
theorem tx_el_12_2 : Cond.eq (.elem (.field (txT 12) "java/lang/String" "value" "[B") (.int (Int32.ofNat 2))) (.int (iI ((wdT.getD 12 []).getD 2 0))) ∈ flatC (Jvm.Cond.and given_1 narrow_1) := gv_p [true, true, true, true, false, true, false, false, true, false, true] rfl
set_option maxRecDepth 1000000 in
theorem tx_el_12_3 : Cond.eq (.elem (.field (txT 12) "java/lang/String" "value" "[B") (.int (Int32.ofNat 3))) (.int (iI ((wdT.getD 12 []).getD 3 0))) ∈ flatC (Jvm.Cond.and given_1 narrow_1) := gv_p [true, true, true, true, false, true, false, false, true, true, false] rfl
set_option maxRecDepth 1000000 in
theorem tx_el_12_4 : Cond.eq (.elem (.field (txT 12) "java/lang/String" "value" "[B") (.int (Int32.ofNat 4))) (.int (iI ((wdT.getD 12 []).getD 4 0))) ∈ flatC (Jvm.Cond.and given_1 narrow_1) := gv_p [true, true, true, true, false, true, false, false, true, true, true] rfl
set_option maxRecDepth 1000000 in
theorem tx_ex_13 : Cond.exactly (txT 13) "java/lang/String" ∈ flatC (Jvm.Cond.and given_1 narrow_1) := gv_p [true, true, true, true, false, true, false, true, false, true, false] rfl
set_option maxRecDepth 1000000 in
theorem tx_co_13 : Cond.eq (.field (txT 13) "java/lang/String" "coder" "B") (.int 0) ∈ flatC (Jvm.Cond.and given_1 narrow_1) := gv_p [true, true, true, true, false, true, false, true, false, true, true] rfl
set_option maxRecDepth 1000000 in
theorem tx_ar_13 : Cond.arrayOf (.field (txT 13) "java/lang/String" "value" "[B") .byte ∈ flatC (Jvm.Cond.and given_1 narrow_1) := gv_p [true, true, true, true, false, true, false, true, true, false, false] rfl
set_option maxRecDepth 1000000 in
theorem tx_le_13 : Cond.eq (.length (.field (txT 13) "java/lang/String" "value" "[B")) (.int (Int32.ofNat (wdT.getD 13 []).length)) ∈ flatC (Jvm.Cond.and given_1 narrow_1) := gv_p [true, true, true, true, false, true, false, true, true, false, true] rfl
set_option maxRecDepth 1000000 in
theorem tx_el_13_0 : Cond.eq (.elem (.field (txT 13) "java/lang/String" "value" "[B") (.int (Int32.ofNat 0))) (.int (iI ((wdT.getD 13 []).getD 0 0))) ∈ flatC (Jvm.Cond.and given_1 narrow_1) := gv_p [true, true, true, true, false, true, false, true, true, true, false] rfl
set_option maxRecDepth 1000000 in
theorem tx_el_13_1 : Cond.eq (.elem (.field (txT 13) "java/lang/String" "value" "[B") (.int (Int32.ofNat 1))) (.int (iI ((wdT.getD 13 []).getD 1 0))) ∈ flatC (Jvm.Cond.and given_1 narrow_1) := gv_p [true, true, true, true, false, true, false, true, true, true, true] rfl
set_option maxRecDepth 1000000 in
theorem tx_el_13_2 : Cond.eq (.elem (.field (txT 13) "java/lang/String" "value" "[B") (.int (Int32.ofNat 2))) (.int (iI ((wdT.getD 13 []).getD 2 0))) ∈ flatC (Jvm.Cond.and given_1 narrow_1) := gv_p [true, true, true, true, false, true, true, false, false, false] rfl
set_option maxRecDepth 1000000 in
theorem tx_ex_14 : Cond.exactly (txT 14) "java/lang/String" ∈ flatC (Jvm.Cond.and given_1 narrow_1) := gv_p [true, true, true, true, false, true, true, false, false, true, true] rfl
set_option maxRecDepth 1000000 in
theorem tx_co_14 : Cond.eq (.field (txT 14) "java/lang/String" "coder" "B") (.int 0) ∈ flatC (Jvm.Cond.and given_1 narrow_1) := gv_p [true, true, true, true, false, true, true, false, true, false, false] rfl
set_option maxRecDepth 1000000 in
theorem tx_ar_14 : Cond.arrayOf (.field (txT 14) "java/lang/String" "value" "[B") .byte ∈ flatC (Jvm.Cond.and given_1 narrow_1) := gv_p [true, true, true, true, false, true, true, false, true, false, true] rfl
set_option maxRecDepth 1000000 in
theorem tx_le_14 : Cond.eq (.length (.field (txT 14) "java/lang/String" "value" "[B")) (.int (Int32.ofNat (wdT.getD 14 []).length)) ∈ flatC (Jvm.Cond.and given_1 narrow_1) := gv_p [true, true, true, true, false, true, true, false, true, true, false] rfl
set_option maxRecDepth 1000000 in
theorem tx_el_14_0 : Cond.eq (.elem (.field (txT 14) "java/lang/String" "value" "[B") (.int (Int32.ofNat 0))) (.int (iI ((wdT.getD 14 []).getD 0 0))) ∈ flatC (Jvm.Cond.and given_1 narrow_1) := gv_p [true, true, true, true, false, true, true, false, true, true, true] rfl
set_option maxRecDepth 1000000 in
theorem tx_el_14_1 : Cond.eq (.elem (.field (txT 14) "java/lang/String" "value" "[B") (.int (Int32.ofNat 1))) (.int (iI ((wdT.getD 14 []).getD 1 0))) ∈ flatC (Jvm.Cond.and given_1 narrow_1) := gv_p [true, true, true, true, false, true, true, true, false, false, false] rfl
set_option maxRecDepth 1000000 in
theorem tx_el_14_2 : Cond.eq (.elem (.field (txT 14) "java/lang/String" "value" "[B") (.int (Int32.ofNat 2))) (.int (iI ((wdT.getD 14 []).getD 2 0))) ∈ flatC (Jvm.Cond.and given_1 narrow_1) := gv_p [true, true, true, true, false, true, true, true, false, false, true] rfl
set_option maxRecDepth 1000000 in
theorem tx_el_14_3 : Cond.eq (.elem (.field (txT 14) "java/lang/String" "value" "[B") (.int (Int32.ofNat 3))) (.int (iI ((wdT.getD 14 []).getD 3 0))) ∈ flatC (Jvm.Cond.and given_1 narrow_1) := gv_p [true, true, true, true, false, true, true, true, false, true, false] rfl
set_option maxRecDepth 1000000 in
theorem tx_ex_15 : Cond.exactly (txT 15) "java/lang/String" ∈ flatC (Jvm.Cond.and given_1 narrow_1) := gv_p [true, true, true, true, false, true, true, true, true, false, false] rfl
set_option maxRecDepth 1000000 in
theorem tx_co_15 : Cond.eq (.field (txT 15) "java/lang/String" "coder" "B") (.int 0) ∈ flatC (Jvm.Cond.and given_1 narrow_1) := gv_p [true, true, true, true, false, true, true, true, true, false, true] rfl
set_option maxRecDepth 1000000 in
theorem tx_ar_15 : Cond.arrayOf (.field (txT 15) "java/lang/String" "value" "[B") .byte ∈ flatC (Jvm.Cond.and given_1 narrow_1) := gv_p [true, true, true, true, false, true, true, true, true, true, false] rfl
set_option maxRecDepth 1000000 in
theorem tx_le_15 : Cond.eq (.length (.field (txT 15) "java/lang/String" "value" "[B")) (.int (Int32.ofNat (wdT.getD 15 []).length)) ∈ flatC (Jvm.Cond.and given_1 narrow_1) := gv_p [true, true, true, true, false, true, true, true, true, true, true] rfl
set_option maxRecDepth 1000000 in
theorem tx_el_15_0 : Cond.eq (.elem (.field (txT 15) "java/lang/String" "value" "[B") (.int (Int32.ofNat 0))) (.int (iI ((wdT.getD 15 []).getD 0 0))) ∈ flatC (Jvm.Cond.and given_1 narrow_1) := gv_p [true, true, true, true, true, false, false, false, false, false] rfl
set_option maxRecDepth 1000000 in
theorem tx_el_15_1 : Cond.eq (.elem (.field (txT 15) "java/lang/String" "value" "[B") (.int (Int32.ofNat 1))) (.int (iI ((wdT.getD 15 []).getD 1 0))) ∈ flatC (Jvm.Cond.and given_1 narrow_1) := gv_p [true, true, true, true, true, false, false, false, false, true, false] rfl
set_option maxRecDepth 1000000 in
theorem tx_el_15_2 : Cond.eq (.elem (.field (txT 15) "java/lang/String" "value" "[B") (.int (Int32.ofNat 2))) (.int (iI ((wdT.getD 15 []).getD 2 0))) ∈ flatC (Jvm.Cond.and given_1 narrow_1) := gv_p [true, true, true, true, true, false, false, false, false, true, true] rfl
set_option maxRecDepth 1000000 in
theorem tx_ex_22 : Cond.exactly (txT 22) "java/lang/String" ∈ flatC (Jvm.Cond.and given_1 narrow_1) := gv_p [true, true, true, true, true, false, false, false, true, false, true] rfl
set_option maxRecDepth 1000000 in
theorem tx_co_22 : Cond.eq (.field (txT 22) "java/lang/String" "coder" "B") (.int 0) ∈ flatC (Jvm.Cond.and given_1 narrow_1) := gv_p [true, true, true, true, true, false, false, false, true, true, false] rfl
set_option maxRecDepth 1000000 in
theorem tx_ar_22 : Cond.arrayOf (.field (txT 22) "java/lang/String" "value" "[B") .byte ∈ flatC (Jvm.Cond.and given_1 narrow_1) := gv_p [true, true, true, true, true, false, false, false, true, true, true] rfl
set_option maxRecDepth 1000000 in
theorem tx_le_22 : Cond.eq (.length (.field (txT 22) "java/lang/String" "value" "[B")) (.int (Int32.ofNat (wdT.getD 22 []).length)) ∈ flatC (Jvm.Cond.and given_1 narrow_1) := gv_p [true, true, true, true, true, false, false, true, false, false] rfl
set_option maxRecDepth 1000000 in
theorem tx_el_22_0 : Cond.eq (.elem (.field (txT 22) "java/lang/String" "value" "[B") (.int (Int32.ofNat 0))) (.int (iI ((wdT.getD 22 []).getD 0 0))) ∈ flatC (Jvm.Cond.and given_1 narrow_1) := gv_p [true, true, true, true, true, false, false, true, false, true, false] rfl
set_option maxRecDepth 1000000 in
theorem tx_el_22_1 : Cond.eq (.elem (.field (txT 22) "java/lang/String" "value" "[B") (.int (Int32.ofNat 1))) (.int (iI ((wdT.getD 22 []).getD 1 0))) ∈ flatC (Jvm.Cond.and given_1 narrow_1) := gv_p [true, true, true, true, true, false, false, true, false, true, true] rfl
set_option maxRecDepth 1000000 in
theorem tx_el_22_2 : Cond.eq (.elem (.field (txT 22) "java/lang/String" "value" "[B") (.int (Int32.ofNat 2))) (.int (iI ((wdT.getD 22 []).getD 2 0))) ∈ flatC (Jvm.Cond.and given_1 narrow_1) := gv_p [true, true, true, true, true, false, false, true, true, false, false] rfl
set_option maxRecDepth 1000000 in
theorem tx_el_22_3 : Cond.eq (.elem (.field (txT 22) "java/lang/String" "value" "[B") (.int (Int32.ofNat 3))) (.int (iI ((wdT.getD 22 []).getD 3 0))) ∈ flatC (Jvm.Cond.and given_1 narrow_1) := gv_p [true, true, true, true, true, false, false, true, true, false, true] rfl
set_option maxRecDepth 1000000 in
theorem tx_el_22_4 : Cond.eq (.elem (.field (txT 22) "java/lang/String" "value" "[B") (.int (Int32.ofNat 4))) (.int (iI ((wdT.getD 22 []).getD 4 0))) ∈ flatC (Jvm.Cond.and given_1 narrow_1) := gv_p [true, true, true, true, true, false, false, true, true, true, false] rfl
set_option maxRecDepth 1000000 in
theorem tx_ex_23 : Cond.exactly (txT 23) "java/lang/String" ∈ flatC (Jvm.Cond.and given_1 narrow_1) := gv_p [true, true, true, true, true, false, true, false, false, false] rfl
set_option maxRecDepth 1000000 in
theorem tx_co_23 : Cond.eq (.field (txT 23) "java/lang/String" "coder" "B") (.int 0) ∈ flatC (Jvm.Cond.and given_1 narrow_1) := gv_p [true, true, true, true, true, false, true, false, false, true, false] rfl
set_option maxRecDepth 1000000 in
theorem tx_ar_23 : Cond.arrayOf (.field (txT 23) "java/lang/String" "value" "[B") .byte ∈ flatC (Jvm.Cond.and given_1 narrow_1) := gv_p [true, true, true, true, true, false, true, false, false, true, true] rfl
set_option maxRecDepth 1000000 in
theorem tx_le_23 : Cond.eq (.length (.field (txT 23) "java/lang/String" "value" "[B")) (.int (Int32.ofNat (wdT.getD 23 []).length)) ∈ flatC (Jvm.Cond.and given_1 narrow_1) := gv_p [true, true, true, true, true, false, true, false, true, false, false] rfl
set_option maxRecDepth 1000000 in
theorem tx_el_23_0 : Cond.eq (.elem (.field (txT 23) "java/lang/String" "value" "[B") (.int (Int32.ofNat 0))) (.int (iI ((wdT.getD 23 []).getD 0 0))) ∈ flatC (Jvm.Cond.and given_1 narrow_1) := gv_p [true, true, true, true, true, false, true, false, true, false, true] rfl
set_option maxRecDepth 1000000 in
theorem tx_el_23_1 : Cond.eq (.elem (.field (txT 23) "java/lang/String" "value" "[B") (.int (Int32.ofNat 1))) (.int (iI ((wdT.getD 23 []).getD 1 0))) ∈ flatC (Jvm.Cond.and given_1 narrow_1) := gv_p [true, true, true, true, true, false, true, false, true, true, false] rfl
set_option maxRecDepth 1000000 in
theorem tx_el_23_2 : Cond.eq (.elem (.field (txT 23) "java/lang/String" "value" "[B") (.int (Int32.ofNat 2))) (.int (iI ((wdT.getD 23 []).getD 2 0))) ∈ flatC (Jvm.Cond.and given_1 narrow_1) := gv_p [true, true, true, true, true, false, true, false, true, true, true] rfl
set_option maxRecDepth 1000000 in
theorem tx_el_23_3 : Cond.eq (.elem (.field (txT 23) "java/lang/String" "value" "[B") (.int (Int32.ofNat 3))) (.int (iI ((wdT.getD 23 []).getD 3 0))) ∈ flatC (Jvm.Cond.and given_1 narrow_1) := gv_p [true, true, true, true, true, false, true, true, false, false, false] rfl
set_option maxRecDepth 1000000 in
theorem tx_ex_24 : Cond.exactly (txT 24) "java/lang/String" ∈ flatC (Jvm.Cond.and given_1 narrow_1) := gv_p [true, true, true, true, true, false, true, true, false, true, false] rfl
set_option maxRecDepth 1000000 in
theorem tx_co_24 : Cond.eq (.field (txT 24) "java/lang/String" "coder" "B") (.int 0) ∈ flatC (Jvm.Cond.and given_1 narrow_1) := gv_p [true, true, true, true, true, false, true, true, false, true, true] rfl
set_option maxRecDepth 1000000 in
theorem tx_ar_24 : Cond.arrayOf (.field (txT 24) "java/lang/String" "value" "[B") .byte ∈ flatC (Jvm.Cond.and given_1 narrow_1) := gv_p [true, true, true, true, true, false, true, true, true, false, false] rfl
set_option maxRecDepth 1000000 in
theorem tx_le_24 : Cond.eq (.length (.field (txT 24) "java/lang/String" "value" "[B")) (.int (Int32.ofNat (wdT.getD 24 []).length)) ∈ flatC (Jvm.Cond.and given_1 narrow_1) := gv_p [true, true, true, true, true, false, true, true, true, false, true] rfl
set_option maxRecDepth 1000000 in
theorem tx_el_24_0 : Cond.eq (.elem (.field (txT 24) "java/lang/String" "value" "[B") (.int (Int32.ofNat 0))) (.int (iI ((wdT.getD 24 []).getD 0 0))) ∈ flatC (Jvm.Cond.and given_1 narrow_1) := gv_p [true, true, true, true, true, false, true, true, true, true, false] rfl
set_option maxRecDepth 1000000 in
theorem tx_el_24_1 : Cond.eq (.elem (.field (txT 24) "java/lang/String" "value" "[B") (.int (Int32.ofNat 1))) (.int (iI ((wdT.getD 24 []).getD 1 0))) ∈ flatC (Jvm.Cond.and given_1 narrow_1) := gv_p [true, true, true, true, true, false, true, true, true, true, true] rfl
set_option maxRecDepth 1000000 in
theorem tx_el_24_2 : Cond.eq (.elem (.field (txT 24) "java/lang/String" "value" "[B") (.int (Int32.ofNat 2))) (.int (iI ((wdT.getD 24 []).getD 2 0))) ∈ flatC (Jvm.Cond.and given_1 narrow_1) := gv_p [true, true, true, true, true, true, false, false, false, false] rfl
set_option maxRecDepth 1000000 in
theorem tx_el_24_3 : Cond.eq (.elem (.field (txT 24) "java/lang/String" "value" "[B") (.int (Int32.ofNat 3))) (.int (iI ((wdT.getD 24 []).getD 3 0))) ∈ flatC (Jvm.Cond.and given_1 narrow_1) := gv_p [true, true, true, true, true, true, false, false, false, true, false] rfl
set_option maxRecDepth 1000000 in
theorem tx_ex_25 : Cond.exactly (txT 25) "java/lang/String" ∈ flatC (Jvm.Cond.and given_1 narrow_1) := gv_p [true, true, true, true, true, true, false, false, true, false, false] rfl
set_option maxRecDepth 1000000 in
theorem tx_co_25 : Cond.eq (.field (txT 25) "java/lang/String" "coder" "B") (.int 0) ∈ flatC (Jvm.Cond.and given_1 narrow_1) := gv_p [true, true, true, true, true, true, false, false, true, false, true] rfl
set_option maxRecDepth 1000000 in
theorem tx_ar_25 : Cond.arrayOf (.field (txT 25) "java/lang/String" "value" "[B") .byte ∈ flatC (Jvm.Cond.and given_1 narrow_1) := gv_p [true, true, true, true, true, true, false, false, true, true, false] rfl
set_option maxRecDepth 1000000 in
theorem tx_le_25 : Cond.eq (.length (.field (txT 25) "java/lang/String" "value" "[B")) (.int (Int32.ofNat (wdT.getD 25 []).length)) ∈ flatC (Jvm.Cond.and given_1 narrow_1) := gv_p [true, true, true, true, true, true, false, false, true, true, true] rfl
set_option maxRecDepth 1000000 in
theorem tx_el_25_0 : Cond.eq (.elem (.field (txT 25) "java/lang/String" "value" "[B") (.int (Int32.ofNat 0))) (.int (iI ((wdT.getD 25 []).getD 0 0))) ∈ flatC (Jvm.Cond.and given_1 narrow_1) := gv_p [true, true, true, true, true, true, false, true, false, false, false] rfl
set_option maxRecDepth 1000000 in
theorem tx_el_25_1 : Cond.eq (.elem (.field (txT 25) "java/lang/String" "value" "[B") (.int (Int32.ofNat 1))) (.int (iI ((wdT.getD 25 []).getD 1 0))) ∈ flatC (Jvm.Cond.and given_1 narrow_1) := gv_p [true, true, true, true, true, true, false, true, false, false, true] rfl
set_option maxRecDepth 1000000 in
theorem tx_el_25_2 : Cond.eq (.elem (.field (txT 25) "java/lang/String" "value" "[B") (.int (Int32.ofNat 2))) (.int (iI ((wdT.getD 25 []).getD 2 0))) ∈ flatC (Jvm.Cond.and given_1 narrow_1) := gv_p [true, true, true, true, true, true, false, true, false, true, false] rfl
set_option maxRecDepth 1000000 in
theorem tx_ex_26 : Cond.exactly (txT 26) "java/lang/String" ∈ flatC (Jvm.Cond.and given_1 narrow_1) := gv_p [true, true, true, true, true, true, false, true, true, false, false] rfl
set_option maxRecDepth 1000000 in
theorem tx_co_26 : Cond.eq (.field (txT 26) "java/lang/String" "coder" "B") (.int 0) ∈ flatC (Jvm.Cond.and given_1 narrow_1) := gv_p [true, true, true, true, true, true, false, true, true, false, true] rfl
set_option maxRecDepth 1000000 in
theorem tx_ar_26 : Cond.arrayOf (.field (txT 26) "java/lang/String" "value" "[B") .byte ∈ flatC (Jvm.Cond.and given_1 narrow_1) := gv_p [true, true, true, true, true, true, false, true, true, true, false] rfl
set_option maxRecDepth 1000000 in
theorem tx_le_26 : Cond.eq (.length (.field (txT 26) "java/lang/String" "value" "[B")) (.int (Int32.ofNat (wdT.getD 26 []).length)) ∈ flatC (Jvm.Cond.and given_1 narrow_1) := gv_p [true, true, true, true, true, true, false, true, true, true, true] rfl
set_option maxRecDepth 1000000 in
theorem tx_el_26_0 : Cond.eq (.elem (.field (txT 26) "java/lang/String" "value" "[B") (.int (Int32.ofNat 0))) (.int (iI ((wdT.getD 26 []).getD 0 0))) ∈ flatC (Jvm.Cond.and given_1 narrow_1) := gv_p [true, true, true, true, true, true, true, false, false, false] rfl
set_option maxRecDepth 1000000 in
theorem tx_el_26_1 : Cond.eq (.elem (.field (txT 26) "java/lang/String" "value" "[B") (.int (Int32.ofNat 1))) (.int (iI ((wdT.getD 26 []).getD 1 0))) ∈ flatC (Jvm.Cond.and given_1 narrow_1) := gv_p [true, true, true, true, true, true, true, false, false, true, false] rfl
set_option maxRecDepth 1000000 in
theorem tx_el_26_2 : Cond.eq (.elem (.field (txT 26) "java/lang/String" "value" "[B") (.int (Int32.ofNat 2))) (.int (iI ((wdT.getD 26 []).getD 2 0))) ∈ flatC (Jvm.Cond.and given_1 narrow_1) := gv_p [true, true, true, true, true, true, true, false, false, true, true] rfl
set_option maxRecDepth 1000000 in
theorem tx_ex_27 : Cond.exactly (txT 27) "java/lang/String" ∈ flatC (Jvm.Cond.and given_1 narrow_1) := gv_p [true, true, true, true, true, true, true, false, true, false, true] rfl
set_option maxRecDepth 1000000 in
theorem tx_co_27 : Cond.eq (.field (txT 27) "java/lang/String" "coder" "B") (.int 0) ∈ flatC (Jvm.Cond.and given_1 narrow_1) := gv_p [true, true, true, true, true, true, true, false, true, true, false] rfl
set_option maxRecDepth 1000000 in
theorem tx_ar_27 : Cond.arrayOf (.field (txT 27) "java/lang/String" "value" "[B") .byte ∈ flatC (Jvm.Cond.and given_1 narrow_1) := gv_p [true, true, true, true, true, true, true, false, true, true, true] rfl
set_option maxRecDepth 1000000 in
theorem tx_le_27 : Cond.eq (.length (.field (txT 27) "java/lang/String" "value" "[B")) (.int (Int32.ofNat (wdT.getD 27 []).length)) ∈ flatC (Jvm.Cond.and given_1 narrow_1) := gv_p [true, true, true, true, true, true, true, true, false, false, false] rfl
set_option maxRecDepth 1000000 in
theorem tx_el_27_0 : Cond.eq (.elem (.field (txT 27) "java/lang/String" "value" "[B") (.int (Int32.ofNat 0))) (.int (iI ((wdT.getD 27 []).getD 0 0))) ∈ flatC (Jvm.Cond.and given_1 narrow_1) := gv_p [true, true, true, true, true, true, true, true, false, false, true] rfl
set_option maxRecDepth 1000000 in
theorem tx_el_27_1 : Cond.eq (.elem (.field (txT 27) "java/lang/String" "value" "[B") (.int (Int32.ofNat 1))) (.int (iI ((wdT.getD 27 []).getD 1 0))) ∈ flatC (Jvm.Cond.and given_1 narrow_1) := gv_p [true, true, true, true, true, true, true, true, false, true, false] rfl
set_option maxRecDepth 1000000 in
theorem tx_el_27_2 : Cond.eq (.elem (.field (txT 27) "java/lang/String" "value" "[B") (.int (Int32.ofNat 2))) (.int (iI ((wdT.getD 27 []).getD 2 0))) ∈ flatC (Jvm.Cond.and given_1 narrow_1) := gv_p [true, true, true, true, true, true, true, true, false, true, true] rfl
set_option maxRecDepth 1000000 in
theorem tx_el_27_3 : Cond.eq (.elem (.field (txT 27) "java/lang/String" "value" "[B") (.int (Int32.ofNat 3))) (.int (iI ((wdT.getD 27 []).getD 3 0))) ∈ flatC (Jvm.Cond.and given_1 narrow_1) := gv_p [true, true, true, true, true, true, true, true, true, false, false] rfl
set_option maxRecDepth 1000000 in
theorem tx_el_27_4 : Cond.eq (.elem (.field (txT 27) "java/lang/String" "value" "[B") (.int (Int32.ofNat 4))) (.int (iI ((wdT.getD 27 []).getD 4 0))) ∈ flatC (Jvm.Cond.and given_1 narrow_1) := gv_p [true, true, true, true, true, true, true, true, true, false, true] rfl
set_option maxRecDepth 1000000 in
theorem tx_el_27_5 : Cond.eq (.elem (.field (txT 27) "java/lang/String" "value" "[B") (.int (Int32.ofNat 5))) (.int (iI ((wdT.getD 27 []).getD 5 0))) ∈ flatC (Jvm.Cond.and given_1 narrow_1) := gv_p [true, true, true, true, true, true, true, true, true, true, false] rfl
theorem tx_ex_28 : Cond.exactly (txT 28) "java/lang/String" ∈ flatC (Jvm.Cond.and given_1 narrow_1) := tx_ex_0
theorem tx_co_28 : Cond.eq (.field (txT 28) "java/lang/String" "coder" "B") (.int 0) ∈ flatC (Jvm.Cond.and given_1 narrow_1) := tx_co_0
theorem tx_ar_28 : Cond.arrayOf (.field (txT 28) "java/lang/String" "value" "[B") .byte ∈ flatC (Jvm.Cond.and given_1 narrow_1) := tx_ar_0
theorem tx_le_28 : Cond.eq (.length (.field (txT 28) "java/lang/String" "value" "[B")) (.int (Int32.ofNat (wdT.getD 28 []).length)) ∈ flatC (Jvm.Cond.and given_1 narrow_1) := tx_le_0
theorem tx_ex : ∀ k : Nat, k < 56 → Cond.exactly (txT k) "java/lang/String" ∈ flatC (Jvm.Cond.and given_1 narrow_1) := by
  intro k hk
  match k, hk with
  | 0, _ => exact tx_ex_0
  | 1, _ => exact tx_ex_1
  | 2, _ => exact tx_ex_2
  | 3, _ => exact tx_ex_3
  | 4, _ => exact tx_ex_4
  | 5, _ => exact tx_ex_5
  | 6, _ => exact tx_ex_6
  | 7, _ => exact tx_ex_7
  | 8, _ => exact tx_ex_8
  | 9, _ => exact tx_ex_9
  | 10, _ => exact tx_ex_10
  | 11, _ => exact tx_ex_11
  | 12, _ => exact tx_ex_12
  | 13, _ => exact tx_ex_13
  | 14, _ => exact tx_ex_14
  | 15, _ => exact tx_ex_15
  | 16, _ => exact tx_ex_16
  | 17, _ => exact tx_ex_17
  | 18, _ => exact tx_ex_18
  | 19, _ => exact tx_ex_19
  | 20, _ => exact tx_ex_20
  | 21, _ => exact tx_ex_21
  | 22, _ => exact tx_ex_22
  | 23, _ => exact tx_ex_23
  | 24, _ => exact tx_ex_24
  | 25, _ => exact tx_ex_25
  | 26, _ => exact tx_ex_26
  | 27, _ => exact tx_ex_27
  | 28, _ => exact tx_ex_28
  | 29, _ => exact tx_ex_29
  | 30, _ => exact tx_ex_30
  | 31, _ => exact tx_ex_31
  | 32, _ => exact tx_ex_32
  | 33, _ => exact tx_ex_33
  | 34, _ => exact tx_ex_34
  | 35, _ => exact tx_ex_35
  | 36, _ => exact tx_ex_36
  | 37, _ => exact tx_ex_37
  | 38, _ => exact tx_ex_38
  | 39, _ => exact tx_ex_39
  | 40, _ => exact tx_ex_40
  | 41, _ => exact tx_ex_41
  | 42, _ => exact tx_ex_42
  | 43, _ => exact tx_ex_43
  | 44, _ => exact tx_ex_44
  | 45, _ => exact tx_ex_45
  | 46, _ => exact tx_ex_46
  | 47, _ => exact tx_ex_47
  | 48, _ => exact tx_ex_48
  | 49, _ => exact tx_ex_49
  | 50, _ => exact tx_ex_50
  | 51, _ => exact tx_ex_51
  | 52, _ => exact tx_ex_52
  | 53, _ => exact tx_ex_53
  | 54, _ => exact tx_ex_54
  | 55, _ => exact tx_ex_55
  | k + 56, h => exact absurd h (by omega)
theorem tx_co : ∀ k : Nat, k < 56 → Cond.eq (.field (txT k) "java/lang/String" "coder" "B") (.int 0) ∈ flatC (Jvm.Cond.and given_1 narrow_1) := by
  intro k hk
  match k, hk with
  | 0, _ => exact tx_co_0
  | 1, _ => exact tx_co_1
  | 2, _ => exact tx_co_2
  | 3, _ => exact tx_co_3
  | 4, _ => exact tx_co_4
  | 5, _ => exact tx_co_5
  | 6, _ => exact tx_co_6
  | 7, _ => exact tx_co_7
  | 8, _ => exact tx_co_8
  | 9, _ => exact tx_co_9
  | 10, _ => exact tx_co_10
  | 11, _ => exact tx_co_11
  | 12, _ => exact tx_co_12
  | 13, _ => exact tx_co_13
  | 14, _ => exact tx_co_14
  | 15, _ => exact tx_co_15
  | 16, _ => exact tx_co_16
  | 17, _ => exact tx_co_17
  | 18, _ => exact tx_co_18
  | 19, _ => exact tx_co_19
  | 20, _ => exact tx_co_20
  | 21, _ => exact tx_co_21
  | 22, _ => exact tx_co_22
  | 23, _ => exact tx_co_23
  | 24, _ => exact tx_co_24
  | 25, _ => exact tx_co_25
  | 26, _ => exact tx_co_26
  | 27, _ => exact tx_co_27
  | 28, _ => exact tx_co_28
  | 29, _ => exact tx_co_29
  | 30, _ => exact tx_co_30
  | 31, _ => exact tx_co_31
  | 32, _ => exact tx_co_32
  | 33, _ => exact tx_co_33
  | 34, _ => exact tx_co_34
  | 35, _ => exact tx_co_35
  | 36, _ => exact tx_co_36
  | 37, _ => exact tx_co_37
  | 38, _ => exact tx_co_38
  | 39, _ => exact tx_co_39
  | 40, _ => exact tx_co_40
  | 41, _ => exact tx_co_41
  | 42, _ => exact tx_co_42
  | 43, _ => exact tx_co_43
  | 44, _ => exact tx_co_44
  | 45, _ => exact tx_co_45
  | 46, _ => exact tx_co_46
  | 47, _ => exact tx_co_47
  | 48, _ => exact tx_co_48
  | 49, _ => exact tx_co_49
  | 50, _ => exact tx_co_50
  | 51, _ => exact tx_co_51
  | 52, _ => exact tx_co_52
  | 53, _ => exact tx_co_53
  | 54, _ => exact tx_co_54
  | 55, _ => exact tx_co_55
  | k + 56, h => exact absurd h (by omega)
theorem tx_ar : ∀ k : Nat, k < 56 → Cond.arrayOf (.field (txT k) "java/lang/String" "value" "[B") .byte ∈ flatC (Jvm.Cond.and given_1 narrow_1) := by
  intro k hk
  match k, hk with
  | 0, _ => exact tx_ar_0
  | 1, _ => exact tx_ar_1
  | 2, _ => exact tx_ar_2
  | 3, _ => exact tx_ar_3
  | 4, _ => exact tx_ar_4
  | 5, _ => exact tx_ar_5
  | 6, _ => exact tx_ar_6
  | 7, _ => exact tx_ar_7
  | 8, _ => exact tx_ar_8
  | 9, _ => exact tx_ar_9
  | 10, _ => exact tx_ar_10
  | 11, _ => exact tx_ar_11
  | 12, _ => exact tx_ar_12
  | 13, _ => exact tx_ar_13
  | 14, _ => exact tx_ar_14
  | 15, _ => exact tx_ar_15
  | 16, _ => exact tx_ar_16
  | 17, _ => exact tx_ar_17
  | 18, _ => exact tx_ar_18
  | 19, _ => exact tx_ar_19
  | 20, _ => exact tx_ar_20
  | 21, _ => exact tx_ar_21
  | 22, _ => exact tx_ar_22
  | 23, _ => exact tx_ar_23
  | 24, _ => exact tx_ar_24
  | 25, _ => exact tx_ar_25
  | 26, _ => exact tx_ar_26
  | 27, _ => exact tx_ar_27
  | 28, _ => exact tx_ar_28
  | 29, _ => exact tx_ar_29
  | 30, _ => exact tx_ar_30
  | 31, _ => exact tx_ar_31
  | 32, _ => exact tx_ar_32
  | 33, _ => exact tx_ar_33
  | 34, _ => exact tx_ar_34
  | 35, _ => exact tx_ar_35
  | 36, _ => exact tx_ar_36
  | 37, _ => exact tx_ar_37
  | 38, _ => exact tx_ar_38
  | 39, _ => exact tx_ar_39
  | 40, _ => exact tx_ar_40
  | 41, _ => exact tx_ar_41
  | 42, _ => exact tx_ar_42
  | 43, _ => exact tx_ar_43
  | 44, _ => exact tx_ar_44
  | 45, _ => exact tx_ar_45
  | 46, _ => exact tx_ar_46
  | 47, _ => exact tx_ar_47
  | 48, _ => exact tx_ar_48
  | 49, _ => exact tx_ar_49
  | 50, _ => exact tx_ar_50
  | 51, _ => exact tx_ar_51
  | 52, _ => exact tx_ar_52
  | 53, _ => exact tx_ar_53
  | 54, _ => exact tx_ar_54
  | 55, _ => exact tx_ar_55
  | k + 56, h => exact absurd h (by omega)
theorem tx_le : ∀ k : Nat, k < 56 → Cond.eq (.length (.field (txT k) "java/lang/String" "value" "[B")) (.int (Int32.ofNat (wdT.getD k []).length)) ∈ flatC (Jvm.Cond.and given_1 narrow_1) := by
  intro k hk
  match k, hk with
  | 0, _ => exact tx_le_0
  | 1, _ => exact tx_le_1
  | 2, _ => exact tx_le_2
  | 3, _ => exact tx_le_3
  | 4, _ => exact tx_le_4
  | 5, _ => exact tx_le_5
  | 6, _ => exact tx_le_6
  | 7, _ => exact tx_le_7
  | 8, _ => exact tx_le_8
  | 9, _ => exact tx_le_9
  | 10, _ => exact tx_le_10
  | 11, _ => exact tx_le_11
  | 12, _ => exact tx_le_12
  | 13, _ => exact tx_le_13
  | 14, _ => exact tx_le_14
  | 15, _ => exact tx_le_15
  | 16, _ => exact tx_le_16
  | 17, _ => exact tx_le_17
  | 18, _ => exact tx_le_18
  | 19, _ => exact tx_le_19
  | 20, _ => exact tx_le_20
  | 21, _ => exact tx_le_21
  | 22, _ => exact tx_le_22
  | 23, _ => exact tx_le_23
  | 24, _ => exact tx_le_24
  | 25, _ => exact tx_le_25
  | 26, _ => exact tx_le_26
  | 27, _ => exact tx_le_27
  | 28, _ => exact tx_le_28
  | 29, _ => exact tx_le_29
  | 30, _ => exact tx_le_30
  | 31, _ => exact tx_le_31
  | 32, _ => exact tx_le_32
  | 33, _ => exact tx_le_33
  | 34, _ => exact tx_le_34
  | 35, _ => exact tx_le_35
  | 36, _ => exact tx_le_36
  | 37, _ => exact tx_le_37
  | 38, _ => exact tx_le_38
  | 39, _ => exact tx_le_39
  | 40, _ => exact tx_le_40
  | 41, _ => exact tx_le_41
  | 42, _ => exact tx_le_42
  | 43, _ => exact tx_le_43
  | 44, _ => exact tx_le_44
  | 45, _ => exact tx_le_45
  | 46, _ => exact tx_le_46
  | 47, _ => exact tx_le_47
  | 48, _ => exact tx_le_48
  | 49, _ => exact tx_le_49
  | 50, _ => exact tx_le_50
  | 51, _ => exact tx_le_51
  | 52, _ => exact tx_le_52
  | 53, _ => exact tx_le_53
  | 54, _ => exact tx_le_54
  | 55, _ => exact tx_le_55
  | k + 56, h => exact absurd h (by omega)
theorem tx_el : ∀ k : Nat, k < 56 → ∀ j : Nat, j < (wdT.getD k []).length → Cond.eq (.elem (.field (txT k) "java/lang/String" "value" "[B") (.int (Int32.ofNat j))) (.int (iI ((wdT.getD k []).getD j 0))) ∈ flatC (Jvm.Cond.and given_1 narrow_1) := by
  intro k hk j hj
  match k, hk, hj with
  | 0, _, hj => exact absurd hj (Nat.not_lt_zero _)
  | 1, _, hj => 
    match j, hj with
    | 0, _ => exact tx_el_1_0
    | 1, _ => exact tx_el_1_1
    | 2, _ => exact tx_el_1_2
    | 3, _ => exact tx_el_1_3
    | j + 4, h => exact absurd (show j + 4 < 4 from h) (by omega)
  | 2, _, hj => 
    match j, hj with
    | 0, _ => exact tx_el_2_0
    | 1, _ => exact tx_el_2_1
    | 2, _ => exact tx_el_2_2
    | 3, _ => exact tx_el_2_3
    | j + 4, h => exact absurd (show j + 4 < 4 from h) (by omega)
  | 3, _, hj => 
    match j, hj with
    | 0, _ => exact tx_el_3_0
    | 1, _ => exact tx_el_3_1
    | 2, _ => exact tx_el_3_2
    | 3, _ => exact tx_el_3_3
    | 4, _ => exact tx_el_3_4
    | j + 5, h => exact absurd (show j + 5 < 5 from h) (by omega)
  | 4, _, hj => 
    match j, hj with
    | 0, _ => exact tx_el_4_0
    | 1, _ => exact tx_el_4_1
    | 2, _ => exact tx_el_4_2
    | 3, _ => exact tx_el_4_3
    | 4, _ => exact tx_el_4_4
    | 5, _ => exact tx_el_4_5
    | j + 6, h => exact absurd (show j + 6 < 6 from h) (by omega)
  | 5, _, hj => 
    match j, hj with
    | 0, _ => exact tx_el_5_0
    | 1, _ => exact tx_el_5_1
    | 2, _ => exact tx_el_5_2
    | 3, _ => exact tx_el_5_3
    | 4, _ => exact tx_el_5_4
    | 5, _ => exact tx_el_5_5
    | 6, _ => exact tx_el_5_6
    | j + 7, h => exact absurd (show j + 7 < 7 from h) (by omega)
  | 6, _, hj => 
    match j, hj with
    | 0, _ => exact tx_el_6_0
    | 1, _ => exact tx_el_6_1
    | 2, _ => exact tx_el_6_2
    | 3, _ => exact tx_el_6_3
    | 4, _ => exact tx_el_6_4
    | j + 5, h => exact absurd (show j + 5 < 5 from h) (by omega)
  | 7, _, hj => 
    match j, hj with
    | 0, _ => exact tx_el_7_0
    | 1, _ => exact tx_el_7_1
    | 2, _ => exact tx_el_7_2
    | 3, _ => exact tx_el_7_3
    | 4, _ => exact tx_el_7_4
    | j + 5, h => exact absurd (show j + 5 < 5 from h) (by omega)
  | 8, _, hj => 
    match j, hj with
    | 0, _ => exact tx_el_8_0
    | 1, _ => exact tx_el_8_1
    | 2, _ => exact tx_el_8_2
    | 3, _ => exact tx_el_8_3
    | 4, _ => exact tx_el_8_4
    | j + 5, h => exact absurd (show j + 5 < 5 from h) (by omega)
  | 9, _, hj => 
    match j, hj with
    | 0, _ => exact tx_el_9_0
    | 1, _ => exact tx_el_9_1
    | 2, _ => exact tx_el_9_2
    | 3, _ => exact tx_el_9_3
    | j + 4, h => exact absurd (show j + 4 < 4 from h) (by omega)
  | 10, _, hj => 
    match j, hj with
    | 0, _ => exact tx_el_10_0
    | 1, _ => exact tx_el_10_1
    | 2, _ => exact tx_el_10_2
    | 3, _ => exact tx_el_10_3
    | j + 4, h => exact absurd (show j + 4 < 4 from h) (by omega)
  | 11, _, hj => 
    match j, hj with
    | 0, _ => exact tx_el_11_0
    | 1, _ => exact tx_el_11_1
    | 2, _ => exact tx_el_11_2
    | 3, _ => exact tx_el_11_3
    | 4, _ => exact tx_el_11_4
    | j + 5, h => exact absurd (show j + 5 < 5 from h) (by omega)
  | 12, _, hj => 
    match j, hj with
    | 0, _ => exact tx_el_12_0
    | 1, _ => exact tx_el_12_1
    | 2, _ => exact tx_el_12_2
    | 3, _ => exact tx_el_12_3
    | 4, _ => exact tx_el_12_4
    | j + 5, h => exact absurd (show j + 5 < 5 from h) (by omega)
  | 13, _, hj => 
    match j, hj with
    | 0, _ => exact tx_el_13_0
    | 1, _ => exact tx_el_13_1
    | 2, _ => exact tx_el_13_2
    | j + 3, h => exact absurd (show j + 3 < 3 from h) (by omega)
  | 14, _, hj => 
    match j, hj with
    | 0, _ => exact tx_el_14_0
    | 1, _ => exact tx_el_14_1
    | 2, _ => exact tx_el_14_2
    | 3, _ => exact tx_el_14_3
    | j + 4, h => exact absurd (show j + 4 < 4 from h) (by omega)
  | 15, _, hj => 
    match j, hj with
    | 0, _ => exact tx_el_15_0
    | 1, _ => exact tx_el_15_1
    | 2, _ => exact tx_el_15_2
    | j + 3, h => exact absurd (show j + 3 < 3 from h) (by omega)
  | 16, _, hj => 
    match j, hj with
    | 0, _ => exact tx_el_16_0
    | 1, _ => exact tx_el_16_1
    | j + 2, h => exact absurd (show j + 2 < 2 from h) (by omega)
  | 17, _, hj => 
    match j, hj with
    | 0, _ => exact tx_el_17_0
    | 1, _ => exact tx_el_17_1
    | 2, _ => exact tx_el_17_2
    | 3, _ => exact tx_el_17_3
    | j + 4, h => exact absurd (show j + 4 < 4 from h) (by omega)
  | 18, _, hj => 
    match j, hj with
    | 0, _ => exact tx_el_18_0
    | 1, _ => exact tx_el_18_1
    | 2, _ => exact tx_el_18_2
    | 3, _ => exact tx_el_18_3
    | j + 4, h => exact absurd (show j + 4 < 4 from h) (by omega)
  | 19, _, hj => 
    match j, hj with
    | 0, _ => exact tx_el_19_0
    | 1, _ => exact tx_el_19_1
    | j + 2, h => exact absurd (show j + 2 < 2 from h) (by omega)
  | 20, _, hj => 
    match j, hj with
    | 0, _ => exact tx_el_20_0
    | 1, _ => exact tx_el_20_1
    | 2, _ => exact tx_el_20_2
    | j + 3, h => exact absurd (show j + 3 < 3 from h) (by omega)
  | 21, _, hj => 
    match j, hj with
    | 0, _ => exact tx_el_21_0
    | 1, _ => exact tx_el_21_1
    | 2, _ => exact tx_el_21_2
    | j + 3, h => exact absurd (show j + 3 < 3 from h) (by omega)
  | 22, _, hj => 
    match j, hj with
    | 0, _ => exact tx_el_22_0
    | 1, _ => exact tx_el_22_1
    | 2, _ => exact tx_el_22_2
    | 3, _ => exact tx_el_22_3
    | 4, _ => exact tx_el_22_4
    | j + 5, h => exact absurd (show j + 5 < 5 from h) (by omega)
  | 23, _, hj => 
    match j, hj with
    | 0, _ => exact tx_el_23_0
    | 1, _ => exact tx_el_23_1
    | 2, _ => exact tx_el_23_2
    | 3, _ => exact tx_el_23_3
    | j + 4, h => exact absurd (show j + 4 < 4 from h) (by omega)
  | 24, _, hj => 
    match j, hj with
    | 0, _ => exact tx_el_24_0
    | 1, _ => exact tx_el_24_1
    | 2, _ => exact tx_el_24_2
    | 3, _ => exact tx_el_24_3
    | j + 4, h => exact absurd (show j + 4 < 4 from h) (by omega)
  | 25, _, hj => 
    match j, hj with
    | 0, _ => exact tx_el_25_0
    | 1, _ => exact tx_el_25_1
    | 2, _ => exact tx_el_25_2
    | j + 3, h => exact absurd (show j + 3 < 3 from h) (by omega)
  | 26, _, hj => 
    match j, hj with
    | 0, _ => exact tx_el_26_0
    | 1, _ => exact tx_el_26_1
    | 2, _ => exact tx_el_26_2
    | j + 3, h => exact absurd (show j + 3 < 3 from h) (by omega)
  | 27, _, hj => 
    match j, hj with
    | 0, _ => exact tx_el_27_0
    | 1, _ => exact tx_el_27_1
    | 2, _ => exact tx_el_27_2
    | 3, _ => exact tx_el_27_3
    | 4, _ => exact tx_el_27_4
    | 5, _ => exact tx_el_27_5
    | j + 6, h => exact absurd (show j + 6 < 6 from h) (by omega)
  | 28, _, hj => exact absurd hj (Nat.not_lt_zero _)
  | 29, _, hj => 
    match j, hj with
    | 0, _ => exact tx_el_29_0
    | 1, _ => exact tx_el_29_1
    | 2, _ => exact tx_el_29_2
    | 3, _ => exact tx_el_29_3
    | j + 4, h => exact absurd (show j + 4 < 4 from h) (by omega)
  | 30, _, hj => 
    match j, hj with
    | 0, _ => exact tx_el_30_0
    | 1, _ => exact tx_el_30_1
    | 2, _ => exact tx_el_30_2
    | 3, _ => exact tx_el_30_3
    | j + 4, h => exact absurd (show j + 4 < 4 from h) (by omega)
  | 31, _, hj => 
    match j, hj with
    | 0, _ => exact tx_el_31_0
    | 1, _ => exact tx_el_31_1
    | 2, _ => exact tx_el_31_2
    | 3, _ => exact tx_el_31_3
    | 4, _ => exact tx_el_31_4
    | j + 5, h => exact absurd (show j + 5 < 5 from h) (by omega)
  | 32, _, hj => 
    match j, hj with
    | 0, _ => exact tx_el_32_0
    | 1, _ => exact tx_el_32_1
    | 2, _ => exact tx_el_32_2
    | 3, _ => exact tx_el_32_3
    | 4, _ => exact tx_el_32_4
    | 5, _ => exact tx_el_32_5
    | j + 6, h => exact absurd (show j + 6 < 6 from h) (by omega)
  | 33, _, hj => 
    match j, hj with
    | 0, _ => exact tx_el_33_0
    | 1, _ => exact tx_el_33_1
    | 2, _ => exact tx_el_33_2
    | 3, _ => exact tx_el_33_3
    | 4, _ => exact tx_el_33_4
    | 5, _ => exact tx_el_33_5
    | 6, _ => exact tx_el_33_6
    | j + 7, h => exact absurd (show j + 7 < 7 from h) (by omega)
  | 34, _, hj => 
    match j, hj with
    | 0, _ => exact tx_el_34_0
    | 1, _ => exact tx_el_34_1
    | 2, _ => exact tx_el_34_2
    | 3, _ => exact tx_el_34_3
    | 4, _ => exact tx_el_34_4
    | j + 5, h => exact absurd (show j + 5 < 5 from h) (by omega)
  | 35, _, hj => 
    match j, hj with
    | 0, _ => exact tx_el_35_0
    | 1, _ => exact tx_el_35_1
    | 2, _ => exact tx_el_35_2
    | 3, _ => exact tx_el_35_3
    | 4, _ => exact tx_el_35_4
    | j + 5, h => exact absurd (show j + 5 < 5 from h) (by omega)
  | 36, _, hj => 
    match j, hj with
    | 0, _ => exact tx_el_36_0
    | 1, _ => exact tx_el_36_1
    | 2, _ => exact tx_el_36_2
    | 3, _ => exact tx_el_36_3
    | 4, _ => exact tx_el_36_4
    | j + 5, h => exact absurd (show j + 5 < 5 from h) (by omega)
  | 37, _, hj => 
    match j, hj with
    | 0, _ => exact tx_el_37_0
    | 1, _ => exact tx_el_37_1
    | 2, _ => exact tx_el_37_2
    | 3, _ => exact tx_el_37_3
    | j + 4, h => exact absurd (show j + 4 < 4 from h) (by omega)
  | 38, _, hj => 
    match j, hj with
    | 0, _ => exact tx_el_38_0
    | 1, _ => exact tx_el_38_1
    | 2, _ => exact tx_el_38_2
    | 3, _ => exact tx_el_38_3
    | j + 4, h => exact absurd (show j + 4 < 4 from h) (by omega)
  | 39, _, hj => 
    match j, hj with
    | 0, _ => exact tx_el_39_0
    | 1, _ => exact tx_el_39_1
    | 2, _ => exact tx_el_39_2
    | 3, _ => exact tx_el_39_3
    | 4, _ => exact tx_el_39_4
    | j + 5, h => exact absurd (show j + 5 < 5 from h) (by omega)
  | 40, _, hj => 
    match j, hj with
    | 0, _ => exact tx_el_40_0
    | 1, _ => exact tx_el_40_1
    | 2, _ => exact tx_el_40_2
    | 3, _ => exact tx_el_40_3
    | 4, _ => exact tx_el_40_4
    | j + 5, h => exact absurd (show j + 5 < 5 from h) (by omega)
  | 41, _, hj => 
    match j, hj with
    | 0, _ => exact tx_el_41_0
    | 1, _ => exact tx_el_41_1
    | 2, _ => exact tx_el_41_2
    | j + 3, h => exact absurd (show j + 3 < 3 from h) (by omega)
  | 42, _, hj => 
    match j, hj with
    | 0, _ => exact tx_el_42_0
    | 1, _ => exact tx_el_42_1
    | 2, _ => exact tx_el_42_2
    | 3, _ => exact tx_el_42_3
    | j + 4, h => exact absurd (show j + 4 < 4 from h) (by omega)
  | 43, _, hj => 
    match j, hj with
    | 0, _ => exact tx_el_43_0
    | 1, _ => exact tx_el_43_1
    | 2, _ => exact tx_el_43_2
    | j + 3, h => exact absurd (show j + 3 < 3 from h) (by omega)
  | 44, _, hj => 
    match j, hj with
    | 0, _ => exact tx_el_44_0
    | 1, _ => exact tx_el_44_1
    | j + 2, h => exact absurd (show j + 2 < 2 from h) (by omega)
  | 45, _, hj => 
    match j, hj with
    | 0, _ => exact tx_el_45_0
    | 1, _ => exact tx_el_45_1
    | 2, _ => exact tx_el_45_2
    | 3, _ => exact tx_el_45_3
    | j + 4, h => exact absurd (show j + 4 < 4 from h) (by omega)
  | 46, _, hj => 
    match j, hj with
    | 0, _ => exact tx_el_46_0
    | 1, _ => exact tx_el_46_1
    | 2, _ => exact tx_el_46_2
    | 3, _ => exact tx_el_46_3
    | j + 4, h => exact absurd (show j + 4 < 4 from h) (by omega)
  | 47, _, hj => 
    match j, hj with
    | 0, _ => exact tx_el_47_0
    | 1, _ => exact tx_el_47_1
    | j + 2, h => exact absurd (show j + 2 < 2 from h) (by omega)
  | 48, _, hj => 
    match j, hj with
    | 0, _ => exact tx_el_48_0
    | 1, _ => exact tx_el_48_1
    | 2, _ => exact tx_el_48_2
    | j + 3, h => exact absurd (show j + 3 < 3 from h) (by omega)
  | 49, _, hj => 
    match j, hj with
    | 0, _ => exact tx_el_49_0
    | 1, _ => exact tx_el_49_1
    | 2, _ => exact tx_el_49_2
    | j + 3, h => exact absurd (show j + 3 < 3 from h) (by omega)
  | 50, _, hj => 
    match j, hj with
    | 0, _ => exact tx_el_50_0
    | 1, _ => exact tx_el_50_1
    | 2, _ => exact tx_el_50_2
    | 3, _ => exact tx_el_50_3
    | 4, _ => exact tx_el_50_4
    | j + 5, h => exact absurd (show j + 5 < 5 from h) (by omega)
  | 51, _, hj => 
    match j, hj with
    | 0, _ => exact tx_el_51_0
    | 1, _ => exact tx_el_51_1
    | 2, _ => exact tx_el_51_2
    | 3, _ => exact tx_el_51_3
    | j + 4, h => exact absurd (show j + 4 < 4 from h) (by omega)
  | 52, _, hj => 
    match j, hj with
    | 0, _ => exact tx_el_52_0
    | 1, _ => exact tx_el_52_1
    | 2, _ => exact tx_el_52_2
    | 3, _ => exact tx_el_52_3
    | j + 4, h => exact absurd (show j + 4 < 4 from h) (by omega)
  | 53, _, hj => 
    match j, hj with
    | 0, _ => exact tx_el_53_0
    | 1, _ => exact tx_el_53_1
    | 2, _ => exact tx_el_53_2
    | j + 3, h => exact absurd (show j + 3 < 3 from h) (by omega)
  | 54, _, hj => 
    match j, hj with
    | 0, _ => exact tx_el_54_0
    | 1, _ => exact tx_el_54_1
    | 2, _ => exact tx_el_54_2
    | j + 3, h => exact absurd (show j + 3 < 3 from h) (by omega)
  | 55, _, hj => 
    match j, hj with
    | 0, _ => exact tx_el_55_0
    | 1, _ => exact tx_el_55_1
    | 2, _ => exact tx_el_55_2
    | 3, _ => exact tx_el_55_3
    | 4, _ => exact tx_el_55_4
    | 5, _ => exact tx_el_55_5
    | j + 6, h => exact absurd (show j + 6 < 6 from h) (by omega)
  | k + 56, h, _ => exact absurd h (by omega)
theorem wo_ex : ∀ k : Nat, k < 28 → Cond.exactly (.static RWd (wdN.getD k "") "LKerbSplash$Word;") RWd ∈ flatC (Jvm.Cond.and given_1 narrow_1) := by
  intro k hk
  match k, hk with
  | 0, _ => exact wo_ex_0
  | 1, _ => exact wo_ex_1
  | 2, _ => exact wo_ex_2
  | 3, _ => exact wo_ex_3
  | 4, _ => exact wo_ex_4
  | 5, _ => exact wo_ex_5
  | 6, _ => exact wo_ex_6
  | 7, _ => exact wo_ex_7
  | 8, _ => exact wo_ex_8
  | 9, _ => exact wo_ex_9
  | 10, _ => exact wo_ex_10
  | 11, _ => exact wo_ex_11
  | 12, _ => exact wo_ex_12
  | 13, _ => exact wo_ex_13
  | 14, _ => exact wo_ex_14
  | 15, _ => exact wo_ex_15
  | 16, _ => exact wo_ex_16
  | 17, _ => exact wo_ex_17
  | 18, _ => exact wo_ex_18
  | 19, _ => exact wo_ex_19
  | 20, _ => exact wo_ex_20
  | 21, _ => exact wo_ex_21
  | 22, _ => exact wo_ex_22
  | 23, _ => exact wo_ex_23
  | 24, _ => exact wo_ex_24
  | 25, _ => exact wo_ex_25
  | 26, _ => exact wo_ex_26
  | 27, _ => exact wo_ex_27
  | k + 28, h => exact absurd h (by omega)
theorem wo_le : ∀ k : Nat, k < 28 → Cond.eq (.field (.static RWd (wdN.getD k "") "LKerbSplash$Word;") RWd "letters" "Ljava/lang/String;") (txT k) ∈ flatC (Jvm.Cond.and given_1 narrow_1) := by
  intro k hk
  match k, hk with
  | 0, _ => exact wo_le_0
  | 1, _ => exact wo_le_1
  | 2, _ => exact wo_le_2
  | 3, _ => exact wo_le_3
  | 4, _ => exact wo_le_4
  | 5, _ => exact wo_le_5
  | 6, _ => exact wo_le_6
  | 7, _ => exact wo_le_7
  | 8, _ => exact wo_le_8
  | 9, _ => exact wo_le_9
  | 10, _ => exact wo_le_10
  | 11, _ => exact wo_le_11
  | 12, _ => exact wo_le_12
  | 13, _ => exact wo_le_13
  | 14, _ => exact wo_le_14
  | 15, _ => exact wo_le_15
  | 16, _ => exact wo_le_16
  | 17, _ => exact wo_le_17
  | 18, _ => exact wo_le_18
  | 19, _ => exact wo_le_19
  | 20, _ => exact wo_le_20
  | 21, _ => exact wo_le_21
  | 22, _ => exact wo_le_22
  | 23, _ => exact wo_le_23
  | 24, _ => exact wo_le_24
  | 25, _ => exact wo_le_25
  | 26, _ => exact wo_le_26
  | 27, _ => exact wo_le_27
  | k + 28, h => exact absurd h (by omega)
theorem wo_al : ∀ k : Nat, k < 28 → Cond.eq (.elem (.static RWd "ALL" "[LKerbSplash$Word;") (.int (Int32.ofNat k))) (.static RWd (wdN.getD k "") "LKerbSplash$Word;") ∈ flatC (Jvm.Cond.and given_1 narrow_1) := by
  intro k hk
  match k, hk with
  | 0, _ => exact wo_al_0
  | 1, _ => exact wo_al_1
  | 2, _ => exact wo_al_2
  | 3, _ => exact wo_al_3
  | 4, _ => exact wo_al_4
  | 5, _ => exact wo_al_5
  | 6, _ => exact wo_al_6
  | 7, _ => exact wo_al_7
  | 8, _ => exact wo_al_8
  | 9, _ => exact wo_al_9
  | 10, _ => exact wo_al_10
  | 11, _ => exact wo_al_11
  | 12, _ => exact wo_al_12
  | 13, _ => exact wo_al_13
  | 14, _ => exact wo_al_14
  | 15, _ => exact wo_al_15
  | 16, _ => exact wo_al_16
  | 17, _ => exact wo_al_17
  | 18, _ => exact wo_al_18
  | 19, _ => exact wo_al_19
  | 20, _ => exact wo_al_20
  | 21, _ => exact wo_al_21
  | 22, _ => exact wo_al_22
  | 23, _ => exact wo_al_23
  | 24, _ => exact wo_al_24
  | 25, _ => exact wo_al_25
  | 26, _ => exact wo_al_26
  | 27, _ => exact wo_al_27
  | k + 28, h => exact absurd h (by omega)
theorem wo_fi0 : ∀ k : Nat, k < 28 → Cond.eq (.field (.static RWd (wdN.getD k "") "LKerbSplash$Word;") "KerbSplash$Word" "work" "I") (.int (iI (wdW.getD k 0))) ∈ flatC (Jvm.Cond.and given_1 narrow_1) := by
  intro k hk
  match k, hk with
  | 0, _ => exact wo_fi0_0
  | 1, _ => exact wo_fi0_1
  | 2, _ => exact wo_fi0_2
  | 3, _ => exact wo_fi0_3
  | 4, _ => exact wo_fi0_4
  | 5, _ => exact wo_fi0_5
  | 6, _ => exact wo_fi0_6
  | 7, _ => exact wo_fi0_7
  | 8, _ => exact wo_fi0_8
  | 9, _ => exact wo_fi0_9
  | 10, _ => exact wo_fi0_10
  | 11, _ => exact wo_fi0_11
  | 12, _ => exact wo_fi0_12
  | 13, _ => exact wo_fi0_13
  | 14, _ => exact wo_fi0_14
  | 15, _ => exact wo_fi0_15
  | 16, _ => exact wo_fi0_16
  | 17, _ => exact wo_fi0_17
  | 18, _ => exact wo_fi0_18
  | 19, _ => exact wo_fi0_19
  | 20, _ => exact wo_fi0_20
  | 21, _ => exact wo_fi0_21
  | 22, _ => exact wo_fi0_22
  | 23, _ => exact wo_fi0_23
  | 24, _ => exact wo_fi0_24
  | 25, _ => exact wo_fi0_25
  | 26, _ => exact wo_fi0_26
  | 27, _ => exact wo_fi0_27
  | k + 28, h => exact absurd h (by omega)
theorem wo_fi1 : ∀ k : Nat, k < 28 → Cond.eq (.field (.static RWd (wdN.getD k "") "LKerbSplash$Word;") "KerbSplash$Word" "saying" "I") (.int (iI (wdS.getD k 0))) ∈ flatC (Jvm.Cond.and given_1 narrow_1) := by
  intro k hk
  match k, hk with
  | 0, _ => exact wo_fi1_0
  | 1, _ => exact wo_fi1_1
  | 2, _ => exact wo_fi1_2
  | 3, _ => exact wo_fi1_3
  | 4, _ => exact wo_fi1_4
  | 5, _ => exact wo_fi1_5
  | 6, _ => exact wo_fi1_6
  | 7, _ => exact wo_fi1_7
  | 8, _ => exact wo_fi1_8
  | 9, _ => exact wo_fi1_9
  | 10, _ => exact wo_fi1_10
  | 11, _ => exact wo_fi1_11
  | 12, _ => exact wo_fi1_12
  | 13, _ => exact wo_fi1_13
  | 14, _ => exact wo_fi1_14
  | 15, _ => exact wo_fi1_15
  | 16, _ => exact wo_fi1_16
  | 17, _ => exact wo_fi1_17
  | 18, _ => exact wo_fi1_18
  | 19, _ => exact wo_fi1_19
  | 20, _ => exact wo_fi1_20
  | 21, _ => exact wo_fi1_21
  | 22, _ => exact wo_fi1_22
  | 23, _ => exact wo_fi1_23
  | 24, _ => exact wo_fi1_24
  | 25, _ => exact wo_fi1_25
  | 26, _ => exact wo_fi1_26
  | 27, _ => exact wo_fi1_27
  | k + 28, h => exact absurd h (by omega)
theorem wo_fi2 : ∀ k : Nat, k < 28 → Cond.eq (.field (.static RWd (wdN.getD k "") "LKerbSplash$Word;") "KerbSplash$Word" "name" "I") (.int (iI (wdM.getD k 0))) ∈ flatC (Jvm.Cond.and given_1 narrow_1) := by
  intro k hk
  match k, hk with
  | 0, _ => exact wo_fi2_0
  | 1, _ => exact wo_fi2_1
  | 2, _ => exact wo_fi2_2
  | 3, _ => exact wo_fi2_3
  | 4, _ => exact wo_fi2_4
  | 5, _ => exact wo_fi2_5
  | 6, _ => exact wo_fi2_6
  | 7, _ => exact wo_fi2_7
  | 8, _ => exact wo_fi2_8
  | 9, _ => exact wo_fi2_9
  | 10, _ => exact wo_fi2_10
  | 11, _ => exact wo_fi2_11
  | 12, _ => exact wo_fi2_12
  | 13, _ => exact wo_fi2_13
  | 14, _ => exact wo_fi2_14
  | 15, _ => exact wo_fi2_15
  | 16, _ => exact wo_fi2_16
  | 17, _ => exact wo_fi2_17
  | 18, _ => exact wo_fi2_18
  | 19, _ => exact wo_fi2_19
  | 20, _ => exact wo_fi2_20
  | 21, _ => exact wo_fi2_21
  | 22, _ => exact wo_fi2_22
  | 23, _ => exact wo_fi2_23
  | 24, _ => exact wo_fi2_24
  | 25, _ => exact wo_fi2_25
  | 26, _ => exact wo_fi2_26
  | 27, _ => exact wo_fi2_27
  | k + 28, h => exact absurd h (by omega)
theorem wo_fi3 : ∀ k : Nat, k < 28 → Cond.eq (.field (.static RWd (wdN.getD k "") "LKerbSplash$Word;") "java/lang/Enum" "ordinal" "I") (.int (Int32.ofNat k)) ∈ flatC (Jvm.Cond.and given_1 narrow_1) := by
  intro k hk
  match k, hk with
  | 0, _ => exact wo_fi3_0
  | 1, _ => exact wo_fi3_1
  | 2, _ => exact wo_fi3_2
  | 3, _ => exact wo_fi3_3
  | 4, _ => exact wo_fi3_4
  | 5, _ => exact wo_fi3_5
  | 6, _ => exact wo_fi3_6
  | 7, _ => exact wo_fi3_7
  | 8, _ => exact wo_fi3_8
  | 9, _ => exact wo_fi3_9
  | 10, _ => exact wo_fi3_10
  | 11, _ => exact wo_fi3_11
  | 12, _ => exact wo_fi3_12
  | 13, _ => exact wo_fi3_13
  | 14, _ => exact wo_fi3_14
  | 15, _ => exact wo_fi3_15
  | 16, _ => exact wo_fi3_16
  | 17, _ => exact wo_fi3_17
  | 18, _ => exact wo_fi3_18
  | 19, _ => exact wo_fi3_19
  | 20, _ => exact wo_fi3_20
  | 21, _ => exact wo_fi3_21
  | 22, _ => exact wo_fi3_22
  | 23, _ => exact wo_fi3_23
  | 24, _ => exact wo_fi3_24
  | 25, _ => exact wo_fi3_25
  | 26, _ => exact wo_fi3_26
  | 27, _ => exact wo_fi3_27
  | k + 28, h => exact absurd h (by omega)
