def txC : List (String × Nat) := [(RWd, 137), (RWd, 143), (RWd, 146), (RWd, 149), (RWd, 152), (RWd, 155), (RWd, 160), (RWd, 165), (RWd, 168), (RWd, 171), (RWd, 174), (RWd, 177), (RWd, 180), (RWd, 183), (RWd, 186), (RWd, 189), (RWd, 192), (RWd, 195), (RWd, 198), (RWd, 201), (RWd, 204), (RWd, 207), (RWd, 210), (RWd, 213), (RWd, 216), (RWd, 219), (RWd, 222), (RWd, 225), (RWd, 137), (RX12, 154), (RX12, 155), (RX12, 157), (RX12, 162), (RX12, 185), (RX12, 133), (RX12, 139), (RX12, 141), (RX12, 143), (RX12, 207), (RX12, 269), (RX12, 271), (RX12, 273), (RX12, 275), (RX12, 277), (RX12, 242), (RX12, 247), (RX12, 252), (RX12, 267), (RX12, 262), (RX12, 257), (RX12, 215), (RX12, 217), (RX12, 219), (RX12, 221), (RX12, 223), (RX12, 225)]
def txT (k : Nat) : Term := .string (txC.getD k ("", 0)).1 (txC.getD k ("", 0)).2
def gvC : List Cond := flatC (Jvm.Cond.and given_1 narrow_1)
theorem tx_ex : ∀ k : Nat, k < 56 → Cond.exactly (txT k) "java/lang/String" ∈ flatC (Jvm.Cond.and given_1 narrow_1) := by decide +kernel
theorem tx_co : ∀ k : Nat, k < 56 → Cond.eq (.field (txT k) "java/lang/String" "coder" "B") (.int 0) ∈ flatC (Jvm.Cond.and given_1 narrow_1) := by decide +kernel
theorem tx_ar : ∀ k : Nat, k < 56 → Cond.arrayOf (.field (txT k) "java/lang/String" "value" "[B") .byte ∈ flatC (Jvm.Cond.and given_1 narrow_1) := by decide +kernel

theorem tx_le_0 : Cond.eq (.length (.field (txT 0) "java/lang/String" "value" "[B")) (.int (Int32.ofNat (wdT.getD 0 []).length)) ∈ flatC (Jvm.Cond.and given_1 narrow_1) := by decide +kernel
theorem tx_le_1 : Cond.eq (.length (.field (txT 1) "java/lang/String" "value" "[B")) (.int (Int32.ofNat (wdT.getD 1 []).length)) ∈ flatC (Jvm.Cond.and given_1 narrow_1) := by decide +kernel
theorem tx_el_1_0 : Cond.eq (.elem (.field (txT 1) "java/lang/String" "value" "[B") (.int (Int32.ofNat 0))) (.int (iI ((wdT.getD 1 []).getD 0 0))) ∈ flatC (Jvm.Cond.and given_1 narrow_1) := by decide +kernel
theorem tx_el_1_1 : Cond.eq (.elem (.field (txT 1) "java/lang/String" "value" "[B") (.int (Int32.ofNat 1))) (.int (iI ((wdT.getD 1 []).getD 1 0))) ∈ flatC (Jvm.Cond.and given_1 narrow_1) := by decide +kernel
theorem tx_el_1_2 : Cond.eq (.elem (.field (txT 1) "java/lang/String" "value" "[B") (.int (Int32.ofNat 2))) (.int (iI ((wdT.getD 1 []).getD 2 0))) ∈ flatC (Jvm.Cond.and given_1 narrow_1) := by decide +kernel
theorem tx_el_1_3 : Cond.eq (.elem (.field (txT 1) "java/lang/String" "value" "[B") (.int (Int32.ofNat 3))) (.int (iI ((wdT.getD 1 []).getD 3 0))) ∈ flatC (Jvm.Cond.and given_1 narrow_1) := by decide +kernel
theorem tx_le_2 : Cond.eq (.length (.field (txT 2) "java/lang/String" "value" "[B")) (.int (Int32.ofNat (wdT.getD 2 []).length)) ∈ flatC (Jvm.Cond.and given_1 narrow_1) := by decide +kernel
theorem tx_el_2_0 : Cond.eq (.elem (.field (txT 2) "java/lang/String" "value" "[B") (.int (Int32.ofNat 0))) (.int (iI ((wdT.getD 2 []).getD 0 0))) ∈ flatC (Jvm.Cond.and given_1 narrow_1) := by decide +kernel
theorem tx_el_2_1 : Cond.eq (.elem (.field (txT 2) "java/lang/String" "value" "[B") (.int (Int32.ofNat 1))) (.int (iI ((wdT.getD 2 []).getD 1 0))) ∈ flatC (Jvm.Cond.and given_1 narrow_1) := by decide +kernel
theorem tx_el_2_2 : Cond.eq (.elem (.field (txT 2) "java/lang/String" "value" "[B") (.int (Int32.ofNat 2))) (.int (iI ((wdT.getD 2 []).getD 2 0))) ∈ flatC (Jvm.Cond.and given_1 narrow_1) := by decide +kernel
theorem tx_el_2_3 : Cond.eq (.elem (.field (txT 2) "java/lang/String" "value" "[B") (.int (Int32.ofNat 3))) (.int (iI ((wdT.getD 2 []).getD 3 0))) ∈ flatC (Jvm.Cond.and given_1 narrow_1) := by decide +kernel
theorem tx_le_3 : Cond.eq (.length (.field (txT 3) "java/lang/String" "value" "[B")) (.int (Int32.ofNat (wdT.getD 3 []).length)) ∈ flatC (Jvm.Cond.and given_1 narrow_1) := by decide +kernel
theorem tx_el_3_0 : Cond.eq (.elem (.field (txT 3) "java/lang/String" "value" "[B") (.int (Int32.ofNat 0))) (.int (iI ((wdT.getD 3 []).getD 0 0))) ∈ flatC (Jvm.Cond.and given_1 narrow_1) := by decide +kernel
theorem tx_el_3_1 : Cond.eq (.elem (.field (txT 3) "java/lang/String" "value" "[B") (.int (Int32.ofNat 1))) (.int (iI ((wdT.getD 3 []).getD 1 0))) ∈ flatC (Jvm.Cond.and given_1 narrow_1) := by decide +kernel
theorem tx_el_3_2 : Cond.eq (.elem (.field (txT 3) "java/lang/String" "value" "[B") (.int (Int32.ofNat 2))) (.int (iI ((wdT.getD 3 []).getD 2 0))) ∈ flatC (Jvm.Cond.and given_1 narrow_1) := by decide +kernel
theorem tx_el_3_3 : Cond.eq (.elem (.field (txT 3) "java/lang/String" "value" "[B") (.int (Int32.ofNat 3))) (.int (iI ((wdT.getD 3 []).getD 3 0))) ∈ flatC (Jvm.Cond.and given_1 narrow_1) := by decide +kernel
theorem tx_el_3_4 : Cond.eq (.elem (.field (txT 3) "java/lang/String" "value" "[B") (.int (Int32.ofNat 4))) (.int (iI ((wdT.getD 3 []).getD 4 0))) ∈ flatC (Jvm.Cond.and given_1 narrow_1) := by decide +kernel
theorem tx_le_4 : Cond.eq (.length (.field (txT 4) "java/lang/String" "value" "[B")) (.int (Int32.ofNat (wdT.getD 4 []).length)) ∈ flatC (Jvm.Cond.and given_1 narrow_1) := by decide +kernel
theorem tx_el_4_0 : Cond.eq (.elem (.field (txT 4) "java/lang/String" "value" "[B") (.int (Int32.ofNat 0))) (.int (iI ((wdT.getD 4 []).getD 0 0))) ∈ flatC (Jvm.Cond.and given_1 narrow_1) := by decide +kernel
theorem tx_el_4_1 : Cond.eq (.elem (.field (txT 4) "java/lang/String" "value" "[B") (.int (Int32.ofNat 1))) (.int (iI ((wdT.getD 4 []).getD 1 0))) ∈ flatC (Jvm.Cond.and given_1 narrow_1) := by decide +kernel
theorem tx_el_4_2 : Cond.eq (.elem (.field (txT 4) "java/lang/String" "value" "[B") (.int (Int32.ofNat 2))) (.int (iI ((wdT.getD 4 []).getD 2 0))) ∈ flatC (Jvm.Cond.and given_1 narrow_1) := by decide +kernel
theorem tx_el_4_3 : Cond.eq (.elem (.field (txT 4) "java/lang/String" "value" "[B") (.int (Int32.ofNat 3))) (.int (iI ((wdT.getD 4 []).getD 3 0))) ∈ flatC (Jvm.Cond.and given_1 narrow_1) := by decide +kernel
theorem tx_el_4_4 : Cond.eq (.elem (.field (txT 4) "java/lang/String" "value" "[B") (.int (Int32.ofNat 4))) (.int (iI ((wdT.getD 4 []).getD 4 0))) ∈ flatC (Jvm.Cond.and given_1 narrow_1) := by decide +kernel
theorem tx_el_4_5 : Cond.eq (.elem (.field (txT 4) "java/lang/String" "value" "[B") (.int (Int32.ofNat 5))) (.int (iI ((wdT.getD 4 []).getD 5 0))) ∈ flatC (Jvm.Cond.and given_1 narrow_1) := by decide +kernel
theorem tx_le_5 : Cond.eq (.length (.field (txT 5) "java/lang/String" "value" "[B")) (.int (Int32.ofNat (wdT.getD 5 []).length)) ∈ flatC (Jvm.Cond.and given_1 narrow_1) := by decide +kernel
theorem tx_el_5_0 : Cond.eq (.elem (.field (txT 5) "java/lang/String" "value" "[B") (.int (Int32.ofNat 0))) (.int (iI ((wdT.getD 5 []).getD 0 0))) ∈ flatC (Jvm.Cond.and given_1 narrow_1) := by decide +kernel
theorem tx_el_5_1 : Cond.eq (.elem (.field (txT 5) "java/lang/String" "value" "[B") (.int (Int32.ofNat 1))) (.int (iI ((wdT.getD 5 []).getD 1 0))) ∈ flatC (Jvm.Cond.and given_1 narrow_1) := by decide +kernel
theorem tx_el_5_2 : Cond.eq (.elem (.field (txT 5) "java/lang/String" "value" "[B") (.int (Int32.ofNat 2))) (.int (iI ((wdT.getD 5 []).getD 2 0))) ∈ flatC (Jvm.Cond.and given_1 narrow_1) := by decide +kernel
theorem tx_el_5_3 : Cond.eq (.elem (.field (txT 5) "java/lang/String" "value" "[B") (.int (Int32.ofNat 3))) (.int (iI ((wdT.getD 5 []).getD 3 0))) ∈ flatC (Jvm.Cond.and given_1 narrow_1) := by decide +kernel
theorem tx_el_5_4 : Cond.eq (.elem (.field (txT 5) "java/lang/String" "value" "[B") (.int (Int32.ofNat 4))) (.int (iI ((wdT.getD 5 []).getD 4 0))) ∈ flatC (Jvm.Cond.and given_1 narrow_1) := by decide +kernel
theorem tx_el_5_5 : Cond.eq (.elem (.field (txT 5) "java/lang/String" "value" "[B") (.int (Int32.ofNat 5))) (.int (iI ((wdT.getD 5 []).getD 5 0))) ∈ flatC (Jvm.Cond.and given_1 narrow_1) := by decide +kernel
theorem tx_el_5_6 : Cond.eq (.elem (.field (txT 5) "java/lang/String" "value" "[B") (.int (Int32.ofNat 6))) (.int (iI ((wdT.getD 5 []).getD 6 0))) ∈ flatC (Jvm.Cond.and given_1 narrow_1) := by decide +kernel
theorem tx_le_6 : Cond.eq (.length (.field (txT 6) "java/lang/String" "value" "[B")) (.int (Int32.ofNat (wdT.getD 6 []).length)) ∈ flatC (Jvm.Cond.and given_1 narrow_1) := by decide +kernel
theorem tx_el_6_0 : Cond.eq (.elem (.field (txT 6) "java/lang/String" "value" "[B") (.int (Int32.ofNat 0))) (.int (iI ((wdT.getD 6 []).getD 0 0))) ∈ flatC (Jvm.Cond.and given_1 narrow_1) := by decide +kernel
theorem tx_el_6_1 : Cond.eq (.elem (.field (txT 6) "java/lang/String" "value" "[B") (.int (Int32.ofNat 1))) (.int (iI ((wdT.getD 6 []).getD 1 0))) ∈ flatC (Jvm.Cond.and given_1 narrow_1) := by decide +kernel
theorem tx_el_6_2 : Cond.eq (.elem (.field (txT 6) "java/lang/String" "value" "[B") (.int (Int32.ofNat 2))) (.int (iI ((wdT.getD 6 []).getD 2 0))) ∈ flatC (Jvm.Cond.and given_1 narrow_1) := by decide +kernel
theorem tx_el_6_3 : Cond.eq (.elem (.field (txT 6) "java/lang/String" "value" "[B") (.int (Int32.ofNat 3))) (.int (iI ((wdT.getD 6 []).getD 3 0))) ∈ flatC (Jvm.Cond.and given_1 narrow_1) := by decide +kernel
theorem tx_el_6_4 : Cond.eq (.elem (.field (txT 6) "java/lang/String" "value" "[B") (.int (Int32.ofNat 4))) (.int (iI ((wdT.getD 6 []).getD 4 0))) ∈ flatC (Jvm.Cond.and given_1 narrow_1) := by decide +kernel
theorem tx_le_7 : Cond.eq (.length (.field (txT 7) "java/lang/String" "value" "[B")) (.int (Int32.ofNat (wdT.getD 7 []).length)) ∈ flatC (Jvm.Cond.and given_1 narrow_1) := by decide +kernel
theorem tx_el_7_0 : Cond.eq (.elem (.field (txT 7) "java/lang/String" "value" "[B") (.int (Int32.ofNat 0))) (.int (iI ((wdT.getD 7 []).getD 0 0))) ∈ flatC (Jvm.Cond.and given_1 narrow_1) := by decide +kernel
theorem tx_el_7_1 : Cond.eq (.elem (.field (txT 7) "java/lang/String" "value" "[B") (.int (Int32.ofNat 1))) (.int (iI ((wdT.getD 7 []).getD 1 0))) ∈ flatC (Jvm.Cond.and given_1 narrow_1) := by decide +kernel
theorem tx_el_7_2 : Cond.eq (.elem (.field (txT 7) "java/lang/String" "value" "[B") (.int (Int32.ofNat 2))) (.int (iI ((wdT.getD 7 []).getD 2 0))) ∈ flatC (Jvm.Cond.and given_1 narrow_1) := by decide +kernel
theorem tx_el_7_3 : Cond.eq (.elem (.field (txT 7) "java/lang/String" "value" "[B") (.int (Int32.ofNat 3))) (.int (iI ((wdT.getD 7 []).getD 3 0))) ∈ flatC (Jvm.Cond.and given_1 narrow_1) := by decide +kernel
theorem tx_el_7_4 : Cond.eq (.elem (.field (txT 7) "java/lang/String" "value" "[B") (.int (Int32.ofNat 4))) (.int (iI ((wdT.getD 7 []).getD 4 0))) ∈ flatC (Jvm.Cond.and given_1 narrow_1) := by decide +kernel
theorem tx_le_8 : Cond.eq (.length (.field (txT 8) "java/lang/String" "value" "[B")) (.int (Int32.ofNat (wdT.getD 8 []).length)) ∈ flatC (Jvm.Cond.and given_1 narrow_1) := by decide +kernel
theorem tx_el_8_0 : Cond.eq (.elem (.field (txT 8) "java/lang/String" "value" "[B") (.int (Int32.ofNat 0))) (.int (iI ((wdT.getD 8 []).getD 0 0))) ∈ flatC (Jvm.Cond.and given_1 narrow_1) := by decide +kernel
theorem tx_el_8_1 : Cond.eq (.elem (.field (txT 8) "java/lang/String" "value" "[B") (.int (Int32.ofNat 1))) (.int (iI ((wdT.getD 8 []).getD 1 0))) ∈ flatC (Jvm.Cond.and given_1 narrow_1) := by decide +kernel
theorem tx_el_8_2 : Cond.eq (.elem (.field (txT 8) "java/lang/String" "value" "[B") (.int (Int32.ofNat 2))) (.int (iI ((wdT.getD 8 []).getD 2 0))) ∈ flatC (Jvm.Cond.and given_1 narrow_1) := by decide +kernel
theorem tx_el_8_3 : Cond.eq (.elem (.field (txT 8) "java/lang/String" "value" "[B") (.int (Int32.ofNat 3))) (.int (iI ((wdT.getD 8 []).getD 3 0))) ∈ flatC (Jvm.Cond.and given_1 narrow_1) := by decide +kernel
theorem tx_el_8_4 : Cond.eq (.elem (.field (txT 8) "java/lang/String" "value" "[B") (.int (Int32.ofNat 4))) (.int (iI ((wdT.getD 8 []).getD 4 0))) ∈ flatC (Jvm.Cond.and given_1 narrow_1) := by decide +kernel
theorem tx_le_9 : Cond.eq (.length (.field (txT 9) "java/lang/String" "value" "[B")) (.int (Int32.ofNat (wdT.getD 9 []).length)) ∈ flatC (Jvm.Cond.and given_1 narrow_1) := by decide +kernel
theorem tx_el_9_0 : Cond.eq (.elem (.field (txT 9) "java/lang/String" "value" "[B") (.int (Int32.ofNat 0))) (.int (iI ((wdT.getD 9 []).getD 0 0))) ∈ flatC (Jvm.Cond.and given_1 narrow_1) := by decide +kernel
theorem tx_el_9_1 : Cond.eq (.elem (.field (txT 9) "java/lang/String" "value" "[B") (.int (Int32.ofNat 1))) (.int (iI ((wdT.getD 9 []).getD 1 0))) ∈ flatC (Jvm.Cond.and given_1 narrow_1) := by decide +kernel
theorem tx_el_9_2 : Cond.eq (.elem (.field (txT 9) "java/lang/String" "value" "[B") (.int (Int32.ofNat 2))) (.int (iI ((wdT.getD 9 []).getD 2 0))) ∈ flatC (Jvm.Cond.and given_1 narrow_1) := by decide +kernel
theorem tx_el_9_3 : Cond.eq (.elem (.field (txT 9) "java/lang/String" "value" "[B") (.int (Int32.ofNat 3))) (.int (iI ((wdT.getD 9 []).getD 3 0))) ∈ flatC (Jvm.Cond.and given_1 narrow_1) := by decide +kernel
theorem tx_le_10 : Cond.eq (.length (.field (txT 10) "java/lang/String" "value" "[B")) (.int (Int32.ofNat (wdT.getD 10 []).length)) ∈ flatC (Jvm.Cond.and given_1 narrow_1) := by decide +kernel
theorem tx_el_10_0 : Cond.eq (.elem (.field (txT 10) "java/lang/String" "value" "[B") (.int (Int32.ofNat 0))) (.int (iI ((wdT.getD 10 []).getD 0 0))) ∈ flatC (Jvm.Cond.and given_1 narrow_1) := by decide +kernel
theorem tx_el_10_1 : Cond.eq (.elem (.field (txT 10) "java/lang/String" "value" "[B") (.int (Int32.ofNat 1))) (.int (iI ((wdT.getD 10 []).getD 1 0))) ∈ flatC (Jvm.Cond.and given_1 narrow_1) := by decide +kernel
theorem tx_el_10_2 : Cond.eq (.elem (.field (txT 10) "java/lang/String" "value" "[B") (.int (Int32.ofNat 2))) (.int (iI ((wdT.getD 10 []).getD 2 0))) ∈ flatC (Jvm.Cond.and given_1 narrow_1) := by decide +kernel
theorem tx_el_10_3 : Cond.eq (.elem (.field (txT 10) "java/lang/String" "value" "[B") (.int (Int32.ofNat 3))) (.int (iI ((wdT.getD 10 []).getD 3 0))) ∈ flatC (Jvm.Cond.and given_1 narrow_1) := by decide +kernel
theorem tx_le_11 : Cond.eq (.length (.field (txT 11) "java/lang/String" "value" "[B")) (.int (Int32.ofNat (wdT.getD 11 []).length)) ∈ flatC (Jvm.Cond.and given_1 narrow_1) := by decide +kernel
theorem tx_el_11_0 : Cond.eq (.elem (.field (txT 11) "java/lang/String" "value" "[B") (.int (Int32.ofNat 0))) (.int (iI ((wdT.getD 11 []).getD 0 0))) ∈ flatC (Jvm.Cond.and given_1 narrow_1) := by decide +kernel
theorem tx_el_11_1 : Cond.eq (.elem (.field (txT 11) "java/lang/String" "value" "[B") (.int (Int32.ofNat 1))) (.int (iI ((wdT.getD 11 []).getD 1 0))) ∈ flatC (Jvm.Cond.and given_1 narrow_1) := by decide +kernel
theorem tx_el_11_2 : Cond.eq (.elem (.field (txT 11) "java/lang/String" "value" "[B") (.int (Int32.ofNat 2))) (.int (iI ((wdT.getD 11 []).getD 2 0))) ∈ flatC (Jvm.Cond.and given_1 narrow_1) := by decide +kernel
theorem tx_el_11_3 : Cond.eq (.elem (.field (txT 11) "java/lang/String" "value" "[B") (.int (Int32.ofNat 3))) (.int (iI ((wdT.getD 11 []).getD 3 0))) ∈ flatC (Jvm.Cond.and given_1 narrow_1) := by decide +kernel
theorem tx_el_11_4 : Cond.eq (.elem (.field (txT 11) "java/lang/String" "value" "[B") (.int (Int32.ofNat 4))) (.int (iI ((wdT.getD 11 []).getD 4 0))) ∈ flatC (Jvm.Cond.and given_1 narrow_1) := by decide +kernel
theorem tx_le_12 : Cond.eq (.length (.field (txT 12) "java/lang/String" "value" "[B")) (.int (Int32.ofNat (wdT.getD 12 []).length)) ∈ flatC (Jvm.Cond.and given_1 narrow_1) := by decide +kernel
theorem tx_el_12_0 : Cond.eq (.elem (.field (txT 12) "java/lang/String" "value" "[B") (.int (Int32.ofNat 0))) (.int (iI ((wdT.getD 12 []).getD 0 0))) ∈ flatC (Jvm.Cond.and given_1 narrow_1) := by decide +kernel
theorem tx_el_12_1 : Cond.eq (.elem (.field (txT 12) "java/lang/String" "value" "[B") (.int (Int32.ofNat 1))) (.int (iI ((wdT.getD 12 []).getD 1 0))) ∈ flatC (Jvm.Cond.and given_1 narrow_1) := by decide +kernel
theorem tx_el_12_2 : Cond.eq (.elem (.field (txT 12) "java/lang/String" "value" "[B") (.int (Int32.ofNat 2))) (.int (iI ((wdT.getD 12 []).getD 2 0))) ∈ flatC (Jvm.Cond.and given_1 narrow_1) := by decide +kernel
theorem tx_el_12_3 : Cond.eq (.elem (.field (txT 12) "java/lang/String" "value" "[B") (.int (Int32.ofNat 3))) (.int (iI ((wdT.getD 12 []).getD 3 0))) ∈ flatC (Jvm.Cond.and given_1 narrow_1) := by decide +kernel
theorem tx_el_12_4 : Cond.eq (.elem (.field (txT 12) "java/lang/String" "value" "[B") (.int (Int32.ofNat 4))) (.int (iI ((wdT.getD 12 []).getD 4 0))) ∈ flatC (Jvm.Cond.and given_1 narrow_1) := by decide +kernel
theorem tx_le_13 : Cond.eq (.length (.field (txT 13) "java/lang/String" "value" "[B")) (.int (Int32.ofNat (wdT.getD 13 []).length)) ∈ flatC (Jvm.Cond.and given_1 narrow_1) := by decide +kernel
theorem tx_el_13_0 : Cond.eq (.elem (.field (txT 13) "java/lang/String" "value" "[B") (.int (Int32.ofNat 0))) (.int (iI ((wdT.getD 13 []).getD 0 0))) ∈ flatC (Jvm.Cond.and given_1 narrow_1) := by decide +kernel
theorem tx_el_13_1 : Cond.eq (.elem (.field (txT 13) "java/lang/String" "value" "[B") (.int (Int32.ofNat 1))) (.int (iI ((wdT.getD 13 []).getD 1 0))) ∈ flatC (Jvm.Cond.and given_1 narrow_1) := by decide +kernel
theorem tx_el_13_2 : Cond.eq (.elem (.field (txT 13) "java/lang/String" "value" "[B") (.int (Int32.ofNat 2))) (.int (iI ((wdT.getD 13 []).getD 2 0))) ∈ flatC (Jvm.Cond.and given_1 narrow_1) := by decide +kernel
theorem tx_le_14 : Cond.eq (.length (.field (txT 14) "java/lang/String" "value" "[B")) (.int (Int32.ofNat (wdT.getD 14 []).length)) ∈ flatC (Jvm.Cond.and given_1 narrow_1) := by decide +kernel
theorem tx_el_14_0 : Cond.eq (.elem (.field (txT 14) "java/lang/String" "value" "[B") (.int (Int32.ofNat 0))) (.int (iI ((wdT.getD 14 []).getD 0 0))) ∈ flatC (Jvm.Cond.and given_1 narrow_1) := by decide +kernel
theorem tx_el_14_1 : Cond.eq (.elem (.field (txT 14) "java/lang/String" "value" "[B") (.int (Int32.ofNat 1))) (.int (iI ((wdT.getD 14 []).getD 1 0))) ∈ flatC (Jvm.Cond.and given_1 narrow_1) := by decide +kernel
theorem tx_el_14_2 : Cond.eq (.elem (.field (txT 14) "java/lang/String" "value" "[B") (.int (Int32.ofNat 2))) (.int (iI ((wdT.getD 14 []).getD 2 0))) ∈ flatC (Jvm.Cond.and given_1 narrow_1) := by decide +kernel
theorem tx_el_14_3 : Cond.eq (.elem (.field (txT 14) "java/lang/String" "value" "[B") (.int (Int32.ofNat 3))) (.int (iI ((wdT.getD 14 []).getD 3 0))) ∈ flatC (Jvm.Cond.and given_1 narrow_1) := by decide +kernel
theorem tx_le_15 : Cond.eq (.length (.field (txT 15) "java/lang/String" "value" "[B")) (.int (Int32.ofNat (wdT.getD 15 []).length)) ∈ flatC (Jvm.Cond.and given_1 narrow_1) := by decide +kernel
theorem tx_el_15_0 : Cond.eq (.elem (.field (txT 15) "java/lang/String" "value" "[B") (.int (Int32.ofNat 0))) (.int (iI ((wdT.getD 15 []).getD 0 0))) ∈ flatC (Jvm.Cond.and given_1 narrow_1) := by decide +kernel
theorem tx_el_15_1 : Cond.eq (.elem (.field (txT 15) "java/lang/String" "value" "[B") (.int (Int32.ofNat 1))) (.int (iI ((wdT.getD 15 []).getD 1 0))) ∈ flatC (Jvm.Cond.and given_1 narrow_1) := by decide +kernel
theorem tx_el_15_2 : Cond.eq (.elem (.field (txT 15) "java/lang/String" "value" "[B") (.int (Int32.ofNat 2))) (.int (iI ((wdT.getD 15 []).getD 2 0))) ∈ flatC (Jvm.Cond.and given_1 narrow_1) := by decide +kernel
theorem tx_le_16 : Cond.eq (.length (.field (txT 16) "java/lang/String" "value" "[B")) (.int (Int32.ofNat (wdT.getD 16 []).length)) ∈ flatC (Jvm.Cond.and given_1 narrow_1) := by decide +kernel
theorem tx_el_16_0 : Cond.eq (.elem (.field (txT 16) "java/lang/String" "value" "[B") (.int (Int32.ofNat 0))) (.int (iI ((wdT.getD 16 []).getD 0 0))) ∈ flatC (Jvm.Cond.and given_1 narrow_1) := by decide +kernel
theorem tx_el_16_1 : Cond.eq (.elem (.field (txT 16) "java/lang/String" "value" "[B") (.int (Int32.ofNat 1))) (.int (iI ((wdT.getD 16 []).getD 1 0))) ∈ flatC (Jvm.Cond.and given_1 narrow_1) := by decide +kernel
theorem tx_le_17 : Cond.eq (.length (.field (txT 17) "java/lang/String" "value" "[B")) (.int (Int32.ofNat (wdT.getD 17 []).length)) ∈ flatC (Jvm.Cond.and given_1 narrow_1) := by decide +kernel
theorem tx_el_17_0 : Cond.eq (.elem (.field (txT 17) "java/lang/String" "value" "[B") (.int (Int32.ofNat 0))) (.int (iI ((wdT.getD 17 []).getD 0 0))) ∈ flatC (Jvm.Cond.and given_1 narrow_1) := by decide +kernel
theorem tx_el_17_1 : Cond.eq (.elem (.field (txT 17) "java/lang/String" "value" "[B") (.int (Int32.ofNat 1))) (.int (iI ((wdT.getD 17 []).getD 1 0))) ∈ flatC (Jvm.Cond.and given_1 narrow_1) := by decide +kernel
theorem tx_el_17_2 : Cond.eq (.elem (.field (txT 17) "java/lang/String" "value" "[B") (.int (Int32.ofNat 2))) (.int (iI ((wdT.getD 17 []).getD 2 0))) ∈ flatC (Jvm.Cond.and given_1 narrow_1) := by decide +kernel
theorem tx_el_17_3 : Cond.eq (.elem (.field (txT 17) "java/lang/String" "value" "[B") (.int (Int32.ofNat 3))) (.int (iI ((wdT.getD 17 []).getD 3 0))) ∈ flatC (Jvm.Cond.and given_1 narrow_1) := by decide +kernel
theorem tx_le_18 : Cond.eq (.length (.field (txT 18) "java/lang/String" "value" "[B")) (.int (Int32.ofNat (wdT.getD 18 []).length)) ∈ flatC (Jvm.Cond.and given_1 narrow_1) := by decide +kernel
theorem tx_el_18_0 : Cond.eq (.elem (.field (txT 18) "java/lang/String" "value" "[B") (.int (Int32.ofNat 0))) (.int (iI ((wdT.getD 18 []).getD 0 0))) ∈ flatC (Jvm.Cond.and given_1 narrow_1) := by decide +kernel
theorem tx_el_18_1 : Cond.eq (.elem (.field (txT 18) "java/lang/String" "value" "[B") (.int (Int32.ofNat 1))) (.int (iI ((wdT.getD 18 []).getD 1 0))) ∈ flatC (Jvm.Cond.and given_1 narrow_1) := by decide +kernel
theorem tx_el_18_2 : Cond.eq (.elem (.field (txT 18) "java/lang/String" "value" "[B") (.int (Int32.ofNat 2))) (.int (iI ((wdT.getD 18 []).getD 2 0))) ∈ flatC (Jvm.Cond.and given_1 narrow_1) := by decide +kernel
theorem tx_el_18_3 : Cond.eq (.elem (.field (txT 18) "java/lang/String" "value" "[B") (.int (Int32.ofNat 3))) (.int (iI ((wdT.getD 18 []).getD 3 0))) ∈ flatC (Jvm.Cond.and given_1 narrow_1) := by decide +kernel
theorem tx_le_19 : Cond.eq (.length (.field (txT 19) "java/lang/String" "value" "[B")) (.int (Int32.ofNat (wdT.getD 19 []).length)) ∈ flatC (Jvm.Cond.and given_1 narrow_1) := by decide +kernel
theorem tx_el_19_0 : Cond.eq (.elem (.field (txT 19) "java/lang/String" "value" "[B") (.int (Int32.ofNat 0))) (.int (iI ((wdT.getD 19 []).getD 0 0))) ∈ flatC (Jvm.Cond.and given_1 narrow_1) := by decide +kernel
theorem tx_el_19_1 : Cond.eq (.elem (.field (txT 19) "java/lang/String" "value" "[B") (.int (Int32.ofNat 1))) (.int (iI ((wdT.getD 19 []).getD 1 0))) ∈ flatC (Jvm.Cond.and given_1 narrow_1) := by decide +kernel
theorem tx_le_20 : Cond.eq (.length (.field (txT 20) "java/lang/String" "value" "[B")) (.int (Int32.ofNat (wdT.getD 20 []).length)) ∈ flatC (Jvm.Cond.and given_1 narrow_1) := by decide +kernel
theorem tx_el_20_0 : Cond.eq (.elem (.field (txT 20) "java/lang/String" "value" "[B") (.int (Int32.ofNat 0))) (.int (iI ((wdT.getD 20 []).getD 0 0))) ∈ flatC (Jvm.Cond.and given_1 narrow_1) := by decide +kernel
theorem tx_el_20_1 : Cond.eq (.elem (.field (txT 20) "java/lang/String" "value" "[B") (.int (Int32.ofNat 1))) (.int (iI ((wdT.getD 20 []).getD 1 0))) ∈ flatC (Jvm.Cond.and given_1 narrow_1) := by decide +kernel
theorem tx_el_20_2 : Cond.eq (.elem (.field (txT 20) "java/lang/String" "value" "[B") (.int (Int32.ofNat 2))) (.int (iI ((wdT.getD 20 []).getD 2 0))) ∈ flatC (Jvm.Cond.and given_1 narrow_1) := by decide +kernel
theorem tx_le_21 : Cond.eq (.length (.field (txT 21) "java/lang/String" "value" "[B")) (.int (Int32.ofNat (wdT.getD 21 []).length)) ∈ flatC (Jvm.Cond.and given_1 narrow_1) := by decide +kernel
theorem tx_el_21_0 : Cond.eq (.elem (.field (txT 21) "java/lang/String" "value" "[B") (.int (Int32.ofNat 0))) (.int (iI ((wdT.getD 21 []).getD 0 0))) ∈ flatC (Jvm.Cond.and given_1 narrow_1) := by decide +kernel
theorem tx_el_21_1 : Cond.eq (.elem (.field (txT 21) "java/lang/String" "value" "[B") (.int (Int32.ofNat 1))) (.int (iI ((wdT.getD 21 []).getD 1 0))) ∈ flatC (Jvm.Cond.and given_1 narrow_1) := by decide +kernel
theorem tx_el_21_2 : Cond.eq (.elem (.field (txT 21) "java/lang/String" "value" "[B") (.int (Int32.ofNat 2))) (.int (iI ((wdT.getD 21 []).getD 2 0))) ∈ flatC (Jvm.Cond.and given_1 narrow_1) := by decide +kernel
theorem tx_le_22 : Cond.eq (.length (.field (txT 22) "java/lang/String" "value" "[B")) (.int (Int32.ofNat (wdT.getD 22 []).length)) ∈ flatC (Jvm.Cond.and given_1 narrow_1) := by decide +kernel
theorem tx_el_22_0 : Cond.eq (.elem (.field (txT 22) "java/lang/String" "value" "[B") (.int (Int32.ofNat 0))) (.int (iI ((wdT.getD 22 []).getD 0 0))) ∈ flatC (Jvm.Cond.and given_1 narrow_1) := by decide +kernel
theorem tx_el_22_1 : Cond.eq (.elem (.field (txT 22) "java/lang/String" "value" "[B") (.int (Int32.ofNat 1))) (.int (iI ((wdT.getD 22 []).getD 1 0))) ∈ flatC (Jvm.Cond.and given_1 narrow_1) := by decide +kernel
theorem tx_el_22_2 : Cond.eq (.elem (.field (txT 22) "java/lang/String" "value" "[B") (.int (Int32.ofNat 2))) (.int (iI ((wdT.getD 22 []).getD 2 0))) ∈ flatC (Jvm.Cond.and given_1 narrow_1) := by decide +kernel
theorem tx_el_22_3 : Cond.eq (.elem (.field (txT 22) "java/lang/String" "value" "[B") (.int (Int32.ofNat 3))) (.int (iI ((wdT.getD 22 []).getD 3 0))) ∈ flatC (Jvm.Cond.and given_1 narrow_1) := by decide +kernel
theorem tx_el_22_4 : Cond.eq (.elem (.field (txT 22) "java/lang/String" "value" "[B") (.int (Int32.ofNat 4))) (.int (iI ((wdT.getD 22 []).getD 4 0))) ∈ flatC (Jvm.Cond.and given_1 narrow_1) := by decide +kernel
theorem tx_le_23 : Cond.eq (.length (.field (txT 23) "java/lang/String" "value" "[B")) (.int (Int32.ofNat (wdT.getD 23 []).length)) ∈ flatC (Jvm.Cond.and given_1 narrow_1) := by decide +kernel
theorem tx_el_23_0 : Cond.eq (.elem (.field (txT 23) "java/lang/String" "value" "[B") (.int (Int32.ofNat 0))) (.int (iI ((wdT.getD 23 []).getD 0 0))) ∈ flatC (Jvm.Cond.and given_1 narrow_1) := by decide +kernel
theorem tx_el_23_1 : Cond.eq (.elem (.field (txT 23) "java/lang/String" "value" "[B") (.int (Int32.ofNat 1))) (.int (iI ((wdT.getD 23 []).getD 1 0))) ∈ flatC (Jvm.Cond.and given_1 narrow_1) := by decide +kernel
theorem tx_el_23_2 : Cond.eq (.elem (.field (txT 23) "java/lang/String" "value" "[B") (.int (Int32.ofNat 2))) (.int (iI ((wdT.getD 23 []).getD 2 0))) ∈ flatC (Jvm.Cond.and given_1 narrow_1) := by decide +kernel
theorem tx_el_23_3 : Cond.eq (.elem (.field (txT 23) "java/lang/String" "value" "[B") (.int (Int32.ofNat 3))) (.int (iI ((wdT.getD 23 []).getD 3 0))) ∈ flatC (Jvm.Cond.and given_1 narrow_1) := by decide +kernel
theorem tx_le_24 : Cond.eq (.length (.field (txT 24) "java/lang/String" "value" "[B")) (.int (Int32.ofNat (wdT.getD 24 []).length)) ∈ flatC (Jvm.Cond.and given_1 narrow_1) := by decide +kernel
theorem tx_el_24_0 : Cond.eq (.elem (.field (txT 24) "java/lang/String" "value" "[B") (.int (Int32.ofNat 0))) (.int (iI ((wdT.getD 24 []).getD 0 0))) ∈ flatC (Jvm.Cond.and given_1 narrow_1) := by decide +kernel
theorem tx_el_24_1 : Cond.eq (.elem (.field (txT 24) "java/lang/String" "value" "[B") (.int (Int32.ofNat 1))) (.int (iI ((wdT.getD 24 []).getD 1 0))) ∈ flatC (Jvm.Cond.and given_1 narrow_1) := by decide +kernel
theorem tx_el_24_2 : Cond.eq (.elem (.field (txT 24) "java/lang/String" "value" "[B") (.int (Int32.ofNat 2))) (.int (iI ((wdT.getD 24 []).getD 2 0))) ∈ flatC (Jvm.Cond.and given_1 narrow_1) := by decide +kernel
theorem tx_el_24_3 : Cond.eq (.elem (.field (txT 24) "java/lang/String" "value" "[B") (.int (Int32.ofNat 3))) (.int (iI ((wdT.getD 24 []).getD 3 0))) ∈ flatC (Jvm.Cond.and given_1 narrow_1) := by decide +kernel
theorem tx_le_25 : Cond.eq (.length (.field (txT 25) "java/lang/String" "value" "[B")) (.int (Int32.ofNat (wdT.getD 25 []).length)) ∈ flatC (Jvm.Cond.and given_1 narrow_1) := by decide +kernel
theorem tx_el_25_0 : Cond.eq (.elem (.field (txT 25) "java/lang/String" "value" "[B") (.int (Int32.ofNat 0))) (.int (iI ((wdT.getD 25 []).getD 0 0))) ∈ flatC (Jvm.Cond.and given_1 narrow_1) := by decide +kernel
theorem tx_el_25_1 : Cond.eq (.elem (.field (txT 25) "java/lang/String" "value" "[B") (.int (Int32.ofNat 1))) (.int (iI ((wdT.getD 25 []).getD 1 0))) ∈ flatC (Jvm.Cond.and given_1 narrow_1) := by decide +kernel
theorem tx_el_25_2 : Cond.eq (.elem (.field (txT 25) "java/lang/String" "value" "[B") (.int (Int32.ofNat 2))) (.int (iI ((wdT.getD 25 []).getD 2 0))) ∈ flatC (Jvm.Cond.and given_1 narrow_1) := by decide +kernel
theorem tx_le_26 : Cond.eq (.length (.field (txT 26) "java/lang/String" "value" "[B")) (.int (Int32.ofNat (wdT.getD 26 []).length)) ∈ flatC (Jvm.Cond.and given_1 narrow_1) := by decide +kernel
theorem tx_el_26_0 : Cond.eq (.elem (.field (txT 26) "java/lang/String" "value" "[B") (.int (Int32.ofNat 0))) (.int (iI ((wdT.getD 26 []).getD 0 0))) ∈ flatC (Jvm.Cond.and given_1 narrow_1) := by decide +kernel
theorem tx_el_26_1 : Cond.eq (.elem (.field (txT 26) "java/lang/String" "value" "[B") (.int (Int32.ofNat 1))) (.int (iI ((wdT.getD 26 []).getD 1 0))) ∈ flatC (Jvm.Cond.and given_1 narrow_1) := by decide +kernel
theorem tx_el_26_2 : Cond.eq (.elem (.field (txT 26) "java/lang/String" "value" "[B") (.int (Int32.ofNat 2))) (.int (iI ((wdT.getD 26 []).getD 2 0))) ∈ flatC (Jvm.Cond.and given_1 narrow_1) := by decide +kernel
theorem tx_le_27 : Cond.eq (.length (.field (txT 27) "java/lang/String" "value" "[B")) (.int (Int32.ofNat (wdT.getD 27 []).length)) ∈ flatC (Jvm.Cond.and given_1 narrow_1) := by decide +kernel
theorem tx_el_27_0 : Cond.eq (.elem (.field (txT 27) "java/lang/String" "value" "[B") (.int (Int32.ofNat 0))) (.int (iI ((wdT.getD 27 []).getD 0 0))) ∈ flatC (Jvm.Cond.and given_1 narrow_1) := by decide +kernel
theorem tx_el_27_1 : Cond.eq (.elem (.field (txT 27) "java/lang/String" "value" "[B") (.int (Int32.ofNat 1))) (.int (iI ((wdT.getD 27 []).getD 1 0))) ∈ flatC (Jvm.Cond.and given_1 narrow_1) := by decide +kernel
theorem tx_el_27_2 : Cond.eq (.elem (.field (txT 27) "java/lang/String" "value" "[B") (.int (Int32.ofNat 2))) (.int (iI ((wdT.getD 27 []).getD 2 0))) ∈ flatC (Jvm.Cond.and given_1 narrow_1) := by decide +kernel
theorem tx_el_27_3 : Cond.eq (.elem (.field (txT 27) "java/lang/String" "value" "[B") (.int (Int32.ofNat 3))) (.int (iI ((wdT.getD 27 []).getD 3 0))) ∈ flatC (Jvm.Cond.and given_1 narrow_1) := by decide +kernel
theorem tx_el_27_4 : Cond.eq (.elem (.field (txT 27) "java/lang/String" "value" "[B") (.int (Int32.ofNat 4))) (.int (iI ((wdT.getD 27 []).getD 4 0))) ∈ flatC (Jvm.Cond.and given_1 narrow_1) := by decide +kernel
theorem tx_el_27_5 : Cond.eq (.elem (.field (txT 27) "java/lang/String" "value" "[B") (.int (Int32.ofNat 5))) (.int (iI ((wdT.getD 27 []).getD 5 0))) ∈ flatC (Jvm.Cond.and given_1 narrow_1) := by decide +kernel
theorem tx_le_28 : Cond.eq (.length (.field (txT 28) "java/lang/String" "value" "[B")) (.int (Int32.ofNat (wdT.getD 28 []).length)) ∈ flatC (Jvm.Cond.and given_1 narrow_1) := by decide +kernel
theorem tx_le_29 : Cond.eq (.length (.field (txT 29) "java/lang/String" "value" "[B")) (.int (Int32.ofNat (wdT.getD 29 []).length)) ∈ flatC (Jvm.Cond.and given_1 narrow_1) := by decide +kernel
theorem tx_el_29_0 : Cond.eq (.elem (.field (txT 29) "java/lang/String" "value" "[B") (.int (Int32.ofNat 0))) (.int (iI ((wdT.getD 29 []).getD 0 0))) ∈ flatC (Jvm.Cond.and given_1 narrow_1) := by decide +kernel
theorem tx_el_29_1 : Cond.eq (.elem (.field (txT 29) "java/lang/String" "value" "[B") (.int (Int32.ofNat 1))) (.int (iI ((wdT.getD 29 []).getD 1 0))) ∈ flatC (Jvm.Cond.and given_1 narrow_1) := by decide +kernel
theorem tx_el_29_2 : Cond.eq (.elem (.field (txT 29) "java/lang/String" "value" "[B") (.int (Int32.ofNat 2))) (.int (iI ((wdT.getD 29 []).getD 2 0))) ∈ flatC (Jvm.Cond.and given_1 narrow_1) := by decide +kernel
theorem tx_el_29_3 : Cond.eq (.elem (.field (txT 29) "java/lang/String" "value" "[B") (.int (Int32.ofNat 3))) (.int (iI ((wdT.getD 29 []).getD 3 0))) ∈ flatC (Jvm.Cond.and given_1 narrow_1) := by decide +kernel
theorem tx_le_30 : Cond.eq (.length (.field (txT 30) "java/lang/String" "value" "[B")) (.int (Int32.ofNat (wdT.getD 30 []).length)) ∈ flatC (Jvm.Cond.and given_1 narrow_1) := by decide +kernel
theorem tx_el_30_0 : Cond.eq (.elem (.field (txT 30) "java/lang/String" "value" "[B") (.int (Int32.ofNat 0))) (.int (iI ((wdT.getD 30 []).getD 0 0))) ∈ flatC (Jvm.Cond.and given_1 narrow_1) := by decide +kernel
theorem tx_el_30_1 : Cond.eq (.elem (.field (txT 30) "java/lang/String" "value" "[B") (.int (Int32.ofNat 1))) (.int (iI ((wdT.getD 30 []).getD 1 0))) ∈ flatC (Jvm.Cond.and given_1 narrow_1) := by decide +kernel
theorem tx_el_30_2 : Cond.eq (.elem (.field (txT 30) "java/lang/String" "value" "[B") (.int (Int32.ofNat 2))) (.int (iI ((wdT.getD 30 []).getD 2 0))) ∈ flatC (Jvm.Cond.and given_1 narrow_1) := by decide +kernel
theorem tx_el_30_3 : Cond.eq (.elem (.field (txT 30) "java/lang/String" "value" "[B") (.int (Int32.ofNat 3))) (.int (iI ((wdT.getD 30 []).getD 3 0))) ∈ flatC (Jvm.Cond.and given_1 narrow_1) := by decide +kernel
theorem tx_le_31 : Cond.eq (.length (.field (txT 31) "java/lang/String" "value" "[B")) (.int (Int32.ofNat (wdT.getD 31 []).length)) ∈ flatC (Jvm.Cond.and given_1 narrow_1) := by decide +kernel
theorem tx_el_31_0 : Cond.eq (.elem (.field (txT 31) "java/lang/String" "value" "[B") (.int (Int32.ofNat 0))) (.int (iI ((wdT.getD 31 []).getD 0 0))) ∈ flatC (Jvm.Cond.and given_1 narrow_1) := by decide +kernel
theorem tx_el_31_1 : Cond.eq (.elem (.field (txT 31) "java/lang/String" "value" "[B") (.int (Int32.ofNat 1))) (.int (iI ((wdT.getD 31 []).getD 1 0))) ∈ flatC (Jvm.Cond.and given_1 narrow_1) := by decide +kernel
theorem tx_el_31_2 : Cond.eq (.elem (.field (txT 31) "java/lang/String" "value" "[B") (.int (Int32.ofNat 2))) (.int (iI ((wdT.getD 31 []).getD 2 0))) ∈ flatC (Jvm.Cond.and given_1 narrow_1) := by decide +kernel
theorem tx_el_31_3 : Cond.eq (.elem (.field (txT 31) "java/lang/String" "value" "[B") (.int (Int32.ofNat 3))) (.int (iI ((wdT.getD 31 []).getD 3 0))) ∈ flatC (Jvm.Cond.and given_1 narrow_1) := by decide +kernel
theorem tx_el_31_4 : Cond.eq (.elem (.field (txT 31) "java/lang/String" "value" "[B") (.int (Int32.ofNat 4))) (.int (iI ((wdT.getD 31 []).getD 4 0))) ∈ flatC (Jvm.Cond.and given_1 narrow_1) := by decide +kernel
theorem tx_le_32 : Cond.eq (.length (.field (txT 32) "java/lang/String" "value" "[B")) (.int (Int32.ofNat (wdT.getD 32 []).length)) ∈ flatC (Jvm.Cond.and given_1 narrow_1) := by decide +kernel
theorem tx_el_32_0 : Cond.eq (.elem (.field (txT 32) "java/lang/String" "value" "[B") (.int (Int32.ofNat 0))) (.int (iI ((wdT.getD 32 []).getD 0 0))) ∈ flatC (Jvm.Cond.and given_1 narrow_1) := by decide +kernel
theorem tx_el_32_1 : Cond.eq (.elem (.field (txT 32) "java/lang/String" "value" "[B") (.int (Int32.ofNat 1))) (.int (iI ((wdT.getD 32 []).getD 1 0))) ∈ flatC (Jvm.Cond.and given_1 narrow_1) := by decide +kernel
theorem tx_el_32_2 : Cond.eq (.elem (.field (txT 32) "java/lang/String" "value" "[B") (.int (Int32.ofNat 2))) (.int (iI ((wdT.getD 32 []).getD 2 0))) ∈ flatC (Jvm.Cond.and given_1 narrow_1) := by decide +kernel
theorem tx_el_32_3 : Cond.eq (.elem (.field (txT 32) "java/lang/String" "value" "[B") (.int (Int32.ofNat 3))) (.int (iI ((wdT.getD 32 []).getD 3 0))) ∈ flatC (Jvm.Cond.and given_1 narrow_1) := by decide +kernel
theorem tx_el_32_4 : Cond.eq (.elem (.field (txT 32) "java/lang/String" "value" "[B") (.int (Int32.ofNat 4))) (.int (iI ((wdT.getD 32 []).getD 4 0))) ∈ flatC (Jvm.Cond.and given_1 narrow_1) := by decide +kernel
theorem tx_el_32_5 : Cond.eq (.elem (.field (txT 32) "java/lang/String" "value" "[B") (.int (Int32.ofNat 5))) (.int (iI ((wdT.getD 32 []).getD 5 0))) ∈ flatC (Jvm.Cond.and given_1 narrow_1) := by decide +kernel
theorem tx_le_33 : Cond.eq (.length (.field (txT 33) "java/lang/String" "value" "[B")) (.int (Int32.ofNat (wdT.getD 33 []).length)) ∈ flatC (Jvm.Cond.and given_1 narrow_1) := by decide +kernel
theorem tx_el_33_0 : Cond.eq (.elem (.field (txT 33) "java/lang/String" "value" "[B") (.int (Int32.ofNat 0))) (.int (iI ((wdT.getD 33 []).getD 0 0))) ∈ flatC (Jvm.Cond.and given_1 narrow_1) := by decide +kernel
theorem tx_el_33_1 : Cond.eq (.elem (.field (txT 33) "java/lang/String" "value" "[B") (.int (Int32.ofNat 1))) (.int (iI ((wdT.getD 33 []).getD 1 0))) ∈ flatC (Jvm.Cond.and given_1 narrow_1) := by decide +kernel
theorem tx_el_33_2 : Cond.eq (.elem (.field (txT 33) "java/lang/String" "value" "[B") (.int (Int32.ofNat 2))) (.int (iI ((wdT.getD 33 []).getD 2 0))) ∈ flatC (Jvm.Cond.and given_1 narrow_1) := by decide +kernel
theorem tx_el_33_3 : Cond.eq (.elem (.field (txT 33) "java/lang/String" "value" "[B") (.int (Int32.ofNat 3))) (.int (iI ((wdT.getD 33 []).getD 3 0))) ∈ flatC (Jvm.Cond.and given_1 narrow_1) := by decide +kernel
theorem tx_el_33_4 : Cond.eq (.elem (.field (txT 33) "java/lang/String" "value" "[B") (.int (Int32.ofNat 4))) (.int (iI ((wdT.getD 33 []).getD 4 0))) ∈ flatC (Jvm.Cond.and given_1 narrow_1) := by decide +kernel
theorem tx_el_33_5 : Cond.eq (.elem (.field (txT 33) "java/lang/String" "value" "[B") (.int (Int32.ofNat 5))) (.int (iI ((wdT.getD 33 []).getD 5 0))) ∈ flatC (Jvm.Cond.and given_1 narrow_1) := by decide +kernel
theorem tx_el_33_6 : Cond.eq (.elem (.field (txT 33) "java/lang/String" "value" "[B") (.int (Int32.ofNat 6))) (.int (iI ((wdT.getD 33 []).getD 6 0))) ∈ flatC (Jvm.Cond.and given_1 narrow_1) := by decide +kernel
theorem tx_le_34 : Cond.eq (.length (.field (txT 34) "java/lang/String" "value" "[B")) (.int (Int32.ofNat (wdT.getD 34 []).length)) ∈ flatC (Jvm.Cond.and given_1 narrow_1) := by decide +kernel
theorem tx_el_34_0 : Cond.eq (.elem (.field (txT 34) "java/lang/String" "value" "[B") (.int (Int32.ofNat 0))) (.int (iI ((wdT.getD 34 []).getD 0 0))) ∈ flatC (Jvm.Cond.and given_1 narrow_1) := by decide +kernel
theorem tx_el_34_1 : Cond.eq (.elem (.field (txT 34) "java/lang/String" "value" "[B") (.int (Int32.ofNat 1))) (.int (iI ((wdT.getD 34 []).getD 1 0))) ∈ flatC (Jvm.Cond.and given_1 narrow_1) := by decide +kernel
theorem tx_el_34_2 : Cond.eq (.elem (.field (txT 34) "java/lang/String" "value" "[B") (.int (Int32.ofNat 2))) (.int (iI ((wdT.getD 34 []).getD 2 0))) ∈ flatC (Jvm.Cond.and given_1 narrow_1) := by decide +kernel
theorem tx_el_34_3 : Cond.eq (.elem (.field (txT 34) "java/lang/String" "value" "[B") (.int (Int32.ofNat 3))) (.int (iI ((wdT.getD 34 []).getD 3 0))) ∈ flatC (Jvm.Cond.and given_1 narrow_1) := by decide +kernel
theorem tx_el_34_4 : Cond.eq (.elem (.field (txT 34) "java/lang/String" "value" "[B") (.int (Int32.ofNat 4))) (.int (iI ((wdT.getD 34 []).getD 4 0))) ∈ flatC (Jvm.Cond.and given_1 narrow_1) := by decide +kernel
theorem tx_le_35 : Cond.eq (.length (.field (txT 35) "java/lang/String" "value" "[B")) (.int (Int32.ofNat (wdT.getD 35 []).length)) ∈ flatC (Jvm.Cond.and given_1 narrow_1) := by decide +kernel
theorem tx_el_35_0 : Cond.eq (.elem (.field (txT 35) "java/lang/String" "value" "[B") (.int (Int32.ofNat 0))) (.int (iI ((wdT.getD 35 []).getD 0 0))) ∈ flatC (Jvm.Cond.and given_1 narrow_1) := by decide +kernel
theorem tx_el_35_1 : Cond.eq (.elem (.field (txT 35) "java/lang/String" "value" "[B") (.int (Int32.ofNat 1))) (.int (iI ((wdT.getD 35 []).getD 1 0))) ∈ flatC (Jvm.Cond.and given_1 narrow_1) := by decide +kernel
theorem tx_el_35_2 : Cond.eq (.elem (.field (txT 35) "java/lang/String" "value" "[B") (.int (Int32.ofNat 2))) (.int (iI ((wdT.getD 35 []).getD 2 0))) ∈ flatC (Jvm.Cond.and given_1 narrow_1) := by decide +kernel
theorem tx_el_35_3 : Cond.eq (.elem (.field (txT 35) "java/lang/String" "value" "[B") (.int (Int32.ofNat 3))) (.int (iI ((wdT.getD 35 []).getD 3 0))) ∈ flatC (Jvm.Cond.and given_1 narrow_1) := by decide +kernel
theorem tx_el_35_4 : Cond.eq (.elem (.field (txT 35) "java/lang/String" "value" "[B") (.int (Int32.ofNat 4))) (.int (iI ((wdT.getD 35 []).getD 4 0))) ∈ flatC (Jvm.Cond.and given_1 narrow_1) := by decide +kernel
theorem tx_le_36 : Cond.eq (.length (.field (txT 36) "java/lang/String" "value" "[B")) (.int (Int32.ofNat (wdT.getD 36 []).length)) ∈ flatC (Jvm.Cond.and given_1 narrow_1) := by decide +kernel
theorem tx_el_36_0 : Cond.eq (.elem (.field (txT 36) "java/lang/String" "value" "[B") (.int (Int32.ofNat 0))) (.int (iI ((wdT.getD 36 []).getD 0 0))) ∈ flatC (Jvm.Cond.and given_1 narrow_1) := by decide +kernel
theorem tx_el_36_1 : Cond.eq (.elem (.field (txT 36) "java/lang/String" "value" "[B") (.int (Int32.ofNat 1))) (.int (iI ((wdT.getD 36 []).getD 1 0))) ∈ flatC (Jvm.Cond.and given_1 narrow_1) := by decide +kernel
theorem tx_el_36_2 : Cond.eq (.elem (.field (txT 36) "java/lang/String" "value" "[B") (.int (Int32.ofNat 2))) (.int (iI ((wdT.getD 36 []).getD 2 0))) ∈ flatC (Jvm.Cond.and given_1 narrow_1) := by decide +kernel
theorem tx_el_36_3 : Cond.eq (.elem (.field (txT 36) "java/lang/String" "value" "[B") (.int (Int32.ofNat 3))) (.int (iI ((wdT.getD 36 []).getD 3 0))) ∈ flatC (Jvm.Cond.and given_1 narrow_1) := by decide +kernel
theorem tx_el_36_4 : Cond.eq (.elem (.field (txT 36) "java/lang/String" "value" "[B") (.int (Int32.ofNat 4))) (.int (iI ((wdT.getD 36 []).getD 4 0))) ∈ flatC (Jvm.Cond.and given_1 narrow_1) := by decide +kernel
theorem tx_le_37 : Cond.eq (.length (.field (txT 37) "java/lang/String" "value" "[B")) (.int (Int32.ofNat (wdT.getD 37 []).length)) ∈ flatC (Jvm.Cond.and given_1 narrow_1) := by decide +kernel
theorem tx_el_37_0 : Cond.eq (.elem (.field (txT 37) "java/lang/String" "value" "[B") (.int (Int32.ofNat 0))) (.int (iI ((wdT.getD 37 []).getD 0 0))) ∈ flatC (Jvm.Cond.and given_1 narrow_1) := by decide +kernel
theorem tx_el_37_1 : Cond.eq (.elem (.field (txT 37) "java/lang/String" "value" "[B") (.int (Int32.ofNat 1))) (.int (iI ((wdT.getD 37 []).getD 1 0))) ∈ flatC (Jvm.Cond.and given_1 narrow_1) := by decide +kernel
theorem tx_el_37_2 : Cond.eq (.elem (.field (txT 37) "java/lang/String" "value" "[B") (.int (Int32.ofNat 2))) (.int (iI ((wdT.getD 37 []).getD 2 0))) ∈ flatC (Jvm.Cond.and given_1 narrow_1) := by decide +kernel
theorem tx_el_37_3 : Cond.eq (.elem (.field (txT 37) "java/lang/String" "value" "[B") (.int (Int32.ofNat 3))) (.int (iI ((wdT.getD 37 []).getD 3 0))) ∈ flatC (Jvm.Cond.and given_1 narrow_1) := by decide +kernel
theorem tx_le_38 : Cond.eq (.length (.field (txT 38) "java/lang/String" "value" "[B")) (.int (Int32.ofNat (wdT.getD 38 []).length)) ∈ flatC (Jvm.Cond.and given_1 narrow_1) := by decide +kernel
theorem tx_el_38_0 : Cond.eq (.elem (.field (txT 38) "java/lang/String" "value" "[B") (.int (Int32.ofNat 0))) (.int (iI ((wdT.getD 38 []).getD 0 0))) ∈ flatC (Jvm.Cond.and given_1 narrow_1) := by decide +kernel
theorem tx_el_38_1 : Cond.eq (.elem (.field (txT 38) "java/lang/String" "value" "[B") (.int (Int32.ofNat 1))) (.int (iI ((wdT.getD 38 []).getD 1 0))) ∈ flatC (Jvm.Cond.and given_1 narrow_1) := by decide +kernel
theorem tx_el_38_2 : Cond.eq (.elem (.field (txT 38) "java/lang/String" "value" "[B") (.int (Int32.ofNat 2))) (.int (iI ((wdT.getD 38 []).getD 2 0))) ∈ flatC (Jvm.Cond.and given_1 narrow_1) := by decide +kernel
theorem tx_el_38_3 : Cond.eq (.elem (.field (txT 38) "java/lang/String" "value" "[B") (.int (Int32.ofNat 3))) (.int (iI ((wdT.getD 38 []).getD 3 0))) ∈ flatC (Jvm.Cond.and given_1 narrow_1) := by decide +kernel
theorem tx_le_39 : Cond.eq (.length (.field (txT 39) "java/lang/String" "value" "[B")) (.int (Int32.ofNat (wdT.getD 39 []).length)) ∈ flatC (Jvm.Cond.and given_1 narrow_1) := by decide +kernel
theorem tx_el_39_0 : Cond.eq (.elem (.field (txT 39) "java/lang/String" "value" "[B") (.int (Int32.ofNat 0))) (.int (iI ((wdT.getD 39 []).getD 0 0))) ∈ flatC (Jvm.Cond.and given_1 narrow_1) := by decide +kernel
theorem tx_el_39_1 : Cond.eq (.elem (.field (txT 39) "java/lang/String" "value" "[B") (.int (Int32.ofNat 1))) (.int (iI ((wdT.getD 39 []).getD 1 0))) ∈ flatC (Jvm.Cond.and given_1 narrow_1) := by decide +kernel
theorem tx_el_39_2 : Cond.eq (.elem (.field (txT 39) "java/lang/String" "value" "[B") (.int (Int32.ofNat 2))) (.int (iI ((wdT.getD 39 []).getD 2 0))) ∈ flatC (Jvm.Cond.and given_1 narrow_1) := by decide +kernel
theorem tx_el_39_3 : Cond.eq (.elem (.field (txT 39) "java/lang/String" "value" "[B") (.int (Int32.ofNat 3))) (.int (iI ((wdT.getD 39 []).getD 3 0))) ∈ flatC (Jvm.Cond.and given_1 narrow_1) := by decide +kernel
theorem tx_el_39_4 : Cond.eq (.elem (.field (txT 39) "java/lang/String" "value" "[B") (.int (Int32.ofNat 4))) (.int (iI ((wdT.getD 39 []).getD 4 0))) ∈ flatC (Jvm.Cond.and given_1 narrow_1) := by decide +kernel
theorem tx_le_40 : Cond.eq (.length (.field (txT 40) "java/lang/String" "value" "[B")) (.int (Int32.ofNat (wdT.getD 40 []).length)) ∈ flatC (Jvm.Cond.and given_1 narrow_1) := by decide +kernel
theorem tx_el_40_0 : Cond.eq (.elem (.field (txT 40) "java/lang/String" "value" "[B") (.int (Int32.ofNat 0))) (.int (iI ((wdT.getD 40 []).getD 0 0))) ∈ flatC (Jvm.Cond.and given_1 narrow_1) := by decide +kernel
theorem tx_el_40_1 : Cond.eq (.elem (.field (txT 40) "java/lang/String" "value" "[B") (.int (Int32.ofNat 1))) (.int (iI ((wdT.getD 40 []).getD 1 0))) ∈ flatC (Jvm.Cond.and given_1 narrow_1) := by decide +kernel
theorem tx_el_40_2 : Cond.eq (.elem (.field (txT 40) "java/lang/String" "value" "[B") (.int (Int32.ofNat 2))) (.int (iI ((wdT.getD 40 []).getD 2 0))) ∈ flatC (Jvm.Cond.and given_1 narrow_1) := by decide +kernel
theorem tx_el_40_3 : Cond.eq (.elem (.field (txT 40) "java/lang/String" "value" "[B") (.int (Int32.ofNat 3))) (.int (iI ((wdT.getD 40 []).getD 3 0))) ∈ flatC (Jvm.Cond.and given_1 narrow_1) := by decide +kernel
theorem tx_el_40_4 : Cond.eq (.elem (.field (txT 40) "java/lang/String" "value" "[B") (.int (Int32.ofNat 4))) (.int (iI ((wdT.getD 40 []).getD 4 0))) ∈ flatC (Jvm.Cond.and given_1 narrow_1) := by decide +kernel
theorem tx_le_41 : Cond.eq (.length (.field (txT 41) "java/lang/String" "value" "[B")) (.int (Int32.ofNat (wdT.getD 41 []).length)) ∈ flatC (Jvm.Cond.and given_1 narrow_1) := by decide +kernel
theorem tx_el_41_0 : Cond.eq (.elem (.field (txT 41) "java/lang/String" "value" "[B") (.int (Int32.ofNat 0))) (.int (iI ((wdT.getD 41 []).getD 0 0))) ∈ flatC (Jvm.Cond.and given_1 narrow_1) := by decide +kernel
theorem tx_el_41_1 : Cond.eq (.elem (.field (txT 41) "java/lang/String" "value" "[B") (.int (Int32.ofNat 1))) (.int (iI ((wdT.getD 41 []).getD 1 0))) ∈ flatC (Jvm.Cond.and given_1 narrow_1) := by decide +kernel
theorem tx_el_41_2 : Cond.eq (.elem (.field (txT 41) "java/lang/String" "value" "[B") (.int (Int32.ofNat 2))) (.int (iI ((wdT.getD 41 []).getD 2 0))) ∈ flatC (Jvm.Cond.and given_1 narrow_1) := by decide +kernel
theorem tx_le_42 : Cond.eq (.length (.field (txT 42) "java/lang/String" "value" "[B")) (.int (Int32.ofNat (wdT.getD 42 []).length)) ∈ flatC (Jvm.Cond.and given_1 narrow_1) := by decide +kernel
theorem tx_el_42_0 : Cond.eq (.elem (.field (txT 42) "java/lang/String" "value" "[B") (.int (Int32.ofNat 0))) (.int (iI ((wdT.getD 42 []).getD 0 0))) ∈ flatC (Jvm.Cond.and given_1 narrow_1) := by decide +kernel
theorem tx_el_42_1 : Cond.eq (.elem (.field (txT 42) "java/lang/String" "value" "[B") (.int (Int32.ofNat 1))) (.int (iI ((wdT.getD 42 []).getD 1 0))) ∈ flatC (Jvm.Cond.and given_1 narrow_1) := by decide +kernel
theorem tx_el_42_2 : Cond.eq (.elem (.field (txT 42) "java/lang/String" "value" "[B") (.int (Int32.ofNat 2))) (.int (iI ((wdT.getD 42 []).getD 2 0))) ∈ flatC (Jvm.Cond.and given_1 narrow_1) := by decide +kernel
theorem tx_el_42_3 : Cond.eq (.elem (.field (txT 42) "java/lang/String" "value" "[B") (.int (Int32.ofNat 3))) (.int (iI ((wdT.getD 42 []).getD 3 0))) ∈ flatC (Jvm.Cond.and given_1 narrow_1) := by decide +kernel
theorem tx_le_43 : Cond.eq (.length (.field (txT 43) "java/lang/String" "value" "[B")) (.int (Int32.ofNat (wdT.getD 43 []).length)) ∈ flatC (Jvm.Cond.and given_1 narrow_1) := by decide +kernel
theorem tx_el_43_0 : Cond.eq (.elem (.field (txT 43) "java/lang/String" "value" "[B") (.int (Int32.ofNat 0))) (.int (iI ((wdT.getD 43 []).getD 0 0))) ∈ flatC (Jvm.Cond.and given_1 narrow_1) := by decide +kernel
theorem tx_el_43_1 : Cond.eq (.elem (.field (txT 43) "java/lang/String" "value" "[B") (.int (Int32.ofNat 1))) (.int (iI ((wdT.getD 43 []).getD 1 0))) ∈ flatC (Jvm.Cond.and given_1 narrow_1) := by decide +kernel
theorem tx_el_43_2 : Cond.eq (.elem (.field (txT 43) "java/lang/String" "value" "[B") (.int (Int32.ofNat 2))) (.int (iI ((wdT.getD 43 []).getD 2 0))) ∈ flatC (Jvm.Cond.and given_1 narrow_1) := by decide +kernel
theorem tx_le_44 : Cond.eq (.length (.field (txT 44) "java/lang/String" "value" "[B")) (.int (Int32.ofNat (wdT.getD 44 []).length)) ∈ flatC (Jvm.Cond.and given_1 narrow_1) := by decide +kernel
theorem tx_el_44_0 : Cond.eq (.elem (.field (txT 44) "java/lang/String" "value" "[B") (.int (Int32.ofNat 0))) (.int (iI ((wdT.getD 44 []).getD 0 0))) ∈ flatC (Jvm.Cond.and given_1 narrow_1) := by decide +kernel
theorem tx_el_44_1 : Cond.eq (.elem (.field (txT 44) "java/lang/String" "value" "[B") (.int (Int32.ofNat 1))) (.int (iI ((wdT.getD 44 []).getD 1 0))) ∈ flatC (Jvm.Cond.and given_1 narrow_1) := by decide +kernel
theorem tx_le_45 : Cond.eq (.length (.field (txT 45) "java/lang/String" "value" "[B")) (.int (Int32.ofNat (wdT.getD 45 []).length)) ∈ flatC (Jvm.Cond.and given_1 narrow_1) := by decide +kernel
theorem tx_el_45_0 : Cond.eq (.elem (.field (txT 45) "java/lang/String" "value" "[B") (.int (Int32.ofNat 0))) (.int (iI ((wdT.getD 45 []).getD 0 0))) ∈ flatC (Jvm.Cond.and given_1 narrow_1) := by decide +kernel
theorem tx_el_45_1 : Cond.eq (.elem (.field (txT 45) "java/lang/String" "value" "[B") (.int (Int32.ofNat 1))) (.int (iI ((wdT.getD 45 []).getD 1 0))) ∈ flatC (Jvm.Cond.and given_1 narrow_1) := by decide +kernel
theorem tx_el_45_2 : Cond.eq (.elem (.field (txT 45) "java/lang/String" "value" "[B") (.int (Int32.ofNat 2))) (.int (iI ((wdT.getD 45 []).getD 2 0))) ∈ flatC (Jvm.Cond.and given_1 narrow_1) := by decide +kernel
theorem tx_el_45_3 : Cond.eq (.elem (.field (txT 45) "java/lang/String" "value" "[B") (.int (Int32.ofNat 3))) (.int (iI ((wdT.getD 45 []).getD 3 0))) ∈ flatC (Jvm.Cond.and given_1 narrow_1) := by decide +kernel
theorem tx_le_46 : Cond.eq (.length (.field (txT 46) "java/lang/String" "value" "[B")) (.int (Int32.ofNat (wdT.getD 46 []).length)) ∈ flatC (Jvm.Cond.and given_1 narrow_1) := by decide +kernel
theorem tx_el_46_0 : Cond.eq (.elem (.field (txT 46) "java/lang/String" "value" "[B") (.int (Int32.ofNat 0))) (.int (iI ((wdT.getD 46 []).getD 0 0))) ∈ flatC (Jvm.Cond.and given_1 narrow_1) := by decide +kernel
theorem tx_el_46_1 : Cond.eq (.elem (.field (txT 46) "java/lang/String" "value" "[B") (.int (Int32.ofNat 1))) (.int (iI ((wdT.getD 46 []).getD 1 0))) ∈ flatC (Jvm.Cond.and given_1 narrow_1) := by decide +kernel
theorem tx_el_46_2 : Cond.eq (.elem (.field (txT 46) "java/lang/String" "value" "[B") (.int (Int32.ofNat 2))) (.int (iI ((wdT.getD 46 []).getD 2 0))) ∈ flatC (Jvm.Cond.and given_1 narrow_1) := by decide +kernel
theorem tx_el_46_3 : Cond.eq (.elem (.field (txT 46) "java/lang/String" "value" "[B") (.int (Int32.ofNat 3))) (.int (iI ((wdT.getD 46 []).getD 3 0))) ∈ flatC (Jvm.Cond.and given_1 narrow_1) := by decide +kernel
theorem tx_le_47 : Cond.eq (.length (.field (txT 47) "java/lang/String" "value" "[B")) (.int (Int32.ofNat (wdT.getD 47 []).length)) ∈ flatC (Jvm.Cond.and given_1 narrow_1) := by decide +kernel
theorem tx_el_47_0 : Cond.eq (.elem (.field (txT 47) "java/lang/String" "value" "[B") (.int (Int32.ofNat 0))) (.int (iI ((wdT.getD 47 []).getD 0 0))) ∈ flatC (Jvm.Cond.and given_1 narrow_1) := by decide +kernel
theorem tx_el_47_1 : Cond.eq (.elem (.field (txT 47) "java/lang/String" "value" "[B") (.int (Int32.ofNat 1))) (.int (iI ((wdT.getD 47 []).getD 1 0))) ∈ flatC (Jvm.Cond.and given_1 narrow_1) := by decide +kernel
theorem tx_le_48 : Cond.eq (.length (.field (txT 48) "java/lang/String" "value" "[B")) (.int (Int32.ofNat (wdT.getD 48 []).length)) ∈ flatC (Jvm.Cond.and given_1 narrow_1) := by decide +kernel
theorem tx_el_48_0 : Cond.eq (.elem (.field (txT 48) "java/lang/String" "value" "[B") (.int (Int32.ofNat 0))) (.int (iI ((wdT.getD 48 []).getD 0 0))) ∈ flatC (Jvm.Cond.and given_1 narrow_1) := by decide +kernel
theorem tx_el_48_1 : Cond.eq (.elem (.field (txT 48) "java/lang/String" "value" "[B") (.int (Int32.ofNat 1))) (.int (iI ((wdT.getD 48 []).getD 1 0))) ∈ flatC (Jvm.Cond.and given_1 narrow_1) := by decide +kernel
theorem tx_el_48_2 : Cond.eq (.elem (.field (txT 48) "java/lang/String" "value" "[B") (.int (Int32.ofNat 2))) (.int (iI ((wdT.getD 48 []).getD 2 0))) ∈ flatC (Jvm.Cond.and given_1 narrow_1) := by decide +kernel
theorem tx_le_49 : Cond.eq (.length (.field (txT 49) "java/lang/String" "value" "[B")) (.int (Int32.ofNat (wdT.getD 49 []).length)) ∈ flatC (Jvm.Cond.and given_1 narrow_1) := by decide +kernel
theorem tx_el_49_0 : Cond.eq (.elem (.field (txT 49) "java/lang/String" "value" "[B") (.int (Int32.ofNat 0))) (.int (iI ((wdT.getD 49 []).getD 0 0))) ∈ flatC (Jvm.Cond.and given_1 narrow_1) := by decide +kernel
theorem tx_el_49_1 : Cond.eq (.elem (.field (txT 49) "java/lang/String" "value" "[B") (.int (Int32.ofNat 1))) (.int (iI ((wdT.getD 49 []).getD 1 0))) ∈ flatC (Jvm.Cond.and given_1 narrow_1) := by decide +kernel
theorem tx_el_49_2 : Cond.eq (.elem (.field (txT 49) "java/lang/String" "value" "[B") (.int (Int32.ofNat 2))) (.int (iI ((wdT.getD 49 []).getD 2 0))) ∈ flatC (Jvm.Cond.and given_1 narrow_1) := by decide +kernel
theorem tx_le_50 : Cond.eq (.length (.field (txT 50) "java/lang/String" "value" "[B")) (.int (Int32.ofNat (wdT.getD 50 []).length)) ∈ flatC (Jvm.Cond.and given_1 narrow_1) := by decide +kernel
theorem tx_el_50_0 : Cond.eq (.elem (.field (txT 50) "java/lang/String" "value" "[B") (.int (Int32.ofNat 0))) (.int (iI ((wdT.getD 50 []).getD 0 0))) ∈ flatC (Jvm.Cond.and given_1 narrow_1) := by decide +kernel
theorem tx_el_50_1 : Cond.eq (.elem (.field (txT 50) "java/lang/String" "value" "[B") (.int (Int32.ofNat 1))) (.int (iI ((wdT.getD 50 []).getD 1 0))) ∈ flatC (Jvm.Cond.and given_1 narrow_1) := by decide +kernel
theorem tx_el_50_2 : Cond.eq (.elem (.field (txT 50) "java/lang/String" "value" "[B") (.int (Int32.ofNat 2))) (.int (iI ((wdT.getD 50 []).getD 2 0))) ∈ flatC (Jvm.Cond.and given_1 narrow_1) := by decide +kernel
theorem tx_el_50_3 : Cond.eq (.elem (.field (txT 50) "java/lang/String" "value" "[B") (.int (Int32.ofNat 3))) (.int (iI ((wdT.getD 50 []).getD 3 0))) ∈ flatC (Jvm.Cond.and given_1 narrow_1) := by decide +kernel
theorem tx_el_50_4 : Cond.eq (.elem (.field (txT 50) "java/lang/String" "value" "[B") (.int (Int32.ofNat 4))) (.int (iI ((wdT.getD 50 []).getD 4 0))) ∈ flatC (Jvm.Cond.and given_1 narrow_1) := by decide +kernel
theorem tx_le_51 : Cond.eq (.length (.field (txT 51) "java/lang/String" "value" "[B")) (.int (Int32.ofNat (wdT.getD 51 []).length)) ∈ flatC (Jvm.Cond.and given_1 narrow_1) := by decide +kernel
theorem tx_el_51_0 : Cond.eq (.elem (.field (txT 51) "java/lang/String" "value" "[B") (.int (Int32.ofNat 0))) (.int (iI ((wdT.getD 51 []).getD 0 0))) ∈ flatC (Jvm.Cond.and given_1 narrow_1) := by decide +kernel
theorem tx_el_51_1 : Cond.eq (.elem (.field (txT 51) "java/lang/String" "value" "[B") (.int (Int32.ofNat 1))) (.int (iI ((wdT.getD 51 []).getD 1 0))) ∈ flatC (Jvm.Cond.and given_1 narrow_1) := by decide +kernel
theorem tx_el_51_2 : Cond.eq (.elem (.field (txT 51) "java/lang/String" "value" "[B") (.int (Int32.ofNat 2))) (.int (iI ((wdT.getD 51 []).getD 2 0))) ∈ flatC (Jvm.Cond.and given_1 narrow_1) := by decide +kernel
theorem tx_el_51_3 : Cond.eq (.elem (.field (txT 51) "java/lang/String" "value" "[B") (.int (Int32.ofNat 3))) (.int (iI ((wdT.getD 51 []).getD 3 0))) ∈ flatC (Jvm.Cond.and given_1 narrow_1) := by decide +kernel
theorem tx_le_52 : Cond.eq (.length (.field (txT 52) "java/lang/String" "value" "[B")) (.int (Int32.ofNat (wdT.getD 52 []).length)) ∈ flatC (Jvm.Cond.and given_1 narrow_1) := by decide +kernel
theorem tx_el_52_0 : Cond.eq (.elem (.field (txT 52) "java/lang/String" "value" "[B") (.int (Int32.ofNat 0))) (.int (iI ((wdT.getD 52 []).getD 0 0))) ∈ flatC (Jvm.Cond.and given_1 narrow_1) := by decide +kernel
theorem tx_el_52_1 : Cond.eq (.elem (.field (txT 52) "java/lang/String" "value" "[B") (.int (Int32.ofNat 1))) (.int (iI ((wdT.getD 52 []).getD 1 0))) ∈ flatC (Jvm.Cond.and given_1 narrow_1) := by decide +kernel
theorem tx_el_52_2 : Cond.eq (.elem (.field (txT 52) "java/lang/String" "value" "[B") (.int (Int32.ofNat 2))) (.int (iI ((wdT.getD 52 []).getD 2 0))) ∈ flatC (Jvm.Cond.and given_1 narrow_1) := by decide +kernel
theorem tx_el_52_3 : Cond.eq (.elem (.field (txT 52) "java/lang/String" "value" "[B") (.int (Int32.ofNat 3))) (.int (iI ((wdT.getD 52 []).getD 3 0))) ∈ flatC (Jvm.Cond.and given_1 narrow_1) := by decide +kernel
theorem tx_le_53 : Cond.eq (.length (.field (txT 53) "java/lang/String" "value" "[B")) (.int (Int32.ofNat (wdT.getD 53 []).length)) ∈ flatC (Jvm.Cond.and given_1 narrow_1) := by decide +kernel
theorem tx_el_53_0 : Cond.eq (.elem (.field (txT 53) "java/lang/String" "value" "[B") (.int (Int32.ofNat 0))) (.int (iI ((wdT.getD 53 []).getD 0 0))) ∈ flatC (Jvm.Cond.and given_1 narrow_1) := by decide +kernel
theorem tx_el_53_1 : Cond.eq (.elem (.field (txT 53) "java/lang/String" "value" "[B") (.int (Int32.ofNat 1))) (.int (iI ((wdT.getD 53 []).getD 1 0))) ∈ flatC (Jvm.Cond.and given_1 narrow_1) := by decide +kernel
theorem tx_el_53_2 : Cond.eq (.elem (.field (txT 53) "java/lang/String" "value" "[B") (.int (Int32.ofNat 2))) (.int (iI ((wdT.getD 53 []).getD 2 0))) ∈ flatC (Jvm.Cond.and given_1 narrow_1) := by decide +kernel
theorem tx_le_54 : Cond.eq (.length (.field (txT 54) "java/lang/String" "value" "[B")) (.int (Int32.ofNat (wdT.getD 54 []).length)) ∈ flatC (Jvm.Cond.and given_1 narrow_1) := by decide +kernel
theorem tx_el_54_0 : Cond.eq (.elem (.field (txT 54) "java/lang/String" "value" "[B") (.int (Int32.ofNat 0))) (.int (iI ((wdT.getD 54 []).getD 0 0))) ∈ flatC (Jvm.Cond.and given_1 narrow_1) := by decide +kernel
theorem tx_el_54_1 : Cond.eq (.elem (.field (txT 54) "java/lang/String" "value" "[B") (.int (Int32.ofNat 1))) (.int (iI ((wdT.getD 54 []).getD 1 0))) ∈ flatC (Jvm.Cond.and given_1 narrow_1) := by decide +kernel
theorem tx_el_54_2 : Cond.eq (.elem (.field (txT 54) "java/lang/String" "value" "[B") (.int (Int32.ofNat 2))) (.int (iI ((wdT.getD 54 []).getD 2 0))) ∈ flatC (Jvm.Cond.and given_1 narrow_1) := by decide +kernel
theorem tx_le_55 : Cond.eq (.length (.field (txT 55) "java/lang/String" "value" "[B")) (.int (Int32.ofNat (wdT.getD 55 []).length)) ∈ flatC (Jvm.Cond.and given_1 narrow_1) := by decide +kernel
theorem tx_el_55_0 : Cond.eq (.elem (.field (txT 55) "java/lang/String" "value" "[B") (.int (Int32.ofNat 0))) (.int (iI ((wdT.getD 55 []).getD 0 0))) ∈ flatC (Jvm.Cond.and given_1 narrow_1) := by decide +kernel
theorem tx_el_55_1 : Cond.eq (.elem (.field (txT 55) "java/lang/String" "value" "[B") (.int (Int32.ofNat 1))) (.int (iI ((wdT.getD 55 []).getD 1 0))) ∈ flatC (Jvm.Cond.and given_1 narrow_1) := by decide +kernel
theorem tx_el_55_2 : Cond.eq (.elem (.field (txT 55) "java/lang/String" "value" "[B") (.int (Int32.ofNat 2))) (.int (iI ((wdT.getD 55 []).getD 2 0))) ∈ flatC (Jvm.Cond.and given_1 narrow_1) := by decide +kernel
theorem tx_el_55_3 : Cond.eq (.elem (.field (txT 55) "java/lang/String" "value" "[B") (.int (Int32.ofNat 3))) (.int (iI ((wdT.getD 55 []).getD 3 0))) ∈ flatC (Jvm.Cond.and given_1 narrow_1) := by decide +kernel
theorem tx_el_55_4 : Cond.eq (.elem (.field (txT 55) "java/lang/String" "value" "[B") (.int (Int32.ofNat 4))) (.int (iI ((wdT.getD 55 []).getD 4 0))) ∈ flatC (Jvm.Cond.and given_1 narrow_1) := by decide +kernel
theorem tx_el_55_5 : Cond.eq (.elem (.field (txT 55) "java/lang/String" "value" "[B") (.int (Int32.ofNat 5))) (.int (iI ((wdT.getD 55 []).getD 5 0))) ∈ flatC (Jvm.Cond.and given_1 narrow_1) := by decide +kernel
theorem tx_le : ∀ k : Nat, k < 56 → Cond.eq (.length (.field (txT k) "java/lang/String" "value" "[B")) (.int (Int32.ofNat (wdT.getD k []).length)) ∈ flatC (Jvm.Cond.and given_1 narrow_1) := by
  intro k hk
  match k, hk with
  | 0, _ => exact tx_le_0
  | 1, _ => exact tx_le_1
  | 2, _ => exact tx_le_2
  | 3, _ => exact tx_le_3
  | 4, _ => exact tx_le_4
  | 5, _ => exact tx_le_5
  | 6, _ => exact tx_le_6
  | 7, _ => exact tx_le_7
  | 8, _ => exact tx_le_8
  | 9, _ => exact tx_le_9
  | 10, _ => exact tx_le_10
  | 11, _ => exact tx_le_11
  | 12, _ => exact tx_le_12
  | 13, _ => exact tx_le_13
  | 14, _ => exact tx_le_14
  | 15, _ => exact tx_le_15
  | 16, _ => exact tx_le_16
  | 17, _ => exact tx_le_17
  | 18, _ => exact tx_le_18
  | 19, _ => exact tx_le_19
  | 20, _ => exact tx_le_20
  | 21, _ => exact tx_le_21
  | 22, _ => exact tx_le_22
  | 23, _ => exact tx_le_23
  | 24, _ => exact tx_le_24
  | 25, _ => exact tx_le_25
  | 26, _ => exact tx_le_26
  | 27, _ => exact tx_le_27
  | 28, _ => exact tx_le_28
  | 29, _ => exact tx_le_29
  | 30, _ => exact tx_le_30
  | 31, _ => exact tx_le_31
  | 32, _ => exact tx_le_32
  | 33, _ => exact tx_le_33
  | 34, _ => exact tx_le_34
  | 35, _ => exact tx_le_35
  | 36, _ => exact tx_le_36
  | 37, _ => exact tx_le_37
  | 38, _ => exact tx_le_38
  | 39, _ => exact tx_le_39
  | 40, _ => exact tx_le_40
  | 41, _ => exact tx_le_41
  | 42, _ => exact tx_le_42
  | 43, _ => exact tx_le_43
  | 44, _ => exact tx_le_44
  | 45, _ => exact tx_le_45
  | 46, _ => exact tx_le_46
  | 47, _ => exact tx_le_47
  | 48, _ => exact tx_le_48
  | 49, _ => exact tx_le_49
  | 50, _ => exact tx_le_50
  | 51, _ => exact tx_le_51
  | 52, _ => exact tx_le_52
  | 53, _ => exact tx_le_53
  | 54, _ => exact tx_le_54
  | 55, _ => exact tx_le_55
  | k + 56, h => exact absurd h (by omega)
theorem tx_el : ∀ k : Nat, k < 56 → ∀ j : Nat, j < (wdT.getD k []).length → Cond.eq (.elem (.field (txT k) "java/lang/String" "value" "[B") (.int (Int32.ofNat j))) (.int (iI ((wdT.getD k []).getD j 0))) ∈ flatC (Jvm.Cond.and given_1 narrow_1) := by
  intro k hk j hj
  match k, hk, hj with
  | 0, _, hj => exact absurd hj (Nat.not_lt_zero _)
  | 1, _, hj => 
    match j, hj with
    | 0, _ => exact tx_el_1_0
    | 1, _ => exact tx_el_1_1
    | 2, _ => exact tx_el_1_2
    | 3, _ => exact tx_el_1_3
    | j + 4, h => exact absurd (show j + 4 < 4 from h) (by omega)
  | 2, _, hj => 
    match j, hj with
    | 0, _ => exact tx_el_2_0
    | 1, _ => exact tx_el_2_1
    | 2, _ => exact tx_el_2_2
    | 3, _ => exact tx_el_2_3
    | j + 4, h => exact absurd (show j + 4 < 4 from h) (by omega)
  | 3, _, hj => 
    match j, hj with
    | 0, _ => exact tx_el_3_0
    | 1, _ => exact tx_el_3_1
    | 2, _ => exact tx_el_3_2
    | 3, _ => exact tx_el_3_3
    | 4, _ => exact tx_el_3_4
    | j + 5, h => exact absurd (show j + 5 < 5 from h) (by omega)
  | 4, _, hj => 
    match j, hj with
    | 0, _ => exact tx_el_4_0
    | 1, _ => exact tx_el_4_1
    | 2, _ => exact tx_el_4_2
    | 3, _ => exact tx_el_4_3
    | 4, _ => exact tx_el_4_4
    | 5, _ => exact tx_el_4_5
    | j + 6, h => exact absurd (show j + 6 < 6 from h) (by omega)
  | 5, _, hj => 
    match j, hj with
    | 0, _ => exact tx_el_5_0
    | 1, _ => exact tx_el_5_1
    | 2, _ => exact tx_el_5_2
    | 3, _ => exact tx_el_5_3
    | 4, _ => exact tx_el_5_4
    | 5, _ => exact tx_el_5_5
    | 6, _ => exact tx_el_5_6
    | j + 7, h => exact absurd (show j + 7 < 7 from h) (by omega)
  | 6, _, hj => 
    match j, hj with
    | 0, _ => exact tx_el_6_0
    | 1, _ => exact tx_el_6_1
    | 2, _ => exact tx_el_6_2
    | 3, _ => exact tx_el_6_3
    | 4, _ => exact tx_el_6_4
    | j + 5, h => exact absurd (show j + 5 < 5 from h) (by omega)
  | 7, _, hj => 
    match j, hj with
    | 0, _ => exact tx_el_7_0
    | 1, _ => exact tx_el_7_1
    | 2, _ => exact tx_el_7_2
    | 3, _ => exact tx_el_7_3
    | 4, _ => exact tx_el_7_4
    | j + 5, h => exact absurd (show j + 5 < 5 from h) (by omega)
  | 8, _, hj => 
    match j, hj with
    | 0, _ => exact tx_el_8_0
    | 1, _ => exact tx_el_8_1
    | 2, _ => exact tx_el_8_2
    | 3, _ => exact tx_el_8_3
    | 4, _ => exact tx_el_8_4
    | j + 5, h => exact absurd (show j + 5 < 5 from h) (by omega)
  | 9, _, hj => 
    match j, hj with
    | 0, _ => exact tx_el_9_0
    | 1, _ => exact tx_el_9_1
    | 2, _ => exact tx_el_9_2
    | 3, _ => exact tx_el_9_3
    | j + 4, h => exact absurd (show j + 4 < 4 from h) (by omega)
  | 10, _, hj => 
    match j, hj with
    | 0, _ => exact tx_el_10_0
    | 1, _ => exact tx_el_10_1
    | 2, _ => exact tx_el_10_2
    | 3, _ => exact tx_el_10_3
    | j + 4, h => exact absurd (show j + 4 < 4 from h) (by omega)
  | 11, _, hj => 
    match j, hj with
    | 0, _ => exact tx_el_11_0
    | 1, _ => exact tx_el_11_1
    | 2, _ => exact tx_el_11_2
    | 3, _ => exact tx_el_11_3
    | 4, _ => exact tx_el_11_4
    | j + 5, h => exact absurd (show j + 5 < 5 from h) (by omega)
  | 12, _, hj => 
    match j, hj with
    | 0, _ => exact tx_el_12_0
    | 1, _ => exact tx_el_12_1
    | 2, _ => exact tx_el_12_2
    | 3, _ => exact tx_el_12_3
    | 4, _ => exact tx_el_12_4
    | j + 5, h => exact absurd (show j + 5 < 5 from h) (by omega)
  | 13, _, hj => 
    match j, hj with
    | 0, _ => exact tx_el_13_0
    | 1, _ => exact tx_el_13_1
    | 2, _ => exact tx_el_13_2
    | j + 3, h => exact absurd (show j + 3 < 3 from h) (by omega)
  | 14, _, hj => 
    match j, hj with
    | 0, _ => exact tx_el_14_0
    | 1, _ => exact tx_el_14_1
    | 2, _ => exact tx_el_14_2
    | 3, _ => exact tx_el_14_3
    | j + 4, h => exact absurd (show j + 4 < 4 from h) (by omega)
  | 15, _, hj => 
    match j, hj with
    | 0, _ => exact tx_el_15_0
    | 1, _ => exact tx_el_15_1
    | 2, _ => exact tx_el_15_2
    | j + 3, h => exact absurd (show j + 3 < 3 from h) (by omega)
  | 16, _, hj => 
    match j, hj with
    | 0, _ => exact tx_el_16_0
    | 1, _ => exact tx_el_16_1
    | j + 2, h => exact absurd (show j + 2 < 2 from h) (by omega)
  | 17, _, hj => 
    match j, hj with
    | 0, _ => exact tx_el_17_0
    | 1, _ => exact tx_el_17_1
    | 2, _ => exact tx_el_17_2
    | 3, _ => exact tx_el_17_3
    | j + 4, h => exact absurd (show j + 4 < 4 from h) (by omega)
  | 18, _, hj => 
    match j, hj with
    | 0, _ => exact tx_el_18_0
    | 1, _ => exact tx_el_18_1
    | 2, _ => exact tx_el_18_2
    | 3, _ => exact tx_el_18_3
    | j + 4, h => exact absurd (show j + 4 < 4 from h) (by omega)
  | 19, _, hj => 
    match j, hj with
    | 0, _ => exact tx_el_19_0
    | 1, _ => exact tx_el_19_1
    | j + 2, h => exact absurd (show j + 2 < 2 from h) (by omega)
  | 20, _, hj => 
    match j, hj with
    | 0, _ => exact tx_el_20_0
    | 1, _ => exact tx_el_20_1
    | 2, _ => exact tx_el_20_2
    | j + 3, h => exact absurd (show j + 3 < 3 from h) (by omega)
  | 21, _, hj => 
    match j, hj with
    | 0, _ => exact tx_el_21_0
    | 1, _ => exact tx_el_21_1
    | 2, _ => exact tx_el_21_2
    | j + 3, h => exact absurd (show j + 3 < 3 from h) (by omega)
  | 22, _, hj => 
    match j, hj with
    | 0, _ => exact tx_el_22_0
    | 1, _ => exact tx_el_22_1
    | 2, _ => exact tx_el_22_2
    | 3, _ => exact tx_el_22_3
    | 4, _ => exact tx_el_22_4
    | j + 5, h => exact absurd (show j + 5 < 5 from h) (by omega)
  | 23, _, hj => 
    match j, hj with
    | 0, _ => exact tx_el_23_0
    | 1, _ => exact tx_el_23_1
    | 2, _ => exact tx_el_23_2
    | 3, _ => exact tx_el_23_3
    | j + 4, h => exact absurd (show j + 4 < 4 from h) (by omega)
  | 24, _, hj => 
    match j, hj with
    | 0, _ => exact tx_el_24_0
    | 1, _ => exact tx_el_24_1
    | 2, _ => exact tx_el_24_2
    | 3, _ => exact tx_el_24_3
    | j + 4, h => exact absurd (show j + 4 < 4 from h) (by omega)
  | 25, _, hj => 
    match j, hj with
    | 0, _ => exact tx_el_25_0
    | 1, _ => exact tx_el_25_1
    | 2, _ => exact tx_el_25_2
    | j + 3, h => exact absurd (show j + 3 < 3 from h) (by omega)
  | 26, _, hj => 
    match j, hj with
    | 0, _ => exact tx_el_26_0
    | 1, _ => exact tx_el_26_1
    | 2, _ => exact tx_el_26_2
    | j + 3, h => exact absurd (show j + 3 < 3 from h) (by omega)
  | 27, _, hj => 
    match j, hj with
    | 0, _ => exact tx_el_27_0
    | 1, _ => exact tx_el_27_1
    | 2, _ => exact tx_el_27_2
    | 3, _ => exact tx_el_27_3
    | 4, _ => exact tx_el_27_4
    | 5, _ => exact tx_el_27_5
    | j + 6, h => exact absurd (show j + 6 < 6 from h) (by omega)
  | 28, _, hj => exact absurd hj (Nat.not_lt_zero _)
  | 29, _, hj => 
    match j, hj with
    | 0, _ => exact tx_el_29_0
    | 1, _ => exact tx_el_29_1
    | 2, _ => exact tx_el_29_2
    | 3, _ => exact tx_el_29_3
    | j + 4, h => exact absurd (show j + 4 < 4 from h) (by omega)
  | 30, _, hj => 
    match j, hj with
    | 0, _ => exact tx_el_30_0
    | 1, _ => exact tx_el_30_1
    | 2, _ => exact tx_el_30_2
    | 3, _ => exact tx_el_30_3
    | j + 4, h => exact absurd (show j + 4 < 4 from h) (by omega)
  | 31, _, hj => 
    match j, hj with
    | 0, _ => exact tx_el_31_0
    | 1, _ => exact tx_el_31_1
    | 2, _ => exact tx_el_31_2
    | 3, _ => exact tx_el_31_3
    | 4, _ => exact tx_el_31_4
    | j + 5, h => exact absurd (show j + 5 < 5 from h) (by omega)
  | 32, _, hj => 
    match j, hj with
    | 0, _ => exact tx_el_32_0
    | 1, _ => exact tx_el_32_1
    | 2, _ => exact tx_el_32_2
    | 3, _ => exact tx_el_32_3
    | 4, _ => exact tx_el_32_4
    | 5, _ => exact tx_el_32_5
    | j + 6, h => exact absurd (show j + 6 < 6 from h) (by omega)
  | 33, _, hj => 
    match j, hj with
    | 0, _ => exact tx_el_33_0
    | 1, _ => exact tx_el_33_1
    | 2, _ => exact tx_el_33_2
    | 3, _ => exact tx_el_33_3
    | 4, _ => exact tx_el_33_4
    | 5, _ => exact tx_el_33_5
    | 6, _ => exact tx_el_33_6
    | j + 7, h => exact absurd (show j + 7 < 7 from h) (by omega)
  | 34, _, hj => 
    match j, hj with
    | 0, _ => exact tx_el_34_0
    | 1, _ => exact tx_el_34_1
    | 2, _ => exact tx_el_34_2
    | 3, _ => exact tx_el_34_3
    | 4, _ => exact tx_el_34_4
    | j + 5, h => exact absurd (show j + 5 < 5 from h) (by omega)
  | 35, _, hj => 
    match j, hj with
    | 0, _ => exact tx_el_35_0
    | 1, _ => exact tx_el_35_1
    | 2, _ => exact tx_el_35_2
    | 3, _ => exact tx_el_35_3
    | 4, _ => exact tx_el_35_4
    | j + 5, h => exact absurd (show j + 5 < 5 from h) (by omega)
  | 36, _, hj => 
    match j, hj with
    | 0, _ => exact tx_el_36_0
    | 1, _ => exact tx_el_36_1
    | 2, _ => exact tx_el_36_2
    | 3, _ => exact tx_el_36_3
    | 4, _ => exact tx_el_36_4
    | j + 5, h => exact absurd (show j + 5 < 5 from h) (by omega)
  | 37, _, hj => 
    match j, hj with
    | 0, _ => exact tx_el_37_0
    | 1, _ => exact tx_el_37_1
    | 2, _ => exact tx_el_37_2
    | 3, _ => exact tx_el_37_3
    | j + 4, h => exact absurd (show j + 4 < 4 from h) (by omega)
  | 38, _, hj => 
    match j, hj with
    | 0, _ => exact tx_el_38_0
    | 1, _ => exact tx_el_38_1
    | 2, _ => exact tx_el_38_2
    | 3, _ => exact tx_el_38_3
    | j + 4, h => exact absurd (show j + 4 < 4 from h) (by omega)
  | 39, _, hj => 
    match j, hj with
    | 0, _ => exact tx_el_39_0
    | 1, _ => exact tx_el_39_1
    | 2, _ => exact tx_el_39_2
    | 3, _ => exact tx_el_39_3
    | 4, _ => exact tx_el_39_4
    | j + 5, h => exact absurd (show j + 5 < 5 from h) (by omega)
  | 40, _, hj => 
    match j, hj with
    | 0, _ => exact tx_el_40_0
    | 1, _ => exact tx_el_40_1
    | 2, _ => exact tx_el_40_2
    | 3, _ => exact tx_el_40_3
    | 4, _ => exact tx_el_40_4
    | j + 5, h => exact absurd (show j + 5 < 5 from h) (by omega)
  | 41, _, hj => 
    match j, hj with
    | 0, _ => exact tx_el_41_0
    | 1, _ => exact tx_el_41_1
    | 2, _ => exact tx_el_41_2
    | j + 3, h => exact absurd (show j + 3 < 3 from h) (by omega)
  | 42, _, hj => 
    match j, hj with
    | 0, _ => exact tx_el_42_0
    | 1, _ => exact tx_el_42_1
    | 2, _ => exact tx_el_42_2
    | 3, _ => exact tx_el_42_3
    | j + 4, h => exact absurd (show j + 4 < 4 from h) (by omega)
  | 43, _, hj => 
    match j, hj with
    | 0, _ => exact tx_el_43_0
    | 1, _ => exact tx_el_43_1
    | 2, _ => exact tx_el_43_2
    | j + 3, h => exact absurd (show j + 3 < 3 from h) (by omega)
  | 44, _, hj => 
    match j, hj with
    | 0, _ => exact tx_el_44_0
    | 1, _ => exact tx_el_44_1
    | j + 2, h => exact absurd (show j + 2 < 2 from h) (by omega)
  | 45, _, hj => 
    match j, hj with
    | 0, _ => exact tx_el_45_0
    | 1, _ => exact tx_el_45_1
    | 2, _ => exact tx_el_45_2
    | 3, _ => exact tx_el_45_3
    | j + 4, h => exact absurd (show j + 4 < 4 from h) (by omega)
  | 46, _, hj => 
    match j, hj with
    | 0, _ => exact tx_el_46_0
    | 1, _ => exact tx_el_46_1
    | 2, _ => exact tx_el_46_2
    | 3, _ => exact tx_el_46_3
    | j + 4, h => exact absurd (show j + 4 < 4 from h) (by omega)
  | 47, _, hj => 
    match j, hj with
    | 0, _ => exact tx_el_47_0
    | 1, _ => exact tx_el_47_1
    | j + 2, h => exact absurd (show j + 2 < 2 from h) (by omega)
  | 48, _, hj => 
    match j, hj with
    | 0, _ => exact tx_el_48_0
    | 1, _ => exact tx_el_48_1
    | 2, _ => exact tx_el_48_2
    | j + 3, h => exact absurd (show j + 3 < 3 from h) (by omega)
  | 49, _, hj => 
    match j, hj with
    | 0, _ => exact tx_el_49_0
    | 1, _ => exact tx_el_49_1
    | 2, _ => exact tx_el_49_2
    | j + 3, h => exact absurd (show j + 3 < 3 from h) (by omega)
  | 50, _, hj => 
    match j, hj with
    | 0, _ => exact tx_el_50_0
    | 1, _ => exact tx_el_50_1
    | 2, _ => exact tx_el_50_2
    | 3, _ => exact tx_el_50_3
    | 4, _ => exact tx_el_50_4
    | j + 5, h => exact absurd (show j + 5 < 5 from h) (by omega)
  | 51, _, hj => 
    match j, hj with
    | 0, _ => exact tx_el_51_0
    | 1, _ => exact tx_el_51_1
    | 2, _ => exact tx_el_51_2
    | 3, _ => exact tx_el_51_3
    | j + 4, h => exact absurd (show j + 4 < 4 from h) (by omega)
  | 52, _, hj => 
    match j, hj with
    | 0, _ => exact tx_el_52_0
    | 1, _ => exact tx_el_52_1
    | 2, _ => exact tx_el_52_2
    | 3, _ => exact tx_el_52_3
    | j + 4, h => exact absurd (show j + 4 < 4 from h) (by omega)
  | 53, _, hj => 
    match j, hj with
    | 0, _ => exact tx_el_53_0
    | 1, _ => exact tx_el_53_1
    | 2, _ => exact tx_el_53_2
    | j + 3, h => exact absurd (show j + 3 < 3 from h) (by omega)
  | 54, _, hj => 
    match j, hj with
    | 0, _ => exact tx_el_54_0
    | 1, _ => exact tx_el_54_1
    | 2, _ => exact tx_el_54_2
    | j + 3, h => exact absurd (show j + 3 < 3 from h) (by omega)
  | 55, _, hj => 
    match j, hj with
    | 0, _ => exact tx_el_55_0
    | 1, _ => exact tx_el_55_1
    | 2, _ => exact tx_el_55_2
    | 3, _ => exact tx_el_55_3
    | 4, _ => exact tx_el_55_4
    | 5, _ => exact tx_el_55_5
    | j + 6, h => exact absurd (show j + 6 < 6 from h) (by omega)
  | k + 56, h, _ => exact absurd h (by omega)
theorem gd_map (l : List Int) (j : Nat) : (l.map iI).getD j (iI 0) = iI (l.getD j 0) := by
  rw [List.getD_eq_getElem?_getD, List.getD_eq_getElem?_getD, List.getElem?_map]
  cases l[j]? <;> rfl
theorem tx_known {args : Array Value} {s : State} {A : Nat → Prop} (hs : ∀ w ∈ flatC (Jvm.Cond.and given_1 narrow_1), w.before args s = true) (hA : ∀ a : Nat, a < s.heap.size → ¬ A a) (k : Nat) : ∃ q : Nat × Nat, k < 56 → (txT k).eval args s none [] s = some (.ref q.1) ∧ va_O "java/lang/String" q.1 A s s.heap ∧ va_OF "java/lang/String" "coder" "B" (.int (iI 0)) q.1 A s s.heap ∧ va_OF "java/lang/String" "value" "[B" (.ref q.2) q.1 A s s.heap ∧ va_T .byte q.2 (wdT.getD k []).length (fun j => .int (iI ((wdT.getD k []).getD j 0))) A s s.heap := by
  by_cases hk : k < 56
  · obtain ⟨adK, adV, h1, h2⟩ := vk_Sof (args := args) (s := s) (N := 1) (tm := fun _ => txT k) (len := [(wdT.getD k []).length]) (byt := [(wdT.getD k []).map iI]) (A := A)
      (fun i hi => by obtain rfl : i = 0 := by omega
                      have := slen_r k hk
                      show (wdT.getD k []).length < 2 ^ 31
                      omega)
      (fun i hi => hs _ (tx_ex k hk)) (fun i hi => hs _ (tx_co k hk)) (fun i hi => hs _ (tx_ar k hk))
      (fun i hi => by obtain rfl : i = 0 := by omega
                      exact hs _ (tx_le k hk))
      (fun i hi j hj => by
        obtain rfl : i = 0 := by omega
        have h9 := hs _ (tx_el k hk j hj)
        have e9 : (([(wdT.getD k []).map iI] : List (List Int32)).getD 0 []).getD j 0 = iI ((wdT.getD k []).getD j 0) := by
          show ((wdT.getD k []).map iI).getD j 0 = iI ((wdT.getD k []).getD j 0)
          rw [show (0 : Int32) = iI 0 from by decide, gd_map]
        rw [e9]
        exact h9)
      (fun i j hi hj h => absurd (show i = j by omega) h) hA
    refine ⟨(adK 0, adV 0), fun _ => ⟨h2 0 (by decide), (h1.1 0 (by decide)).1, (h1.1 0 (by decide)).2.1, (h1.1 0 (by decide)).2.2.1, ?_⟩⟩
    have h3 := (h1.1 0 (by decide)).2.2.2
    have e3 : (fun j : Nat => Value.int (([(wdT.getD k []).map iI] : List (List Int32)).getD 0 [] |>.getD j 0)) = fun j => Value.int (iI ((wdT.getD k []).getD j 0)) := by
      funext j
      show Value.int (((wdT.getD k []).map iI).getD j 0) = _
      rw [show (0 : Int32) = iI 0 from by decide, gd_map]
    rw [e3] at h3
    exact h3
  · exact ⟨(0, 0), fun h => absurd h hk⟩
theorem wo_ls : ∀ k : Nat, k < 28 → Cond.laysStatic RWd (wdN.getD k "") "LKerbSplash$Word;" ∈ lw_tbl := by decide +kernel
theorem wo_ex : ∀ k : Nat, k < 28 → Cond.exactly (.static RWd (wdN.getD k "") "LKerbSplash$Word;") RWd ∈ flatC (Jvm.Cond.and given_1 narrow_1) := by decide +kernel
theorem wo_fi : ∀ k : Nat, k < 28 → ∀ q ∈ ([("KerbSplash$Word", "work", "I", [iI (wdW.getD k 0)]), ("KerbSplash$Word", "saying", "I", [iI (wdS.getD k 0)]), ("KerbSplash$Word", "name", "I", [iI (wdM.getD k 0)]), ("java/lang/Enum", "ordinal", "I", [Int32.ofNat k])] : List (String × String × String × List Int32)), Cond.eq (.field (.static RWd (wdN.getD k "") "LKerbSplash$Word;") q.1 q.2.1 q.2.2.1) (.int (q.2.2.2.getD 0 0)) ∈ flatC (Jvm.Cond.and given_1 narrow_1) := by decide +kernel
theorem wo_le : ∀ k : Nat, k < 28 → Cond.eq (.field (.static RWd (wdN.getD k "") "LKerbSplash$Word;") RWd "letters" "Ljava/lang/String;") (txT k) ∈ flatC (Jvm.Cond.and given_1 narrow_1) := by decide +kernel
theorem wo_al : ∀ k : Nat, k < 28 → Cond.eq (.elem (.static RWd "ALL" "[LKerbSplash$Word;") (.int (Int32.ofNat k))) (.static RWd (wdN.getD k "") "LKerbSplash$Word;") ∈ flatC (Jvm.Cond.and given_1 narrow_1) := by decide +kernel
theorem wo_known {args : Array Value} {s : State} {A : Nat → Prop} (hts : ∀ w ∈ lw_tbl, w.before args s = true) (hs : ∀ w ∈ flatC (Jvm.Cond.and given_1 narrow_1), w.before args s = true) (hA : ∀ a : Nat, a < s.heap.size → ¬ A a) (k : Nat) : ∃ a : Nat, k < 28 → (Term.static RWd (wdN.getD k "") "LKerbSplash$Word;").eval args s none [] s = some (.ref a) ∧ va_Z RWd (wdN.getD k "") "LKerbSplash$Word;" (.ref a) A s s.heap ∧ va_O RWd a A s s.heap ∧ va_OF RWd "work" "I" (.int (iI (wdW.getD k 0))) a A s s.heap ∧ va_OF RWd "saying" "I" (.int (iI (wdS.getD k 0))) a A s s.heap ∧ va_OF RWd "name" "I" (.int (iI (wdM.getD k 0))) a A s s.heap ∧ va_OF "java/lang/Enum" "ordinal" "I" (.int (Int32.ofNat k)) a A s s.heap := by
  by_cases hk : k < 28
  · obtain ⟨ad, h1, h2⟩ := va_Enof2 (args := args) (s := s) (E := RWd) (d := "LKerbSplash$Word;") (nm := [wdN.getD k ""]) (F := [("KerbSplash$Word", "work", "I", [iI (wdW.getD k 0)]), ("KerbSplash$Word", "saying", "I", [iI (wdS.getD k 0)]), ("KerbSplash$Word", "name", "I", [iI (wdM.getD k 0)]), ("java/lang/Enum", "ordinal", "I", [Int32.ofNat k])]) (A := A)
      (fun i hi => by obtain rfl : i = 0 := by simpa using hi
                      exact hts _ (wo_ls k hk))
      (hts (.initialized RWd) (by decide +kernel))
      (fun i hi => by obtain rfl : i = 0 := by simpa using hi
                      exact hs _ (wo_ex k hk))
      (fun q hq i hi => by obtain rfl : i = 0 := by simpa using hi
                           exact hs _ (wo_fi k hk q hq))
      (fun i j hi hj h => by
        have a1 : i = 0 := by simpa using hi
        have a2 : j = 0 := by simpa using hj
        exact absurd (a1.trans a2.symm) h) hA
    have h3 := h1.1 0 (by decide)
    exact ⟨ad 0, fun _ => ⟨h2 0 (by decide), h3.1, h3.2.1, h3.2.2 _ (List.mem_of_getElem? (i := 0) rfl), h3.2.2 _ (List.mem_of_getElem? (i := 1) rfl), h3.2.2 _ (List.mem_of_getElem? (i := 2) rfl), h3.2.2 _ (List.mem_of_getElem? (i := 3) rfl)⟩⟩
  · exact ⟨0, fun h => absurd h hk⟩
theorem OF_one {o n d : String} {v w : Value} {t : Nat} {A : Nat → Prop} {U : State} {H : Heap} (h : va_OF o n d v t A U H) (k : va_OF o n d w t A U H) : v = w := by
  obtain ⟨cf, kc, i, f, cell, h1, h2, h3, h4, h5, h6⟩ := h
  obtain ⟨cf', kc', i', f', cell', k1, k2, k3, k4, k5, k6⟩ := k
  rw [h1] at k1
  cases k1
  rw [h3] at k3
  cases k3
  simp_all
/-- the start's words and texts: sa is told by w (words), x (texts, their bytes), al (the row of words), t (the four messages) -/
def saF (t w : Nat → Nat) (x : Nat → Nat × Nat) (al : Nat) (k : Nat) : Nat := if k < 4 then t k else if k = 99 then al else if k < 200 then w (k - 100) else if k < 300 then (x (k - 200)).1 else (x (k - 300)).2
theorem saF_w {t w : Nat → Nat} {x : Nat → Nat × Nat} {al : Nat} (k : Nat) (hk : k < 100) : saF t w x al (100 + k) = w k := by
  unfold saF
  rw [if_neg (by omega), if_neg (by omega), if_pos (by omega), Nat.add_sub_cancel_left]
theorem saF_x {t w : Nat → Nat} {x : Nat → Nat × Nat} {al : Nat} (k : Nat) (hk : k < 100) : saF t w x al (200 + k) = (x k).1 := by
  unfold saF
  rw [if_neg (by omega), if_neg (by omega), if_neg (by omega), if_pos (by omega), Nat.add_sub_cancel_left]
theorem saF_v {t w : Nat → Nat} {x : Nat → Nat × Nat} {al : Nat} (k : Nat) (hk : k < 100) : saF t w x al (300 + k) = (x k).2 := by
  unfold saF
  rw [if_neg (by omega), if_neg (by omega), if_neg (by omega), if_neg (by omega), Nat.add_sub_cancel_left]
theorem saF_a {t w : Nat → Nat} {x : Nat → Nat × Nat} {al : Nat} : saF t w x al 99 = al := by
  unfold saF
  rw [if_neg (by decide), if_pos rfl]
theorem ofN_inj : ∀ i : Nat, i < 28 → ∀ j : Nat, j < 28 → Int32.ofNat i = Int32.ofNat j → i = j := by decide
theorem wd_start {args : Array Value} {s : State} {A : Nat → Prop} (hts : ∀ w ∈ lw_tbl, w.before args s = true) (hs : ∀ w ∈ flatC (Jvm.Cond.and given_1 narrow_1), w.before args s = true) (hA : ∀ a : Nat, a < s.heap.size → ¬ A a) : ∃ (w : Nat → Nat) (x : Nat → Nat × Nat) (al : Nat), (∀ t : Nat → Nat, WD (saF t w x al) A s s.heap) ∧ ∀ k : Nat, k < 56 → (txT k).eval args s none [] s = some (.ref (x k).1) := by
  obtain ⟨w, hw⟩ := Classical.axiomOfChoice (fun k => wo_known (A := A) hts hs hA k)
  obtain ⟨x, hx⟩ := Classical.axiomOfChoice (fun k => tx_known (args := args) (A := A) hs hA k)
  have hel : ∀ j : Nat, j < 28 → (Term.elem (.static RWd "ALL" "[LKerbSplash$Word;") (.int (Int32.ofNat j))).eval args s none [] s = some (.ref (w j)) := fun j hj => va_eqv (hs _ (wo_al j hj)) (hw j hj).1
  have hln : (Term.length (.static RWd "ALL" "[LKerbSplash$Word;")).eval args s none [] s = some (.int (Int32.ofNat 28)) := va_eqt (hs (Cond.eq (.length (.static RWd "ALL" "[LKerbSplash$Word;")) (.int 28)) (by decide +kernel))
  have hao := hs (Cond.arrayOf (.static RWd "ALL" "[LKerbSplash$Word;") (.object RWd)) (by decide +kernel)
  obtain ⟨al, ha1, -⟩ := va_Tof (args := args) (s := s) (tm := .static RWd "ALL" "[LKerbSplash$Word;") (ty := .object RWd) (N := 28) (f := fun j => .ref (w j)) (A := A) (by decide) hao hln hel hA
  have h2 : ∀ (t : Nat → Nat) (k : Nat), k < 56 → WD2 (saF t w x al) k A s s.heap := by
    intro t k hk
    unfold WD2
    rw [saF_x k (by omega), saF_v k (by omega)]
    exact (hx k hk).2
  refine ⟨w, x, al, fun t => ⟨fun k hk => ⟨?_, h2 t k (by omega)⟩, fun i j hi hj e => ?_, ?_, ?_, ?_, ?_, h2 t⟩, fun k hk => (hx k hk).1⟩
  · unfold WD1
    rw [saF_w k (by omega), saF_x k (by omega)]
    obtain ⟨g0, g1, g2, g3, g4, g5, g6⟩ := hw k hk
    exact ⟨g1, g2, g3, g4, g5, vk_OFof g0 (va_eqv (hs _ (wo_le k hk)) (hx k (by omega)).1) hA⟩
  · rw [saF_w i (by omega), saF_w j (by omega)] at e
    have g1 := (hw i hi).2.2.2.2.2.2
    have g2 := (hw j hj).2.2.2.2.2.2
    rw [e] at g1
    have g3 := OF_one g1 g2
    injection g3 with g4
    exact ofN_inj i hi j hj g4
  · rw [saF_a]
    exact va_Zof (hts (.laysStatic RWd "ALL" "[LKerbSplash$Word;") (by decide +kernel)) (hts (.initialized RWd) (by decide +kernel)) ha1 hA
  · obtain ⟨al', b1, b2⟩ := va_Tof (args := args) (s := s) (tm := .static RWd "ALL" "[LKerbSplash$Word;") (ty := .object RWd) (N := 28) (f := fun j => .ref (saF t w x al (100 + j))) (A := A) (by decide) hao hln (fun j hj => by
      show _ = some (Value.ref (saF t w x al (100 + j)))
      rw [saF_w j (by omega)]
      exact hel j hj) hA
    rw [ha1] at b1
    cases b1
    rw [saF_a]
    exact b2
  · exact va_Zof (hts (.laysStatic "java/lang/String" "COMPACT_STRINGS" "Z") (by decide +kernel)) (hts (.initialized "java/lang/String") (by decide +kernel)) (va_eqt (hs (Cond.eq (.static "java/lang/String" "COMPACT_STRINGS" "Z") (.int (iI 1))) (by decide +kernel))) hA
  · exact va_Zqof (hts (.laysStatic "jdk/internal/util/Preconditions" "SIOOBE_FORMATTER" "Ljava/util/function/BiFunction;") (by decide +kernel)) (hts (.initialized "jdk/internal/util/Preconditions") (by decide +kernel)) (hs (.isRef (.static "jdk/internal/util/Preconditions" "SIOOBE_FORMATTER" "Ljava/util/function/BiFunction;")) (by decide +kernel)) hA
theorem ac_known {ty : FieldType} {args : Array Value} {s : State} (h : (Cond.arrayClass ty).before args s = true) (hp : ∀ C, ty ≠ .object C) : ∃ cA : ClassId, ArrOfT s cA ty ∧ va_RA s cA ty := by
  obtain ⟨c, k, comp, h1, h2, h3⟩ := Cond.arrayClass_spec h
  refine ⟨c, fun n z => ⟨(fun k h => by cases h), k, h2, comp, h3⟩, ?_⟩
  cases ty with
  | object C => exact absurd rfl (hp C)
  | _ => exact h1
theorem ao_known {C : String} {args : Array Value} {s : State} (h : (Cond.arrayOver (.object C)).before args s = true) : ∃ cA : ClassId, ArrOfT s cA (.object C) ∧ va_RA s cA (.object C) := by
  obtain ⟨comp, c, k, h1, h2, h3, h4, h5⟩ := Cond.arrayOver_spec h
  exact ⟨c, fun n z => ⟨(fun k h => by cases h), k, h3, comp, h4⟩, k, comp, h3, h4, h1, h5⟩
theorem st_known {own tx cl : String} {k : Nat} {args : Array Value} {s : State} (h1 : (Cond.stringRef own k tx).before args s = true) (h2 : (Cond.exactly (.string own k) cl).before args s = true) : ∃ a : Nat, vk_R own k tx a s := by
  obtain ⟨a, ha⟩ : ∃ a : Nat, (Term.string own k).eval args s none [] s = some (.ref a) := by
    obtain ⟨a, c, cell, k, ha, -⟩ := Cond.exactly_spec h2
    exact ⟨a, ha⟩
  exact ⟨a, vk_R.of h1 ha⟩
theorem nsF_in : ∀ q ∈ nsF, Cond.fieldLinkNest q.1 q.2.1 q.2.2.1 q.2.2.2.1 q.2.2.2.2.1 q.2.2.2.2.2 ∈ lw_tbl := by decide +kernel
theorem nsM_in : ∀ q ∈ nsM, Cond.methodLinkNest q.1 q.2.1 q.2.2.1 q.2.2.2 ∈ lw_tbl := by decide +kernel
theorem cs_in : ∀ e ∈ exn, Cond.castable e e ∈ lw_tbl := by decide +kernel
theorem nc_in : ∀ e ∈ exn, ∀ f ∈ exn, e ≠ f → Cond.not (.castable e f) ∈ flatC (Jvm.Cond.and given_1 narrow_1) := by decide +kernel
theorem dc_in : ∀ y ∈ dcl, Cond.declares y ∈ lw_tbl := by decide +kernel
theorem sr_in : ∀ q ∈ stX, Cond.stringRef q.1 q.2.1 q.2.2.1 ∈ lw_tbl := by decide +kernel
theorem se_in : ∀ q ∈ stX, Cond.exactly (.string q.1 q.2.1) "java/lang/String" ∈ flatC (Jvm.Cond.and given_1 narrow_1) := by decide +kernel
set_option maxHeartbeats 4000000 in
set_option maxRecDepth 100000 in
theorem gc_start {s : State} {b : Nat} {A : Nat → Prop} (hA : ∀ a : Nat, a < s.heap.size → ¬ A a) (hts : ∀ w ∈ lw_tbl, w.before #[Value.ref b] s = true) (hgv : (Jvm.Cond.and given_1 narrow_1).before #[Value.ref b] s = true) : ∃ (D : va_G) (cy : Nat → ClassId) (sa : Nat → Nat), GC D cy sa s ∧ TH sa A s s.heap := by
  have hs := flat_of_before _ hgv
  obtain ⟨w, x, al, hW, hxe⟩ := wd_start (A := A) hts hs hA
  obtain ⟨k0, i0, hK0⟩ := u_known (C := RX0) (T := TX0) (N := 7) (n := 7) hts inX0 (hts (.instantiable RX0 7) (by decide +kernel))
  obtain ⟨k1, i1, hK1⟩ := u_known (C := RX1) (T := TX1) (N := 4) (n := 4) hts inX1 (hts (.instantiable RX1 4) (by decide +kernel))
  obtain ⟨k2, i2, hK2⟩ := u_known (C := RX2) (T := TX2) (N := 3) (n := 3) hts inX2 (hts (.instantiable RX2 3) (by decide +kernel))
  obtain ⟨k3, i3, hK3⟩ := u_known (C := RX3) (T := TX3) (N := 4) (n := 4) hts inX3 (hts (.instantiable RX3 4) (by decide +kernel))
  obtain ⟨k4, i4, hK4⟩ := u_known (C := RX4) (T := TX4) (N := 5) (n := 5) hts inX4 (hts (.instantiable RX4 5) (by decide +kernel))
  obtain ⟨k5, i5, hK5⟩ := u_known (C := RX5) (T := TX5) (N := 2) (n := 2) hts inX5 (hts (.instantiable RX5 2) (by decide +kernel))
  obtain ⟨k6, i6, hK6⟩ := u_known (C := RX6) (T := TX6) (N := 19) (n := 19) hts inX6 (hts (.instantiable RX6 19) (by decide +kernel))
  obtain ⟨k7, i7, hK7⟩ := u_known (C := RX7) (T := TX7) (N := 2) (n := 2) hts inX7 (hts (.instantiable RX7 2) (by decide +kernel))
  obtain ⟨k8, i8, hK8⟩ := u_known (C := RX8) (T := TX8) (N := 7) (n := 7) hts inX8 (hts (.instantiable RX8 7) (by decide +kernel))
  obtain ⟨k9, i9, hK9⟩ := u_known (C := RX9) (T := TX9) (N := 5) (n := 5) hts inX9 (hts (.instantiable RX9 5) (by decide +kernel))
  obtain ⟨k10, i10, hK10⟩ := u_known (C := RX10) (T := TX10) (N := 0) (n := 7) hts inX10 (hts (.instantiable RX10 7) (by decide +kernel))
  obtain ⟨k11, i11, hK11⟩ := u_known (C := RX11) (T := TX11) (N := 14) (n := 14) hts inX11 (hts (.instantiable RX11 14) (by decide +kernel))
  obtain ⟨k12, i12, hK12⟩ := u_known (C := RX12) (T := TX12) (N := 38) (n := 38) hts inX12 (hts (.instantiable RX12 38) (by decide +kernel))
  let kl : List ClassId := [k0, k1, k2, k3, k4, k5, k6, k7, k8, k9, k10, k11, k12]
  let il : List (Nat → Nat) := [i0, i1, i2, i3, i4, i5, i6, i7, i8, i9, i10, i11, i12]
  have hKc : ∀ (k : Nat) (q : vw_C), vwCl[k]? = some q → u_Kn s q.1 q.2.1 q.2.2 (kl.getD k k0) (il.getD k i0) := by
    intro k q hq
    match k, hq with
    | 0, hq => cases hq; exact hK0
    | 1, hq => cases hq; exact hK1
    | 2, hq => cases hq; exact hK2
    | 3, hq => cases hq; exact hK3
    | 4, hq => cases hq; exact hK4
    | 5, hq => cases hq; exact hK5
    | 6, hq => cases hq; exact hK6
    | 7, hq => cases hq; exact hK7
    | 8, hq => cases hq; exact hK8
    | 9, hq => cases hq; exact hK9
    | 10, hq => cases hq; exact hK10
    | 11, hq => cases hq; exact hK11
    | 12, hq => cases hq; exact hK12
    | k + 13, hq => simp [vwCl] at hq
  obtain ⟨a0, hA0⟩ := ac_known (hts (.arrayClass .int) (by decide +kernel)) (fun C h => nomatch h)
  obtain ⟨a1, hA1⟩ := ac_known (hts (.arrayClass .byte) (by decide +kernel)) (fun C h => nomatch h)
  obtain ⟨a2, hA2⟩ := ac_known (hts (.arrayClass .long) (by decide +kernel)) (fun C h => nomatch h)
  have ho3 := hts (.arrayOver (.object RX6)) (by decide +kernel)
  obtain ⟨a3, hA3⟩ := ao_known ho3
  have ho4 := hts (.arrayOver (.object RX5)) (by decide +kernel)
  obtain ⟨a4, hA4⟩ := ao_known ho4
  have ho5 := hts (.arrayOver (.object RX1)) (by decide +kernel)
  obtain ⟨a5, hA5⟩ := ao_known ho5
  have ho6 := hts (.arrayOver (.object RX4)) (by decide +kernel)
  obtain ⟨a6, hA6⟩ := ao_known ho6
  let cl : List ClassId := [a0, a1, a2, a3, a4, a5, a6]
  obtain ⟨t0, hS0⟩ := st_known (hts _ (sr_in _ (List.mem_of_getElem? (i := 0) rfl))) (hs _ (se_in _ (List.mem_of_getElem? (i := 0) rfl)))
  obtain ⟨t1, hS1⟩ := st_known (hts _ (sr_in _ (List.mem_of_getElem? (i := 1) rfl))) (hs _ (se_in _ (List.mem_of_getElem? (i := 1) rfl)))
  obtain ⟨t2, hS2⟩ := st_known (hts _ (sr_in _ (List.mem_of_getElem? (i := 2) rfl))) (hs _ (se_in _ (List.mem_of_getElem? (i := 2) rfl)))
  obtain ⟨t3, hS3⟩ := st_known (hts _ (sr_in _ (List.mem_of_getElem? (i := 3) rfl))) (hs _ (se_in _ (List.mem_of_getElem? (i := 3) rfl)))
  let tl : Nat → Nat := fun k => ([t0, t1, t2, t3] : List Nat).getD k 0
  refine ⟨(fun k => kl.getD k k0, fun k => il.getD k i0), (fun k => cl.getD k a0), saF tl w x al, ⟨⟨hKc, ?_⟩, ⟨fun q hq => va_Nw.of rfl (hts _ (nsF_in q hq)), fun q hq => va_Nw.of rfl (hts _ (nsM_in q hq))⟩, ?_, fun e he => va_Nw.of rfl (hts _ (cs_in e he)), fun e he f hf hn => va_Nc.of (hs _ (nc_in e he f hf hn)), ⟨va_AO.of ho4, va_AO.of ho5, va_AO.of ho3, va_AO.of ho6⟩, fun y hy => va_Nw.of rfl (hts _ (dc_in y hy))⟩, ?_, ?_, hW tl⟩
  · intro k q hq
    match k, hq with
    | 0, hq => cases hq; exact hA0
    | 1, hq => cases hq; exact hA1
    | 2, hq => cases hq; exact hA2
    | 3, hq => cases hq; exact hA3
    | 4, hq => cases hq; exact hA4
    | 5, hq => cases hq; exact hA5
    | 6, hq => cases hq; exact hA6
    | k + 7, hq => simp [tyW] at hq
  · intro k q hq
    match k, hq with
    | 0, hq => cases hq; exact hS0
    | 1, hq => cases hq; exact hS1
    | 2, hq => cases hq; exact hS2
    | 3, hq => cases hq; exact hS3
    | 4, hq => cases hq; exact vk_R.of (hts (.stringRef RX12 133 "clear") (by decide +kernel)) (hxe 34 (by decide))
    | 5, hq => cases hq; exact vk_R.of (hts (.stringRef RX12 139 "raise") (by decide +kernel)) (hxe 35 (by decide))
    | 6, hq => cases hq; exact vk_R.of (hts (.stringRef RX12 141 "lower") (by decide +kernel)) (hxe 36 (by decide))
    | 7, hq => cases hq; exact vk_R.of (hts (.stringRef RX12 143 "bore") (by decide +kernel)) (hxe 37 (by decide))
    | 8, hq => cases hq; exact vk_R.of (hts (.stringRef RX12 154 "size") (by decide +kernel)) (hxe 29 (by decide))
    | 9, hq => cases hq; exact vk_R.of (hts (.stringRef RX12 155 "high") (by decide +kernel)) (hxe 30 (by decide))
    | 10, hq => cases hq; exact vk_R.of (hts (.stringRef RX12 157 "drain") (by decide +kernel)) (hxe 31 (by decide))
    | 11, hq => cases hq; exact vk_R.of (hts (.stringRef RX12 162 "person") (by decide +kernel)) (hxe 32 (by decide))
    | 12, hq => cases hq; exact vk_R.of (hts (.stringRef RX12 185 "shelter") (by decide +kernel)) (hxe 33 (by decide))
    | 13, hq => cases hq; exact vk_R.of (hts (.stringRef RX12 207 "rain") (by decide +kernel)) (hxe 38 (by decide))
    | 14, hq => cases hq; exact vk_R.of (hts (.stringRef RX12 215 "depth") (by decide +kernel)) (hxe 50 (by decide))
    | 15, hq => cases hq; exact vk_R.of (hts (.stringRef RX12 217 "pace") (by decide +kernel)) (hxe 51 (by decide))
    | 16, hq => cases hq; exact vk_R.of (hts (.stringRef RX12 219 "tyre") (by decide +kernel)) (hxe 52 (by decide))
    | 17, hq => cases hq; exact vk_R.of (hts (.stringRef RX12 221 "row") (by decide +kernel)) (hxe 53 (by decide))
    | 18, hq => cases hq; exact vk_R.of (hts (.stringRef RX12 223 "far") (by decide +kernel)) (hxe 54 (by decide))
    | 19, hq => cases hq; exact vk_R.of (hts (.stringRef RX12 225 "people") (by decide +kernel)) (hxe 55 (by decide))
    | 20, hq => cases hq; exact vk_R.of (hts (.stringRef RX12 242 "if") (by decide +kernel)) (hxe 44 (by decide))
    | 21, hq => cases hq; exact vk_R.of (hts (.stringRef RX12 247 "then") (by decide +kernel)) (hxe 45 (by decide))
    | 22, hq => cases hq; exact vk_R.of (hts (.stringRef RX12 252 "else") (by decide +kernel)) (hxe 46 (by decide))
    | 23, hq => cases hq; exact vk_R.of (hts (.stringRef RX12 257 "not") (by decide +kernel)) (hxe 49 (by decide))
    | 24, hq => cases hq; exact vk_R.of (hts (.stringRef RX12 262 "and") (by decide +kernel)) (hxe 48 (by decide))
    | 25, hq => cases hq; exact vk_R.of (hts (.stringRef RX12 267 "or") (by decide +kernel)) (hxe 47 (by decide))
    | 26, hq => cases hq; exact vk_R.of (hts (.stringRef RX12 269 "throw") (by decide +kernel)) (hxe 39 (by decide))
    | 27, hq => cases hq; exact vk_R.of (hts (.stringRef RX12 271 "reach") (by decide +kernel)) (hxe 40 (by decide))
    | 28, hq => cases hq; exact vk_R.of (hts (.stringRef RX12 273 "wet") (by decide +kernel)) (hxe 41 (by decide))
    | 29, hq => cases hq; exact vk_R.of (hts (.stringRef RX12 275 "slow") (by decide +kernel)) (hxe 42 (by decide))
    | 30, hq => cases hq; exact vk_R.of (hts (.stringRef RX12 277 "out") (by decide +kernel)) (hxe 43 (by decide))
    | k + 31, hq => simp [stX] at hq
  · exact vx_Zqof (hts (.laysStatic Bundle.tN "UNASSIGNED_STACK" Bundle.steD) (by decide +kernel)) (hts (.initialized Bundle.tN) (by decide +kernel)) (hs (.isRef (.static Bundle.tN "UNASSIGNED_STACK" Bundle.steD)) (by decide +kernel)) hA
  · exact vx_Zqof (hts (.laysStatic Bundle.tN "SUPPRESSED_SENTINEL" Bundle.listD) (by decide +kernel)) (hts (.initialized Bundle.tN) (by decide +kernel)) (hs (.isRef (.static Bundle.tN "SUPPRESSED_SENTINEL" Bundle.listD)) (by decide +kernel)) hA
