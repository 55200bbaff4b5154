
theorem ix_in {i z k : Int} {L : Nat} (hi : 0 ≤ i ∧ i ≤ (L : Int) - 10) (hz : z = i + k) (hk : 0 ≤ k ∧ k ≤ 9) : 0 ≤ z ∧ z < (L : Int) := by omega
theorem ln_in {L : Nat} (h : L ≤ 5120) : L ≤ 2147483647 := by omega
