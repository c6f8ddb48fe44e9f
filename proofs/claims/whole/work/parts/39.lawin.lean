theorem law_in {i L : Nat} (hL : L ≤ 2560) (hi : i ≤ L) (h : ¬ (Int32.ofNat L - 5 < nI i)) : i + 5 ≤ L := by
  rcases Nat.lt_or_ge L 5 with q | q
  · exfalso
    apply h
    have hL2 : L = 0 ∨ L = 1 ∨ L = 2 ∨ L = 3 ∨ L = 4 := by omega
    have hi2 : i = 0 ∨ i = 1 ∨ i = 2 ∨ i = 3 ∨ i = 4 := by omega
    rcases hL2 with rfl | rfl | rfl | rfl | rfl <;> rcases hi2 with rfl | rfl | rfl | rfl | rfl <;> decide
  · have e : Int32.ofNat L - 5 = nI (L - 5) := by
      have e1 : nI (L - 5) + nI 5 = nI L := by rw [nI_add]; congr 1; omega
      show nI L - nI 5 = nI (L - 5)
      rw [← e1, Int32.add_sub_cancel]
    rw [e] at h
    rcases Nat.lt_or_ge (L - 5) i with c | c
    · exact absurd (nI_lt c (by omega)) h
    · omega
