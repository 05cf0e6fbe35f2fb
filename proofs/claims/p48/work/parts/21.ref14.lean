theorem lt_of_ne {x : Int32} {n m : Nat} (h : x = nI n) (h2 : n ≤ m) (hm : m < 2 ^ 31) (c : ¬ x = nI m) : n < m := by
  rcases Nat.lt_or_ge n m with q | q
  · exact q
  · exact absurd (by rw [h, show n = m by omega]) c
