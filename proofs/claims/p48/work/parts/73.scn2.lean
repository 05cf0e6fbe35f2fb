theorem wn_f {v lo hi : Int32} (h : wnI v lo hi = 0) : ¬ (lo ≤ v ∧ v ≤ hi) := by
  intro z
  unfold wnI at h
  rw [if_neg (Int32.not_lt.mpr z.1), if_neg (Int32.not_lt.mpr z.2)] at h
  cases h
