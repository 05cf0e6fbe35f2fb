/-- the reader goes on -/
def rl : Nat → Int32 → (Nat → Nat → Int32) → Int32 × (Nat → Nat → Int32)
  | 0, s, g => (s, g)
  | q + 1, s, g => if s = 0 then (s, g) else if cl (g 0 4) ≤ cl (g 0 9) then (s, g) else if g 3 (cl (g 0 9)) = 59 then rl q (ct_readsItem_r (nxW g)) (ct_readsItem_w (nxW g)) else (0, g)
