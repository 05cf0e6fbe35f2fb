/-! STUB: shares -/
theorem sm_share {l : Launch} {D : va_G} {cA : FieldType → ClassId} {z0 : Nat} {SK SV : Nat → Nat} (a b : Int32) : smI l D cA z0 SK SV yX8_share cX8_share 3 4 yX9_share cX9_share 3 6 [.int a, .int b] := sorry
theorem sm_shareBits {l : Launch} {D : va_G} {cA : FieldType → ClassId} {z0 : Nat} {SK SV : Nat → Nat} (a b : Int32) : smI l D cA z0 SK SV yX8_shareBits cX8_shareBits 3 4 yX9_shareBits cX9_shareBits 3 6 [.int a, .int b] := sorry
