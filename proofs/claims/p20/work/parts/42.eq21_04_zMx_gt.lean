theorem zMx_gt (a b c : Int64) : c < zMx a b ↔ c < a ∨ c < b := by
  unfold zMx
  grind
