/-- what a search makes: only where it wasn't ready before -/
noncomputable def zc (a b : Int32) (k : Nat) : Nat := if a = 0 then (if b = 1 then k else 0) else 0
theorem zc_le {a : Int32} (h : a = 0) (k : Nat) : k ≤ zc a 1 k := by
  subst h
  exact Nat.le_refl _
