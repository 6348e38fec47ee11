/-! the reference's own words: a match with the table, from place k on -/
noncomputable def zMt (g : Nat → Int32) (s e k : Nat) : Prop := ∃ m : Nat, k + m < 71 ∧ zTab (k + m) = 0 ∧ s + m = e ∧ (∀ j : Nat, j < m → g (s + j) - 96 = zTab (k + j) ∧ ¬ zTab (k + j) = 0)
