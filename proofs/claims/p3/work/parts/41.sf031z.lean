theorem zStR {R G St : Nat → Int32} {m : Int32} (h1 : ∀ x : Int32, 0 ≤ x → x < m → 1 ≤ St x.toNatClampNeg) (h2 : ∀ i : Nat, 1 ≤ St (G i).toNatClampNeg) (h : ∀ i : Nat, R i = G i ∨ 0 ≤ R i ∧ R i < m) (i : Nat) : 1 ≤ St (R i).toNatClampNeg := by
  rcases h i with q | q
  · rw [q]; exact h2 i
  · exact h1 _ q.1 q.2
