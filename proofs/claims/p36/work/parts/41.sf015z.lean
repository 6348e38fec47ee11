/-! rows with one place changed -/
theorem zU1 {f : Nat → Int32} {k : Nat} {x : Int32} (h : 1 ≤ x) (i : Nat) : upd f k x i = f i ∨ 1 ≤ upd f k x i := by
  rw [zu_at]
  split
  · exact Or.inr h
  · exact Or.inl rfl
theorem zU1m {f : Nat → Int32} {k : Nat} (i : Nat) : upd f k (-1) i = f i ∨ upd f k (-1) i = (-1) := by
  rw [zu_at]
  split
  · exact Or.inr rfl
  · exact Or.inl rfl
theorem zU2 {F S : Nat → Int32} {v o y : Int32} (hF : 0 ≤ F v.toNatClampNeg ∧ F v.toNatClampNeg ≤ 4) (ho : o = 4 + F v.toNatClampNeg) (hy : 1 ≤ y) (x : Int32) (h0 : 0 ≤ x) (h1 : x < upd F v.toNatClampNeg (F v.toNatClampNeg + 1) v.toNatClampNeg) : x < F v.toNatClampNeg ∨ 1 ≤ upd S o.toNatClampNeg y (4 + x).toNatClampNeg := by
  rw [zu_at, if_pos rfl] at h1
  by_cases c : x < F v.toNatClampNeg
  · exact Or.inl c
  · have e : x = F v.toNatClampNeg := by lia
    rw [e, ← ho, zu_at, if_pos rfl]
    exact Or.inr hy
theorem zU3 {S : Nat → Int32} {o y : Int32} (ho : 4 ≤ o) (x : Int32) (h0 : 0 ≤ x) (h1 : x < 4) : upd S o.toNatClampNeg y x.toNatClampNeg = S x.toNatClampNeg := by
  rw [zu_at, if_neg]
  intro q
  have := zinj x o h0 (by lia) q
  lia
theorem zU4 {F : Nat → Int32} {v z : Int32} (hv : v = 1) : upd F v.toNatClampNeg z (0 : Int32).toNatClampNeg = F (0 : Int32).toNatClampNeg := by
  rw [hv, zu_at, if_neg (by decide +kernel)]
theorem zU5 {F G : Nat → Int32} {v : Int32} (hF : 0 ≤ F v.toNatClampNeg ∧ F v.toNatClampNeg ≤ 14) (hG : G (14 + F v.toNatClampNeg).toNatClampNeg = (-1)) (k : Int32) (h0 : 0 ≤ k) (h1 : k < upd F v.toNatClampNeg (F v.toNatClampNeg + 1) v.toNatClampNeg) : k < F v.toNatClampNeg ∨ G (14 + k).toNatClampNeg = (-1) := by
  rw [zu_at, if_pos rfl] at h1
  by_cases c : k < F v.toNatClampNeg
  · exact Or.inl c
  · have e : k = F v.toNatClampNeg := by lia
    rw [e]
    exact Or.inr hG
theorem zU6 {f : Nat → Int32} {o a x : Int32} (h : o = a) : upd f o.toNatClampNeg x a.toNatClampNeg = x := by
  rw [h, zu_at, if_pos rfl]
theorem zU7 {f : Nat → Int32} {k : Nat} {x a b : Int32} (hf : ∀ i : Nat, a ≤ f i ∧ f i ≤ b) (hx : a ≤ x ∧ x ≤ b) (i : Nat) : a ≤ upd f k x i ∧ upd f k x i ≤ b := by
  rw [zu_at]
  split
  · exact hx
  · exact hf i
theorem zU8 {f : Nat → Int32} {k : Nat} {x m : Int32} (h : 0 ≤ x ∧ x < m) (i : Nat) : upd f k x i = f i ∨ 0 ≤ upd f k x i ∧ upd f k x i < m := by
  rw [zu_at]
  split
  · exact Or.inr h
  · exact Or.inl rfl
theorem zO1 {P Q R : Nat → Prop} (h : ∀ i, P i ∨ Q i) (i : Nat) : P i ∨ Q i ∨ R i := (h i).elim Or.inl (fun q => Or.inr (Or.inl q))
theorem zO2 {P Q R : Nat → Prop} (h : ∀ i, P i ∨ R i) (i : Nat) : P i ∨ Q i ∨ R i := (h i).elim Or.inl (fun q => Or.inr (Or.inr q))
theorem zmin13 {a b : Int32} {r : Int64} (ha : 0 ≤ a ∧ a ≤ 13) (hb : 0 ≤ b ∧ b ≤ 13) (h : (b.toInt64 ≤ r ∧ r ≤ b.toInt64 ∧ b.toInt64 ≤ a.toInt64) ∨ (a.toInt64 ≤ r ∧ r ≤ a.toInt64 ∧ a.toInt64 < b.toInt64)) : 0 ≤ r.toInt32 ∧ r.toInt32 ≤ 13 := by
  rcases h with ⟨h1, h2, _⟩ | ⟨h1, h2, _⟩
  · rw [Int64.le_antisymm h2 h1, z64_32]; exact hb
  · rw [Int64.le_antisymm h2 h1, z64_32]; exact ha
