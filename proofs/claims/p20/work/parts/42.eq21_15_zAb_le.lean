theorem zAb_le {x c : Int64} (hc : 0 ≤ c) (h : ¬ c < zAb x) (hx : -9223372036854775808 < x) : -c ≤ x ∧ x ≤ c := by
  unfold zAb at h
  by_cases d : 0 < x
  · rw [if_pos d] at h
    constructor <;> grind
  · rw [if_neg d] at h
    constructor <;> grind
