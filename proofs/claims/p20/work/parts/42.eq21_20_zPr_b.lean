theorem zPr_b (a b : Int64) : -5000000000000000 ≤ zPr a b 1 ∧ zPr a b 1 ≤ 5000000000000000 := by
  unfold zPr zFd
  rw [show (2000 * 1 : Int64) = 2000 by decide]
  have h := zdv2000 (2 * a * b + 1000 * 1)
  generalize (2 * a * b + 1000 * 1) = x at h ⊢
  generalize x / 2000 = q at h ⊢
  by_cases c : x - q * 2000 = 0
  · rw [if_pos c, Int64.mul_one]
    constructor <;> grind
  · rw [if_neg c]
    by_cases d : 0 ≤ x
    · rw [if_pos d, Int64.mul_one]
      constructor <;> grind
    · rw [if_neg d, Int64.mul_one]
      constructor <;> grind
