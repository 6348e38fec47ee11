/-! how far a box may grow: where a longer box PASSES, a shorter one does -/
theorem zFd_i {x : Int64} {X : Int} (hX : x.toInt = X) (h : -9000000000000000000 ≤ X ∧ X ≤ 9000000000000000000) : (zFd x 2000).toInt = X / 2000 := by
  have e2 : (2000 : Int64).toInt = 2000 := by decide +kernel
  have k : X.tdiv 2000 = X / 2000 ∧ 0 ≤ X ∨ X.tdiv 2000 = -((-X) / 2000) ∧ X < 0 := by
    by_cases c : 0 ≤ X
    · exact Or.inl ⟨Int.tdiv_eq_ediv_of_nonneg c, c⟩
    · refine Or.inr ⟨?_, by omega⟩
      obtain ⟨Y, hY⟩ : ∃ Y : Int, X = -Y := ⟨-X, by omega⟩
      rw [hY, Int.neg_tdiv, Int.tdiv_eq_ediv_of_nonneg (by omega), Int.neg_neg]
  have e4 : (x / 2000).toInt = X.tdiv 2000 := by
    rw [Int64.toInt_div_of_ne_right _ _ (by decide), hX, e2]
  generalize X.tdiv 2000 = q at k e4
  have e5 := zoL_mul (x := x / 2000) (y := 2000) (z := x / 2000 * 2000) rfl e4 e2 (by omega)
  have e6 := zoL_sub (x := x) (y := x / 2000 * 2000) (z := x - x / 2000 * 2000) rfl hX e5 (by omega)
  unfold zFd
  by_cases c : x - x / 2000 * 2000 = 0
  · rw [if_pos c, e4]
    rw [c, zl0] at e6
    omega
  · rw [if_neg c]
    have c' : ¬ (x - x / 2000 * 2000).toInt = 0 := fun q => c (Int64.toInt_inj.mp (by rw [q, zl0]))
    rw [e6] at c'
    by_cases d : 0 ≤ x
    · have d' := Int64.le_iff_toInt_le.mp d
      rw [zl0, hX] at d'
      rw [if_pos d, e4]
      omega
    · have d' : ¬ (0 : Int64).toInt ≤ x.toInt := fun q => d (Int64.le_iff_toInt_le.mpr q)
      rw [zl0, hX] at d'
      have e7 := zoL_sub (x := x / 2000) (y := 1) (z := x / 2000 - 1) rfl e4 (show (1 : Int64).toInt = 1 by decide +kernel) (by omega)
      rw [if_neg d, e7]
      omega
theorem zmab {A B M : Int} (hA : -M ≤ A ∧ A ≤ M) (hB : -M ≤ B ∧ B ≤ M) : -(M * M) ≤ A * B ∧ A * B ≤ M * M := by
  have h1 := Int.mul_nonneg (show 0 ≤ M - A by omega) (show 0 ≤ M + B by omega)
  have h2 := Int.mul_nonneg (show 0 ≤ M + A by omega) (show 0 ≤ M - B by omega)
  have h3 := Int.mul_nonneg (show 0 ≤ M - A by omega) (show 0 ≤ M - B by omega)
  have h4 := Int.mul_nonneg (show 0 ≤ M + A by omega) (show 0 ≤ M + B by omega)
  simp only [Int.sub_mul, Int.add_mul, Int.mul_sub, Int.mul_add] at h1 h2 h3 h4
  omega
theorem zmab9 {A B : Int} (hA : -1000000000 ≤ A ∧ A ≤ 1000000000) (hB : -1000000000 ≤ B ∧ B ≤ 1000000000) : -1000000000000000000 ≤ A * B ∧ A * B ≤ 1000000000000000000 := by
  have := zmab (M := 1000000000) hA hB
  omega
theorem zPr_i {a b : Int64} (hA : -1000000000 ≤ a.toInt ∧ a.toInt ≤ 1000000000) (hB : -1000000000 ≤ b.toInt ∧ b.toInt ≤ 1000000000) : (zPr a b 1).toInt = (2 * (a.toInt * b.toInt) + 1000) / 2000 := by
  have m := zmab9 hA hB
  have e1 := zoL_mul (x := 2) (y := a) (z := 2 * a) rfl (show (2 : Int64).toInt = 2 by decide +kernel) rfl (by omega)
  have e2 := zoL_mul (x := 2 * a) (y := b) (z := 2 * a * b) rfl e1 rfl (by rw [Int.mul_assoc]; omega)
  rw [Int.mul_assoc] at e2
  have e3 := zoL_add (x := 2 * a * b) (y := 1000) (z := 2 * a * b + 1000) rfl e2 zl1000 (by omega)
  unfold zPr
  rw [show (1000 * 1 : Int64) = 1000 by decide, show (2000 * 1 : Int64) = 2000 by decide, Int64.mul_one]
  exact zFd_i e3 (by omega)
theorem zLs_i (a b : Int64) : (zLs a b).toInt = a.toInt ∧ a.toInt ≤ b.toInt ∨ (zLs a b).toInt = b.toInt ∧ b.toInt ≤ a.toInt := by
  unfold zLs
  by_cases c : b < a
  · rw [if_pos c]
    have := Int64.lt_iff_toInt_lt.mp c
    exact Or.inr ⟨rfl, by omega⟩
  · rw [if_neg c]
    have c' : ¬ b.toInt < a.toInt := fun q => c (Int64.lt_iff_toInt_lt.mpr q)
    exact Or.inl ⟨rfl, by omega⟩
theorem zLs4 (a b c d : Int64) : ((zLs (zLs a b) (zLs c d)).toInt ≤ a.toInt ∧ (zLs (zLs a b) (zLs c d)).toInt ≤ b.toInt ∧ (zLs (zLs a b) (zLs c d)).toInt ≤ c.toInt ∧ (zLs (zLs a b) (zLs c d)).toInt ≤ d.toInt) ∧ ((zLs (zLs a b) (zLs c d)).toInt = a.toInt ∨ (zLs (zLs a b) (zLs c d)).toInt = b.toInt ∨ (zLs (zLs a b) (zLs c d)).toInt = c.toInt ∨ (zLs (zLs a b) (zLs c d)).toInt = d.toInt) := by
  have h1 := zLs_i a b
  have h2 := zLs_i c d
  have h3 := zLs_i (zLs a b) (zLs c d)
  generalize (zLs (zLs a b) (zLs c d)).toInt = w at h3 ⊢
  generalize (zLs a b).toInt = u at h1 h3
  generalize (zLs c d).toInt = v at h2 h3
  refine ⟨⟨?_, ?_, ?_, ?_⟩, ?_⟩ <;> omega
theorem zMx4 (a b c d : Int64) : (a.toInt ≤ (zMx (zMx a b) (zMx c d)).toInt ∧ b.toInt ≤ (zMx (zMx a b) (zMx c d)).toInt ∧ c.toInt ≤ (zMx (zMx a b) (zMx c d)).toInt ∧ d.toInt ≤ (zMx (zMx a b) (zMx c d)).toInt) ∧ ((zMx (zMx a b) (zMx c d)).toInt = a.toInt ∨ (zMx (zMx a b) (zMx c d)).toInt = b.toInt ∨ (zMx (zMx a b) (zMx c d)).toInt = c.toInt ∨ (zMx (zMx a b) (zMx c d)).toInt = d.toInt) := by
  have h1 := zMx_i a b
  have h2 := zMx_i c d
  have h3 := zMx_i (zMx a b) (zMx c d)
  generalize (zMx (zMx a b) (zMx c d)).toInt = w at h3 ⊢
  generalize (zMx a b).toInt = u at h1 h3
  generalize (zMx c d).toInt = v at h2 h3
  refine ⟨⟨?_, ?_, ?_, ?_⟩, ?_⟩ <;> omega
theorem zcor {x y c d : Int} (h : c ≤ y ∧ y ≤ d) : x * c ≤ x * y ∧ x * y ≤ x * d ∨ x * d ≤ x * y ∧ x * y ≤ x * c := by
  rcases Int.le_total 0 x with q | q
  · exact Or.inl ⟨Int.mul_le_mul_of_nonneg_left h.1 q, Int.mul_le_mul_of_nonneg_left h.2 q⟩
  · have h1 := Int.mul_le_mul_of_nonneg_left h.1 (show 0 ≤ -x by omega)
    have h2 := Int.mul_le_mul_of_nonneg_left h.2 (show 0 ≤ -x by omega)
    simp only [Int.neg_mul] at h1 h2
    exact Or.inr ⟨by omega, by omega⟩
/-- a product lies between those of the ends, also rounded -/
theorem zbil {a b c d x y : Int} (hx : a ≤ x ∧ x ≤ b) (hy : c ≤ y ∧ y ≤ d) : (a * c ≤ x * y ∨ a * d ≤ x * y ∨ b * c ≤ x * y ∨ b * d ≤ x * y) ∧ (x * y ≤ a * c ∨ x * y ≤ a * d ∨ x * y ≤ b * c ∨ x * y ≤ b * d) := by
  have h1 := zcor (x := x) hy
  have h2 := zcor (x := c) hx
  have h3 := zcor (x := d) hx
  rw [Int.mul_comm c a, Int.mul_comm c x, Int.mul_comm c b] at h2
  rw [Int.mul_comm d a, Int.mul_comm d x, Int.mul_comm d b] at h3
  generalize x * y = u at h1 h2 h3 ⊢
  generalize x * c = v at h1 h2
  generalize x * d = w at h1 h3
  refine ⟨?_, ?_⟩ <;> omega
theorem zbr {a b c d x y : Int64} (hx : a.toInt ≤ x.toInt ∧ x.toInt ≤ b.toInt) (hy : c.toInt ≤ y.toInt ∧ y.toInt ≤ d.toInt) (ha : -1000000000 ≤ a.toInt ∧ b.toInt ≤ 1000000000) (hc : -1000000000 ≤ c.toInt ∧ d.toInt ≤ 1000000000) : (zLs (zLs (zPr a c 1) (zPr a d 1)) (zLs (zPr b c 1) (zPr b d 1))).toInt ≤ (zPr x y 1).toInt ∧ (zPr x y 1).toInt ≤ (zMx (zMx (zPr a c 1) (zPr a d 1)) (zMx (zPr b c 1) (zPr b d 1))).toInt := by
  have h := zbil hx hy
  have l := (zLs4 (zPr a c 1) (zPr a d 1) (zPr b c 1) (zPr b d 1)).1
  have m := (zMx4 (zPr a c 1) (zPr a d 1) (zPr b c 1) (zPr b d 1)).1
  rw [zPr_i (a := a) (b := c) (by omega) (by omega), zPr_i (a := a) (b := d) (by omega) (by omega), zPr_i (a := b) (b := c) (by omega) (by omega), zPr_i (a := b) (b := d) (by omega) (by omega)] at l m
  rw [zPr_i (a := x) (b := y) (by omega) (by omega)]
  generalize (zLs (zLs (zPr a c 1) (zPr a d 1)) (zLs (zPr b c 1) (zPr b d 1))).toInt = L at l ⊢
  generalize (zMx (zMx (zPr a c 1) (zPr a d 1)) (zMx (zPr b c 1) (zPr b d 1))).toInt = M at m ⊢
  generalize a.toInt * c.toInt = p1 at h l m
  generalize a.toInt * d.toInt = p2 at h l m
  generalize b.toInt * c.toInt = p3 at h l m
  generalize b.toInt * d.toInt = p4 at h l m
  generalize x.toInt * y.toInt = p at h ⊢
  obtain ⟨h1, h2⟩ := h
  refine ⟨?_, ?_⟩
  · rcases h1 with h1 | h1 | h1 | h1 <;> omega
  · rcases h2 with h2 | h2 | h2 | h2 <;> omega
set_option maxHeartbeats 2000000 in
theorem zLoV_m {p : Int32} {a b c d a' b' c' d' : Int64} (h1 : -1000000000 ≤ a'.toInt ∧ a'.toInt ≤ a.toInt ∧ a.toInt ≤ b.toInt ∧ b.toInt ≤ b'.toInt ∧ b'.toInt ≤ 1000000000) (h2 : -1000000000 ≤ c'.toInt ∧ c'.toInt ≤ c.toInt ∧ c.toInt ≤ d.toInt ∧ d.toInt ≤ d'.toInt ∧ d'.toInt ≤ 1000000000) : (zLoV p a' b' c' d').toInt ≤ (zLoV p a b c d).toInt ∧ (zLoV p a b c d).toInt ≤ (zHiV p a b c d).toInt ∧ (zHiV p a b c d).toInt ≤ (zHiV p a' b' c' d').toInt ∧ -5000000000000000 ≤ (zLoV p a' b' c' d').toInt ∧ (zHiV p a' b' c' d').toInt ≤ 5000000000000000 := by
  unfold zLoV zHiV zAp
  by_cases c2 : p = 2
  · simp only [if_pos c2]
    have e1 := zoL_sub (x := a) (y := d) rfl rfl rfl (by omega)
    have e2 := zoL_sub (x := a') (y := d') rfl rfl rfl (by omega)
    have e3 := zoL_sub (x := b) (y := c) rfl rfl rfl (by omega)
    have e4 := zoL_sub (x := b') (y := c') rfl rfl rfl (by omega)
    refine ⟨?_, ?_, ?_, ?_, ?_⟩ <;> omega
  · simp only [if_neg c2]
    by_cases c3 : p = 3
    · simp only [if_pos c3]
      have v1 := zbr (x := a) (y := c) (a := a') (b := b') (c := c') (d := d') (by omega) (by omega) (by omega) (by omega)
      have v2 := zbr (x := a) (y := d) (a := a') (b := b') (c := c') (d := d') (by omega) (by omega) (by omega) (by omega)
      have v3 := zbr (x := b) (y := c) (a := a') (b := b') (c := c') (d := d') (by omega) (by omega) (by omega) (by omega)
      have v4 := zbr (x := b) (y := d) (a := a') (b := b') (c := c') (d := d') (by omega) (by omega) (by omega) (by omega)
      have l := zLs4 (zPr a c 1) (zPr a d 1) (zPr b c 1) (zPr b d 1)
      have m := zMx4 (zPr a c 1) (zPr a d 1) (zPr b c 1) (zPr b d 1)
      have l' := (zLs4 (zPr a' c' 1) (zPr a' d' 1) (zPr b' c' 1) (zPr b' d' 1)).2
      have m' := (zMx4 (zPr a' c' 1) (zPr a' d' 1) (zPr b' c' 1) (zPr b' d' 1)).2
      have w1 := zmab9 (A := a'.toInt) (B := c'.toInt) (by omega) (by omega)
      have w2 := zmab9 (A := a'.toInt) (B := d'.toInt) (by omega) (by omega)
      have w3 := zmab9 (A := b'.toInt) (B := c'.toInt) (by omega) (by omega)
      have w4 := zmab9 (A := b'.toInt) (B := d'.toInt) (by omega) (by omega)
      rw [zPr_i (a := a') (b := c') (by omega) (by omega), zPr_i (a := a') (b := d') (by omega) (by omega), zPr_i (a := b') (b := c') (by omega) (by omega), zPr_i (a := b') (b := d') (by omega) (by omega)] at l' m'
      generalize a'.toInt * c'.toInt = z1 at w1 l' m'
      generalize a'.toInt * d'.toInt = z2 at w2 l' m'
      generalize b'.toInt * c'.toInt = z3 at w3 l' m'
      generalize b'.toInt * d'.toInt = z4 at w4 l' m'
      generalize (zLs (zLs (zPr a' c' 1) (zPr a' d' 1)) (zLs (zPr b' c' 1) (zPr b' d' 1))).toInt = L' at v1 v2 v3 v4 l' ⊢
      generalize (zMx (zMx (zPr a' c' 1) (zPr a' d' 1)) (zMx (zPr b' c' 1) (zPr b' d' 1))).toInt = M' at v1 v2 v3 v4 m' ⊢
      generalize (zLs (zLs (zPr a c 1) (zPr a d 1)) (zLs (zPr b c 1) (zPr b d 1))).toInt = L at l ⊢
      generalize (zMx (zMx (zPr a c 1) (zPr a d 1)) (zMx (zPr b c 1) (zPr b d 1))).toInt = M at m ⊢
      generalize (zPr a c 1).toInt = r1 at v1 l m
      generalize (zPr a d 1).toInt = r2 at v2 l m
      generalize (zPr b c 1).toInt = r3 at v3 l m
      generalize (zPr b d 1).toInt = r4 at v4 l m
      clear h1 h2
      refine ⟨?_, ?_, ?_, ?_, ?_⟩
      · rcases l.2 with q | q | q | q <;> omega
      · omega
      · rcases m.2 with q | q | q | q <;> omega
      · rcases l' with q | q | q | q <;> omega
      · rcases m' with q | q | q | q <;> omega
    · simp only [if_neg c3]
      by_cases c1 : p = 1
      · simp only [if_pos c1]
        have e1 := zoL_add (x := a) (y := c) rfl rfl rfl (by omega)
        have e2 := zoL_add (x := a') (y := c') rfl rfl rfl (by omega)
        have e3 := zoL_add (x := b) (y := d) rfl rfl rfl (by omega)
        have e4 := zoL_add (x := b') (y := d') rfl rfl rfl (by omega)
        refine ⟨?_, ?_, ?_, ?_, ?_⟩ <;> omega
      · simp only [if_neg c1]
        by_cases c4 : p = 4
        · simp only [if_pos c4]
          have e1 := zLs_i a c
          have e2 := zLs_i a' c'
          have e3 := zLs_i b d
          have e4 := zLs_i b' d'
          refine ⟨?_, ?_, ?_, ?_, ?_⟩ <;> omega
        · simp only [if_neg c4]
          have e1 := zMx_i a c
          have e2 := zMx_i a' c'
          have e3 := zMx_i b d
          have e4 := zMx_i b' d'
          refine ⟨?_, ?_, ?_, ?_, ?_⟩ <;> omega
/-- the narrower RANGE lies in the wider one -/
noncomputable def zIn (lo hi LO HI : Nat → Int64) (m : Int32) : Prop := -1000000000 ≤ (LO m.toNatClampNeg).toInt ∧ (LO m.toNatClampNeg).toInt ≤ (lo m.toNatClampNeg).toInt ∧ (lo m.toNatClampNeg).toInt ≤ (hi m.toNatClampNeg).toInt ∧ (hi m.toNatClampNeg).toInt ≤ (HI m.toNatClampNeg).toInt ∧ (HI m.toNatClampNeg).toInt ≤ 1000000000
theorem zVal_m {m a : Int32} {lo hi LO HI : Nat → Int64} (ha : (-10000000) ≤ a ∧ a ≤ 10000000) (h : m = (-1) ∨ zIn lo hi LO HI m) : -1000000000 ≤ (zVal m a LO).toInt ∧ (zVal m a LO).toInt ≤ (zVal m a lo).toInt ∧ (zVal m a lo).toInt ≤ (zVal m a hi).toInt ∧ (zVal m a hi).toInt ≤ (zVal m a HI).toInt ∧ (zVal m a HI).toInt ≤ 1000000000 := by
  have k1 := Int32.le_iff_toInt_le.mp ha.1
  have k2 := Int32.le_iff_toInt_le.mp ha.2
  rw [show (-10000000 : Int32).toInt = -10000000 by decide +kernel] at k1
  rw [show (10000000 : Int32).toInt = 10000000 by decide +kernel] at k2
  by_cases c : m = (-1)
  · have e : ∀ row : Nat → Int64, (zVal m a row).toInt = a.toInt := fun row => by unfold zVal; rw [if_pos c, z64_i]
    rw [e, e, e, e]
    omega
  · have e : ∀ row : Nat → Int64, zVal m a row = row m.toNatClampNeg := fun row => by unfold zVal; rw [if_neg c]
    rw [e, e, e, e]
    exact h.resolve_left c
theorem zAw_m {m a : Int32} {lo hi LO HI : Nat → Int64} (ha : (-10000000) ≤ a ∧ a ≤ 10000000) (h : m = (-1) ∨ zIn lo hi LO HI m) : 0 ≤ (zAw m a lo hi).toInt ∧ (zAw m a lo hi).toInt ≤ (zAw m a LO HI).toInt ∧ (zAw m a LO HI).toInt ≤ 1000000000 := by
  have v := zVal_m ha h
  unfold zAw
  have a1 := zAb_i (x := zVal m a lo) (by omega)
  have a2 := zAb_i (x := zVal m a hi) (by omega)
  have a3 := zAb_i (x := zVal m a LO) (by omega)
  have a4 := zAb_i (x := zVal m a HI) (by omega)
  have m1 := zMx_i (zAb (zVal m a lo)) (zAb (zVal m a hi))
  have m2 := zMx_i (zAb (zVal m a LO)) (zAb (zVal m a HI))
  generalize (zMx (zAb (zVal m a lo)) (zAb (zVal m a hi))).toInt = u1 at m1 ⊢
  generalize (zMx (zAb (zVal m a LO)) (zAb (zVal m a HI))).toInt = u2 at m2 ⊢
  refine ⟨?_, ?_, ?_⟩ <;> omega
theorem zCe_m {s : Int32} {own e e' : Int64} {m a : Int32} (hs : 1 ≤ s ∧ s ≤ 1000000) (h : m = (-1) ∨ (0 ≤ e.toInt ∧ e.toInt ≤ e'.toInt ∧ e'.toInt ≤ 1000000000)) : 0 ≤ (zCe s.toInt64 m a own e).toInt ∧ (zCe s.toInt64 m a own e).toInt ≤ (zCe s.toInt64 m a own e').toInt ∧ (zCe s.toInt64 m a own e').toInt ≤ 2000000000 := by
  have b1 := zCe_b (a := a) (own := own) hs (h.imp id (fun q => (⟨q.1, by omega⟩ : 0 ≤ e.toInt ∧ e.toInt ≤ 1000000000)))
  have b2 := zCe_b (a := a) (own := own) hs (h.imp id (fun q => (⟨by omega, q.2.2⟩ : 0 ≤ e'.toInt ∧ e'.toInt ≤ 1000000000)))
  refine ⟨b1.1, ?_, b2.2⟩
  have hh := zhf_b hs
  clear b1 b2
  by_cases c : m = (-1)
  · have q : ∀ v : Int64, zCe s.toInt64 m a own v = if a.toInt64 - a.toInt64 / s.toInt64 * s.toInt64 = 0 then 0 else s.toInt64 / 2 := fun v => by unfold zCe; rw [if_pos c]
    rw [q e, q e']
    exact Int.le_refl _
  · have q : ∀ v : Int64, zCe s.toInt64 m a own v = if own - own / s.toInt64 * s.toInt64 = 0 then v else v + s.toInt64 / 2 := fun v => by unfold zCe; rw [if_neg c]
    rw [q e, q e']
    have h := h.resolve_left c
    by_cases d : own - own / s.toInt64 * s.toInt64 = 0
    · rw [if_pos d, if_pos d]; exact h.2.1
    · rw [if_neg d, if_neg d]
      have s1 := zoL_add (x := e) (y := s.toInt64 / 2) rfl rfl rfl (by omega)
      have s2 := zoL_add (x := e') (y := s.toInt64 / 2) rfl rfl rfl (by omega)
      omega
theorem zV_i {a b x y : Int64} (ha : 0 ≤ a.toInt ∧ a.toInt ≤ 2000000000) (hb : 0 ≤ b.toInt ∧ b.toInt ≤ 2000000000) (hx : 0 ≤ x.toInt ∧ x.toInt ≤ 1000000000) (hy : 0 ≤ y.toInt ∧ y.toInt ≤ 1000000000) : (x * b + y * a + a * b).toInt = x.toInt * b.toInt + y.toInt * a.toInt + a.toInt * b.toInt := by
  have p1 : 0 ≤ x.toInt * b.toInt ∧ x.toInt * b.toInt ≤ 1000000000 * 2000000000 := ⟨Int.mul_nonneg hx.1 hb.1, Int.mul_le_mul hx.2 hb.2 hb.1 (by omega)⟩
  have p2 : 0 ≤ y.toInt * a.toInt ∧ y.toInt * a.toInt ≤ 1000000000 * 2000000000 := ⟨Int.mul_nonneg hy.1 ha.1, Int.mul_le_mul hy.2 ha.2 ha.1 (by omega)⟩
  have p3 : 0 ≤ a.toInt * b.toInt ∧ a.toInt * b.toInt ≤ 2000000000 * 2000000000 := ⟨Int.mul_nonneg ha.1 hb.1, Int.mul_le_mul ha.2 hb.2 hb.1 (by omega)⟩
  have m1 := zoL_mul (x := x) (y := b) rfl rfl rfl (by omega)
  have m2 := zoL_mul (x := y) (y := a) rfl rfl rfl (by omega)
  have m3 := zoL_mul (x := a) (y := b) rfl rfl rfl (by omega)
  have s1 := zoL_add (x := x * b) (y := y * a) rfl m1 m2 (by omega)
  exact zoL_add (x := x * b + y * a) (y := a * b) rfl s1 m3 (by omega)
theorem zEr_m {p s : Int32} {a b x y a' b' x' y' : Int64} (hs : 1 ≤ s ∧ s ≤ 1000000) (ha : 0 ≤ a.toInt ∧ a.toInt ≤ a'.toInt ∧ a'.toInt ≤ 2000000000) (hb : 0 ≤ b.toInt ∧ b.toInt ≤ b'.toInt ∧ b'.toInt ≤ 2000000000) (hx : 0 ≤ x.toInt ∧ x.toInt ≤ x'.toInt ∧ x'.toInt ≤ 1000000000) (hy : 0 ≤ y.toInt ∧ y.toInt ≤ y'.toInt ∧ y'.toInt ≤ 1000000000) : (zEr p s.toInt64 a b x y).toInt ≤ (zEr p s.toInt64 a' b' x' y').toInt := by
  have hh := zhf_b hs
  by_cases c0 : p = 0
  · have q : ∀ u v w z : Int64, zEr p s.toInt64 u v w z = s.toInt64 / 2 := fun u v w z => by unfold zEr; rw [if_pos c0]
    rw [q a b x y, q a' b' x' y']
    exact Int.le_refl _
  · by_cases c1 : p = 1 ∨ p = 2
    · have q : ∀ u v w z : Int64, zEr p s.toInt64 u v w z = u + v := fun u v w z => by unfold zEr; rw [if_neg c0, if_pos c1]
      rw [q a b x y, q a' b' x' y']
      have s1 := zoL_add (x := a) (y := b) rfl rfl rfl (by omega)
      have s2 := zoL_add (x := a') (y := b') rfl rfl rfl (by omega)
      omega
    · by_cases c3 : p = 3
      · have q : ∀ u v w z : Int64, zEr p s.toInt64 u v w z = -zFd (-(w * v + z * u + u * v)) 1000 + s.toInt64 / 2 + 1 := fun u v w z => by unfold zEr; rw [if_neg c0, if_neg c1, if_pos c3]
        rw [q a b x y, q a' b' x' y']
        have v := zV_b (a := a) (b := b) (x := x) (y := y) ⟨ha.1, by omega⟩ ⟨hb.1, by omega⟩ ⟨hx.1, by omega⟩ ⟨hy.1, by omega⟩
        have v' := zV_b (a := a') (b := b') (x := x') (y := y') ⟨by omega, ha.2.2⟩ ⟨by omega, hb.2.2⟩ ⟨by omega, hx.2.2⟩ ⟨by omega, hy.2.2⟩
        have i := zV_i (a := a) (b := b) (x := x) (y := y) ⟨ha.1, by omega⟩ ⟨hb.1, by omega⟩ ⟨hx.1, by omega⟩ ⟨hy.1, by omega⟩
        have i' := zV_i (a := a') (b := b') (x := x') (y := y') ⟨by omega, ha.2.2⟩ ⟨by omega, hb.2.2⟩ ⟨by omega, hx.2.2⟩ ⟨by omega, hy.2.2⟩
        have z := zceil v.1 (by omega)
        have z' := zceil v'.1 (by omega)
        rw [← z.1, ← z'.1]
        have m1 : x.toInt * b.toInt ≤ x'.toInt * b'.toInt := Int.mul_le_mul hx.2.1 hb.2.1 hb.1 (by omega)
        have m2 : y.toInt * a.toInt ≤ y'.toInt * a'.toInt := Int.mul_le_mul hy.2.1 ha.2.1 ha.1 (by omega)
        have m3 : a.toInt * b.toInt ≤ a'.toInt * b'.toInt := Int.mul_le_mul ha.2.1 hb.2.1 hb.1 (by omega)
        have V1 : (x * b + y * a + a * b).toInt ≤ (x' * b' + y' * a' + a' * b').toInt := by rw [i, i']; omega
        clear i i' m1 m2 m3
        generalize (x * b + y * a + a * b) = V at v z V1 ⊢
        generalize (x' * b' + y' * a' + a' * b') = V' at v' z' V1 ⊢
        have s1 := zoL_add (x := (V + 999) / 1000) (y := s.toInt64 / 2) rfl z.2 rfl (by omega)
        have s2 := zoL_add (x := (V + 999) / 1000 + s.toInt64 / 2) (y := 1) rfl s1 (show (1 : Int64).toInt = 1 by decide +kernel) (by omega)
        have t1 := zoL_add (x := (V' + 999) / 1000) (y := s.toInt64 / 2) rfl z'.2 rfl (by omega)
        have t2 := zoL_add (x := (V' + 999) / 1000 + s.toInt64 / 2) (y := 1) rfl t1 (show (1 : Int64).toInt = 1 by decide +kernel) (by omega)
        rw [s2, t2]
        omega
      · have q : ∀ u v w z : Int64, zEr p s.toInt64 u v w z = zMx u v := fun u v w z => by unfold zEr; rw [if_neg c0, if_neg c1, if_neg c3]
        rw [q a b x y, q a' b' x' y']
        have m1 := zMx_i a b
        have m2 := zMx_i a' b'
        omega
theorem zAmt_m {L H L2 H2 E E2 M : Int64} (l1 : L2.toInt ≤ L.toInt) (l2 : L.toInt ≤ H.toInt) (l3 : H.toInt ≤ H2.toInt) (b1 : -1000000000 ≤ L2.toInt) (b2 : H2.toInt ≤ 1000000000) (e0 : 0 ≤ E.toInt) (e1 : E.toInt ≤ E2.toInt) (e2 : E2.toInt ≤ 1000000000) (h : zMx (zAb L2) (zAb H2) + E2 ≤ M) : zMx (zAb L) (zAb H) + E ≤ M := by
  have a1 := zAb_i (x := L) (by omega)
  have a2 := zAb_i (x := H) (by omega)
  have a3 := zAb_i (x := L2) (by omega)
  have a4 := zAb_i (x := H2) (by omega)
  have m1 := zMx_i (zAb L) (zAb H)
  have m2 := zMx_i (zAb L2) (zAb H2)
  have u1 : 0 ≤ (zMx (zAb L) (zAb H)).toInt ∧ (zMx (zAb L) (zAb H)).toInt ≤ (zMx (zAb L2) (zAb H2)).toInt ∧ (zMx (zAb L2) (zAb H2)).toInt ≤ 1000000000 := by
    refine ⟨?_, ?_, ?_⟩ <;> omega
  clear a1 a2 a3 a4 m1 m2
  have s1 := zoL_add (x := zMx (zAb L) (zAb H)) (y := E) rfl rfl rfl (by omega)
  have s2 := zoL_add (x := zMx (zAb L2) (zAb H2)) (y := E2) rfl rfl rfl (by omega)
  have k := Int64.le_iff_toInt_le.mp h
  apply Int64.le_iff_toInt_le.mpr
  omega
set_option maxHeartbeats 2000000 in
theorem zLH_m {i wn cF : Int32} {mb mb' : Int64} {nN op fx al made amt lets mNN mO m1 m2 mX mW : Nat → Int32} {mA mB lo hi LO HI : Nat → Int64} (hk : zN01 i cF nN op fx al made amt lets mNN mO m1 m2 mX mW mA mB) (pa : made (2 * i + 0).toNatClampNeg = (-1) ∨ zIn lo hi LO HI (made (2 * i + 0).toNatClampNeg)) (pb : made (2 * i + 1).toNatClampNeg = (-1) ∨ zIn lo hi LO HI (made (2 * i + 1).toNatClampNeg)) (hw : op wn.toNatClampNeg = 0 ∧ 0 ≤ mb.toInt ∧ mb.toInt ≤ mb'.toInt ∧ mb'.toInt ≤ 10000000) : (zLw i op made amt LO HI - (if i = wn then mb' else 0)).toInt ≤ (zLw i op made amt lo hi - (if i = wn then mb else 0)).toInt ∧ (zLw i op made amt lo hi - (if i = wn then mb else 0)).toInt ≤ (zHg i op made amt lo hi + (if i = wn then mb else 0)).toInt ∧ (zHg i op made amt lo hi + (if i = wn then mb else 0)).toInt ≤ (zHg i op made amt LO HI + (if i = wn then mb' else 0)).toInt ∧ -6000000000000000 ≤ (zLw i op made amt LO HI - (if i = wn then mb' else 0)).toInt ∧ (zHg i op made amt LO HI + (if i = wn then mb' else 0)).toInt ≤ 6000000000000000 := by
  obtain ⟨q1, q2, q3, q4, q5, q6, q7, q8, q9, q10, q11, q12, q13, q14, q15, q16, q17⟩ := hk
  by_cases c0 : op i.toNatClampNeg = 0
  · have eL : ∀ u v : Nat → Int64, zLw i op made amt u v = (amt (2 * i + 0).toNatClampNeg).toInt64 := fun u v => by unfold zLw; rw [if_pos c0]
    have eH : ∀ u v : Nat → Int64, zHg i op made amt u v = (amt (2 * i + 1).toNatClampNeg).toInt64 := fun u v => by unfold zHg; rw [if_pos c0]
    rw [eL LO HI, eL lo hi, eH LO HI, eH lo hi]
    have k1 := Int32.le_iff_toInt_le.mp q14.1
    have k2 := Int32.le_iff_toInt_le.mp q14.2
    have k3 := Int32.le_iff_toInt_le.mp q15.1
    have k4 := Int32.le_iff_toInt_le.mp q15.2
    have k5 := Int32.le_iff_toInt_le.mp (q16 c0).2.2
    rw [show (-10000000 : Int32).toInt = -10000000 by decide +kernel] at k1 k3
    rw [show (10000000 : Int32).toInt = 10000000 by decide +kernel] at k2 k4
    have b1 : 0 ≤ (if i = wn then mb else 0).toInt ∧ (if i = wn then mb else 0).toInt ≤ (if i = wn then mb' else 0).toInt ∧ (if i = wn then mb' else 0).toInt ≤ 10000000 := by
      by_cases d : i = wn
      · rw [if_pos d, if_pos d]; exact hw.2
      · rw [if_neg d, if_neg d, zl0]; omega
    generalize (if i = wn then mb else 0) = y at b1 ⊢
    generalize (if i = wn then mb' else 0) = y' at b1 ⊢
    have g1 := z64_i (amt (2 * i + 0).toNatClampNeg)
    have g2 := z64_i (amt (2 * i + 1).toNatClampNeg)
    generalize (amt (2 * i + 0).toNatClampNeg).toInt = v1 at *
    generalize (amt (2 * i + 1).toNatClampNeg).toInt = v2 at *
    generalize (amt (2 * i + 0).toNatClampNeg).toInt64 = w1 at *
    generalize (amt (2 * i + 1).toNatClampNeg).toInt64 = w2 at *
    have s1 := zoL_sub (x := w1) (y := y) rfl g1 rfl (by omega)
    have s2 := zoL_sub (x := w1) (y := y') rfl g1 rfl (by omega)
    have s3 := zoL_add (x := w2) (y := y) rfl g2 rfl (by omega)
    have s4 := zoL_add (x := w2) (y := y') rfl g2 rfl (by omega)
    rw [s1, s2, s3, s4]
    refine ⟨?_, ?_, ?_, ?_, ?_⟩ <;> omega
  · have d : ¬ i = wn := fun w => c0 (by rw [w]; exact hw.1)
    rw [if_neg d, if_neg d, Int64.sub_zero, Int64.sub_zero, Int64.add_zero, Int64.add_zero]
    have eL : ∀ u v : Nat → Int64, zLw i op made amt u v = zLoV (op i.toNatClampNeg) (zVal (made (2 * i + 0).toNatClampNeg) (amt (2 * i + 0).toNatClampNeg) u) (zVal (made (2 * i + 0).toNatClampNeg) (amt (2 * i + 0).toNatClampNeg) v) (zVal (made (2 * i + 1).toNatClampNeg) (amt (2 * i + 1).toNatClampNeg) u) (zVal (made (2 * i + 1).toNatClampNeg) (amt (2 * i + 1).toNatClampNeg) v) := fun u v => by unfold zLw; rw [if_neg c0]
    have eH : ∀ u v : Nat → Int64, zHg i op made amt u v = zHiV (op i.toNatClampNeg) (zVal (made (2 * i + 0).toNatClampNeg) (amt (2 * i + 0).toNatClampNeg) u) (zVal (made (2 * i + 0).toNatClampNeg) (amt (2 * i + 0).toNatClampNeg) v) (zVal (made (2 * i + 1).toNatClampNeg) (amt (2 * i + 1).toNatClampNeg) u) (zVal (made (2 * i + 1).toNatClampNeg) (amt (2 * i + 1).toNatClampNeg) v) := fun u v => by unfold zHg; rw [if_neg c0]
    rw [eL LO HI, eL lo hi, eH LO HI, eH lo hi]
    obtain ⟨m1, m2, m3, m4, m5⟩ := zLoV_m (p := op i.toNatClampNeg) (zVal_m q14 pa) (zVal_m q15 pb)
    exact ⟨m1, m2, m3, by omega, by omega⟩
set_option maxHeartbeats 8000000 in
theorem zMono {cF cc cN inp : Int32} {nF nN stp mst prc al made amt op fx jn lets gof mF mN mCst mNF mNN mS mM mC mW mO m1 m2 mX mG mTr : Nat → Int32} {mA mB : Nat → Int64} {wn : Int32} {mb mb' : Int64} {lo hi LO HI er0 er1 : Nat → Int64} {ch wd wd' : Nat → Int32} {x x' : Int32 × Int32 × Int32 × (Nat → Int64)} (T : zTN cF cc cN inp nF nN stp mst prc al made amt op fx jn lets mF mN mNF mNN mS mM mC mW mCst mO m1 m2 mX mG mA mB) (R : zRN cN wn mb op made amt wd lo hi) (R' : zRN cN wn mb' op made amt wd' LO HI) (hw : op wn.toNatClampNeg = 0 ∧ 0 ≤ mb.toInt ∧ mb.toInt ≤ mb'.toInt ∧ mb'.toInt ≤ 10000000) (C : zCh cN cF gof ch mTr) (h1 : fn_X7_reckon cF cN gof ch stp op made er0 amt lo hi mst al = some x) (h2 : fn_X7_reckon cF cN gof ch stp op made er1 amt LO HI mst al = some x') (e : ¬ x'.1 = 0) : x.1 = 1 := by
  obtain ⟨⟨f1, f2, f3⟩, ⟨n1, n2, n3⟩, hC, hz, hp, hI, hf, hn, hg⟩ := T
  have hs : ∀ f : Int32, 0 ≤ f → f < cF → 1 ≤ stp f.toNatClampNeg := fun f f0 f1 => (hf f f0 f1).2.2.2.2.1.1
  unfold fn_X7_reckon at h1 h2
  revert e
  refine zl_ip2 (P := fun x x' => ¬ x'.1 = 0 → x.1 = 1) (fun s t => t.1 = s.1 ∧ 0 ≤ s.1 ∧ s.1 ≤ cN ∧ s.2.1 = 0 ∧ t.2.1 = 0 ∧ (∀ j : Int32, 0 ≤ j → j < s.1 → (0 ≤ (s.2.2 j.toNatClampNeg).toInt ∧ (s.2.2 j.toNatClampNeg).toInt ≤ (t.2.2 j.toNatClampNeg).toInt ∧ (t.2.2 j.toNatClampNeg).toInt ≤ 1000000000) ∧ zIn lo hi LO HI j)) ?_ _ _ _ _ _ _ ?_ h1 h2
  rotate_left
  · exact ⟨rfl, (show (0 : Int32) ≤ 0 by decide), n2, rfl, rfl, fun j j0 j1 => absurd j1 (by show ¬ j < 0; grind)⟩
  intro s t k1 k2 o1 o2 ⟨R1, R2, R3, R4, R5, R7⟩ hb ho1 ho2
  obtain ⟨i, rs, er⟩ := s
  obtain ⟨k, rt, em⟩ := t
  dsimp only at R1 R2 R3 R4 R5 R7 ho1 ho2
  subst R1 R4 R5
  by_cases c : cN ≤ k
  · rw [if_pos c] at ho1
    rw [← Option.some.inj ho1]
    exact fun _ => rfl
  · rw [if_neg c] at ho1 ho2
    have hk : 0 ≤ k ∧ k < cN := ⟨R2, Int32.not_le.mp c⟩
    have h14 : 0 ≤ k ∧ k < 14 := ⟨R2, zW2 hk.2 n3⟩
    have hn1 := hn k hk.1 hk.2
    obtain ⟨-, -, t1, t2⟩ := C k hk.1 hk.2
    obtain ⟨-, g2, g3, -, g5, g6, -⟩ := hf _ t1 t2
    have ok := zOk_of hn1
    obtain ⟨q1, q2, q3, q4, q5, q6, q7, q8, q9, q10, q11, q12, q13, q14, q15, q16, q17⟩ := hn k hk.1 hk.2
    have part : ∀ m : Int32, (-1) ≤ m → m < k → m = (-1) ∨ ((0 ≤ (er m.toNatClampNeg).toInt ∧ (er m.toNatClampNeg).toInt ≤ (em m.toNatClampNeg).toInt ∧ (em m.toNatClampNeg).toInt ≤ 1000000000) ∧ zIn lo hi LO HI m) := by
      intro m m0 m1
      by_cases w : m = (-1)
      · exact Or.inl w
      · exact Or.inr (R7 m (zW1 m0 w).1 m1)
    have pa := part _ q12.1 q12.2
    have pb := part _ q13.1 q13.2
    obtain ⟨E, E2, eJ, eJ2, bE1, bE2, bE3⟩ : ∃ E E2 : Int64, fn_X7_errorOf k cF cN gof ch stp op made er amt lo hi = some E ∧ fn_X7_errorOf k cF cN gof ch stp op made em amt LO HI = some E2 ∧ 0 ≤ E.toInt ∧ E.toInt ≤ E2.toInt ∧ E2.toInt ≤ 9000000000000000 := by
      have ha := zCe_m (a := amt (2 * k + 0).toNatClampNeg) (own := (stp (mTr (made (2 * k + 0).toNatClampNeg).toNatClampNeg).toNatClampNeg).toInt64) g5 (pa.imp id (fun q => q.1))
      have hb' := zCe_m (a := amt (2 * k + 1).toNatClampNeg) (own := (stp (mTr (made (2 * k + 1).toNatClampNeg).toNatClampNeg).toNatClampNeg).toInt64) g5 (pb.imp id (fun q => q.1))
      have hxx := zAw_m q14 (pa.imp id (fun q => q.2))
      have hyy := zAw_m q15 (pb.imp id (fun q => q.2))
      have na := Int.le_trans ha.2.1 ha.2.2
      have nb := Int.le_trans hb'.2.1 hb'.2.2
      have nx := Int.le_trans hxx.2.1 hxx.2.2
      have ny := Int.le_trans hyy.2.1 hyy.2.2
      have wa := Int.le_trans ha.1 ha.2.1
      have wb := Int.le_trans hb'.1 hb'.2.1
      have wx := Int.le_trans hxx.1 hxx.2.1
      have wy := Int.le_trans hyy.1 hyy.2.1
      have eJ := zErJ (amt := amt) (er := er) (lo := lo) (hi := hi) n3 (Int32.le_refl _) f3 C hk hs ok (fun _ a b x y ea eb ex ey => by
        have v := zV_b (a := a) (b := b) (x := x) (y := y) (by rw [ea]; exact ⟨ha.1, na⟩) (by rw [eb]; exact ⟨hb'.1, nb⟩) (by rw [ex]; exact ⟨hxx.1, nx⟩) (by rw [ey]; exact ⟨hyy.1, ny⟩)
        exact ⟨v.1, by have := v.2; omega⟩)
      have eJ2 := zErJ (amt := amt) (er := em) (lo := LO) (hi := HI) n3 (Int32.le_refl _) f3 C hk hs ok (fun _ a b x y ea eb ex ey => by
        have v := zV_b (a := a) (b := b) (x := x) (y := y) (by rw [ea]; exact ⟨wa, ha.2.2⟩) (by rw [eb]; exact ⟨wb, hb'.2.2⟩) (by rw [ex]; exact ⟨wx, hxx.2.2⟩) (by rw [ey]; exact ⟨wy, hyy.2.2⟩)
        exact ⟨v.1, by have := v.2; omega⟩)
      have b1 := zEr_b (p := op k.toNatClampNeg) g5 ⟨ha.1, na⟩ ⟨hb'.1, nb⟩ ⟨hxx.1, nx⟩ ⟨hyy.1, ny⟩
      have b2 := zEr_b (p := op k.toNatClampNeg) g5 ⟨wa, ha.2.2⟩ ⟨wb, hb'.2.2⟩ ⟨wx, hxx.2.2⟩ ⟨wy, hyy.2.2⟩
      exact ⟨_, _, eJ, eJ2, b1.1, zEr_m g5 ha hb' hxx hyy, b2.2⟩
    obtain ⟨L, H, L2, H2, r1, r2, y1, y2, l1, l2, l3, l4, l5⟩ : ∃ L H L2 H2 : Int64, lo k.toNatClampNeg = zHd L ∧ hi k.toNatClampNeg = zHd H ∧ LO k.toNatClampNeg = zHd L2 ∧ HI k.toNatClampNeg = zHd H2 ∧ L2.toInt ≤ L.toInt ∧ L.toInt ≤ H.toInt ∧ H.toInt ≤ H2.toInt ∧ -6000000000000000 ≤ L2.toInt ∧ H2.toInt ≤ 6000000000000000 :=
      ⟨_, _, _, _, (R k hk.1 hk.2).1, (R k hk.1 hk.2).2.1, (R' k hk.1 hk.2).1, (R' k hk.1 hk.2).2.1, zLH_m hn1 (pa.imp id (fun q => q.2)) (pb.imp id (fun q => q.2)) hw⟩
    rw [eJ, zb_some] at ho1
    rw [eJ2, zb_some] at ho2
    obtain ⟨-, ho1⟩ := zg_s ho1
    obtain ⟨-, ho2⟩ := zg_s ho2
    rw [zFmtOf n3 C hk, zb_some, zMstOf f3 ⟨t1, t2⟩, zb_some, zAmtOf h14, zb_some] at ho1 ho2
    have eE1 : vp_updL er k.toNatClampNeg E k.toNatClampNeg = E := by rw [zupL R2 R2, if_pos rfl]
    have eE2 : vp_updL em k.toNatClampNeg E2 k.toNatClampNeg = E2 := by rw [zupL R2 R2, if_pos rfl]
    rw [eE1] at ho1
    rw [eE2] at ho2
    simp only [zn, zj] at ho1 ho2
    have bM : (mst (mTr k.toNatClampNeg).toNatClampNeg).toInt ≤ 1000000000 := by
      have := Int32.le_iff_toInt_le.mp g6.2
      rw [show (1000000000 : Int32).toInt = 1000000000 by decide +kernel] at this
      exact this
    have A2 := zAm_eq (M := mst (mTr k.toNatClampNeg).toNatClampNeg) (L := L2) (H := H2) (E := E2) ⟨l4, by omega⟩ ⟨by omega, l5⟩ ⟨by omega, bE3⟩ bM
    have A1 := zAm_eq (M := mst (mTr k.toNatClampNeg).toNatClampNeg) (L := L) (H := H) (E := E) ⟨by omega, by omega⟩ ⟨by omega, by omega⟩ ⟨bE1, by omega⟩ bM
    rw [← y1, ← y2] at A2
    rw [← r1, ← r2] at A1
    by_cases d : zMx (zAb (LO k.toNatClampNeg)) (zAb (HI k.toNatClampNeg)) + E2 ≤ (mst (mTr k.toNatClampNeg).toNatClampNeg).toInt64
    · have d2 := A2.1.mp d
      obtain ⟨w1, w2, w3, w4, w5⟩ := A2.2 d2
      have d1 := zAmt_m l1 l2 l3 w3.1 w4.2 bE1 bE2 w5 d2
      obtain ⟨v1, v2, v3, v4, v5⟩ := A1.2 d1
      have d3 := A1.1.mpr d1
      rw [if_pos ((lg_cmp_le _ _).mpr d), zIsAns n3 hk, zb_some] at ho2
      rw [if_pos ((lg_cmp_le _ _).mpr d3), zIsAns n3 hk, zb_some] at ho1
      have go : k1 (k + 1, 0, vp_updL er k.toNatClampNeg E) = some o1 → k2 (k + 1, 0, vp_updL em k.toNatClampNeg E2) = some o2 → ¬ o2.1 = 0 → o1.1 = 1 := by
        intro z1 z2
        refine hb _ _ _ _ ?_ z1 z2
        refine ⟨rfl, (zN14 hk.1 hk.2 n3).2.2.2.2.1, (zN14 hk.1 hk.2 n3).2.2.2.2.2, rfl, rfl, fun j j0 j1 => ?_⟩
        have j1 : j < k + 1 := j1
        show (0 ≤ (vp_updL er k.toNatClampNeg E j.toNatClampNeg).toInt ∧ (vp_updL er k.toNatClampNeg E j.toNatClampNeg).toInt ≤ (vp_updL em k.toNatClampNeg E2 j.toNatClampNeg).toInt ∧ (vp_updL em k.toNatClampNeg E2 j.toNatClampNeg).toInt ≤ 1000000000) ∧ zIn lo hi LO HI j
        by_cases w : j = k
        · subst w
          rw [zupL j0 j0, zupL j0 j0, if_pos rfl, if_pos rfl]
          refine ⟨⟨bE1, bE2, w5⟩, ?_⟩
          unfold zIn
          rw [v1, v2, w1, w2]
          exact ⟨w3.1, l1, l2, l3, w4.2⟩
        · rw [zupL R2 j0, zupL R2 j0, if_neg w, if_neg w]
          exact R7 j j0 ((zlt1 (zN14 hk.1 hk.2 n3).1 j1).resolve_left w)
      have e10 : ¬ (1 : Int32) = 0 := by decide
      by_cases e : al k.toNatClampNeg = (-1)
      · rw [if_pos e, if_pos rfl, if_pos trivial] at ho1 ho2
        exact go ho1 ho2
      · rw [if_neg e, if_neg e10] at ho1 ho2
        by_cases w : E2 ≤ (al k.toNatClampNeg).toInt64
        · have w' : E ≤ (al k.toNatClampNeg).toInt64 := Int64.le_iff_toInt_le.mpr (by have := Int64.le_iff_toInt_le.mp w; omega)
          rw [if_pos ((lg_cmp_le _ _).mpr w'), if_pos trivial] at ho1
          rw [if_pos ((lg_cmp_le _ _).mpr w), if_pos trivial] at ho2
          exact go ho1 ho2
        · rw [if_neg (fun q => w ((lg_cmp_le _ _).mp q)), if_neg (by decide)] at ho2
          rw [← Option.some.inj ho2]
          exact fun q => absurd rfl q
    · rw [if_neg (fun q => d ((lg_cmp_le _ _).mp q)), if_neg (by decide)] at ho2
      rw [← Option.some.inj ho2]
      exact fun q => absurd rfl q
/-! by halves: two searches of the last one that PASSES -/
noncomputable def zWy (p cF cN : Int32) (op made amt gof ch stp mst al : Nat → Int32) (v : Int32) : Prop := ∃ (g1 g2 : Nat → Int64) (g3 : Nat → Int32) (g4 : Nat → Int64) (o : Int32 × (Nat → Int64) × (Nat → Int64) × (Nat → Int32) × Int32 × Int32 × (Nat → Int64)), fn_X11_passesLonger p v cF cN op made amt g1 g2 g3 gof ch stp g4 mst al = some o ∧ ¬ o.1 = 0
noncomputable def zWn (p cF cN : Int32) (op made amt gof ch stp mst al : Nat → Int32) (v : Int32) : Prop := ∃ (g1 g2 : Nat → Int64) (g3 : Nat → Int32) (g4 : Nat → Int64) (o : Int32 × (Nat → Int64) × (Nat → Int64) × (Nat → Int32) × Int32 × Int32 × (Nat → Int64)), fn_X11_passesLonger p v cF cN op made amt g1 g2 g3 gof ch stp g4 mst al = some o ∧ o.1 = 0
noncomputable def zWb (p cF cN : Int32) (op made amt gof ch stp mst al : Nat → Int32) (v : Int32) : Prop := (0 ≤ v ∧ v ≤ 10000000) ∧ (v = 0 ∨ zWy p cF cN op made amt gof ch stp mst al v) ∧ (v = 10000000 ∨ zWn p cF cN op made amt gof ch stp mst al (v + 1))
theorem zFar {v : Int32} (hv : 0 ≤ v ∧ v ≤ 10000000) : 0 ≤ v.toInt64.toInt ∧ v.toInt64.toInt ≤ 10000000 := by
  have k1 := Int32.le_iff_toInt_le.mp hv.1
  have k2 := Int32.le_iff_toInt_le.mp hv.2
  rw [zi_0] at k1
  rw [show (10000000 : Int32).toInt = 10000000 by decide +kernel] at k2
  rw [z64_i]
  exact ⟨k1, k2⟩
theorem zPL_e {cF cc cN inp : Int32} {nF nN stp mst prc al made amt op fx jn lets gof hand mF mN mCst mNF mNN mS mM mC mW mO m1 m2 mX mG mTr : Nat → Int32} {mA mB mLe mGe mEr : Nat → Int64} {p v : Int32} {g1 g2 g4 : Nat → Int64} {g3 : Nat → Int32} {u : Int32 × (Nat → Int64) × (Nat → Int64) × (Nat → Int32) × Int32 × Int32 × (Nat → Int64)} {q : Int32 × Int32 × Int32 × (Nat → Int64) × (Nat → Int64) × (Nat → Int64)} (T : zTN cF cc cN inp nF nN stp mst prc al made amt op fx jn lets mF mN mNF mNN mS mM mC mW mCst mO m1 m2 mX mG mA mB) (hp : op p.toNatClampNeg = 0) (hv : 0 ≤ v ∧ v ≤ 10000000) (C : zCh cN cF gof hand mTr) (hu : fn_X11_passesLonger p v cF cN op made amt g1 g2 g3 gof hand stp g4 mst al = some u) (hq : fn_X12_passes p v.toInt64 mN mO m1 m2 mLe mA mB mGe mTr mS mEr mM mW = some q) : u.1 = q.1 := by
  have T0 := T
  obtain ⟨-, hN, -, -, -, -, -, hn, -⟩ := T0
  unfold fn_X11_passesLonger at hu
  obtain ⟨f, hf, hu⟩ := zb_s hu
  obtain ⟨a, ha, hu⟩ := zb_s hu
  rw [← Option.some.inj hu]
  have R := zFill hN.2 (fun i i0 i1 => zOk_of (hn i i0 i1)) hf
  exact (zPassEq T R (Or.inr ⟨hp, zFar hv⟩) C ha hq).1
theorem zWyn {cF cc cN inp : Int32} {nF nN stp mst prc al made amt op fx jn lets gof hand mF mN mCst mNF mNN mS mM mC mW mO m1 m2 mX mG mTr : Nat → Int32} {mA mB : Nat → Int64} {p v w : Int32} (T : zTN cF cc cN inp nF nN stp mst prc al made amt op fx jn lets mF mN mNF mNN mS mM mC mW mCst mO m1 m2 mX mG mA mB) (hp : op p.toNatClampNeg = 0) (C : zCh cN cF gof hand mTr) (hv : 0 ≤ v) (hw : w ≤ 10000000) (h1 : zWn p cF cN op made amt gof hand stp mst al v) (h2 : zWy p cF cN op made amt gof hand stp mst al w) : w < v := by
  obtain ⟨g1, g2, g3, g4, o, h1, e1⟩ := h1
  obtain ⟨k1, k2, k3, k4, o', h2, e2⟩ := h2
  have T0 := T
  obtain ⟨-, hN, -, -, -, -, -, hn, -⟩ := T0
  by_cases c : v ≤ w
  · exfalso
    unfold fn_X11_passesLonger at h1 h2
    obtain ⟨f, hf, h1⟩ := zb_s h1
    obtain ⟨a, ha, h1⟩ := zb_s h1
    obtain ⟨f', hf', h2⟩ := zb_s h2
    obtain ⟨a', ha', h2⟩ := zb_s h2
    rw [← Option.some.inj h1] at e1
    rw [← Option.some.inj h2] at e2
    have e1 : a.1 = 0 := e1
    have e2 : ¬ a'.1 = 0 := e2
    have R := zFill hN.2 (fun i i0 i1 => zOk_of (hn i i0 i1)) hf
    have R' := zFill hN.2 (fun i i0 i1 => zOk_of (hn i i0 i1)) hf'
    have b1 := zFar (v := v) ⟨hv, Int32.le_trans c hw⟩
    have b2 := zFar (v := w) ⟨Int32.le_trans hv c, hw⟩
    have b3 := Int32.le_iff_toInt_le.mp c
    have b4 : v.toInt64.toInt ≤ w.toInt64.toInt := by rw [z64_i, z64_i]; exact b3
    have z := zMono T R R' ⟨hp, b1.1, b4, b2.2⟩ C ha ha' e2
    rw [z] at e1
    exact absurd e1 (by decide)
  · exact Int32.not_le.mp c
theorem zWb_u {cF cc cN inp : Int32} {nF nN stp mst prc al made amt op fx jn lets gof hand mF mN mCst mNF mNN mS mM mC mW mO m1 m2 mX mG mTr : Nat → Int32} {mA mB : Nat → Int64} {p v w : Int32} (T : zTN cF cc cN inp nF nN stp mst prc al made amt op fx jn lets mF mN mNF mNN mS mM mC mW mCst mO m1 m2 mX mG mA mB) (hp : op p.toNatClampNeg = 0) (C : zCh cN cF gof hand mTr) (h1 : zWb p cF cN op made amt gof hand stp mst al v) (h2 : zWb p cF cN op made amt gof hand stp mst al w) : v = w := by
  obtain ⟨⟨a1, a2⟩, a3, a4⟩ := h1
  obtain ⟨⟨b1, b2⟩, b3, b4⟩ := h2
  by_cases l : v < w
  · exfalso
    have y := b3.resolve_left (zNz1 a1 l)
    have n := a4.resolve_left (zNm1 l b2)
    exact (zVx1 a1 l b2).2 (zWyn T hp C (zVx1 a1 l b2).1 b2 n y)
  · by_cases l2 : w < v
    · exfalso
      have y := a3.resolve_left (zNz1 b1 l2)
      have n := b4.resolve_left (zNm1 l2 a2)
      exact (zVx1 b1 l2 a2).2 (zWyn T hp C (zVx1 b1 l2 a2).1 a2 n y)
    · exact Int32.le_antisymm (Int32.not_lt.mp l2) (Int32.not_lt.mp l)
theorem zi10 : (10000000 : Int32).toInt = 10000000 := by decide +kernel
theorem zi2 : (2 : Int32).toInt = 2 := by decide +kernel
/-- the middle, as the class takes it -/
theorem zmidJ {a b : Int32} (h : 0 ≤ a ∧ a < b ∧ b ≤ 10000000) : ((a + b) / 2).toInt = (a.toInt + b.toInt) / 2 := by
  have k1 := Int32.le_iff_toInt_le.mp h.1
  have k2 := Int32.lt_iff_toInt_lt.mp h.2.1
  have k3 := Int32.le_iff_toInt_le.mp h.2.2
  rw [zi_0] at k1
  rw [zi10] at k3
  have s := zo_add (x := a) (y := b) (z := a + b) rfl rfl rfl (by omega)
  rw [Int32.toInt_div_of_ne_right _ _ (by decide), s, zi2, Int.tdiv_eq_ediv_of_nonneg (by omega)]
/-- the middle, as the reference takes it -/
theorem zmidM {a b : Int32} (h : 0 ≤ a ∧ a < b ∧ b ≤ 10000000) : (a + ((b - a) + 1) / 2).toInt = a.toInt + (b.toInt - a.toInt + 1) / 2 := by
  have k1 := Int32.le_iff_toInt_le.mp h.1
  have k2 := Int32.lt_iff_toInt_lt.mp h.2.1
  have k3 := Int32.le_iff_toInt_le.mp h.2.2
  rw [zi_0] at k1
  rw [zi10] at k3
  have s := zo_sub (x := b) (y := a) (z := b - a) rfl rfl rfl (by omega)
  have s2 := zo_add (x := b - a) (y := 1) (z := (b - a) + 1) rfl s zi_1' (by omega)
  have s3 : (((b - a) + 1) / 2).toInt = (b.toInt - a.toInt + 1) / 2 := by
    rw [Int32.toInt_div_of_ne_right _ _ (by decide), s2, zi2, Int.tdiv_eq_ediv_of_nonneg (by omega)]
  exact zo_add (x := a) (y := ((b - a) + 1) / 2) rfl rfl s3 (by omega)
theorem zhalve {g g' n : Nat} (h : g * 2 ^ n ≤ 9999999) (h2 : 2 * g' ≤ g) : g' * 2 ^ (n + 1) ≤ 9999999 := by
  have e : g' * 2 ^ (n + 1) = 2 * g' * 2 ^ n := by rw [Nat.pow_succ, Nat.mul_comm (2 ^ n) 2, ← Nat.mul_assoc, Nat.mul_comm g' 2]
  rw [e]
  exact Nat.le_trans (Nat.mul_le_mul_right _ h2) h
theorem zhalf0 {g n : Nat} (h : g * 2 ^ n ≤ 9999999) (hn : 32 ≤ n) : g = 0 := by
  have k : 2 ^ 32 ≤ 2 ^ n := Nat.pow_le_pow_right (by decide) hn
  rcases Nat.eq_zero_or_pos g with q | q
  · exact q
  · have := Nat.mul_le_mul q k
    rw [Nat.one_mul] at this
    have w : (9999999 : Nat) < 2 ^ 32 := by decide
    omega
set_option maxHeartbeats 8000000 in
theorem zeq_widest {cF cc cN inp gcl mHh mWn mFa mFw rcA rcW roA roW : Int32} {nF nN stp mst prc al made amt op fx jn lets gof gfx rwd hand mF mN mCst mNF mNN mS mM mC mW mO m1 m2 mX mG mH mTr gwd : Nat → Int32} {rlo rhi mA mB mLe mGe mEr rcE roE glo ghi : Nat → Int64} {mWb : Int64} {p1 : Int32} {x : Int32 × Int32 × Int32 × (Nat → Int64) × (Nat → Int64) × (Nat → Int64) × (Nat → Int32) × Int32 × Int32 × (Nat → Int64)} {y : Int32 × Int32 × Int64 × Int32 × Int32 × (Nat → Int32) × (Nat → Int64) × (Nat → Int64) × (Nat → Int64)} (hG : ∀ i : Nat, 0 ≤ gof i ∧ gof i ≤ 13) (T : zTN cF cc cN inp nF nN stp mst prc al made amt op fx jn lets mF mN mNF mNN mS mM mC mW mCst mO m1 m2 mX mG mA mB) (R : zRN cN (-1) 0 op made amt rwd rlo rhi) (H : zHN cN cF gcl mHh gof gfx hand mH) (h1 : fn_X11_widest p1 cF cN op gcl rcA rcW gof hand stp made rcE amt rlo rhi mst al glo ghi gwd roA roW roE = some x) (h2 : fn_X12_widest p1 mWn mWb mHh mFa mFw mN mO mH mTr m1 m2 mLe mA mB mGe mS mEr mM mW = some y) : x.1 = y.1 := by
  have hN := T.2.1
  have hF := T.1
  have T0 := T
  obtain ⟨-, -, -, -, -, -, -, hn, -⟩ := T0
  unfold fn_X11_widest at h1
  unfold fn_X12_widest at h2
  rw [zIsNum (by rw [hN.1]; exact hN.2.1), zb_some, hN.1] at h2
  by_cases d : 0 ≤ p1 ∧ p1 < cN
  · rw [if_neg (by rw [zif1]; exact fun q => q d)] at h2
    obtain ⟨-, h2⟩ := zg_s h2
    have eO := (hn p1 d.1 d.2).2.1
    have e10 : ¬ (1 : Int32) = 0 := by decide
    by_cases e : op p1.toNatClampNeg = 0
    · have eI : fn_X9_isInput p1 cN op = some 1 := by
        unfold fn_X9_isInput
        rw [zHasN, zb_some, if_neg (by rw [zif1]; exact fun q => q d), zg_in 14 (by decide +kernel) ⟨d.1, zW2 d.2 hN.2.2⟩, if_pos e]
      rw [eI, zb_some, if_neg e10] at h1
      rw [if_pos (eO.symm.trans e)] at h2
      obtain ⟨a, ha, h1⟩ := zb_s h1
      obtain ⟨b, hb, h2⟩ := zb_s h2
      rcases zHandP T R H ha hb with ⟨_, z1, z2⟩ | ⟨c, ⟨e1, -, -, -⟩, tr⟩
      · rw [if_pos z1] at h1
        rw [if_pos z2] at h2
        rw [← Option.some.inj h1, ← Option.some.inj h2]
      · have e1 : a.1 = b.1 := e1
        by_cases w : a.1 = 0
        · rw [if_pos w] at h1
          rw [if_pos (e1.symm.trans w)] at h2
          rw [← Option.some.inj h1, ← Option.some.inj h2]
        · rw [if_neg w] at h1
          rw [if_neg (fun q => w (e1.trans q))] at h2
          obtain ⟨C, -⟩ := H.2.2 c.1 c.2
          have C' := zCh_c C tr
          obtain ⟨u, hu, h1⟩ := zb_s h1
          refine zWb_u (p := p1) T e C' ?_ ?_
          · by_cases v : u.1 = 0
            · rw [if_pos v] at h1
              refine zl_ip (P := fun x : Int32 × Int32 × Int32 × (Nat → Int64) × (Nat → Int64) × (Nat → Int64) × (Nat → Int32) × Int32 × Int32 × (Nat → Int64) => zWb p1 cF cN op made amt gof hand stp mst al x.1) (fun s => 0 ≤ s.1 ∧ s.1 < s.2.1 ∧ s.2.1 ≤ 10000000 ∧ (0 ≤ s.2.2.1 ∧ s.2.2.1 ≤ 32) ∧ (s.1 = 0 ∨ zWy p1 cF cN op made amt gof hand stp mst al s.1) ∧ zWn p1 cF cN op made amt gof hand stp mst al s.2.1 ∧ ∃ g : Nat, (s.2.1.toInt : Int) = (s.1.toInt : Int) + 1 + (g : Int) ∧ g * 2 ^ s.2.2.1.toNatClampNeg ≤ 9999999) ?_ _ _ _ ?_ h1
              rotate_left
              · exact ⟨(show (0 : Int32) ≤ 0 by decide), (show (0 : Int32) < 10000000 by decide), (show (10000000 : Int32) ≤ 10000000 by decide), ⟨(show (0 : Int32) ≤ 0 by decide), (show (0 : Int32) ≤ 32 by decide)⟩, Or.inl rfl, ⟨_, _, _, _, u, hu, v⟩, 9999999, (show (10000000 : Int32).toInt = (0 : Int32).toInt + 1 + ((9999999 : Nat) : Int) by decide +kernel), (show 9999999 * 2 ^ (0 : Int32).toNatClampNeg ≤ 9999999 by decide +kernel)⟩
              intro s back o ⟨H1, H2, H3, H4, H5, H6, g, H7, H8⟩ hbk ho
              obtain ⟨good, bad, n, fa, fw, lo, hi, wd, er⟩ := s
              dsimp only at H1 H2 H3 H4 H5 H6 H7 H8 ho
              have fin : bad = good + 1 → zWb p1 cF cN op made amt gof hand stp mst al good := fun q => ⟨⟨H1, Int32.le_trans (Int32.le_of_lt H2) H3⟩, H5, Or.inr (by rw [← q]; exact H6)⟩
              by_cases k : 32 ≤ n
              · rw [if_pos k] at ho
                have n32 : n = 32 := Int32.le_antisymm H4.2 k
                have g0 := zhalf0 H8 (by rw [n32]; decide +kernel)
                rw [← Option.some.inj ho]
                refine fin (Int32.toInt_inj.mp ?_)
                have k3 := Int32.le_iff_toInt_le.mp H3
                have k1 := Int32.le_iff_toInt_le.mp H1
                rw [zi10] at k3
                rw [zi_0] at k1
                rw [zo_add (x := good) (y := 1) rfl rfl zi_1' (by omega), H7, g0]
                omega
              · rw [if_neg k] at ho
                by_cases l : bad - good ≤ 1
                · rw [if_pos l] at ho
                  rw [← Option.some.inj ho]
                  exact fin (zBg1 H1 H2 H3 l)
                · rw [if_neg l] at ho
                  obtain ⟨q, hq, ho⟩ := zb_s ho
                  have mid := zmidJ (a := good) (b := bad) ⟨H1, H2, H3⟩
                  have k1 := Int32.le_iff_toInt_le.mp H1
                  have k2 := Int32.lt_iff_toInt_lt.mp H2
                  have k3 := Int32.le_iff_toInt_le.mp H3
                  rw [zi_0] at k1
                  rw [zi10] at k3
                  have kl : good.toInt + 1 < bad.toInt := by
                    have l' : ¬ (bad - good).toInt ≤ (1 : Int32).toInt := fun q => l (Int32.le_iff_toInt_le.mpr q)
                    rw [zo_sub (x := bad) (y := good) rfl rfl rfl (by omega), zi_1'] at l'
                    omega
                  have m0 : good < (good + bad) / 2 := Int32.lt_iff_toInt_lt.mpr (by rw [mid]; omega)
                  have m1 : (good + bad) / 2 < bad := Int32.lt_iff_toInt_lt.mpr (by rw [mid]; omega)
                  have nn : (n + 1).toNatClampNeg = n.toNatClampNeg + 1 := zNx H4.1 (Int32.le_trans H4.2 (by decide))
                  by_cases r : q.1 = 0
                  · rw [if_pos r] at ho
                    refine hbk _ _ ?_ ho
                    refine ⟨H1, m0, (show (good + bad) / 2 ≤ 10000000 from Int32.le_trans (Int32.le_of_lt m1) H3), (zN32 H4.1 k), H5, ⟨_, _, _, _, q, hq, r⟩, ((good + bad) / 2).toInt.toNat - good.toInt.toNat - 1, ?_, ?_⟩
                    · show ((good + bad) / 2).toInt = good.toInt + 1 + _
                      omega
                    · show _ * 2 ^ (n + 1).toNatClampNeg ≤ _
                      rw [nn]
                      exact zhalve H8 (by omega)
                  · rw [if_neg r] at ho
                    refine hbk _ _ ?_ ho
                    refine ⟨(show 0 ≤ (good + bad) / 2 from Int32.le_trans H1 (Int32.le_of_lt m0)), m1, H3, (zN32 H4.1 k), Or.inr ⟨_, _, _, _, q, hq, r⟩, H6, bad.toInt.toNat - ((good + bad) / 2).toInt.toNat - 1, ?_, ?_⟩
                    · show bad.toInt = ((good + bad) / 2).toInt + 1 + _
                      omega
                    · show _ * 2 ^ (n + 1).toNatClampNeg ≤ _
                      rw [nn]
                      exact zhalve H8 (by omega)
            · rw [if_neg v] at h1
              rw [← Option.some.inj h1]
              exact ⟨⟨(show (0 : Int32) ≤ 10000000 by decide), (show (10000000 : Int32) ≤ 10000000 by decide)⟩, Or.inr ⟨_, _, _, _, u, hu, v⟩, Or.inl rfl⟩
          · refine zl_ip (P := fun y : Int32 × Int32 × Int64 × Int32 × Int32 × (Nat → Int32) × (Nat → Int64) × (Nat → Int64) × (Nat → Int64) => zWb p1 cF cN op made amt gof hand stp mst al y.1) (fun s => 0 ≤ s.1 ∧ s.1 ≤ s.2.1 ∧ s.2.1 ≤ 10000000 ∧ (s.1 = 0 ∨ zWy p1 cF cN op made amt gof hand stp mst al s.1) ∧ (s.2.1 = 10000000 ∨ zWn p1 cF cN op made amt gof hand stp mst al (s.2.1 + 1))) ?_ _ _ _ ?_ h2
            rotate_left
            · exact ⟨(show (0 : Int32) ≤ 0 by decide), (show (0 : Int32) ≤ 10000000 by decide), (show (10000000 : Int32) ≤ 10000000 by decide), Or.inl rfl, Or.inl rfl⟩
            intro s back o ⟨H1, H2, H3, H4, H5⟩ hbk ho
            obtain ⟨low, high, wb, fa, fw, le, ge, em⟩ := s
            dsimp only at H1 H2 H3 H4 H5 ho
            by_cases k : high ≤ low
            · rw [if_pos k] at ho
              rw [← Option.some.inj ho]
              have el : high = low := Int32.le_antisymm k H2
              subst el
              exact ⟨⟨H1, H3⟩, H4, H5⟩
            · rw [if_neg k] at ho
              obtain ⟨q, hq, ho⟩ := zb_s ho
              have mid := zmidM (a := low) (b := high) ⟨H1, Int32.not_le.mp k, H3⟩
              generalize low + (high - low + 1) / 2 = m at mid hq ho
              have k1 := Int32.le_iff_toInt_le.mp H1
              have k3 := Int32.le_iff_toInt_le.mp H3
              have k2 : ¬ high.toInt ≤ low.toInt := fun q => k (Int32.le_iff_toInt_le.mpr q)
              rw [zi_0] at k1
              rw [zi10] at k3
              have m0 : low < m := Int32.lt_iff_toInt_lt.mpr (by rw [mid]; omega)
              have m1 : m ≤ high := Int32.le_iff_toInt_le.mpr (by rw [mid]; omega)
              obtain ⟨u2, hu2, -⟩ := sf_X11_passesLonger p1 m cF cN op made amt (fun _ => 0) (fun _ => 0) (fun _ => 0) gof hand stp (fun _ => 0) mst al hF.2 hN.2 (fun _ => ⟨(show (0 : Int32) ≤ 0 by decide), (show (0 : Int32) ≤ 1 by decide)⟩) hG
              have eq := zPL_e T e ⟨Int32.le_trans H1 (Int32.le_of_lt m0), Int32.le_trans m1 H3⟩ C' hu2 hq
              by_cases r : q.1 = 0
              · rw [if_pos r] at ho
                refine hbk _ _ ?_ ho
                refine ⟨H1, (zMm1 H1 m0 (Int32.le_trans m1 H3)).1, (zMm1 H1 m0 (Int32.le_trans m1 H3)).2.1, H4, Or.inr ?_⟩
                show zWn p1 cF cN op made amt gof hand stp mst al (m - 1 + 1)
                rw [(zMm1 H1 m0 (Int32.le_trans m1 H3)).2.2.1]
                exact ⟨_, _, _, _, u2, hu2, eq.trans r⟩
              · rw [if_neg r] at ho
                refine hbk _ _ ?_ ho
                exact ⟨(zMm1 H1 m0 (Int32.le_trans m1 H3)).2.2.2, m1, H3, Or.inr ⟨_, _, _, _, u2, hu2, fun z => r (eq.symm.trans z)⟩, H5⟩
    · have eI : fn_X9_isInput p1 cN op = some 0 := by
        unfold fn_X9_isInput
        rw [zHasN, zb_some, if_neg (by rw [zif1]; exact fun q => q d), zg_in 14 (by decide +kernel) ⟨d.1, zW2 d.2 hN.2.2⟩, if_neg e]
      rw [eI, zb_some, if_pos rfl] at h1
      rw [if_neg (fun q => e (eO.trans q))] at h2
      rw [← Option.some.inj h1, ← Option.some.inj h2]
  · have eI : fn_X9_isInput p1 cN op = some 0 := by
      unfold fn_X9_isInput
      rw [zHasN, zb_some, if_pos (by rw [zif1]; exact d)]
    rw [eI, zb_some, if_pos rfl] at h1
    rw [if_pos (by rw [zif1]; exact d)] at h2
    rw [← Option.some.inj h1, ← Option.some.inj h2]
