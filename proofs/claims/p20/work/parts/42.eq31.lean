/-! all CHOICES, one after the other: what the class finds of the c-th, what the reference does -/
theorem zlt1 {k c : Int32} (hk : 0 ≤ k ∧ k < 100000) (h : c < k + 1) : c = k ∨ c < k := by grind
theorem zlt2 {k c : Int32} (hk : 0 ≤ k ∧ k < 100000) (h : c < k) : c < k + 1 := by grind
theorem zlt3 {k : Int32} (hk : 0 ≤ k ∧ k < 100000) : k < k + 1 ∧ 0 ≤ k + 1 := by grind
theorem zltt {a b c : Int32} (h1 : a < b) (h2 : b < c) : a < c := by grind
theorem zor1 {a b x y : Int32} (h : a ≤ b) (h2 : x < y) : a < b ∨ a = b ∧ x ≤ y := by grind
theorem zbb {p q b c : Int32} (h1 : p < q ∨ p = q ∧ b ≤ c) (h2 : q < p ∨ q = p ∧ c ≤ b) : b = c := by grind
theorem zN14 {k c : Int32} (h0 : 0 ≤ k) (h1 : k < c) (h2 : c ≤ 14) : (0 ≤ k ∧ k < 100000) ∧ k < 14 ∧ k ≤ 14 ∧ k ≤ 1200 ∧ 0 ≤ k + 1 ∧ k + 1 ≤ c := by grind
theorem zN1k {k c : Int32} (h0 : 0 ≤ k) (h1 : k < c) (h2 : c ≤ 1024) : (0 ≤ k ∧ k ≤ 1023) ∧ k ≤ 1200 ∧ (0 ≤ k + 1 ∧ k + 1 ≤ c) ∧ k ≤ 1024 := by grind
theorem zNab {a k b : Int32} (h0 : 0 ≤ k) (ha : a ≤ k) (h1 : k < b) (h2 : b ≤ 14) : (0 ≤ k ∧ k < 100000) ∧ a ≤ k + 1 ∧ k + 1 ≤ b := by grind
theorem zNe {i j : Int32} (h : ¬ i = j) : i < j ∨ j < i := by grind
theorem zIs3 {p : Int32} (d : 0 ≤ p ∧ p ≤ 3) (e0 : ¬ p = 0) (e1 : ¬ p = 1) (e2 : ¬ p = 2) : p = 3 := by grind
theorem zLe1 {a j : Int32} (ha : 0 ≤ a ∧ a < 100) (q : a + 1 ≤ j) : a ≤ j := by grind
theorem zBx1 {a b : Int32} (hb : 0 ≤ b ∧ b ≤ 25) (ha : 0 ≤ a) (hab : a < b) : 0 ≤ b + 1 ∧ ¬ b + 1 = b ∧ 0 ≤ a + 1 := by grind
theorem zSp1 {a b j : Int32} (hb : 0 ≤ b ∧ b ≤ 25) (ha : 0 ≤ a) (hab : a < b) (q1 : a + 1 ≤ j) (q2 : j < b + 2) : 0 ≤ j ∧ (j = b ∨ j = b + 1 ∨ (a ≤ j ∧ j < b ∧ ¬ j = a ∧ ¬ j = b ∧ ¬ j = b + 1)) := by
  have k1 := Int32.le_iff_toInt_le.mp hb.1
  have k2 := Int32.le_iff_toInt_le.mp hb.2
  have k3 := Int32.le_iff_toInt_le.mp ha
  have k4 := Int32.lt_iff_toInt_lt.mp hab
  have k5 := Int32.le_iff_toInt_le.mp q1
  have k6 := Int32.lt_iff_toInt_lt.mp q2
  rw [zi_0] at k1 k3
  rw [show (25 : Int32).toInt = 25 by decide +kernel] at k2
  have e1 := zo_add (x := a) (y := 1) (z := a + 1) rfl rfl zi_1' (by omega)
  have e2 := zo_add (x := b) (y := 2) (z := b + 2) rfl rfl (show (2 : Int32).toInt = 2 by decide +kernel) (by omega)
  have e3 := zo_add (x := b) (y := 1) (z := b + 1) rfl rfl zi_1' (by omega)
  refine ⟨Int32.le_iff_toInt_le.mpr (by rw [zi_0]; omega), ?_⟩
  by_cases p : j = b
  · exact Or.inl p
  · by_cases q : j = b + 1
    · exact Or.inr (Or.inl q)
    · have p' : ¬ j.toInt = b.toInt := fun z => p (Int32.toInt_inj.mp z)
      have q' : ¬ j.toInt = b.toInt + 1 := fun z => q (Int32.toInt_inj.mp (by rw [e3]; exact z))
      refine Or.inr (Or.inr ⟨Int32.le_iff_toInt_le.mpr (by omega), Int32.lt_iff_toInt_lt.mpr (by omega), fun z => ?_, p, q⟩)
      rw [z] at k5
      omega
theorem zP28 {p : Int32} (h : p ≤ 26) : ¬ 28 ≤ p ∧ p < 100 := by grind
theorem zPj1 {p j : Int32} (h0 : 0 ≤ p ∧ p < 100) (q : p + 1 ≤ j) : p ≤ j ∧ ¬ p = j := by grind
theorem zPs2 {p : Int32} (h0 : 0 ≤ p) (h : p ≤ 25) : p < 28 ∧ p + 1 < 28 ∧ p + 1 + 1 = p + 2 := by grind
theorem zOne {x : Int32} (h : ¬ x ≤ 0) : 1 ≤ x := by grind
theorem zNul {j : Int32} (h0 : 0 ≤ j) (h1 : j < 1) : j = 0 := by grind
theorem zDn1 {k c : Int32} (k0 : 0 ≤ k) (h : k < c) (hc : c ≤ 14) : (-1) ≤ k + (-1) ∧ k + (-1) < c := by grind
theorem zDn2 {k g : Int32} (k0 : 0 ≤ k) (h : k ≤ 100) (q : k + (-1) < g) : g = k ∨ k < g := by grind
theorem zK23 {b q : Int32} (h : b < q) (h2 : q ≤ 1024) : b ≤ 1023 := by grind
theorem zAp20 {v : Int32} (hv : 0 ≤ v ∧ v ≤ 1200) : v ≤ 1180 ↔ v + 20 ≤ 1200 := by grind
theorem zW1 {x : Int32} (h : (-1) ≤ x) (c : ¬ x = (-1)) : 0 ≤ x ∧ ¬ x < 0 := by grind
theorem zW2 {x c : Int32} (h : x < c) (h2 : c ≤ 14) : x < 14 := by grind
theorem zOp15 {x : Int32} (h : 0 ≤ x ∧ x ≤ 5) (c : ¬ x = 0) : 1 ≤ x ∧ x ≤ 5 := by grind
theorem zNz1 {v w : Int32} (h : 0 ≤ v) (l : v < w) : ¬ w = 0 := by grind
theorem zNm1 {v w : Int32} (l : v < w) (h : w ≤ 10000000) : ¬ v = 10000000 := by grind
theorem zVx1 {v w : Int32} (h : 0 ≤ v) (l : v < w) (hw : w ≤ 10000000) : 0 ≤ v + 1 ∧ ¬ w < v + 1 := by grind
theorem zBg1 {a b : Int32} (h0 : 0 ≤ a) (h : a < b) (h2 : b ≤ 10000000) (l : b - a ≤ 1) : b = a + 1 := by grind
theorem zN32 {n : Int32} (h : 0 ≤ n) (k : ¬ 32 ≤ n) : 0 ≤ n + 1 ∧ n + 1 ≤ 32 := by grind
theorem zMm1 {a m : Int32} (h0 : 0 ≤ a) (h : a < m) (h2 : m ≤ 10000000) : a ≤ m - 1 ∧ m - 1 ≤ 10000000 ∧ m - 1 + 1 = m ∧ 0 ≤ m := by grind
theorem zct_bB (b : Nat → Bool) : ∀ k : Nat, k ≤ 2000 → 0 ≤ (zct b k).toInt ∧ (zct b k).toInt ≤ (k : Int) := by
  intro k
  induction k with
  | zero => intro _; show 0 ≤ (0 : Int32).toInt ∧ (0 : Int32).toInt ≤ 0; rw [zi_0]; omega
  | succ k ih =>
    intro hk
    have h := ih (by omega)
    show 0 ≤ (zct b k + (if b k = true then 1 else 0)).toInt ∧ (zct b k + (if b k = true then 1 else 0)).toInt ≤ ((k + 1 : Nat) : Int)
    by_cases c : b k = true
    · rw [if_pos c]
      have := zo_add (x := zct b k) (y := 1) (z := zct b k + 1) rfl rfl zi_1' (by omega)
      omega
    · rw [if_neg c]
      have := zo_add (x := zct b k) (y := 0) (z := zct b k + 0) rfl rfl zi_0 (by omega)
      omega
theorem zct_mB (b : Nat → Bool) (k : Nat) : ∀ j : Nat, k + j ≤ 2000 → (zct b k).toInt ≤ (zct b (k + j)).toInt := by
  intro j
  induction j with
  | zero => intro _; exact Int.le_refl _
  | succ j ih =>
    intro hk
    have h := ih (by omega)
    have hb := zct_bB b (k + j) (by omega)
    have e : zct b (k + (j + 1)) = zct b (k + j) + (if b (k + j) = true then 1 else 0) := rfl
    by_cases c : b (k + j) = true
    · rw [if_pos c] at e
      have := zo_add (x := zct b (k + j)) (y := 1) e rfl zi_1' (by omega)
      omega
    · rw [if_neg c] at e
      have := zo_add (x := zct b (k + j)) (y := 0) e rfl zi_0 (by omega)
      omega
theorem zct_bI {b : Nat → Bool} {k : Int32} (h0 : 0 ≤ k) (h1 : k ≤ 1024) : 0 ≤ zct b k.toNatClampNeg ∧ zct b k.toNatClampNeg ≤ k := by
  have hp := (zofn k h0).2
  have h2 := Int32.le_iff_toInt_le.mp h1
  rw [show (1024 : Int32).toInt = 1024 by decide +kernel] at h2
  have h := zct_bB b k.toNatClampNeg (by omega)
  exact ⟨Int32.le_iff_toInt_le.mpr (by rw [zi_0]; exact h.1), Int32.le_iff_toInt_le.mpr (by omega)⟩
theorem zct_lI {b : Nat → Bool} {j k : Int32} (h0 : 0 ≤ j) (h1 : j < k) (h2 : k ≤ 1024) (hb : b j.toNatClampNeg = true) : zct b j.toNatClampNeg < zct b k.toNatClampNeg := by
  have hj := (zofn j h0).2
  have hk := (zofn k (by grind)).2
  have k1 := Int32.lt_iff_toInt_lt.mp h1
  have k2 := Int32.le_iff_toInt_le.mp h2
  rw [show (1024 : Int32).toInt = 1024 by decide +kernel] at k2
  have m := zct_mB b (j.toNatClampNeg + 1) (k.toNatClampNeg - (j.toNatClampNeg + 1)) (by omega)
  rw [show j.toNatClampNeg + 1 + (k.toNatClampNeg - (j.toNatClampNeg + 1)) = k.toNatClampNeg by omega] at m
  have e : zct b (j.toNatClampNeg + 1) = zct b j.toNatClampNeg + (if b j.toNatClampNeg = true then 1 else 0) := rfl
  rw [if_pos hb] at e
  have hbj := zct_bB b j.toNatClampNeg (by omega)
  have := zo_add (x := zct b j.toNatClampNeg) (y := 1) e rfl zi_1' (by omega)
  exact Int32.lt_iff_toInt_lt.mpr (by omega)
/-! a row of anything, with one place anew -/
noncomputable def zUp {α : Type} (f : Nat → α) (k : Nat) (v : α) : Nat → α := fun n => if n = k then v else f n
theorem zUp_s {α : Type} {f : Nat → α} {k : Nat} {v : α} : zUp f k v k = v := if_pos rfl
theorem zUp_o {α : Type} {f : Nat → α} {k n : Nat} {v : α} (h : n < k) : zUp f k v n = f n := if_neg (Nat.ne_of_lt h)
/-- the cheapest of those that PASS, of like ones the first -/
noncomputable def zBs (k : Int32) (ok pr : Nat → Int32) (b bp : Int32) : Prop := (b = (-1) ∧ ∀ c : Int32, 0 ≤ c → c < k → ok c.toNatClampNeg = 0) ∨ ((0 ≤ b ∧ b < k) ∧ ¬ ok b.toNatClampNeg = 0 ∧ bp = pr b.toNatClampNeg ∧ ∀ c : Int32, 0 ≤ c → c < k → ¬ ok c.toNatClampNeg = 0 → pr b.toNatClampNeg < pr c.toNatClampNeg ∨ pr b.toNatClampNeg = pr c.toNatClampNeg ∧ b ≤ c)
theorem zBs_0 {ok pr : Nat → Int32} {bp : Int32} : zBs 0 ok pr (-1) bp := Or.inl ⟨rfl, fun c c0 c1 => absurd c1 (by show ¬ c < 0; grind)⟩
theorem zBs_no {k b bp : Int32} {ok pr : Nat → Int32} (hk : 0 ≤ k ∧ k < 100000) (h : zBs k ok pr b bp) (ho : ok k.toNatClampNeg = 0) : zBs (k + 1) ok pr b bp := by
  rcases h with ⟨a1, a2⟩ | ⟨a1, a2, a3, a4⟩
  · refine Or.inl ⟨a1, fun c c0 c1 => ?_⟩
    rcases zlt1 hk c1 with w | w
    · rw [w]; exact ho
    · exact a2 c c0 w
  · refine Or.inr ⟨⟨a1.1, zlt2 hk a1.2⟩, a2, a3, fun c c0 c1 c2 => ?_⟩
    rcases zlt1 hk c1 with w | w
    · rw [w] at c2; exact absurd ho c2
    · exact a4 c c0 w c2
theorem zBs_up {k b bp : Int32} {ok pr : Nat → Int32} (hk : 0 ≤ k ∧ k < 100000) (h : zBs k ok pr b bp) (ho : ¬ ok k.toNatClampNeg = 0) (hb : b = (-1) ∨ pr k.toNatClampNeg < bp) : zBs (k + 1) ok pr k (pr k.toNatClampNeg) := by
  refine Or.inr ⟨⟨hk.1, (zlt3 hk).1⟩, ho, rfl, fun c c0 c1 c2 => ?_⟩
  rcases zlt1 hk c1 with w | w
  · rw [w]; exact Or.inr ⟨rfl, Int32.le_refl _⟩
  · left
    rcases h with ⟨a1, a2⟩ | ⟨a1, a2, a3, a4⟩
    · exact absurd (a2 c c0 w) c2
    · have lt : pr k.toNatClampNeg < pr b.toNatClampNeg := by
        rcases hb with q | q
        · rw [q] at a1; exact absurd a1.1 (by decide)
        · rw [a3] at q; exact q
      rcases a4 c c0 w c2 with z | z
      · exact zltt lt z
      · rw [← z.1]; exact lt
theorem zBs_st {k b bp : Int32} {ok pr : Nat → Int32} (hk : 0 ≤ k ∧ k < 100000) (h : zBs k ok pr b bp) (hb : ¬ b = (-1)) (hl : bp ≤ pr k.toNatClampNeg) : zBs (k + 1) ok pr b bp := by
  rcases h with ⟨a1, _⟩ | ⟨a1, a2, a3, a4⟩
  · exact absurd a1 hb
  · refine Or.inr ⟨⟨a1.1, zlt2 hk a1.2⟩, a2, a3, fun c c0 c1 c2 => ?_⟩
    rcases zlt1 hk c1 with w | w
    · rw [w]; rw [a3] at hl; exact zor1 hl a1.2
    · exact a4 c c0 w c2
theorem zBs_eq {k b bp b' bp' : Int32} {ok pr : Nat → Int32} (h : zBs k ok pr b bp) (h' : zBs k ok pr b' bp') : b = b' ∧ (¬ b = (-1) → bp = bp') := by
  rcases h with ⟨a1, a2⟩ | ⟨a1, a2, a3, a4⟩
  · rcases h' with ⟨b1, b2⟩ | ⟨b1, b2, b3, b4⟩
    · exact ⟨a1.trans b1.symm, fun q => absurd a1 q⟩
    · exact absurd (a2 b' b1.1 b1.2) b2
  · rcases h' with ⟨b1, b2⟩ | ⟨b1, b2, b3, b4⟩
    · exact absurd (b2 b a1.1 a1.2) a2
    · have e := zbb (a4 b' b1.1 b1.2 b2) (b4 b a1.1 a1.2 a2)
      refine ⟨e, fun _ => ?_⟩
      rw [a3, b3, e]
theorem zBs_c {k b bp : Int32} {ok pr ok' pr' : Nat → Int32} (h : zBs k ok pr b bp) (hc : ∀ n : Nat, n < k.toNatClampNeg → ok' n = ok n ∧ pr' n = pr n) : zBs k ok' pr' b bp := by
  rcases h with ⟨a1, a2⟩ | ⟨a1, a2, a3, a4⟩
  · refine Or.inl ⟨a1, fun c c0 c1 => ?_⟩
    rw [(hc _ (zcl' c0 c1)).1]; exact a2 c c0 c1
  · have e := hc _ (zcl' a1.1 a1.2)
    refine Or.inr ⟨a1, by rw [e.1]; exact a2, by rw [e.2]; exact a3, fun c c0 c1 c2 => ?_⟩
    have f := hc _ (zcl' c0 c1)
    rw [f.1] at c2
    rw [e.2, f.2]
    exact a4 c c0 c1 c2
noncomputable def zTry (cF cc cN gc : Int32) (gof gfx stp mst prc al made amt op : Nat → Int32) (rlo rhi : Nat → Int64) (c ok pr : Int32) (er : Nat → Int64) : Prop := ∃ (into row : Nat → Int32) (er0 : Nat → Int64) (fa rs : Int32), fn_X1_unfold c cF gc gfx into = some row ∧ fn_X7_reckon cF cN gof row stp op made er0 amt rlo rhi mst al = some (ok, fa, rs, er) ∧ (¬ ok = 0 → fn_X9_priceOf cF cc cN made gof row prc = some pr)
noncomputable def zFL (cN mFn : Int32) (gfx mG mFr : Nat → Int32) : Prop := mFn = zFk gfx mG cN.toNatClampNeg ∧ ∀ k : Int32, 0 ≤ k → k < cN → mG k.toNatClampNeg = k → gfx (zRk mG k.toNatClampNeg).toNatClampNeg = (-1) → mFr (zFk gfx mG k.toNatClampNeg).toNatClampNeg = k
theorem zTryPass {cF cc cN inp gc gfr gcl mHh mFn : Int32} {nF nN stp mst prc al made amt op fx jn lets gof gfx gld rwd hand mF mN mCst mNF mNN mS mM mC mW mO m1 m2 mX mG mH mTr mFr : Nat → Int32} {rlo rhi mA mB mLe mGe mEr : Nat → Int64} {mWb : Int64} {c ok pr : Int32} {er : Nat → Int64} {t : Nat → Int32} {y : Int32 × Int32 × Int32 × (Nat → Int64) × (Nat → Int64) × (Nat → Int64)} (T : zTN cF cc cN inp nF nN stp mst prc al made amt op fx jn lets mF mN mNF mNN mS mM mC mW mCst mO m1 m2 mX mG mA mB) (G : zGp cN gc gfr gcl gof gfx gld fx mG) (R : zRN cN (-1) 0 op made amt rwd rlo rhi) (H : zHN cN cF gcl mHh gof gfx hand mH) (cl : 0 < cN ∧ gcl = 0) (hc : 0 ≤ c ∧ c ≤ 1023) (L : zFL cN mFn gfx mG mFr) (h : zTry cF cc cN gc gof gfx stp mst prc al made amt op rlo rhi c ok pr er) (ht : fn_X12_triesChoice c mFn mN mH mTr mFr mF mG = some t) (hp : fn_X12_passes (-1) mWb mN mO m1 m2 mLe mA mB mGe t mS mEr mM mW = some y) : y.1 = ok ∧ (ok = 0 ∨ ok = 1) ∧ (ok = 1 → ∀ j : Int32, 0 ≤ j → j < cN → y.2.2.2.2.2 j.toNatClampNeg = er j.toNatClampNeg ∧ 0 ≤ (er j.toNatClampNeg).toInt ∧ (er j.toNatClampNeg).toInt ≤ 1000000000) := by
  obtain ⟨into, row, er0, fa, rs, e1, e2, e3⟩ := h
  have C := zUnf T G H cl hc L.1 L.2 e1 ht
  obtain ⟨p1, -, -, p4⟩ := zPassEq (wd := rwd) T (zRN_1 R) (Or.inl rfl) C e2 hp
  dsimp only at p1 p4
  refine ⟨p1.symm, ?_, fun w j j0 j1 => ?_⟩
  · rcases p4 with ⟨w, _⟩ | ⟨w, _⟩
    · exact Or.inr w
    · exact Or.inl w
  · rcases p4 with ⟨_, _, _, q⟩ | ⟨w2, _⟩
    · obtain ⟨a1, -, -, a4, -⟩ := q j j0 j1
      exact ⟨a1.symm, a4⟩
    · rw [w] at w2; exact absurd w2 (by decide)
theorem zTryCost {cF cc cN inp gc gfr gcl mHh mFn : Int32} {nF nN stp mst prc al made amt op fx jn lets gof gfx gld hand mF mN mCst mNF mNN mS mM mC mW mO m1 m2 mX mG mH mTr mFr : Nat → Int32} {rlo rhi mA mB : Nat → Int64} {c ok pr w : Int32} {er : Nat → Int64} {t : Nat → Int32} (T : zTN cF cc cN inp nF nN stp mst prc al made amt op fx jn lets mF mN mNF mNN mS mM mC mW mCst mO m1 m2 mX mG mA mB) (G : zGp cN gc gfr gcl gof gfx gld fx mG) (H : zHN cN cF gcl mHh gof gfx hand mH) (cl : 0 < cN ∧ gcl = 0) (hc : 0 ≤ c ∧ c ≤ 1023) (L : zFL cN mFn gfx mG mFr) (h : zTry cF cc cN gc gof gfx stp mst prc al made amt op rlo rhi c ok pr er) (ht : fn_X12_triesChoice c mFn mN mH mTr mFr mF mG = some t) (hp : fn_X12_costTried mCst mN m1 t m2 mC = some w) (ok0 : ¬ ok = 0) : w = pr := by
  obtain ⟨into, row, er0, fa, rs, e1, e2, e3⟩ := h
  exact (zPriceEq T (zUnf T G H cl hc L.1 L.2 e1 ht) (e3 ok0) hp).symm
/-! what the class keeps of all CHOICES -/
noncomputable def zAn (al : Nat → Int32) : Nat → Int32 := zct (fun k => decide (¬ al k = (-1)))
noncomputable def zOc (ok : Nat → Int32) : Nat → Int32 := zct (fun k => decide (¬ ok k = 0))
noncomputable def zFS (cF cc cN gc : Int32) (gof gfx stp mst prc al made amt op : Nat → Int32) (rlo rhi : Nat → Int64) (k ans : Int32) (ok pr : Nat → Int32) (er : Nat → Nat → Int64) (many b bp : Int32) (P E : Nat → Int32) : Prop :=
  (∀ c : Int32, 0 ≤ c → c < k → zTry cF cc cN gc gof gfx stp mst prc al made amt op rlo rhi c (ok c.toNatClampNeg) (pr c.toNatClampNeg) (er c.toNatClampNeg)) ∧ many = zOc ok k.toNatClampNeg ∧ zBs k ok pr b bp ∧ (∀ c : Int32, 0 ≤ c → c < k → ¬ ok c.toNatClampNeg = 0 → P (zOc ok c.toNatClampNeg).toNatClampNeg = pr c.toNatClampNeg ∧ ∀ i : Int32, 0 ≤ i → i < cN → ¬ al i.toNatClampNeg = (-1) → E (zOc ok c.toNatClampNeg * ans + zAn al i.toNatClampNeg).toNatClampNeg = (er c.toNatClampNeg i.toNatClampNeg).toInt32)
theorem zOc_c {ok ok' : Nat → Int32} {k : Nat} (h : ∀ n : Nat, n < k → ok' n = ok n) : zOc ok' k = zOc ok k := zct_c _ (fun j hj => by rw [h j hj])
theorem zidx {q m a s : Int32} (hq : 0 ≤ q) (hqm : q < m) (hm : m ≤ 1024) (ha : a ≤ 14) (hs : 0 ≤ s) (hsa : s < a) : 0 ≤ q * a + s ∧ q * a + s < m * a ∧ q * a + a ≤ m * a ∧ 0 ≤ q * a ∧ q * a ≤ 14336 := by
  have k1 := Int32.le_iff_toInt_le.mp hq
  have k2 := Int32.lt_iff_toInt_lt.mp hqm
  have k3 := Int32.le_iff_toInt_le.mp hm
  have k4 := Int32.le_iff_toInt_le.mp ha
  have k5 := Int32.le_iff_toInt_le.mp hs
  have k6 := Int32.lt_iff_toInt_lt.mp hsa
  rw [zi_0] at k1 k5
  rw [show (1024 : Int32).toInt = 1024 by decide +kernel] at k3
  rw [show (14 : Int32).toInt = 14 by decide +kernel] at k4
  have m1 : (q.toInt + 1) * a.toInt ≤ m.toInt * a.toInt := Int.mul_le_mul_of_nonneg_right (by omega) (by omega)
  have m2 : m.toInt * a.toInt ≤ 1024 * 14 := Int.mul_le_mul (by omega) (by omega) (by omega) (by omega)
  have m3 : 0 ≤ q.toInt * a.toInt := Int.mul_nonneg (by omega) (by omega)
  have m4 : (q.toInt + 1) * a.toInt = q.toInt * a.toInt + a.toInt := by rw [Int.add_mul, Int.one_mul]
  have e1 := zo_mul (x := q) (y := a) (z := q * a) rfl rfl rfl (by omega)
  have e2 := zo_mul (x := m) (y := a) (z := m * a) rfl rfl rfl (by omega)
  have e3 := zo_add (x := q * a) (y := s) (z := q * a + s) rfl e1 rfl (by omega)
  have e4 := zo_add (x := q * a) (y := a) (z := q * a + a) rfl e1 rfl (by omega)
  refine ⟨Int32.le_iff_toInt_le.mpr (by rw [zi_0]; omega), Int32.lt_iff_toInt_lt.mpr (by omega), Int32.le_iff_toInt_le.mpr (by omega), Int32.le_iff_toInt_le.mpr (by rw [zi_0]; omega), Int32.le_iff_toInt_le.mpr ?_⟩
  rw [show (14336 : Int32).toInt = 14336 by decide +kernel]
  omega
theorem zidx0 {q m a N : Int32} (hq : 0 ≤ q) (hqm : q < m) (hm : m ≤ 1024) (ha : 0 ≤ a ∧ a ≤ 14) (hN : m * a ≤ N) : 0 ≤ q * a ∧ q * a ≤ 14336 ∧ q * a + a ≤ N := by
  by_cases c : a = 0
  · rw [c] at hN ⊢
    rw [Int32.mul_zero] at hN ⊢
    rw [Int32.add_zero]
    exact ⟨by decide, by decide, hN⟩
  · obtain ⟨-, -, z3, z4, z5⟩ := zidx hq hqm hm ha.2 (Int32.le_refl 0) (show 0 < a by grind)
    exact ⟨z4, z5, by grind⟩
theorem zi14b {i c : Int32} (h0 : 0 ≤ i) (h1 : i < c) (h2 : c ≤ 14) : 0 ≤ i + 1 ∧ i + 1 ≤ c ∧ i ≤ 14 ∧ i ≤ 1200 := by grind
theorem zi15 {i c : Int32} (h1 : i < c) (h2 : c ≤ 14) : i < 100000 := by grind
theorem zan1 {B ans N5 z : Int32} (hB : 0 ≤ B ∧ B ≤ 14336) (ha : ans ≤ 14) (h5 : B + ans ≤ N5) (h0 : 0 ≤ z) (h1 : z < ans) : ¬ N5 ≤ B + z ∧ 0 ≤ B + z ∧ B ≤ B + z := by
  have k1 := Int32.le_iff_toInt_le.mp hB.1
  have k2 := Int32.le_iff_toInt_le.mp hB.2
  have k3 := Int32.le_iff_toInt_le.mp ha
  have k4 := Int32.le_iff_toInt_le.mp h5
  have k5 := Int32.le_iff_toInt_le.mp h0
  have k6 := Int32.lt_iff_toInt_lt.mp h1
  rw [zi_0] at k1 k5
  rw [show (14336 : Int32).toInt = 14336 by decide +kernel] at k2
  rw [show (14 : Int32).toInt = 14 by decide +kernel] at k3
  have e1 := zo_add (x := B) (y := ans) (z := B + ans) rfl rfl rfl (by omega)
  have e2 := zo_add (x := B) (y := z) (z := B + z) rfl rfl rfl (by omega)
  refine ⟨Int32.not_le.mpr (Int32.lt_iff_toInt_lt.mpr (by omega)), Int32.le_iff_toInt_le.mpr (by rw [zi_0]; omega), Int32.le_iff_toInt_le.mpr (by omega)⟩
theorem zj14 {i j : Int32} (h0 : 0 ≤ i) (h1 : j < i + 1) (h2 : i ≤ 14) : j ≤ 14 := by grind
theorem zad0 {B z j : Int32} (hB : 0 ≤ B ∧ B ≤ 14336) (h : 0 ≤ z ∧ z ≤ j) (hj : j ≤ 14) : 0 ≤ B + z := by grind
theorem zadn {B u v : Int32} (e : B + u = B + v) (h : u < v) : False := by
  have e : u = v := by grind
  rw [e] at h
  exact Int32.lt_irrefl h
set_option maxHeartbeats 4000000 in
theorem zKeep {c pr ans many b bp cN N5 : Int32} {n1 n5 : Nat} {P al E : Nat → Int32} {rer : Nat → Int64} {x : Int32 × Int32 × Int32 × (Nat → Int32) × (Nat → Int32)} (hN : 0 ≤ cN ∧ cN ≤ 14) (ha : ans = zAn al cN.toNatClampNeg) (h1 : many < Int32.ofNat n1) (hB : 0 ≤ many * ans ∧ many * ans ≤ 14336) (e5 : N5 = Int32.ofNat n5) (h5 : many * ans + ans ≤ N5) (h : fn_X1_keep c pr ans many b bp n1 P cN al n5 E rer = some x) : x.1 = many + 1 ∧ ((b = (-1) ∨ pr < bp) ∧ x.2.1 = c ∧ x.2.2.1 = pr ∨ (¬ b = (-1) ∧ bp ≤ pr) ∧ x.2.1 = b ∧ x.2.2.1 = bp) ∧ x.2.2.2.1 = upd P many.toNatClampNeg pr ∧ (∀ i : Int32, 0 ≤ i → i < cN → ¬ al i.toNatClampNeg = (-1) → x.2.2.2.2 (many * ans + zAn al i.toNatClampNeg).toNatClampNeg = (rer i.toNatClampNeg).toInt32) ∧ (∀ j : Int32, 0 ≤ j → j < many * ans → x.2.2.2.2 j.toNatClampNeg = E j.toNatClampNeg) := by
  unfold fn_X1_keep at h
  rw [if_pos h1, ← e5] at h
  obtain ⟨-, h⟩ := zg_s h
  generalize many * ans = B at hB h5 h ⊢
  have hA := zct_b32 (b := fun k => decide (¬ al k = (-1))) hN.1 hN.2
  rw [show zct (fun k => decide (¬ al k = (-1))) cN.toNatClampNeg = ans from ha.symm] at hA
  have ans14 : 0 ≤ ans ∧ ans ≤ 14 := ⟨hA.1, by have := hA.2; grind⟩
  refine zl_ip (P := fun x : Int32 × Int32 × Int32 × (Nat → Int32) × (Nat → Int32) => x.1 = many + 1 ∧ ((b = (-1) ∨ pr < bp) ∧ x.2.1 = c ∧ x.2.2.1 = pr ∨ (¬ b = (-1) ∧ bp ≤ pr) ∧ x.2.1 = b ∧ x.2.2.1 = bp) ∧ x.2.2.2.1 = upd P many.toNatClampNeg pr ∧ (∀ i : Int32, 0 ≤ i → i < cN → ¬ al i.toNatClampNeg = (-1) → x.2.2.2.2 (B + zAn al i.toNatClampNeg).toNatClampNeg = (rer i.toNatClampNeg).toInt32) ∧ (∀ j : Int32, 0 ≤ j → j < B → x.2.2.2.2 j.toNatClampNeg = E j.toNatClampNeg)) (fun s => 0 ≤ s.2.1 ∧ s.2.1 ≤ cN ∧ s.1 = B + zAn al s.2.1.toNatClampNeg ∧ (∀ i : Int32, 0 ≤ i → i < s.2.1 → ¬ al i.toNatClampNeg = (-1) → s.2.2 (B + zAn al i.toNatClampNeg).toNatClampNeg = (rer i.toNatClampNeg).toInt32) ∧ (∀ j : Int32, 0 ≤ j → j < B → s.2.2 j.toNatClampNeg = E j.toNatClampNeg)) ?_ _ _ _ ?_ h
  · intro s back o ⟨H1, H2, H3, H4, H5⟩ hb ho
    obtain ⟨a, i, row⟩ := s
    dsimp only at H1 H2 H3 H4 H5 ho
    by_cases d : cN ≤ i
    · rw [if_pos d] at ho
      have ei : i = cN := Int32.le_antisymm H2 d
      rw [ei] at H4
      simp only [zj] at ho
      by_cases q : b = (-1)
      · rw [if_pos q] at ho
        rw [← Option.some.inj ho]
        exact ⟨rfl, Or.inl ⟨Or.inl q, rfl, rfl⟩, rfl, H4, H5⟩
      · rw [if_neg q] at ho
        by_cases w : bp ≤ pr
        · rw [if_pos w] at ho
          rw [← Option.some.inj ho]
          exact ⟨rfl, Or.inr ⟨⟨q, w⟩, rfl, rfl⟩, rfl, H4, H5⟩
        · rw [if_neg w] at ho
          rw [← Option.some.inj ho]
          exact ⟨rfl, Or.inl ⟨Or.inr (Int32.not_le.mp w), rfl, rfl⟩, rfl, H4, H5⟩
    · rw [if_neg d] at ho
      have hi : 0 ≤ i ∧ i < cN := ⟨H1, Int32.not_le.mp d⟩
      have i14 : 0 ≤ i ∧ i < 100000 := ⟨H1, zi15 hi.2 hN.2⟩
      have i1 : 0 ≤ i + 1 ∧ i + 1 ≤ cN ∧ i ≤ 14 ∧ i ≤ 1200 := zi14b H1 hi.2 hN.2
      rw [zIsAns hN.2 hi, zb_some] at ho
      by_cases q : al i.toNatClampNeg = (-1)
      · rw [if_pos q, if_pos rfl] at ho
        refine hb _ _ ?_ ho
        refine ⟨i1.1, i1.2.1, ?_, fun j j0 j1 j2 => ?_, H5⟩
        · show a = B + zAn al (i + 1).toNatClampNeg
          rw [H3]
          congr 1
          exact (zct_f (b := fun k => decide (¬ al k = (-1))) H1 i1.2.2.2 (fun z => (of_decide_eq_true z) q)).symm
        · have j1 : j < i + 1 := j1
          rcases zlt1 i14 j1 with z | z
          · rw [z] at j2; exact absurd q j2
          · exact H4 j j0 z j2
      · rw [if_neg q, if_neg (show ¬ (1 : Int32) = 0 by decide)] at ho
        have bi := zct_b32 (b := fun k => decide (¬ al k = (-1))) H1 i1.2.2.1
        have li := zct_lt (b := fun k => decide (¬ al k = (-1))) H1 hi.2 hN.2 (decide_eq_true q)
        rw [show zct (fun k => decide (¬ al k = (-1))) cN.toNatClampNeg = ans from ha.symm] at li
        have ea : zAn al i.toNatClampNeg = zct (fun k => decide (¬ al k = (-1))) i.toNatClampNeg := rfl
        have an : ¬ N5 ≤ a ∧ 0 ≤ a ∧ B ≤ a := by
          rw [H3, ea]
          exact zan1 hB ans14.2 h5 bi.1 li
        rw [if_neg an.1] at ho
        obtain ⟨-, ho⟩ := zg_s ho
        obtain ⟨-, ho⟩ := zg_s ho
        simp only [zn] at ho
        refine hb _ _ ?_ ho
        refine ⟨i1.1, i1.2.1, ?_, fun j j0 j1 j2 => ?_, fun j j0 j1 => ?_⟩
        · show a + 1 = B + zAn al (i + 1).toNatClampNeg
          rw [show zAn al (i + 1).toNatClampNeg = zAn al i.toNatClampNeg + 1 from zct_t (b := fun k => decide (¬ al k = (-1))) H1 i1.2.2.2 (decide_eq_true q), H3, Int32.add_assoc]
        · have j1 : j < i + 1 := j1
          have bj := zct_b32 (b := fun k => decide (¬ al k = (-1))) j0 (zj14 H1 j1 i1.2.2.1)
          have j0' : 0 ≤ B + zAn al j.toNatClampNeg := by
            rw [show zAn al j.toNatClampNeg = zct (fun k => decide (¬ al k = (-1))) j.toNatClampNeg from rfl]
            exact zad0 hB bj (zj14 H1 j1 i1.2.2.1)
          show upd row a.toNatClampNeg (rer i.toNatClampNeg).toInt32 (B + zAn al j.toNatClampNeg).toNatClampNeg = (rer j.toNatClampNeg).toInt32
          rw [zup an.2.1 j0']
          rcases zlt1 i14 j1 with z | z
          · rw [if_pos (by rw [z, H3]), z]
          · have lj := zct_lt (b := fun k => decide (¬ al k = (-1))) j0 z i1.2.2.1 (decide_eq_true j2)
            rw [if_neg (fun w => ?_)]
            · exact H4 j j0 z j2
            · rw [H3, ea, show zAn al j.toNatClampNeg = zct (fun k => decide (¬ al k = (-1))) j.toNatClampNeg from rfl] at w
              exact zadn w lj
        · show upd row a.toNatClampNeg (rer i.toNatClampNeg).toInt32 j.toNatClampNeg = E j.toNatClampNeg
          rw [zup an.2.1 j0, if_neg (fun e => by rw [e] at j1; exact absurd j1 (Int32.not_lt.mpr an.2.2))]
          exact H5 j j0 j1
  · refine ⟨Int32.le_refl 0, hN.1, ?_, fun i i0 i1 => absurd i1 (by show ¬ i < 0; grind), fun _ _ _ => rfl⟩
    show B = B + zAn al (0 : Int32).toNatClampNeg
    rw [zn01.1]
    exact (Int32.add_zero B).symm
theorem zFS_0 {cF cc cN gc : Int32} {stp mst prc al made amt op gof gfx : Nat → Int32} {rlo rhi : Nat → Int64} {ans bp : Int32} {ok pr P E : Nat → Int32} {er : Nat → Nat → Int64} : zFS cF cc cN gc gof gfx stp mst prc al made amt op rlo rhi 0 ans ok pr er 0 (-1) bp P E := by
  refine ⟨fun c c0 c1 => absurd c1 (by show ¬ c < 0; grind), ?_, zBs_0, fun c c0 c1 => absurd c1 (by show ¬ c < 0; grind)⟩
  show (0 : Int32) = zOc ok (0 : Int32).toNatClampNeg
  rw [zn01.1]
  rfl
theorem zFS_no {cF cc cN gc : Int32} {stp mst prc al made amt op gof gfx : Nat → Int32} {rlo rhi : Nat → Int64} {k ans many b bp p : Int32} {ok pr P E : Nat → Int32} {er : Nat → Nat → Int64} {e : Nat → Int64} (hk : 0 ≤ k ∧ k ≤ 1023) (h : zFS cF cc cN gc gof gfx stp mst prc al made amt op rlo rhi k ans ok pr er many b bp P E) (t : zTry cF cc cN gc gof gfx stp mst prc al made amt op rlo rhi k 0 p e) : zFS cF cc cN gc gof gfx stp mst prc al made amt op rlo rhi (k + 1) ans (zUp ok k.toNatClampNeg 0) (zUp pr k.toNatClampNeg p) (zUp er k.toNatClampNeg e) many b bp P E := by
  have kb : 0 ≤ k ∧ k < 100000 := ⟨hk.1, by have := hk.2; clear h t; grind⟩
  have kn : k ≤ 1200 := by have := hk.2; clear h t; grind
  obtain ⟨h1, h2, h3, h4⟩ := h
  have oe : ∀ n : Nat, n < k.toNatClampNeg → zUp ok k.toNatClampNeg 0 n = ok n := fun n hn => zUp_o hn
  refine ⟨fun c c0 c1 => ?_, ?_, ?_, fun c c0 c1 c2 => ?_⟩
  · rcases zlt1 kb c1 with w | w
    · rw [w, zUp_s, zUp_s, zUp_s]; exact t
    · have l := zcl' c0 w
      rw [zUp_o l, zUp_o l, zUp_o l]; exact h1 c c0 w
  · have e1 : zOc (zUp ok k.toNatClampNeg 0) (k + 1).toNatClampNeg = zOc (zUp ok k.toNatClampNeg 0) k.toNatClampNeg := zct_f (b := fun n => decide (¬ zUp ok k.toNatClampNeg 0 n = 0)) hk.1 kn (fun z => (of_decide_eq_true z) zUp_s)
    rw [e1, zOc_c oe]; exact h2
  · exact zBs_no kb (zBs_c h3 (fun n hn => ⟨zUp_o hn, zUp_o hn⟩)) zUp_s
  · rcases zlt1 kb c1 with w | w
    · rw [w, zUp_s] at c2; exact absurd rfl c2
    · have l := zcl' c0 w
      rw [zUp_o l] at c2
      rw [zOc_c (fun n hn => oe n (Nat.lt_trans hn l)), zUp_o l, zUp_o l]
      exact h4 c c0 w c2
set_option maxHeartbeats 1000000 in
theorem zFS_yes {cF cc cN gc : Int32} {stp mst prc al made amt op gof gfx : Nat → Int32} {rlo rhi : Nat → Int64} {k ans many b bp p o : Int32} {ok pr P E : Nat → Int32} {er : Nat → Nat → Int64} {e : Nat → Int64} {x : Int32 × Int32 × Int32 × (Nat → Int32) × (Nat → Int32)} (hN : 0 ≤ cN ∧ cN ≤ 14) (hk : 0 ≤ k ∧ k ≤ 1023) (ha : ans = zAn al cN.toNatClampNeg) (h : zFS cF cc cN gc gof gfx stp mst prc al made amt op rlo rhi k ans ok pr er many b bp P E) (o0 : ¬ o = 0) (t : zTry cF cc cN gc gof gfx stp mst prc al made amt op rlo rhi k o p e) (x1 : x.1 = many + 1) (x2 : (b = (-1) ∨ p < bp) ∧ x.2.1 = k ∧ x.2.2.1 = p ∨ (¬ b = (-1) ∧ bp ≤ p) ∧ x.2.1 = b ∧ x.2.2.1 = bp) (x3 : x.2.2.2.1 = upd P many.toNatClampNeg p) (x4 : ∀ i : Int32, 0 ≤ i → i < cN → ¬ al i.toNatClampNeg = (-1) → x.2.2.2.2 (many * ans + zAn al i.toNatClampNeg).toNatClampNeg = (e i.toNatClampNeg).toInt32) (x5 : ∀ j : Int32, 0 ≤ j → j < many * ans → x.2.2.2.2 j.toNatClampNeg = E j.toNatClampNeg) : zFS cF cc cN gc gof gfx stp mst prc al made amt op rlo rhi (k + 1) ans (zUp ok k.toNatClampNeg o) (zUp pr k.toNatClampNeg p) (zUp er k.toNatClampNeg e) x.1 x.2.1 x.2.2.1 x.2.2.2.1 x.2.2.2.2 := by
  have kk : k < 100000 ∧ k ≤ 1200 ∧ k ≤ 1024 := by have := hk.2; clear h t x4 x5; grind
  have kb : 0 ≤ k ∧ k < 100000 := ⟨hk.1, kk.1⟩
  obtain ⟨h1, h2, h3, h4⟩ := h
  have oe : ∀ n : Nat, n < k.toNatClampNeg → zUp ok k.toNatClampNeg o n = ok n := fun n hn => zUp_o hn
  have em : many = zct (fun n => decide (¬ ok n = 0)) k.toNatClampNeg := h2
  have mb := zct_bI (b := fun n => decide (¬ ok n = 0)) hk.1 kk.2.2
  rw [← em] at mb
  have m1024 : many ≤ 1024 := Int32.le_trans mb.2 kk.2.2
  have a14 : ans ≤ 14 := by
    have := zct_b32 (b := fun k => decide (¬ al k = (-1))) hN.1 hN.2
    rw [ha]
    exact Int32.le_trans this.2 hN.2
  have e1 : zOc (zUp ok k.toNatClampNeg o) k.toNatClampNeg = many := by rw [zOc_c oe]; exact h2.symm
  refine ⟨fun c c0 c1 => ?_, ?_, ?_, fun c c0 c1 c2 => ?_⟩
  · rcases zlt1 kb c1 with w | w
    · rw [w, zUp_s, zUp_s, zUp_s]; exact t
    · have l := zcl' c0 w
      rw [zUp_o l, zUp_o l, zUp_o l]; exact h1 c c0 w
  · rw [x1, show zOc (zUp ok k.toNatClampNeg o) (k + 1).toNatClampNeg = zOc (zUp ok k.toNatClampNeg o) k.toNatClampNeg + 1 from zct_t (b := fun n => decide (¬ zUp ok k.toNatClampNeg o n = 0)) hk.1 kk.2.1 (decide_eq_true (by rw [zUp_s]; exact o0)), e1]
  · have hb := zBs_c (ok' := zUp ok k.toNatClampNeg o) (pr' := zUp pr k.toNatClampNeg p) h3 (fun n hn => ⟨zUp_o hn, zUp_o hn⟩)
    rcases x2 with ⟨y1, y2, y3⟩ | ⟨y1, y2, y3⟩
    · rw [y2, y3]
      have := zBs_up kb hb (by rw [zUp_s]; exact o0) (by rw [zUp_s]; exact y1)
      rw [zUp_s] at this
      exact this
    · rw [y2, y3]; exact zBs_st kb hb y1.1 (by rw [zUp_s]; exact y1.2)
  · rcases zlt1 kb c1 with w | w
    · rw [w, e1, zUp_s, zUp_s, x3]
      refine ⟨?_, fun i i0 i1 i2 => x4 i i0 i1 i2⟩
      rw [zup mb.1 mb.1, if_pos rfl]
    · have l := zcl' c0 w
      rw [zUp_o l] at c2
      rw [zOc_c (fun n hn => oe n (Nat.lt_trans hn l)), zUp_o l, zUp_o l, x3]
      obtain ⟨g1, g2⟩ := h4 c c0 w c2
      have ql := zct_lI (b := fun n => decide (¬ ok n = 0)) c0 w kk.2.2 (decide_eq_true c2)
      rw [← em] at ql
      have qb := zct_bI (b := fun n => decide (¬ ok n = 0)) c0 (Int32.le_trans (Int32.le_of_lt w) kk.2.2)
      refine ⟨?_, fun i i0 i1 i2 => ?_⟩
      · have q0 : 0 ≤ zOc ok c.toNatClampNeg := qb.1
        have q1 : zOc ok c.toNatClampNeg < many := ql
        rw [zup mb.1 q0, if_neg (fun z => by rw [z] at q1; exact absurd q1 Int32.lt_irrefl)]
        exact g1
      · have si := zct_lt (b := fun k => decide (¬ al k = (-1))) i0 i1 hN.2 (decide_eq_true i2)
        have sb := zct_b32 (b := fun k => decide (¬ al k = (-1))) i0 (Int32.le_trans (Int32.le_of_lt i1) hN.2)
        rw [show zct (fun k => decide (¬ al k = (-1))) cN.toNatClampNeg = ans from ha.symm] at si
        obtain ⟨z1, z2, -⟩ := zidx qb.1 ql m1024 a14 sb.1 si
        exact (x5 _ z1 z2).trans (g2 i i0 i1 i2)
theorem zRoom {c a : Int32} {n1 n2 n3 n4 n5 : Nat} {f1 f2 f3 f4 f5 : Nat → Int32} {x : (Nat → Int32) × Nat × (Nat → Int32) × Nat × (Nat → Int32) × Nat × (Nat → Int32) × Nat × (Nat → Int32) × Nat} (hc : 0 ≤ c) (hca : 0 ≤ c * a) (h : fn_X1_makeRoom c a n1 f1 n2 f2 n3 f3 n4 f4 n5 f5 = some x) : c ≤ Int32.ofNat x.2.1 ∧ c * a ≤ Int32.ofNat x.2.2.2.1 := by
  have e0 : c ≤ Int32.ofNat c.toNatClampNeg := by rw [zofn' _ hc]; exact Int32.le_refl _
  have e1 : c * a ≤ Int32.ofNat (c * a).toNatClampNeg := by rw [zofn' _ hca]; exact Int32.le_refl _
  unfold fn_X1_makeRoom at h
  by_cases d : c ≤ Int32.ofNat n1
  · rw [if_pos d] at h
    by_cases e : c * a ≤ Int32.ofNat n2
    · rw [if_pos e] at h
      rw [← Option.some.inj h]
      exact ⟨d, e⟩
    · rw [if_neg e] at h
      obtain ⟨-, h⟩ := za_s h
      rw [← Option.some.inj h]
      exact ⟨d, e1⟩
  · rw [if_neg d] at h
    obtain ⟨-, h⟩ := za_s h
    obtain ⟨-, h⟩ := za_s h
    obtain ⟨-, h⟩ := za_s h
    obtain ⟨-, h⟩ := za_s h
    by_cases e : c * a ≤ Int32.ofNat n2
    · rw [if_pos e] at h
      rw [← Option.some.inj h]
      exact ⟨e0, e⟩
    · rw [if_neg e] at h
      obtain ⟨-, h⟩ := za_s h
      rw [← Option.some.inj h]
      exact ⟨e0, e1⟩
noncomputable def zpw (f : Int32) : Nat → Int32
  | 0 => 1
  | n + 1 => zpw f n * f
theorem zpw_s {f g : Int32} (h0 : 0 ≤ g) (h1 : g ≤ 1200) : zpw f (g + 1).toNatClampNeg = zpw f g.toNatClampNeg * f := by
  rw [zNx h0 h1]
  rfl
noncomputable def zFA (cF cc cN gc gfr : Int32) (gof gfx stp mst prc al made amt op : Nat → Int32) (rlo rhi : Nat → Int64) (ans many b bp : Int32) (P : Nat → Int32) (nP : Nat) (E : Nat → Int32) (nE : Nat) : Prop := ∃ (q : Int32) (ok pr : Nat → Int32) (er : Nat → Nat → Int64), q = zpw cF gfr.toNatClampNeg ∧ zFS cF cc cN gc gof gfx stp mst prc al made amt op rlo rhi q ans ok pr er many b bp P E ∧ ans = zAn al cN.toNatClampNeg ∧ (0 ≤ q ∧ q ≤ 1024) ∧ q ≤ Int32.ofNat nP ∧ q * ans ≤ Int32.ofNat nE
set_option maxHeartbeats 8000000 in
theorem zSrch {cF cc cN gc gfr : Int32} {stp mst prc al made amt op gof gfx : Nat → Int32} {rlo rhi : Nat → Int64} {bp0 fa0 rs0 : Int32} {n5 n6 n7 n8 n9 : Nat} {P0 E0 f7 f8 f9 ch0 : Nat → Int32} {rr : Nat → Int64} {x : Int32 × Int32 × Int32 × Int32 × (Nat → Int32) × Nat × (Nat → Int32) × Nat × (Nat → Int32) × Nat × (Nat → Int32) × Nat × (Nat → Int32) × Nat × (Nat → Int32) × Int32 × Int32 × (Nat → Int64)} (hN : 0 ≤ cN ∧ cN ≤ 14) (hF : 0 ≤ cF ∧ cF ≤ 4) (hg : 0 ≤ gfr ∧ gfr ≤ 5) (h : fn_X1_searchAll 0 (-1) bp0 cF cc gc gfr cN al n5 P0 n6 E0 n8 f8 n9 f9 n7 f7 gfx ch0 fa0 rs0 gof stp op made rr amt rlo rhi mst prc = some x) : zFA cF cc cN gc gfr gof gfx stp mst prc al made amt op rlo rhi x.1 x.2.1 x.2.2.1 x.2.2.2.1 x.2.2.2.2.1 x.2.2.2.2.2.1 x.2.2.2.2.2.2.1 x.2.2.2.2.2.2.2.1 := by
  unfold fn_X1_searchAll at h
  refine zl_ip (P := fun x : Int32 × Int32 × Int32 × Int32 × (Nat → Int32) × Nat × (Nat → Int32) × Nat × (Nat → Int32) × Nat × (Nat → Int32) × Nat × (Nat → Int32) × Nat × (Nat → Int32) × Int32 × Int32 × (Nat → Int64) => zFA cF cc cN gc gfr gof gfx stp mst prc al made amt op rlo rhi x.1 x.2.1 x.2.2.1 x.2.2.2.1 x.2.2.2.2.1 x.2.2.2.2.2.1 x.2.2.2.2.2.2.1 x.2.2.2.2.2.2.2.1) (fun s => (0 ≤ s.2 ∧ s.2 ≤ gfr) ∧ s.1 = zpw cF s.2.toNatClampNeg ∧ zPow s.2 s.1) ?_ _ _ _ ?_ h
  rotate_left
  · exact ⟨⟨Int32.le_refl 0, hg.1⟩, by show (1 : Int32) = zpw cF (0 : Int32).toNatClampNeg; rw [zn01.1]; rfl, zPow_0⟩
  intro s back o ⟨H1, H2, H3⟩ hb ho
  obtain ⟨q, g⟩ := s
  dsimp only at H1 H2 H3 ho
  obtain ⟨j, ej, ho⟩ := zj_g ho
  have fin : g = gfr → j () = some o → zFA cF cc cN gc gfr gof gfx stp mst prc al made amt op rlo rhi o.1 o.2.1 o.2.2.1 o.2.2.2.1 o.2.2.2.2.1 o.2.2.2.2.2.1 o.2.2.2.2.2.2.1 o.2.2.2.2.2.2.2.1 := by
    intro eg hj
    have hj := zj_s ej hj
    clear ej ho hb
    obtain ⟨an, han, hj⟩ := zb_s hj
    obtain ⟨rm, hrm, hj⟩ := zb_s hj
    have ea : an = zAn al cN.toNatClampNeg := zCountA ⟨hN.1, Int32.le_refl _, hN.2⟩ han
    rw [eg] at H2
    obtain ⟨pr1, pr2, -, -⟩ := zPow_rng H3
    have ab : 0 ≤ an ∧ an ≤ 14 := by
      have := zct_b32 (b := fun k => decide (¬ al k = (-1))) hN.1 hN.2
      rw [ea]
      exact ⟨this.1, Int32.le_trans this.2 hN.2⟩
    have mq := zmul14 q an pr1 pr2 ab.1 ab.2
    have rm2 := zRoom pr1 mq.1 hrm
    refine zl_ip (P := fun x : Int32 × Int32 × Int32 × Int32 × (Nat → Int32) × Nat × (Nat → Int32) × Nat × (Nat → Int32) × Nat × (Nat → Int32) × Nat × (Nat → Int32) × Nat × (Nat → Int32) × Int32 × Int32 × (Nat → Int64) => zFA cF cc cN gc gfr gof gfx stp mst prc al made amt op rlo rhi x.1 x.2.1 x.2.2.1 x.2.2.2.1 x.2.2.2.2.1 x.2.2.2.2.2.1 x.2.2.2.2.2.2.1 x.2.2.2.2.2.2.2.1) (fun s => (0 ≤ s.1 ∧ s.1 ≤ q) ∧ ∃ (ok pr : Nat → Int32) (er : Nat → Nat → Int64), zFS cF cc cN gc gof gfx stp mst prc al made amt op rlo rhi s.1 an ok pr er s.2.1 s.2.2.1 s.2.2.2.1 s.2.2.2.2.2.2.1 s.2.2.2.2.2.2.2.1) ?_ _ _ _ ?_ hj
    rotate_left
    · exact ⟨⟨Int32.le_refl 0, pr1⟩, fun _ => 0, fun _ => 0, fun _ _ => 0, zFS_0⟩
    intro s back2 o2 ⟨K1, ok, pr, er, K2⟩ hb2 ho2
    obtain ⟨c, many, b, bp, fa, rs, P, E, ch, re⟩ := s
    dsimp only at K1 K2 ho2
    by_cases d : q ≤ c
    · rw [if_pos d] at ho2
      have ec : c = q := Int32.le_antisymm K1.2 d
      rw [ec] at K2
      rw [← Option.some.inj ho2]
      exact ⟨q, ok, pr, er, H2, K2, ea, ⟨pr1, pr2⟩, rm2.1, rm2.2⟩
    · rw [if_neg d] at ho2
      have cq : c < q := Int32.not_le.mp d
      have c1 : (0 ≤ c ∧ c ≤ 1023) ∧ c ≤ 1024 ∧ 0 ≤ c + 1 ∧ c + 1 ≤ q := by have := K1.1; clear K2 hb2 ho2; grind
      obtain ⟨row, hrow, ho2⟩ := zb_s ho2
      obtain ⟨rk, hrk, ho2⟩ := zb_s ho2
      obtain ⟨okc, fac, rsc, erc⟩ := rk
      dsimp only at ho2
      by_cases e : okc = 0
      · rw [if_pos e] at ho2
        rw [e] at hrk
        have t : zTry cF cc cN gc gof gfx stp mst prc al made amt op rlo rhi c 0 0 erc := ⟨_, _, _, _, _, hrow, hrk, fun z => absurd rfl z⟩
        refine hb2 _ _ ?_ ho2
        exact ⟨⟨c1.2.2.1, c1.2.2.2⟩, zUp ok c.toNatClampNeg 0, zUp pr c.toNatClampNeg 0, zUp er c.toNatClampNeg erc, zFS_no c1.1 K2 t⟩
      · rw [if_neg e] at ho2
        obtain ⟨price, hpr, ho2⟩ := zb_s ho2
        obtain ⟨kp, hkp, ho2⟩ := zb_s ho2
        have t : zTry cF cc cN gc gof gfx stp mst prc al made amt op rlo rhi c okc price erc := ⟨_, _, _, _, _, hrow, hrk, fun _ => hpr⟩
        have mb : 0 ≤ many ∧ many ≤ c := by rw [K2.2.1]; exact zct_bI (b := fun n => decide (¬ ok n = 0)) K1.1 c1.2.1
        have mq2 : many < q := Int32.lt_of_le_of_lt mb.2 cq
        have i0 := zidx0 mb.1 mq2 pr2 ab rm2.2
        obtain ⟨x1, x2, x3, x4, x5⟩ := zKeep hN ea (Int32.lt_of_lt_of_le mq2 rm2.1) ⟨i0.1, i0.2.1⟩ rfl i0.2.2 hkp
        refine hb2 _ _ ?_ ho2
        exact ⟨⟨c1.2.2.1, c1.2.2.2⟩, zUp ok c.toNatClampNeg okc, zUp pr c.toNatClampNeg price, zUp er c.toNatClampNeg erc, zFS_yes hN c1.1 ea K2 e t x1 x2 x3 x4 x5⟩
  by_cases c1 : gfr ≤ g
  · rw [if_pos c1] at ho
    exact fin (Int32.le_antisymm H1.2 c1) ho
  · rw [if_neg c1] at ho
    have g5 : ¬ 5 ≤ g ∧ 0 ≤ g + 1 ∧ g + 1 ≤ gfr ∧ g ≤ 1200 := by clear ej ho hb fin; grind
    rw [if_neg g5.1] at ho
    refine hb _ _ ?_ ho
    refine ⟨⟨g5.2.1, g5.2.2.1⟩, ?_, zPow_step H3 g5.1 hF.1 hF.2⟩
    show q * cF = zpw cF (g + 1).toNatClampNeg
    rw [zpw_s H1.1 g5.2.2.2, H2]
